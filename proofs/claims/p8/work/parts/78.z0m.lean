/-- a fact that omega need not see -/
def H3 (P : Prop) : Prop := P
theorem H3_i {P : Prop} (h : P) : H3 P := h
/-! the reference's bulk: a pile -/
theorem sumI_c {g h : Nat → Int32} : ∀ n : Nat, (∀ x, x < n → g x = h x) → sumI g n = sumI h n := by
  intro n
  induction n with
  | zero => intro _; rfl
  | succ n ih => intro e; show sumI g n + g n = sumI h n + h n; rw [ih (fun x hx => e x (by omega)), e n (by omega)]
theorem sumI_0 {g : Nat → Int32} : ∀ n : Nat, (∀ x, x < n → g x = 0) → sumI g n = 0 := by
  intro n
  induction n with
  | zero => intro _; rfl
  | succ n ih => intro e; show sumI g n + g n = 0; rw [ih (fun x hx => e x (by omega)), e n (by omega)]; rfl
/-- one of a sum's numbers, taken out -/
theorem sumI_1 {g h : Nat → Int32} {j : Nat} {w : Int32} : ∀ n : Nat, j < n → g j = w + h j → (∀ x, x < n → ¬ x = j → g x = h x) → sumI g n = w + sumI h n := by
  intro n
  induction n with
  | zero => intro a _ _; exact absurd a (Nat.not_lt_zero _)
  | succ n ih =>
    intro a e1 e2
    show sumI g n + g n = w + (sumI h n + h n)
    by_cases q : j = n
    · subst q
      rw [sumI_c (h := h) j (fun x hx => e2 x (by omega) (by omega)), e1, ← Int32.add_assoc, ← Int32.add_assoc, Int32.add_comm w]
    · rw [ih (by omega) e1 (fun x hx hn => e2 x (by omega) hn), e2 n (by omega) (by omega), Int32.add_assoc]
def chB (Z : Int → Int) (ls : Int → Int → Nat → Bool) (o : Int) (x : Nat) : Bool := if Z o = 3 then ls 0 o x else if Z o = 4 then ls 1 o x else false
def bsV (Z : Int → Int) (sz : Nat → Int32) (o : Nat) : Int32 := if Z (o : Int) = 5 then 2 * sz o else sz o
def remJ (Z : Int → Int) (ls : Int → Int → Nat → Bool) (W : Nat → Int32) (N : Nat) (o m : Int) : Int32 := sumI (fun x => if m ≤ (x : Int) ∧ chB Z ls o x = true then W x else 0) N
/-- where the ways up end, fuel enough is enough -/
theorem wtB_st {Z : Int → Int} {sz : Nat → Int32} {ls : Int → Int → Nat → Bool} {N : Nat} {rk : Int → Nat} (h29 : ∀ x, rk x ≤ 29) (hr : ∀ (g o : Int) (x : Nat), (g = 0 ∨ g = 1) → 0 ≤ o → x < N → ls g o x = true → rk o < rk (x : Int)) : ∀ (k j x : Nat), 30 ≤ k + rk (x : Int) → 30 ≤ j + rk (x : Int) → wtB Z sz ls N k x = wtB Z sz ls N j x := by
  intro k
  induction k with
  | zero => intro j x a _; have := h29 (x : Int); omega
  | succ k ih =>
    intro j x a b
    cases j with
    | zero => have := h29 (x : Int); omega
    | succ j =>
      have e : ∀ g : Int, (g = 0 ∨ g = 1) → sumI (fun y => if ls g (x : Int) y = true then wtB Z sz ls N k y else 0) N = sumI (fun y => if ls g (x : Int) y = true then wtB Z sz ls N j y else 0) N := fun g hg => sumI_c N (fun y hy => by
        by_cases q : ls g (x : Int) y = true
        · rw [if_pos q, if_pos q]
          have := hr g (x : Int) y hg (by omega) hy q
          exact ih j y (by omega) (by omega)
        · rw [if_neg q, if_neg q])
      show (if _ then _ else _) = (if _ then _ else _)
      rw [e 0 (by omega), e 1 (by omega)]
theorem wtB_w {Z : Int → Int} {sz : Nat → Int32} {ls : Int → Int → Nat → Bool} {N : Nat} {rk : Int → Nat} (h29 : ∀ x, rk x ≤ 29) (hr : ∀ (g o : Int) (x : Nat), (g = 0 ∨ g = 1) → 0 ≤ o → x < N → ls g o x = true → rk o < rk (x : Int)) {o : Nat} (hd : ¬ Z (o : Int) = 2) : wtB Z sz ls N 31 o = bsV Z sz o + remJ Z ls (wtB Z sz ls N 31) N (o : Int) 0 := by
  have e : ∀ g : Int, (g = 0 ∨ g = 1) → sumI (fun y => if ls g (o : Int) y = true then wtB Z sz ls N 30 y else 0) N = sumI (fun y => if ls g (o : Int) y = true then wtB Z sz ls N 31 y else 0) N := fun g hg => sumI_c N (fun y hy => by
    by_cases q : ls g (o : Int) y = true
    · rw [if_pos q, if_pos q]
      have := hr g (o : Int) y hg (by omega) hy q
      exact wtB_st h29 hr 30 31 y (by omega) (by omega)
    · rw [if_neg q, if_neg q])
  have z0 : ∀ x : Nat, (0 : Int) ≤ (x : Int) := fun x => by omega
  unfold remJ bsV chB
  by_cases q3 : Z (o : Int) = 3
  · rw [show wtB Z sz ls N 31 o = sz o + sumI (fun y => if ls 0 (o : Int) y = true then wtB Z sz ls N 30 y else 0) N from if_pos q3, e 0 (by omega), if_neg (by omega)]
    rw [sumI_c (g := fun x => if (0 : Int) ≤ (x : Int) ∧ (if Z (o : Int) = 3 then ls 0 (o : Int) x else if Z (o : Int) = 4 then ls 1 (o : Int) x else false) = true then wtB Z sz ls N 31 x else 0) (h := fun y => if ls 0 (o : Int) y = true then wtB Z sz ls N 31 y else 0) N (fun x _ => by
      by_cases q : ls 0 (o : Int) x = true
      · rw [if_pos ⟨z0 x, by rw [if_pos q3]; exact q⟩, if_pos q]
      · rw [if_neg (fun w => q (by have := w.2; rw [if_pos q3] at this; exact this)), if_neg q])]
  · by_cases q4 : Z (o : Int) = 4
    · rw [show wtB Z sz ls N 31 o = sz o + sumI (fun y => if ls 1 (o : Int) y = true then wtB Z sz ls N 30 y else 0) N from by show (if _ then _ else _) = _; rw [if_neg q3, if_pos q4], e 1 (by omega), if_neg (by omega)]
      rw [sumI_c (g := fun x => if (0 : Int) ≤ (x : Int) ∧ (if Z (o : Int) = 3 then ls 0 (o : Int) x else if Z (o : Int) = 4 then ls 1 (o : Int) x else false) = true then wtB Z sz ls N 31 x else 0) (h := fun y => if ls 1 (o : Int) y = true then wtB Z sz ls N 31 y else 0) N (fun x _ => by
        by_cases q : ls 1 (o : Int) x = true
        · rw [if_pos ⟨z0 x, by rw [if_neg q3, if_pos q4]; exact q⟩, if_pos q]
        · rw [if_neg (fun w => q (by have := w.2; rw [if_neg q3, if_pos q4] at this; exact this)), if_neg q])]
    · rw [sumI_0 N (fun x _ => by rw [if_neg (fun w => by have := w.2; rw [if_neg q3, if_neg q4] at this; cases this)]), Int32.add_zero]
      show (if _ then _ else _) = _
      rw [if_neg q3, if_neg q4, if_neg hd]
/-- the pile -/
def sRem (Z : Int → Int) (ls : Int → Int → Nat → Bool) (W : Nat → Int32) (N : Nat) (pi nx : Nat → Int32) (d : Int) : Int32 := sumI (fun j => remJ Z ls W N (pi j).toInt (nx j).toInt) (d + 1).toNat
theorem remJ_n {Z : Int → Int} {ls : Int → Int → Nat → Bool} {W : Nat → Int32} {N : Nat} {o : Int} {x y : Int32} (h0 : 0 ≤ x.toInt) (hy : y.toInt = x.toInt + 1) (hc : ¬ chB Z ls o x.toInt.toNat = true) : remJ Z ls W N o x.toInt = remJ Z ls W N o y.toInt := by
  unfold remJ
  refine sumI_c N (fun z _ => ?_)
  by_cases q : z = x.toInt.toNat
  · rw [q, if_neg (fun w => hc w.2), if_neg (fun w => hc w.2)]
  · by_cases p : x.toInt ≤ (z : Int) ∧ chB Z ls o z = true
    · rw [if_pos p, if_pos ⟨by omega, p.2⟩]
    · rw [if_neg p, if_neg (fun w => p ⟨by omega, w.2⟩)]
theorem remJ_y {Z : Int → Int} {ls : Int → Int → Nat → Bool} {W : Nat → Int32} {N : Nat} {o : Int} {x y : Int32} (h0 : 0 ≤ x.toInt) (hN : x.toInt.toNat < N) (hy : y.toInt = x.toInt + 1) (hc : chB Z ls o x.toInt.toNat = true) : remJ Z ls W N o x.toInt = W x.toInt.toNat + remJ Z ls W N o y.toInt := by
  unfold remJ
  refine sumI_1 (j := x.toInt.toNat) N hN ?_ (fun z _ hz => ?_)
  · rw [if_pos ⟨by omega, hc⟩, if_neg (fun w => by have := w.1; omega), Int32.add_zero]
  · by_cases p : x.toInt ≤ (z : Int) ∧ chB Z ls o z = true
    · rw [if_pos p, if_pos ⟨by omega, p.2⟩]
    · rw [if_neg p, if_neg (fun w => p ⟨by omega, w.2⟩)]
theorem remJ_e {Z : Int → Int} {ls : Int → Int → Nat → Bool} {W : Nat → Int32} {N : Nat} {o m : Int} (h : (N : Int) ≤ m) : remJ Z ls W N o m = 0 := sumI_0 N (fun x hx => if_neg (fun w => by have := w.1; omega))
theorem sRem_0 {Z : Int → Int} {ls : Int → Int → Nat → Bool} {W : Nat → Int32} {N : Nat} {pi nx : Nat → Int32} {d : Int32} {o : Int} (hd : d.toInt = 0) (hp : (pi 0).toInt = o) (hn : (nx 0).toInt = 0) : sRem Z ls W N pi nx d.toInt = remJ Z ls W N o 0 := by
  unfold sRem
  rw [hd]
  show (0 : Int32) + remJ Z ls W N (pi 0).toInt (nx 0).toInt = _
  rw [hp, hn, Int32.zero_add]
theorem sRem_s {Z : Int → Int} {ls : Int → Int → Nat → Bool} {W : Nat → Int32} {N : Nat} {pi nx : Nat → Int32} {d e : Int} (h0 : 0 ≤ d) (he : e = d - 1) : sRem Z ls W N pi nx d = sRem Z ls W N pi nx e + remJ Z ls W N (pi d.toNat).toInt (nx d.toNat).toInt := by
  unfold sRem
  rw [show (d + 1).toNat = d.toNat + 1 by omega, show (e + 1).toNat = d.toNat by omega]
  rfl
theorem sRem_u {Z : Int → Int} {ls : Int → Int → Nat → Bool} {W : Nat → Int32} {N : Nat} {pi nx pi2 nx2 : Nat → Int32} {e : Int} (h : ∀ j : Nat, (j : Int) ≤ e → pi2 j = pi j ∧ nx2 j = nx j) : sRem Z ls W N pi2 nx2 e = sRem Z ls W N pi nx e := by
  unfold sRem
  exact sumI_c _ (fun j hj => by rw [(h j (by omega)).1, (h j (by omega)).2])
/-- one deeper -/
theorem Bk_in {Z : Int → Int} {ls : Int → Int → Nat → Bool} {W : Nat → Int32} {N : Nat} {pi nx : Nat → Int32} {d d2 x y s s2 b T zr : Int32} (h : s + sRem Z ls W N pi nx d.toInt = T) (h0 : 0 ≤ d.toInt) (hd : d2.toInt = d.toInt + 1) (hz : zr.toInt = 0) (hx0 : 0 ≤ x.toInt) (hN : x.toInt.toNat < N) (hy : y.toInt = x.toInt + 1) (he : remJ Z ls W N (pi d.toNatClampNeg).toInt (nx d.toNatClampNeg).toInt = remJ Z ls W N (pi d.toNatClampNeg).toInt x.toInt) (hc : chB Z ls (pi d.toNatClampNeg).toInt x.toInt.toNat = true) (hw : W x.toInt.toNat = b + remJ Z ls W N x.toInt 0) (hs : s2 = s + b) : s2 + sRem Z ls W N (upd pi d2.toNatClampNeg x) (upd (upd nx d.toNatClampNeg y) d2.toNatClampNeg zr) d2.toInt = T := by
  have q1 : d.toNatClampNeg = d.toInt.toNat := rfl
  have q2 : d2.toNatClampNeg = d2.toInt.toNat := rfl
  rw [sRem_s (d := d2.toInt) (e := d.toInt) (by omega) (by omega), sRem_s (d := d.toInt) (e := d.toInt - 1) h0 rfl, sRem_u (pi := pi) (nx := nx) (e := d.toInt - 1) (fun j hj => ⟨pk_un (by omega), by rw [pk_un (by omega), pk_un (by omega)]⟩)]
  rw [← q2, pk_us, pk_us, hz, ← q1, pk_un (show ¬ d.toNatClampNeg = d2.toNatClampNeg by omega), pk_un (show ¬ d.toNatClampNeg = d2.toNatClampNeg by omega), pk_us, hs]
  rw [sRem_s (d := d.toInt) (e := d.toInt - 1) h0 rfl, ← q1, he, remJ_y hx0 hN hy hc, hw] at h
  rw [← h]
  generalize sRem Z ls W N pi nx (d.toInt - 1) = A
  generalize remJ Z ls W N (pi d.toNatClampNeg).toInt y.toInt = B
  generalize remJ Z ls W N x.toInt 0 = C
  ac_rfl
/-- one up -/
theorem Bk_out {Z : Int → Int} {ls : Int → Int → Nat → Bool} {W : Nat → Int32} {N : Nat} {pi nx : Nat → Int32} {d d2 x y s T : Int32} (h : s + sRem Z ls W N pi nx d.toInt = T) (h0 : 0 ≤ d.toInt) (hd : d2.toInt = d.toInt - 1) (hN : (N : Int) ≤ x.toInt) (he : remJ Z ls W N (pi d.toNatClampNeg).toInt (nx d.toNatClampNeg).toInt = remJ Z ls W N (pi d.toNatClampNeg).toInt x.toInt) : s + sRem Z ls W N pi (upd nx d.toNatClampNeg y) d2.toInt = T := by
  have q1 : d.toNatClampNeg = d.toInt.toNat := rfl
  rw [sRem_u (pi := pi) (nx := nx) (e := d2.toInt) (fun j hj => ⟨rfl, pk_un (by omega)⟩)]
  rw [sRem_s (d := d.toInt) (e := d2.toInt) h0 (by omega), ← q1, he, remJ_e hN, Int32.add_zero] at h
  exact h
theorem Bk_end {Z : Int → Int} {ls : Int → Int → Nat → Bool} {W : Nat → Int32} {N : Nat} {pi nx : Nat → Int32} {d s T : Int32} (h : s + sRem Z ls W N pi nx d.toInt = T) (hd : d.toInt < 0) : s = T := by
  have e : sRem Z ls W N pi nx d.toInt = 0 := by unfold sRem; rw [show (d.toInt + 1).toNat = 0 by omega]; rfl
  rw [e, Int32.add_zero] at h
  exact h
/-! the reference's tale, by the same words -/
noncomputable def zM (pa ko : Nat → Int32) (N x : Int) : Int := if 0 ≤ x ∧ x < N then kS pa ko x else -9
theorem zM_i {pa ko : Nat → Int32} {N x : Int} (h : 0 ≤ x ∧ x < N) : zM pa ko N x = kS pa ko x := if_pos h
def fMn (N : Int) (F : Nat → Int32) (x : Int) : Int := if 0 ≤ x ∧ x < N then (F x.toNat).toInt else -9
theorem fMn_i {N : Int} {F : Nat → Int32} {x : Int} (h : 0 ≤ x ∧ x < N) : fMn N F x = (F x.toNat).toInt := if_pos h
def bM (a : Nat → Int32) (x : Int) : Prop := (a x.toNat).toInt = 1
/-- the rows of kinds say what the kinds are -/
def CcE (pa ko bx rm dr : Nat → Int32) (N : Int) : Prop := ∀ x : Int, 0 ≤ x → x < N → ((bx x.toNat).toInt = 1 ↔ zM pa ko N x = 3) ∧ ((rm x.toNat).toInt = 1 ↔ zM pa ko N x = 0) ∧ ((dr x.toNat).toInt = 1 ↔ zM pa ko N x = 2)
theorem ShM_0 {f : Int → Int} {st : Int → Prop} {rk : Int → Nat} {y o : Int} (h29 : rk o ≤ 29) (e : y = o) : ∃ k : Nat, rk o < k ∧ ShB f st 30 y = ShB f st k o := ⟨30, by omega, by rw [e]⟩
theorem ShM_s {f : Int → Int} {st : Int → Prop} {rk : Int → Nat} {v o o2 : Int} (h : ∃ k : Nat, rk o < k ∧ v = ShB f st k o) (h9 : ¬ o = -9) (hs : ¬ st o) (hf : f o = o2) (hr : rk o2 < rk o) : ∃ k : Nat, rk o2 < k ∧ v = ShB f st k o2 := by
  obtain ⟨k, a, b⟩ := h
  cases k with
  | zero => omega
  | succ k => exact ⟨k, by omega, by rw [b, ShB_n h9 hs, hf]⟩
theorem ShM_r {f : Int → Int} {st : Int → Prop} {rk : Int → Nat} {v o : Int} (h : ∃ k : Nat, rk o < k ∧ v = ShB f st k o) (h9 : ¬ o = -9) (hs : st o) : o = v := by
  obtain ⟨k, a, b⟩ := h
  cases k with
  | zero => omega
  | succ k => rw [b, ShB_y h9 hs]
theorem InM_0 {f : Int → Int} {cv : Int → Prop} {rk : Int → Nat} {s o : Int} (h29 : rk o ≤ 29) : ∃ k : Nat, rk o ≤ k ∧ (InB 30 f cv s (f o) ↔ InB k f cv s (f o)) := ⟨30, by omega, Iff.rfl⟩
theorem InM_s {P : Prop} {f : Int → Int} {cv : Int → Prop} {rk : Int → Nat} {s o o2 : Int} (h : ∃ k : Nat, rk o ≤ k ∧ (P ↔ InB k f cv s (f o))) (hf : f o = o2) (hr : rk o2 < rk o) (hn : ¬ o2 = s) (hc : ¬ cv o2) : ∃ k : Nat, rk o2 ≤ k ∧ (P ↔ InB k f cv s (f o2)) := by
  obtain ⟨k, a, b⟩ := h
  cases k with
  | zero => omega
  | succ k => exact ⟨k, by omega, b.trans (by rw [hf, InB_n hn hc])⟩
theorem InM_y {P : Prop} {f : Int → Int} {cv : Int → Prop} {rk : Int → Nat} {s o o2 : Int} (h : ∃ k : Nat, rk o ≤ k ∧ (P ↔ InB k f cv s (f o))) (hf : f o = o2) (hr : rk o2 < rk o) (e : o2 = s) : P := by
  obtain ⟨k, a, b⟩ := h
  cases k with
  | zero => omega
  | succ k => exact b.mpr (by rw [hf]; exact InB_h e)
theorem InM_c {P : Prop} {f : Int → Int} {cv : Int → Prop} {rk : Int → Nat} {s o o2 : Int} (h : ∃ k : Nat, rk o ≤ k ∧ (P ↔ InB k f cv s (f o))) (hf : f o = o2) (hn : ¬ o2 = s) (hc : cv o2) : ¬ P := by
  obtain ⟨k, a, b⟩ := h
  intro p
  have q := b.mp p
  rw [hf] at q
  exact InB_c hn hc q
theorem InM_9 {P : Prop} {f : Int → Int} {cv : Int → Prop} {rk : Int → Nat} {s o : Int} (h : ∃ k : Nat, rk o ≤ k ∧ (P ↔ InB k f cv s (f o))) (hf : f o = -9) (h9 : f (-9) = -9) (hs : ¬ s = -9) : ¬ P := by
  obtain ⟨k, a, b⟩ := h
  intro p
  have q := b.mp p
  rw [hf] at q
  exact InB_9 h9 hs q
theorem ChM_0 {f : Int → Int} {rk : Int → Nat} {t o : Int} (h29 : rk o ≤ 29) : ∃ k : Nat, rk o ≤ k ∧ (ChB 30 f (f o) t ↔ ChB k f (f o) t) := ⟨30, by omega, Iff.rfl⟩
theorem ChM_s {P : Prop} {f : Int → Int} {rk : Int → Nat} {t o o2 : Int} (h : ∃ k : Nat, rk o ≤ k ∧ (P ↔ ChB k f (f o) t)) (hf : f o = o2) (hr : rk o2 < rk o) (hn : ¬ o2 = t) : ∃ k : Nat, rk o2 ≤ k ∧ (P ↔ ChB k f (f o2) t) := by
  obtain ⟨k, a, b⟩ := h
  cases k with
  | zero => omega
  | succ k => exact ⟨k, by omega, b.trans (by rw [hf, ChB_n hn])⟩
theorem ChM_y {P : Prop} {f : Int → Int} {rk : Int → Nat} {t o o2 : Int} (h : ∃ k : Nat, rk o ≤ k ∧ (P ↔ ChB k f (f o) t)) (hf : f o = o2) (hr : rk o2 < rk o) (e : o2 = t) : P := by
  obtain ⟨k, a, b⟩ := h
  cases k with
  | zero => omega
  | succ k => exact b.mpr (by rw [hf]; exact ChB_h e)
theorem ChM_9 {P : Prop} {f : Int → Int} {rk : Int → Nat} {t o : Int} (h : ∃ k : Nat, rk o ≤ k ∧ (P ↔ ChB k f (f o) t)) (hf : f o = -9) (h9 : f (-9) = -9) (ht : ¬ t = -9) : ¬ P := by
  obtain ⟨k, a, b⟩ := h
  intro p
  have q := b.mp p
  rw [hf] at q
  exact ChB_9 h9 ht q
/-- another person: the same -/
theorem AnM_0 {Z f : Int → Int} {rk : Int → Nat} {p o : Int} (h29 : rk o ≤ 29) : ∃ k : Nat, rk o ≤ k ∧ (AnB Z f p 30 (f o) ↔ AnB Z f p k (f o)) := ⟨30, by omega, Iff.rfl⟩
theorem AnM_s {P : Prop} {Z f : Int → Int} {rk : Int → Nat} {p o o2 : Int} (h : ∃ k : Nat, rk o ≤ k ∧ (P ↔ AnB Z f p k (f o))) (hf : f o = o2) (hr : rk o2 < rk o) (h9 : ¬ o2 = -9) (hn : ¬ (¬ o2 = p ∧ Z o2 = 5)) : ∃ k : Nat, rk o2 ≤ k ∧ (P ↔ AnB Z f p k (f o2)) := by
  obtain ⟨k, a, b⟩ := h
  cases k with
  | zero => omega
  | succ k => exact ⟨k, by omega, b.trans (by rw [hf, AnB_n h9 hn])⟩
theorem AnM_y {P : Prop} {Z f : Int → Int} {rk : Int → Nat} {p o o2 : Int} (h : ∃ k : Nat, rk o ≤ k ∧ (P ↔ AnB Z f p k (f o))) (hf : f o = o2) (hr : rk o2 < rk o) (h9 : ¬ o2 = -9) (hn : ¬ o2 = p ∧ Z o2 = 5) : P := by
  obtain ⟨k, a, b⟩ := h
  cases k with
  | zero => omega
  | succ k => exact b.mpr (by rw [hf]; exact ⟨0, by omega, hn.1, hn.2, fun j hj => by rw [show j = 0 by omega]; exact h9⟩)
theorem AnM_9 {P : Prop} {Z f : Int → Int} {rk : Int → Nat} {p o : Int} (h : ∃ k : Nat, rk o ≤ k ∧ (P ↔ AnB Z f p k (f o))) (hf : f o = -9) : ¬ P := by
  obtain ⟨k, a, b⟩ := h
  intro q
  obtain ⟨m, _, _, _, h4⟩ := b.mp q
  exact h4 0 (by omega) hf
/-- rooms are in no view -/
theorem V1_rm {Z f : Int → Int} {op gl : Int → Prop} {sd : Int → Int → Prop} {l : Prop} {p o : Int} (hz : Z o = 0) (hp : ¬ Z p = 0) (hf : f o = -9) (h9 : f (-9) = -9) : ¬ V1 Z f op gl sd l p o := by
  intro h
  rcases h with h | h
  · rw [h] at hz; exact hp hz
  · rcases h.2 with q | q | q
    · rw [q.1] at hz; have := q.2; omega
    · have := q.2.1; omega
    · rw [hf] at q; exact InB_9 h9 h.1 q.2.2
theorem BrM_m {Z f : Int → Int} {op gl lt : Int → Prop} {sd : Int → Int → Prop} {p m N : Int} (h : BrM Z f op gl lt sd p m) (hl : m ≤ N) : BrM Z f op gl lt sd p N := by
  rcases h with h | ⟨o, o1, o2, o3⟩
  · exact Or.inl h
  · exact Or.inr ⟨o, o1, by omega, o3⟩
def sdP (F A B S : Nat → Int32) (o r : Int) (s : Nat) : Prop := (S s).toInt = 1 ∧ (F s).toInt = 5 ∧ (B s).toInt = o ∧ (A s).toInt = r
def sdM (Z : Int → Int) (F A B S : Nat → Int32) (n s o : Int) : Prop := Z s = 0 ∧ ∃ t : Nat, (t : Int) < n ∧ sdP F A B S o s t
/-! the rows of kinds and flags -/
theorem SgM_1 {F A B C S : Nat → Int32} {n o f v r : Int} (h : SgM F A B C S n o f v r) : r = 1 ↔ SgM F A B C S n o f v 1 := by
  constructor
  · intro e; rw [e] at h; exact h
  · intro e
    unfold SgM at h e
    omega
def LkK (pa ko : Nat → Int32) (N : Int) (lt gl bx rm dr : Nat → Int32) (Q2 Q5 : Int → Prop) (m : Int) : Prop := ∀ x : Int, 0 ≤ x → x < m → ((lt x.toNat).toInt = 1 ↔ Q2 x) ∧ ((gl x.toNat).toInt = 1 ↔ (zM pa ko N x = 3 ∧ Q5 x)) ∧ ((bx x.toNat).toInt = 1 ↔ zM pa ko N x = 3) ∧ ((rm x.toNat).toInt = 1 ↔ zM pa ko N x = 0) ∧ ((dr x.toNat).toInt = 1 ↔ zM pa ko N x = 2)
theorem LkK_0 {pa ko lt gl bx rm dr : Nat → Int32} {N : Int} {Q2 Q5 : Int → Prop} {x : Int32} (h : x.toInt = 0) : LkK pa ko N lt gl bx rm dr Q2 Q5 x.toInt := fun y a b => by omega
theorem sm_b {z : Int32} {P : Prop} (h : Sm z P) : z.toInt = 1 ↔ P := by
  rcases h with h | h
  · exact ⟨fun _ => h.2, fun _ => h.1⟩
  · exact ⟨fun q => by omega, fun q => absurd q h.2⟩
theorem LkK_s {pa ko lt gl bx rm dr : Nat → Int32} {N : Int} {Q2 Q5 : Int → Prop} {x y z2 z5 rb rr rd : Int32} (h : LkK pa ko N lt gl bx rm dr Q2 Q5 x.toInt) (h0 : 0 ≤ x.toInt) (hy : y.toInt = x.toInt + 1) (h2 : Sm z2 (Q2 x.toInt)) (h5 : Sm z5 (zM pa ko N x.toInt = 3 ∧ Q5 x.toInt)) (hbt : rb.toInt = 1 ↔ zM pa ko N x.toInt = 3) (hr : rr.toInt = 1 ↔ zM pa ko N x.toInt = 0) (hd : rd.toInt = 1 ↔ zM pa ko N x.toInt = 2) : LkK pa ko N (upd lt x.toNatClampNeg z2) (upd gl x.toNatClampNeg z5) (upd bx x.toNatClampNeg rb) (upd rm x.toNatClampNeg rr) (upd dr x.toNatClampNeg rd) Q2 Q5 y.toInt := by
  intro w a b
  have q : x.toNatClampNeg = x.toInt.toNat := rfl
  by_cases e : w = x.toInt
  · rw [e, ← q, pk_us, pk_us, pk_us, pk_us, pk_us]
    exact ⟨sm_b h2, sm_b h5, hbt, hr, hd⟩
  · rw [pk_un (by omega), pk_un (by omega), pk_un (by omega), pk_un (by omega), pk_un (by omega)]
    exact h w a (by omega)
theorem LkK_m {pa ko lt gl bx rm dr : Nat → Int32} {N m M : Int} {Q2 Q5 : Int → Prop} (h : LkK pa ko N lt gl bx rm dr Q2 Q5 m) (h1 : m ≤ M) (h2 : M ≤ m) : LkK pa ko N lt gl bx rm dr Q2 Q5 M := by rw [show M = m by omega]; exact h
theorem CcE_of {pa ko lt gl bx rm dr : Nat → Int32} {N : Int} {Q2 Q5 : Int → Prop} (h : LkK pa ko N lt gl bx rm dr Q2 Q5 N) : CcE pa ko bx rm dr N := fun x a b => ⟨(h x a b).2.2.1, (h x a b).2.2.2.1, (h x a b).2.2.2.2⟩
theorem Cc_of {i : Nat → Int32} {c : Nat → Nat → Int32} {lt gl bx rm dr : Nat → Int32} {N : Int} {Q2 Q5 : Int → Prop} (hI : mInv i c) (h : LkK (c 3) (c 6) N lt gl bx rm dr Q2 Q5 N) : Cc (c 3) (c 6) bx rm dr N := by
  intro x a b
  obtain ⟨_, _, h3, h0, h2⟩ := h x a b
  rw [zM_i ⟨a, b⟩] at h3 h0 h2
  refine ⟨fun e k => ?_, fun e => (kS_k hI (by omega) (by omega)).mpr (h3.mp e), fun e => (kS_k hI (by omega) (by omega)).mpr (h2.mp e)⟩
  have w := h0.mpr ((kS_k hI (by omega) (by omega)).mp k)
  omega
/-! looking around -/
theorem sm_or0 {z b : Int32} {P : Prop} (h : Sm z P) (hbt : b.toInt = 0) : Sm z (b.toInt = 1 ∨ P) := by
  rcases h with h | h
  · exact Or.inl ⟨h.1, Or.inr h.2⟩
  · exact Or.inr ⟨h.1, fun q => q.elim (fun e => by omega) h.2⟩
theorem BrM_x {Z f : Int → Int} {op gl lt : Int → Prop} {sd : Int → Int → Prop} {p y N : Int} {b : Int32} (h : Sm b (BrM Z f op gl lt sd p y)) (hy : y ≤ N) (hx : N ≤ y ∨ b.toInt = 1) : Sm b (BrM Z f op gl lt sd p N) := by
  rcases h with h | h
  · exact Or.inl ⟨h.1, BrM_m h.2 hy⟩
  · have e : y = N := by omega
    rw [e] at h
    exact Or.inr h
def LkC (S R : Int → Prop) (sn rc : Nat → Int32) (m : Int) : Prop := ∀ o : Nat, (o : Int) < m → Sm (sn o) (S o) ∧ Sm (rc o) (R o)
theorem LkC_0 {S R : Int → Prop} {sn rc : Nat → Int32} {x : Int32} (h : x.toInt = 0) : LkC S R sn rc x.toInt := fun o ho => by omega
theorem LkC_s {S R : Int → Prop} {sn rc : Nat → Int32} {x y z w : Int32} (h : LkC S R sn rc x.toInt) (h0 : 0 ≤ x.toInt) (hy : y.toInt = x.toInt + 1) (hz : Sm z (S x.toInt)) (hw : Sm w (R x.toInt)) : LkC S R (upd sn x.toNatClampNeg z) (upd rc x.toNatClampNeg w) y.toInt := by
  intro o ho
  have q : x.toNatClampNeg = x.toInt.toNat := rfl
  by_cases e : o = x.toNatClampNeg
  · rw [e, pk_us, pk_us, cl_nn h0]
    exact ⟨hz, hw⟩
  · rw [pk_un e, pk_un e]
    exact h o (by omega)
theorem Own_m {N : Int} {F A : Nat → Int32} {o p : Int} (ho : 0 ≤ o ∧ o < N) (hp : 0 ≤ p) : Own (nF N F A) (fMn N F) p o ↔ ((A o.toNat).toInt = p ∧ ((F o.toNat).toInt = 2 ∨ (F o.toNat).toInt = 3)) := by
  unfold Own
  rw [fMn_i ho]
  unfold nF
  by_cases q : (F o.toNat).toInt = -9
  · rw [if_neg (fun w => w.2.2 q)]
    omega
  · rw [if_pos ⟨ho.1, ho.2, q⟩]
theorem nF_rm {i : Nat → Int32} {c : Nat → Nat → Int32} {N : Int} {F A : Nat → Int32} {x : Int} (h3 : ∀ x : Int, 0 ≤ x → x < N → Kd (c 3) (c 6) x 0 → (F x.toNat).toInt = -9) (h0 : 0 ≤ x) (h1 : x < N) (hz : zM (c 3) (c 6) N x = 0) (hI : mInv i c) : nF N F A x = -9 := by
  rw [zM_i ⟨h0, h1⟩] at hz
  have q := h3 x h0 h1 ((kS_k hI (by omega) (by omega)).mpr hz)
  unfold nF
  rw [if_neg (fun w => w.2.2 q)]
theorem Hd_m {N : Int} {F A : Nat → Int32} {o p : Int} (ho : 0 ≤ o ∧ o < N) (hp : 0 ≤ p) : Hd (nF N F A) (fMn N F) p o ↔ ((A o.toNat).toInt = p ∧ (F o.toNat).toInt = 2) := by
  unfold Hd
  rw [fMn_i ho]
  unfold nF
  by_cases q : (F o.toNat).toInt = -9
  · rw [if_neg (fun w => w.2.2 q)]
    omega
  · rw [if_pos ⟨ho.1, ho.2, q⟩]
def lsM (F A : Nat → Int32) (f h : Int) (x : Nat) : Bool := decide ((F x).toInt = f ∧ (A x).toInt = h)
theorem lsM_y {F A : Nat → Int32} {f h : Int} {x : Nat} (e : (F x).toInt = f ∧ (A x).toInt = h) : lsM F A f h x = true := decide_eq_true (p := ((F x).toInt = f ∧ (A x).toInt = h)) e
theorem lsM_e {F A : Nat → Int32} {f h : Int} {x : Nat} (e : lsM F A f h x = true) : (F x).toInt = f ∧ (A x).toInt = h := of_decide_eq_true (p := ((F x).toInt = f ∧ (A x).toInt = h)) e
theorem cn_z {P : Nat → Bool} {x y k k2 z : Int32} (h : k.toInt = ((cnt P x.toInt.toNat : Nat) : Int)) (h0 : 0 ≤ x.toInt) (hz : Sm z (P x.toInt.toNat = true)) (hk : k2.toInt = k.toInt + z.toInt) (hy : y.toInt = x.toInt + 1) : k2.toInt = ((cnt P y.toInt.toNat : Nat) : Int) := by
  rcases hz with hz | hz
  · exact cn_y h h0 hz.2 (by omega) hy
  · have e : k2 = k := Int32.toInt_inj.mp (by omega)
    rw [e]
    exact cn_n h h0 hz.2 hy
theorem FeM_x (pa ko F A B C S : Nat → Int32) (n r d : Int) : ∃ ld dr bw im : Int, FeM pa ko F A B C S n r d ld dr bw im := by
  by_cases h1 : lsF (bP F A C S r d) n.toNat = -9
  · by_cases h2 : fsF (qP F B C S r (opp d)) n.toNat = -9
    · exact ⟨-9, -9, -9, 0, Or.inr ⟨h1, rfl, Or.inr ⟨h2, rfl, rfl, rfl⟩⟩⟩
    · exact ⟨_, -9, _, 1, Or.inr ⟨h1, rfl, Or.inl ⟨h2, rfl, rfl, rfl⟩⟩⟩
  · by_cases h3 : kS pa ko (B (lsF (bP F A C S r d) n.toNat).toNat).toInt = 2
    · exact ⟨_, _, _, 0, Or.inl ⟨h1, rfl, rfl, Or.inl ⟨h3, rfl, rfl⟩⟩⟩
    · exact ⟨_, -9, _, 0, Or.inl ⟨h1, rfl, rfl, Or.inr ⟨h3, rfl, rfl⟩⟩⟩
noncomputable def kyM (F A B S : Nat → Int32) (n x : Int) : Int := if fsF (KB F B S x) n.toNat = -9 then -9 else (A (fsF (KB F B S x) n.toNat).toNat).toInt
/-! what lies in what, in a tale or not -/
noncomputable def lsG (fo le mi sa F A : Nat → Int32) (n p f h : Int) (x : Nat) : Bool := decide (gM fo le sa F n p (x : Int) = f ∧ gA fo le mi sa A n p (x : Int) = h)
theorem lsG_y {fo le mi sa F A : Nat → Int32} {n p f h : Int} {x : Nat} (e : gM fo le sa F n p (x : Int) = f ∧ gA fo le mi sa A n p (x : Int) = h) : lsG fo le mi sa F A n p f h x = true := decide_eq_true (p := (gM fo le sa F n p (x : Int) = f ∧ gA fo le mi sa A n p (x : Int) = h)) e
theorem lsG_e {fo le mi sa F A : Nat → Int32} {n p f h : Int} {x : Nat} (e : lsG fo le mi sa F A n p f h x = true) : gM fo le sa F n p (x : Int) = f ∧ gA fo le mi sa A n p (x : Int) = h := of_decide_eq_true (p := (gM fo le sa F n p (x : Int) = f ∧ gA fo le mi sa A n p (x : Int) = h)) e
theorem lsG_rk {fo le mi sa F A : Nat → Int32} {n N p g o : Int} {x : Nat} {rk : Int → Nat} (hrk : Rk (gF fo le mi sa F A n N p) rk) (hN : N ≤ 30) (hg : g = 0 ∨ g = 1) (ho : 0 ≤ o) (hx : (x : Int) < N) (h : lsG fo le mi sa F A n p g o x = true) : rk o < rk (x : Int) := by
  obtain ⟨a, b⟩ := lsG_e h
  have q := gF_of (fo := fo) (le := le) (mi := mi) (sa := sa) (F := F) (A := A) (n := n) (N := N) (p := p) (x := (x : Int)) (by omega) (by omega)
  rw [b] at q
  have w := hrk.2 (x : Int) (by omega) (by omega) (by rw [q]; omega)
  rw [q] at w
  exact w
theorem wtB_v {Z : Int → Int} {sz : Nat → Int32} {ls : Int → Int → Nat → Bool} {N : Nat} {rk : Int → Nat} (h29 : ∀ x, rk x ≤ 29) (hr : ∀ (g o : Int) (x : Nat), (g = 0 ∨ g = 1) → 0 ≤ o → x < N → ls g o x = true → rk o < rk (x : Int)) {w : Int} (h0 : 0 ≤ w) (hd : ¬ Z w = 2) : wtB Z sz ls N 31 w.toNat = bsV Z sz w.toNat + remJ Z ls (wtB Z sz ls N 31) N w 0 := by
  have e : ((w.toNat : Nat) : Int) = w := by omega
  have q := wtB_w (sz := sz) h29 hr (o := w.toNat) (by rw [e]; exact hd)
  rw [e] at q
  exact q
def NoD (Z gm : Int → Int) (N : Int) : Prop := ∀ x : Int, 0 ≤ x → x < N → ¬ gm x = -9 → ¬ Z x = 2
theorem lsG_n {fo le mi sa F A : Nat → Int32} {n p f h w : Int} (h0 : 0 ≤ w) (hn : ¬ (gM fo le sa F n p w = f ∧ gA fo le mi sa A n p w = h)) : ¬ lsG fo le mi sa F A n p f h w.toNat = true := by
  intro q
  have e := lsG_e q
  rw [show ((w.toNat : Nat) : Int) = w by omega] at e
  exact hn e
theorem lsG_w {fo le mi sa F A : Nat → Int32} {n p f h w : Int} (h0 : 0 ≤ w) (e : gM fo le sa F n p w = f ∧ gA fo le mi sa A n p w = h) : lsG fo le mi sa F A n p f h w.toNat = true := lsG_y (by rw [show ((w.toNat : Nat) : Int) = w by omega]; exact e)
theorem chB_n {Z : Int → Int} {ls : Int → Int → Nat → Bool} {o f : Int} {x : Nat} (hf : (Z o = 3 ∧ f = 0) ∨ (Z o = 4 ∧ f = 1) ∨ (¬ Z o = 3 ∧ ¬ Z o = 4 ∧ f = -9)) (hn : ¬ f = -9 → ¬ ls f o x = true) : ¬ chB Z ls o x = true := by
  intro q
  unfold chB at q
  rcases hf with ⟨a, b⟩ | ⟨a, b⟩ | ⟨a, a2, b⟩
  · rw [if_pos a] at q; rw [b] at hn; exact hn (by omega) q
  · rw [if_neg (by omega), if_pos a] at q; rw [b] at hn; exact hn (by omega) q
  · rw [if_neg a, if_neg a2] at q; cases q
theorem chB_y {Z : Int → Int} {ls : Int → Int → Nat → Bool} {o f : Int} {x : Nat} (hf : (Z o = 3 ∧ f = 0) ∨ (Z o = 4 ∧ f = 1) ∨ (¬ Z o = 3 ∧ ¬ Z o = 4 ∧ f = -9)) (h9 : ¬ f = -9) (h : ls f o x = true) : chB Z ls o x = true := by
  unfold chB
  rcases hf with ⟨a, b⟩ | ⟨a, b⟩ | ⟨a, a2, b⟩
  · rw [if_pos a, ← b]; exact h
  · rw [if_neg (by omega), if_pos a, ← b]; exact h
  · exact absurd b h9
theorem chG {Z : Int → Int} {fo le mi sa F A : Nat → Int32} {n p o w : Int} (h0 : 0 ≤ w) (h : chB Z (lsG fo le mi sa F A n p) o w.toNat = true) : ¬ gM fo le sa F n p w = -9 := by
  unfold chB at h
  intro e
  by_cases q3 : Z o = 3
  · rw [if_pos q3] at h
    have k := (lsG_e h).1
    rw [show ((w.toNat : Nat) : Int) = w by omega] at k
    omega
  · rw [if_neg q3] at h
    by_cases q4 : Z o = 4
    · rw [if_pos q4] at h
      have k := (lsG_e h).1
      rw [show ((w.toNat : Nat) : Int) = w by omega] at k
      omega
    · rw [if_neg q4] at h; cases h
def PiN (pi : Nat → Int32) (N d : Int) : Prop := ∀ j : Nat, (j : Int) ≤ d → (pi j).toInt < N
theorem PiN_0 {pi : Nat → Int32} {N : Int} {d w : Int32} (hd : d.toInt = 0) (hw : w.toInt < N) : PiN (upd pi d.toNatClampNeg w) N d.toInt := by
  intro j hj
  have q : d.toNatClampNeg = d.toInt.toNat := rfl
  rw [show j = d.toNatClampNeg by omega, pk_us]
  exact hw
theorem PiN_s {pi : Nat → Int32} {N : Int} {d d2 w : Int32} (h : PiN pi N d.toInt) (h0 : 0 ≤ d.toInt) (hd : d2.toInt = d.toInt + 1) (hw : w.toInt < N) : PiN (upd pi d2.toNatClampNeg w) N d2.toInt := by
  intro j hj
  have q : d2.toNatClampNeg = d2.toInt.toNat := rfl
  by_cases e : j = d2.toNatClampNeg
  · rw [e, pk_us]; exact hw
  · rw [pk_un e]; exact h j (by omega)
theorem PiN_o {pi : Nat → Int32} {N d d2 : Int} (h : PiN pi N d) (hd : d2 ≤ d) : PiN pi N d2 := fun j hj => h j (by omega)
theorem gM_t {fo le sa F : Nat → Int32} {n p x : Int} (h : ¬ p = -9) : gM fo le sa F n p x = (F x.toNat).toInt := if_neg h
theorem sumW {g : Nat → Int32} {a s s2 z x y : Int32} (h : s = a + sumI g x.toInt.toNat) (h0 : 0 ≤ x.toInt) (hy : y.toInt = x.toInt + 1) (hz : g x.toInt.toNat = z) (hs : s2 = s + z) : s2 = a + sumI g y.toInt.toNat := by
  rw [show y.toInt.toNat = x.toInt.toNat + 1 by omega, hs, h, ← hz, Int32.add_assoc]
  rfl
def wyV (v tk hd pi po tu wr en lv : Int) : Int := if v = 1 then tk else if v = 2 then hd else if v = 3 then pi else if v = 4 then po else if 5 ≤ v ∧ v ≤ 8 then tu else if v = 9 then wr else if v = 10 then en else if v = 11 then lv else 0
theorem sbI_p {v : Int} {p x : Int32} (h : v = 0 ∨ 10 ≤ v) : sbI v p x = p := if_pos h
theorem sbI_x {v : Int} {p x : Int32} (h : ¬ (v = 0 ∨ 10 ≤ v)) : sbI v p x = x := if_neg h
/-- what an act does to the reference's rows -/
def AcR (v : Int) (F A O L F2 A2 O2 L2 : Nat → Int32) (sj x : Int32) (f : Int) (H : Int → Prop) : Prop := ((v ≤ 4 ∨ (9 ≤ v ∧ v ≤ 11)) ∧ (∃ f9 h9 : Int32, f9.toInt = f ∧ H h9.toInt ∧ F2 = upd F sj.toNatClampNeg f9 ∧ A2 = upd A sj.toNatClampNeg h9) ∧ O2 = O ∧ L2 = L) ∨ ((v = 5 ∨ v = 6) ∧ F2 = F ∧ A2 = A ∧ (∃ z : Int32, Sm z (v = 5) ∧ O2 = upd O x.toNatClampNeg z) ∧ L2 = L) ∨ ((v = 7 ∨ v = 8) ∧ F2 = F ∧ A2 = A ∧ O2 = O ∧ ∃ z : Int32, Sm z (v = 8) ∧ L2 = upd L x.toNatClampNeg z) ∨ (v = 12 ∧ F2 = F ∧ A2 = A ∧ O2 = O ∧ L2 = L)
def AaM (Q : Prop) (p tu : Int) (X : Prop) (r : Int) : Prop := (¬ Q ∧ r = -1) ∨ (Q ∧ ¬ p = -9 ∧ tu = 100 ∧ r = -2) ∨ (Q ∧ p = -9 ∧ r = -5) ∨ (Q ∧ ¬ p = -9 ∧ ¬ tu = 100 ∧ X)
/-! the beginning of a tale -/
def BO (F : Nat → Int32) (Q : Int → Prop) (m : Int) : Prop := ∀ x : Int, 0 ≤ x → x < m → ((F x.toNat).toInt = 1 ↔ Q x)
theorem BO_0 {F : Nat → Int32} {Q : Int → Prop} {x : Int32} (h : x.toInt = 0) : BO F Q x.toInt := fun y a b => by omega
theorem BO_a {F : Nat → Int32} {Q : Int → Prop} {x y z : Int32} (h : BO F Q x.toInt) (h0 : 0 ≤ x.toInt) (hy : y.toInt = x.toInt + 1) (hz : Sm z (Q x.toInt)) : BO (upd F x.toNatClampNeg z) Q y.toInt := by
  intro o h1 h2
  have q : x.toNatClampNeg = x.toInt.toNat := rfl
  by_cases e : o = x.toInt
  · rw [e, ← q, pk_us]
    rcases hz with ⟨a, b⟩ | ⟨a, b⟩
    · exact ⟨fun _ => b, fun _ => a⟩
    · exact ⟨fun w => by omega, fun w => absurd w b⟩
  · rw [pk_un (by omega)]
    exact h o h1 (by omega)
/-! seek() keeps a scene and gives it back -/
def RS (w w0 O L : Nat → Int32) (T : Nat) (m : Int) : Prop := (∀ j, (j < 30 * T ∨ 30 * T + 30 ≤ j) → w j = w0 j) ∧ ∀ j : Nat, (j : Int) < m → (w (30 * T + j)).toInt = (O j).toInt + 2 * (L j).toInt
theorem RS_0 {w O L : Nat → Int32} {T : Nat} {x : Int32} (h : x.toInt = 0) : RS w w O L T x.toInt := ⟨fun _ _ => rfl, fun j hj => by omega⟩
theorem RS_a {w w0 O L : Nat → Int32} {T x y a z : Int32} (h : RS w w0 O L T.toInt.toNat x.toInt) (hT : 0 ≤ T.toInt) (h0 : 0 ≤ x.toInt ∧ x.toInt < 30) (hy : y.toInt = x.toInt + 1) (ha : a.toInt = 30 * T.toInt + x.toInt) (ez : z.toInt = (O x.toNatClampNeg).toInt + 2 * (L x.toNatClampNeg).toInt) : RS (upd w a.toNatClampNeg z) w0 O L T.toInt.toNat y.toInt := by
  have ea : a.toNatClampNeg = a.toInt.toNat := rfl
  have ex : x.toNatClampNeg = x.toInt.toNat := rfl
  refine ⟨fun j hj => ?_, fun j hj => ?_⟩
  · rw [pk_un (by omega)]; exact h.1 j hj
  · by_cases e : j = x.toNatClampNeg
    · rw [show 30 * T.toInt.toNat + j = a.toNatClampNeg by omega, pk_us, ez, e]
    · rw [pk_un (by omega)]; exact h.2 j (by omega)
def GS (O L w : Nat → Int32) (T : Nat) (m : Int) : Prop := ∀ j : Nat, (j : Int) < m → (O j).toInt = (w (30 * T + j)).toInt % 2 ∧ (L j).toInt = (w (30 * T + j)).toInt / 2
theorem GS_0 {O L w : Nat → Int32} {T : Nat} {x : Int32} (h : x.toInt = 0) : GS O L w T x.toInt := fun j hj => by omega
theorem GS_a {O L w : Nat → Int32} {T x y a b z u : Int32} (h : GS O L w T.toInt.toNat x.toInt) (hT : 0 ≤ T.toInt) (h0 : 0 ≤ x.toInt) (hy : y.toInt = x.toInt + 1) (ha : a.toInt = 30 * T.toInt + x.toInt) (hbt : b.toInt = 30 * T.toInt + x.toInt) (e1 : z.toInt = (w a.toNatClampNeg).toInt % 2) (e2 : u.toInt = (w b.toNatClampNeg).toInt / 2) : GS (upd O x.toNatClampNeg z) (upd L x.toNatClampNeg u) w T.toInt.toNat y.toInt := by
  intro j hj
  have ea : a.toNatClampNeg = a.toInt.toNat := rfl
  have eb : b.toNatClampNeg = b.toInt.toNat := rfl
  have ex : x.toNatClampNeg = x.toInt.toNat := rfl
  by_cases e : j = x.toNatClampNeg
  · rw [e, pk_us, pk_us, show 30 * T.toInt.toNat + x.toNatClampNeg = a.toNatClampNeg by omega]
    refine ⟨e1, ?_⟩
    rw [show a.toNatClampNeg = b.toNatClampNeg by omega]
    exact e2
  · rw [pk_un e, pk_un e]; exact h j (by omega)
theorem i3_c {x : Int32} (h : 0 ≤ x.toInt ∧ x.toInt ≤ 3) : x = 0 ∨ x = 1 ∨ x = 2 ∨ x = 3 := by
  have w : ∀ y : Int32, y.toInt = x.toInt → x = y := fun y z => (Int32.toInt_inj.mp z).symm
  have k0 : (0 : Int32).toInt = 0 := by decide
  have k1 : (1 : Int32).toInt = 1 := by decide
  have k2 : (2 : Int32).toInt = 2 := by decide
  have k3 : (3 : Int32).toInt = 3 := by decide
  rcases (show x.toInt = 0 ∨ x.toInt = 1 ∨ x.toInt = 2 ∨ x.toInt = 3 by omega) with q | q | q | q
  · exact Or.inl (w 0 (by omega))
  · exact Or.inr (Or.inl (w 1 (by omega)))
  · exact Or.inr (Or.inr (Or.inl (w 2 (by omega))))
  · exact Or.inr (Or.inr (Or.inr (w 3 (by omega))))
theorem and1 {x r : Int32} (h : 0 ≤ x.toInt ∧ x.toInt ≤ 3) (e : r = x &&& 1) : r.toInt = x.toInt % 2 := by
  rw [e]
  rcases i3_c h with q | q | q | q <;> rw [q] <;> decide
theorem and2 {x r : Int32} (h : 0 ≤ x.toInt ∧ x.toInt ≤ 3) (e : r = x &&& 2) : r.toInt = x.toInt / 2 * 2 := by
  rw [e]
  rcases i3_c h with q | q | q | q <;> rw [q] <;> decide
def U9 (a b d a0 b0 d0 : Nat → Int32) : Prop := ∀ j : Nat, 9000 ≤ j → a j = a0 j ∧ b j = b0 j ∧ d j = d0 j
theorem U9_r {a b d : Nat → Int32} : U9 a b d a b d := fun _ _ => ⟨rfl, rfl, rfl⟩
theorem U9_t {a b d a0 b0 d0 a1 b1 d1 : Nat → Int32} (h : U9 a1 b1 d1 a0 b0 d0) (h2 : U9 a b d a1 b1 d1) : U9 a b d a0 b0 d0 := fun j hj => by
  have x := h j hj
  have y := h2 j hj
  exact ⟨y.1.trans x.1, y.2.1.trans x.2.1, y.2.2.trans x.2.2⟩
theorem U9_w {a b d a0 b0 d0 F A O L : Nat → Int32} {T : Nat} {m m2 : Int} (h : RW a b a0 b0 F A T m) (h2 : RS d d0 O L T m2) (hT : T < 300) : U9 a b d a0 b0 d0 := fun j hj => by
  have x := h.1 j (by omega)
  exact ⟨x.1, x.2, h2.1 j (by omega)⟩
def K9 (a b d F A O L : Nat → Int32) (N : Int) : Prop := ∀ j : Nat, (j : Int) < N → a (9000 + j) = F j ∧ b (9000 + j) = A j ∧ (d (9000 + j)).toInt = (O j).toInt + 2 * (L j).toInt
theorem K9_u {a b d a1 b1 d1 F A O L : Nat → Int32} {N : Int} (h : K9 a1 b1 d1 F A O L N) (h2 : U9 a b d a1 b1 d1) : K9 a b d F A O L N := fun j hj => by
  have x := h j hj
  have y := h2 (9000 + j) (by omega)
  rw [y.1, y.2.1, y.2.2]
  exact x
theorem K9_k {a b d a1 b1 d1 a0 b0 d0 F A O L F2 A2 O2 L2 : Nat → Int32} {N m m2 : Int} {T : Int32} (h1 : RW a1 b1 a0 b0 F A T.toInt.toNat N) (h2 : RS d1 d0 O L T.toInt.toNat N) (h3 : RW a b a1 b1 F2 A2 0 m) (h4 : RS d d1 O2 L2 0 m2) (hT : T.toInt = 300) : K9 a b d F A O L N := fun j hj => by
  have x := h1.2 j hj
  have y := h2.2 j hj
  have z := h3.1 (9000 + j) (by omega)
  have w := h4.1 (9000 + j) (by omega)
  rw [show 30 * T.toInt.toNat + j = 9000 + j by omega] at x y
  rw [z.1, z.2, w]
  exact ⟨x.1, x.2, y⟩
def Sk4 (F2 A2 O2 L2 F A O L : Nat → Int32) (N : Int) : Prop := ∀ o : Nat, (o : Int) < N → F2 o = F o ∧ A2 o = A o ∧ O2 o = O o ∧ L2 o = L o
theorem Sk4_r {F A O L : Nat → Int32} {N : Int} : Sk4 F A O L F A O L N := fun _ _ => ⟨rfl, rfl, rfl, rfl⟩
theorem Sk4_g {a b d F A O L F2 A2 O2 L2 : Nat → Int32} {N : Int} {T : Int32} (h : K9 a b d F A O L N) (g1 : GB F2 A2 a b T.toInt.toNat N) (g2 : GS O2 L2 d T.toInt.toNat N) (hT : T.toInt = 300) (hO : ∀ j, 0 ≤ (O j).toInt ∧ (O j).toInt ≤ 1) (hL : ∀ j, 0 ≤ (L j).toInt ∧ (L j).toInt ≤ 1) : Sk4 F2 A2 O2 L2 F A O L N := fun o ho => by
  have x := h o ho
  have y := g1 o ho
  have z := g2 o ho
  rw [show 30 * T.toInt.toNat + o = 9000 + o by omega] at y z
  have p := hO o
  have q := hL o
  exact ⟨y.1.trans x.1, y.2.trans x.2.1, Int32.toInt_inj.mp (by have := x.2.2; omega), Int32.toInt_inj.mp (by have := x.2.2; omega)⟩

