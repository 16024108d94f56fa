def Can (s b : Int) : Prop := (b ≤ 1 ∧ (s = 2 ∨ s = 3)) ∨ b = 2 ∨ (b = 3 ∧ (s = 1 ∨ 3 ≤ s)) ∨ (b = 4 ∧ (s = 1 ∨ 3 ≤ s) ∧ ¬ s = 5) ∨ (5 ≤ b ∧ s = 3)
/-- the first standard on the way up -/
def stL (pa st : Nat → Int32) (f : Int) : Nat → Int → Int
  | 0, _ => -9
  | m + 1, k => if 0 ≤ k ∧ k ≤ 23 then (if (st (k * 6 + f).toNat).toInt = -9 then stL pa st f m (kF pa k) else (st (k * 6 + f).toNat).toInt) else -9
theorem stL_m {pa st : Nat → Int32} {f : Int} (hd : PD pa) : ∀ (m m2 : Nat) (k : Int), k < (m : Int) → k < (m2 : Int) → stL pa st f m k = stL pa st f m2 k := by
  intro m
  induction m with
  | zero =>
    intro m2 k h1 h2
    cases m2 with
    | zero => rfl
    | succ m2 => show -9 = (if 0 ≤ k ∧ k ≤ 23 then (if (st (k * 6 + f).toNat).toInt = -9 then stL pa st f m2 (kF pa k) else (st (k * 6 + f).toNat).toInt) else -9); rw [if_neg (by omega)]
  | succ m ih =>
    intro m2 k h1 h2
    cases m2 with
    | zero => show (if 0 ≤ k ∧ k ≤ 23 then (if (st (k * 6 + f).toNat).toInt = -9 then stL pa st f m (kF pa k) else (st (k * 6 + f).toNat).toInt) else -9) = -9; rw [if_neg (by omega)]
    | succ m2 =>
      show (if 0 ≤ k ∧ k ≤ 23 then (if (st (k * 6 + f).toNat).toInt = -9 then stL pa st f m (kF pa k) else (st (k * 6 + f).toNat).toInt) else -9) = (if 0 ≤ k ∧ k ≤ 23 then (if (st (k * 6 + f).toNat).toInt = -9 then stL pa st f m2 (kF pa k) else (st (k * 6 + f).toNat).toInt) else -9)
      by_cases q : 0 ≤ k ∧ k ≤ 23
      · rw [if_pos q, if_pos q]
        by_cases z : (st (k * 6 + f).toNat).toInt = -9
        · rw [if_pos z, if_pos z]
          have e : kF pa k = (pa k.toNat).toInt := kF_in q.1 q.2
          have d := hd k.toNat
          exact ih m2 (kF pa k) (by omega) (by omega)
        · rw [if_neg z, if_neg z]
      · rw [if_neg q, if_neg q]
theorem stL_s {pa st : Nat → Int32} {f : Int} {x y : Int32} (hd : PD pa) (hx : 0 ≤ x.toInt ∧ x.toInt ≤ 23) (hs : (st (x.toInt * 6 + f).toNat).toInt = -9) (e : y = pa x.toNatClampNeg) : stL pa st f 24 x.toInt = stL pa st f 24 y.toInt := by
  have w : stL pa st f 24 x.toInt = stL pa st f 23 (kF pa x.toInt) := by
    show (if 0 ≤ x.toInt ∧ x.toInt ≤ 23 then (if (st (x.toInt * 6 + f).toNat).toInt = -9 then stL pa st f 23 (kF pa x.toInt) else (st (x.toInt * 6 + f).toNat).toInt) else -9) = _
    rw [if_pos hx, if_pos hs]
  have k := kF_at hx e
  have d := hd x.toNatClampNeg
  rw [← e] at d
  have c : x.toNatClampNeg = x.toInt.toNat := rfl
  rw [w, k]
  exact stL_m hd 23 24 y.toInt (by omega) (by omega)
theorem stL_y {pa st : Nat → Int32} {f x : Int} (hx : 0 ≤ x ∧ x ≤ 23) (hs : ¬ (st (x * 6 + f).toNat).toInt = -9) : stL pa st f 24 x = (st (x * 6 + f).toNat).toInt := by
  show (if 0 ≤ x ∧ x ≤ 23 then (if (st (x * 6 + f).toNat).toInt = -9 then stL pa st f 23 (kF pa x) else (st (x * 6 + f).toNat).toInt) else -9) = _
  rw [if_pos hx, if_neg hs]
theorem stL_9 {pa st : Nat → Int32} {f x : Int} (hx : x = -9) : stL pa st f 24 x = -9 := by
  show (if 0 ≤ x ∧ x ≤ 23 then (if (st (x * 6 + f).toNat).toInt = -9 then stL pa st f 23 (kF pa x) else (st (x * 6 + f).toNat).toInt) else -9) = _
  rw [if_neg (by omega)]
theorem stL_c {pa st st2 : Nat → Int32} {f : Int} (hf : 0 ≤ f ∧ f ≤ 5) (h : ∀ j : Nat, j < 144 → st j = st2 j) : ∀ (m : Nat) (k : Int), stL pa st f m k = stL pa st2 f m k := by
  intro m
  induction m with
  | zero => intro k; rfl
  | succ m ih =>
    intro k
    show (if 0 ≤ k ∧ k ≤ 23 then (if (st (k * 6 + f).toNat).toInt = -9 then stL pa st f m (kF pa k) else (st (k * 6 + f).toNat).toInt) else -9) = (if 0 ≤ k ∧ k ≤ 23 then (if (st2 (k * 6 + f).toNat).toInt = -9 then stL pa st2 f m (kF pa k) else (st2 (k * 6 + f).toNat).toInt) else -9)
    by_cases q : 0 ≤ k ∧ k ≤ 23
    · rw [if_pos q, if_pos q, h _ (by omega), ih]
    · rw [if_neg q, if_neg q]
def sfV (pa ko st : Nat → Int32) (s f o : Int) : Int := if stL pa st f 24 (ko o.toNat).toInt = -9 then (if f = 2 ∧ s = 0 then 1 else 0) else stL pa st f 24 (ko o.toNat).toInt
theorem sfV_y {pa ko st : Nat → Int32} {s f o v : Int} (h : stL pa st f 24 (ko o.toNat).toInt = v) (hv : ¬ v = -9) : v = sfV pa ko st s f o := by
  unfold sfV; rw [if_neg (by omega), h]
theorem sfV_1 {pa ko st : Nat → Int32} {s f o v : Int} (h : stL pa st f 24 (ko o.toNat).toInt = -9) (q : f = 2 ∧ s = 0) (hv : v = 1) : v = sfV pa ko st s f o := by
  unfold sfV; rw [if_pos h, if_pos q, hv]
theorem sfV_0 {pa ko st : Nat → Int32} {s f o v : Int} (h : stL pa st f 24 (ko o.toNat).toInt = -9) (q : ¬ (f = 2 ∧ s = 0)) (hv : v = 0) : v = sfV pa ko st s f o := by
  unfold sfV; rw [if_pos h, if_neg q, hv]
def SgX (fb C : Nat → Int32) (o f v r : Int) : Prop := ((fb (o * 6 + f).toNat).toInt = -9 ∧ r = v) ∨ (¬ (fb (o * 6 + f).toNat).toInt = -9 ∧ r = (C (fb (o * 6 + f).toNat).toNatClampNeg).toInt)
def SgM (F A B C S : Nat → Int32) (n o f v r : Int) : Prop := (¬ fsF (sE F A B C S 6 o f 1) n.toNat = -9 ∧ r = 1) ∨ (fsF (sE F A B C S 6 o f 1) n.toNat = -9 ∧ ¬ fsF (sE F A B C S 6 o f 0) n.toNat = -9 ∧ r = 0) ∨ (fsF (sE F A B C S 6 o f 1) n.toNat = -9 ∧ fsF (sE F A B C S 6 o f 0) n.toNat = -9 ∧ r = v)
def FgR (N o f s r : Int) (P : Prop) : Prop := (¬ (0 ≤ o ∧ o < N ∧ 0 ≤ f ∧ f ≤ 5) ∧ r = -1) ∨ ((0 ≤ o ∧ o < N ∧ 0 ≤ f ∧ f ≤ 5) ∧ ¬ Can s f ∧ r = -3) ∨ ((0 ≤ o ∧ o < N ∧ 0 ≤ f ∧ f ≤ 5) ∧ Can s f ∧ P)
/-- the room on the way up from w, none where there is none -/
def RmS (f : Int → Int) (Rm : Int → Prop) (w r : Int) : Prop := (¬ r = -9 ∧ Ch f w r ∧ Rm r) ∨ (r = -9 ∧ ∀ t, Rm t → ¬ Ch f w t)
def RmX (so ko : Nat → Int32) (N t : Int) : Prop := 0 ≤ t ∧ t < N ∧ (so (ko t.toNat).toNatClampNeg).toInt = 0
def RmM (pa ko : Nat → Int32) (N t : Int) : Prop := 0 ≤ t ∧ t < N ∧ kS pa ko t = 0
def BgR (N w s r : Int) (P : Int → Prop) : Prop := (¬ (0 ≤ w ∧ w < N) ∧ r = -1) ∨ ((0 ≤ w ∧ w < N) ∧ ¬ s = 5 ∧ r = -3) ∨ ((0 ≤ w ∧ w < N) ∧ s = 5 ∧ ((P (-9) ∧ r = -3) ∨ (¬ r = -9 ∧ P r)))
theorem kS_k {i : Nat → Int32} {c : Nat → Nat → Int32} {o k : Int} (hI : mInv i c) (hk : 0 ≤ k ∧ k ≤ 5) (h1 : ¬ k = 1) : Kd (c 3) (c 6) o k ↔ kS (c 3) (c 6) o = k := by
  rw [kS_e (K6_of hI) (Kd_tot hI o) hk]
  omega
/-! walks: room after room, exit after exit -/
def upI (f : Int → Int) (y v : Int) : Int → Int := fun x => if x = y then v else f x
def upN (f : Nat → Int) (y : Nat) (v : Int) : Nat → Int := fun x => if x = y then v else f x
def bf (g : Int → Nat → Int) (a : Int) : Nat → (Int → Int) × (Nat → Int) × Nat
  | 0 => (upI (fun _ => -9) a 0, upN (fun _ => 0) 0 a, 1)
  | m + 1 => if m / 10 < (bf g a m).2.2 ∧ ¬ g ((bf g a m).2.1 (m / 10)) (m % 10) = -9 ∧ (bf g a m).1 (g ((bf g a m).2.1 (m / 10)) (m % 10)) = -9 then (upI (bf g a m).1 (g ((bf g a m).2.1 (m / 10)) (m % 10)) ((bf g a m).1 ((bf g a m).2.1 (m / 10)) + 1), upN (bf g a m).2.1 (bf g a m).2.2 (g ((bf g a m).2.1 (m / 10)) (m % 10)), (bf g a m).2.2 + 1) else bf g a m
/-- how far, behind m pairs -/
def bfS (g : Int → Nat → Int) (a : Int) (m : Nat) (x : Int) : Int := (bf g a m).1 x
theorem bf_n {g : Int → Nat → Int} {a : Int} {m : Nat} (h : ¬ (m / 10 < (bf g a m).2.2 ∧ ¬ g ((bf g a m).2.1 (m / 10)) (m % 10) = -9 ∧ (bf g a m).1 (g ((bf g a m).2.1 (m / 10)) (m % 10)) = -9)) : bf g a (m + 1) = bf g a m := if_neg h
theorem bf_y {g : Int → Nat → Int} {a : Int} {m : Nat} (h : m / 10 < (bf g a m).2.2 ∧ ¬ g ((bf g a m).2.1 (m / 10)) (m % 10) = -9 ∧ (bf g a m).1 (g ((bf g a m).2.1 (m / 10)) (m % 10)) = -9) : bf g a (m + 1) = (upI (bf g a m).1 (g ((bf g a m).2.1 (m / 10)) (m % 10)) ((bf g a m).1 ((bf g a m).2.1 (m / 10)) + 1), upN (bf g a m).2.1 (bf g a m).2.2 (g ((bf g a m).2.1 (m / 10)) (m % 10)), (bf g a m).2.2 + 1) := if_pos h
theorem bf_e {g : Int → Nat → Int} {a : Int} {m k : Nat} (h : (bf g a m).2.2 ≤ m / 10) : bf g a (m + k) = bf g a m := by
  induction k with
  | zero => rfl
  | succ k ih =>
    rw [show m + (k + 1) = (m + k) + 1 by omega]
    have q : bf g a (m + k + 1) = bf g a (m + k) := bf_n (by rw [ih]; intro z; have := z.1; have := Nat.div_le_div_right (c := 10) (show m ≤ m + k by omega); omega)
    rw [q, ih]
/-- the class's rows, or the reference's, are those of the walk -/
def BFI (g : Int → Nat → Int) (a : Int) (m : Nat) (N : Int) (st qu : Nat → Int32) (kn : Int) : Prop := (∀ x : Nat, (x : Int) < N → (st x).toInt = (bf g a m).1 (x : Int)) ∧ (∀ j : Nat, (j : Int) < kn → (qu j).toInt = (bf g a m).2.1 j) ∧ kn = (((bf g a m).2.2 : Nat) : Int) ∧ ∀ j : Nat, (j : Int) < kn → 0 ≤ (qu j).toInt ∧ (qu j).toInt < N
theorem BFI_0 {g : Int → Nat → Int} {N : Int} {st qu : Nat → Int32} {a k : Int32} (ha : 0 ≤ a.toInt ∧ a.toInt < N) (h : ∀ x : Nat, (x : Int) < N → ¬ x = a.toNatClampNeg → (st x).toInt = -9) (h2 : (st a.toNatClampNeg).toInt = 0) (h3 : qu 0 = a) (hk : k.toInt = 1) : BFI g a.toInt 0 N st qu k.toInt := by
  have e : a.toNatClampNeg = a.toInt.toNat := rfl
  refine ⟨fun x hx => ?_, fun j hj => ?_, hk, fun j hj => by have : j = 0 := (by omega); subst this; rw [h3]; exact ha⟩
  · show _ = (if (x : Int) = a.toInt then (0 : Int) else -9)
    by_cases q : (x : Int) = a.toInt
    · rw [if_pos q, show x = a.toNatClampNeg by omega]; exact h2
    · rw [if_neg q]; exact h x hx (by omega)
  · have : j = 0 := by omega
    subst this
    rw [h3]
    rfl
/-- where one stands in a walk -/
def mI (h d : Int) : Nat := (h * 10 + d).toNat
theorem BFI_n {g : Int → Nat → Int} {a N : Int} {st qu : Nat → Int32} {kn h d d2 : Int32} {r : Int} (hB : BFI g a (mI h.toInt d.toInt) N st qu kn.toInt) (h0 : 0 ≤ h.toInt) (hk : h.toInt < kn.toInt) (hd : 0 ≤ d.toInt ∧ d.toInt ≤ 9) (hr : (qu h.toNatClampNeg).toInt = r) (hg : ∀ y9, y9 = g r d.toInt.toNat → y9 = -9 ∨ (0 ≤ y9 ∧ y9 < N ∧ ¬ (st y9.toNat).toInt = -9)) (h2 : d2.toInt = d.toInt + 1) : BFI g a (mI h.toInt d2.toInt) N st qu kn.toInt := by
  have e : mI h.toInt d2.toInt = mI h.toInt d.toInt + 1 := by unfold mI; omega
  have e1 : mI h.toInt d.toInt / 10 = h.toInt.toNat := by unfold mI; omega
  have e2 : mI h.toInt d.toInt % 10 = d.toInt.toNat := by unfold mI; omega
  obtain ⟨b1, b2, b3, b4⟩ := hB
  have q : (bf g a (mI h.toInt d.toInt)).2.1 h.toInt.toNat = r := by rw [← b2 h.toInt.toNat (by omega)]; exact hr
  have n1 : bf g a (mI h.toInt d.toInt + 1) = bf g a (mI h.toInt d.toInt) := by
    refine bf_n (fun z => ?_)
    rw [e1, e2, q] at z
    rcases hg _ rfl with w | ⟨w1, w2, w3⟩
    · exact z.2.1 w
    · refine w3 ?_
      rw [b1 _ (by omega), show (((g r d.toInt.toNat).toNat : Nat) : Int) = g r d.toInt.toNat by omega]
      exact z.2.2
  rw [e]
  unfold BFI
  rw [n1]
  exact ⟨b1, b2, b3, b4⟩
theorem BFI_y {g : Int → Nat → Int} {a N : Int} {st qu : Nat → Int32} {kn k2 h d d2 y v : Int32} {r : Int32} (hB : BFI g a (mI h.toInt d.toInt) N st qu kn.toInt) (h0 : 0 ≤ h.toInt) (hk : h.toInt < kn.toInt) (hd : 0 ≤ d.toInt ∧ d.toInt ≤ 9) (hr : (qu h.toNatClampNeg).toInt = r.toInt) (hg : y.toInt = g r.toInt d.toInt.toNat) (y0 : 0 ≤ y.toInt ∧ y.toInt < N) (hy : (st y.toNatClampNeg).toInt = -9) (hv : v.toInt = (st r.toNatClampNeg).toInt + 1) (hk2 : k2.toInt = kn.toInt + 1) (h2 : d2.toInt = d.toInt + 1) : BFI g a (mI h.toInt d2.toInt) N (upd st y.toNatClampNeg v) (upd qu kn.toNatClampNeg y) k2.toInt := by
  have e : mI h.toInt d2.toInt = mI h.toInt d.toInt + 1 := by unfold mI; omega
  have e1 : mI h.toInt d.toInt / 10 = h.toInt.toNat := by unfold mI; omega
  have e2 : mI h.toInt d.toInt % 10 = d.toInt.toNat := by unfold mI; omega
  obtain ⟨b1, b2, b3, b4⟩ := hB
  have r0 : 0 ≤ r.toInt ∧ r.toInt < N := by rw [← hr]; exact b4 h.toNatClampNeg (by show ((h.toInt.toNat : Nat) : Int) < _; omega)
  have ey : y.toNatClampNeg = y.toInt.toNat := rfl
  have er : r.toNatClampNeg = r.toInt.toNat := rfl
  have ek : kn.toNatClampNeg = kn.toInt.toNat := rfl
  have q : (bf g a (mI h.toInt d.toInt)).2.1 h.toInt.toNat = r.toInt := by rw [← b2 h.toInt.toNat (by omega)]; exact hr
  have yc : ((y.toInt.toNat : Nat) : Int) = y.toInt := by omega
  have rc : ((r.toInt.toNat : Nat) : Int) = r.toInt := by omega
  have sy := b1 y.toInt.toNat (by omega)
  have sr := b1 r.toInt.toNat (by omega)
  rw [yc] at sy
  rw [rc] at sr
  have n1 := bf_y (g := g) (a := a) (m := mI h.toInt d.toInt) (by rw [e1, e2, q, ← hg]; exact ⟨by omega, by omega, by rw [← sy]; exact hy⟩)
  rw [e1, e2, q, ← hg] at n1
  rw [e]
  unfold BFI
  rw [n1]
  refine ⟨fun x hx => ?_, fun j hj => ?_, ?_, fun j hj => ?_⟩
  · show _ = (if (x : Int) = y.toInt then _ else _)
    by_cases z : x = y.toNatClampNeg
    · rw [z, pk_us, if_pos (by omega), hv, er, sr]
    · rw [pk_un z, if_neg (by omega)]; exact b1 x hx
  · show _ = (if j = _ then _ else _)
    by_cases z : j = kn.toNatClampNeg
    · rw [z, pk_us, if_pos (by omega)]
    · rw [pk_un z, if_neg (by omega)]; exact b2 j (by omega)
  · show k2.toInt = (((bf g a (mI h.toInt d.toInt)).2.2 + 1 : Nat) : Int)
    omega
  · by_cases z : j = kn.toNatClampNeg
    · rw [z, pk_us]; exact y0
    · rw [pk_un z]; exact b4 j (by omega)
theorem BFI_o {g : Int → Nat → Int} {a N : Int} {st qu : Nat → Int32} {kn h h2 d : Int32} (hB : BFI g a (mI h.toInt d.toInt) N st qu kn.toInt) (h0 : 0 ≤ h.toInt) (hd : d.toInt = 10) (hh : h2.toInt = h.toInt + 1) : BFI g a (mI h2.toInt 0) N st qu kn.toInt := by
  have e : mI h2.toInt 0 = mI h.toInt d.toInt := by unfold mI; omega
  rw [e]; exact hB
theorem BFI_end {g : Int → Nat → Int} {a N : Int} {st qu : Nat → Int32} {kn h : Int32} (hB : BFI g a (mI h.toInt 0) N st qu kn.toInt) (h0 : 0 ≤ h.toInt ∧ h.toInt ≤ 30) (hk : kn.toInt ≤ h.toInt ∨ h.toInt = 30) : ∀ x : Nat, (x : Int) < N → (st x).toInt = bfS g a 300 (x : Int) := by
  obtain ⟨b1, b2, b3, b4⟩ := hB
  intro x hx
  unfold bfS
  rw [b1 x hx]
  rcases hk with q | q
  · have e := bf_e (g := g) (a := a) (m := mI h.toInt 0) (k := 300 - mI h.toInt 0) (by unfold mI at *; omega)
    rw [show mI h.toInt 0 + (300 - mI h.toInt 0) = 300 by unfold mI; omega] at e
    rw [e]
  · rw [show mI h.toInt 0 = 300 by unfold mI; omega]
/-- two walks that go alike -/
theorem bf_c {g g2 : Int → Nat → Int} {a : Int} {R : Int → Prop} (ha : R a) (h : ∀ r, R r → ∀ d, d < 10 → g r d = g2 r d ∧ (g r d = -9 ∨ R (g r d))) : ∀ m : Nat, bf g a m = bf g2 a m ∧ ∀ j, j < (bf g a m).2.2 → R ((bf g a m).2.1 j) := by
  intro m
  induction m with
  | zero =>
    refine ⟨rfl, fun j hj => ?_⟩
    have : j = 0 := by
      have q : (bf g a 0).2.2 = 1 := rfl
      omega
    subst this
    exact ha
  | succ m ih =>
    obtain ⟨i1, i2⟩ := ih
    by_cases z : m / 10 < (bf g a m).2.2 ∧ ¬ g ((bf g a m).2.1 (m / 10)) (m % 10) = -9 ∧ (bf g a m).1 (g ((bf g a m).2.1 (m / 10)) (m % 10)) = -9
    · have w := h _ (i2 _ z.1) (m % 10) (by omega)
      have z2 : m / 10 < (bf g2 a m).2.2 ∧ ¬ g2 ((bf g2 a m).2.1 (m / 10)) (m % 10) = -9 ∧ (bf g2 a m).1 (g2 ((bf g2 a m).2.1 (m / 10)) (m % 10)) = -9 := by
        rw [← i1, ← w.1]; exact z
      refine ⟨by rw [bf_y z, bf_y z2, ← i1, ← w.1], fun j hj => ?_⟩
      rw [bf_y z] at hj ⊢
      show R (if j = (bf g a m).2.2 then _ else _)
      by_cases e : j = (bf g a m).2.2
      · rw [if_pos e]; exact w.2.resolve_left z.2.1
      · rw [if_neg e]
        have hj2 : j < (bf g a m).2.2 + 1 := hj
        exact i2 j (by omega)
    · have z2 : ¬ (m / 10 < (bf g2 a m).2.2 ∧ ¬ g2 ((bf g2 a m).2.1 (m / 10)) (m % 10) = -9 ∧ (bf g2 a m).1 (g2 ((bf g2 a m).2.1 (m / 10)) (m % 10)) = -9) := by
        rw [← i1]
        intro q
        have w := h _ (i2 _ q.1) (m % 10) (by omega)
        rw [← w.1] at q
        exact z q
      rw [bf_n z, bf_n z2]
      exact ⟨i1, i2⟩
def BfE (g : Int → Nat → Int) (a N : Int) (st : Nat → Int32) : Prop := ∀ x : Nat, (x : Int) < N → (st x).toInt = bfS g a 300 (x : Int)
def gX (ld dr : Nat → Int32) (o : Int) (sv : Int → Int) (r : Int) (d : Nat) : Int := if ¬ (ld (r * 10 + (d : Int)).toNat).toInt = -9 ∧ (o = 0 ∨ (dr (r * 10 + (d : Int)).toNat).toInt = -9 ∨ sv (dr (r * 10 + (d : Int)).toNat).toInt = 1) then (ld (r * 10 + (d : Int)).toNat).toInt else -9
theorem gX_k {ld : Nat → Int32} {r d x s : Int32} (hd : 0 ≤ d.toInt) (es : s.toInt = r.toInt * 10 + d.toInt) (ex : x = ld s.toNatClampNeg) : ld (r.toInt * 10 + ((d.toInt.toNat : Nat) : Int)).toNat = x := by
  rw [ex, show r.toInt * 10 + ((d.toInt.toNat : Nat) : Int) = s.toInt by omega]; rfl
theorem gX_1 {ld dr : Nat → Int32} {o : Int} {sv : Int → Int} {r d x s : Int32} (hd : 0 ≤ d.toInt) (es : s.toInt = r.toInt * 10 + d.toInt) (ex : x = ld s.toNatClampNeg) (hx : x.toInt = -9) : gX ld dr o sv r.toInt d.toInt.toNat = -9 := by
  unfold gX
  rw [gX_k hd es ex, if_neg (fun q => q.1 hx)]
theorem gX_2 {ld dr : Nat → Int32} {o : Int} {sv : Int → Int} {r d x s : Int32} (hd : 0 ≤ d.toInt) (es : s.toInt = r.toInt * 10 + d.toInt) (ex : x = ld s.toNatClampNeg) : gX ld dr o sv r.toInt d.toInt.toNat = -9 ∨ gX ld dr o sv r.toInt d.toInt.toNat = x.toInt := by
  unfold gX
  rw [gX_k hd es ex]
  by_cases q : ¬ x.toInt = -9 ∧ (o = 0 ∨ (dr (r.toInt * 10 + ((d.toInt.toNat : Nat) : Int)).toNat).toInt = -9 ∨ sv (dr (r.toInt * 10 + ((d.toInt.toNat : Nat) : Int)).toNat).toInt = 1)
  · rw [if_pos q]; exact Or.inr rfl
  · rw [if_neg q]; exact Or.inl rfl
theorem gX_3 {ld dr : Nat → Int32} {o : Int} {sv : Int → Int} {r d s : Int32} (hd : 0 ≤ d.toInt) (es : s.toInt = r.toInt * 10 + d.toInt) (hp : ¬ (o = 0 ∨ (dr s.toNatClampNeg).toInt = -9 ∨ sv (dr s.toNatClampNeg).toInt = 1)) : gX ld dr o sv r.toInt d.toInt.toNat = -9 := by
  unfold gX
  rw [gX_k (ld := dr) hd es rfl, if_neg (fun q => hp q.2)]
theorem gX_4 {ld dr : Nat → Int32} {o : Int} {sv : Int → Int} {r d x s s2 : Int32} (hd : 0 ≤ d.toInt) (es : s.toInt = r.toInt * 10 + d.toInt) (ex : x = ld s.toNatClampNeg) (hx : ¬ x.toInt = -9) (es2 : s2.toInt = r.toInt * 10 + d.toInt) (hp : o = 0 ∨ (dr s2.toNatClampNeg).toInt = -9 ∨ sv (dr s2.toNatClampNeg).toInt = 1) : x.toInt = gX ld dr o sv r.toInt d.toInt.toNat := by
  unfold gX
  rw [gX_k hd es ex, gX_k (ld := dr) hd es2 rfl, if_pos ⟨hx, hp⟩]
def sgX (fb C : Nat → Int32) (o f v : Int) : Int := if (fb (o * 6 + f).toNat).toInt = -9 then v else (C (fb (o * 6 + f).toNat).toNatClampNeg).toInt
theorem sgX_e {fb C : Nat → Int32} {o f v r : Int} (h : SgX fb C o f v r) : r = sgX fb C o f v := by
  unfold sgX
  rcases h with ⟨a, b⟩ | ⟨a, b⟩
  · rw [if_pos a]; exact b
  · rw [if_neg a]; exact b
theorem sgX_i {fb C : Nat → Int32} {o f v : Int} : SgX fb C o f v (sgX fb C o f v) := by
  unfold sgX
  by_cases q : (fb (o * 6 + f).toNat).toInt = -9
  · rw [if_pos q]; exact Or.inl ⟨q, rfl⟩
  · rw [if_neg q]; exact Or.inr ⟨q, rfl⟩
noncomputable def sgM (F A B C S : Nat → Int32) (n o f v : Int) : Int := if ¬ fsF (sE F A B C S 6 o f 1) n.toNat = -9 then 1 else if ¬ fsF (sE F A B C S 6 o f 0) n.toNat = -9 then 0 else v
theorem sgM_e {F A B C S : Nat → Int32} {n o f v r : Int} (h : SgM F A B C S n o f v r) : r = sgM F A B C S n o f v := by
  unfold sgM
  rcases h with ⟨a, b⟩ | ⟨a, b, d⟩ | ⟨a, b, d⟩
  · rw [if_pos a]; exact b
  · rw [if_neg (fun q => q a), if_pos b]; exact d
  · rw [if_neg (fun q => q a), if_neg (fun q => q b)]; exact d
theorem sgM_i {F A B C S : Nat → Int32} {n o f v : Int} : SgM F A B C S n o f v (sgM F A B C S n o f v) := by
  unfold sgM
  by_cases q : fsF (sE F A B C S 6 o f 1) n.toNat = -9
  · rw [if_neg (fun z => z q)]
    by_cases w : fsF (sE F A B C S 6 o f 0) n.toNat = -9
    · rw [if_neg (fun z => z w)]; exact Or.inr (Or.inr ⟨q, w, rfl⟩)
    · rw [if_pos w]; exact Or.inr (Or.inl ⟨q, w, rfl⟩)
  · rw [if_pos q]; exact Or.inl ⟨q, rfl⟩
/-- where an exit leads, through which door: the reference -/
noncomputable def feL (pa ko F A B C S : Nat → Int32) (n r d : Int) : Int := if lsF (bP F A C S r d) n.toNat = -9 then (if fsF (qP F B C S r (opp d)) n.toNat = -9 then -9 else (A (fsF (qP F B C S r (opp d)) n.toNat).toNat).toInt) else (if kS pa ko (B (lsF (bP F A C S r d) n.toNat).toNat).toInt = 2 then oS F A B S n (B (lsF (bP F A C S r d) n.toNat).toNat).toInt r else (B (lsF (bP F A C S r d) n.toNat).toNat).toInt)
noncomputable def feD (pa ko F A B C S : Nat → Int32) (n r d : Int) : Int := if lsF (bP F A C S r d) n.toNat = -9 then -9 else (if kS pa ko (B (lsF (bP F A C S r d) n.toNat).toNat).toInt = 2 then (B (lsF (bP F A C S r d) n.toNat).toNat).toInt else -9)
theorem fe_e {pa ko F A B C S : Nat → Int32} {n r d ld dr bw im : Int} (h : FeM pa ko F A B C S n r d ld dr bw im) : ld = feL pa ko F A B C S n r d ∧ dr = feD pa ko F A B C S n r d ∧ (bw = -9 → ld = -9) := by
  unfold FeM at h
  unfold feL feD
  rcases h with ⟨a, b, c, e | e⟩ | ⟨a, b, e | e⟩
  · rw [if_neg a, if_neg a, if_pos e.1, if_pos e.1]; exact ⟨e.2.2, e.2.1, fun q => by omega⟩
  · rw [if_neg a, if_neg a, if_neg e.1, if_neg e.1]; exact ⟨e.2.2, e.2.1, fun q => by omega⟩
  · rw [if_pos a, if_pos a, if_neg e.1]; exact ⟨e.2.2.2, b, fun q => by omega⟩
  · rw [if_pos a, if_pos a, if_pos e.1]; exact ⟨e.2.2.2, b, fun q => e.2.2.2⟩
noncomputable def wM (pa ko F A B C S : Nat → Int32) (n o : Int) (sv : Int → Int) (r : Int) (d : Nat) : Int := @ite _ (¬ feL pa ko F A B C S n r (d : Int) = -9 ∧ (o = 0 ∨ feD pa ko F A B C S n r (d : Int) = -9 ∨ sv (feD pa ko F A B C S n r (d : Int)) = 1)) (Classical.propDecidable _) (feL pa ko F A B C S n r (d : Int)) (-9)
theorem wM_c {pa ko F A B C S : Nat → Int32} {n o r : Int} {sv : Int → Int} {d : Nat} : wM pa ko F A B C S n o sv r d = -9 ∨ wM pa ko F A B C S n o sv r d = feL pa ko F A B C S n r (d : Int) := by
  unfold wM
  by_cases q : ¬ feL pa ko F A B C S n r (d : Int) = -9 ∧ (o = 0 ∨ feD pa ko F A B C S n r (d : Int) = -9 ∨ sv (feD pa ko F A B C S n r (d : Int)) = 1)
  · rw [if_pos q]; exact Or.inr rfl
  · rw [if_neg q]; exact Or.inl rfl
theorem wM_n {pa ko F A B C S : Nat → Int32} {n o r : Int} {sv : Int → Int} {d : Nat} (h : ¬ (¬ feL pa ko F A B C S n r (d : Int) = -9 ∧ (o = 0 ∨ feD pa ko F A B C S n r (d : Int) = -9 ∨ sv (feD pa ko F A B C S n r (d : Int)) = 1))) : wM pa ko F A B C S n o sv r d = -9 := if_neg h
theorem wM_y {pa ko F A B C S : Nat → Int32} {n o r : Int} {sv : Int → Int} {d : Nat} (h : ¬ feL pa ko F A B C S n r (d : Int) = -9 ∧ (o = 0 ∨ feD pa ko F A B C S n r (d : Int) = -9 ∨ sv (feD pa ko F A B C S n r (d : Int)) = 1)) : feL pa ko F A B C S n r (d : Int) = wM pa ko F A B C S n o sv r d := (if_pos h).symm
def DoN (dr : Nat → Int32) (N : Int) : Prop := ∀ k : Nat, k < 300 → (dr k).toInt = -9 ∨ (0 ≤ (dr k).toInt ∧ (dr k).toInt < N)
def WyR (N a b sa sb v : Int) (P : Int → Prop) : Prop := (¬ (0 ≤ a ∧ a < N ∧ 0 ≤ b ∧ b < N) ∧ v = -1) ∨ ((0 ≤ a ∧ a < N ∧ 0 ≤ b ∧ b < N) ∧ ¬ (sa = 0 ∧ sb = 0) ∧ v = -3) ∨ ((0 ≤ a ∧ a < N ∧ 0 ≤ b ∧ b < N) ∧ (sa = 0 ∧ sb = 0) ∧ P v)
theorem fe_lt {pa ko F A B C S : Nat → Int32} {N n r d ld dr bw im : Int} (hs : SI pa ko F A B N n) (h : FeM pa ko F A B C S n r d ld dr bw im) (hn : ¬ ld = -9) : ld < N := by
  rcases h with ⟨a, b, c, e | e⟩ | ⟨a, b, e | e⟩
  · rw [e.2.2] at hn ⊢
    unfold oS at hn ⊢
    by_cases q : fsF (oP F A B S (B (lsF (bP F A C S r d) n.toNat).toNat).toInt r) n.toNat = -9
    · rw [if_pos q] at hn; exact absurd rfl hn
    · rw [if_neg q]
      exact (hs _ (fsF_q q).1).1
  · rw [e.2.2]
    have z := lsF_r a
    exact (hs _ z.1).2.1 (by have := z.2.2.1; omega)
  · rw [e.2.2.2]
    exact (hs _ (fsF_q e.1).1).1
  · exact absurd e.2.2.2 hn
