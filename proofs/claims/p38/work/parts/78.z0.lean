/-! sentences of both sides -/
/-- the sort of an object by its kinds -/
noncomputable def kS (pa ko : Nat → Int32) (o : Int) : Int :=
  @ite _ (Kd pa ko o 0) (Classical.propDecidable _) 0 (@ite _ (Kd pa ko o 2) (Classical.propDecidable _) 2 (@ite _ (Kd pa ko o 3) (Classical.propDecidable _) 3 (@ite _ (Kd pa ko o 4) (Classical.propDecidable _) 4 (@ite _ (Kd pa ko o 5) (Classical.propDecidable _) 5 1))))
theorem kS_c {pa ko : Nat → Int32} {o : Int} : (kS pa ko o = 0 ∧ Kd pa ko o 0) ∨ (kS pa ko o = 2 ∧ Kd pa ko o 2) ∨ (kS pa ko o = 3 ∧ Kd pa ko o 3) ∨ (kS pa ko o = 4 ∧ Kd pa ko o 4) ∨ (kS pa ko o = 5 ∧ Kd pa ko o 5) ∨ (kS pa ko o = 1 ∧ ¬ Kd pa ko o 0 ∧ ¬ Kd pa ko o 2 ∧ ¬ Kd pa ko o 3 ∧ ¬ Kd pa ko o 4 ∧ ¬ Kd pa ko o 5) := by
  unfold kS
  by_cases a0 : Kd pa ko o 0
  · rw [if_pos a0]; exact Or.inl ⟨rfl, a0⟩
  · rw [if_neg a0]
    by_cases a2 : Kd pa ko o 2
    · rw [if_pos a2]; exact Or.inr (Or.inl ⟨rfl, a2⟩)
    · rw [if_neg a2]
      by_cases a3 : Kd pa ko o 3
      · rw [if_pos a3]; exact Or.inr (Or.inr (Or.inl ⟨rfl, a3⟩))
      · rw [if_neg a3]
        by_cases a4 : Kd pa ko o 4
        · rw [if_pos a4]; exact Or.inr (Or.inr (Or.inr (Or.inl ⟨rfl, a4⟩)))
        · rw [if_neg a4]
          by_cases a5 : Kd pa ko o 5
          · rw [if_pos a5]; exact Or.inr (Or.inr (Or.inr (Or.inr (Or.inl ⟨rfl, a5⟩))))
          · rw [if_neg a5]; exact Or.inr (Or.inr (Or.inr (Or.inr (Or.inr ⟨rfl, a0, a2, a3, a4, a5⟩))))
theorem kS_r {pa ko : Nat → Int32} {o : Int} : 0 ≤ kS pa ko o ∧ kS pa ko o ≤ 5 := by
  rcases kS_c (pa := pa) (ko := ko) (o := o) with h | h | h | h | h | h <;> omega
theorem kS_e {pa ko : Nat → Int32} {o k : Int} (h6 : K6 pa) (ht : Kd pa ko o 0 ∨ Kd pa ko o 1) (hk : 0 ≤ k ∧ k ≤ 5) : Kd pa ko o k ↔ (kS pa ko o = k ∨ (k = 1 ∧ 1 < kS pa ko o)) := by
  have n0 : ∀ a : Int, 1 ≤ a → a ≤ 5 → Kd pa ko o a → ¬ Kd pa ko o 0 := fun a h1 h5 q => by
    by_cases e : a = 1
    · rw [e] at q; exact Kd_10 h6 q
    · exact Kd_10 h6 (Kd_a1 h6 (by omega) q)
  have nb : ∀ a b : Int, 2 ≤ a → a ≤ 5 → 2 ≤ b → b ≤ 5 → ¬ a = b → Kd pa ko o a → ¬ Kd pa ko o b := fun a b h1 h2 h3 h4 e q => Kd_ab h6 ⟨h1, h2⟩ ⟨h3, h4⟩ e q
  rcases kS_c (pa := pa) (ko := ko) (o := o) with ⟨e, q⟩ | ⟨e, q⟩ | ⟨e, q⟩ | ⟨e, q⟩ | ⟨e, q⟩ | ⟨e, q0, q2, q3, q4, q5⟩
  · rw [e]
    constructor
    · intro w
      by_cases z : k = 0
      · exact Or.inl z.symm
      · exact absurd q (n0 k (by omega) (by omega) w)
    · intro w
      rw [show k = 0 by omega]; exact q
  all_goals try
    rw [e]
    constructor
    · intro w
      by_cases z : k = 0
      · rw [z] at w; exact absurd w (n0 _ (by omega) (by omega) q)
      · by_cases y : k = 1
        · exact Or.inr ⟨y, by omega⟩
        · by_cases x : 2 = k ∨ 3 = k ∨ 4 = k ∨ 5 = k
          · first
              | exact Or.inl (Decidable.byContradiction fun x2 => absurd w (nb _ _ (by omega) (by omega) (by omega) (by omega) x2 q))
          · exfalso; omega
    · intro w
      rcases w with w | w
      · rw [← w]; exact q
      · rw [w.1]; exact Kd_a1 h6 (by omega) q
  rw [e]
  constructor
  · intro w
    rcases (show k = 0 ∨ k = 1 ∨ k = 2 ∨ k = 3 ∨ k = 4 ∨ k = 5 by omega) with z | z | z | z | z | z <;> subst z
    · exact absurd w q0
    · exact Or.inl rfl
    · exact absurd w q2
    · exact absurd w q3
    · exact absurd w q4
    · exact absurd w q5
  · intro w
    rw [show k = 1 by omega]; exact ht.resolve_left q0
theorem Kd_tot {i : Nat → Int32} {c : Nat → Nat → Int32} (hI : mInv i c) (o : Int) : Kd (c 3) (c 6) o 0 ∨ Kd (c 3) (c 6) o 1 := by
  have h6 := K6_of hI
  have st : ∀ m k : Nat, k ≤ m → k ≤ 23 → Ch (kF (c 3)) (k : Int) 0 ∨ Ch (kF (c 3)) (k : Int) 1 := by
    intro m
    induction m with
    | zero => intro k h1 _; rw [show k = 0 by omega]; exact Or.inl Ch_rf
    | succ m ih =>
      intro k h1 h2
      have q : ((k : Int) ≤ 1 ∧ (c 3 k).toInt = -9) ∨ (2 ≤ (k : Int) ∧ (k : Int) ≤ 5 ∧ (c 3 k).toInt = 1) ∨ (6 ≤ (k : Int) ∧ 0 ≤ (c 3 k).toInt ∧ (c 3 k).toInt ≤ 23 ∧ (c 3 k).toInt < (k : Int)) := hI.2 3 k
      have e : kF (c 3) (k : Int) = (c 3 k).toInt := by rw [kF_in (by omega) (by omega), show ((k : Int)).toNat = k by omega]
      rcases q with q | q | q
      · by_cases z : k = 0
        · rw [z]; exact Or.inl Ch_rf
        · rw [show k = 1 by omega]; exact Or.inr Ch_rf
      · exact Or.inr (Ch_up (by rw [e, q.2.2]; exact Ch_rf))
      · have w := ih (c 3 k).toInt.toNat (by omega) (by omega)
        rw [show (((c 3 k).toInt.toNat : Nat) : Int) = (c 3 k).toInt by omega, ← e] at w
        rcases w with w | w
        · exact Or.inl (Ch_up w)
        · exact Or.inr (Ch_up w)
  have r : 0 ≤ (c 6 o.toNat).toInt ∧ (c 6 o.toNat).toInt ≤ 23 := hI.2 6 o.toNat
  have w := st 23 (c 6 o.toNat).toInt.toNat (by omega) (by omega)
  rw [show (((c 6 o.toNat).toInt.toNat : Nat) : Int) = (c 6 o.toNat).toInt by omega] at w
  exact w
theorem kS_sm {i : Nat → Int32} {c : Nat → Nat → Int32} {r : Int32} {o k : Int} (hI : mInv i c) (hk : 0 ≤ k ∧ k ≤ 5) (h : Sm r (Kd (c 3) (c 6) o k)) : 0 ≤ kS (c 3) (c 6) o ∧ kS (c 3) (c 6) o ≤ 5 ∧ ((r.toInt = 1 ∧ (kS (c 3) (c 6) o = k ∨ ((1 : Int) = k ∧ 1 < kS (c 3) (c 6) o))) ∨ (r.toInt = 0 ∧ ¬ (kS (c 3) (c 6) o = k ∨ ((1 : Int) = k ∧ 1 < kS (c 3) (c 6) o)))) := by
  have e := kS_e (k := k) (K6_of hI) (Kd_tot hI o) hk
  refine ⟨kS_r.1, kS_r.2, ?_⟩
  rcases h with ⟨a, b⟩ | ⟨a, b⟩
  · exact Or.inl ⟨a, by have := e.mp b; omega⟩
  · exact Or.inr ⟨a, fun q => b (e.mpr (by omega))⟩
/-- what may stand left, right -/
def FtL (f s b : Int) : Prop := (f ≤ 1 ∧ (s = 1 ∨ 3 ≤ s)) ∨ (f = 5 ∧ s = 0) ∨ (f = 6 ∧ ((b ≤ 1 ∧ (s = 2 ∨ s = 3)) ∨ b = 2 ∨ (b = 3 ∧ (s = 1 ∨ 3 ≤ s)) ∨ (b = 4 ∧ (s = 1 ∨ 3 ≤ s) ∧ ¬ s = 5) ∨ (5 ≤ b ∧ s = 3))) ∨ ((2 ≤ f ∧ f ≤ 4 ∨ f = 7) ∧ (s = 1 ∨ 3 ≤ s) ∧ ¬ s = 5)
def FtR (f s : Int) : Prop := (f = 0 ∧ (s = 0 ∨ s = 3)) ∨ (f = 1 ∧ s = 4) ∨ ((f = 2 ∨ f = 3) ∧ s = 5) ∨ (f = 4 ∧ ¬ s = 0) ∨ (f = 5 ∧ (s = 0 ∨ s = 2)) ∨ f = 6 ∨ (f = 7 ∧ (s = 2 ∨ s = 3))
def Fit (f s b z : Int) : Prop := FtL f s b ∧ (f = 6 ∨ FtR f z)
def WF (f a b c N : Int) : Prop := 0 ≤ f ∧ f ≤ 7 ∧ 0 ≤ a ∧ a < N ∧ ((f = 6 ∧ 0 ≤ b ∧ b ≤ 5 ∧ 0 ≤ c ∧ c ≤ 1) ∨ (¬ f = 6 ∧ 0 ≤ b ∧ b < N ∧ (¬ f = 5 ∨ (0 ≤ c ∧ c ≤ 9))))
/-- the sentence that stands where such a one would -/
def sFv (pb eb fb kb : Nat → Int32) (f a b c : Int) : Int32 := if f = 5 then eb (a * 10 + c).toNat else if f = 6 then fb (a * 6 + b).toNat else if f = 7 then kb b.toNat else pb a.toNat
def SX (F A B C : Nat → Int32) (v : Int32) (f a b c : Int) : Prop := ¬ v.toInt = -9 ∧ (F v.toNatClampNeg).toInt = f ∧ (A v.toNatClampNeg).toInt = a ∧ (B v.toNatClampNeg).toInt = b ∧ (C v.toNatClampNeg).toInt = c
def SyX (fb C : Nat → Int32) (a g v : Int) : Prop := ¬ (fb (a * 6 + g).toNat).toInt = -9 ∧ (C (fb (a * 6 + g).toNat).toNatClampNeg).toInt = v
/-- where a row of cells lays an object -/
def hF (ce : Nat → Int32) (x : Int) : Int := if 0 ≤ x ∧ x ≤ 29 ∧ ¬ (ce x.toNat).toInt % 256 = 255 then (ce x.toNat).toInt / 8 % 32 else -9
theorem hF_at {ce : Nat → Int32} {x r : Int32} (hx : 0 ≤ x.toInt ∧ x.toInt ≤ 29) (h : (r.toInt = -9 ∧ (ce x.toNatClampNeg).toInt % 256 = 255) ∨ (0 ≤ r.toInt ∧ r.toInt ≤ 29 ∧ ¬ (ce x.toNatClampNeg).toInt % 256 = 255 ∧ r.toInt = (ce x.toNatClampNeg).toInt / 8 % 32)) : hF ce x.toInt = r.toInt := by
  have e : x.toNatClampNeg = x.toInt.toNat := rfl
  rw [e] at h
  unfold hF
  rcases h with ⟨a, b⟩ | ⟨a, b, d, f⟩
  · rw [if_neg (fun q => q.2.2 b), a]
  · rw [if_pos ⟨hx.1, hx.2, d⟩, f]
theorem hF_9 {ce : Nat → Int32} : hF ce (-9) = -9 := if_neg (by omega)
def PlX (ce fb C : Nat → Int32) (f a b : Int) : Prop := a = b ∨ Ch (hF ce) (hF ce b) a ∨ (f = 3 ∧ SyX fb C a 4 0)
def DP (eb B : Nat → Int32) (a b : Int) (d : Nat) : Prop := ¬ (eb (a * 10 + (d : Int)).toNat).toInt = -9 ∧ (B (eb (a * 10 + (d : Int)).toNat).toNatClampNeg).toInt = b
def EB (F B S : Nat → Int32) (b : Int) (s : Nat) : Prop := (S s).toInt = 1 ∧ (F s).toInt = 5 ∧ (B s).toInt = b
def Two (P : Nat → Prop) (m : Int) : Prop := ∃ s1 s2 : Nat, s1 < s2 ∧ (s2 : Int) < m ∧ P s1 ∧ P s2
/-- k: none, one, or two and more of those below m -/
def CN (P : Nat → Prop) (m k : Int) : Prop := (k = 0 ∧ ∀ s : Nat, (s : Int) < m → ¬ P s) ∨ (k = 1 ∧ ∃ s1 : Nat, (s1 : Int) < m ∧ P s1 ∧ ∀ s : Nat, (s : Int) < m → P s → s = s1) ∨ (2 ≤ k ∧ Two P m)
theorem CN_0 {P : Nat → Prop} {m k : Int} (h : m = 0) (hk : k = 0) : CN P m k := Or.inl ⟨hk, fun s hs => by omega⟩
theorem CN_n {P : Nat → Prop} {x y : Int32} {k : Int} (h : CN P x.toInt k) (hx : 0 ≤ x.toInt) (hp : ¬ P x.toNatClampNeg) (hy : y.toInt = x.toInt + 1) : CN P y.toInt k := by
  have e : x.toNatClampNeg = x.toInt.toNat := rfl
  have no : ∀ s : Nat, (s : Int) < y.toInt → P s → (s : Int) < x.toInt := fun s hs q => by
    by_cases z : s = x.toNatClampNeg
    · rw [z] at q; exact absurd q hp
    · omega
  rcases h with ⟨a, b⟩ | ⟨a, s1, b, d, f⟩ | ⟨a, s1, s2, b, d, f, g⟩
  · exact Or.inl ⟨a, fun s hs q => b s (no s hs q) q⟩
  · exact Or.inr (Or.inl ⟨a, s1, by omega, d, fun s hs q => f s (no s hs q) q⟩)
  · exact Or.inr (Or.inr ⟨a, s1, s2, b, by omega, f, g⟩)
theorem CN_y {P : Nat → Prop} {x y : Int32} {k k2 : Int} (h : CN P x.toInt k) (hx : 0 ≤ x.toInt) (hp : P x.toNatClampNeg) (hy : y.toInt = x.toInt + 1) (hk : k2 = k + 1 ∨ (2 ≤ k ∧ k2 = k)) : CN P y.toInt k2 := by
  have e : x.toNatClampNeg = x.toInt.toNat := rfl
  rcases h with ⟨a, b⟩ | ⟨a, s1, b, d, f⟩ | ⟨a, s1, s2, b, d, f, g⟩
  · exact Or.inr (Or.inl ⟨by omega, x.toNatClampNeg, by omega, hp, fun s hs q => by
      by_cases z : s = x.toNatClampNeg
      · exact z
      · exact absurd q (b s (by omega))⟩)
  · exact Or.inr (Or.inr ⟨by omega, s1, x.toNatClampNeg, by omega, by omega, d, hp⟩)
  · exact Or.inr (Or.inr ⟨by omega, s1, s2, b, by omega, f, g⟩)
theorem CN_2 {P : Nat → Prop} {m k : Int} (h : CN P m k) (hk : 2 ≤ k) : Two P m := by
  rcases h with ⟨a, b⟩ | ⟨a, b⟩ | ⟨a, b⟩
  · exfalso; omega
  · exfalso; omega
  · exact b
theorem CN_1 {P : Nat → Prop} {m k : Int} (h : CN P m k) (hk : ¬ 2 ≤ k) : ¬ Two P m := by
  rintro ⟨s1, s2, q1, q2, p1, p2⟩
  rcases h with ⟨a, b⟩ | ⟨a, s, b, d, f⟩ | ⟨a, b⟩
  · exact b s2 q2 p2
  · have e1 := f s1 (by omega) p1
    have e2 := f s2 q2 p2
    omega
  · exact hk a
theorem CN_p {P : Nat → Prop} {m k : Int} (h : CN P m k) (hk : ¬ k = 0) : ∃ s : Nat, (s : Int) < m ∧ P s := by
  rcases h with ⟨a, b⟩ | ⟨a, s, b, d, f⟩ | ⟨a, s1, s2, b, d, f, g⟩
  · exact absurd a hk
  · exact ⟨s, b, d⟩
  · exact ⟨s2, d, g⟩
theorem CN_z {P : Nat → Prop} {m k : Int} (h : CN P m k) (hk : k = 0) : ¬ ∃ s : Nat, (s : Int) < m ∧ P s := by
  rintro ⟨s, q, p⟩
  rcases h with ⟨a, b⟩ | ⟨a, s, b, d, f⟩ | ⟨a, s1, s2, b, d, f, g⟩
  · exact b s q p
  · omega
  · omega
def DoX (eb F B S : Nat → Int32) (n a b : Int) : Prop := (∃ d : Nat, (d : Int) < 10 ∧ DP eb B a b d) ∨ Two (EB F B S b) n
def FlX (pb fb C ce : Nat → Int32) (a g v : Int) : Prop := (g = 0 ∧ v = 1 ∧ SyX fb C a 1 1) ∨ (g = 1 ∧ v = 1 ∧ SyX fb C a 0 1) ∨ (g = 4 ∧ v = 0 ∧ ¬ (ce a.toNat).toInt % 256 = 255 ∧ (ce a.toNat).toInt % 8 = 3 ∧ ¬ (pb a.toNat).toInt = -9)
def ClX (F B C S pb eb fb kb ce : Nat → Int32) (n z f a b c : Int) : Prop := ¬ (sFv pb eb fb kb f a b c).toInt = -9 ∨ (f = 5 ∧ z = 2 ∧ DoX eb F B S n a b) ∨ (f = 6 ∧ FlX pb fb C ce a b c) ∨ (f < 5 ∧ PlX ce fb C f a b)
/-- by which number is what a sentence speaks of -/
def PT (pb eb fb kb ce pb2 eb2 fb2 kb2 ce2 : Nat → Int32) (f a b c : Int) (v : Int32) : Prop :=
  (f = 5 ∧ eb2 = upd eb (a * 10 + c).toNat v ∧ pb2 = pb ∧ fb2 = fb ∧ kb2 = kb ∧ ce2 = ce) ∨ (f = 6 ∧ fb2 = upd fb (a * 6 + b).toNat v ∧ pb2 = pb ∧ eb2 = eb ∧ kb2 = kb ∧ ce2 = ce) ∨ (f = 7 ∧ kb2 = upd kb b.toNat v ∧ pb2 = pb ∧ eb2 = eb ∧ fb2 = fb ∧ ce2 = ce)
  ∨ (f < 5 ∧ pb2 = upd pb a.toNat v ∧ eb2 = eb ∧ fb2 = fb ∧ kb2 = kb ∧ ∃ w : Int32, ce2 = upd ce a.toNat w ∧ ((v.toInt = -9 ∧ w.toInt = 255) ∨ (¬ v.toInt = -9 ∧ w.toInt = b * 8 + f)))
/-- the last number of a sentence as it is kept -/
def lI (f c : Int32) : Int32 := if f.toInt = 5 ∨ f.toInt = 6 then c else 0
theorem lI_y {f c : Int32} (h : f.toInt = 5 ∨ f.toInt = 6) : lI f c = c := if_pos h
theorem lI_n {f c : Int32} (h : ¬ (f.toInt = 5 ∨ f.toInt = 6)) : lI f c = 0 := if_neg h
theorem sm_x {r : Int32} {P : Prop} (h : Sm r P) (c : ¬ r.toInt = 1) : ¬ P := by
  rcases h with h | h
  · exact absurd h.1 c
  · exact h.2
theorem sm_i {r : Int32} {P Q : Prop} (h : Sm r P) (e : P ↔ Q) : Sm r Q := by
  rcases h with h | h
  · exact Or.inl ⟨h.1, e.mp h.2⟩
  · exact Or.inr ⟨h.1, fun q => h.2 (e.mpr q)⟩
def sE (F A B C S : Nat → Int32) (f a b c : Int) (s : Nat) : Prop := (S s).toInt = 1 ∧ (F s).toInt = f ∧ (A s).toInt = a ∧ (B s).toInt = b ∧ (C s).toInt = c
def aP (F A B S : Nat → Int32) (a b : Int) (s : Nat) : Prop := (S s).toInt = 1 ∧ (F s).toInt = 5 ∧ (A s).toInt = a ∧ (B s).toInt = b
def KB (F B S : Nat → Int32) (b : Int) (s : Nat) : Prop := (S s).toInt = 1 ∧ (F s).toInt = 7 ∧ (B s).toInt = b
theorem fsF_x {P : Nat → Prop} {n : Int} : ¬ fsF P n.toNat = -9 ↔ ∃ s : Nat, (s : Int) < n ∧ P s := by
  constructor
  · intro h; have q := fsF_q h; exact ⟨_, q.1, q.2⟩
  · rintro ⟨s, a, b⟩ h; exact fsF_n h a b
def PbM (F A B C S : Nat → Int32) (n f a b : Int) : Prop := ¬ pL F A S n a = -9 ∨ Ch (fP F A B S n) b a ∨ (f = 3 ∧ ¬ fsF (sE F A B C S 6 a 4 0) n.toNat = -9)
def XbM (F A B C S : Nat → Int32) (n z a b c : Int) : Prop := ¬ fsF (bP F A C S a c) n.toNat = -9 ∨ (z = 2 ∧ (¬ fsF (aP F A B S a b) n.toNat = -9 ∨ Two (EB F B S b) n))
def FbM (F A B C S : Nat → Int32) (n a b c : Int) : Prop := ¬ fsF (sE F A B C S 6 a b (1 - c)) n.toNat = -9 ∨ (c = 1 ∧ (b = 0 ∨ b = 1) ∧ ¬ fsF (sE F A B C S 6 a (1 - b) 1) n.toNat = -9) ∨ (b = 4 ∧ c = 0 ∧ ¬ pL F A S n a = -9 ∧ (F (pL F A S n a).toNat).toInt = 3)
def BaM (F A B C S : Nat → Int32) (n z f a b c : Int) : Prop := (f < 5 ∧ PbM F A B C S n f a b) ∨ (f = 5 ∧ XbM F A B C S n z a b c) ∨ (f = 6 ∧ FbM F A B C S n a b c) ∨ (f = 7 ∧ ∃ s : Nat, (s : Int) < n ∧ KB F B S b s)
theorem Ba_4 {F A B C S : Nat → Int32} {n z f a b c : Int} (h : f < 5) : PbM F A B C S n f a b ↔ BaM F A B C S n z f a b c :=
  ⟨fun q => Or.inl ⟨h, q⟩, fun q => by rcases q with q | q | q | q; exact q.2; (exfalso; omega); (exfalso; omega); (exfalso; omega)⟩
theorem Ba_5 {F A B C S : Nat → Int32} {n z f a b c : Int} (h : f = 5) : XbM F A B C S n z a b c ↔ BaM F A B C S n z f a b c :=
  ⟨fun q => Or.inr (Or.inl ⟨h, q⟩), fun q => by rcases q with q | q | q | q; (exfalso; omega); exact q.2; (exfalso; omega); (exfalso; omega)⟩
theorem Ba_6 {F A B C S : Nat → Int32} {n z f a b c : Int} (h : f = 6) : FbM F A B C S n a b c ↔ BaM F A B C S n z f a b c :=
  ⟨fun q => Or.inr (Or.inr (Or.inl ⟨h, q⟩)), fun q => by rcases q with q | q | q | q; (exfalso; omega); (exfalso; omega); exact q.2; (exfalso; omega)⟩
theorem Ba_7 {F A B C S : Nat → Int32} {n z f a b c : Int} (h : f = 7) : (∃ s : Nat, (s : Int) < n ∧ KB F B S b s) ↔ BaM F A B C S n z f a b c :=
  ⟨fun q => Or.inr (Or.inr (Or.inr ⟨h, q⟩)), fun q => by rcases q with q | q | q | q; (exfalso; omega); (exfalso; omega); (exfalso; omega); exact q.2⟩
/-- what a sentence said does to the rows -/
def SyW (Q : Prop) (F A B C S F2 A2 B2 C2 S2 : Nat → Int32) (n n2 f a b l : Int32) : Prop := (¬ Q ∧ F2 = F ∧ A2 = A ∧ B2 = B ∧ C2 = C ∧ S2 = S ∧ n2.toInt = n.toInt) ∨ (Q ∧ F2 = upd F n.toNatClampNeg f ∧ A2 = upd A n.toNatClampNeg a ∧ B2 = upd B n.toNatClampNeg b ∧ C2 = upd C n.toNatClampNeg l ∧ S2 = upd S n.toNatClampNeg 1 ∧ n2.toInt = n.toInt + 1)
def AcM (F A B C S : Nat → Int32) (n N z y f a b c l : Int) : Prop := WF f a b c N ∧ Fit f z b y ∧ fsF (sE F A B C S f a b l) n.toNat = -9 ∧ n ≤ 199 ∧ ¬ BaM F A B C S n y f a b l
def AcX (F A B C S pb eb fb kb ce : Nat → Int32) (n N z y f a b c l : Int) : Prop := WF f a b c N ∧ Fit f z b y ∧ ¬ SX F A B C (sFv pb eb fb kb f a b l) f a b l ∧ n ≤ 199 ∧ ¬ ClX F B C S pb eb fb kb ce n y f a b l
theorem FF_of {i : Nat → Int32} {c : Nat → Nat → Int32} {f a b : Int} (hI : mInv i c) (h : Fit f (kS (c 3) (c 6) a) b (kS (c 3) (c 6) b)) : Im (f < 5) (¬ Kd (c 3) (c 6) a 0) ∧ Im (f = 5) (Kd (c 3) (c 6) a 0 ∧ (Kd (c 3) (c 6) b 0 ∨ Kd (c 3) (c 6) b 2)) := by
  have e0 := kS_e (k := 0) (K6_of hI) (Kd_tot hI a) (by omega)
  have e1 := kS_e (k := 0) (K6_of hI) (Kd_tot hI b) (by omega)
  have e2 := kS_e (k := 2) (K6_of hI) (Kd_tot hI b) (by omega)
  unfold Fit FtL FtR at h
  refine ⟨fun q w => ?_, fun q => ⟨e0.mpr (by omega), ?_⟩⟩
  · have := e0.mp w; omega
  · by_cases z : kS (c 3) (c 6) b = 0
    · exact Or.inl (e1.mpr (Or.inl z))
    · exact Or.inr (e2.mpr (by omega))
def PtW (Q : Prop) (pb eb fb kb ce pb2 eb2 fb2 kb2 ce2 : Nat → Int32) (f a b c : Int) (v : Int32) : Prop := (¬ Q ∧ pb2 = pb ∧ eb2 = eb ∧ fb2 = fb ∧ kb2 = kb ∧ ce2 = ce) ∨ (Q ∧ PT pb eb fb kb ce pb2 eb2 fb2 kb2 ce2 f a b c v)
def UnQ (S : Nat → Int32) (n s : Int32) : Prop := 0 ≤ s.toInt ∧ s.toInt < n.toInt ∧ (S s.toNatClampNeg).toInt = 1
def UnW (S S2 : Nat → Int32) (n s : Int32) : Prop := (¬ UnQ S n s ∧ S2 = S) ∨ (UnQ S n s ∧ S2 = upd S s.toNatClampNeg 0)

def SoR (pa so : Nat → Int32) (kn : Int32) : Prop := ∀ k : Nat, (k : Int) < kn.toInt → ∀ c : Int, 0 ≤ c → c ≤ 5 → (Ch (kF pa) (k : Int) c ↔ ((so k).toInt = c ∨ (c = 1 ∧ 1 < (so k).toInt)))
def KS (a b : Nat → Int32) (k kn : Int32) : Prop := (¬ (0 ≤ k.toInt ∧ k.toInt < kn.toInt ∧ kn.toInt ≤ 23) ∧ b = a) ∨ (0 ≤ k.toInt ∧ k.toInt < kn.toInt ∧ kn.toInt ≤ 23 ∧ b = upd a kn.toNatClampNeg (a k.toNatClampNeg))
def KU (a b : Nat → Int32) (k kn : Int32) : Prop := (¬ (0 ≤ k.toInt ∧ k.toInt < kn.toInt ∧ kn.toInt ≤ 23) ∧ b = a) ∨ (0 ≤ k.toInt ∧ k.toInt < kn.toInt ∧ kn.toInt ≤ 23 ∧ b = upd a kn.toNatClampNeg k)
def OU (a b : Nat → Int32) (k s1 kn ob : Int32) : Prop := (¬ (0 ≤ k.toInt ∧ k.toInt < kn.toInt ∧ 0 ≤ s1.toInt ∧ s1.toInt ≤ 99 ∧ ob.toInt ≤ 29) ∧ b = a) ∨ (0 ≤ k.toInt ∧ k.toInt < kn.toInt ∧ 0 ≤ s1.toInt ∧ s1.toInt ≤ 99 ∧ ob.toInt ≤ 29 ∧ b = upd a ob.toNatClampNeg k)
def PD (pa : Nat → Int32) : Prop := ∀ j : Nat, (pa j).toInt = -9 ∨ (0 ≤ (pa j).toInt ∧ (pa j).toInt < (j : Int))
def IsR (pa ko : Nat → Int32) (w k : Int32) (ob kn : Int) (r : Int32) : Prop := (¬ (0 ≤ w.toInt ∧ w.toInt < ob ∧ 0 ≤ k.toInt ∧ k.toInt < kn) ∧ r.toInt = -1) ∨ ((0 ≤ w.toInt ∧ w.toInt < ob ∧ 0 ≤ k.toInt ∧ k.toInt < kn) ∧ Sm r (Kd pa ko w.toInt k.toInt))
theorem sm_fl {r z : Int32} {P : Prop} (h : r = if (¬ z.toInt = 0) then 1 else 0) (hz : Sm z P) : Sm r P := by
  rcases hz with ⟨a, b⟩ | ⟨a, b⟩
  · rw [if_pos (by omega)] at h; subst h; exact sm_1 b
  · rw [if_neg (by omega)] at h; subst h; exact sm_0 b

def EnW (Q : Prop) (th tu th2 tu2 : Int32) : Prop := (¬ Q ∧ th2 = th ∧ tu2 = tu) ∨ (Q ∧ th2.toInt = 0 ∧ tu2.toInt = 0)
def EnM (Q : Prop) (p tu p2 tu2 : Int32) : Prop := (¬ Q ∧ p2 = p ∧ tu2 = tu) ∨ (Q ∧ p2.toInt = -9 ∧ tu2.toInt = 0)
def SzU (a b : Nat → Int32) (k s1 kn ob : Int32) : Prop := (¬ (0 ≤ k.toInt ∧ k.toInt < kn.toInt ∧ 0 ≤ s1.toInt ∧ s1.toInt ≤ 99 ∧ ob.toInt ≤ 29) ∧ b = a) ∨ (0 ≤ k.toInt ∧ k.toInt < kn.toInt ∧ 0 ≤ s1.toInt ∧ s1.toInt ≤ 99 ∧ ob.toInt ≤ 29 ∧ b = upd a ob.toNatClampNeg s1)
theorem SzU_e {a b a2 b2 : Nat → Int32} {k s1 kn ob k2 s2 kn2 ob2 : Int32} (h : a = a2) (h1 : SzU a b k s1 kn ob) (h2 : SzU a2 b2 k2 s2 kn2 ob2) (ek : k2.toInt = k.toInt) (es : s2.toInt = s1.toInt) (en : kn.toInt = kn2.toInt) (eo : ob.toInt = ob2.toInt) : b = b2 := by
  have q1 := Int32.toInt_inj.mp es
  have q2 := Int32.toInt_inj.mp eo
  subst h q1 q2
  rcases h1 with h1 | h1
  · rcases h2 with h2 | h2
    · rw [h1.2, h2.2]
    · exfalso; omega
  · rcases h2 with h2 | h2
    · exfalso; omega
    · rw [h1.2.2.2.2.2, h2.2.2.2.2.2]

def StB (k f v : Int32) (kn : Int) : Prop := ¬ (0 ≤ k.toInt ∧ k.toInt < kn) ∨ ¬ (0 ≤ f.toInt ∧ f.toInt ≤ 5) ∨ ¬ (v.toInt = -9 ∨ v.toInt = 0 ∨ v.toInt = 1)
def StU (a b : Nat → Int32) (k f v : Int32) (kn : Int) : Prop := (StB k f v kn ∧ b = a) ∨ (¬ StB k f v kn ∧ b = upd a (k.toInt * 6 + f.toInt).toNat v)
def StR (a : Nat → Int32) (k f v : Int32) (kn : Int) (r : Int32) : Prop := (StB k f v kn ∧ r.toInt = -1) ∨ (¬ StB k f v kn ∧ r = a (k.toInt * 6 + f.toInt).toNat)
theorem cl_t {x : Int32} {a : Int} (e : x.toInt = a) : x.toNatClampNeg = a.toNat := by rw [← e]; rfl

def wm_X10_addKind_e : List Cond := .code yX10_addKind cX10_addKind 2 (some .int) :: (([.fieldLink RX10 9 "TalePlay$World" "parents" "[I", .fieldLink RX10 33 "TalePlay$World" "kinds" "I", .fieldLink RX10 15 "TalePlay$World" "sorts" "[I"] : List Cond) ++ wsX100)
set_option maxHeartbeats 4000000 in
set_option maxRecDepth 100000 in
theorem x_X10_addKind_e (l : Launch) (D : va_G) (sz : Nat) (sk : Value) (a : Nat → Nat) (t : Nat → ClassId) (i : Nat → Int32) (q : Int64) (c : Nat → Nat → Int32) (d : Nat → Nat → Int64) (k1 : Int32) (hI : xInv i c) (hk1 : 0 ≤ k1.toInt ∧ k1.toInt ≤ 23) (hkn : (i 110).toInt ≤ 23) : Met l yX10_addKind wm_X10_addKind_e ({ frames := 0, cells := 0, slots := 0, locals := 0 }) (va_Pc [.ref (a 104), .int k1] (yB (a 186) D sz (xwT sk a t i q c d) (xtT t))) (va_Qi (fun (r : Int32) (u : MS) => (r.toInt = (i 110).toInt) ∧ xInv u.1 u.2.2.1 ∧ (∀ k, k ∉ ([110] : List Nat) → u.1 k = i k) ∧ (∀ k, k ∉ ([105, 106] : List Nat) → u.2.2.1 k = c k) ∧ ((u.1 110).toInt = (i 110).toInt + 1) ∧ ((u.2.2.1 105) = upd (c 105) (i 110).toNatClampNeg k1) ∧ ((u.2.2.1 106) = upd (c 106) (i 110).toNatClampNeg (c 106 k1.toNatClampNeg))) (oC D (va_A (xwT sk a t i q c d) sz) (fun u : MS => xwT sk a t u.1 u.2.1 u.2.2.1 u.2.2.2) (fun _ => [])) (va_A (xwT sk a t i q c d) sz)) 0 0 (va_A (xwT sk a t i q c d) sz) := by
  refine Met.ofW (cc := cX10_addKind) (maxL := 2) (ret := (some .int)) (by decide +kernel) rfl ?_
  intro p e s m args below meth cd s₁ B hml hv
  obtain ⟨rfl, ⟨hsz, hP, hK, hD0⟩, hN, hZ, hBW⟩ := hv
  have hx := B.exec
  have hb := B.bytes
  have hr := B.returns
  have hts := atoms_spec (ws := wm_X10_addKind_e) B.pre
  have hown : s.vm.findClass RX10 = some m.cls := findClass_of_methodNamed B.named
  have hlocks := B.notSynchronized
  subst hsz
  have hD := hD0.self (sz := s.heap.size)
  have hZ := xZ_A hZ hP hBW
  generalize hAe : va_A (xwT sk a t i q c d) s.heap.size = A at hD hZ ⊢
  have hA : ∀ q : Nat, s.heap.size ≤ q → A q := fun q h => by rw [← hAe]; exact Or.inr h
  have hS : va_S A s.heap s.heap [] := va_S.rf
  have hfi : ∀ k, k ∉ ([] : List Nat) → i k = i k := fun _ _ => rfl
  have hfc : ∀ k, k ∉ ([] : List Nat) → c k = c k := fun _ _ => rfl
  have hl := lv_entry ([.ref (a 104), .int k1]) (n := 2) (Nat.le_of_ble_eq_true rfl)
  rw [lg_entry_eq]
  generalize (lg_sl ([.ref (a 104), .int k1]) ++ List.replicate (2 - (lg_sl ([.ref (a 104), .int k1])).length) Slot.unset).toArray = ls at hl ⊢
  have hl : lv_has ls 2 [(0, .ref (a 104)), (1, .int k1)] := hl
  refine lv_aload_n hx hb dX10_addKind_0 rfl (lv_at hl 0 rfl) ?_
  refine xgT_W_parents hx hb hts (fun _ h => List.mem_cons_of_mem _ (List.mem_append_right _ h)) hown hK hP (hts (.fieldLink RX10 9 "TalePlay$World" "parents" "[I") (List.mem_cons_of_mem _ (List.mem_append_left _ (List.mem_of_getElem? (i := 0) rfl)))) dX10_addKind_1 ?_
  refine lv_aload_n hx hb dX10_addKind_4 rfl (lv_at hl 0 rfl) ?_
  refine xgT_W_kinds (v := (i 110)) rfl hx hb hts (fun _ h => List.mem_cons_of_mem _ (List.mem_append_right _ h)) hown hK hP (hts (.fieldLink RX10 33 "TalePlay$World" "kinds" "I") (List.mem_cons_of_mem _ (List.mem_append_left _ (List.mem_of_getElem? (i := 1) rfl)))) dX10_addKind_5 ?_
  have rb110_i : 6 ≤ (i 110).toInt ∧ (i 110).toInt ≤ 24 := hI.1 110
  refine lv_iload_n hx hb dX10_addKind_8 rfl (lv_at hl 1 rfl) ?_
  refine xsT_105 hx hb hK hP hD hS (vp_in_iff.mpr (by have h9 : (i 110).toInt = (i 110).toInt := rfl; omega)) dX10_addKind_9 (fun H locs hP hD hS => ?_)
  have hI := xInv_c hI (k := 105) (j := ((i 110) : Int32).toNatClampNeg) (x := k1) (show (k1 : Int32).toInt = -9 ∨ (0 ≤ (k1 : Int32).toInt ∧ (k1 : Int32).toInt ≤ 23) from by omega)
  have hfc : ∀ k, k ∉ ([105] : List Nat) → (updA c 105 ((i 110) : Int32).toNatClampNeg k1) k = c k := fr_cz hfc (by decide +kernel) (by decide +kernel)
  refine lv_aload_n hx hb dX10_addKind_10 rfl (lv_at hl 0 rfl) ?_
  refine xgT_W_sorts hx hb hts (fun _ h => List.mem_cons_of_mem _ (List.mem_append_right _ h)) hown hK hP (hts (.fieldLink RX10 15 "TalePlay$World" "sorts" "[I") (List.mem_cons_of_mem _ (List.mem_append_left _ (List.mem_of_getElem? (i := 2) rfl)))) dX10_addKind_11 ?_
  refine lv_aload_n hx hb dX10_addKind_14 rfl (lv_at hl 0 rfl) ?_
  refine xgT_W_kinds (v := (i 110)) rfl hx hb hts (fun _ h => List.mem_cons_of_mem _ (List.mem_append_right _ h)) hown hK hP (hts (.fieldLink RX10 33 "TalePlay$World" "kinds" "I") (List.mem_cons_of_mem _ (List.mem_append_left _ (List.mem_of_getElem? (i := 1) rfl)))) dX10_addKind_15 ?_
  refine lv_aload_n hx hb dX10_addKind_18 rfl (lv_at hl 0 rfl) ?_
  refine xgT_W_sorts hx hb hts (fun _ h => List.mem_cons_of_mem _ (List.mem_append_right _ h)) hown hK hP (hts (.fieldLink RX10 15 "TalePlay$World" "sorts" "[I") (List.mem_cons_of_mem _ (List.mem_append_left _ (List.mem_of_getElem? (i := 2) rfl)))) dX10_addKind_19 ?_
  refine lv_iload_n hx hb dX10_addKind_22 rfl (lv_at hl 1 rfl) ?_
  refine xlT_106 hx hb hK hP (vp_in_iff.mpr (by have h9 : k1.toInt = k1.toInt := rfl; omega)) dX10_addKind_23 (fun x1 ex1 => ?_)
  have rx1 : 0 ≤ x1.toInt ∧ x1.toInt ≤ 5 := by rw [ex1]; exact hI.2 106 _
  refine xsT_106 hx hb hK hP hD hS (vp_in_iff.mpr (by have h9 : (i 110).toInt = (i 110).toInt := rfl; omega)) dX10_addKind_24 (fun H locs hP hD hS => ?_)
  have hI := xInv_c hI (k := 106) (j := ((i 110) : Int32).toNatClampNeg) (x := x1) (show 0 ≤ (x1 : Int32).toInt ∧ (x1 : Int32).toInt ≤ 5 from by omega)
  have hfc : ∀ k, k ∉ ([105, 106] : List Nat) → (updA (updA c 105 ((i 110) : Int32).toNatClampNeg k1) 106 ((i 110) : Int32).toNatClampNeg x1) k = c k := fr_cz hfc (by decide +kernel) (by decide +kernel)
  refine lv_aload_n hx hb dX10_addKind_25 rfl (lv_at hl 0 rfl) ?_
  refine lv_dup hx hb dX10_addKind_26 rfl ?_
  refine xgT_W_kinds (v := (i 110)) rfl hx hb hts (fun _ h => List.mem_cons_of_mem _ (List.mem_append_right _ h)) hown hK hP (hts (.fieldLink RX10 33 "TalePlay$World" "kinds" "I") (List.mem_cons_of_mem _ (List.mem_append_left _ (List.mem_of_getElem? (i := 1) rfl)))) dX10_addKind_27 ?_
  refine lv_dup_x1 hx hb dX10_addKind_30 rfl rfl ?_
  refine lv_iconst (v := 1) hx hb dX10_addKind_31 (by decide +kernel) ?_
  refine lv_iadd hx hb dX10_addKind_32 ?_
  refine lv_topi (fun x2 ex2 => ?_)
  have tx2 := ti_add (a := (i 110).toInt) (b := 1) ex2 rfl (by decide +kernel) (by omega) (by omega)
  refine xpT_W_kinds hx hb hts (fun _ h => List.mem_cons_of_mem _ (List.mem_append_right _ h)) hown hK hP hD hS (hts (.fieldLink RX10 33 "TalePlay$World" "kinds" "I") (List.mem_cons_of_mem _ (List.mem_append_left _ (List.mem_of_getElem? (i := 1) rfl)))) rfl rfl dX10_addKind_33 (fun H locs hP hD hS => ?_)
  have hI := xInv_i hI (k := 110) (v := x2) (show 6 ≤ (x2 : Int32).toInt ∧ (x2 : Int32).toInt ≤ 24 from by have h9 : x2.toInt = ((i 110).toInt + 1) := tx2; omega)
  have hfi : ∀ k, k ∉ ([110] : List Nat) → (upd i 110 x2) k = i k := fr_iz hfi (by decide +kernel) (by decide +kernel)
  exact rw_iret ((upd i 110 x2), q, (updA (updA c 105 ((i 110) : Int32).toNatClampNeg k1) 106 ((i 110) : Int32).toNatClampNeg x1), d) hx hb hr hlocks hS (hK.sub (tys' := []) [] rfl) hP hD dX10_addKind_36 ⟨(show (i 110).toInt = (i 110).toInt from by omega), hI, fr_w hfi (by decide +kernel), fr_w hfc (by decide +kernel), (show (x2 : Int32).toInt = (i 110).toInt + 1 from by have h50 : x2.toInt = ((i 110).toInt + 1) := tx2; omega), (show ((updA (updA c 105 ((i 110) : Int32).toNatClampNeg k1) 106 ((i 110) : Int32).toNatClampNeg x1) 105) = upd (c 105) (i 110).toNatClampNeg k1 from rfl), (show ((updA (updA c 105 ((i 110) : Int32).toNatClampNeg k1) 106 ((i 110) : Int32).toNatClampNeg x1) 106) = upd (c 106) (i 110).toNatClampNeg (c 106 k1.toNatClampNeg) from by show upd (c 106) (i 110).toNatClampNeg x1 = _; rw [ex1]; rfl)⟩

def wm_X11_kind_e : List Cond := .code yX11_kind cX11_kind 2 (some .int) :: (([.fieldLink RX11 10 "TalePlay" "world" "LTalePlay$World;", .methodLink RX11 80 yX10_hasKind, .instanceMethod yX10_hasKind, .selects RX10 yX10_hasKind yX10_hasKind, .initialized RX10, .code yX10_hasKind cX10_hasKind 2 (some .boolean), .fieldLink RX10 33 "TalePlay$World" "kinds" "I", .fieldLink RX11 84 "TalePlay$World" "kinds" "I", .methodLink RX11 87 yX10_addKind, .instanceMethod yX10_addKind, .selects RX10 yX10_addKind yX10_addKind, .code yX10_addKind cX10_addKind 2 (some .int), .fieldLink RX10 9 "TalePlay$World" "parents" "[I", .fieldLink RX10 15 "TalePlay$World" "sorts" "[I"] : List Cond) ++ wsX110 ++ wsX100)
set_option maxRecDepth 20000 in
theorem gm_X11_kind_e_X10_hasKind_80 : GoodIn wm_X11_kind_e (wsV RX11 80 RX10 yX10_hasKind wm_X10_hasKind) := goodIn_w (List.forall_mem_append.mpr ⟨List.forall_mem_cons.mpr ⟨List.mem_cons_of_mem _ (List.mem_append_left _ (List.mem_append_left _ (List.mem_of_getElem? (i := 1) rfl))), List.forall_mem_cons.mpr ⟨List.mem_cons_of_mem _ (List.mem_append_left _ (List.mem_append_left _ (List.mem_of_getElem? (i := 2) rfl))), List.forall_mem_cons.mpr ⟨List.mem_cons_of_mem _ (List.mem_append_left _ (List.mem_append_left _ (List.mem_of_getElem? (i := 3) rfl))), List.forall_mem_cons.mpr ⟨List.mem_cons_of_mem _ (List.mem_append_left _ (List.mem_append_left _ (List.mem_of_getElem? (i := 4) rfl))), (fun _ h => absurd h List.not_mem_nil)⟩⟩⟩⟩, List.forall_mem_cons.mpr ⟨List.mem_cons_of_mem _ (List.mem_append_left _ (List.mem_append_left _ (List.mem_of_getElem? (i := 5) rfl))), List.forall_mem_append.mpr ⟨List.forall_mem_cons.mpr ⟨List.mem_cons_of_mem _ (List.mem_append_left _ (List.mem_append_left _ (List.mem_of_getElem? (i := 6) rfl))), (fun _ h => absurd h List.not_mem_nil)⟩, (fun _ h => List.mem_cons_of_mem _ (List.mem_append_right _ h))⟩⟩⟩) (by decide +kernel)
set_option maxRecDepth 20000 in
theorem gm_X11_kind_e_X10_addKind_e_87 : GoodIn wm_X11_kind_e (wsV RX11 87 RX10 yX10_addKind wm_X10_addKind_e) := goodIn_w (List.forall_mem_append.mpr ⟨List.forall_mem_cons.mpr ⟨List.mem_cons_of_mem _ (List.mem_append_left _ (List.mem_append_left _ (List.mem_of_getElem? (i := 8) rfl))), List.forall_mem_cons.mpr ⟨List.mem_cons_of_mem _ (List.mem_append_left _ (List.mem_append_left _ (List.mem_of_getElem? (i := 9) rfl))), List.forall_mem_cons.mpr ⟨List.mem_cons_of_mem _ (List.mem_append_left _ (List.mem_append_left _ (List.mem_of_getElem? (i := 10) rfl))), List.forall_mem_cons.mpr ⟨List.mem_cons_of_mem _ (List.mem_append_left _ (List.mem_append_left _ (List.mem_of_getElem? (i := 4) rfl))), (fun _ h => absurd h List.not_mem_nil)⟩⟩⟩⟩, List.forall_mem_cons.mpr ⟨List.mem_cons_of_mem _ (List.mem_append_left _ (List.mem_append_left _ (List.mem_of_getElem? (i := 11) rfl))), List.forall_mem_append.mpr ⟨List.forall_mem_cons.mpr ⟨List.mem_cons_of_mem _ (List.mem_append_left _ (List.mem_append_left _ (List.mem_of_getElem? (i := 12) rfl))), List.forall_mem_cons.mpr ⟨List.mem_cons_of_mem _ (List.mem_append_left _ (List.mem_append_left _ (List.mem_of_getElem? (i := 6) rfl))), List.forall_mem_cons.mpr ⟨List.mem_cons_of_mem _ (List.mem_append_left _ (List.mem_append_left _ (List.mem_of_getElem? (i := 13) rfl))), (fun _ h => absurd h List.not_mem_nil)⟩⟩⟩, (fun _ h => List.mem_cons_of_mem _ (List.mem_append_right _ h))⟩⟩⟩) (by decide +kernel)
set_option maxHeartbeats 4000000 in
set_option maxRecDepth 100000 in
theorem x_X11_kind_e (l : Launch) (D : va_G) (sz : Nat) (sk : Value) (a : Nat → Nat) (t : Nat → ClassId) (i : Nat → Int32) (q : Int64) (c : Nat → Nat → Int32) (d : Nat → Nat → Int64) (k1 : Int32) (hI : xInv i c) : Met l yX11_kind wm_X11_kind_e ({ frames := 1, cells := 0, slots := 0, locals := 21 }) (va_Pc [.ref (a 100), .int k1] (yB (a 186) D sz (xwT sk a t i q c d) (xtT t))) (va_Qi (fun (r : Int32) (u : MS) => True ∧ xInv u.1 u.2.2.1 ∧ (∀ k, k ∉ ([110] : List Nat) → u.1 k = i k) ∧ (∀ k, k ∉ ([105, 106] : List Nat) → u.2.2.1 k = c k) ∧ ((¬ (0 ≤ k1.toInt ∧ k1.toInt < (i 110).toInt) ∧ r.toInt = -1 ∧ (u.1 110).toInt = (i 110).toInt) ∨ (0 ≤ k1.toInt ∧ k1.toInt < (i 110).toInt ∧ 24 ≤ (i 110).toInt ∧ r.toInt = -2 ∧ (u.1 110).toInt = (i 110).toInt) ∨ (0 ≤ k1.toInt ∧ k1.toInt < (i 110).toInt ∧ (i 110).toInt ≤ 23 ∧ r.toInt = (i 110).toInt ∧ (u.1 110).toInt = (i 110).toInt + 1)) ∧ (KU (c 105) (u.2.2.1 105) k1 (i 110)) ∧ (KS (c 106) (u.2.2.1 106) k1 (i 110))) (oC D (va_A (xwT sk a t i q c d) sz) (fun u : MS => xwT sk a t u.1 u.2.1 u.2.2.1 u.2.2.2) (fun _ => [])) (va_A (xwT sk a t i q c d) sz)) 0 0 (va_A (xwT sk a t i q c d) sz) := by
  refine Met.ofW (cc := cX11_kind) (maxL := 2) (ret := (some .int)) (by decide +kernel) rfl ?_
  intro p e s m args below meth cd s₁ B hml hv
  obtain ⟨rfl, ⟨hsz, hP, hK, hD0⟩, hN, hZ, hBW⟩ := hv
  have hx := B.exec
  have hb := B.bytes
  have hr := B.returns
  have hts := atoms_spec (ws := wm_X11_kind_e) B.pre
  have hown : s.vm.findClass RX11 = some m.cls := findClass_of_methodNamed B.named
  have hlocks := B.notSynchronized
  subst hsz
  have hD := hD0.self (sz := s.heap.size)
  have hZ := xZ_A hZ hP hBW
  generalize hAe : va_A (xwT sk a t i q c d) s.heap.size = A at hD hZ ⊢
  have hA : ∀ q : Nat, s.heap.size ≤ q → A q := fun q h => by rw [← hAe]; exact Or.inr h
  have hS : va_S A s.heap s.heap [] := va_S.rf
  have hfi : ∀ k, k ∉ ([] : List Nat) → i k = i k := fun _ _ => rfl
  have hfc : ∀ k, k ∉ ([] : List Nat) → c k = c k := fun _ _ => rfl
  have hl := lv_entry ([.ref (a 100), .int k1]) (n := 2) (Nat.le_of_ble_eq_true rfl)
  rw [lg_entry_eq]
  generalize (lg_sl ([.ref (a 100), .int k1]) ++ List.replicate (2 - (lg_sl ([.ref (a 100), .int k1])).length) Slot.unset).toArray = ls at hl ⊢
  have hl : lv_has ls 2 [(0, .ref (a 100)), (1, .int k1)] := hl
  have rb110_i : 6 ≤ (i 110).toInt ∧ (i 110).toInt ≤ 24 := hI.1 110
  refine lv_aload_n hx hb dX11_kind_0 rfl (lv_at hl 0 rfl) ?_
  refine xgT_X_world hx hb hts (fun _ h => List.mem_cons_of_mem _ (List.mem_append_left _ (List.mem_append_right _ h))) hown hK hP (hts (.fieldLink RX11 10 "TalePlay" "world" "LTalePlay$World;") (List.mem_cons_of_mem _ (List.mem_append_left _ (List.mem_append_left _ (List.mem_of_getElem? (i := 0) rfl))))) dX11_kind_1 ?_
  refine lv_iload_n hx hb dX11_kind_4 rfl (lv_at hl 1 rfl) ?_
  refine ro_calli (va_runV (As := [.int k1]) (rest := []) ⟨hx, hb, hml, hown, hts⟩ (x_X10_hasKind l D s.heap.size .null a t i q c d k1 hI ) (cwV 1 hts gm_X11_kind_e_X10_hasKind_80 rfl rfl rfl (by decide +kernel) ⟨Nat.le_of_ble_eq_true rfl, Nat.le_of_ble_eq_true rfl⟩) (yA_V hN (xZ_k hZ hS hA) (xkT_W hK) (xuT_W (sk := sk) hP) (ci := 10) (q0 := 0) rfl rfl) rfl rfl hl.1 rfl (lv_room (Nat.le_of_ble_eq_true rfl)) dX11_kind_5 ⟨Nat.le_of_ble_eq_true rfl, Nat.le_of_ble_eq_true rfl⟩) hS hA hP (fun r1 u1 H locs hw1 hP hS => ?_)
  have hw1 : r1 = if (0 ≤ k1.toInt ∧ k1.toInt < (i 110).toInt) then 1 else 0 := hw1
  refine lv_if_ne (tgt := 13) hx hb dX11_kind_8 (by decide +kernel) (fun c2 => ?_) (fun c2 => ?_)
  · have f2 := fl_t hw1 c2
    refine lv_aload_n hx hb dX11_kind_13 rfl (lv_at hl 0 rfl) ?_
    refine xgT_X_world hx hb hts (fun _ h => List.mem_cons_of_mem _ (List.mem_append_left _ (List.mem_append_right _ h))) hown hK hP (hts (.fieldLink RX11 10 "TalePlay" "world" "LTalePlay$World;") (List.mem_cons_of_mem _ (List.mem_append_left _ (List.mem_append_left _ (List.mem_of_getElem? (i := 0) rfl))))) dX11_kind_14 ?_
    refine xgT_W_kinds (v := (i 110)) rfl hx hb hts (fun _ h => List.mem_cons_of_mem _ (List.mem_append_right _ h)) hown hK hP (hts (.fieldLink RX11 84 "TalePlay$World" "kinds" "I") (List.mem_cons_of_mem _ (List.mem_append_left _ (List.mem_append_left _ (List.mem_of_getElem? (i := 7) rfl))))) dX11_kind_17 ?_
    refine lv_bipush (v := 24) hx hb dX11_kind_20 (by decide +kernel) ?_
    refine lv_icmp_lt (tgt := 28) hx hb dX11_kind_22 (by decide +kernel) (fun c3 => ?_) (fun c3 => ?_)
    · have f3 := (ti_lt (a := (i 110).toInt) (b := 24) rfl (by decide +kernel)).mp c3
      refine lv_aload_n hx hb dX11_kind_28 rfl (lv_at hl 0 rfl) ?_
      refine xgT_X_world hx hb hts (fun _ h => List.mem_cons_of_mem _ (List.mem_append_left _ (List.mem_append_right _ h))) hown hK hP (hts (.fieldLink RX11 10 "TalePlay" "world" "LTalePlay$World;") (List.mem_cons_of_mem _ (List.mem_append_left _ (List.mem_append_left _ (List.mem_of_getElem? (i := 0) rfl))))) dX11_kind_29 ?_
      refine lv_iload_n hx hb dX11_kind_32 rfl (lv_at hl 1 rfl) ?_
      refine al_calli (va_runV (As := [.int k1]) (rest := []) ⟨hx, hb, hml, hown, hts⟩ (x_X10_addKind_e l D H.size sk a t i q c d k1 hI (show 0 ≤ k1.toInt ∧ k1.toInt ≤ 23 from by omega) (show ((i 110) : Int32).toInt ≤ 23 from by omega)) (cwV 1 hts gm_X11_kind_e_X10_addKind_e_87 rfl rfl rfl (by decide +kernel) ⟨Nat.le_of_ble_eq_true rfl, Nat.le_of_ble_eq_true rfl⟩) (yB_V hN (xZ_k hZ hS hA) (xZ_n hZ hD) hK hP hD (ci := 10) (q0 := 2) rfl rfl) rfl rfl hl.1 rfl (lv_room (Nat.le_of_ble_eq_true rfl)) dX11_kind_33 ⟨Nat.le_of_ble_eq_true rfl, Nat.le_of_ble_eq_true rfl⟩) hS hA hP hD (fun r4 u4 H locs hw4 hP hD hS => ?_)
      obtain ⟨i4, q4, c4, d4⟩ := u4
      have hw4 : (r4.toInt = (i 110).toInt) ∧ xInv i4 c4 ∧ (∀ k, k ∉ ([110] : List Nat) → i4 k = i k) ∧ (∀ k, k ∉ ([105, 106] : List Nat) → c4 k = c k) ∧ ((i4 110).toInt = (i 110).toInt + 1) ∧ ((c4 105) = upd (c 105) (i 110).toNatClampNeg k1) ∧ ((c4 106) = upd (c 106) (i 110).toNatClampNeg (c 106 k1.toNatClampNeg)) := hw4
      obtain ⟨hw4, hI, hei4, hec4, hxp4_0, hxp4_1, hxp4_2⟩ := hw4
      have hxp4_0 : (i4 110).toInt = (i 110).toInt + 1 := hxp4_0
      have hxp4_1 : (c4 105) = upd (c 105) (i 110).toNatClampNeg k1 := hxp4_1
      have hxp4_2 : (c4 106) = upd (c 106) (i 110).toNatClampNeg (c 106 k1.toNatClampNeg) := hxp4_2
      have hfi : ∀ k, k ∉ ([110] : List Nat) → i4 k = i k := fr_z hfi hei4 (by decide +kernel) (by decide +kernel)
      have hfc : ∀ k, k ∉ ([105, 106] : List Nat) → c4 k = c k := fr_z hfc hec4 (by decide +kernel) (by decide +kernel)
      exact rw_iret (i4, q4, c4, d4) hx hb hr hlocks hS (hK.sub (tys' := []) [] rfl) hP hD dX11_kind_36 ⟨trivial, hI, fr_w hfi (by decide +kernel), fr_w hfc (by decide +kernel), (show (¬ (0 ≤ k1.toInt ∧ k1.toInt < (i 110).toInt) ∧ (r4 : Int32).toInt = -1 ∧ ((i4 110) : Int32).toInt = (i 110).toInt) ∨ (0 ≤ k1.toInt ∧ k1.toInt < (i 110).toInt ∧ 24 ≤ (i 110).toInt ∧ (r4 : Int32).toInt = -2 ∧ ((i4 110) : Int32).toInt = (i 110).toInt) ∨ (0 ≤ k1.toInt ∧ k1.toInt < (i 110).toInt ∧ (i 110).toInt ≤ 23 ∧ (r4 : Int32).toInt = (i 110).toInt ∧ ((i4 110) : Int32).toInt = (i 110).toInt + 1) from by omega), (show KU (c 105) (c4 105) k1 (i 110) from Or.inr ⟨by omega, by omega, by omega, hxp4_1⟩), (show KS (c 106) (c4 106) k1 (i 110) from Or.inr ⟨by omega, by omega, by omega, hxp4_2⟩)⟩
    · have f3 := mt (ti_lt (a := (i 110).toInt) (b := 24) rfl (by decide +kernel)).mpr c3
      refine lv_bipush (v := (-2)) hx hb dX11_kind_25 (by decide +kernel) ?_
      exact rw_iret (i, q, c, d) hx hb hr hlocks hS (hK.sub (tys' := []) [] rfl) hP hD dX11_kind_27 ⟨trivial, hI, fr_w hfi (by decide +kernel), fr_w hfc (by decide +kernel), (show (¬ (0 ≤ k1.toInt ∧ k1.toInt < (i 110).toInt) ∧ ((-2) : Int32).toInt = -1 ∧ ((i 110) : Int32).toInt = (i 110).toInt) ∨ (0 ≤ k1.toInt ∧ k1.toInt < (i 110).toInt ∧ 24 ≤ (i 110).toInt ∧ ((-2) : Int32).toInt = -2 ∧ ((i 110) : Int32).toInt = (i 110).toInt) ∨ (0 ≤ k1.toInt ∧ k1.toInt < (i 110).toInt ∧ (i 110).toInt ≤ 23 ∧ ((-2) : Int32).toInt = (i 110).toInt ∧ ((i 110) : Int32).toInt = (i 110).toInt + 1) from by have h53 : ((-2) : Int32).toInt = -2 := (by decide +kernel); omega), (show KU (c 105) (c 105) k1 (i 110) from Or.inl ⟨by omega, rfl⟩), (show KS (c 106) (c 106) k1 (i 110) from Or.inl ⟨by omega, rfl⟩)⟩
  · have f2 := fl_f hw1 c2
    refine lv_iconst (v := (-1)) hx hb dX11_kind_11 (by decide +kernel) ?_
    exact rw_iret (i, q, c, d) hx hb hr hlocks hS (hK.sub (tys' := []) [] rfl) hP hD dX11_kind_12 ⟨trivial, hI, fr_w hfi (by decide +kernel), fr_w hfc (by decide +kernel), (show (¬ (0 ≤ k1.toInt ∧ k1.toInt < (i 110).toInt) ∧ ((-1) : Int32).toInt = -1 ∧ ((i 110) : Int32).toInt = (i 110).toInt) ∨ (0 ≤ k1.toInt ∧ k1.toInt < (i 110).toInt ∧ 24 ≤ (i 110).toInt ∧ ((-1) : Int32).toInt = -2 ∧ ((i 110) : Int32).toInt = (i 110).toInt) ∨ (0 ≤ k1.toInt ∧ k1.toInt < (i 110).toInt ∧ (i 110).toInt ≤ 23 ∧ ((-1) : Int32).toInt = (i 110).toInt ∧ ((i 110) : Int32).toInt = (i 110).toInt + 1) from by have h53 : ((-1) : Int32).toInt = -1 := (by decide +kernel); omega), (show KU (c 105) (c 105) k1 (i 110) from Or.inl ⟨by omega, rfl⟩), (show KS (c 106) (c 106) k1 (i 110) from Or.inl ⟨by omega, rfl⟩)⟩

set_option maxHeartbeats 4000000 in
set_option maxRecDepth 100000 in
theorem s_X12_kind_e (l : Launch) (D : va_G) (sz : Nat) (o : Nat) (a : Nat → Nat) (t : Nat → ClassId) (i : Nat → Int32) (q : Int64) (c : Nat → Nat → Int32) (d : Nat → Nat → Int64) (p1 : Int32) (hI : mInv i c) (hs_S : SJ (c 3) (c 6) (c 9) (c 10) (c 11) (c 13) (i 2).toInt (i 5).toInt (i 8).toInt) (hs_J : TJ (c 3) (c 6) (c 23) (c 24) (c 29) (c 30) (i 5).toInt (i 22).toInt (i 27).toInt) : Met l yX12_kind wm_X12_kind ({ frames := 1, cells := 0, slots := 0, locals := 25 }) (va_Pc [.ref o, .int p1] (pB D sz (mW o a t i q c d) (mT t))) (va_Qi (fun (r : Int32) (u : MS) => True ∧ mInv u.1 u.2.2.1 ∧ (∀ k, k ∉ ([2] : List Nat) → u.1 k = i k) ∧ (∀ k, k ∉ ([3] : List Nat) → u.2.2.1 k = c k) ∧ (SJ (u.2.2.1 3) (u.2.2.1 6) (u.2.2.1 9) (u.2.2.1 10) (u.2.2.1 11) (u.2.2.1 13) (u.1 2).toInt (u.1 5).toInt (u.1 8).toInt) ∧ (TJ (u.2.2.1 3) (u.2.2.1 6) (u.2.2.1 23) (u.2.2.1 24) (u.2.2.1 29) (u.2.2.1 30) (u.1 5).toInt (u.1 22).toInt (u.1 27).toInt) ∧ ((¬ (0 ≤ p1.toInt ∧ p1.toInt < (i 2).toInt) ∧ r.toInt = -1 ∧ (u.1 2).toInt = (i 2).toInt) ∨ (0 ≤ p1.toInt ∧ p1.toInt < (i 2).toInt ∧ 24 ≤ (i 2).toInt ∧ r.toInt = -2 ∧ (u.1 2).toInt = (i 2).toInt) ∨ (0 ≤ p1.toInt ∧ p1.toInt < (i 2).toInt ∧ (i 2).toInt ≤ 23 ∧ r.toInt = (i 2).toInt ∧ (u.1 2).toInt = (i 2).toInt + 1)) ∧ (KU (c 3) (u.2.2.1 3) p1 (i 2))) (oC D (va_A (mW o a t i q c d) sz) (fun u : MS => mW o a t u.1 u.2.1 u.2.2.1 u.2.2.2) (fun _ => [])) (va_A (mW o a t i q c d) sz)) 0 0 (va_A (mW o a t i q c d) sz) := by
  refine Met.ofW (cc := cX12_kind) (maxL := 2) (ret := (some .int)) (by decide +kernel) rfl ?_
  intro p e s m args below meth cd s₁ B hml hv
  obtain ⟨rfl, hsz, hP, hK, hD0⟩ := hv
  have hx := B.exec
  have hb := B.bytes
  have hr := B.returns
  have hts := atoms_spec (ws := wm_X12_kind) B.pre
  have hown : s.vm.findClass RX12 = some m.cls := findClass_of_methodNamed B.named
  have hlocks := B.notSynchronized
  subst hsz
  have hD := hD0.self (sz := s.heap.size)
  generalize hAe : va_A (mW o a t i q c d) s.heap.size = A at hD ⊢
  have hA : ∀ q : Nat, s.heap.size ≤ q → A q := fun q h => by rw [← hAe]; exact Or.inr h
  have hS : va_S A s.heap s.heap [] := va_S.rf
  have hfi : ∀ k, k ∉ ([] : List Nat) → i k = i k := fun _ _ => rfl
  have hfc : ∀ k, k ∉ ([] : List Nat) → c k = c k := fun _ _ => rfl
  have hl := lv_entry ([.ref o, .int p1]) (n := 2) (Nat.le_of_ble_eq_true rfl)
  rw [lg_entry_eq]
  generalize (lg_sl ([.ref o, .int p1]) ++ List.replicate (2 - (lg_sl ([.ref o, .int p1])).length) Slot.unset).toArray = ls at hl ⊢
  have hl : lv_has ls 2 [(0, .ref o), (1, .int p1)] := hl
  have hI0 := hI
  have rb2_i : 6 ≤ (i 2).toInt ∧ (i 2).toInt ≤ 24 := hI.1 2
  refine lv_iload_n hx hb dX12_kind_0 rfl (lv_at hl 1 rfl) ?_
  refine lv_i2l (v := p1.toInt64) hx hb dX12_kind_1 rfl ?_
  refine lv_lconst (v := 0) hx hb dX12_kind_2 (by decide +kernel) ?_
  refine lv_aload_n hx hb dX12_kind_3 rfl (lv_at hl 0 rfl) ?_
  refine mget_2 (v := (i 2)) rfl hx hb hts (fun _ h => List.mem_cons_of_mem _ (List.mem_append_right _ h)) hown hK hP (hts (.fieldLink RX12 151 "TalePlayModel" "kinds" "I") (List.mem_cons_of_mem _ (List.mem_append_left _ (List.mem_of_getElem? (i := 0) rfl)))) dX12_kind_4 ?_
  refine lv_iconst (v := 1) hx hb dX12_kind_7 (by decide +kernel) ?_
  refine lv_isub hx hb dX12_kind_8 ?_
  refine lv_topi (fun x1 ex1 => ?_)
  have tx1 := ti_sub (a := (i 2).toInt) (b := 1) ex1 rfl (by decide +kernel) (by omega) (by omega)
  refine lv_i2l (v := x1.toInt64) hx hb dX12_kind_9 rfl ?_
  have hPc := hP.sub (ws' := []) [] rfl
  have hKc := hK.sub (tys' := []) [] rfl
  refine ro_calli (va_runS (As := [.long p1.toInt64, .long 0, .long x1.toInt64]) (rest := []) ⟨hx, hb, hml, hown, hts⟩ (c_X12_in l D s.heap.size p1.toInt64 0 x1.toInt64 p1.toInt 0 ((i 2).toInt - 1) ((Int32.toInt_toInt64 p1).trans rfl) (by decide +kernel) ((Int32.toInt_toInt64 x1).trans tx1)) (va_cwS 3 hts gm_X12_kind_X12_in rfl rfl rfl (by decide +kernel) ⟨Nat.le_of_ble_eq_true rfl, Nat.le_of_ble_eq_true rfl⟩) (pA_S hKc hPc) rfl rfl hl.1 rfl (lv_room (Nat.le_of_ble_eq_true rfl)) dX12_kind_10 ⟨Nat.le_of_ble_eq_true rfl, Nat.le_of_ble_eq_true rfl⟩) hS hA hP (fun r2 u2 H locs hw2 hP hS => ?_)
  have hw2 : r2 = if (0 ≤ p1.toInt ∧ p1.toInt ≤ ((i 2).toInt - 1)) then 1 else 0 := hw2
  refine lv_if_ne (tgt := 18) hx hb dX12_kind_13 (by decide +kernel) (fun c3 => ?_) (fun c3 => ?_)
  · have f3 := fl_t hw2 c3
    refine lv_aload_n hx hb dX12_kind_18 rfl (lv_at hl 0 rfl) ?_
    refine mget_2 (v := (i 2)) rfl hx hb hts (fun _ h => List.mem_cons_of_mem _ (List.mem_append_right _ h)) hown hK hP (hts (.fieldLink RX12 151 "TalePlayModel" "kinds" "I") (List.mem_cons_of_mem _ (List.mem_append_left _ (List.mem_of_getElem? (i := 0) rfl)))) dX12_kind_19 ?_
    refine lv_bipush (v := 24) hx hb dX12_kind_22 (by decide +kernel) ?_
    refine lv_icmp_ne (tgt := 30) hx hb dX12_kind_24 (by decide +kernel) (fun c4 => ?_) (fun c4 => ?_)
    · have f4 := mt (ti_eq (a := (i 2).toInt) (b := 24) rfl (by decide +kernel)).mpr c4
      refine lv_aload_n hx hb dX12_kind_30 rfl (lv_at hl 0 rfl) ?_
      refine mget_3 hx hb hts (fun _ h => List.mem_cons_of_mem _ (List.mem_append_right _ h)) hown hK hP (hts (.fieldLink RX12 13 "TalePlayModel" "parentOf" "[I") (List.mem_cons_of_mem _ (List.mem_append_left _ (List.mem_of_getElem? (i := 5) rfl)))) dX12_kind_31 ?_
      refine lv_aload_n hx hb dX12_kind_34 rfl (lv_at hl 0 rfl) ?_
      refine mget_2 (v := (i 2)) rfl hx hb hts (fun _ h => List.mem_cons_of_mem _ (List.mem_append_right _ h)) hown hK hP (hts (.fieldLink RX12 151 "TalePlayModel" "kinds" "I") (List.mem_cons_of_mem _ (List.mem_append_left _ (List.mem_of_getElem? (i := 0) rfl)))) dX12_kind_35 ?_
      refine lv_iload_n hx hb dX12_kind_38 rfl (lv_at hl 1 rfl) ?_
      have rc5 : ((((i 2) : Int32).toNatClampNeg : Nat) : Int) = ((i 2) : Int32).toInt := cl_nn (by have h9 : (i 2).toInt = (i 2).toInt := rfl; omega)
      refine mst_3 hx hb hK hP hD hS (vp_in_iff.mpr (by have h9 : (i 2).toInt = (i 2).toInt := rfl; omega)) dX12_kind_39 (fun H locs hP hD hS => ?_)
      have hI := mInv_c hI (k := 3) (j := ((i 2) : Int32).toNatClampNeg) (x := p1) (show (((((i 2) : Int32).toNatClampNeg : Nat) : Int) ≤ 1 ∧ (p1 : Int32).toInt = -9) ∨ (2 ≤ ((((i 2) : Int32).toNatClampNeg : Nat) : Int) ∧ ((((i 2) : Int32).toNatClampNeg : Nat) : Int) ≤ 5 ∧ (p1 : Int32).toInt = 1) ∨ (6 ≤ ((((i 2) : Int32).toNatClampNeg : Nat) : Int) ∧ 0 ≤ (p1 : Int32).toInt ∧ (p1 : Int32).toInt ≤ 23 ∧ (p1 : Int32).toInt < ((((i 2) : Int32).toNatClampNeg : Nat) : Int)) from by omega)
      have hfc : ∀ k, k ∉ ([3] : List Nat) → (updA c 3 ((i 2) : Int32).toNatClampNeg p1) k = c k := fr_cz hfc (by decide +kernel) (by decide +kernel)
      refine lv_aload_n hx hb dX12_kind_40 rfl (lv_at hl 0 rfl) ?_
      refine lv_dup hx hb dX12_kind_41 rfl ?_
      refine mget_2 (v := (i 2)) rfl hx hb hts (fun _ h => List.mem_cons_of_mem _ (List.mem_append_right _ h)) hown hK hP (hts (.fieldLink RX12 151 "TalePlayModel" "kinds" "I") (List.mem_cons_of_mem _ (List.mem_append_left _ (List.mem_of_getElem? (i := 0) rfl)))) dX12_kind_42 ?_
      refine lv_iconst (v := 1) hx hb dX12_kind_45 (by decide +kernel) ?_
      refine lv_iadd hx hb dX12_kind_46 ?_
      refine lv_topi (fun x6 ex6 => ?_)
      have tx6 := ti_add (a := (i 2).toInt) (b := 1) ex6 rfl (by decide +kernel) (by omega) (by omega)
      refine mput_2 hx hb hts (fun _ h => List.mem_cons_of_mem _ (List.mem_append_right _ h)) hown hK hP hD hS (hts (.fieldLink RX12 151 "TalePlayModel" "kinds" "I") (List.mem_cons_of_mem _ (List.mem_append_left _ (List.mem_of_getElem? (i := 0) rfl)))) rfl rfl dX12_kind_47 (fun H locs hP hD hS => ?_)
      have hI := mInv_i hI (k := 2) (v := x6) (show 6 ≤ (x6 : Int32).toInt ∧ (x6 : Int32).toInt ≤ 24 from by have h9 : x6.toInt = ((i 2).toInt + 1) := tx6; omega)
      have hfi : ∀ k, k ∉ ([2] : List Nat) → (upd i 2 x6) k = i k := fr_iz hfi (by decide +kernel) (by decide +kernel)
      refine lv_aload_n hx hb dX12_kind_50 rfl (lv_at hl 0 rfl) ?_
      refine mget_2 (i := (upd i 2 x6)) (v := x6) rfl hx hb hts (fun _ h => List.mem_cons_of_mem _ (List.mem_append_right _ h)) hown hK hP (hts (.fieldLink RX12 151 "TalePlayModel" "kinds" "I") (List.mem_cons_of_mem _ (List.mem_append_left _ (List.mem_of_getElem? (i := 0) rfl)))) dX12_kind_51 ?_
      refine lv_iconst (v := 1) hx hb dX12_kind_54 (by decide +kernel) ?_
      refine lv_isub hx hb dX12_kind_55 ?_
      refine lv_topi (fun x7 ex7 => ?_)
      have tx7 := ti_sub (a := ((i 2).toInt + 1)) (b := 1) ex7 tx6 (by decide +kernel) (by omega) (by omega)
      exact rw_iret ((upd i 2 x6), q, (updA c 3 ((i 2) : Int32).toNatClampNeg p1), d) hx hb hr hlocks hS (hK.sub (tys' := []) [] rfl) hP hD dX12_kind_56 ⟨trivial, hI, fr_w hfi (by decide +kernel), fr_w hfc (by decide +kernel), (show SJ ((updA c 3 ((i 2) : Int32).toNatClampNeg p1) 3) ((updA c 3 ((i 2) : Int32).toNatClampNeg p1) 6) ((updA c 3 ((i 2) : Int32).toNatClampNeg p1) 9) ((updA c 3 ((i 2) : Int32).toNatClampNeg p1) 10) ((updA c 3 ((i 2) : Int32).toNatClampNeg p1) 11) ((updA c 3 ((i 2) : Int32).toNatClampNeg p1) 13) (x6 : Int32).toInt ((i 5) : Int32).toInt ((i 8) : Int32).toInt from by show SJ (upd (c 3) ((i 2) : Int32).toNatClampNeg p1) (c 6) (c 9) (c 10) (c 11) (c 13) x6.toInt (i 5).toInt (i 8).toInt; rw [tx6]; exact SJ_kind (kn := (i 2).toInt) hs_S (fun j _ => mI_pa hI0 j) (by omega) (mI_ko hI0) (mI_le hI0) (fun o => (mI_mi hI0 o).1)), (show TJ ((updA c 3 ((i 2) : Int32).toNatClampNeg p1) 3) ((updA c 3 ((i 2) : Int32).toNatClampNeg p1) 6) ((updA c 3 ((i 2) : Int32).toNatClampNeg p1) 23) ((updA c 3 ((i 2) : Int32).toNatClampNeg p1) 24) ((updA c 3 ((i 2) : Int32).toNatClampNeg p1) 29) ((updA c 3 ((i 2) : Int32).toNatClampNeg p1) 30) ((i 5) : Int32).toInt ((i 22) : Int32).toInt ((i 27) : Int32).toInt from by show TJ (upd (c 3) ((i 2) : Int32).toNatClampNeg p1) (c 6) (c 23) (c 24) (c 29) (c 30) (i 5).toInt (i 22).toInt (i 27).toInt; exact TJ_kind (kn := (i 2).toInt) hs_J hs_S.1 (fun j _ => mI_pa hI0 j) (by omega) (mI_ko hI0)), (show (¬ (0 ≤ p1.toInt ∧ p1.toInt < (i 2).toInt) ∧ (x7 : Int32).toInt = -1 ∧ (x6 : Int32).toInt = (i 2).toInt) ∨ (0 ≤ p1.toInt ∧ p1.toInt < (i 2).toInt ∧ 24 ≤ (i 2).toInt ∧ (x7 : Int32).toInt = -2 ∧ (x6 : Int32).toInt = (i 2).toInt) ∨ (0 ≤ p1.toInt ∧ p1.toInt < (i 2).toInt ∧ (i 2).toInt ≤ 23 ∧ (x7 : Int32).toInt = (i 2).toInt ∧ (x6 : Int32).toInt = (i 2).toInt + 1) from by have h50 : x6.toInt = ((i 2).toInt + 1) := tx6; have h51 : x6.toInt = ((i 2).toInt + 1) := tx6; have h52 : x6.toInt = ((i 2).toInt + 1) := tx6; have h53 : x7.toInt = (((i 2).toInt + 1) - 1) := tx7; omega), (show KU (c 3) ((updA c 3 ((i 2) : Int32).toNatClampNeg p1) 3) p1 (i 2) from Or.inr ⟨by omega, by omega, by omega, rfl⟩)⟩
    · have f4 := (ti_eq (a := (i 2).toInt) (b := 24) rfl (by decide +kernel)).mp c4
      refine lv_bipush (v := (-2)) hx hb dX12_kind_27 (by decide +kernel) ?_
      exact rw_iret (i, q, c, d) hx hb hr hlocks hS (hK.sub (tys' := []) [] rfl) hP hD dX12_kind_29 ⟨trivial, hI, fr_w hfi (by decide +kernel), fr_w hfc (by decide +kernel), (show SJ (c 3) (c 6) (c 9) (c 10) (c 11) (c 13) ((i 2) : Int32).toInt ((i 5) : Int32).toInt ((i 8) : Int32).toInt from hs_S), (show TJ (c 3) (c 6) (c 23) (c 24) (c 29) (c 30) ((i 5) : Int32).toInt ((i 22) : Int32).toInt ((i 27) : Int32).toInt from hs_J), (show (¬ (0 ≤ p1.toInt ∧ p1.toInt < (i 2).toInt) ∧ ((-2) : Int32).toInt = -1 ∧ ((i 2) : Int32).toInt = (i 2).toInt) ∨ (0 ≤ p1.toInt ∧ p1.toInt < (i 2).toInt ∧ 24 ≤ (i 2).toInt ∧ ((-2) : Int32).toInt = -2 ∧ ((i 2) : Int32).toInt = (i 2).toInt) ∨ (0 ≤ p1.toInt ∧ p1.toInt < (i 2).toInt ∧ (i 2).toInt ≤ 23 ∧ ((-2) : Int32).toInt = (i 2).toInt ∧ ((i 2) : Int32).toInt = (i 2).toInt + 1) from by have h53 : ((-2) : Int32).toInt = -2 := (by decide +kernel); omega), (show KU (c 3) (c 3) p1 (i 2) from Or.inl ⟨by omega, rfl⟩)⟩
  · have f3 := fl_f hw2 c3
    refine lv_iconst (v := (-1)) hx hb dX12_kind_16 (by decide +kernel) ?_
    exact rw_iret (i, q, c, d) hx hb hr hlocks hS (hK.sub (tys' := []) [] rfl) hP hD dX12_kind_17 ⟨trivial, hI, fr_w hfi (by decide +kernel), fr_w hfc (by decide +kernel), (show SJ (c 3) (c 6) (c 9) (c 10) (c 11) (c 13) ((i 2) : Int32).toInt ((i 5) : Int32).toInt ((i 8) : Int32).toInt from hs_S), (show TJ (c 3) (c 6) (c 23) (c 24) (c 29) (c 30) ((i 5) : Int32).toInt ((i 22) : Int32).toInt ((i 27) : Int32).toInt from hs_J), (show (¬ (0 ≤ p1.toInt ∧ p1.toInt < (i 2).toInt) ∧ ((-1) : Int32).toInt = -1 ∧ ((i 2) : Int32).toInt = (i 2).toInt) ∨ (0 ≤ p1.toInt ∧ p1.toInt < (i 2).toInt ∧ 24 ≤ (i 2).toInt ∧ ((-1) : Int32).toInt = -2 ∧ ((i 2) : Int32).toInt = (i 2).toInt) ∨ (0 ≤ p1.toInt ∧ p1.toInt < (i 2).toInt ∧ (i 2).toInt ≤ 23 ∧ ((-1) : Int32).toInt = (i 2).toInt ∧ ((i 2) : Int32).toInt = (i 2).toInt + 1) from by have h53 : ((-1) : Int32).toInt = -1 := (by decide +kernel); omega), (show KU (c 3) (c 3) p1 (i 2) from Or.inl ⟨by omega, rfl⟩)⟩

def wm_X10_addObject_e : List Cond := .code yX10_addObject cX10_addObject 3 (some .int) :: (([.fieldLink RX10 21 "TalePlay$World" "kindOf" "[I", .fieldLink RX10 37 "TalePlay$World" "objects" "I", .fieldLink RX10 24 "TalePlay$World" "sizeOf" "[I"] : List Cond) ++ wsX100)
set_option maxHeartbeats 4000000 in
set_option maxRecDepth 100000 in
theorem x_X10_addObject_e (l : Launch) (D : va_G) (sz : Nat) (sk : Value) (a : Nat → Nat) (t : Nat → ClassId) (i : Nat → Int32) (q : Int64) (c : Nat → Nat → Int32) (d : Nat → Nat → Int64) (k1 : Int32) (s1 : Int32) (hI : xInv i c) (hk1 : 0 ≤ k1.toInt ∧ k1.toInt ≤ 23) (hs1 : 0 ≤ s1.toInt ∧ s1.toInt ≤ 99) (hon : (i 111).toInt ≤ 29) : Met l yX10_addObject wm_X10_addObject_e ({ frames := 0, cells := 0, slots := 0, locals := 0 }) (va_Pc [.ref (a 104), .int k1, .int s1] (yB (a 186) D sz (xwT sk a t i q c d) (xtT t))) (va_Qi (fun (r : Int32) (u : MS) => (r.toInt = (i 111).toInt) ∧ xInv u.1 u.2.2.1 ∧ (∀ k, k ∉ ([111] : List Nat) → u.1 k = i k) ∧ (∀ k, k ∉ ([108, 109] : List Nat) → u.2.2.1 k = c k) ∧ ((u.1 111).toInt = (i 111).toInt + 1) ∧ ((u.2.2.1 108) = upd (c 108) (i 111).toNatClampNeg k1) ∧ ((u.2.2.1 109) = upd (c 109) (i 111).toNatClampNeg s1)) (oC D (va_A (xwT sk a t i q c d) sz) (fun u : MS => xwT sk a t u.1 u.2.1 u.2.2.1 u.2.2.2) (fun _ => [])) (va_A (xwT sk a t i q c d) sz)) 0 0 (va_A (xwT sk a t i q c d) sz) := by
  refine Met.ofW (cc := cX10_addObject) (maxL := 3) (ret := (some .int)) (by decide +kernel) rfl ?_
  intro p e s m args below meth cd s₁ B hml hv
  obtain ⟨rfl, ⟨hsz, hP, hK, hD0⟩, hN, hZ, hBW⟩ := hv
  have hx := B.exec
  have hb := B.bytes
  have hr := B.returns
  have hts := atoms_spec (ws := wm_X10_addObject_e) B.pre
  have hown : s.vm.findClass RX10 = some m.cls := findClass_of_methodNamed B.named
  have hlocks := B.notSynchronized
  subst hsz
  have hD := hD0.self (sz := s.heap.size)
  have hZ := xZ_A hZ hP hBW
  generalize hAe : va_A (xwT sk a t i q c d) s.heap.size = A at hD hZ ⊢
  have hA : ∀ q : Nat, s.heap.size ≤ q → A q := fun q h => by rw [← hAe]; exact Or.inr h
  have hS : va_S A s.heap s.heap [] := va_S.rf
  have hfi : ∀ k, k ∉ ([] : List Nat) → i k = i k := fun _ _ => rfl
  have hfc : ∀ k, k ∉ ([] : List Nat) → c k = c k := fun _ _ => rfl
  have hl := lv_entry ([.ref (a 104), .int k1, .int s1]) (n := 3) (Nat.le_of_ble_eq_true rfl)
  rw [lg_entry_eq]
  generalize (lg_sl ([.ref (a 104), .int k1, .int s1]) ++ List.replicate (3 - (lg_sl ([.ref (a 104), .int k1, .int s1])).length) Slot.unset).toArray = ls at hl ⊢
  have hl : lv_has ls 3 [(0, .ref (a 104)), (1, .int k1), (2, .int s1)] := hl
  refine lv_aload_n hx hb dX10_addObject_0 rfl (lv_at hl 0 rfl) ?_
  refine xgT_W_kindOf hx hb hts (fun _ h => List.mem_cons_of_mem _ (List.mem_append_right _ h)) hown hK hP (hts (.fieldLink RX10 21 "TalePlay$World" "kindOf" "[I") (List.mem_cons_of_mem _ (List.mem_append_left _ (List.mem_of_getElem? (i := 0) rfl)))) dX10_addObject_1 ?_
  refine lv_aload_n hx hb dX10_addObject_4 rfl (lv_at hl 0 rfl) ?_
  refine xgT_W_objects (v := (i 111)) rfl hx hb hts (fun _ h => List.mem_cons_of_mem _ (List.mem_append_right _ h)) hown hK hP (hts (.fieldLink RX10 37 "TalePlay$World" "objects" "I") (List.mem_cons_of_mem _ (List.mem_append_left _ (List.mem_of_getElem? (i := 1) rfl)))) dX10_addObject_5 ?_
  have rb111_i : 0 ≤ (i 111).toInt ∧ (i 111).toInt ≤ 30 := hI.1 111
  refine lv_iload_n hx hb dX10_addObject_8 rfl (lv_at hl 1 rfl) ?_
  refine xsT_108 hx hb hK hP hD hS (vp_in_iff.mpr (by have h9 : (i 111).toInt = (i 111).toInt := rfl; omega)) dX10_addObject_9 (fun H locs hP hD hS => ?_)
  have hI := xInv_c hI (k := 108) (j := ((i 111) : Int32).toNatClampNeg) (x := k1) (show 0 ≤ (k1 : Int32).toInt ∧ (k1 : Int32).toInt ≤ 23 from by omega)
  have hfc : ∀ k, k ∉ ([108] : List Nat) → (updA c 108 ((i 111) : Int32).toNatClampNeg k1) k = c k := fr_cz hfc (by decide +kernel) (by decide +kernel)
  refine lv_aload_n hx hb dX10_addObject_10 rfl (lv_at hl 0 rfl) ?_
  refine xgT_W_sizeOf hx hb hts (fun _ h => List.mem_cons_of_mem _ (List.mem_append_right _ h)) hown hK hP (hts (.fieldLink RX10 24 "TalePlay$World" "sizeOf" "[I") (List.mem_cons_of_mem _ (List.mem_append_left _ (List.mem_of_getElem? (i := 2) rfl)))) dX10_addObject_11 ?_
  refine lv_aload_n hx hb dX10_addObject_14 rfl (lv_at hl 0 rfl) ?_
  refine xgT_W_objects (v := (i 111)) rfl hx hb hts (fun _ h => List.mem_cons_of_mem _ (List.mem_append_right _ h)) hown hK hP (hts (.fieldLink RX10 37 "TalePlay$World" "objects" "I") (List.mem_cons_of_mem _ (List.mem_append_left _ (List.mem_of_getElem? (i := 1) rfl)))) dX10_addObject_15 ?_
  refine lv_iload_n hx hb dX10_addObject_18 rfl (lv_at hl 2 rfl) ?_
  refine xsT_109 hx hb hK hP hD hS (vp_in_iff.mpr (by have h9 : (i 111).toInt = (i 111).toInt := rfl; omega)) dX10_addObject_19 (fun H locs hP hD hS => ?_)
  have hI := xInv_c hI (k := 109) (j := ((i 111) : Int32).toNatClampNeg) (x := s1) (show 0 ≤ (s1 : Int32).toInt ∧ (s1 : Int32).toInt ≤ 99 from by omega)
  have hfc : ∀ k, k ∉ ([108, 109] : List Nat) → (updA (updA c 108 ((i 111) : Int32).toNatClampNeg k1) 109 ((i 111) : Int32).toNatClampNeg s1) k = c k := fr_cz hfc (by decide +kernel) (by decide +kernel)
  refine lv_aload_n hx hb dX10_addObject_20 rfl (lv_at hl 0 rfl) ?_
  refine lv_dup hx hb dX10_addObject_21 rfl ?_
  refine xgT_W_objects (v := (i 111)) rfl hx hb hts (fun _ h => List.mem_cons_of_mem _ (List.mem_append_right _ h)) hown hK hP (hts (.fieldLink RX10 37 "TalePlay$World" "objects" "I") (List.mem_cons_of_mem _ (List.mem_append_left _ (List.mem_of_getElem? (i := 1) rfl)))) dX10_addObject_22 ?_
  refine lv_dup_x1 hx hb dX10_addObject_25 rfl rfl ?_
  refine lv_iconst (v := 1) hx hb dX10_addObject_26 (by decide +kernel) ?_
  refine lv_iadd hx hb dX10_addObject_27 ?_
  refine lv_topi (fun x1 ex1 => ?_)
  have tx1 := ti_add (a := (i 111).toInt) (b := 1) ex1 rfl (by decide +kernel) (by omega) (by omega)
  refine xpT_W_objects hx hb hts (fun _ h => List.mem_cons_of_mem _ (List.mem_append_right _ h)) hown hK hP hD hS (hts (.fieldLink RX10 37 "TalePlay$World" "objects" "I") (List.mem_cons_of_mem _ (List.mem_append_left _ (List.mem_of_getElem? (i := 1) rfl)))) rfl rfl dX10_addObject_28 (fun H locs hP hD hS => ?_)
  have hI := xInv_i hI (k := 111) (v := x1) (show 0 ≤ (x1 : Int32).toInt ∧ (x1 : Int32).toInt ≤ 30 from by have h9 : x1.toInt = ((i 111).toInt + 1) := tx1; omega)
  have hfi : ∀ k, k ∉ ([111] : List Nat) → (upd i 111 x1) k = i k := fr_iz hfi (by decide +kernel) (by decide +kernel)
  exact rw_iret ((upd i 111 x1), q, (updA (updA c 108 ((i 111) : Int32).toNatClampNeg k1) 109 ((i 111) : Int32).toNatClampNeg s1), d) hx hb hr hlocks hS (hK.sub (tys' := []) [] rfl) hP hD dX10_addObject_31 ⟨(show (i 111).toInt = (i 111).toInt from by omega), hI, fr_w hfi (by decide +kernel), fr_w hfc (by decide +kernel), (show (x1 : Int32).toInt = (i 111).toInt + 1 from by have h50 : x1.toInt = ((i 111).toInt + 1) := tx1; omega), (show ((updA (updA c 108 ((i 111) : Int32).toNatClampNeg k1) 109 ((i 111) : Int32).toNatClampNeg s1) 108) = upd (c 108) (i 111).toNatClampNeg k1 from rfl), (show ((updA (updA c 108 ((i 111) : Int32).toNatClampNeg k1) 109 ((i 111) : Int32).toNatClampNeg s1) 109) = upd (c 109) (i 111).toNatClampNeg s1 from rfl)⟩

