/-! sentences of both sides -/
/-- the sort of an object by its kinds -/
noncomputable def kS (pa ko : Nat → Int32) (o : Int) : Int :=
  @ite _ (Kd pa ko o 0) (Classical.propDecidable _) 0 (@ite _ (Kd pa ko o 2) (Classical.propDecidable _) 2 (@ite _ (Kd pa ko o 3) (Classical.propDecidable _) 3 (@ite _ (Kd pa ko o 4) (Classical.propDecidable _) 4 (@ite _ (Kd pa ko o 5) (Classical.propDecidable _) 5 1))))
theorem kS_c {pa ko : Nat → Int32} {o : Int} : (kS pa ko o = 0 ∧ Kd pa ko o 0) ∨ (kS pa ko o = 2 ∧ Kd pa ko o 2) ∨ (kS pa ko o = 3 ∧ Kd pa ko o 3) ∨ (kS pa ko o = 4 ∧ Kd pa ko o 4) ∨ (kS pa ko o = 5 ∧ Kd pa ko o 5) ∨ (kS pa ko o = 1 ∧ ¬ Kd pa ko o 0 ∧ ¬ Kd pa ko o 2 ∧ ¬ Kd pa ko o 3 ∧ ¬ Kd pa ko o 4 ∧ ¬ Kd pa ko o 5) := by
  unfold kS
  by_cases a0 : Kd pa ko o 0
  · rw [if_pos a0]; exact Or.inl ⟨rfl, a0⟩
  · rw [if_neg a0]
    by_cases a2 : Kd pa ko o 2
    · rw [if_pos a2]; exact Or.inr (Or.inl ⟨rfl, a2⟩)
    · rw [if_neg a2]
      by_cases a3 : Kd pa ko o 3
      · rw [if_pos a3]; exact Or.inr (Or.inr (Or.inl ⟨rfl, a3⟩))
      · rw [if_neg a3]
        by_cases a4 : Kd pa ko o 4
        · rw [if_pos a4]; exact Or.inr (Or.inr (Or.inr (Or.inl ⟨rfl, a4⟩)))
        · rw [if_neg a4]
          by_cases a5 : Kd pa ko o 5
          · rw [if_pos a5]; exact Or.inr (Or.inr (Or.inr (Or.inr (Or.inl ⟨rfl, a5⟩))))
          · rw [if_neg a5]; exact Or.inr (Or.inr (Or.inr (Or.inr (Or.inr ⟨rfl, a0, a2, a3, a4, a5⟩))))
theorem kS_r {pa ko : Nat → Int32} {o : Int} : 0 ≤ kS pa ko o ∧ kS pa ko o ≤ 5 := by
  rcases kS_c (pa := pa) (ko := ko) (o := o) with h | h | h | h | h | h <;> omega
theorem kS_e {pa ko : Nat → Int32} {o k : Int} (h6 : K6 pa) (ht : Kd pa ko o 0 ∨ Kd pa ko o 1) (hk : 0 ≤ k ∧ k ≤ 5) : Kd pa ko o k ↔ (kS pa ko o = k ∨ (k = 1 ∧ 1 < kS pa ko o)) := by
  have n0 : ∀ a : Int, 1 ≤ a → a ≤ 5 → Kd pa ko o a → ¬ Kd pa ko o 0 := fun a h1 h5 q => by
    by_cases e : a = 1
    · rw [e] at q; exact Kd_10 h6 q
    · exact Kd_10 h6 (Kd_a1 h6 (by omega) q)
  have nb : ∀ a b : Int, 2 ≤ a → a ≤ 5 → 2 ≤ b → b ≤ 5 → ¬ a = b → Kd pa ko o a → ¬ Kd pa ko o b := fun a b h1 h2 h3 h4 e q => Kd_ab h6 ⟨h1, h2⟩ ⟨h3, h4⟩ e q
  rcases kS_c (pa := pa) (ko := ko) (o := o) with ⟨e, q⟩ | ⟨e, q⟩ | ⟨e, q⟩ | ⟨e, q⟩ | ⟨e, q⟩ | ⟨e, q0, q2, q3, q4, q5⟩
  · rw [e]
    constructor
    · intro w
      by_cases z : k = 0
      · exact Or.inl z.symm
      · exact absurd q (n0 k (by omega) (by omega) w)
    · intro w
      rw [show k = 0 by omega]; exact q
  all_goals try
    rw [e]
    constructor
    · intro w
      by_cases z : k = 0
      · rw [z] at w; exact absurd w (n0 _ (by omega) (by omega) q)
      · by_cases y : k = 1
        · exact Or.inr ⟨y, by omega⟩
        · by_cases x : 2 = k ∨ 3 = k ∨ 4 = k ∨ 5 = k
          · first
              | exact Or.inl (Decidable.byContradiction fun x2 => absurd w (nb _ _ (by omega) (by omega) (by omega) (by omega) x2 q))
          · exfalso; omega
    · intro w
      rcases w with w | w
      · rw [← w]; exact q
      · rw [w.1]; exact Kd_a1 h6 (by omega) q
  rw [e]
  constructor
  · intro w
    rcases (show k = 0 ∨ k = 1 ∨ k = 2 ∨ k = 3 ∨ k = 4 ∨ k = 5 by omega) with z | z | z | z | z | z <;> subst z
    · exact absurd w q0
    · exact Or.inl rfl
    · exact absurd w q2
    · exact absurd w q3
    · exact absurd w q4
    · exact absurd w q5
  · intro w
    rw [show k = 1 by omega]; exact ht.resolve_left q0
theorem Kd_tot {i : Nat → Int32} {c : Nat → Nat → Int32} (hI : mInv i c) (o : Int) : Kd (c 3) (c 6) o 0 ∨ Kd (c 3) (c 6) o 1 := by
  have h6 := K6_of hI
  have st : ∀ m k : Nat, k ≤ m → k ≤ 23 → Ch (kF (c 3)) (k : Int) 0 ∨ Ch (kF (c 3)) (k : Int) 1 := by
    intro m
    induction m with
    | zero => intro k h1 _; rw [show k = 0 by omega]; exact Or.inl Ch_rf
    | succ m ih =>
      intro k h1 h2
      have q : ((k : Int) ≤ 1 ∧ (c 3 k).toInt = -9) ∨ (2 ≤ (k : Int) ∧ (k : Int) ≤ 5 ∧ (c 3 k).toInt = 1) ∨ (6 ≤ (k : Int) ∧ 0 ≤ (c 3 k).toInt ∧ (c 3 k).toInt ≤ 23 ∧ (c 3 k).toInt < (k : Int)) := hI.2 3 k
      have e : kF (c 3) (k : Int) = (c 3 k).toInt := by rw [kF_in (by omega) (by omega), show ((k : Int)).toNat = k by omega]
      rcases q with q | q | q
      · by_cases z : k = 0
        · rw [z]; exact Or.inl Ch_rf
        · rw [show k = 1 by omega]; exact Or.inr Ch_rf
      · exact Or.inr (Ch_up (by rw [e, q.2.2]; exact Ch_rf))
      · have w := ih (c 3 k).toInt.toNat (by omega) (by omega)
        rw [show (((c 3 k).toInt.toNat : Nat) : Int) = (c 3 k).toInt by omega, ← e] at w
        rcases w with w | w
        · exact Or.inl (Ch_up w)
        · exact Or.inr (Ch_up w)
  have r : 0 ≤ (c 6 o.toNat).toInt ∧ (c 6 o.toNat).toInt ≤ 23 := hI.2 6 o.toNat
  have w := st 23 (c 6 o.toNat).toInt.toNat (by omega) (by omega)
  rw [show (((c 6 o.toNat).toInt.toNat : Nat) : Int) = (c 6 o.toNat).toInt by omega] at w
  exact w
theorem kS_sm {i : Nat → Int32} {c : Nat → Nat → Int32} {r : Int32} {o k : Int} (hI : mInv i c) (hk : 0 ≤ k ∧ k ≤ 5) (h : Sm r (Kd (c 3) (c 6) o k)) : 0 ≤ kS (c 3) (c 6) o ∧ kS (c 3) (c 6) o ≤ 5 ∧ ((r.toInt = 1 ∧ (kS (c 3) (c 6) o = k ∨ ((1 : Int) = k ∧ 1 < kS (c 3) (c 6) o))) ∨ (r.toInt = 0 ∧ ¬ (kS (c 3) (c 6) o = k ∨ ((1 : Int) = k ∧ 1 < kS (c 3) (c 6) o)))) := by
  have e := kS_e (k := k) (K6_of hI) (Kd_tot hI o) hk
  refine ⟨kS_r.1, kS_r.2, ?_⟩
  rcases h with ⟨a, b⟩ | ⟨a, b⟩
  · exact Or.inl ⟨a, by have := e.mp b; omega⟩
  · exact Or.inr ⟨a, fun q => b (e.mpr (by omega))⟩
/-- what may stand left, right -/
def FtL (f s b : Int) : Prop := (f ≤ 1 ∧ (s = 1 ∨ 3 ≤ s)) ∨ (f = 5 ∧ s = 0) ∨ (f = 6 ∧ ((b ≤ 1 ∧ (s = 2 ∨ s = 3)) ∨ b = 2 ∨ (b = 3 ∧ (s = 1 ∨ 3 ≤ s)) ∨ (b = 4 ∧ (s = 1 ∨ 3 ≤ s) ∧ ¬ s = 5) ∨ (5 ≤ b ∧ s = 3))) ∨ ((2 ≤ f ∧ f ≤ 4 ∨ f = 7) ∧ (s = 1 ∨ 3 ≤ s) ∧ ¬ s = 5)
def FtR (f s : Int) : Prop := (f = 0 ∧ (s = 0 ∨ s = 3)) ∨ (f = 1 ∧ s = 4) ∨ ((f = 2 ∨ f = 3) ∧ s = 5) ∨ (f = 4 ∧ ¬ s = 0) ∨ (f = 5 ∧ (s = 0 ∨ s = 2)) ∨ f = 6 ∨ (f = 7 ∧ (s = 2 ∨ s = 3))
def Fit (f s b z : Int) : Prop := FtL f s b ∧ (f = 6 ∨ FtR f z)
def WF (f a b c N : Int) : Prop := 0 ≤ f ∧ f ≤ 7 ∧ 0 ≤ a ∧ a < N ∧ ((f = 6 ∧ 0 ≤ b ∧ b ≤ 5 ∧ 0 ≤ c ∧ c ≤ 1) ∨ (¬ f = 6 ∧ 0 ≤ b ∧ b < N ∧ (¬ f = 5 ∨ (0 ≤ c ∧ c ≤ 9))))
/-- the sentence that stands where such a one would -/
def sFv (pb eb fb kb : Nat → Int32) (f a b c : Int) : Int32 := if f = 5 then eb (a * 10 + c).toNat else if f = 6 then fb (a * 6 + b).toNat else if f = 7 then kb b.toNat else pb a.toNat
def SX (F A B C : Nat → Int32) (v : Int32) (f a b c : Int) : Prop := ¬ v.toInt = -9 ∧ (F v.toNatClampNeg).toInt = f ∧ (A v.toNatClampNeg).toInt = a ∧ (B v.toNatClampNeg).toInt = b ∧ (C v.toNatClampNeg).toInt = c
def SyX (fb C : Nat → Int32) (a g v : Int) : Prop := ¬ (fb (a * 6 + g).toNat).toInt = -9 ∧ (C (fb (a * 6 + g).toNat).toNatClampNeg).toInt = v
/-- where a row of cells lays an object -/
def hF (ce : Nat → Int32) (x : Int) : Int := if 0 ≤ x ∧ x ≤ 29 ∧ ¬ (ce x.toNat).toInt % 256 = 255 then (ce x.toNat).toInt / 8 % 32 else -9
theorem hF_at {ce : Nat → Int32} {x r : Int32} (hx : 0 ≤ x.toInt ∧ x.toInt ≤ 29) (h : (r.toInt = -9 ∧ (ce x.toNatClampNeg).toInt % 256 = 255) ∨ (0 ≤ r.toInt ∧ r.toInt ≤ 29 ∧ ¬ (ce x.toNatClampNeg).toInt % 256 = 255 ∧ r.toInt = (ce x.toNatClampNeg).toInt / 8 % 32)) : hF ce x.toInt = r.toInt := by
  have e : x.toNatClampNeg = x.toInt.toNat := rfl
  rw [e] at h
  unfold hF
  rcases h with ⟨a, b⟩ | ⟨a, b, d, f⟩
  · rw [if_neg (fun q => q.2.2 b), a]
  · rw [if_pos ⟨hx.1, hx.2, d⟩, f]
theorem hF_9 {ce : Nat → Int32} : hF ce (-9) = -9 := if_neg (by omega)
def PlX (ce fb C : Nat → Int32) (f a b : Int) : Prop := a = b ∨ Ch (hF ce) (hF ce b) a ∨ (f = 3 ∧ SyX fb C a 4 0)
def DP (eb B : Nat → Int32) (a b : Int) (d : Nat) : Prop := ¬ (eb (a * 10 + (d : Int)).toNat).toInt = -9 ∧ (B (eb (a * 10 + (d : Int)).toNat).toNatClampNeg).toInt = b
def EB (F B S : Nat → Int32) (b : Int) (s : Nat) : Prop := (S s).toInt = 1 ∧ (F s).toInt = 5 ∧ (B s).toInt = b
def Two (P : Nat → Prop) (m : Int) : Prop := ∃ s1 s2 : Nat, s1 < s2 ∧ (s2 : Int) < m ∧ P s1 ∧ P s2
/-- k: none, one, or two and more of those below m -/
def CN (P : Nat → Prop) (m k : Int) : Prop := (k = 0 ∧ ∀ s : Nat, (s : Int) < m → ¬ P s) ∨ (k = 1 ∧ ∃ s1 : Nat, (s1 : Int) < m ∧ P s1 ∧ ∀ s : Nat, (s : Int) < m → P s → s = s1) ∨ (2 ≤ k ∧ Two P m)
theorem CN_0 {P : Nat → Prop} {m k : Int} (h : m = 0) (hk : k = 0) : CN P m k := Or.inl ⟨hk, fun s hs => by omega⟩
theorem CN_n {P : Nat → Prop} {x y : Int32} {k : Int} (h : CN P x.toInt k) (hx : 0 ≤ x.toInt) (hp : ¬ P x.toNatClampNeg) (hy : y.toInt = x.toInt + 1) : CN P y.toInt k := by
  have e : x.toNatClampNeg = x.toInt.toNat := rfl
  have no : ∀ s : Nat, (s : Int) < y.toInt → P s → (s : Int) < x.toInt := fun s hs q => by
    by_cases z : s = x.toNatClampNeg
    · rw [z] at q; exact absurd q hp
    · omega
  rcases h with ⟨a, b⟩ | ⟨a, s1, b, d, f⟩ | ⟨a, s1, s2, b, d, f, g⟩
  · exact Or.inl ⟨a, fun s hs q => b s (no s hs q) q⟩
  · exact Or.inr (Or.inl ⟨a, s1, by omega, d, fun s hs q => f s (no s hs q) q⟩)
  · exact Or.inr (Or.inr ⟨a, s1, s2, b, by omega, f, g⟩)
theorem CN_y {P : Nat → Prop} {x y : Int32} {k k2 : Int} (h : CN P x.toInt k) (hx : 0 ≤ x.toInt) (hp : P x.toNatClampNeg) (hy : y.toInt = x.toInt + 1) (hk : k2 = k + 1 ∨ (2 ≤ k ∧ k2 = k)) : CN P y.toInt k2 := by
  have e : x.toNatClampNeg = x.toInt.toNat := rfl
  rcases h with ⟨a, b⟩ | ⟨a, s1, b, d, f⟩ | ⟨a, s1, s2, b, d, f, g⟩
  · exact Or.inr (Or.inl ⟨by omega, x.toNatClampNeg, by omega, hp, fun s hs q => by
      by_cases z : s = x.toNatClampNeg
      · exact z
      · exact absurd q (b s (by omega))⟩)
  · exact Or.inr (Or.inr ⟨by omega, s1, x.toNatClampNeg, by omega, by omega, d, hp⟩)
  · exact Or.inr (Or.inr ⟨by omega, s1, s2, b, by omega, f, g⟩)
theorem CN_2 {P : Nat → Prop} {m k : Int} (h : CN P m k) (hk : 2 ≤ k) : Two P m := by
  rcases h with ⟨a, b⟩ | ⟨a, b⟩ | ⟨a, b⟩
  · exfalso; omega
  · exfalso; omega
  · exact b
theorem CN_1 {P : Nat → Prop} {m k : Int} (h : CN P m k) (hk : ¬ 2 ≤ k) : ¬ Two P m := by
  rintro ⟨s1, s2, q1, q2, p1, p2⟩
  rcases h with ⟨a, b⟩ | ⟨a, s, b, d, f⟩ | ⟨a, b⟩
  · exact b s2 q2 p2
  · have e1 := f s1 (by omega) p1
    have e2 := f s2 q2 p2
    omega
  · exact hk a
theorem CN_p {P : Nat → Prop} {m k : Int} (h : CN P m k) (hk : ¬ k = 0) : ∃ s : Nat, (s : Int) < m ∧ P s := by
  rcases h with ⟨a, b⟩ | ⟨a, s, b, d, f⟩ | ⟨a, s1, s2, b, d, f, g⟩
  · exact absurd a hk
  · exact ⟨s, b, d⟩
  · exact ⟨s2, d, g⟩
theorem CN_z {P : Nat → Prop} {m k : Int} (h : CN P m k) (hk : k = 0) : ¬ ∃ s : Nat, (s : Int) < m ∧ P s := by
  rintro ⟨s, q, p⟩
  rcases h with ⟨a, b⟩ | ⟨a, s, b, d, f⟩ | ⟨a, s1, s2, b, d, f, g⟩
  · exact b s q p
  · omega
  · omega
def DoX (eb F B S : Nat → Int32) (n a b : Int) : Prop := (∃ d : Nat, (d : Int) < 10 ∧ DP eb B a b d) ∨ Two (EB F B S b) n
def FlX (pb fb C ce : Nat → Int32) (a g v : Int) : Prop := (g = 0 ∧ v = 1 ∧ SyX fb C a 1 1) ∨ (g = 1 ∧ v = 1 ∧ SyX fb C a 0 1) ∨ (g = 4 ∧ v = 0 ∧ ¬ (ce a.toNat).toInt % 256 = 255 ∧ (ce a.toNat).toInt % 8 = 3 ∧ ¬ (pb a.toNat).toInt = -9)
def ClX (F B C S pb eb fb kb ce : Nat → Int32) (n z f a b c : Int) : Prop := ¬ (sFv pb eb fb kb f a b c).toInt = -9 ∨ (f = 5 ∧ z = 2 ∧ DoX eb F B S n a b) ∨ (f = 6 ∧ FlX pb fb C ce a b c) ∨ (f < 5 ∧ PlX ce fb C f a b)
/-- by which number is what a sentence speaks of -/
def PT (pb eb fb kb ce pb2 eb2 fb2 kb2 ce2 : Nat → Int32) (f a b c : Int) (v : Int32) : Prop :=
  (f = 5 ∧ eb2 = upd eb (a * 10 + c).toNat v ∧ pb2 = pb ∧ fb2 = fb ∧ kb2 = kb ∧ ce2 = ce) ∨ (f = 6 ∧ fb2 = upd fb (a * 6 + b).toNat v ∧ pb2 = pb ∧ eb2 = eb ∧ kb2 = kb ∧ ce2 = ce) ∨ (f = 7 ∧ kb2 = upd kb b.toNat v ∧ pb2 = pb ∧ eb2 = eb ∧ fb2 = fb ∧ ce2 = ce)
  ∨ (f < 5 ∧ pb2 = upd pb a.toNat v ∧ eb2 = eb ∧ fb2 = fb ∧ kb2 = kb ∧ ∃ w : Int32, ce2 = upd ce a.toNat w ∧ ((v.toInt = -9 ∧ w.toInt = 255) ∨ (¬ v.toInt = -9 ∧ w.toInt = b * 8 + f)))
/-- the last number of a sentence as it is kept -/
def lI (f c : Int32) : Int32 := if f.toInt = 5 ∨ f.toInt = 6 then c else 0
theorem lI_y {f c : Int32} (h : f.toInt = 5 ∨ f.toInt = 6) : lI f c = c := if_pos h
theorem lI_n {f c : Int32} (h : ¬ (f.toInt = 5 ∨ f.toInt = 6)) : lI f c = 0 := if_neg h
theorem sm_x {r : Int32} {P : Prop} (h : Sm r P) (c : ¬ r.toInt = 1) : ¬ P := by
  rcases h with h | h
  · exact absurd h.1 c
  · exact h.2
theorem sm_i {r : Int32} {P Q : Prop} (h : Sm r P) (e : P ↔ Q) : Sm r Q := by
  rcases h with h | h
  · exact Or.inl ⟨h.1, e.mp h.2⟩
  · exact Or.inr ⟨h.1, fun q => h.2 (e.mpr q)⟩
def sE (F A B C S : Nat → Int32) (f a b c : Int) (s : Nat) : Prop := (S s).toInt = 1 ∧ (F s).toInt = f ∧ (A s).toInt = a ∧ (B s).toInt = b ∧ (C s).toInt = c
def aP (F A B S : Nat → Int32) (a b : Int) (s : Nat) : Prop := (S s).toInt = 1 ∧ (F s).toInt = 5 ∧ (A s).toInt = a ∧ (B s).toInt = b
def KB (F B S : Nat → Int32) (b : Int) (s : Nat) : Prop := (S s).toInt = 1 ∧ (F s).toInt = 7 ∧ (B s).toInt = b
theorem fsF_x {P : Nat → Prop} {n : Int} : ¬ fsF P n.toNat = -9 ↔ ∃ s : Nat, (s : Int) < n ∧ P s := by
  constructor
  · intro h; have q := fsF_q h; exact ⟨_, q.1, q.2⟩
  · rintro ⟨s, a, b⟩ h; exact fsF_n h a b
def PbM (F A B C S : Nat → Int32) (n f a b : Int) : Prop := ¬ pL F A S n a = -9 ∨ Ch (fP F A B S n) b a ∨ (f = 3 ∧ ¬ fsF (sE F A B C S 6 a 4 0) n.toNat = -9)
def XbM (F A B C S : Nat → Int32) (n z a b c : Int) : Prop := ¬ fsF (bP F A C S a c) n.toNat = -9 ∨ (z = 2 ∧ (¬ fsF (aP F A B S a b) n.toNat = -9 ∨ Two (EB F B S b) n))
def FbM (F A B C S : Nat → Int32) (n a b c : Int) : Prop := ¬ fsF (sE F A B C S 6 a b (1 - c)) n.toNat = -9 ∨ (c = 1 ∧ (b = 0 ∨ b = 1) ∧ ¬ fsF (sE F A B C S 6 a (1 - b) 1) n.toNat = -9) ∨ (b = 4 ∧ c = 0 ∧ ¬ pL F A S n a = -9 ∧ (F (pL F A S n a).toNat).toInt = 3)
def BaM (F A B C S : Nat → Int32) (n z f a b c : Int) : Prop := (f < 5 ∧ PbM F A B C S n f a b) ∨ (f = 5 ∧ XbM F A B C S n z a b c) ∨ (f = 6 ∧ FbM F A B C S n a b c) ∨ (f = 7 ∧ ∃ s : Nat, (s : Int) < n ∧ KB F B S b s)
theorem Ba_4 {F A B C S : Nat → Int32} {n z f a b c : Int} (h : f < 5) : PbM F A B C S n f a b ↔ BaM F A B C S n z f a b c :=
  ⟨fun q => Or.inl ⟨h, q⟩, fun q => by rcases q with q | q | q | q; exact q.2; (exfalso; omega); (exfalso; omega); (exfalso; omega)⟩
theorem Ba_5 {F A B C S : Nat → Int32} {n z f a b c : Int} (h : f = 5) : XbM F A B C S n z a b c ↔ BaM F A B C S n z f a b c :=
  ⟨fun q => Or.inr (Or.inl ⟨h, q⟩), fun q => by rcases q with q | q | q | q; (exfalso; omega); exact q.2; (exfalso; omega); (exfalso; omega)⟩
theorem Ba_6 {F A B C S : Nat → Int32} {n z f a b c : Int} (h : f = 6) : FbM F A B C S n a b c ↔ BaM F A B C S n z f a b c :=
  ⟨fun q => Or.inr (Or.inr (Or.inl ⟨h, q⟩)), fun q => by rcases q with q | q | q | q; (exfalso; omega); (exfalso; omega); exact q.2; (exfalso; omega)⟩
theorem Ba_7 {F A B C S : Nat → Int32} {n z f a b c : Int} (h : f = 7) : (∃ s : Nat, (s : Int) < n ∧ KB F B S b s) ↔ BaM F A B C S n z f a b c :=
  ⟨fun q => Or.inr (Or.inr (Or.inr ⟨h, q⟩)), fun q => by rcases q with q | q | q | q; (exfalso; omega); (exfalso; omega); (exfalso; omega); exact q.2⟩
/-- what a sentence said does to the rows -/
def SyW (Q : Prop) (F A B C S F2 A2 B2 C2 S2 : Nat → Int32) (n n2 f a b l : Int32) : Prop := (¬ Q ∧ F2 = F ∧ A2 = A ∧ B2 = B ∧ C2 = C ∧ S2 = S ∧ n2.toInt = n.toInt) ∨ (Q ∧ F2 = upd F n.toNatClampNeg f ∧ A2 = upd A n.toNatClampNeg a ∧ B2 = upd B n.toNatClampNeg b ∧ C2 = upd C n.toNatClampNeg l ∧ S2 = upd S n.toNatClampNeg 1 ∧ n2.toInt = n.toInt + 1)
def AcM (F A B C S : Nat → Int32) (n N z y f a b c l : Int) : Prop := WF f a b c N ∧ Fit f z b y ∧ fsF (sE F A B C S f a b l) n.toNat = -9 ∧ n ≤ 199 ∧ ¬ BaM F A B C S n y f a b l
def AcX (F A B C S pb eb fb kb ce : Nat → Int32) (n N z y f a b c l : Int) : Prop := WF f a b c N ∧ Fit f z b y ∧ ¬ SX F A B C (sFv pb eb fb kb f a b l) f a b l ∧ n ≤ 199 ∧ ¬ ClX F B C S pb eb fb kb ce n y f a b l
theorem FF_of {i : Nat → Int32} {c : Nat → Nat → Int32} {f a b : Int} (hI : mInv i c) (h : Fit f (kS (c 3) (c 6) a) b (kS (c 3) (c 6) b)) : Im (f < 5) (¬ Kd (c 3) (c 6) a 0) ∧ Im (f = 5) (Kd (c 3) (c 6) a 0 ∧ (Kd (c 3) (c 6) b 0 ∨ Kd (c 3) (c 6) b 2)) := by
  have e0 := kS_e (k := 0) (K6_of hI) (Kd_tot hI a) (by omega)
  have e1 := kS_e (k := 0) (K6_of hI) (Kd_tot hI b) (by omega)
  have e2 := kS_e (k := 2) (K6_of hI) (Kd_tot hI b) (by omega)
  unfold Fit FtL FtR at h
  refine ⟨fun q w => ?_, fun q => ⟨e0.mpr (by omega), ?_⟩⟩
  · have := e0.mp w; omega
  · by_cases z : kS (c 3) (c 6) b = 0
    · exact Or.inl (e1.mpr (Or.inl z))
    · exact Or.inr (e2.mpr (by omega))
def PtW (Q : Prop) (pb eb fb kb ce pb2 eb2 fb2 kb2 ce2 : Nat → Int32) (f a b c : Int) (v : Int32) : Prop := (¬ Q ∧ pb2 = pb ∧ eb2 = eb ∧ fb2 = fb ∧ kb2 = kb ∧ ce2 = ce) ∨ (Q ∧ PT pb eb fb kb ce pb2 eb2 fb2 kb2 ce2 f a b c v)
def UnQ (S : Nat → Int32) (n s : Int32) : Prop := 0 ≤ s.toInt ∧ s.toInt < n.toInt ∧ (S s.toNatClampNeg).toInt = 1
def UnW (S S2 : Nat → Int32) (n s : Int32) : Prop := (¬ UnQ S n s ∧ S2 = S) ∨ (UnQ S n s ∧ S2 = upd S s.toNatClampNeg 0)
