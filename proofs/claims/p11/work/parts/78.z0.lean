/-! sentences of both sides -/
/-- the sort of an object by its kinds -/
noncomputable def kS (pa ko : Nat → Int32) (o : Int) : Int :=
  @ite _ (Kd pa ko o 0) (Classical.propDecidable _) 0 (@ite _ (Kd pa ko o 2) (Classical.propDecidable _) 2 (@ite _ (Kd pa ko o 3) (Classical.propDecidable _) 3 (@ite _ (Kd pa ko o 4) (Classical.propDecidable _) 4 (@ite _ (Kd pa ko o 5) (Classical.propDecidable _) 5 1))))
theorem kS_c {pa ko : Nat → Int32} {o : Int} : (kS pa ko o = 0 ∧ Kd pa ko o 0) ∨ (kS pa ko o = 2 ∧ Kd pa ko o 2) ∨ (kS pa ko o = 3 ∧ Kd pa ko o 3) ∨ (kS pa ko o = 4 ∧ Kd pa ko o 4) ∨ (kS pa ko o = 5 ∧ Kd pa ko o 5) ∨ (kS pa ko o = 1 ∧ ¬ Kd pa ko o 0 ∧ ¬ Kd pa ko o 2 ∧ ¬ Kd pa ko o 3 ∧ ¬ Kd pa ko o 4 ∧ ¬ Kd pa ko o 5) := by
  unfold kS
  by_cases a0 : Kd pa ko o 0
  · rw [if_pos a0]; exact Or.inl ⟨rfl, a0⟩
  · rw [if_neg a0]
    by_cases a2 : Kd pa ko o 2
    · rw [if_pos a2]; exact Or.inr (Or.inl ⟨rfl, a2⟩)
    · rw [if_neg a2]
      by_cases a3 : Kd pa ko o 3
      · rw [if_pos a3]; exact Or.inr (Or.inr (Or.inl ⟨rfl, a3⟩))
      · rw [if_neg a3]
        by_cases a4 : Kd pa ko o 4
        · rw [if_pos a4]; exact Or.inr (Or.inr (Or.inr (Or.inl ⟨rfl, a4⟩)))
        · rw [if_neg a4]
          by_cases a5 : Kd pa ko o 5
          · rw [if_pos a5]; exact Or.inr (Or.inr (Or.inr (Or.inr (Or.inl ⟨rfl, a5⟩))))
          · rw [if_neg a5]; exact Or.inr (Or.inr (Or.inr (Or.inr (Or.inr ⟨rfl, a0, a2, a3, a4, a5⟩))))
theorem kS_r {pa ko : Nat → Int32} {o : Int} : 0 ≤ kS pa ko o ∧ kS pa ko o ≤ 5 := by
  rcases kS_c (pa := pa) (ko := ko) (o := o) with h | h | h | h | h | h <;> omega
theorem kS_e {pa ko : Nat → Int32} {o k : Int} (h6 : K6 pa) (ht : Kd pa ko o 0 ∨ Kd pa ko o 1) (hk : 0 ≤ k ∧ k ≤ 5) : Kd pa ko o k ↔ (kS pa ko o = k ∨ (k = 1 ∧ 1 < kS pa ko o)) := by
  have n0 : ∀ a : Int, 1 ≤ a → a ≤ 5 → Kd pa ko o a → ¬ Kd pa ko o 0 := fun a h1 h5 q => by
    by_cases e : a = 1
    · rw [e] at q; exact Kd_10 h6 q
    · exact Kd_10 h6 (Kd_a1 h6 (by omega) q)
  have nb : ∀ a b : Int, 2 ≤ a → a ≤ 5 → 2 ≤ b → b ≤ 5 → ¬ a = b → Kd pa ko o a → ¬ Kd pa ko o b := fun a b h1 h2 h3 h4 e q => Kd_ab h6 ⟨h1, h2⟩ ⟨h3, h4⟩ e q
  rcases kS_c (pa := pa) (ko := ko) (o := o) with ⟨e, q⟩ | ⟨e, q⟩ | ⟨e, q⟩ | ⟨e, q⟩ | ⟨e, q⟩ | ⟨e, q0, q2, q3, q4, q5⟩
  · rw [e]
    constructor
    · intro w
      by_cases z : k = 0
      · exact Or.inl z.symm
      · exact absurd q (n0 k (by omega) (by omega) w)
    · intro w
      rw [show k = 0 by omega]; exact q
  all_goals try
    rw [e]
    constructor
    · intro w
      by_cases z : k = 0
      · rw [z] at w; exact absurd w (n0 _ (by omega) (by omega) q)
      · by_cases y : k = 1
        · exact Or.inr ⟨y, by omega⟩
        · by_cases x : 2 = k ∨ 3 = k ∨ 4 = k ∨ 5 = k
          · first
              | exact Or.inl (Decidable.byContradiction fun x2 => absurd w (nb _ _ (by omega) (by omega) (by omega) (by omega) x2 q))
          · exfalso; omega
    · intro w
      rcases w with w | w
      · rw [← w]; exact q
      · rw [w.1]; exact Kd_a1 h6 (by omega) q
  rw [e]
  constructor
  · intro w
    rcases (show k = 0 ∨ k = 1 ∨ k = 2 ∨ k = 3 ∨ k = 4 ∨ k = 5 by omega) with z | z | z | z | z | z <;> subst z
    · exact absurd w q0
    · exact Or.inl rfl
    · exact absurd w q2
    · exact absurd w q3
    · exact absurd w q4
    · exact absurd w q5
  · intro w
    rw [show k = 1 by omega]; exact ht.resolve_left q0
theorem Kd_tot {i : Nat → Int32} {c : Nat → Nat → Int32} (hI : mInv i c) (o : Int) : Kd (c 3) (c 6) o 0 ∨ Kd (c 3) (c 6) o 1 := by
  have h6 := K6_of hI
  have st : ∀ m k : Nat, k ≤ m → k ≤ 23 → Ch (kF (c 3)) (k : Int) 0 ∨ Ch (kF (c 3)) (k : Int) 1 := by
    intro m
    induction m with
    | zero => intro k h1 _; rw [show k = 0 by omega]; exact Or.inl Ch_rf
    | succ m ih =>
      intro k h1 h2
      have q : ((k : Int) ≤ 1 ∧ (c 3 k).toInt = -9) ∨ (2 ≤ (k : Int) ∧ (k : Int) ≤ 5 ∧ (c 3 k).toInt = 1) ∨ (6 ≤ (k : Int) ∧ 0 ≤ (c 3 k).toInt ∧ (c 3 k).toInt ≤ 23 ∧ (c 3 k).toInt < (k : Int)) := hI.2 3 k
      have e : kF (c 3) (k : Int) = (c 3 k).toInt := by rw [kF_in (by omega) (by omega), show ((k : Int)).toNat = k by omega]
      rcases q with q | q | q
      · by_cases z : k = 0
        · rw [z]; exact Or.inl Ch_rf
        · rw [show k = 1 by omega]; exact Or.inr Ch_rf
      · exact Or.inr (Ch_up (by rw [e, q.2.2]; exact Ch_rf))
      · have w := ih (c 3 k).toInt.toNat (by omega) (by omega)
        rw [show (((c 3 k).toInt.toNat : Nat) : Int) = (c 3 k).toInt by omega, ← e] at w
        rcases w with w | w
        · exact Or.inl (Ch_up w)
        · exact Or.inr (Ch_up w)
  have r : 0 ≤ (c 6 o.toNat).toInt ∧ (c 6 o.toNat).toInt ≤ 23 := hI.2 6 o.toNat
  have w := st 23 (c 6 o.toNat).toInt.toNat (by omega) (by omega)
  rw [show (((c 6 o.toNat).toInt.toNat : Nat) : Int) = (c 6 o.toNat).toInt by omega] at w
  exact w
theorem kS_sm {i : Nat → Int32} {c : Nat → Nat → Int32} {r : Int32} {o k : Int} (hI : mInv i c) (hk : 0 ≤ k ∧ k ≤ 5) (h : Sm r (Kd (c 3) (c 6) o k)) : 0 ≤ kS (c 3) (c 6) o ∧ kS (c 3) (c 6) o ≤ 5 ∧ ((r.toInt = 1 ∧ (kS (c 3) (c 6) o = k ∨ ((1 : Int) = k ∧ 1 < kS (c 3) (c 6) o))) ∨ (r.toInt = 0 ∧ ¬ (kS (c 3) (c 6) o = k ∨ ((1 : Int) = k ∧ 1 < kS (c 3) (c 6) o)))) := by
  have e := kS_e (k := k) (K6_of hI) (Kd_tot hI o) hk
  refine ⟨kS_r.1, kS_r.2, ?_⟩
  rcases h with ⟨a, b⟩ | ⟨a, b⟩
  · exact Or.inl ⟨a, by have := e.mp b; omega⟩
  · exact Or.inr ⟨a, fun q => b (e.mpr (by omega))⟩
/-- what may stand left, right -/
def FtL (f s b : Int) : Prop := (f ≤ 1 ∧ (s = 1 ∨ 3 ≤ s)) ∨ (f = 5 ∧ s = 0) ∨ (f = 6 ∧ ((b ≤ 1 ∧ (s = 2 ∨ s = 3)) ∨ b = 2 ∨ (b = 3 ∧ (s = 1 ∨ 3 ≤ s)) ∨ (b = 4 ∧ (s = 1 ∨ 3 ≤ s) ∧ ¬ s = 5) ∨ (5 ≤ b ∧ s = 3))) ∨ ((2 ≤ f ∧ f ≤ 4 ∨ f = 7) ∧ (s = 1 ∨ 3 ≤ s) ∧ ¬ s = 5)
def FtR (f s : Int) : Prop := (f = 0 ∧ (s = 0 ∨ s = 3)) ∨ (f = 1 ∧ s = 4) ∨ ((f = 2 ∨ f = 3) ∧ s = 5) ∨ (f = 4 ∧ ¬ s = 0) ∨ (f = 5 ∧ (s = 0 ∨ s = 2)) ∨ f = 6 ∨ (f = 7 ∧ (s = 2 ∨ s = 3))
theorem FtL_0 {f s b : Int} (hf : f = 0) : FtL f s b ↔ (s = 1 ∨ 3 ≤ s) := by
  subst hf
  constructor
  · intro h
    rcases h with h | h | h | h <;> first | exact h.2 | (exfalso; omega)
  · intro h
    exact Or.inl ⟨by omega, h⟩
theorem FtL_1 {f s b : Int} (hf : f = 1) : FtL f s b ↔ (s = 1 ∨ 3 ≤ s) := by
  subst hf
  constructor
  · intro h
    rcases h with h | h | h | h <;> first | exact h.2 | (exfalso; omega)
  · intro h
    exact Or.inl ⟨by omega, h⟩
theorem FtL_2 {f s b : Int} (hf : f = 2) : FtL f s b ↔ ((s = 1 ∨ 3 ≤ s) ∧ ¬ s = 5) := by
  subst hf
  constructor
  · intro h
    rcases h with h | h | h | h <;> first | exact h.2 | (exfalso; omega)
  · intro h
    exact Or.inr (Or.inr (Or.inr ⟨by omega, h⟩))
theorem FtL_3 {f s b : Int} (hf : f = 3) : FtL f s b ↔ ((s = 1 ∨ 3 ≤ s) ∧ ¬ s = 5) := by
  subst hf
  constructor
  · intro h
    rcases h with h | h | h | h <;> first | exact h.2 | (exfalso; omega)
  · intro h
    exact Or.inr (Or.inr (Or.inr ⟨by omega, h⟩))
theorem FtL_4 {f s b : Int} (hf : f = 4) : FtL f s b ↔ ((s = 1 ∨ 3 ≤ s) ∧ ¬ s = 5) := by
  subst hf
  constructor
  · intro h
    rcases h with h | h | h | h <;> first | exact h.2 | (exfalso; omega)
  · intro h
    exact Or.inr (Or.inr (Or.inr ⟨by omega, h⟩))
theorem FtL_5 {f s b : Int} (hf : f = 5) : FtL f s b ↔ s = 0 := by
  subst hf
  constructor
  · intro h
    rcases h with h | h | h | h <;> first | exact h.2 | (exfalso; omega)
  · intro h
    exact Or.inr (Or.inl ⟨rfl, h⟩)
theorem FtL_6 {f s b : Int} (hf : f = 6) : FtL f s b ↔ ((b ≤ 1 ∧ (s = 2 ∨ s = 3)) ∨ b = 2 ∨ (b = 3 ∧ (s = 1 ∨ 3 ≤ s)) ∨ (b = 4 ∧ (s = 1 ∨ 3 ≤ s) ∧ ¬ s = 5) ∨ (5 ≤ b ∧ s = 3)) := by
  subst hf
  constructor
  · intro h
    rcases h with h | h | h | h <;> first | exact h.2 | (exfalso; omega)
  · intro h
    exact Or.inr (Or.inr (Or.inl ⟨rfl, h⟩))
theorem FtL_7 {f s b : Int} (hf : f = 7) : FtL f s b ↔ ((s = 1 ∨ 3 ≤ s) ∧ ¬ s = 5) := by
  subst hf
  constructor
  · intro h
    rcases h with h | h | h | h <;> first | exact h.2 | (exfalso; omega)
  · intro h
    exact Or.inr (Or.inr (Or.inr ⟨by omega, h⟩))
theorem FtR_0 {f s : Int} (hf : f = 0) : FtR f s ↔ (s = 0 ∨ s = 3) := by
  subst hf
  constructor
  · intro h
    rcases h with h | h | h | h | h | h | h <;> first | exact h.2 | (exfalso; omega)
  · intro h
    exact Or.inl ⟨rfl, h⟩
theorem FtR_1 {f s : Int} (hf : f = 1) : FtR f s ↔ s = 4 := by
  subst hf
  constructor
  · intro h
    rcases h with h | h | h | h | h | h | h <;> first | exact h.2 | (exfalso; omega)
  · intro h
    exact Or.inr (Or.inl ⟨rfl, h⟩)
theorem FtR_2 {f s : Int} (hf : f = 2) : FtR f s ↔ s = 5 := by
  subst hf
  constructor
  · intro h
    rcases h with h | h | h | h | h | h | h <;> first | exact h.2 | (exfalso; omega)
  · intro h
    exact Or.inr (Or.inr (Or.inl ⟨by omega, h⟩))
theorem FtR_3 {f s : Int} (hf : f = 3) : FtR f s ↔ s = 5 := by
  subst hf
  constructor
  · intro h
    rcases h with h | h | h | h | h | h | h <;> first | exact h.2 | (exfalso; omega)
  · intro h
    exact Or.inr (Or.inr (Or.inl ⟨by omega, h⟩))
theorem FtR_4 {f s : Int} (hf : f = 4) : FtR f s ↔ ¬ s = 0 := by
  subst hf
  constructor
  · intro h
    rcases h with h | h | h | h | h | h | h <;> first | exact h.2 | (exfalso; omega)
  · intro h
    exact Or.inr (Or.inr (Or.inr (Or.inl ⟨rfl, h⟩)))
theorem FtR_5 {f s : Int} (hf : f = 5) : FtR f s ↔ (s = 0 ∨ s = 2) := by
  subst hf
  constructor
  · intro h
    rcases h with h | h | h | h | h | h | h <;> first | exact h.2 | (exfalso; omega)
  · intro h
    exact Or.inr (Or.inr (Or.inr (Or.inr (Or.inl ⟨rfl, h⟩))))
theorem FtR_7 {f s : Int} (hf : f = 7) : FtR f s ↔ (s = 2 ∨ s = 3) := by
  subst hf
  constructor
  · intro h
    rcases h with h | h | h | h | h | h | h <;> first | exact h.2 | (exfalso; omega)
  · intro h
    exact Or.inr (Or.inr (Or.inr (Or.inr (Or.inr (Or.inr ⟨rfl, h⟩)))))
theorem FtR_6 {f s : Int} (hf : f = 6) : FtR f s ↔ True := by
  subst hf
  exact ⟨fun _ => trivial, fun _ => Or.inr (Or.inr (Or.inr (Or.inr (Or.inr (Or.inl rfl)))))⟩
def Fit (f s b z : Int) : Prop := FtL f s b ∧ (f = 6 ∨ FtR f z)
theorem Fit_0 {f s b z : Int} (hf : f = 0) : Fit f s b z ↔ ((s = 1 ∨ 3 ≤ s) ∧ (z = 0 ∨ z = 3)) :=
  ⟨fun h => ⟨(FtL_0 hf).mp h.1, (FtR_0 hf).mp (h.2.resolve_left (by omega))⟩, fun h => ⟨(FtL_0 hf).mpr h.1, Or.inr ((FtR_0 hf).mpr h.2)⟩⟩
theorem Fit_1 {f s b z : Int} (hf : f = 1) : Fit f s b z ↔ ((s = 1 ∨ 3 ≤ s) ∧ z = 4) :=
  ⟨fun h => ⟨(FtL_1 hf).mp h.1, (FtR_1 hf).mp (h.2.resolve_left (by omega))⟩, fun h => ⟨(FtL_1 hf).mpr h.1, Or.inr ((FtR_1 hf).mpr h.2)⟩⟩
theorem Fit_2 {f s b z : Int} (hf : f = 2) : Fit f s b z ↔ (((s = 1 ∨ 3 ≤ s) ∧ ¬ s = 5) ∧ z = 5) :=
  ⟨fun h => ⟨(FtL_2 hf).mp h.1, (FtR_2 hf).mp (h.2.resolve_left (by omega))⟩, fun h => ⟨(FtL_2 hf).mpr h.1, Or.inr ((FtR_2 hf).mpr h.2)⟩⟩
theorem Fit_3 {f s b z : Int} (hf : f = 3) : Fit f s b z ↔ (((s = 1 ∨ 3 ≤ s) ∧ ¬ s = 5) ∧ z = 5) :=
  ⟨fun h => ⟨(FtL_3 hf).mp h.1, (FtR_3 hf).mp (h.2.resolve_left (by omega))⟩, fun h => ⟨(FtL_3 hf).mpr h.1, Or.inr ((FtR_3 hf).mpr h.2)⟩⟩
theorem Fit_4 {f s b z : Int} (hf : f = 4) : Fit f s b z ↔ (((s = 1 ∨ 3 ≤ s) ∧ ¬ s = 5) ∧ ¬ z = 0) :=
  ⟨fun h => ⟨(FtL_4 hf).mp h.1, (FtR_4 hf).mp (h.2.resolve_left (by omega))⟩, fun h => ⟨(FtL_4 hf).mpr h.1, Or.inr ((FtR_4 hf).mpr h.2)⟩⟩
theorem Fit_5 {f s b z : Int} (hf : f = 5) : Fit f s b z ↔ (s = 0 ∧ (z = 0 ∨ z = 2)) :=
  ⟨fun h => ⟨(FtL_5 hf).mp h.1, (FtR_5 hf).mp (h.2.resolve_left (by omega))⟩, fun h => ⟨(FtL_5 hf).mpr h.1, Or.inr ((FtR_5 hf).mpr h.2)⟩⟩
theorem Fit_7 {f s b z : Int} (hf : f = 7) : Fit f s b z ↔ (((s = 1 ∨ 3 ≤ s) ∧ ¬ s = 5) ∧ (z = 2 ∨ z = 3)) :=
  ⟨fun h => ⟨(FtL_7 hf).mp h.1, (FtR_7 hf).mp (h.2.resolve_left (by omega))⟩, fun h => ⟨(FtL_7 hf).mpr h.1, Or.inr ((FtR_7 hf).mpr h.2)⟩⟩
theorem Fit_6 {f s b z : Int} (hf : f = 6) : Fit f s b z ↔ ((b ≤ 1 ∧ (s = 2 ∨ s = 3)) ∨ b = 2 ∨ (b = 3 ∧ (s = 1 ∨ 3 ≤ s)) ∨ (b = 4 ∧ (s = 1 ∨ 3 ≤ s) ∧ ¬ s = 5) ∨ (5 ≤ b ∧ s = 3)) :=
  ⟨fun h => (FtL_6 hf).mp h.1, fun h => ⟨(FtL_6 hf).mpr h, Or.inl hf⟩⟩
def WF (f a b c N : Int) : Prop := 0 ≤ f ∧ f ≤ 7 ∧ 0 ≤ a ∧ a < N ∧ ((f = 6 ∧ 0 ≤ b ∧ b ≤ 5 ∧ 0 ≤ c ∧ c ≤ 1) ∨ (¬ f = 6 ∧ 0 ≤ b ∧ b < N ∧ (¬ f = 5 ∨ (0 ≤ c ∧ c ≤ 9))))
/-- the sentence that stands where such a one would -/
def sFv (pb eb fb kb : Nat → Int32) (f a b c : Int) : Int32 := if f = 5 then eb (a * 10 + c).toNat else if f = 6 then fb (a * 6 + b).toNat else if f = 7 then kb b.toNat else pb a.toNat
def SX (F A B C : Nat → Int32) (v : Int32) (f a b c : Int) : Prop := ¬ v.toInt = -9 ∧ (F v.toNatClampNeg).toInt = f ∧ (A v.toNatClampNeg).toInt = a ∧ (B v.toNatClampNeg).toInt = b ∧ (C v.toNatClampNeg).toInt = c
def SyX (fb C : Nat → Int32) (a g v : Int) : Prop := ¬ (fb (a * 6 + g).toNat).toInt = -9 ∧ (C (fb (a * 6 + g).toNat).toNatClampNeg).toInt = v
/-- where a row of cells lays an object -/
def hF (ce : Nat → Int32) (x : Int) : Int := if 0 ≤ x ∧ x ≤ 29 ∧ ¬ (ce x.toNat).toInt % 256 = 255 then (ce x.toNat).toInt / 8 % 32 else -9
theorem hF_at {ce : Nat → Int32} {x r : Int32} (hx : 0 ≤ x.toInt ∧ x.toInt ≤ 29) (h : (r.toInt = -9 ∧ (ce x.toNatClampNeg).toInt % 256 = 255) ∨ (0 ≤ r.toInt ∧ r.toInt ≤ 29 ∧ ¬ (ce x.toNatClampNeg).toInt % 256 = 255 ∧ r.toInt = (ce x.toNatClampNeg).toInt / 8 % 32)) : hF ce x.toInt = r.toInt := by
  have e : x.toNatClampNeg = x.toInt.toNat := rfl
  rw [e] at h
  unfold hF
  rcases h with ⟨a, b⟩ | ⟨a, b, d, f⟩
  · rw [if_neg (fun q => q.2.2 b), a]
  · rw [if_pos ⟨hx.1, hx.2, d⟩, f]
theorem hF_9 {ce : Nat → Int32} : hF ce (-9) = -9 := if_neg (by omega)
def PlX (ce fb C : Nat → Int32) (f a b : Int) : Prop := a = b ∨ Ch (hF ce) (hF ce b) a ∨ (f = 3 ∧ SyX fb C a 4 0)
def DP (eb B : Nat → Int32) (a b : Int) (d : Nat) : Prop := ¬ (eb (a * 10 + (d : Int)).toNat).toInt = -9 ∧ (B (eb (a * 10 + (d : Int)).toNat).toNatClampNeg).toInt = b
def EB (F B S : Nat → Int32) (b : Int) (s : Nat) : Prop := (S s).toInt = 1 ∧ (F s).toInt = 5 ∧ (B s).toInt = b
def Two (P : Nat → Prop) (m : Int) : Prop := ∃ s1 s2 : Nat, s1 < s2 ∧ (s2 : Int) < m ∧ P s1 ∧ P s2
/-- k: none, one, or two and more of those below m -/
def CN (P : Nat → Prop) (m k : Int) : Prop := (k = 0 ∧ ∀ s : Nat, (s : Int) < m → ¬ P s) ∨ (k = 1 ∧ ∃ s1 : Nat, (s1 : Int) < m ∧ P s1 ∧ ∀ s : Nat, (s : Int) < m → P s → s = s1) ∨ (2 ≤ k ∧ Two P m)
theorem CN_0 {P : Nat → Prop} {m k : Int} (h : m = 0) (hk : k = 0) : CN P m k := Or.inl ⟨hk, fun s hs => by omega⟩
theorem CN_n {P : Nat → Prop} {x y : Int32} {k : Int} (h : CN P x.toInt k) (hx : 0 ≤ x.toInt) (hp : ¬ P x.toNatClampNeg) (hy : y.toInt = x.toInt + 1) : CN P y.toInt k := by
  have e : x.toNatClampNeg = x.toInt.toNat := rfl
  have no : ∀ s : Nat, (s : Int) < y.toInt → P s → (s : Int) < x.toInt := fun s hs q => by
    by_cases z : s = x.toNatClampNeg
    · rw [z] at q; exact absurd q hp
    · omega
  rcases h with ⟨a, b⟩ | ⟨a, s1, b, d, f⟩ | ⟨a, s1, s2, b, d, f, g⟩
  · exact Or.inl ⟨a, fun s hs q => b s (no s hs q) q⟩
  · exact Or.inr (Or.inl ⟨a, s1, by omega, d, fun s hs q => f s (no s hs q) q⟩)
  · exact Or.inr (Or.inr ⟨a, s1, s2, b, by omega, f, g⟩)
theorem CN_y {P : Nat → Prop} {x y : Int32} {k k2 : Int} (h : CN P x.toInt k) (hx : 0 ≤ x.toInt) (hp : P x.toNatClampNeg) (hy : y.toInt = x.toInt + 1) (hk : k2 = k + 1 ∨ (2 ≤ k ∧ k2 = k)) : CN P y.toInt k2 := by
  have e : x.toNatClampNeg = x.toInt.toNat := rfl
  rcases h with ⟨a, b⟩ | ⟨a, s1, b, d, f⟩ | ⟨a, s1, s2, b, d, f, g⟩
  · exact Or.inr (Or.inl ⟨by omega, x.toNatClampNeg, by omega, hp, fun s hs q => by
      by_cases z : s = x.toNatClampNeg
      · exact z
      · exact absurd q (b s (by omega))⟩)
  · exact Or.inr (Or.inr ⟨by omega, s1, x.toNatClampNeg, by omega, by omega, d, hp⟩)
  · exact Or.inr (Or.inr ⟨by omega, s1, s2, b, by omega, f, g⟩)
theorem CN_2 {P : Nat → Prop} {m k : Int} (h : CN P m k) (hk : 2 ≤ k) : Two P m := by
  rcases h with ⟨a, b⟩ | ⟨a, b⟩ | ⟨a, b⟩
  · exfalso; omega
  · exfalso; omega
  · exact b
theorem CN_1 {P : Nat → Prop} {m k : Int} (h : CN P m k) (hk : ¬ 2 ≤ k) : ¬ Two P m := by
  rintro ⟨s1, s2, q1, q2, p1, p2⟩
  rcases h with ⟨a, b⟩ | ⟨a, s, b, d, f⟩ | ⟨a, b⟩
  · exact b s2 q2 p2
  · have e1 := f s1 (by omega) p1
    have e2 := f s2 q2 p2
    omega
  · exact hk a
theorem CN_p {P : Nat → Prop} {m k : Int} (h : CN P m k) (hk : ¬ k = 0) : ∃ s : Nat, (s : Int) < m ∧ P s := by
  rcases h with ⟨a, b⟩ | ⟨a, s, b, d, f⟩ | ⟨a, s1, s2, b, d, f, g⟩
  · exact absurd a hk
  · exact ⟨s, b, d⟩
  · exact ⟨s2, d, g⟩
theorem CN_z {P : Nat → Prop} {m k : Int} (h : CN P m k) (hk : k = 0) : ¬ ∃ s : Nat, (s : Int) < m ∧ P s := by
  rintro ⟨s, q, p⟩
  rcases h with ⟨a, b⟩ | ⟨a, s, b, d, f⟩ | ⟨a, s1, s2, b, d, f, g⟩
  · exact b s q p
  · omega
  · omega
def DoX (eb F B S : Nat → Int32) (n a b : Int) : Prop := (∃ d : Nat, (d : Int) < 10 ∧ DP eb B a b d) ∨ Two (EB F B S b) n
def FlX (pb fb C ce : Nat → Int32) (a g v : Int) : Prop := (g = 0 ∧ v = 1 ∧ SyX fb C a 1 1) ∨ (g = 1 ∧ v = 1 ∧ SyX fb C a 0 1) ∨ (g = 4 ∧ v = 0 ∧ ¬ (ce a.toNat).toInt % 256 = 255 ∧ (ce a.toNat).toInt % 8 = 3 ∧ ¬ (pb a.toNat).toInt = -9)
def ClX (F B C S pb eb fb kb ce : Nat → Int32) (n z f a b c : Int) : Prop := ¬ (sFv pb eb fb kb f a b c).toInt = -9 ∨ (f = 5 ∧ z = 2 ∧ DoX eb F B S n a b) ∨ (f = 6 ∧ FlX pb fb C ce a b c) ∨ (f < 5 ∧ PlX ce fb C f a b)
/-- by which number is what a sentence speaks of -/
def PT (pb eb fb kb ce pb2 eb2 fb2 kb2 ce2 : Nat → Int32) (f a b c : Int) (v : Int32) : Prop :=
  (f = 5 ∧ eb2 = upd eb (a * 10 + c).toNat v ∧ pb2 = pb ∧ fb2 = fb ∧ kb2 = kb ∧ ce2 = ce) ∨ (f = 6 ∧ fb2 = upd fb (a * 6 + b).toNat v ∧ pb2 = pb ∧ eb2 = eb ∧ kb2 = kb ∧ ce2 = ce) ∨ (f = 7 ∧ kb2 = upd kb b.toNat v ∧ pb2 = pb ∧ eb2 = eb ∧ fb2 = fb ∧ ce2 = ce)
  ∨ (f < 5 ∧ pb2 = upd pb a.toNat v ∧ eb2 = eb ∧ fb2 = fb ∧ kb2 = kb ∧ ∃ w : Int32, ce2 = upd ce a.toNat w ∧ ((v.toInt = -9 ∧ w.toInt = 255) ∨ (¬ v.toInt = -9 ∧ w.toInt = b * 8 + f)))
/-- the last number of a sentence as it is kept -/
def lI (f c : Int32) : Int32 := if f.toInt = 5 ∨ f.toInt = 6 then c else 0
theorem lI_y {f c : Int32} (h : f.toInt = 5 ∨ f.toInt = 6) : lI f c = c := if_pos h
theorem lI_n {f c : Int32} (h : ¬ (f.toInt = 5 ∨ f.toInt = 6)) : lI f c = 0 := if_neg h
theorem sm_x {r : Int32} {P : Prop} (h : Sm r P) (c : ¬ r.toInt = 1) : ¬ P := by
  rcases h with h | h
  · exact absurd h.1 c
  · exact h.2
theorem sm_i {r : Int32} {P Q : Prop} (h : Sm r P) (e : P ↔ Q) : Sm r Q := by
  rcases h with h | h
  · exact Or.inl ⟨h.1, e.mp h.2⟩
  · exact Or.inr ⟨h.1, fun q => h.2 (e.mpr q)⟩
def sE (F A B C S : Nat → Int32) (f a b c : Int) (s : Nat) : Prop := (S s).toInt = 1 ∧ (F s).toInt = f ∧ (A s).toInt = a ∧ (B s).toInt = b ∧ (C s).toInt = c
def aP (F A B S : Nat → Int32) (a b : Int) (s : Nat) : Prop := (S s).toInt = 1 ∧ (F s).toInt = 5 ∧ (A s).toInt = a ∧ (B s).toInt = b
def KB (F B S : Nat → Int32) (b : Int) (s : Nat) : Prop := (S s).toInt = 1 ∧ (F s).toInt = 7 ∧ (B s).toInt = b
theorem fsF_x {P : Nat → Prop} {n : Int} : ¬ fsF P n.toNat = -9 ↔ ∃ s : Nat, (s : Int) < n ∧ P s := by
  constructor
  · intro h; have q := fsF_q h; exact ⟨_, q.1, q.2⟩
  · rintro ⟨s, a, b⟩ h; exact fsF_n h a b
def PbM (F A B C S : Nat → Int32) (n f a b : Int) : Prop := ¬ pL F A S n a = -9 ∨ Ch (fP F A B S n) b a ∨ (f = 3 ∧ ¬ fsF (sE F A B C S 6 a 4 0) n.toNat = -9)
def XbM (F A B C S : Nat → Int32) (n z a b c : Int) : Prop := ¬ fsF (bP F A C S a c) n.toNat = -9 ∨ (z = 2 ∧ (¬ fsF (aP F A B S a b) n.toNat = -9 ∨ Two (EB F B S b) n))
def FbM (F A B C S : Nat → Int32) (n a b c : Int) : Prop := ¬ fsF (sE F A B C S 6 a b (1 - c)) n.toNat = -9 ∨ (c = 1 ∧ (b = 0 ∨ b = 1) ∧ ¬ fsF (sE F A B C S 6 a (1 - b) 1) n.toNat = -9) ∨ (b = 4 ∧ c = 0 ∧ ¬ pL F A S n a = -9 ∧ (F (pL F A S n a).toNat).toInt = 3)
def BaM (F A B C S : Nat → Int32) (n z f a b c : Int) : Prop := (f < 5 ∧ PbM F A B C S n f a b) ∨ (f = 5 ∧ XbM F A B C S n z a b c) ∨ (f = 6 ∧ FbM F A B C S n a b c) ∨ (f = 7 ∧ ∃ s : Nat, (s : Int) < n ∧ KB F B S b s)
theorem Ba_4 {F A B C S : Nat → Int32} {n z f a b c : Int} (h : f < 5) : PbM F A B C S n f a b ↔ BaM F A B C S n z f a b c :=
  ⟨fun q => Or.inl ⟨h, q⟩, fun q => by rcases q with q | q | q | q; exact q.2; (exfalso; omega); (exfalso; omega); (exfalso; omega)⟩
theorem Ba_5 {F A B C S : Nat → Int32} {n z f a b c : Int} (h : f = 5) : XbM F A B C S n z a b c ↔ BaM F A B C S n z f a b c :=
  ⟨fun q => Or.inr (Or.inl ⟨h, q⟩), fun q => by rcases q with q | q | q | q; (exfalso; omega); exact q.2; (exfalso; omega); (exfalso; omega)⟩
theorem Ba_6 {F A B C S : Nat → Int32} {n z f a b c : Int} (h : f = 6) : FbM F A B C S n a b c ↔ BaM F A B C S n z f a b c :=
  ⟨fun q => Or.inr (Or.inr (Or.inl ⟨h, q⟩)), fun q => by rcases q with q | q | q | q; (exfalso; omega); (exfalso; omega); exact q.2; (exfalso; omega)⟩
theorem Ba_7 {F A B C S : Nat → Int32} {n z f a b c : Int} (h : f = 7) : (∃ s : Nat, (s : Int) < n ∧ KB F B S b s) ↔ BaM F A B C S n z f a b c :=
  ⟨fun q => Or.inr (Or.inr (Or.inr ⟨h, q⟩)), fun q => by rcases q with q | q | q | q; (exfalso; omega); (exfalso; omega); (exfalso; omega); exact q.2⟩
/-- what a sentence said does to the rows -/
def SyW (Q : Prop) (F A B C S F2 A2 B2 C2 S2 : Nat → Int32) (n n2 f a b l : Int32) : Prop := (¬ Q ∧ F2 = F ∧ A2 = A ∧ B2 = B ∧ C2 = C ∧ S2 = S ∧ n2.toInt = n.toInt) ∨ (Q ∧ F2 = upd F n.toNatClampNeg f ∧ A2 = upd A n.toNatClampNeg a ∧ B2 = upd B n.toNatClampNeg b ∧ C2 = upd C n.toNatClampNeg l ∧ S2 = upd S n.toNatClampNeg 1 ∧ n2.toInt = n.toInt + 1)
def AcM (F A B C S : Nat → Int32) (n N z y f a b c l : Int) : Prop := WF f a b c N ∧ Fit f z b y ∧ fsF (sE F A B C S f a b l) n.toNat = -9 ∧ n ≤ 199 ∧ ¬ BaM F A B C S n y f a b l
def AcX (F A B C S pb eb fb kb ce : Nat → Int32) (n N z y f a b c l : Int) : Prop := WF f a b c N ∧ Fit f z b y ∧ ¬ SX F A B C (sFv pb eb fb kb f a b l) f a b l ∧ n ≤ 199 ∧ ¬ ClX F B C S pb eb fb kb ce n y f a b l
theorem FF_of {i : Nat → Int32} {c : Nat → Nat → Int32} {f a b : Int} (hI : mInv i c) (h : Fit f (kS (c 3) (c 6) a) b (kS (c 3) (c 6) b)) : Im (f < 5) (¬ Kd (c 3) (c 6) a 0) ∧ Im (f = 5) (Kd (c 3) (c 6) a 0 ∧ (Kd (c 3) (c 6) b 0 ∨ Kd (c 3) (c 6) b 2)) := by
  have e0 := kS_e (k := 0) (K6_of hI) (Kd_tot hI a) (by omega)
  have e1 := kS_e (k := 0) (K6_of hI) (Kd_tot hI b) (by omega)
  have e2 := kS_e (k := 2) (K6_of hI) (Kd_tot hI b) (by omega)
  unfold Fit FtL FtR at h
  refine ⟨fun q w => ?_, fun q => ⟨e0.mpr (by omega), ?_⟩⟩
  · have := e0.mp w; omega
  · by_cases z : kS (c 3) (c 6) b = 0
    · exact Or.inl (e1.mpr (Or.inl z))
    · exact Or.inr (e2.mpr (by omega))
def PtW (Q : Prop) (pb eb fb kb ce pb2 eb2 fb2 kb2 ce2 : Nat → Int32) (f a b c : Int) (v : Int32) : Prop := (¬ Q ∧ pb2 = pb ∧ eb2 = eb ∧ fb2 = fb ∧ kb2 = kb ∧ ce2 = ce) ∨ (Q ∧ PT pb eb fb kb ce pb2 eb2 fb2 kb2 ce2 f a b c v)
def UnQ (S : Nat → Int32) (n s : Int32) : Prop := 0 ≤ s.toInt ∧ s.toInt < n.toInt ∧ (S s.toNatClampNeg).toInt = 1
def UnW (S S2 : Nat → Int32) (n s : Int32) : Prop := (¬ UnQ S n s ∧ S2 = S) ∨ (UnQ S n s ∧ S2 = upd S s.toNatClampNeg 0)

def SoR (pa so : Nat → Int32) (kn : Int32) : Prop := ∀ k : Nat, (k : Int) < kn.toInt → ∀ c : Int, 0 ≤ c → c ≤ 5 → (Ch (kF pa) (k : Int) c ↔ ((so k).toInt = c ∨ (c = 1 ∧ 1 < (so k).toInt)))
def KS (a b : Nat → Int32) (k kn : Int32) : Prop := (¬ (0 ≤ k.toInt ∧ k.toInt < kn.toInt ∧ kn.toInt ≤ 23) ∧ b = a) ∨ (0 ≤ k.toInt ∧ k.toInt < kn.toInt ∧ kn.toInt ≤ 23 ∧ b = upd a kn.toNatClampNeg (a k.toNatClampNeg))
def KU (a b : Nat → Int32) (k kn : Int32) : Prop := (¬ (0 ≤ k.toInt ∧ k.toInt < kn.toInt ∧ kn.toInt ≤ 23) ∧ b = a) ∨ (0 ≤ k.toInt ∧ k.toInt < kn.toInt ∧ kn.toInt ≤ 23 ∧ b = upd a kn.toNatClampNeg k)
def OU (a b : Nat → Int32) (k s1 kn ob : Int32) : Prop := (¬ (0 ≤ k.toInt ∧ k.toInt < kn.toInt ∧ 0 ≤ s1.toInt ∧ s1.toInt ≤ 99 ∧ ob.toInt ≤ 29) ∧ b = a) ∨ (0 ≤ k.toInt ∧ k.toInt < kn.toInt ∧ 0 ≤ s1.toInt ∧ s1.toInt ≤ 99 ∧ ob.toInt ≤ 29 ∧ b = upd a ob.toNatClampNeg k)
def PD (pa : Nat → Int32) : Prop := ∀ j : Nat, (pa j).toInt = -9 ∨ (0 ≤ (pa j).toInt ∧ (pa j).toInt < (j : Int))
def IsR (pa ko : Nat → Int32) (w k : Int32) (ob kn : Int) (r : Int32) : Prop := (¬ (0 ≤ w.toInt ∧ w.toInt < ob ∧ 0 ≤ k.toInt ∧ k.toInt < kn) ∧ r.toInt = -1) ∨ ((0 ≤ w.toInt ∧ w.toInt < ob ∧ 0 ≤ k.toInt ∧ k.toInt < kn) ∧ Sm r (Kd pa ko w.toInt k.toInt))
theorem sm_fl {r z : Int32} {P : Prop} (h : r = if (¬ z.toInt = 0) then 1 else 0) (hz : Sm z P) : Sm r P := by
  rcases hz with ⟨a, b⟩ | ⟨a, b⟩
  · rw [if_pos (by omega)] at h; subst h; exact sm_1 b
  · rw [if_neg (by omega)] at h; subst h; exact sm_0 b

def StB (k f v : Int32) (kn : Int) : Prop := ¬ (0 ≤ k.toInt ∧ k.toInt < kn) ∨ ¬ (0 ≤ f.toInt ∧ f.toInt ≤ 5) ∨ ¬ (v.toInt = -9 ∨ v.toInt = 0 ∨ v.toInt = 1)
def StU (a b : Nat → Int32) (k f v : Int32) (kn : Int) : Prop := (StB k f v kn ∧ b = a) ∨ (¬ StB k f v kn ∧ b = upd a (k.toInt * 6 + f.toInt).toNat v)
def StR (a : Nat → Int32) (k f v : Int32) (kn : Int) (r : Int32) : Prop := (StB k f v kn ∧ r.toInt = -1) ∨ (¬ StB k f v kn ∧ r = a (k.toInt * 6 + f.toInt).toNat)
theorem cl_t {x : Int32} {a : Int} (e : x.toInt = a) : x.toNatClampNeg = a.toNat := by rw [← e]; rfl

def wm_X10_addKind_e : List Cond := .code yX10_addKind cX10_addKind 2 (some .int) :: (([.fieldLink RX10 9 "TalePlay$World" "parents" "[I", .fieldLink RX10 33 "TalePlay$World" "kinds" "I", .fieldLink RX10 15 "TalePlay$World" "sorts" "[I"] : List Cond) ++ wsX100)
set_option maxHeartbeats 4000000 in
set_option maxRecDepth 100000 in
theorem x_X10_addKind_e (l : Launch) (D : va_G) (sz : Nat) (sk : Value) (a : Nat → Nat) (t : Nat → ClassId) (i : Nat → Int32) (q : Int64) (c : Nat → Nat → Int32) (d : Nat → Nat → Int64) (k1 : Int32) (hI : xInv i c) (hk1 : 0 ≤ k1.toInt ∧ k1.toInt ≤ 23) (hkn : (i 110).toInt ≤ 23) : Met l yX10_addKind wm_X10_addKind_e ({ frames := 0, cells := 0, slots := 0, locals := 0 }) (va_Pc [.ref (a 104), .int k1] (yB (a 186) D sz (xwT sk a t i q c d) (xtT t))) (va_Qi (fun (r : Int32) (u : MS) => (r.toInt = (i 110).toInt) ∧ xInv u.1 u.2.2.1 ∧ (∀ k, k ∉ ([110] : List Nat) → u.1 k = i k) ∧ (∀ k, k ∉ ([105, 106] : List Nat) → u.2.2.1 k = c k) ∧ ((u.1 110).toInt = (i 110).toInt + 1) ∧ ((u.2.2.1 105) = upd (c 105) (i 110).toNatClampNeg k1) ∧ ((u.2.2.1 106) = upd (c 106) (i 110).toNatClampNeg (c 106 k1.toNatClampNeg))) (oC D (va_A (xwT sk a t i q c d) sz) (fun u : MS => xwT sk a t u.1 u.2.1 u.2.2.1 u.2.2.2) (fun _ => [])) (va_A (xwT sk a t i q c d) sz)) 0 0 (va_A (xwT sk a t i q c d) sz) := by
  refine Met.ofW (cc := cX10_addKind) (maxL := 2) (ret := (some .int)) (by decide +kernel) rfl ?_
  intro p e s m args below meth cd s₁ B hml hv
  obtain ⟨rfl, ⟨hsz, hP, hK, hD0⟩, hN, hZ, hBW⟩ := hv
  have hx := B.exec
  have hb := B.bytes
  have hr := B.returns
  have hts := atoms_spec (ws := wm_X10_addKind_e) B.pre
  have hown : s.vm.findClass RX10 = some m.cls := findClass_of_methodNamed B.named
  have hlocks := B.notSynchronized
  subst hsz
  have hD := hD0.self (sz := s.heap.size)
  have hZ := xZ_A hZ hP hBW
  generalize hAe : va_A (xwT sk a t i q c d) s.heap.size = A at hD hZ ⊢
  have hA : ∀ q : Nat, s.heap.size ≤ q → A q := fun q h => by rw [← hAe]; exact Or.inr h
  have hS : va_S A s.heap s.heap [] := va_S.rf
  have hfi : ∀ k, k ∉ ([] : List Nat) → i k = i k := fun _ _ => rfl
  have hfc : ∀ k, k ∉ ([] : List Nat) → c k = c k := fun _ _ => rfl
  have hl := lv_entry ([.ref (a 104), .int k1]) (n := 2) (Nat.le_of_ble_eq_true rfl)
  rw [lg_entry_eq]
  generalize (lg_sl ([.ref (a 104), .int k1]) ++ List.replicate (2 - (lg_sl ([.ref (a 104), .int k1])).length) Slot.unset).toArray = ls at hl ⊢
  have hl : lv_has ls 2 [(0, .ref (a 104)), (1, .int k1)] := hl
  refine lv_aload_n hx hb dX10_addKind_0 rfl (lv_at hl 0 rfl) ?_
  refine xgT_W_parents hx hb hts (fun _ h => List.mem_cons_of_mem _ (List.mem_append_right _ h)) hown hK hP (hts (.fieldLink RX10 9 "TalePlay$World" "parents" "[I") (List.mem_cons_of_mem _ (List.mem_append_left _ (List.mem_of_getElem? (i := 0) rfl)))) dX10_addKind_1 ?_
  refine lv_aload_n hx hb dX10_addKind_4 rfl (lv_at hl 0 rfl) ?_
  refine xgT_W_kinds (v := (i 110)) rfl hx hb hts (fun _ h => List.mem_cons_of_mem _ (List.mem_append_right _ h)) hown hK hP (hts (.fieldLink RX10 33 "TalePlay$World" "kinds" "I") (List.mem_cons_of_mem _ (List.mem_append_left _ (List.mem_of_getElem? (i := 1) rfl)))) dX10_addKind_5 ?_
  have rb110_i : 6 ≤ (i 110).toInt ∧ (i 110).toInt ≤ 24 := hI.1 110
  refine lv_iload_n hx hb dX10_addKind_8 rfl (lv_at hl 1 rfl) ?_
  refine xsT_105 hx hb hK hP hD hS (vp_in_iff.mpr (by have h9 : (i 110).toInt = (i 110).toInt := rfl; omega)) dX10_addKind_9 (fun H locs hP hD hS => ?_)
  have hI := xInv_c hI (k := 105) (j := ((i 110) : Int32).toNatClampNeg) (x := k1) (show (k1 : Int32).toInt = -9 ∨ (0 ≤ (k1 : Int32).toInt ∧ (k1 : Int32).toInt ≤ 23) from by omega)
  have hfc : ∀ k, k ∉ ([105] : List Nat) → (updA c 105 ((i 110) : Int32).toNatClampNeg k1) k = c k := fr_cz hfc (by decide +kernel) (by decide +kernel)
  refine lv_aload_n hx hb dX10_addKind_10 rfl (lv_at hl 0 rfl) ?_
  refine xgT_W_sorts hx hb hts (fun _ h => List.mem_cons_of_mem _ (List.mem_append_right _ h)) hown hK hP (hts (.fieldLink RX10 15 "TalePlay$World" "sorts" "[I") (List.mem_cons_of_mem _ (List.mem_append_left _ (List.mem_of_getElem? (i := 2) rfl)))) dX10_addKind_11 ?_
  refine lv_aload_n hx hb dX10_addKind_14 rfl (lv_at hl 0 rfl) ?_
  refine xgT_W_kinds (v := (i 110)) rfl hx hb hts (fun _ h => List.mem_cons_of_mem _ (List.mem_append_right _ h)) hown hK hP (hts (.fieldLink RX10 33 "TalePlay$World" "kinds" "I") (List.mem_cons_of_mem _ (List.mem_append_left _ (List.mem_of_getElem? (i := 1) rfl)))) dX10_addKind_15 ?_
  refine lv_aload_n hx hb dX10_addKind_18 rfl (lv_at hl 0 rfl) ?_
  refine xgT_W_sorts hx hb hts (fun _ h => List.mem_cons_of_mem _ (List.mem_append_right _ h)) hown hK hP (hts (.fieldLink RX10 15 "TalePlay$World" "sorts" "[I") (List.mem_cons_of_mem _ (List.mem_append_left _ (List.mem_of_getElem? (i := 2) rfl)))) dX10_addKind_19 ?_
  refine lv_iload_n hx hb dX10_addKind_22 rfl (lv_at hl 1 rfl) ?_
  refine xlT_106 hx hb hK hP (vp_in_iff.mpr (by have h9 : k1.toInt = k1.toInt := rfl; omega)) dX10_addKind_23 (fun x1 ex1 => ?_)
  have rx1 : 0 ≤ x1.toInt ∧ x1.toInt ≤ 5 := by rw [ex1]; exact hI.2 106 _
  refine xsT_106 hx hb hK hP hD hS (vp_in_iff.mpr (by have h9 : (i 110).toInt = (i 110).toInt := rfl; omega)) dX10_addKind_24 (fun H locs hP hD hS => ?_)
  have hI := xInv_c hI (k := 106) (j := ((i 110) : Int32).toNatClampNeg) (x := x1) (show 0 ≤ (x1 : Int32).toInt ∧ (x1 : Int32).toInt ≤ 5 from by omega)
  have hfc : ∀ k, k ∉ ([105, 106] : List Nat) → (updA (updA c 105 ((i 110) : Int32).toNatClampNeg k1) 106 ((i 110) : Int32).toNatClampNeg x1) k = c k := fr_cz hfc (by decide +kernel) (by decide +kernel)
  refine lv_aload_n hx hb dX10_addKind_25 rfl (lv_at hl 0 rfl) ?_
  refine lv_dup hx hb dX10_addKind_26 rfl ?_
  refine xgT_W_kinds (v := (i 110)) rfl hx hb hts (fun _ h => List.mem_cons_of_mem _ (List.mem_append_right _ h)) hown hK hP (hts (.fieldLink RX10 33 "TalePlay$World" "kinds" "I") (List.mem_cons_of_mem _ (List.mem_append_left _ (List.mem_of_getElem? (i := 1) rfl)))) dX10_addKind_27 ?_
  refine lv_dup_x1 hx hb dX10_addKind_30 rfl rfl ?_
  refine lv_iconst (v := 1) hx hb dX10_addKind_31 (by decide +kernel) ?_
  refine lv_iadd hx hb dX10_addKind_32 ?_
  refine lv_topi (fun x2 ex2 => ?_)
  have tx2 := ti_add (a := (i 110).toInt) (b := 1) ex2 rfl (by decide +kernel) (by omega) (by omega)
  refine xpT_W_kinds hx hb hts (fun _ h => List.mem_cons_of_mem _ (List.mem_append_right _ h)) hown hK hP hD hS (hts (.fieldLink RX10 33 "TalePlay$World" "kinds" "I") (List.mem_cons_of_mem _ (List.mem_append_left _ (List.mem_of_getElem? (i := 1) rfl)))) rfl rfl dX10_addKind_33 (fun H locs hP hD hS => ?_)
  have hI := xInv_i hI (k := 110) (v := x2) (show 6 ≤ (x2 : Int32).toInt ∧ (x2 : Int32).toInt ≤ 24 from by have h9 : x2.toInt = ((i 110).toInt + 1) := tx2; omega)
  have hfi : ∀ k, k ∉ ([110] : List Nat) → (upd i 110 x2) k = i k := fr_iz hfi (by decide +kernel) (by decide +kernel)
  exact rw_iret ((upd i 110 x2), q, (updA (updA c 105 ((i 110) : Int32).toNatClampNeg k1) 106 ((i 110) : Int32).toNatClampNeg x1), d) hx hb hr hlocks hS (hK.sub (tys' := []) [] rfl) hP hD dX10_addKind_36 ⟨(show (i 110).toInt = (i 110).toInt from by omega), hI, fr_w hfi (by decide +kernel), fr_w hfc (by decide +kernel), (show (x2 : Int32).toInt = (i 110).toInt + 1 from by have h50 : x2.toInt = ((i 110).toInt + 1) := tx2; omega), (show ((updA (updA c 105 ((i 110) : Int32).toNatClampNeg k1) 106 ((i 110) : Int32).toNatClampNeg x1) 105) = upd (c 105) (i 110).toNatClampNeg k1 from rfl), (show ((updA (updA c 105 ((i 110) : Int32).toNatClampNeg k1) 106 ((i 110) : Int32).toNatClampNeg x1) 106) = upd (c 106) (i 110).toNatClampNeg (c 106 k1.toNatClampNeg) from by show upd (c 106) (i 110).toNatClampNeg x1 = _; rw [ex1]; rfl)⟩

def wm_X11_kind_e : List Cond := .code yX11_kind cX11_kind 2 (some .int) :: (([.fieldLink RX11 10 "TalePlay" "world" "LTalePlay$World;", .methodLink RX11 80 yX10_hasKind, .instanceMethod yX10_hasKind, .selects RX10 yX10_hasKind yX10_hasKind, .initialized RX10, .code yX10_hasKind cX10_hasKind 2 (some .boolean), .fieldLink RX10 33 "TalePlay$World" "kinds" "I", .fieldLink RX11 84 "TalePlay$World" "kinds" "I", .methodLink RX11 87 yX10_addKind, .instanceMethod yX10_addKind, .selects RX10 yX10_addKind yX10_addKind, .code yX10_addKind cX10_addKind 2 (some .int), .fieldLink RX10 9 "TalePlay$World" "parents" "[I", .fieldLink RX10 15 "TalePlay$World" "sorts" "[I"] : List Cond) ++ wsX110 ++ wsX100)
set_option maxRecDepth 20000 in
theorem gm_X11_kind_e_X10_hasKind_80 : GoodIn wm_X11_kind_e (wsV RX11 80 RX10 yX10_hasKind wm_X10_hasKind) := goodIn_w (List.forall_mem_append.mpr ⟨List.forall_mem_cons.mpr ⟨List.mem_cons_of_mem _ (List.mem_append_left _ (List.mem_append_left _ (List.mem_of_getElem? (i := 1) rfl))), List.forall_mem_cons.mpr ⟨List.mem_cons_of_mem _ (List.mem_append_left _ (List.mem_append_left _ (List.mem_of_getElem? (i := 2) rfl))), List.forall_mem_cons.mpr ⟨List.mem_cons_of_mem _ (List.mem_append_left _ (List.mem_append_left _ (List.mem_of_getElem? (i := 3) rfl))), List.forall_mem_cons.mpr ⟨List.mem_cons_of_mem _ (List.mem_append_left _ (List.mem_append_left _ (List.mem_of_getElem? (i := 4) rfl))), (fun _ h => absurd h List.not_mem_nil)⟩⟩⟩⟩, List.forall_mem_cons.mpr ⟨List.mem_cons_of_mem _ (List.mem_append_left _ (List.mem_append_left _ (List.mem_of_getElem? (i := 5) rfl))), List.forall_mem_append.mpr ⟨List.forall_mem_cons.mpr ⟨List.mem_cons_of_mem _ (List.mem_append_left _ (List.mem_append_left _ (List.mem_of_getElem? (i := 6) rfl))), (fun _ h => absurd h List.not_mem_nil)⟩, (fun _ h => List.mem_cons_of_mem _ (List.mem_append_right _ h))⟩⟩⟩) (by decide +kernel)
set_option maxRecDepth 20000 in
theorem gm_X11_kind_e_X10_addKind_e_87 : GoodIn wm_X11_kind_e (wsV RX11 87 RX10 yX10_addKind wm_X10_addKind_e) := goodIn_w (List.forall_mem_append.mpr ⟨List.forall_mem_cons.mpr ⟨List.mem_cons_of_mem _ (List.mem_append_left _ (List.mem_append_left _ (List.mem_of_getElem? (i := 8) rfl))), List.forall_mem_cons.mpr ⟨List.mem_cons_of_mem _ (List.mem_append_left _ (List.mem_append_left _ (List.mem_of_getElem? (i := 9) rfl))), List.forall_mem_cons.mpr ⟨List.mem_cons_of_mem _ (List.mem_append_left _ (List.mem_append_left _ (List.mem_of_getElem? (i := 10) rfl))), List.forall_mem_cons.mpr ⟨List.mem_cons_of_mem _ (List.mem_append_left _ (List.mem_append_left _ (List.mem_of_getElem? (i := 4) rfl))), (fun _ h => absurd h List.not_mem_nil)⟩⟩⟩⟩, List.forall_mem_cons.mpr ⟨List.mem_cons_of_mem _ (List.mem_append_left _ (List.mem_append_left _ (List.mem_of_getElem? (i := 11) rfl))), List.forall_mem_append.mpr ⟨List.forall_mem_cons.mpr ⟨List.mem_cons_of_mem _ (List.mem_append_left _ (List.mem_append_left _ (List.mem_of_getElem? (i := 12) rfl))), List.forall_mem_cons.mpr ⟨List.mem_cons_of_mem _ (List.mem_append_left _ (List.mem_append_left _ (List.mem_of_getElem? (i := 6) rfl))), List.forall_mem_cons.mpr ⟨List.mem_cons_of_mem _ (List.mem_append_left _ (List.mem_append_left _ (List.mem_of_getElem? (i := 13) rfl))), (fun _ h => absurd h List.not_mem_nil)⟩⟩⟩, (fun _ h => List.mem_cons_of_mem _ (List.mem_append_right _ h))⟩⟩⟩) (by decide +kernel)
set_option maxHeartbeats 4000000 in
set_option maxRecDepth 100000 in
theorem x_X11_kind_e (l : Launch) (D : va_G) (sz : Nat) (sk : Value) (a : Nat → Nat) (t : Nat → ClassId) (i : Nat → Int32) (q : Int64) (c : Nat → Nat → Int32) (d : Nat → Nat → Int64) (k1 : Int32) (hI : xInv i c) : Met l yX11_kind wm_X11_kind_e ({ frames := 1, cells := 0, slots := 0, locals := 21 }) (va_Pc [.ref (a 100), .int k1] (yB (a 186) D sz (xwT sk a t i q c d) (xtT t))) (va_Qi (fun (r : Int32) (u : MS) => True ∧ xInv u.1 u.2.2.1 ∧ (∀ k, k ∉ ([110] : List Nat) → u.1 k = i k) ∧ (∀ k, k ∉ ([105, 106] : List Nat) → u.2.2.1 k = c k) ∧ ((¬ (0 ≤ k1.toInt ∧ k1.toInt < (i 110).toInt) ∧ r.toInt = -1 ∧ (u.1 110).toInt = (i 110).toInt) ∨ (0 ≤ k1.toInt ∧ k1.toInt < (i 110).toInt ∧ 24 ≤ (i 110).toInt ∧ r.toInt = -2 ∧ (u.1 110).toInt = (i 110).toInt) ∨ (0 ≤ k1.toInt ∧ k1.toInt < (i 110).toInt ∧ (i 110).toInt ≤ 23 ∧ r.toInt = (i 110).toInt ∧ (u.1 110).toInt = (i 110).toInt + 1)) ∧ (KU (c 105) (u.2.2.1 105) k1 (i 110)) ∧ (KS (c 106) (u.2.2.1 106) k1 (i 110))) (oC D (va_A (xwT sk a t i q c d) sz) (fun u : MS => xwT sk a t u.1 u.2.1 u.2.2.1 u.2.2.2) (fun _ => [])) (va_A (xwT sk a t i q c d) sz)) 0 0 (va_A (xwT sk a t i q c d) sz) := by
  refine Met.ofW (cc := cX11_kind) (maxL := 2) (ret := (some .int)) (by decide +kernel) rfl ?_
  intro p e s m args below meth cd s₁ B hml hv
  obtain ⟨rfl, ⟨hsz, hP, hK, hD0⟩, hN, hZ, hBW⟩ := hv
  have hx := B.exec
  have hb := B.bytes
  have hr := B.returns
  have hts := atoms_spec (ws := wm_X11_kind_e) B.pre
  have hown : s.vm.findClass RX11 = some m.cls := findClass_of_methodNamed B.named
  have hlocks := B.notSynchronized
  subst hsz
  have hD := hD0.self (sz := s.heap.size)
  have hZ := xZ_A hZ hP hBW
  generalize hAe : va_A (xwT sk a t i q c d) s.heap.size = A at hD hZ ⊢
  have hA : ∀ q : Nat, s.heap.size ≤ q → A q := fun q h => by rw [← hAe]; exact Or.inr h
  have hS : va_S A s.heap s.heap [] := va_S.rf
  have hfi : ∀ k, k ∉ ([] : List Nat) → i k = i k := fun _ _ => rfl
  have hfc : ∀ k, k ∉ ([] : List Nat) → c k = c k := fun _ _ => rfl
  have hl := lv_entry ([.ref (a 100), .int k1]) (n := 2) (Nat.le_of_ble_eq_true rfl)
  rw [lg_entry_eq]
  generalize (lg_sl ([.ref (a 100), .int k1]) ++ List.replicate (2 - (lg_sl ([.ref (a 100), .int k1])).length) Slot.unset).toArray = ls at hl ⊢
  have hl : lv_has ls 2 [(0, .ref (a 100)), (1, .int k1)] := hl
  have rb110_i : 6 ≤ (i 110).toInt ∧ (i 110).toInt ≤ 24 := hI.1 110
  refine lv_aload_n hx hb dX11_kind_0 rfl (lv_at hl 0 rfl) ?_
  refine xgT_X_world hx hb hts (fun _ h => List.mem_cons_of_mem _ (List.mem_append_left _ (List.mem_append_right _ h))) hown hK hP (hts (.fieldLink RX11 10 "TalePlay" "world" "LTalePlay$World;") (List.mem_cons_of_mem _ (List.mem_append_left _ (List.mem_append_left _ (List.mem_of_getElem? (i := 0) rfl))))) dX11_kind_1 ?_
  refine lv_iload_n hx hb dX11_kind_4 rfl (lv_at hl 1 rfl) ?_
  refine ro_calli (va_runV (As := [.int k1]) (rest := []) ⟨hx, hb, hml, hown, hts⟩ (x_X10_hasKind l D s.heap.size .null a t i q c d k1 hI ) (cwV 1 hts gm_X11_kind_e_X10_hasKind_80 rfl rfl rfl (by decide +kernel) ⟨Nat.le_of_ble_eq_true rfl, Nat.le_of_ble_eq_true rfl⟩) (yA_V hN (xZ_k hZ hS hA) (xkT_W hK) (xuT_W (sk := sk) hP) (ci := 10) (q0 := 0) rfl rfl) rfl rfl hl.1 rfl (lv_room (Nat.le_of_ble_eq_true rfl)) dX11_kind_5 ⟨Nat.le_of_ble_eq_true rfl, Nat.le_of_ble_eq_true rfl⟩) hS hA hP (fun r1 u1 H locs hw1 hP hS => ?_)
  have hw1 : r1 = if (0 ≤ k1.toInt ∧ k1.toInt < (i 110).toInt) then 1 else 0 := hw1
  refine lv_if_ne (tgt := 13) hx hb dX11_kind_8 (by decide +kernel) (fun c2 => ?_) (fun c2 => ?_)
  · have f2 := fl_t hw1 c2
    refine lv_aload_n hx hb dX11_kind_13 rfl (lv_at hl 0 rfl) ?_
    refine xgT_X_world hx hb hts (fun _ h => List.mem_cons_of_mem _ (List.mem_append_left _ (List.mem_append_right _ h))) hown hK hP (hts (.fieldLink RX11 10 "TalePlay" "world" "LTalePlay$World;") (List.mem_cons_of_mem _ (List.mem_append_left _ (List.mem_append_left _ (List.mem_of_getElem? (i := 0) rfl))))) dX11_kind_14 ?_
    refine xgT_W_kinds (v := (i 110)) rfl hx hb hts (fun _ h => List.mem_cons_of_mem _ (List.mem_append_right _ h)) hown hK hP (hts (.fieldLink RX11 84 "TalePlay$World" "kinds" "I") (List.mem_cons_of_mem _ (List.mem_append_left _ (List.mem_append_left _ (List.mem_of_getElem? (i := 7) rfl))))) dX11_kind_17 ?_
    refine lv_bipush (v := 24) hx hb dX11_kind_20 (by decide +kernel) ?_
    refine lv_icmp_lt (tgt := 28) hx hb dX11_kind_22 (by decide +kernel) (fun c3 => ?_) (fun c3 => ?_)
    · have f3 := (ti_lt (a := (i 110).toInt) (b := 24) rfl (by decide +kernel)).mp c3
      refine lv_aload_n hx hb dX11_kind_28 rfl (lv_at hl 0 rfl) ?_
      refine xgT_X_world hx hb hts (fun _ h => List.mem_cons_of_mem _ (List.mem_append_left _ (List.mem_append_right _ h))) hown hK hP (hts (.fieldLink RX11 10 "TalePlay" "world" "LTalePlay$World;") (List.mem_cons_of_mem _ (List.mem_append_left _ (List.mem_append_left _ (List.mem_of_getElem? (i := 0) rfl))))) dX11_kind_29 ?_
      refine lv_iload_n hx hb dX11_kind_32 rfl (lv_at hl 1 rfl) ?_
      refine al_calli (va_runV (As := [.int k1]) (rest := []) ⟨hx, hb, hml, hown, hts⟩ (x_X10_addKind_e l D H.size sk a t i q c d k1 hI (show 0 ≤ k1.toInt ∧ k1.toInt ≤ 23 from by omega) (show ((i 110) : Int32).toInt ≤ 23 from by omega)) (cwV 1 hts gm_X11_kind_e_X10_addKind_e_87 rfl rfl rfl (by decide +kernel) ⟨Nat.le_of_ble_eq_true rfl, Nat.le_of_ble_eq_true rfl⟩) (yB_V hN (xZ_k hZ hS hA) (xZ_n hZ hD) hK hP hD (ci := 10) (q0 := 2) rfl rfl) rfl rfl hl.1 rfl (lv_room (Nat.le_of_ble_eq_true rfl)) dX11_kind_33 ⟨Nat.le_of_ble_eq_true rfl, Nat.le_of_ble_eq_true rfl⟩) hS hA hP hD (fun r4 u4 H locs hw4 hP hD hS => ?_)
      obtain ⟨i4, q4, c4, d4⟩ := u4
      have hw4 : (r4.toInt = (i 110).toInt) ∧ xInv i4 c4 ∧ (∀ k, k ∉ ([110] : List Nat) → i4 k = i k) ∧ (∀ k, k ∉ ([105, 106] : List Nat) → c4 k = c k) ∧ ((i4 110).toInt = (i 110).toInt + 1) ∧ ((c4 105) = upd (c 105) (i 110).toNatClampNeg k1) ∧ ((c4 106) = upd (c 106) (i 110).toNatClampNeg (c 106 k1.toNatClampNeg)) := hw4
      obtain ⟨hw4, hI, hei4, hec4, hxp4_0, hxp4_1, hxp4_2⟩ := hw4
      have hxp4_0 : (i4 110).toInt = (i 110).toInt + 1 := hxp4_0
      have hxp4_1 : (c4 105) = upd (c 105) (i 110).toNatClampNeg k1 := hxp4_1
      have hxp4_2 : (c4 106) = upd (c 106) (i 110).toNatClampNeg (c 106 k1.toNatClampNeg) := hxp4_2
      have hfi : ∀ k, k ∉ ([110] : List Nat) → i4 k = i k := fr_z hfi hei4 (by decide +kernel) (by decide +kernel)
      have hfc : ∀ k, k ∉ ([105, 106] : List Nat) → c4 k = c k := fr_z hfc hec4 (by decide +kernel) (by decide +kernel)
      exact rw_iret (i4, q4, c4, d4) hx hb hr hlocks hS (hK.sub (tys' := []) [] rfl) hP hD dX11_kind_36 ⟨trivial, hI, fr_w hfi (by decide +kernel), fr_w hfc (by decide +kernel), (show (¬ (0 ≤ k1.toInt ∧ k1.toInt < (i 110).toInt) ∧ (r4 : Int32).toInt = -1 ∧ ((i4 110) : Int32).toInt = (i 110).toInt) ∨ (0 ≤ k1.toInt ∧ k1.toInt < (i 110).toInt ∧ 24 ≤ (i 110).toInt ∧ (r4 : Int32).toInt = -2 ∧ ((i4 110) : Int32).toInt = (i 110).toInt) ∨ (0 ≤ k1.toInt ∧ k1.toInt < (i 110).toInt ∧ (i 110).toInt ≤ 23 ∧ (r4 : Int32).toInt = (i 110).toInt ∧ ((i4 110) : Int32).toInt = (i 110).toInt + 1) from by omega), (show KU (c 105) (c4 105) k1 (i 110) from Or.inr ⟨by omega, by omega, by omega, hxp4_1⟩), (show KS (c 106) (c4 106) k1 (i 110) from Or.inr ⟨by omega, by omega, by omega, hxp4_2⟩)⟩
    · have f3 := mt (ti_lt (a := (i 110).toInt) (b := 24) rfl (by decide +kernel)).mpr c3
      refine lv_bipush (v := (-2)) hx hb dX11_kind_25 (by decide +kernel) ?_
      exact rw_iret (i, q, c, d) hx hb hr hlocks hS (hK.sub (tys' := []) [] rfl) hP hD dX11_kind_27 ⟨trivial, hI, fr_w hfi (by decide +kernel), fr_w hfc (by decide +kernel), (show (¬ (0 ≤ k1.toInt ∧ k1.toInt < (i 110).toInt) ∧ ((-2) : Int32).toInt = -1 ∧ ((i 110) : Int32).toInt = (i 110).toInt) ∨ (0 ≤ k1.toInt ∧ k1.toInt < (i 110).toInt ∧ 24 ≤ (i 110).toInt ∧ ((-2) : Int32).toInt = -2 ∧ ((i 110) : Int32).toInt = (i 110).toInt) ∨ (0 ≤ k1.toInt ∧ k1.toInt < (i 110).toInt ∧ (i 110).toInt ≤ 23 ∧ ((-2) : Int32).toInt = (i 110).toInt ∧ ((i 110) : Int32).toInt = (i 110).toInt + 1) from by have h53 : ((-2) : Int32).toInt = -2 := (by decide +kernel); omega), (show KU (c 105) (c 105) k1 (i 110) from Or.inl ⟨by omega, rfl⟩), (show KS (c 106) (c 106) k1 (i 110) from Or.inl ⟨by omega, rfl⟩)⟩
  · have f2 := fl_f hw1 c2
    refine lv_iconst (v := (-1)) hx hb dX11_kind_11 (by decide +kernel) ?_
    exact rw_iret (i, q, c, d) hx hb hr hlocks hS (hK.sub (tys' := []) [] rfl) hP hD dX11_kind_12 ⟨trivial, hI, fr_w hfi (by decide +kernel), fr_w hfc (by decide +kernel), (show (¬ (0 ≤ k1.toInt ∧ k1.toInt < (i 110).toInt) ∧ ((-1) : Int32).toInt = -1 ∧ ((i 110) : Int32).toInt = (i 110).toInt) ∨ (0 ≤ k1.toInt ∧ k1.toInt < (i 110).toInt ∧ 24 ≤ (i 110).toInt ∧ ((-1) : Int32).toInt = -2 ∧ ((i 110) : Int32).toInt = (i 110).toInt) ∨ (0 ≤ k1.toInt ∧ k1.toInt < (i 110).toInt ∧ (i 110).toInt ≤ 23 ∧ ((-1) : Int32).toInt = (i 110).toInt ∧ ((i 110) : Int32).toInt = (i 110).toInt + 1) from by have h53 : ((-1) : Int32).toInt = -1 := (by decide +kernel); omega), (show KU (c 105) (c 105) k1 (i 110) from Or.inl ⟨by omega, rfl⟩), (show KS (c 106) (c 106) k1 (i 110) from Or.inl ⟨by omega, rfl⟩)⟩

set_option maxHeartbeats 4000000 in
set_option maxRecDepth 100000 in
theorem s_X12_kind_e (l : Launch) (D : va_G) (sz : Nat) (o : Nat) (a : Nat → Nat) (t : Nat → ClassId) (i : Nat → Int32) (q : Int64) (c : Nat → Nat → Int32) (d : Nat → Nat → Int64) (p1 : Int32) (hI : mInv i c) (hs_S : SJ (c 3) (c 6) (c 9) (c 10) (c 11) (c 13) (i 2).toInt (i 5).toInt (i 8).toInt) (hs_J : TJ (c 3) (c 6) (c 23) (c 24) (c 29) (c 30) (i 5).toInt (i 22).toInt (i 27).toInt) : Met l yX12_kind wm_X12_kind ({ frames := 1, cells := 0, slots := 0, locals := 25 }) (va_Pc [.ref o, .int p1] (pB D sz (mW o a t i q c d) (mT t))) (va_Qi (fun (r : Int32) (u : MS) => True ∧ mInv u.1 u.2.2.1 ∧ (∀ k, k ∉ ([2] : List Nat) → u.1 k = i k) ∧ (∀ k, k ∉ ([3] : List Nat) → u.2.2.1 k = c k) ∧ (SJ (u.2.2.1 3) (u.2.2.1 6) (u.2.2.1 9) (u.2.2.1 10) (u.2.2.1 11) (u.2.2.1 13) (u.1 2).toInt (u.1 5).toInt (u.1 8).toInt) ∧ (TJ (u.2.2.1 3) (u.2.2.1 6) (u.2.2.1 23) (u.2.2.1 24) (u.2.2.1 29) (u.2.2.1 30) (u.1 5).toInt (u.1 22).toInt (u.1 27).toInt) ∧ ((¬ (0 ≤ p1.toInt ∧ p1.toInt < (i 2).toInt) ∧ r.toInt = -1 ∧ (u.1 2).toInt = (i 2).toInt) ∨ (0 ≤ p1.toInt ∧ p1.toInt < (i 2).toInt ∧ 24 ≤ (i 2).toInt ∧ r.toInt = -2 ∧ (u.1 2).toInt = (i 2).toInt) ∨ (0 ≤ p1.toInt ∧ p1.toInt < (i 2).toInt ∧ (i 2).toInt ≤ 23 ∧ r.toInt = (i 2).toInt ∧ (u.1 2).toInt = (i 2).toInt + 1)) ∧ (KU (c 3) (u.2.2.1 3) p1 (i 2))) (oC D (va_A (mW o a t i q c d) sz) (fun u : MS => mW o a t u.1 u.2.1 u.2.2.1 u.2.2.2) (fun _ => [])) (va_A (mW o a t i q c d) sz)) 0 0 (va_A (mW o a t i q c d) sz) := by
  refine Met.ofW (cc := cX12_kind) (maxL := 2) (ret := (some .int)) (by decide +kernel) rfl ?_
  intro p e s m args below meth cd s₁ B hml hv
  obtain ⟨rfl, hsz, hP, hK, hD0⟩ := hv
  have hx := B.exec
  have hb := B.bytes
  have hr := B.returns
  have hts := atoms_spec (ws := wm_X12_kind) B.pre
  have hown : s.vm.findClass RX12 = some m.cls := findClass_of_methodNamed B.named
  have hlocks := B.notSynchronized
  subst hsz
  have hD := hD0.self (sz := s.heap.size)
  generalize hAe : va_A (mW o a t i q c d) s.heap.size = A at hD ⊢
  have hA : ∀ q : Nat, s.heap.size ≤ q → A q := fun q h => by rw [← hAe]; exact Or.inr h
  have hS : va_S A s.heap s.heap [] := va_S.rf
  have hfi : ∀ k, k ∉ ([] : List Nat) → i k = i k := fun _ _ => rfl
  have hfc : ∀ k, k ∉ ([] : List Nat) → c k = c k := fun _ _ => rfl
  have hl := lv_entry ([.ref o, .int p1]) (n := 2) (Nat.le_of_ble_eq_true rfl)
  rw [lg_entry_eq]
  generalize (lg_sl ([.ref o, .int p1]) ++ List.replicate (2 - (lg_sl ([.ref o, .int p1])).length) Slot.unset).toArray = ls at hl ⊢
  have hl : lv_has ls 2 [(0, .ref o), (1, .int p1)] := hl
  have hI0 := hI
  have rb2_i : 6 ≤ (i 2).toInt ∧ (i 2).toInt ≤ 24 := hI.1 2
  refine lv_iload_n hx hb dX12_kind_0 rfl (lv_at hl 1 rfl) ?_
  refine lv_i2l (v := p1.toInt64) hx hb dX12_kind_1 rfl ?_
  refine lv_lconst (v := 0) hx hb dX12_kind_2 (by decide +kernel) ?_
  refine lv_aload_n hx hb dX12_kind_3 rfl (lv_at hl 0 rfl) ?_
  refine mget_2 (v := (i 2)) rfl hx hb hts (fun _ h => List.mem_cons_of_mem _ (List.mem_append_right _ h)) hown hK hP (hts (.fieldLink RX12 151 "TalePlayModel" "kinds" "I") (List.mem_cons_of_mem _ (List.mem_append_left _ (List.mem_of_getElem? (i := 0) rfl)))) dX12_kind_4 ?_
  refine lv_iconst (v := 1) hx hb dX12_kind_7 (by decide +kernel) ?_
  refine lv_isub hx hb dX12_kind_8 ?_
  refine lv_topi (fun x1 ex1 => ?_)
  have tx1 := ti_sub (a := (i 2).toInt) (b := 1) ex1 rfl (by decide +kernel) (by omega) (by omega)
  refine lv_i2l (v := x1.toInt64) hx hb dX12_kind_9 rfl ?_
  have hPc := hP.sub (ws' := []) [] rfl
  have hKc := hK.sub (tys' := []) [] rfl
  refine ro_calli (va_runS (As := [.long p1.toInt64, .long 0, .long x1.toInt64]) (rest := []) ⟨hx, hb, hml, hown, hts⟩ (c_X12_in l D s.heap.size p1.toInt64 0 x1.toInt64 p1.toInt 0 ((i 2).toInt - 1) ((Int32.toInt_toInt64 p1).trans rfl) (by decide +kernel) ((Int32.toInt_toInt64 x1).trans tx1)) (va_cwS 3 hts gm_X12_kind_X12_in rfl rfl rfl (by decide +kernel) ⟨Nat.le_of_ble_eq_true rfl, Nat.le_of_ble_eq_true rfl⟩) (pA_S hKc hPc) rfl rfl hl.1 rfl (lv_room (Nat.le_of_ble_eq_true rfl)) dX12_kind_10 ⟨Nat.le_of_ble_eq_true rfl, Nat.le_of_ble_eq_true rfl⟩) hS hA hP (fun r2 u2 H locs hw2 hP hS => ?_)
  have hw2 : r2 = if (0 ≤ p1.toInt ∧ p1.toInt ≤ ((i 2).toInt - 1)) then 1 else 0 := hw2
  refine lv_if_ne (tgt := 18) hx hb dX12_kind_13 (by decide +kernel) (fun c3 => ?_) (fun c3 => ?_)
  · have f3 := fl_t hw2 c3
    refine lv_aload_n hx hb dX12_kind_18 rfl (lv_at hl 0 rfl) ?_
    refine mget_2 (v := (i 2)) rfl hx hb hts (fun _ h => List.mem_cons_of_mem _ (List.mem_append_right _ h)) hown hK hP (hts (.fieldLink RX12 151 "TalePlayModel" "kinds" "I") (List.mem_cons_of_mem _ (List.mem_append_left _ (List.mem_of_getElem? (i := 0) rfl)))) dX12_kind_19 ?_
    refine lv_bipush (v := 24) hx hb dX12_kind_22 (by decide +kernel) ?_
    refine lv_icmp_ne (tgt := 30) hx hb dX12_kind_24 (by decide +kernel) (fun c4 => ?_) (fun c4 => ?_)
    · have f4 := mt (ti_eq (a := (i 2).toInt) (b := 24) rfl (by decide +kernel)).mpr c4
      refine lv_aload_n hx hb dX12_kind_30 rfl (lv_at hl 0 rfl) ?_
      refine mget_3 hx hb hts (fun _ h => List.mem_cons_of_mem _ (List.mem_append_right _ h)) hown hK hP (hts (.fieldLink RX12 13 "TalePlayModel" "parentOf" "[I") (List.mem_cons_of_mem _ (List.mem_append_left _ (List.mem_of_getElem? (i := 5) rfl)))) dX12_kind_31 ?_
      refine lv_aload_n hx hb dX12_kind_34 rfl (lv_at hl 0 rfl) ?_
      refine mget_2 (v := (i 2)) rfl hx hb hts (fun _ h => List.mem_cons_of_mem _ (List.mem_append_right _ h)) hown hK hP (hts (.fieldLink RX12 151 "TalePlayModel" "kinds" "I") (List.mem_cons_of_mem _ (List.mem_append_left _ (List.mem_of_getElem? (i := 0) rfl)))) dX12_kind_35 ?_
      refine lv_iload_n hx hb dX12_kind_38 rfl (lv_at hl 1 rfl) ?_
      have rc5 : ((((i 2) : Int32).toNatClampNeg : Nat) : Int) = ((i 2) : Int32).toInt := cl_nn (by have h9 : (i 2).toInt = (i 2).toInt := rfl; omega)
      refine mst_3 hx hb hK hP hD hS (vp_in_iff.mpr (by have h9 : (i 2).toInt = (i 2).toInt := rfl; omega)) dX12_kind_39 (fun H locs hP hD hS => ?_)
      have hI := mInv_c hI (k := 3) (j := ((i 2) : Int32).toNatClampNeg) (x := p1) (show (((((i 2) : Int32).toNatClampNeg : Nat) : Int) ≤ 1 ∧ (p1 : Int32).toInt = -9) ∨ (2 ≤ ((((i 2) : Int32).toNatClampNeg : Nat) : Int) ∧ ((((i 2) : Int32).toNatClampNeg : Nat) : Int) ≤ 5 ∧ (p1 : Int32).toInt = 1) ∨ (6 ≤ ((((i 2) : Int32).toNatClampNeg : Nat) : Int) ∧ 0 ≤ (p1 : Int32).toInt ∧ (p1 : Int32).toInt ≤ 23 ∧ (p1 : Int32).toInt < ((((i 2) : Int32).toNatClampNeg : Nat) : Int)) from by omega)
      have hfc : ∀ k, k ∉ ([3] : List Nat) → (updA c 3 ((i 2) : Int32).toNatClampNeg p1) k = c k := fr_cz hfc (by decide +kernel) (by decide +kernel)
      refine lv_aload_n hx hb dX12_kind_40 rfl (lv_at hl 0 rfl) ?_
      refine lv_dup hx hb dX12_kind_41 rfl ?_
      refine mget_2 (v := (i 2)) rfl hx hb hts (fun _ h => List.mem_cons_of_mem _ (List.mem_append_right _ h)) hown hK hP (hts (.fieldLink RX12 151 "TalePlayModel" "kinds" "I") (List.mem_cons_of_mem _ (List.mem_append_left _ (List.mem_of_getElem? (i := 0) rfl)))) dX12_kind_42 ?_
      refine lv_iconst (v := 1) hx hb dX12_kind_45 (by decide +kernel) ?_
      refine lv_iadd hx hb dX12_kind_46 ?_
      refine lv_topi (fun x6 ex6 => ?_)
      have tx6 := ti_add (a := (i 2).toInt) (b := 1) ex6 rfl (by decide +kernel) (by omega) (by omega)
      refine mput_2 hx hb hts (fun _ h => List.mem_cons_of_mem _ (List.mem_append_right _ h)) hown hK hP hD hS (hts (.fieldLink RX12 151 "TalePlayModel" "kinds" "I") (List.mem_cons_of_mem _ (List.mem_append_left _ (List.mem_of_getElem? (i := 0) rfl)))) rfl rfl dX12_kind_47 (fun H locs hP hD hS => ?_)
      have hI := mInv_i hI (k := 2) (v := x6) (show 6 ≤ (x6 : Int32).toInt ∧ (x6 : Int32).toInt ≤ 24 from by have h9 : x6.toInt = ((i 2).toInt + 1) := tx6; omega)
      have hfi : ∀ k, k ∉ ([2] : List Nat) → (upd i 2 x6) k = i k := fr_iz hfi (by decide +kernel) (by decide +kernel)
      refine lv_aload_n hx hb dX12_kind_50 rfl (lv_at hl 0 rfl) ?_
      refine mget_2 (i := (upd i 2 x6)) (v := x6) rfl hx hb hts (fun _ h => List.mem_cons_of_mem _ (List.mem_append_right _ h)) hown hK hP (hts (.fieldLink RX12 151 "TalePlayModel" "kinds" "I") (List.mem_cons_of_mem _ (List.mem_append_left _ (List.mem_of_getElem? (i := 0) rfl)))) dX12_kind_51 ?_
      refine lv_iconst (v := 1) hx hb dX12_kind_54 (by decide +kernel) ?_
      refine lv_isub hx hb dX12_kind_55 ?_
      refine lv_topi (fun x7 ex7 => ?_)
      have tx7 := ti_sub (a := ((i 2).toInt + 1)) (b := 1) ex7 tx6 (by decide +kernel) (by omega) (by omega)
      exact rw_iret ((upd i 2 x6), q, (updA c 3 ((i 2) : Int32).toNatClampNeg p1), d) hx hb hr hlocks hS (hK.sub (tys' := []) [] rfl) hP hD dX12_kind_56 ⟨trivial, hI, fr_w hfi (by decide +kernel), fr_w hfc (by decide +kernel), (show SJ ((updA c 3 ((i 2) : Int32).toNatClampNeg p1) 3) ((updA c 3 ((i 2) : Int32).toNatClampNeg p1) 6) ((updA c 3 ((i 2) : Int32).toNatClampNeg p1) 9) ((updA c 3 ((i 2) : Int32).toNatClampNeg p1) 10) ((updA c 3 ((i 2) : Int32).toNatClampNeg p1) 11) ((updA c 3 ((i 2) : Int32).toNatClampNeg p1) 13) (x6 : Int32).toInt ((i 5) : Int32).toInt ((i 8) : Int32).toInt from by show SJ (upd (c 3) ((i 2) : Int32).toNatClampNeg p1) (c 6) (c 9) (c 10) (c 11) (c 13) x6.toInt (i 5).toInt (i 8).toInt; rw [tx6]; exact SJ_kind (kn := (i 2).toInt) hs_S (fun j _ => mI_pa hI0 j) (by omega) (mI_ko hI0) (mI_le hI0) (fun o => (mI_mi hI0 o).1)), (show TJ ((updA c 3 ((i 2) : Int32).toNatClampNeg p1) 3) ((updA c 3 ((i 2) : Int32).toNatClampNeg p1) 6) ((updA c 3 ((i 2) : Int32).toNatClampNeg p1) 23) ((updA c 3 ((i 2) : Int32).toNatClampNeg p1) 24) ((updA c 3 ((i 2) : Int32).toNatClampNeg p1) 29) ((updA c 3 ((i 2) : Int32).toNatClampNeg p1) 30) ((i 5) : Int32).toInt ((i 22) : Int32).toInt ((i 27) : Int32).toInt from by show TJ (upd (c 3) ((i 2) : Int32).toNatClampNeg p1) (c 6) (c 23) (c 24) (c 29) (c 30) (i 5).toInt (i 22).toInt (i 27).toInt; exact TJ_kind (kn := (i 2).toInt) hs_J hs_S.1 (fun j _ => mI_pa hI0 j) (by omega) (mI_ko hI0)), (show (¬ (0 ≤ p1.toInt ∧ p1.toInt < (i 2).toInt) ∧ (x7 : Int32).toInt = -1 ∧ (x6 : Int32).toInt = (i 2).toInt) ∨ (0 ≤ p1.toInt ∧ p1.toInt < (i 2).toInt ∧ 24 ≤ (i 2).toInt ∧ (x7 : Int32).toInt = -2 ∧ (x6 : Int32).toInt = (i 2).toInt) ∨ (0 ≤ p1.toInt ∧ p1.toInt < (i 2).toInt ∧ (i 2).toInt ≤ 23 ∧ (x7 : Int32).toInt = (i 2).toInt ∧ (x6 : Int32).toInt = (i 2).toInt + 1) from by have h50 : x6.toInt = ((i 2).toInt + 1) := tx6; have h51 : x6.toInt = ((i 2).toInt + 1) := tx6; have h52 : x6.toInt = ((i 2).toInt + 1) := tx6; have h53 : x7.toInt = (((i 2).toInt + 1) - 1) := tx7; omega), (show KU (c 3) ((updA c 3 ((i 2) : Int32).toNatClampNeg p1) 3) p1 (i 2) from Or.inr ⟨by omega, by omega, by omega, rfl⟩)⟩
    · have f4 := (ti_eq (a := (i 2).toInt) (b := 24) rfl (by decide +kernel)).mp c4
      refine lv_bipush (v := (-2)) hx hb dX12_kind_27 (by decide +kernel) ?_
      exact rw_iret (i, q, c, d) hx hb hr hlocks hS (hK.sub (tys' := []) [] rfl) hP hD dX12_kind_29 ⟨trivial, hI, fr_w hfi (by decide +kernel), fr_w hfc (by decide +kernel), (show SJ (c 3) (c 6) (c 9) (c 10) (c 11) (c 13) ((i 2) : Int32).toInt ((i 5) : Int32).toInt ((i 8) : Int32).toInt from hs_S), (show TJ (c 3) (c 6) (c 23) (c 24) (c 29) (c 30) ((i 5) : Int32).toInt ((i 22) : Int32).toInt ((i 27) : Int32).toInt from hs_J), (show (¬ (0 ≤ p1.toInt ∧ p1.toInt < (i 2).toInt) ∧ ((-2) : Int32).toInt = -1 ∧ ((i 2) : Int32).toInt = (i 2).toInt) ∨ (0 ≤ p1.toInt ∧ p1.toInt < (i 2).toInt ∧ 24 ≤ (i 2).toInt ∧ ((-2) : Int32).toInt = -2 ∧ ((i 2) : Int32).toInt = (i 2).toInt) ∨ (0 ≤ p1.toInt ∧ p1.toInt < (i 2).toInt ∧ (i 2).toInt ≤ 23 ∧ ((-2) : Int32).toInt = (i 2).toInt ∧ ((i 2) : Int32).toInt = (i 2).toInt + 1) from by have h53 : ((-2) : Int32).toInt = -2 := (by decide +kernel); omega), (show KU (c 3) (c 3) p1 (i 2) from Or.inl ⟨by omega, rfl⟩)⟩
  · have f3 := fl_f hw2 c3
    refine lv_iconst (v := (-1)) hx hb dX12_kind_16 (by decide +kernel) ?_
    exact rw_iret (i, q, c, d) hx hb hr hlocks hS (hK.sub (tys' := []) [] rfl) hP hD dX12_kind_17 ⟨trivial, hI, fr_w hfi (by decide +kernel), fr_w hfc (by decide +kernel), (show SJ (c 3) (c 6) (c 9) (c 10) (c 11) (c 13) ((i 2) : Int32).toInt ((i 5) : Int32).toInt ((i 8) : Int32).toInt from hs_S), (show TJ (c 3) (c 6) (c 23) (c 24) (c 29) (c 30) ((i 5) : Int32).toInt ((i 22) : Int32).toInt ((i 27) : Int32).toInt from hs_J), (show (¬ (0 ≤ p1.toInt ∧ p1.toInt < (i 2).toInt) ∧ ((-1) : Int32).toInt = -1 ∧ ((i 2) : Int32).toInt = (i 2).toInt) ∨ (0 ≤ p1.toInt ∧ p1.toInt < (i 2).toInt ∧ 24 ≤ (i 2).toInt ∧ ((-1) : Int32).toInt = -2 ∧ ((i 2) : Int32).toInt = (i 2).toInt) ∨ (0 ≤ p1.toInt ∧ p1.toInt < (i 2).toInt ∧ (i 2).toInt ≤ 23 ∧ ((-1) : Int32).toInt = (i 2).toInt ∧ ((i 2) : Int32).toInt = (i 2).toInt + 1) from by have h53 : ((-1) : Int32).toInt = -1 := (by decide +kernel); omega), (show KU (c 3) (c 3) p1 (i 2) from Or.inl ⟨by omega, rfl⟩)⟩

def wm_X10_addObject_e : List Cond := .code yX10_addObject cX10_addObject 3 (some .int) :: (([.fieldLink RX10 21 "TalePlay$World" "kindOf" "[I", .fieldLink RX10 37 "TalePlay$World" "objects" "I", .fieldLink RX10 24 "TalePlay$World" "sizeOf" "[I"] : List Cond) ++ wsX100)
set_option maxHeartbeats 4000000 in
set_option maxRecDepth 100000 in
theorem x_X10_addObject_e (l : Launch) (D : va_G) (sz : Nat) (sk : Value) (a : Nat → Nat) (t : Nat → ClassId) (i : Nat → Int32) (q : Int64) (c : Nat → Nat → Int32) (d : Nat → Nat → Int64) (k1 : Int32) (s1 : Int32) (hI : xInv i c) (hk1 : 0 ≤ k1.toInt ∧ k1.toInt ≤ 23) (hs1 : 0 ≤ s1.toInt ∧ s1.toInt ≤ 99) (hon : (i 111).toInt ≤ 29) : Met l yX10_addObject wm_X10_addObject_e ({ frames := 0, cells := 0, slots := 0, locals := 0 }) (va_Pc [.ref (a 104), .int k1, .int s1] (yB (a 186) D sz (xwT sk a t i q c d) (xtT t))) (va_Qi (fun (r : Int32) (u : MS) => (r.toInt = (i 111).toInt) ∧ xInv u.1 u.2.2.1 ∧ (∀ k, k ∉ ([111] : List Nat) → u.1 k = i k) ∧ (∀ k, k ∉ ([108, 109] : List Nat) → u.2.2.1 k = c k) ∧ ((u.1 111).toInt = (i 111).toInt + 1) ∧ ((u.2.2.1 108) = upd (c 108) (i 111).toNatClampNeg k1)) (oC D (va_A (xwT sk a t i q c d) sz) (fun u : MS => xwT sk a t u.1 u.2.1 u.2.2.1 u.2.2.2) (fun _ => [])) (va_A (xwT sk a t i q c d) sz)) 0 0 (va_A (xwT sk a t i q c d) sz) := by
  refine Met.ofW (cc := cX10_addObject) (maxL := 3) (ret := (some .int)) (by decide +kernel) rfl ?_
  intro p e s m args below meth cd s₁ B hml hv
  obtain ⟨rfl, ⟨hsz, hP, hK, hD0⟩, hN, hZ, hBW⟩ := hv
  have hx := B.exec
  have hb := B.bytes
  have hr := B.returns
  have hts := atoms_spec (ws := wm_X10_addObject_e) B.pre
  have hown : s.vm.findClass RX10 = some m.cls := findClass_of_methodNamed B.named
  have hlocks := B.notSynchronized
  subst hsz
  have hD := hD0.self (sz := s.heap.size)
  have hZ := xZ_A hZ hP hBW
  generalize hAe : va_A (xwT sk a t i q c d) s.heap.size = A at hD hZ ⊢
  have hA : ∀ q : Nat, s.heap.size ≤ q → A q := fun q h => by rw [← hAe]; exact Or.inr h
  have hS : va_S A s.heap s.heap [] := va_S.rf
  have hfi : ∀ k, k ∉ ([] : List Nat) → i k = i k := fun _ _ => rfl
  have hfc : ∀ k, k ∉ ([] : List Nat) → c k = c k := fun _ _ => rfl
  have hl := lv_entry ([.ref (a 104), .int k1, .int s1]) (n := 3) (Nat.le_of_ble_eq_true rfl)
  rw [lg_entry_eq]
  generalize (lg_sl ([.ref (a 104), .int k1, .int s1]) ++ List.replicate (3 - (lg_sl ([.ref (a 104), .int k1, .int s1])).length) Slot.unset).toArray = ls at hl ⊢
  have hl : lv_has ls 3 [(0, .ref (a 104)), (1, .int k1), (2, .int s1)] := hl
  refine lv_aload_n hx hb dX10_addObject_0 rfl (lv_at hl 0 rfl) ?_
  refine xgT_W_kindOf hx hb hts (fun _ h => List.mem_cons_of_mem _ (List.mem_append_right _ h)) hown hK hP (hts (.fieldLink RX10 21 "TalePlay$World" "kindOf" "[I") (List.mem_cons_of_mem _ (List.mem_append_left _ (List.mem_of_getElem? (i := 0) rfl)))) dX10_addObject_1 ?_
  refine lv_aload_n hx hb dX10_addObject_4 rfl (lv_at hl 0 rfl) ?_
  refine xgT_W_objects (v := (i 111)) rfl hx hb hts (fun _ h => List.mem_cons_of_mem _ (List.mem_append_right _ h)) hown hK hP (hts (.fieldLink RX10 37 "TalePlay$World" "objects" "I") (List.mem_cons_of_mem _ (List.mem_append_left _ (List.mem_of_getElem? (i := 1) rfl)))) dX10_addObject_5 ?_
  have rb111_i : 0 ≤ (i 111).toInt ∧ (i 111).toInt ≤ 30 := hI.1 111
  refine lv_iload_n hx hb dX10_addObject_8 rfl (lv_at hl 1 rfl) ?_
  refine xsT_108 hx hb hK hP hD hS (vp_in_iff.mpr (by have h9 : (i 111).toInt = (i 111).toInt := rfl; omega)) dX10_addObject_9 (fun H locs hP hD hS => ?_)
  have hI := xInv_c hI (k := 108) (j := ((i 111) : Int32).toNatClampNeg) (x := k1) (show 0 ≤ (k1 : Int32).toInt ∧ (k1 : Int32).toInt ≤ 23 from by omega)
  have hfc : ∀ k, k ∉ ([108] : List Nat) → (updA c 108 ((i 111) : Int32).toNatClampNeg k1) k = c k := fr_cz hfc (by decide +kernel) (by decide +kernel)
  refine lv_aload_n hx hb dX10_addObject_10 rfl (lv_at hl 0 rfl) ?_
  refine xgT_W_sizeOf hx hb hts (fun _ h => List.mem_cons_of_mem _ (List.mem_append_right _ h)) hown hK hP (hts (.fieldLink RX10 24 "TalePlay$World" "sizeOf" "[I") (List.mem_cons_of_mem _ (List.mem_append_left _ (List.mem_of_getElem? (i := 2) rfl)))) dX10_addObject_11 ?_
  refine lv_aload_n hx hb dX10_addObject_14 rfl (lv_at hl 0 rfl) ?_
  refine xgT_W_objects (v := (i 111)) rfl hx hb hts (fun _ h => List.mem_cons_of_mem _ (List.mem_append_right _ h)) hown hK hP (hts (.fieldLink RX10 37 "TalePlay$World" "objects" "I") (List.mem_cons_of_mem _ (List.mem_append_left _ (List.mem_of_getElem? (i := 1) rfl)))) dX10_addObject_15 ?_
  refine lv_iload_n hx hb dX10_addObject_18 rfl (lv_at hl 2 rfl) ?_
  refine xsT_109 hx hb hK hP hD hS (vp_in_iff.mpr (by have h9 : (i 111).toInt = (i 111).toInt := rfl; omega)) dX10_addObject_19 (fun H locs hP hD hS => ?_)
  have hI := xInv_c hI (k := 109) (j := ((i 111) : Int32).toNatClampNeg) (x := s1) (show 0 ≤ (s1 : Int32).toInt ∧ (s1 : Int32).toInt ≤ 99 from by omega)
  have hfc : ∀ k, k ∉ ([108, 109] : List Nat) → (updA (updA c 108 ((i 111) : Int32).toNatClampNeg k1) 109 ((i 111) : Int32).toNatClampNeg s1) k = c k := fr_cz hfc (by decide +kernel) (by decide +kernel)
  refine lv_aload_n hx hb dX10_addObject_20 rfl (lv_at hl 0 rfl) ?_
  refine lv_dup hx hb dX10_addObject_21 rfl ?_
  refine xgT_W_objects (v := (i 111)) rfl hx hb hts (fun _ h => List.mem_cons_of_mem _ (List.mem_append_right _ h)) hown hK hP (hts (.fieldLink RX10 37 "TalePlay$World" "objects" "I") (List.mem_cons_of_mem _ (List.mem_append_left _ (List.mem_of_getElem? (i := 1) rfl)))) dX10_addObject_22 ?_
  refine lv_dup_x1 hx hb dX10_addObject_25 rfl rfl ?_
  refine lv_iconst (v := 1) hx hb dX10_addObject_26 (by decide +kernel) ?_
  refine lv_iadd hx hb dX10_addObject_27 ?_
  refine lv_topi (fun x1 ex1 => ?_)
  have tx1 := ti_add (a := (i 111).toInt) (b := 1) ex1 rfl (by decide +kernel) (by omega) (by omega)
  refine xpT_W_objects hx hb hts (fun _ h => List.mem_cons_of_mem _ (List.mem_append_right _ h)) hown hK hP hD hS (hts (.fieldLink RX10 37 "TalePlay$World" "objects" "I") (List.mem_cons_of_mem _ (List.mem_append_left _ (List.mem_of_getElem? (i := 1) rfl)))) rfl rfl dX10_addObject_28 (fun H locs hP hD hS => ?_)
  have hI := xInv_i hI (k := 111) (v := x1) (show 0 ≤ (x1 : Int32).toInt ∧ (x1 : Int32).toInt ≤ 30 from by have h9 : x1.toInt = ((i 111).toInt + 1) := tx1; omega)
  have hfi : ∀ k, k ∉ ([111] : List Nat) → (upd i 111 x1) k = i k := fr_iz hfi (by decide +kernel) (by decide +kernel)
  exact rw_iret ((upd i 111 x1), q, (updA (updA c 108 ((i 111) : Int32).toNatClampNeg k1) 109 ((i 111) : Int32).toNatClampNeg s1), d) hx hb hr hlocks hS (hK.sub (tys' := []) [] rfl) hP hD dX10_addObject_31 ⟨(show (i 111).toInt = (i 111).toInt from by omega), hI, fr_w hfi (by decide +kernel), fr_w hfc (by decide +kernel), (show (x1 : Int32).toInt = (i 111).toInt + 1 from by have h50 : x1.toInt = ((i 111).toInt + 1) := tx1; omega), (show ((updA (updA c 108 ((i 111) : Int32).toNatClampNeg k1) 109 ((i 111) : Int32).toNatClampNeg s1) 108) = upd (c 108) (i 111).toNatClampNeg k1 from rfl)⟩

def wm_X11_make_e : List Cond := .code yX11_make cX11_make 3 (some .int) :: ((([.fieldLink RX11 10 "TalePlay" "world" "LTalePlay$World;", .methodLink RX11 80 yX10_hasKind, .instanceMethod yX10_hasKind, .selects RX10 yX10_hasKind yX10_hasKind, .initialized RX10, .code yX10_hasKind cX10_hasKind 2 (some .boolean), .fieldLink RX10 33 "TalePlay$World" "kinds" "I", .fieldLink RX11 102 "TalePlay$World" "objects" "I", .fieldLink RX11 46 "TalePlay" "tale" "LTalePlay$Tale;", .methodLink RX11 95 yX9_end, .instanceMethod yX9_end, .selects RX9 yX9_end yX9_end, .initialized RX9, .code yX9_end cX9_end 1 none, .fieldLink RX9 72 "TalePlay$Tale" "there" "Z", .fieldLink RX9 77 "TalePlay$Tale" "turns" "I"] : List Cond) ++ ([.methodLink RX11 105 yX10_addObject, .instanceMethod yX10_addObject, .selects RX10 yX10_addObject yX10_addObject, .code yX10_addObject cX10_addObject 3 (some .int), .fieldLink RX10 21 "TalePlay$World" "kindOf" "[I", .fieldLink RX10 37 "TalePlay$World" "objects" "I", .fieldLink RX10 24 "TalePlay$World" "sizeOf" "[I"] : List Cond)) ++ wsX110 ++ wsX100 ++ wsX90)
set_option maxRecDepth 20000 in
theorem gm_X11_make_e_X10_hasKind_80 : GoodIn wm_X11_make_e (wsV RX11 80 RX10 yX10_hasKind wm_X10_hasKind) := goodIn_w (List.forall_mem_append.mpr ⟨List.forall_mem_cons.mpr ⟨List.mem_cons_of_mem _ (List.mem_append_left _ (List.mem_append_left _ (List.mem_append_left _ (List.mem_append_left _ (List.mem_of_getElem? (i := 1) rfl))))), List.forall_mem_cons.mpr ⟨List.mem_cons_of_mem _ (List.mem_append_left _ (List.mem_append_left _ (List.mem_append_left _ (List.mem_append_left _ (List.mem_of_getElem? (i := 2) rfl))))), List.forall_mem_cons.mpr ⟨List.mem_cons_of_mem _ (List.mem_append_left _ (List.mem_append_left _ (List.mem_append_left _ (List.mem_append_left _ (List.mem_of_getElem? (i := 3) rfl))))), List.forall_mem_cons.mpr ⟨List.mem_cons_of_mem _ (List.mem_append_left _ (List.mem_append_left _ (List.mem_append_left _ (List.mem_append_left _ (List.mem_of_getElem? (i := 4) rfl))))), (fun _ h => absurd h List.not_mem_nil)⟩⟩⟩⟩, List.forall_mem_cons.mpr ⟨List.mem_cons_of_mem _ (List.mem_append_left _ (List.mem_append_left _ (List.mem_append_left _ (List.mem_append_left _ (List.mem_of_getElem? (i := 5) rfl))))), List.forall_mem_append.mpr ⟨List.forall_mem_cons.mpr ⟨List.mem_cons_of_mem _ (List.mem_append_left _ (List.mem_append_left _ (List.mem_append_left _ (List.mem_append_left _ (List.mem_of_getElem? (i := 6) rfl))))), (fun _ h => absurd h List.not_mem_nil)⟩, (fun _ h => List.mem_cons_of_mem _ (List.mem_append_left _ (List.mem_append_right _ h)))⟩⟩⟩) (by decide +kernel)
set_option maxRecDepth 20000 in
theorem gm_X11_make_e_X9_end_95 : GoodIn wm_X11_make_e (wsV RX11 95 RX9 yX9_end wm_X9_end) := goodIn_w (List.forall_mem_append.mpr ⟨List.forall_mem_cons.mpr ⟨List.mem_cons_of_mem _ (List.mem_append_left _ (List.mem_append_left _ (List.mem_append_left _ (List.mem_append_left _ (List.mem_of_getElem? (i := 9) rfl))))), List.forall_mem_cons.mpr ⟨List.mem_cons_of_mem _ (List.mem_append_left _ (List.mem_append_left _ (List.mem_append_left _ (List.mem_append_left _ (List.mem_of_getElem? (i := 10) rfl))))), List.forall_mem_cons.mpr ⟨List.mem_cons_of_mem _ (List.mem_append_left _ (List.mem_append_left _ (List.mem_append_left _ (List.mem_append_left _ (List.mem_of_getElem? (i := 11) rfl))))), List.forall_mem_cons.mpr ⟨List.mem_cons_of_mem _ (List.mem_append_left _ (List.mem_append_left _ (List.mem_append_left _ (List.mem_append_left _ (List.mem_of_getElem? (i := 12) rfl))))), (fun _ h => absurd h List.not_mem_nil)⟩⟩⟩⟩, List.forall_mem_cons.mpr ⟨List.mem_cons_of_mem _ (List.mem_append_left _ (List.mem_append_left _ (List.mem_append_left _ (List.mem_append_left _ (List.mem_of_getElem? (i := 13) rfl))))), List.forall_mem_append.mpr ⟨List.forall_mem_cons.mpr ⟨List.mem_cons_of_mem _ (List.mem_append_left _ (List.mem_append_left _ (List.mem_append_left _ (List.mem_append_left _ (List.mem_of_getElem? (i := 14) rfl))))), List.forall_mem_cons.mpr ⟨List.mem_cons_of_mem _ (List.mem_append_left _ (List.mem_append_left _ (List.mem_append_left _ (List.mem_append_left _ (List.mem_of_getElem? (i := 15) rfl))))), (fun _ h => absurd h List.not_mem_nil)⟩⟩, (fun _ h => List.mem_cons_of_mem _ (List.mem_append_right _ h))⟩⟩⟩) (by decide +kernel)
set_option maxRecDepth 20000 in
theorem gm_X11_make_e_X10_addObject_e_105 : GoodIn wm_X11_make_e (wsV RX11 105 RX10 yX10_addObject wm_X10_addObject_e) := goodIn_w (List.forall_mem_append.mpr ⟨List.forall_mem_cons.mpr ⟨List.mem_cons_of_mem _ (List.mem_append_left _ (List.mem_append_left _ (List.mem_append_left _ (List.mem_append_right _ (List.mem_of_getElem? (i := 0) rfl))))), List.forall_mem_cons.mpr ⟨List.mem_cons_of_mem _ (List.mem_append_left _ (List.mem_append_left _ (List.mem_append_left _ (List.mem_append_right _ (List.mem_of_getElem? (i := 1) rfl))))), List.forall_mem_cons.mpr ⟨List.mem_cons_of_mem _ (List.mem_append_left _ (List.mem_append_left _ (List.mem_append_left _ (List.mem_append_right _ (List.mem_of_getElem? (i := 2) rfl))))), List.forall_mem_cons.mpr ⟨List.mem_cons_of_mem _ (List.mem_append_left _ (List.mem_append_left _ (List.mem_append_left _ (List.mem_append_left _ (List.mem_of_getElem? (i := 4) rfl))))), (fun _ h => absurd h List.not_mem_nil)⟩⟩⟩⟩, List.forall_mem_cons.mpr ⟨List.mem_cons_of_mem _ (List.mem_append_left _ (List.mem_append_left _ (List.mem_append_left _ (List.mem_append_right _ (List.mem_of_getElem? (i := 3) rfl))))), List.forall_mem_append.mpr ⟨List.forall_mem_cons.mpr ⟨List.mem_cons_of_mem _ (List.mem_append_left _ (List.mem_append_left _ (List.mem_append_left _ (List.mem_append_right _ (List.mem_of_getElem? (i := 4) rfl))))), List.forall_mem_cons.mpr ⟨List.mem_cons_of_mem _ (List.mem_append_left _ (List.mem_append_left _ (List.mem_append_left _ (List.mem_append_right _ (List.mem_of_getElem? (i := 5) rfl))))), List.forall_mem_cons.mpr ⟨List.mem_cons_of_mem _ (List.mem_append_left _ (List.mem_append_left _ (List.mem_append_left _ (List.mem_append_right _ (List.mem_of_getElem? (i := 6) rfl))))), (fun _ h => absurd h List.not_mem_nil)⟩⟩⟩, (fun _ h => List.mem_cons_of_mem _ (List.mem_append_left _ (List.mem_append_right _ h)))⟩⟩⟩) (by decide +kernel)
set_option maxHeartbeats 4000000 in
set_option maxRecDepth 100000 in
theorem x_X11_make_e (l : Launch) (D : va_G) (sz : Nat) (sk : Value) (a : Nat → Nat) (t : Nat → ClassId) (i : Nat → Int32) (q : Int64) (c : Nat → Nat → Int32) (d : Nat → Nat → Int64) (k1 : Int32) (s1 : Int32) (hI : xInv i c) : Met l yX11_make wm_X11_make_e ({ frames := 1, cells := 0, slots := 0, locals := 22 }) (va_Pc [.ref (a 100), .int k1, .int s1] (yB (a 186) D sz (xwT sk a t i q c d) (xtT t))) (va_Qi (fun (r : Int32) (u : MS) => True ∧ xInv u.1 u.2.2.1 ∧ (∀ k, k ∉ ([111, 146, 148] : List Nat) → u.1 k = i k) ∧ (∀ k, k ∉ ([108, 109] : List Nat) → u.2.2.1 k = c k) ∧ (xEn (i 146) (i 148) (u.1 146) (u.1 148)) ∧ ((¬ (0 ≤ k1.toInt ∧ k1.toInt < (i 110).toInt ∧ 0 ≤ s1.toInt ∧ s1.toInt ≤ 99) ∧ r.toInt = -1 ∧ (u.1 111).toInt = (i 111).toInt) ∨ (0 ≤ k1.toInt ∧ k1.toInt < (i 110).toInt ∧ 0 ≤ s1.toInt ∧ s1.toInt ≤ 99 ∧ 30 ≤ (i 111).toInt ∧ r.toInt = -2 ∧ (u.1 111).toInt = (i 111).toInt) ∨ (0 ≤ k1.toInt ∧ k1.toInt < (i 110).toInt ∧ 0 ≤ s1.toInt ∧ s1.toInt ≤ 99 ∧ (i 111).toInt ≤ 29 ∧ r.toInt = (i 111).toInt ∧ (u.1 111).toInt = (i 111).toInt + 1)) ∧ (OU (c 108) (u.2.2.1 108) k1 s1 (i 110) (i 111))) (oC D (va_A (xwT sk a t i q c d) sz) (fun u : MS => xwT sk a t u.1 u.2.1 u.2.2.1 u.2.2.2) (fun _ => [])) (va_A (xwT sk a t i q c d) sz)) 0 0 (va_A (xwT sk a t i q c d) sz) := by
  refine Met.ofW (cc := cX11_make) (maxL := 3) (ret := (some .int)) (by decide +kernel) rfl ?_
  intro p e s m args below meth cd s₁ B hml hv
  obtain ⟨rfl, ⟨hsz, hP, hK, hD0⟩, hN, hZ, hBW⟩ := hv
  have hx := B.exec
  have hb := B.bytes
  have hr := B.returns
  have hts := atoms_spec (ws := wm_X11_make_e) B.pre
  have hown : s.vm.findClass RX11 = some m.cls := findClass_of_methodNamed B.named
  have hlocks := B.notSynchronized
  subst hsz
  have hD := hD0.self (sz := s.heap.size)
  have hZ := xZ_A hZ hP hBW
  generalize hAe : va_A (xwT sk a t i q c d) s.heap.size = A at hD hZ ⊢
  have hA : ∀ q : Nat, s.heap.size ≤ q → A q := fun q h => by rw [← hAe]; exact Or.inr h
  have hS : va_S A s.heap s.heap [] := va_S.rf
  have hfi : ∀ k, k ∉ ([] : List Nat) → i k = i k := fun _ _ => rfl
  have hfc : ∀ k, k ∉ ([] : List Nat) → c k = c k := fun _ _ => rfl
  have hl := lv_entry ([.ref (a 100), .int k1, .int s1]) (n := 3) (Nat.le_of_ble_eq_true rfl)
  rw [lg_entry_eq]
  generalize (lg_sl ([.ref (a 100), .int k1, .int s1]) ++ List.replicate (3 - (lg_sl ([.ref (a 100), .int k1, .int s1])).length) Slot.unset).toArray = ls at hl ⊢
  have hl : lv_has ls 3 [(0, .ref (a 100)), (1, .int k1), (2, .int s1)] := hl
  have rb110_i : 6 ≤ (i 110).toInt ∧ (i 110).toInt ≤ 24 := hI.1 110
  have rb111_i : 0 ≤ (i 111).toInt ∧ (i 111).toInt ≤ 30 := hI.1 111
  refine lv_aload_n hx hb dX11_make_0 rfl (lv_at hl 0 rfl) ?_
  refine xgT_X_world hx hb hts (fun _ h => List.mem_cons_of_mem _ (List.mem_append_left _ (List.mem_append_left _ (List.mem_append_right _ h)))) hown hK hP (hts (.fieldLink RX11 10 "TalePlay" "world" "LTalePlay$World;") (List.mem_cons_of_mem _ (List.mem_append_left _ (List.mem_append_left _ (List.mem_append_left _ (List.mem_append_left _ (List.mem_of_getElem? (i := 0) rfl))))))) dX11_make_1 ?_
  refine lv_iload_n hx hb dX11_make_4 rfl (lv_at hl 1 rfl) ?_
  refine ro_calli (va_runV (As := [.int k1]) (rest := []) ⟨hx, hb, hml, hown, hts⟩ (x_X10_hasKind l D s.heap.size .null a t i q c d k1 hI ) (cwV 1 hts gm_X11_make_e_X10_hasKind_80 rfl rfl rfl (by decide +kernel) ⟨Nat.le_of_ble_eq_true rfl, Nat.le_of_ble_eq_true rfl⟩) (yA_V hN (xZ_k hZ hS hA) (xkT_W hK) (xuT_W (sk := sk) hP) (ci := 10) (q0 := 0) rfl rfl) rfl rfl hl.1 rfl (lv_room (Nat.le_of_ble_eq_true rfl)) dX11_make_5 ⟨Nat.le_of_ble_eq_true rfl, Nat.le_of_ble_eq_true rfl⟩) hS hA hP (fun r1 u1 H locs hw1 hP hS => ?_)
  have hw1 : r1 = if (0 ≤ k1.toInt ∧ k1.toInt < (i 110).toInt) then 1 else 0 := hw1
  refine lv_if_eq (tgt := 21) hx hb dX11_make_8 (by decide +kernel) (fun c2 => ?_) (fun c2 => ?_)
  · have f2 := fl_f hw1 c2
    refine lv_iconst (v := (-1)) hx hb dX11_make_21 (by decide +kernel) ?_
    exact rw_iret (i, q, c, d) hx hb hr hlocks hS (hK.sub (tys' := []) [] rfl) hP hD dX11_make_22 ⟨trivial, hI, fr_w hfi (by decide +kernel), fr_w hfc (by decide +kernel), (show xEn (i 146) (i 148) ((i 146) : Int32) ((i 148) : Int32) from Or.inr ⟨rfl, rfl⟩), (show (¬ (0 ≤ k1.toInt ∧ k1.toInt < (i 110).toInt ∧ 0 ≤ s1.toInt ∧ s1.toInt ≤ 99) ∧ ((-1) : Int32).toInt = -1 ∧ ((i 111) : Int32).toInt = (i 111).toInt) ∨ (0 ≤ k1.toInt ∧ k1.toInt < (i 110).toInt ∧ 0 ≤ s1.toInt ∧ s1.toInt ≤ 99 ∧ 30 ≤ (i 111).toInt ∧ ((-1) : Int32).toInt = -2 ∧ ((i 111) : Int32).toInt = (i 111).toInt) ∨ (0 ≤ k1.toInt ∧ k1.toInt < (i 110).toInt ∧ 0 ≤ s1.toInt ∧ s1.toInt ≤ 99 ∧ (i 111).toInt ≤ 29 ∧ ((-1) : Int32).toInt = (i 111).toInt ∧ ((i 111) : Int32).toInt = (i 111).toInt + 1) from by have h53 : ((-1) : Int32).toInt = -1 := (by decide +kernel); omega), (show OU (c 108) (c 108) k1 s1 (i 110) (i 111) from Or.inl ⟨by omega, rfl⟩)⟩
  · have f2 := fl_t hw1 c2
    refine lv_iload_n hx hb dX11_make_11 rfl (lv_at hl 2 rfl) ?_
    refine lv_if_lt (tgt := 21) hx hb dX11_make_12 (by decide +kernel) (fun c3 => ?_) (fun c3 => ?_)
    · have f3 := (ti_lt (a := s1.toInt) (b := 0) rfl (by decide +kernel)).mp c3
      refine lv_iconst (v := (-1)) hx hb dX11_make_21 (by decide +kernel) ?_
      exact rw_iret (i, q, c, d) hx hb hr hlocks hS (hK.sub (tys' := []) [] rfl) hP hD dX11_make_22 ⟨trivial, hI, fr_w hfi (by decide +kernel), fr_w hfc (by decide +kernel), (show xEn (i 146) (i 148) ((i 146) : Int32) ((i 148) : Int32) from Or.inr ⟨rfl, rfl⟩), (show (¬ (0 ≤ k1.toInt ∧ k1.toInt < (i 110).toInt ∧ 0 ≤ s1.toInt ∧ s1.toInt ≤ 99) ∧ ((-1) : Int32).toInt = -1 ∧ ((i 111) : Int32).toInt = (i 111).toInt) ∨ (0 ≤ k1.toInt ∧ k1.toInt < (i 110).toInt ∧ 0 ≤ s1.toInt ∧ s1.toInt ≤ 99 ∧ 30 ≤ (i 111).toInt ∧ ((-1) : Int32).toInt = -2 ∧ ((i 111) : Int32).toInt = (i 111).toInt) ∨ (0 ≤ k1.toInt ∧ k1.toInt < (i 110).toInt ∧ 0 ≤ s1.toInt ∧ s1.toInt ≤ 99 ∧ (i 111).toInt ≤ 29 ∧ ((-1) : Int32).toInt = (i 111).toInt ∧ ((i 111) : Int32).toInt = (i 111).toInt + 1) from by have h53 : ((-1) : Int32).toInt = -1 := (by decide +kernel); omega), (show OU (c 108) (c 108) k1 s1 (i 110) (i 111) from Or.inl ⟨by omega, rfl⟩)⟩
    · have f3 := mt (ti_lt (a := s1.toInt) (b := 0) rfl (by decide +kernel)).mpr c3
      refine lv_iload_n hx hb dX11_make_15 rfl (lv_at hl 2 rfl) ?_
      refine lv_bipush (v := 99) hx hb dX11_make_16 (by decide +kernel) ?_
      refine lv_icmp_le (tgt := 23) hx hb dX11_make_18 (by decide +kernel) (fun c4 => ?_) (fun c4 => ?_)
      · have f4 := (ti_le (a := s1.toInt) (b := 99) rfl (by decide +kernel)).mp c4
        refine lv_aload_n hx hb dX11_make_23 rfl (lv_at hl 0 rfl) ?_
        refine xgT_X_world hx hb hts (fun _ h => List.mem_cons_of_mem _ (List.mem_append_left _ (List.mem_append_left _ (List.mem_append_right _ h)))) hown hK hP (hts (.fieldLink RX11 10 "TalePlay" "world" "LTalePlay$World;") (List.mem_cons_of_mem _ (List.mem_append_left _ (List.mem_append_left _ (List.mem_append_left _ (List.mem_append_left _ (List.mem_of_getElem? (i := 0) rfl))))))) dX11_make_24 ?_
        refine xgT_W_objects (v := (i 111)) rfl hx hb hts (fun _ h => List.mem_cons_of_mem _ (List.mem_append_left _ (List.mem_append_right _ h))) hown hK hP (hts (.fieldLink RX11 102 "TalePlay$World" "objects" "I") (List.mem_cons_of_mem _ (List.mem_append_left _ (List.mem_append_left _ (List.mem_append_left _ (List.mem_append_left _ (List.mem_of_getElem? (i := 7) rfl))))))) dX11_make_27 ?_
        refine lv_bipush (v := 30) hx hb dX11_make_30 (by decide +kernel) ?_
        refine lv_icmp_lt (tgt := 38) hx hb dX11_make_32 (by decide +kernel) (fun c5 => ?_) (fun c5 => ?_)
        · have f5 := (ti_lt (a := (i 111).toInt) (b := 30) rfl (by decide +kernel)).mp c5
          refine lv_aload_n hx hb dX11_make_38 rfl (lv_at hl 0 rfl) ?_
          refine xgT_X_tale hx hb hts (fun _ h => List.mem_cons_of_mem _ (List.mem_append_left _ (List.mem_append_left _ (List.mem_append_right _ h)))) hown hK hP (hts (.fieldLink RX11 46 "TalePlay" "tale" "LTalePlay$Tale;") (List.mem_cons_of_mem _ (List.mem_append_left _ (List.mem_append_left _ (List.mem_append_left _ (List.mem_append_left _ (List.mem_of_getElem? (i := 8) rfl))))))) dX11_make_39 ?_
          refine al_callv (va_runV (As := []) (rest := []) ⟨hx, hb, hml, hown, hts⟩ (x_X9_end l D H.size sk a t i q c d  hI ) (cwV 0 hts gm_X11_make_e_X9_end_95 rfl rfl rfl (by decide +kernel) ⟨Nat.le_of_ble_eq_true rfl, Nat.le_of_ble_eq_true rfl⟩) (yB_V hN (xZ_k hZ hS hA) (xZ_n hZ hD) hK hP hD (ci := 9) (q0 := 33) rfl rfl) rfl rfl hl.1 rfl (lv_room (Nat.le_of_ble_eq_true rfl)) dX11_make_42 ⟨Nat.le_of_ble_eq_true rfl, Nat.le_of_ble_eq_true rfl⟩) hS hA hP hD (fun u6 H locs hw6 hP hD hS => ?_)
          obtain ⟨i6, q6, c6, d6⟩ := u6
          have hw6 : True ∧ xInv i6 c6 ∧ (∀ k, k ∉ ([146, 148] : List Nat) → i6 k = i k) ∧ (∀ k, k ∉ ([] : List Nat) → c6 k = c k) ∧ ((i6 146).toInt = 0) ∧ ((i6 148).toInt = 0) := hw6
          obtain ⟨hw6, hI, hei6, hec6, hxp6_0, hxp6_1⟩ := hw6
          have hxp6_0 : (i6 146).toInt = 0 := hxp6_0
          have hxp6_1 : (i6 148).toInt = 0 := hxp6_1
          have hfi : ∀ k, k ∉ ([146, 148] : List Nat) → i6 k = i k := fr_z hfi hei6 (by decide +kernel) (by decide +kernel)
          have hfc : ∀ k, k ∉ ([] : List Nat) → c6 k = c k := fr_z hfc hec6 (by decide +kernel) (by decide +kernel)
          have hen : (i6 146).toInt = 0 := hxp6_0
          refine lv_aload_n hx hb dX11_make_45 rfl (lv_at hl 0 rfl) ?_
          refine xgT_X_world hx hb hts (fun _ h => List.mem_cons_of_mem _ (List.mem_append_left _ (List.mem_append_left _ (List.mem_append_right _ h)))) hown hK hP (hts (.fieldLink RX11 10 "TalePlay" "world" "LTalePlay$World;") (List.mem_cons_of_mem _ (List.mem_append_left _ (List.mem_append_left _ (List.mem_append_left _ (List.mem_append_left _ (List.mem_of_getElem? (i := 0) rfl))))))) dX11_make_46 ?_
          refine lv_iload_n hx hb dX11_make_49 rfl (lv_at hl 1 rfl) ?_
          refine lv_iload_n hx hb dX11_make_50 rfl (lv_at hl 2 rfl) ?_
          have rb111_i6 : 0 ≤ (i6 111).toInt ∧ (i6 111).toInt ≤ 30 := hI.1 111
          have re111_i6 : (i6 111).toInt = (i 111).toInt := congrArg Int32.toInt (hfi 111 (by decide +kernel))
          refine al_calli (va_runV (As := [.int k1, .int s1]) (rest := []) ⟨hx, hb, hml, hown, hts⟩ (x_X10_addObject_e l D H.size sk a t i6 q6 c6 d6 k1 s1 hI (show 0 ≤ k1.toInt ∧ k1.toInt ≤ 23 from by omega) (show 0 ≤ s1.toInt ∧ s1.toInt ≤ 99 from by omega) (show ((i6 111) : Int32).toInt ≤ 29 from by omega)) (cwV 2 hts gm_X11_make_e_X10_addObject_e_105 rfl rfl rfl (by decide +kernel) ⟨Nat.le_of_ble_eq_true rfl, Nat.le_of_ble_eq_true rfl⟩) (yB_V hN (xZ_k hZ hS hA) (xZ_n hZ hD) hK hP hD (ci := 10) (q0 := 2) rfl rfl) rfl rfl hl.1 rfl (lv_room (Nat.le_of_ble_eq_true rfl)) dX11_make_51 ⟨Nat.le_of_ble_eq_true rfl, Nat.le_of_ble_eq_true rfl⟩) hS hA hP hD (fun r7 u7 H locs hw7 hP hD hS => ?_)
          obtain ⟨i7, q7, c7, d7⟩ := u7
          have hw7 : (r7.toInt = (i6 111).toInt) ∧ xInv i7 c7 ∧ (∀ k, k ∉ ([111] : List Nat) → i7 k = i6 k) ∧ (∀ k, k ∉ ([108, 109] : List Nat) → c7 k = c6 k) ∧ ((i7 111).toInt = (i6 111).toInt + 1) ∧ ((c7 108) = upd (c6 108) (i6 111).toNatClampNeg k1) := hw7
          obtain ⟨hw7, hI, hei7, hec7, hxp7_0, hxp7_1⟩ := hw7
          have hxp7_0 : (i7 111).toInt = (i 111).toInt + 1 := by have h9 := hxp7_0; rw [show i6 111 = i 111 from hfi 111 (by decide +kernel)] at h9; exact h9
          have hxp7_1 : (c7 108) = upd (c 108) (i 111).toNatClampNeg k1 := by have h9 := hxp7_1; rw [show c6 108 = c 108 from hfc 108 (by decide +kernel), show i6 111 = i 111 from hfi 111 (by decide +kernel)] at h9; exact h9
          have hfi : ∀ k, k ∉ ([111, 146, 148] : List Nat) → i7 k = i k := fr_z hfi hei7 (by decide +kernel) (by decide +kernel)
          have hfc : ∀ k, k ∉ ([108, 109] : List Nat) → c7 k = c k := fr_z hfc hec7 (by decide +kernel) (by decide +kernel)
          have hen : ((i7 146) : Int32).toInt = 0 := by rw [show i7 146 = i6 146 from hei7 146 (by decide +kernel)]; exact hen
          exact rw_iret (i7, q7, c7, d7) hx hb hr hlocks hS (hK.sub (tys' := []) [] rfl) hP hD dX11_make_54 ⟨trivial, hI, fr_w hfi (by decide +kernel), fr_w hfc (by decide +kernel), (show xEn (i 146) (i 148) ((i7 146) : Int32) ((i7 148) : Int32) from Or.inl hen), (show (¬ (0 ≤ k1.toInt ∧ k1.toInt < (i 110).toInt ∧ 0 ≤ s1.toInt ∧ s1.toInt ≤ 99) ∧ (r7 : Int32).toInt = -1 ∧ ((i7 111) : Int32).toInt = (i 111).toInt) ∨ (0 ≤ k1.toInt ∧ k1.toInt < (i 110).toInt ∧ 0 ≤ s1.toInt ∧ s1.toInt ≤ 99 ∧ 30 ≤ (i 111).toInt ∧ (r7 : Int32).toInt = -2 ∧ ((i7 111) : Int32).toInt = (i 111).toInt) ∨ (0 ≤ k1.toInt ∧ k1.toInt < (i 110).toInt ∧ 0 ≤ s1.toInt ∧ s1.toInt ≤ 99 ∧ (i 111).toInt ≤ 29 ∧ (r7 : Int32).toInt = (i 111).toInt ∧ ((i7 111) : Int32).toInt = (i 111).toInt + 1) from by omega), (show OU (c 108) (c7 108) k1 s1 (i 110) (i 111) from Or.inr ⟨by omega, by omega, by omega, by omega, by omega, hxp7_1⟩)⟩
        · have f5 := mt (ti_lt (a := (i 111).toInt) (b := 30) rfl (by decide +kernel)).mpr c5
          refine lv_bipush (v := (-2)) hx hb dX11_make_35 (by decide +kernel) ?_
          exact rw_iret (i, q, c, d) hx hb hr hlocks hS (hK.sub (tys' := []) [] rfl) hP hD dX11_make_37 ⟨trivial, hI, fr_w hfi (by decide +kernel), fr_w hfc (by decide +kernel), (show xEn (i 146) (i 148) ((i 146) : Int32) ((i 148) : Int32) from Or.inr ⟨rfl, rfl⟩), (show (¬ (0 ≤ k1.toInt ∧ k1.toInt < (i 110).toInt ∧ 0 ≤ s1.toInt ∧ s1.toInt ≤ 99) ∧ ((-2) : Int32).toInt = -1 ∧ ((i 111) : Int32).toInt = (i 111).toInt) ∨ (0 ≤ k1.toInt ∧ k1.toInt < (i 110).toInt ∧ 0 ≤ s1.toInt ∧ s1.toInt ≤ 99 ∧ 30 ≤ (i 111).toInt ∧ ((-2) : Int32).toInt = -2 ∧ ((i 111) : Int32).toInt = (i 111).toInt) ∨ (0 ≤ k1.toInt ∧ k1.toInt < (i 110).toInt ∧ 0 ≤ s1.toInt ∧ s1.toInt ≤ 99 ∧ (i 111).toInt ≤ 29 ∧ ((-2) : Int32).toInt = (i 111).toInt ∧ ((i 111) : Int32).toInt = (i 111).toInt + 1) from by have h53 : ((-2) : Int32).toInt = -2 := (by decide +kernel); omega), (show OU (c 108) (c 108) k1 s1 (i 110) (i 111) from Or.inl ⟨by omega, rfl⟩)⟩
      · have f4 := mt (ti_le (a := s1.toInt) (b := 99) rfl (by decide +kernel)).mpr c4
        refine lv_iconst (v := (-1)) hx hb dX11_make_21 (by decide +kernel) ?_
        exact rw_iret (i, q, c, d) hx hb hr hlocks hS (hK.sub (tys' := []) [] rfl) hP hD dX11_make_22 ⟨trivial, hI, fr_w hfi (by decide +kernel), fr_w hfc (by decide +kernel), (show xEn (i 146) (i 148) ((i 146) : Int32) ((i 148) : Int32) from Or.inr ⟨rfl, rfl⟩), (show (¬ (0 ≤ k1.toInt ∧ k1.toInt < (i 110).toInt ∧ 0 ≤ s1.toInt ∧ s1.toInt ≤ 99) ∧ ((-1) : Int32).toInt = -1 ∧ ((i 111) : Int32).toInt = (i 111).toInt) ∨ (0 ≤ k1.toInt ∧ k1.toInt < (i 110).toInt ∧ 0 ≤ s1.toInt ∧ s1.toInt ≤ 99 ∧ 30 ≤ (i 111).toInt ∧ ((-1) : Int32).toInt = -2 ∧ ((i 111) : Int32).toInt = (i 111).toInt) ∨ (0 ≤ k1.toInt ∧ k1.toInt < (i 110).toInt ∧ 0 ≤ s1.toInt ∧ s1.toInt ≤ 99 ∧ (i 111).toInt ≤ 29 ∧ ((-1) : Int32).toInt = (i 111).toInt ∧ ((i 111) : Int32).toInt = (i 111).toInt + 1) from by have h53 : ((-1) : Int32).toInt = -1 := (by decide +kernel); omega), (show OU (c 108) (c 108) k1 s1 (i 110) (i 111) from Or.inl ⟨by omega, rfl⟩)⟩

set_option maxHeartbeats 4000000 in
set_option maxRecDepth 100000 in
theorem s_X12_make_e (l : Launch) (D : va_G) (sz : Nat) (o : Nat) (a : Nat → Nat) (t : Nat → ClassId) (i : Nat → Int32) (q : Int64) (c : Nat → Nat → Int32) (d : Nat → Nat → Int64) (k1 : Int32) (s1 : Int32) (hI : mInv i c) (hs_S : SJ (c 3) (c 6) (c 9) (c 10) (c 11) (c 13) (i 2).toInt (i 5).toInt (i 8).toInt) (hs_J : TJ (c 3) (c 6) (c 23) (c 24) (c 29) (c 30) (i 5).toInt (i 22).toInt (i 27).toInt) : Met l yX12_make wm_X12_make ({ frames := 1, cells := 0, slots := 0, locals := 25 }) (va_Pc [.ref o, .int k1, .int s1] (pB D sz (mW o a t i q c d) (mT t))) (va_Qi (fun (r : Int32) (u : MS) => True ∧ mInv u.1 u.2.2.1 ∧ (∀ k, k ∉ ([5, 22, 27] : List Nat) → u.1 k = i k) ∧ (∀ k, k ∉ ([6, 7] : List Nat) → u.2.2.1 k = c k) ∧ (SJ (u.2.2.1 3) (u.2.2.1 6) (u.2.2.1 9) (u.2.2.1 10) (u.2.2.1 11) (u.2.2.1 13) (u.1 2).toInt (u.1 5).toInt (u.1 8).toInt) ∧ (TJ (u.2.2.1 3) (u.2.2.1 6) (u.2.2.1 23) (u.2.2.1 24) (u.2.2.1 29) (u.2.2.1 30) (u.1 5).toInt (u.1 22).toInt (u.1 27).toInt) ∧ ((¬ (0 ≤ k1.toInt ∧ k1.toInt < (i 2).toInt ∧ 0 ≤ s1.toInt ∧ s1.toInt ≤ 99) ∧ r.toInt = -1 ∧ (u.1 5).toInt = (i 5).toInt) ∨ (0 ≤ k1.toInt ∧ k1.toInt < (i 2).toInt ∧ 0 ≤ s1.toInt ∧ s1.toInt ≤ 99 ∧ 30 ≤ (i 5).toInt ∧ r.toInt = -2 ∧ (u.1 5).toInt = (i 5).toInt) ∨ (0 ≤ k1.toInt ∧ k1.toInt < (i 2).toInt ∧ 0 ≤ s1.toInt ∧ s1.toInt ≤ 99 ∧ (i 5).toInt ≤ 29 ∧ r.toInt = (i 5).toInt ∧ (u.1 5).toInt = (i 5).toInt + 1)) ∧ (OU (c 6) (u.2.2.1 6) k1 s1 (i 2) (i 5))) (oC D (va_A (mW o a t i q c d) sz) (fun u : MS => mW o a t u.1 u.2.1 u.2.2.1 u.2.2.2) (fun _ => [])) (va_A (mW o a t i q c d) sz)) 0 0 (va_A (mW o a t i q c d) sz) := by
  refine Met.ofW (cc := cX12_make) (maxL := 3) (ret := (some .int)) (by decide +kernel) rfl ?_
  intro p e s m args below meth cd s₁ B hml hv
  obtain ⟨rfl, hsz, hP, hK, hD0⟩ := hv
  have hx := B.exec
  have hb := B.bytes
  have hr := B.returns
  have hts := atoms_spec (ws := wm_X12_make) B.pre
  have hown : s.vm.findClass RX12 = some m.cls := findClass_of_methodNamed B.named
  have hlocks := B.notSynchronized
  subst hsz
  have hD := hD0.self (sz := s.heap.size)
  generalize hAe : va_A (mW o a t i q c d) s.heap.size = A at hD ⊢
  have hA : ∀ q : Nat, s.heap.size ≤ q → A q := fun q h => by rw [← hAe]; exact Or.inr h
  have hS : va_S A s.heap s.heap [] := va_S.rf
  have hfi : ∀ k, k ∉ ([] : List Nat) → i k = i k := fun _ _ => rfl
  have hfc : ∀ k, k ∉ ([] : List Nat) → c k = c k := fun _ _ => rfl
  have hl := lv_entry ([.ref o, .int k1, .int s1]) (n := 3) (Nat.le_of_ble_eq_true rfl)
  rw [lg_entry_eq]
  generalize (lg_sl ([.ref o, .int k1, .int s1]) ++ List.replicate (3 - (lg_sl ([.ref o, .int k1, .int s1])).length) Slot.unset).toArray = ls at hl ⊢
  have hl : lv_has ls 3 [(0, .ref o), (1, .int k1), (2, .int s1)] := hl
  have hI0 := hI
  have rb2_i : 6 ≤ (i 2).toInt ∧ (i 2).toInt ≤ 24 := hI.1 2
  have rb5_i : 0 ≤ (i 5).toInt ∧ (i 5).toInt ≤ 30 := hI.1 5
  refine lv_iload_n hx hb dX12_make_0 rfl (lv_at hl 1 rfl) ?_
  refine lv_i2l (v := k1.toInt64) hx hb dX12_make_1 rfl ?_
  refine lv_lconst (v := 0) hx hb dX12_make_2 (by decide +kernel) ?_
  refine lv_aload_n hx hb dX12_make_3 rfl (lv_at hl 0 rfl) ?_
  refine mget_2 (v := (i 2)) rfl hx hb hts (fun _ h => List.mem_cons_of_mem _ (List.mem_append_right _ h)) hown hK hP (hts (.fieldLink RX12 151 "TalePlayModel" "kinds" "I") (List.mem_cons_of_mem _ (List.mem_append_left _ (List.mem_of_getElem? (i := 0) rfl)))) dX12_make_4 ?_
  refine lv_iconst (v := 1) hx hb dX12_make_7 (by decide +kernel) ?_
  refine lv_isub hx hb dX12_make_8 ?_
  refine lv_topi (fun x1 ex1 => ?_)
  have tx1 := ti_sub (a := (i 2).toInt) (b := 1) ex1 rfl (by decide +kernel) (by omega) (by omega)
  refine lv_i2l (v := x1.toInt64) hx hb dX12_make_9 rfl ?_
  have hPc := hP.sub (ws' := []) [] rfl
  have hKc := hK.sub (tys' := []) [] rfl
  refine ro_calli (va_runS (As := [.long k1.toInt64, .long 0, .long x1.toInt64]) (rest := []) ⟨hx, hb, hml, hown, hts⟩ (c_X12_in l D s.heap.size k1.toInt64 0 x1.toInt64 k1.toInt 0 ((i 2).toInt - 1) ((Int32.toInt_toInt64 k1).trans rfl) (by decide +kernel) ((Int32.toInt_toInt64 x1).trans tx1)) (va_cwS 3 hts gm_X12_make_X12_in rfl rfl rfl (by decide +kernel) ⟨Nat.le_of_ble_eq_true rfl, Nat.le_of_ble_eq_true rfl⟩) (pA_S hKc hPc) rfl rfl hl.1 rfl (lv_room (Nat.le_of_ble_eq_true rfl)) dX12_make_10 ⟨Nat.le_of_ble_eq_true rfl, Nat.le_of_ble_eq_true rfl⟩) hS hA hP (fun r2 u2 H locs hw2 hP hS => ?_)
  have hw2 : r2 = if (0 ≤ k1.toInt ∧ k1.toInt ≤ ((i 2).toInt - 1)) then 1 else 0 := hw2
  refine lv_if_eq (tgt := 28) hx hb dX12_make_13 (by decide +kernel) (fun c3 => ?_) (fun c3 => ?_)
  · have f3 := fl_f hw2 c3
    refine lv_iconst (v := (-1)) hx hb dX12_make_28 (by decide +kernel) ?_
    exact rw_iret (i, q, c, d) hx hb hr hlocks hS (hK.sub (tys' := []) [] rfl) hP hD dX12_make_29 ⟨trivial, hI, fr_w hfi (by decide +kernel), fr_w hfc (by decide +kernel), (show SJ (c 3) (c 6) (c 9) (c 10) (c 11) (c 13) ((i 2) : Int32).toInt ((i 5) : Int32).toInt ((i 8) : Int32).toInt from hs_S), (show TJ (c 3) (c 6) (c 23) (c 24) (c 29) (c 30) ((i 5) : Int32).toInt ((i 22) : Int32).toInt ((i 27) : Int32).toInt from hs_J), (show (¬ (0 ≤ k1.toInt ∧ k1.toInt < (i 2).toInt ∧ 0 ≤ s1.toInt ∧ s1.toInt ≤ 99) ∧ ((-1) : Int32).toInt = -1 ∧ ((i 5) : Int32).toInt = (i 5).toInt) ∨ (0 ≤ k1.toInt ∧ k1.toInt < (i 2).toInt ∧ 0 ≤ s1.toInt ∧ s1.toInt ≤ 99 ∧ 30 ≤ (i 5).toInt ∧ ((-1) : Int32).toInt = -2 ∧ ((i 5) : Int32).toInt = (i 5).toInt) ∨ (0 ≤ k1.toInt ∧ k1.toInt < (i 2).toInt ∧ 0 ≤ s1.toInt ∧ s1.toInt ≤ 99 ∧ (i 5).toInt ≤ 29 ∧ ((-1) : Int32).toInt = (i 5).toInt ∧ ((i 5) : Int32).toInt = (i 5).toInt + 1) from by have h53 : ((-1) : Int32).toInt = -1 := (by decide +kernel); omega), (show OU (c 6) (c 6) k1 s1 (i 2) (i 5) from Or.inl ⟨by omega, rfl⟩)⟩
  · have f3 := fl_t hw2 c3
    refine lv_iload_n hx hb dX12_make_16 rfl (lv_at hl 2 rfl) ?_
    refine lv_i2l (v := s1.toInt64) hx hb dX12_make_17 rfl ?_
    refine lv_lconst (v := 0) hx hb dX12_make_18 (by decide +kernel) ?_
    refine lv_ldc2 (v := 99) hx hb hown (hts (.constantLong RX12 175 (99)) (List.mem_cons_of_mem _ (List.mem_append_left _ (List.mem_of_getElem? (i := 5) rfl)))) dX12_make_19 ?_
    have hPc := hP.sub (ws' := []) [] rfl
    have hKc := hK.sub (tys' := []) [] rfl
    refine ro_calli (va_runS (As := [.long s1.toInt64, .long 0, .long 99]) (rest := []) ⟨hx, hb, hml, hown, hts⟩ (c_X12_in l D H.size s1.toInt64 0 99 s1.toInt 0 99 ((Int32.toInt_toInt64 s1).trans rfl) (by decide +kernel) (by decide +kernel)) (va_cwS 3 hts gm_X12_make_X12_in rfl rfl rfl (by decide +kernel) ⟨Nat.le_of_ble_eq_true rfl, Nat.le_of_ble_eq_true rfl⟩) (pA_S hKc hPc) rfl rfl hl.1 rfl (lv_room (Nat.le_of_ble_eq_true rfl)) dX12_make_22 ⟨Nat.le_of_ble_eq_true rfl, Nat.le_of_ble_eq_true rfl⟩) hS hA hP (fun r4 u4 H locs hw4 hP hS => ?_)
    have hw4 : r4 = if (0 ≤ s1.toInt ∧ s1.toInt ≤ 99) then 1 else 0 := hw4
    refine lv_if_ne (tgt := 30) hx hb dX12_make_25 (by decide +kernel) (fun c5 => ?_) (fun c5 => ?_)
    · have f5 := fl_t hw4 c5
      refine lv_aload_n hx hb dX12_make_30 rfl (lv_at hl 0 rfl) ?_
      refine mget_5 (v := (i 5)) rfl hx hb hts (fun _ h => List.mem_cons_of_mem _ (List.mem_append_right _ h)) hown hK hP (hts (.fieldLink RX12 177 "TalePlayModel" "objects" "I") (List.mem_cons_of_mem _ (List.mem_append_left _ (List.mem_of_getElem? (i := 6) rfl)))) dX12_make_31 ?_
      refine lv_bipush (v := 30) hx hb dX12_make_34 (by decide +kernel) ?_
      refine lv_icmp_ne (tgt := 42) hx hb dX12_make_36 (by decide +kernel) (fun c6 => ?_) (fun c6 => ?_)
      · have f6 := mt (ti_eq (a := (i 5).toInt) (b := 30) rfl (by decide +kernel)).mpr c6
        refine lv_aload_n hx hb dX12_make_42 rfl (lv_at hl 0 rfl) ?_
        refine mget_6 hx hb hts (fun _ h => List.mem_cons_of_mem _ (List.mem_append_right _ h)) hown hK hP (hts (.fieldLink RX12 19 "TalePlayModel" "kindOf" "[I") (List.mem_cons_of_mem _ (List.mem_append_left _ (List.mem_of_getElem? (i := 7) rfl)))) dX12_make_43 ?_
        refine lv_aload_n hx hb dX12_make_46 rfl (lv_at hl 0 rfl) ?_
        refine mget_5 (v := (i 5)) rfl hx hb hts (fun _ h => List.mem_cons_of_mem _ (List.mem_append_right _ h)) hown hK hP (hts (.fieldLink RX12 177 "TalePlayModel" "objects" "I") (List.mem_cons_of_mem _ (List.mem_append_left _ (List.mem_of_getElem? (i := 6) rfl)))) dX12_make_47 ?_
        refine lv_iload_n hx hb dX12_make_50 rfl (lv_at hl 1 rfl) ?_
        refine mst_6 hx hb hK hP hD hS (vp_in_iff.mpr (by have h9 : (i 5).toInt = (i 5).toInt := rfl; omega)) dX12_make_51 (fun H locs hP hD hS => ?_)
        have hI := mInv_c hI (k := 6) (j := ((i 5) : Int32).toNatClampNeg) (x := k1) (show 0 ≤ (k1 : Int32).toInt ∧ (k1 : Int32).toInt ≤ 23 from by omega)
        have hfc : ∀ k, k ∉ ([6] : List Nat) → (updA c 6 ((i 5) : Int32).toNatClampNeg k1) k = c k := fr_cz hfc (by decide +kernel) (by decide +kernel)
        refine lv_aload_n hx hb dX12_make_52 rfl (lv_at hl 0 rfl) ?_
        refine mget_7 hx hb hts (fun _ h => List.mem_cons_of_mem _ (List.mem_append_right _ h)) hown hK hP (hts (.fieldLink RX12 22 "TalePlayModel" "sizeOf" "[I") (List.mem_cons_of_mem _ (List.mem_append_left _ (List.mem_of_getElem? (i := 8) rfl)))) dX12_make_53 ?_
        refine lv_aload_n hx hb dX12_make_56 rfl (lv_at hl 0 rfl) ?_
        refine mget_5 (v := (i 5)) rfl hx hb hts (fun _ h => List.mem_cons_of_mem _ (List.mem_append_right _ h)) hown hK hP (hts (.fieldLink RX12 177 "TalePlayModel" "objects" "I") (List.mem_cons_of_mem _ (List.mem_append_left _ (List.mem_of_getElem? (i := 6) rfl)))) dX12_make_57 ?_
        refine lv_iload_n hx hb dX12_make_60 rfl (lv_at hl 2 rfl) ?_
        refine mst_7 hx hb hK hP hD hS (vp_in_iff.mpr (by have h9 : (i 5).toInt = (i 5).toInt := rfl; omega)) dX12_make_61 (fun H locs hP hD hS => ?_)
        have hI := mInv_c hI (k := 7) (j := ((i 5) : Int32).toNatClampNeg) (x := s1) (show 0 ≤ (s1 : Int32).toInt ∧ (s1 : Int32).toInt ≤ 99 from by omega)
        have hfc : ∀ k, k ∉ ([6, 7] : List Nat) → (updA (updA c 6 ((i 5) : Int32).toNatClampNeg k1) 7 ((i 5) : Int32).toNatClampNeg s1) k = c k := fr_cz hfc (by decide +kernel) (by decide +kernel)
        refine lv_aload_n hx hb dX12_make_62 rfl (lv_at hl 0 rfl) ?_
        refine lv_dup hx hb dX12_make_63 rfl ?_
        refine mget_5 (v := (i 5)) rfl hx hb hts (fun _ h => List.mem_cons_of_mem _ (List.mem_append_right _ h)) hown hK hP (hts (.fieldLink RX12 177 "TalePlayModel" "objects" "I") (List.mem_cons_of_mem _ (List.mem_append_left _ (List.mem_of_getElem? (i := 6) rfl)))) dX12_make_64 ?_
        refine lv_iconst (v := 1) hx hb dX12_make_67 (by decide +kernel) ?_
        refine lv_iadd hx hb dX12_make_68 ?_
        refine lv_topi (fun x7 ex7 => ?_)
        have tx7 := ti_add (a := (i 5).toInt) (b := 1) ex7 rfl (by decide +kernel) (by omega) (by omega)
        refine mput_5 hx hb hts (fun _ h => List.mem_cons_of_mem _ (List.mem_append_right _ h)) hown hK hP hD hS (hts (.fieldLink RX12 177 "TalePlayModel" "objects" "I") (List.mem_cons_of_mem _ (List.mem_append_left _ (List.mem_of_getElem? (i := 6) rfl)))) rfl rfl dX12_make_69 (fun H locs hP hD hS => ?_)
        have hI := mInv_i hI (k := 5) (v := x7) (show 0 ≤ (x7 : Int32).toInt ∧ (x7 : Int32).toInt ≤ 30 from by have h9 : x7.toInt = ((i 5).toInt + 1) := tx7; omega)
        have hfi : ∀ k, k ∉ ([5] : List Nat) → (upd i 5 x7) k = i k := fr_iz hfi (by decide +kernel) (by decide +kernel)
        refine lv_aload_n hx hb dX12_make_72 rfl (lv_at hl 0 rfl) ?_
        refine al_callv (va_runV (As := []) (rest := []) ⟨hx, hb, hml, hown, hts⟩ (s_X12_endTale l D H.size o a t (upd i 5 x7) q (updA (updA c 6 ((i 5) : Int32).toNatClampNeg k1) 7 ((i 5) : Int32).toNatClampNeg s1) d  hI ) (cwV 0 hts gm_X12_make_X12_endTale rfl rfl rfl (by decide +kernel) ⟨Nat.le_of_ble_eq_true rfl, Nat.le_of_ble_eq_true rfl⟩) (pB_V hK hP hD (ci := 12) (q0 := 0) rfl rfl) rfl rfl hl.1 rfl (lv_room (Nat.le_of_ble_eq_true rfl)) dX12_make_73 ⟨Nat.le_of_ble_eq_true rfl, Nat.le_of_ble_eq_true rfl⟩) hS hA hP hD (fun u8 H locs hw8 hP hD hS => ?_)
        obtain ⟨i8, q8, c8, d8⟩ := u8
        have hw8 : True ∧ mInv i8 c8 ∧ (∀ k, k ∉ ([22, 27] : List Nat) → i8 k = (upd i 5 x7) k) ∧ (∀ k, k ∉ ([] : List Nat) → c8 k = (updA (updA c 6 ((i 5) : Int32).toNatClampNeg k1) 7 ((i 5) : Int32).toNatClampNeg s1) k) ∧ ((i8 22).toInt = -9) ∧ ((i8 27).toInt = 0) := hw8
        obtain ⟨hw8, hI, hei8, hec8, hxp8_0, hxp8_1⟩ := hw8
        have hxp8_0 : (i8 22).toInt = -9 := hxp8_0
        have hxp8_1 : (i8 27).toInt = 0 := hxp8_1
        have hfi : ∀ k, k ∉ ([5, 22, 27] : List Nat) → i8 k = i k := fr_z hfi hei8 (by decide +kernel) (by decide +kernel)
        have hfc : ∀ k, k ∉ ([6, 7] : List Nat) → c8 k = c k := fr_z hfc hec8 (by decide +kernel) (by decide +kernel)
        have hP : va_P D vwCl (mW o a t i8 q8 c8 d8) H := hP
        have hD : va_D A (mW o a t i8 q8 c8 d8) := hD
        have hob9 : (i8 5).toInt = (i 5).toInt + 1 := by rw [show i8 5 = (upd i 5 x7) 5 from hei8 5 (by decide +kernel)]; exact tx7
        refine lv_aload_n hx hb dX12_make_76 rfl (lv_at hl 0 rfl) ?_
        refine mget_5 (v := (i8 5)) rfl hx hb hts (fun _ h => List.mem_cons_of_mem _ (List.mem_append_right _ h)) hown hK hP (hts (.fieldLink RX12 177 "TalePlayModel" "objects" "I") (List.mem_cons_of_mem _ (List.mem_append_left _ (List.mem_of_getElem? (i := 6) rfl)))) dX12_make_77 ?_
        have rb5_i8 : 0 ≤ (i8 5).toInt ∧ (i8 5).toInt ≤ 30 := hI.1 5
        refine lv_iconst (v := 1) hx hb dX12_make_80 (by decide +kernel) ?_
        refine lv_isub hx hb dX12_make_81 ?_
        refine lv_topi (fun x9 ex9 => ?_)
        have tx9 := ti_sub (a := (i8 5).toInt) (b := 1) ex9 rfl (by decide +kernel) (by omega) (by omega)
        exact rw_iret (i8, q8, c8, d8) hx hb hr hlocks hS (hK.sub (tys' := []) [] rfl) hP hD dX12_make_82 ⟨trivial, hI, fr_w hfi (by decide +kernel), fr_w hfc (by decide +kernel), (show SJ (c8 3) (c8 6) (c8 9) (c8 10) (c8 11) (c8 13) ((i8 2) : Int32).toInt ((i8 5) : Int32).toInt ((i8 8) : Int32).toInt from by rw [show c8 3 = (updA (updA c 6 ((i 5) : Int32).toNatClampNeg k1) 7 ((i 5) : Int32).toNatClampNeg s1) 3 from hec8 3 (by decide +kernel), show c8 6 = (updA (updA c 6 ((i 5) : Int32).toNatClampNeg k1) 7 ((i 5) : Int32).toNatClampNeg s1) 6 from hec8 6 (by decide +kernel), show c8 9 = (updA (updA c 6 ((i 5) : Int32).toNatClampNeg k1) 7 ((i 5) : Int32).toNatClampNeg s1) 9 from hec8 9 (by decide +kernel), show c8 10 = (updA (updA c 6 ((i 5) : Int32).toNatClampNeg k1) 7 ((i 5) : Int32).toNatClampNeg s1) 10 from hec8 10 (by decide +kernel), show c8 11 = (updA (updA c 6 ((i 5) : Int32).toNatClampNeg k1) 7 ((i 5) : Int32).toNatClampNeg s1) 11 from hec8 11 (by decide +kernel), show c8 13 = (updA (updA c 6 ((i 5) : Int32).toNatClampNeg k1) 7 ((i 5) : Int32).toNatClampNeg s1) 13 from hec8 13 (by decide +kernel), show i8 2 = (upd i 5 x7) 2 from hei8 2 (by decide +kernel), show i8 5 = (upd i 5 x7) 5 from hei8 5 (by decide +kernel), show i8 8 = (upd i 5 x7) 8 from hei8 8 (by decide +kernel)]; show SJ (c 3) (upd (c 6) ((i 5) : Int32).toNatClampNeg k1) (c 9) (c 10) (c 11) (c 13) (i 2).toInt x7.toInt (i 8).toInt; rw [tx7]; exact SJ_make (N := (i 5).toInt) hs_S (by omega) (by omega) (mI_le hI0) (fun o => (mI_mi hI0 o).1)), (show TJ (c8 3) (c8 6) (c8 23) (c8 24) (c8 29) (c8 30) ((i8 5) : Int32).toInt ((i8 22) : Int32).toInt ((i8 27) : Int32).toInt from TJ_no hxp8_0), (show (¬ (0 ≤ k1.toInt ∧ k1.toInt < (i 2).toInt ∧ 0 ≤ s1.toInt ∧ s1.toInt ≤ 99) ∧ (x9 : Int32).toInt = -1 ∧ ((i8 5) : Int32).toInt = (i 5).toInt) ∨ (0 ≤ k1.toInt ∧ k1.toInt < (i 2).toInt ∧ 0 ≤ s1.toInt ∧ s1.toInt ≤ 99 ∧ 30 ≤ (i 5).toInt ∧ (x9 : Int32).toInt = -2 ∧ ((i8 5) : Int32).toInt = (i 5).toInt) ∨ (0 ≤ k1.toInt ∧ k1.toInt < (i 2).toInt ∧ 0 ≤ s1.toInt ∧ s1.toInt ≤ 99 ∧ (i 5).toInt ≤ 29 ∧ (x9 : Int32).toInt = (i 5).toInt ∧ ((i8 5) : Int32).toInt = (i 5).toInt + 1) from by have h53 : x9.toInt = ((i8 5).toInt - 1) := tx9; omega), (show OU (c 6) (c8 6) k1 s1 (i 2) (i 5) from Or.inr ⟨by omega, by omega, by omega, by omega, by omega, by rw [show c8 6 = (updA (updA c 6 ((i 5) : Int32).toNatClampNeg k1) 7 ((i 5) : Int32).toNatClampNeg s1) 6 from hec8 6 (by decide +kernel)]; rfl⟩)⟩
      · have f6 := (ti_eq (a := (i 5).toInt) (b := 30) rfl (by decide +kernel)).mp c6
        refine lv_bipush (v := (-2)) hx hb dX12_make_39 (by decide +kernel) ?_
        exact rw_iret (i, q, c, d) hx hb hr hlocks hS (hK.sub (tys' := []) [] rfl) hP hD dX12_make_41 ⟨trivial, hI, fr_w hfi (by decide +kernel), fr_w hfc (by decide +kernel), (show SJ (c 3) (c 6) (c 9) (c 10) (c 11) (c 13) ((i 2) : Int32).toInt ((i 5) : Int32).toInt ((i 8) : Int32).toInt from hs_S), (show TJ (c 3) (c 6) (c 23) (c 24) (c 29) (c 30) ((i 5) : Int32).toInt ((i 22) : Int32).toInt ((i 27) : Int32).toInt from hs_J), (show (¬ (0 ≤ k1.toInt ∧ k1.toInt < (i 2).toInt ∧ 0 ≤ s1.toInt ∧ s1.toInt ≤ 99) ∧ ((-2) : Int32).toInt = -1 ∧ ((i 5) : Int32).toInt = (i 5).toInt) ∨ (0 ≤ k1.toInt ∧ k1.toInt < (i 2).toInt ∧ 0 ≤ s1.toInt ∧ s1.toInt ≤ 99 ∧ 30 ≤ (i 5).toInt ∧ ((-2) : Int32).toInt = -2 ∧ ((i 5) : Int32).toInt = (i 5).toInt) ∨ (0 ≤ k1.toInt ∧ k1.toInt < (i 2).toInt ∧ 0 ≤ s1.toInt ∧ s1.toInt ≤ 99 ∧ (i 5).toInt ≤ 29 ∧ ((-2) : Int32).toInt = (i 5).toInt ∧ ((i 5) : Int32).toInt = (i 5).toInt + 1) from by have h53 : ((-2) : Int32).toInt = -2 := (by decide +kernel); omega), (show OU (c 6) (c 6) k1 s1 (i 2) (i 5) from Or.inl ⟨by omega, rfl⟩)⟩
    · have f5 := fl_f hw4 c5
      refine lv_iconst (v := (-1)) hx hb dX12_make_28 (by decide +kernel) ?_
      exact rw_iret (i, q, c, d) hx hb hr hlocks hS (hK.sub (tys' := []) [] rfl) hP hD dX12_make_29 ⟨trivial, hI, fr_w hfi (by decide +kernel), fr_w hfc (by decide +kernel), (show SJ (c 3) (c 6) (c 9) (c 10) (c 11) (c 13) ((i 2) : Int32).toInt ((i 5) : Int32).toInt ((i 8) : Int32).toInt from hs_S), (show TJ (c 3) (c 6) (c 23) (c 24) (c 29) (c 30) ((i 5) : Int32).toInt ((i 22) : Int32).toInt ((i 27) : Int32).toInt from hs_J), (show (¬ (0 ≤ k1.toInt ∧ k1.toInt < (i 2).toInt ∧ 0 ≤ s1.toInt ∧ s1.toInt ≤ 99) ∧ ((-1) : Int32).toInt = -1 ∧ ((i 5) : Int32).toInt = (i 5).toInt) ∨ (0 ≤ k1.toInt ∧ k1.toInt < (i 2).toInt ∧ 0 ≤ s1.toInt ∧ s1.toInt ≤ 99 ∧ 30 ≤ (i 5).toInt ∧ ((-1) : Int32).toInt = -2 ∧ ((i 5) : Int32).toInt = (i 5).toInt) ∨ (0 ≤ k1.toInt ∧ k1.toInt < (i 2).toInt ∧ 0 ≤ s1.toInt ∧ s1.toInt ≤ 99 ∧ (i 5).toInt ≤ 29 ∧ ((-1) : Int32).toInt = (i 5).toInt ∧ ((i 5) : Int32).toInt = (i 5).toInt + 1) from by have h53 : ((-1) : Int32).toInt = -1 := (by decide +kernel); omega), (show OU (c 6) (c 6) k1 s1 (i 2) (i 5) from Or.inl ⟨by omega, rfl⟩)⟩

def wm_X3_open_e : List Cond := .code yX3_open cX3_open 3 (some .int) :: (([.fieldLink RX3 9 "TalePlay$Casts" "sorts" "[I", .fieldLink RX3 27 "TalePlay$Casts" "made" "I", .fieldLink RX3 15 "TalePlay$Casts" "lengths" "[I"] : List Cond) ++ wsX30)
set_option maxHeartbeats 4000000 in
set_option maxRecDepth 100000 in
theorem x_X3_open_e (l : Launch) (D : va_G) (sz : Nat) (sk : Value) (a : Nat → Nat) (t : Nat → ClassId) (i : Nat → Int32) (q : Int64) (c : Nat → Nat → Int32) (d : Nat → Nat → Int64) (s1 : Int32) (n1 : Int32) (hI : xInv i c) (hs1 : 1 ≤ s1.toInt ∧ s1.toInt ≤ 5) (hn1 : 0 ≤ n1.toInt ∧ n1.toInt ≤ 12) (hm : (i 165).toInt ≤ 9) : Met l yX3_open wm_X3_open_e ({ frames := 0, cells := 0, slots := 0, locals := 0 }) (va_Pc [.ref (a 161), .int s1, .int n1] (yB (a 186) D sz (xwT sk a t i q c d) (xtT t))) (va_Qi (fun (r : Int32) (u : MS) => (r.toInt = (i 165).toInt) ∧ xInv u.1 u.2.2.1 ∧ (∀ k, k ∉ ([165] : List Nat) → u.1 k = i k) ∧ (∀ k, k ∉ ([162, 163] : List Nat) → u.2.2.1 k = c k) ∧ ((u.1 165).toInt = (i 165).toInt + 1)) (oC D (va_A (xwT sk a t i q c d) sz) (fun u : MS => xwT sk a t u.1 u.2.1 u.2.2.1 u.2.2.2) (fun _ => [])) (va_A (xwT sk a t i q c d) sz)) 0 0 (va_A (xwT sk a t i q c d) sz) := by
  refine Met.ofW (cc := cX3_open) (maxL := 3) (ret := (some .int)) (by decide +kernel) rfl ?_
  intro p e s m args below meth cd s₁ B hml hv
  obtain ⟨rfl, ⟨hsz, hP, hK, hD0⟩, hN, hZ, hBW⟩ := hv
  have hx := B.exec
  have hb := B.bytes
  have hr := B.returns
  have hts := atoms_spec (ws := wm_X3_open_e) B.pre
  have hown : s.vm.findClass RX3 = some m.cls := findClass_of_methodNamed B.named
  have hlocks := B.notSynchronized
  subst hsz
  have hD := hD0.self (sz := s.heap.size)
  have hZ := xZ_A hZ hP hBW
  generalize hAe : va_A (xwT sk a t i q c d) s.heap.size = A at hD hZ ⊢
  have hA : ∀ q : Nat, s.heap.size ≤ q → A q := fun q h => by rw [← hAe]; exact Or.inr h
  have hS : va_S A s.heap s.heap [] := va_S.rf
  have hfi : ∀ k, k ∉ ([] : List Nat) → i k = i k := fun _ _ => rfl
  have hfc : ∀ k, k ∉ ([] : List Nat) → c k = c k := fun _ _ => rfl
  have hl := lv_entry ([.ref (a 161), .int s1, .int n1]) (n := 3) (Nat.le_of_ble_eq_true rfl)
  rw [lg_entry_eq]
  generalize (lg_sl ([.ref (a 161), .int s1, .int n1]) ++ List.replicate (3 - (lg_sl ([.ref (a 161), .int s1, .int n1])).length) Slot.unset).toArray = ls at hl ⊢
  have hl : lv_has ls 3 [(0, .ref (a 161)), (1, .int s1), (2, .int n1)] := hl
  refine lv_aload_n hx hb dX3_open_0 rfl (lv_at hl 0 rfl) ?_
  refine xgT_C_sorts hx hb hts (fun _ h => List.mem_cons_of_mem _ (List.mem_append_right _ h)) hown hK hP (hts (.fieldLink RX3 9 "TalePlay$Casts" "sorts" "[I") (List.mem_cons_of_mem _ (List.mem_append_left _ (List.mem_of_getElem? (i := 0) rfl)))) dX3_open_1 ?_
  refine lv_aload_n hx hb dX3_open_4 rfl (lv_at hl 0 rfl) ?_
  refine xgT_C_made (v := (i 165)) rfl hx hb hts (fun _ h => List.mem_cons_of_mem _ (List.mem_append_right _ h)) hown hK hP (hts (.fieldLink RX3 27 "TalePlay$Casts" "made" "I") (List.mem_cons_of_mem _ (List.mem_append_left _ (List.mem_of_getElem? (i := 1) rfl)))) dX3_open_5 ?_
  have rb165_i : 0 ≤ (i 165).toInt ∧ (i 165).toInt ≤ 10 := hI.1 165
  refine lv_iload_n hx hb dX3_open_8 rfl (lv_at hl 1 rfl) ?_
  refine xsT_162 hx hb hK hP hD hS (vp_in_iff.mpr (by have h9 : (i 165).toInt = (i 165).toInt := rfl; omega)) dX3_open_9 (fun H locs hP hD hS => ?_)
  have hI := xInv_c hI (k := 162) (j := ((i 165) : Int32).toNatClampNeg) (x := s1) (show 0 ≤ (s1 : Int32).toInt ∧ (s1 : Int32).toInt ≤ 5 from by omega)
  have hfc : ∀ k, k ∉ ([162] : List Nat) → (updA c 162 ((i 165) : Int32).toNatClampNeg s1) k = c k := fr_cz hfc (by decide +kernel) (by decide +kernel)
  refine lv_aload_n hx hb dX3_open_10 rfl (lv_at hl 0 rfl) ?_
  refine xgT_C_lengths hx hb hts (fun _ h => List.mem_cons_of_mem _ (List.mem_append_right _ h)) hown hK hP (hts (.fieldLink RX3 15 "TalePlay$Casts" "lengths" "[I") (List.mem_cons_of_mem _ (List.mem_append_left _ (List.mem_of_getElem? (i := 2) rfl)))) dX3_open_11 ?_
  refine lv_aload_n hx hb dX3_open_14 rfl (lv_at hl 0 rfl) ?_
  refine xgT_C_made (v := (i 165)) rfl hx hb hts (fun _ h => List.mem_cons_of_mem _ (List.mem_append_right _ h)) hown hK hP (hts (.fieldLink RX3 27 "TalePlay$Casts" "made" "I") (List.mem_cons_of_mem _ (List.mem_append_left _ (List.mem_of_getElem? (i := 1) rfl)))) dX3_open_15 ?_
  refine lv_iload_n hx hb dX3_open_18 rfl (lv_at hl 2 rfl) ?_
  refine xsT_163 hx hb hK hP hD hS (vp_in_iff.mpr (by have h9 : (i 165).toInt = (i 165).toInt := rfl; omega)) dX3_open_19 (fun H locs hP hD hS => ?_)
  have hI := xInv_c hI (k := 163) (j := ((i 165) : Int32).toNatClampNeg) (x := n1) (show 0 ≤ (n1 : Int32).toInt ∧ (n1 : Int32).toInt ≤ 12 from by omega)
  have hfc : ∀ k, k ∉ ([162, 163] : List Nat) → (updA (updA c 162 ((i 165) : Int32).toNatClampNeg s1) 163 ((i 165) : Int32).toNatClampNeg n1) k = c k := fr_cz hfc (by decide +kernel) (by decide +kernel)
  refine lv_aload_n hx hb dX3_open_20 rfl (lv_at hl 0 rfl) ?_
  refine lv_dup hx hb dX3_open_21 rfl ?_
  refine xgT_C_made (v := (i 165)) rfl hx hb hts (fun _ h => List.mem_cons_of_mem _ (List.mem_append_right _ h)) hown hK hP (hts (.fieldLink RX3 27 "TalePlay$Casts" "made" "I") (List.mem_cons_of_mem _ (List.mem_append_left _ (List.mem_of_getElem? (i := 1) rfl)))) dX3_open_22 ?_
  refine lv_dup_x1 hx hb dX3_open_25 rfl rfl ?_
  refine lv_iconst (v := 1) hx hb dX3_open_26 (by decide +kernel) ?_
  refine lv_iadd hx hb dX3_open_27 ?_
  refine lv_topi (fun x1 ex1 => ?_)
  have tx1 := ti_add (a := (i 165).toInt) (b := 1) ex1 rfl (by decide +kernel) (by omega) (by omega)
  refine xpT_C_made hx hb hts (fun _ h => List.mem_cons_of_mem _ (List.mem_append_right _ h)) hown hK hP hD hS (hts (.fieldLink RX3 27 "TalePlay$Casts" "made" "I") (List.mem_cons_of_mem _ (List.mem_append_left _ (List.mem_of_getElem? (i := 1) rfl)))) rfl rfl dX3_open_28 (fun H locs hP hD hS => ?_)
  have hI := xInv_i hI (k := 165) (v := x1) (show 0 ≤ (x1 : Int32).toInt ∧ (x1 : Int32).toInt ≤ 10 from by have h9 : x1.toInt = ((i 165).toInt + 1) := tx1; omega)
  have hfi : ∀ k, k ∉ ([165] : List Nat) → (upd i 165 x1) k = i k := fr_iz hfi (by decide +kernel) (by decide +kernel)
  exact rw_iret ((upd i 165 x1), q, (updA (updA c 162 ((i 165) : Int32).toNatClampNeg s1) 163 ((i 165) : Int32).toNatClampNeg n1), d) hx hb hr hlocks hS (hK.sub (tys' := []) [] rfl) hP hD dX3_open_31 ⟨(show (i 165).toInt = (i 165).toInt from by omega), hI, fr_w hfi (by decide +kernel), fr_w hfc (by decide +kernel), (show (x1 : Int32).toInt = (i 165).toInt + 1 from by have h50 : x1.toInt = ((i 165).toInt + 1) := tx1; omega)⟩

def wm_X11_cast_e : List Cond := .code yX11_cast cX11_cast 3 (some .int) :: ((([.fieldLink RX11 60 "TalePlay" "casts" "LTalePlay$Casts;", .fieldLink RX11 334 "TalePlay$Casts" "made" "I", .methodLink RX11 337 yX3_open, .instanceMethod yX3_open, .selects RX3 yX3_open yX3_open, .initialized RX3, .code yX3_open cX3_open 3 (some .int), .fieldLink RX3 9 "TalePlay$Casts" "sorts" "[I", .fieldLink RX3 27 "TalePlay$Casts" "made" "I", .fieldLink RX3 15 "TalePlay$Casts" "lengths" "[I", .methodLink RX11 128 yX11_answerFinding, .instanceMethod yX11_answerFinding, .selects RX11 yX11_answerFinding yX11_answerFinding, .initialized RX11, .code yX11_answerFinding cX11_answerFinding 2 (some .int), .fieldLink RX11 72 "TalePlay" "latestFinding" "I"] : List Cond) ++ ([.fieldLink RX11 68 "TalePlay" "findingCounts" "[I"] : List Cond)) ++ wsX110 ++ wsX30)
set_option maxRecDepth 20000 in
theorem gm_X11_cast_e_X3_open_e_337 : GoodIn wm_X11_cast_e (wsV RX11 337 RX3 yX3_open wm_X3_open_e) := goodIn_w (List.forall_mem_append.mpr ⟨List.forall_mem_cons.mpr ⟨List.mem_cons_of_mem _ (List.mem_append_left _ (List.mem_append_left _ (List.mem_append_left _ (List.mem_of_getElem? (i := 2) rfl)))), List.forall_mem_cons.mpr ⟨List.mem_cons_of_mem _ (List.mem_append_left _ (List.mem_append_left _ (List.mem_append_left _ (List.mem_of_getElem? (i := 3) rfl)))), List.forall_mem_cons.mpr ⟨List.mem_cons_of_mem _ (List.mem_append_left _ (List.mem_append_left _ (List.mem_append_left _ (List.mem_of_getElem? (i := 4) rfl)))), List.forall_mem_cons.mpr ⟨List.mem_cons_of_mem _ (List.mem_append_left _ (List.mem_append_left _ (List.mem_append_left _ (List.mem_of_getElem? (i := 5) rfl)))), (fun _ h => absurd h List.not_mem_nil)⟩⟩⟩⟩, List.forall_mem_cons.mpr ⟨List.mem_cons_of_mem _ (List.mem_append_left _ (List.mem_append_left _ (List.mem_append_left _ (List.mem_of_getElem? (i := 6) rfl)))), List.forall_mem_append.mpr ⟨List.forall_mem_cons.mpr ⟨List.mem_cons_of_mem _ (List.mem_append_left _ (List.mem_append_left _ (List.mem_append_left _ (List.mem_of_getElem? (i := 7) rfl)))), List.forall_mem_cons.mpr ⟨List.mem_cons_of_mem _ (List.mem_append_left _ (List.mem_append_left _ (List.mem_append_left _ (List.mem_of_getElem? (i := 8) rfl)))), List.forall_mem_cons.mpr ⟨List.mem_cons_of_mem _ (List.mem_append_left _ (List.mem_append_left _ (List.mem_append_left _ (List.mem_of_getElem? (i := 9) rfl)))), (fun _ h => absurd h List.not_mem_nil)⟩⟩⟩, (fun _ h => List.mem_cons_of_mem _ (List.mem_append_right _ h))⟩⟩⟩) (by decide +kernel)
set_option maxRecDepth 20000 in
theorem gm_X11_cast_e_X11_answerFinding_128 : GoodIn wm_X11_cast_e (wsV RX11 128 RX11 yX11_answerFinding wm_X11_answerFinding) := goodIn_w (List.forall_mem_append.mpr ⟨List.forall_mem_cons.mpr ⟨List.mem_cons_of_mem _ (List.mem_append_left _ (List.mem_append_left _ (List.mem_append_left _ (List.mem_of_getElem? (i := 10) rfl)))), List.forall_mem_cons.mpr ⟨List.mem_cons_of_mem _ (List.mem_append_left _ (List.mem_append_left _ (List.mem_append_left _ (List.mem_of_getElem? (i := 11) rfl)))), List.forall_mem_cons.mpr ⟨List.mem_cons_of_mem _ (List.mem_append_left _ (List.mem_append_left _ (List.mem_append_left _ (List.mem_of_getElem? (i := 12) rfl)))), List.forall_mem_cons.mpr ⟨List.mem_cons_of_mem _ (List.mem_append_left _ (List.mem_append_left _ (List.mem_append_left _ (List.mem_of_getElem? (i := 13) rfl)))), (fun _ h => absurd h List.not_mem_nil)⟩⟩⟩⟩, List.forall_mem_cons.mpr ⟨List.mem_cons_of_mem _ (List.mem_append_left _ (List.mem_append_left _ (List.mem_append_left _ (List.mem_of_getElem? (i := 14) rfl)))), List.forall_mem_append.mpr ⟨List.forall_mem_cons.mpr ⟨List.mem_cons_of_mem _ (List.mem_append_left _ (List.mem_append_left _ (List.mem_append_left _ (List.mem_of_getElem? (i := 15) rfl)))), List.forall_mem_cons.mpr ⟨List.mem_cons_of_mem _ (List.mem_append_left _ (List.mem_append_left _ (List.mem_append_right _ (List.mem_of_getElem? (i := 0) rfl)))), (fun _ h => absurd h List.not_mem_nil)⟩⟩, (fun _ h => List.mem_cons_of_mem _ (List.mem_append_left _ (List.mem_append_right _ h)))⟩⟩⟩) (by decide +kernel)
set_option maxHeartbeats 4000000 in
set_option maxRecDepth 100000 in
theorem x_X11_cast_e (l : Launch) (D : va_G) (sz : Nat) (sk : Value) (a : Nat → Nat) (t : Nat → ClassId) (i : Nat → Int32) (q : Int64) (c : Nat → Nat → Int32) (d : Nat → Nat → Int64) (s1 : Int32) (n1 : Int32) (hI : xInv i c) : Met l yX11_cast wm_X11_cast_e ({ frames := 1, cells := 0, slots := 0, locals := 22 }) (va_Pc [.ref (a 100), .int s1, .int n1] (yB (a 186) D sz (xwT sk a t i q c d) (xtT t))) (va_Qi (fun (r : Int32) (u : MS) => True ∧ xInv u.1 u.2.2.1 ∧ (∀ k, k ∉ ([102, 165] : List Nat) → u.1 k = i k) ∧ (∀ k, k ∉ ([101, 162, 163] : List Nat) → u.2.2.1 k = c k) ∧ ((¬ (1 ≤ s1.toInt ∧ s1.toInt ≤ 5 ∧ n1.toInt ≤ 12) ∧ r.toInt = -1 ∧ (u.1 165).toInt = (i 165).toInt) ∨ (1 ≤ s1.toInt ∧ s1.toInt ≤ 5 ∧ n1.toInt ≤ 12 ∧ 10 ≤ (i 165).toInt ∧ r.toInt = -2 ∧ (u.1 165).toInt = (i 165).toInt) ∨ (1 ≤ s1.toInt ∧ s1.toInt ≤ 5 ∧ n1.toInt ≤ 12 ∧ (i 165).toInt ≤ 9 ∧ n1.toInt < 0 ∧ r.toInt = -3 ∧ (u.1 165).toInt = (i 165).toInt) ∨ (1 ≤ s1.toInt ∧ s1.toInt ≤ 5 ∧ n1.toInt ≤ 12 ∧ (i 165).toInt ≤ 9 ∧ 0 ≤ n1.toInt ∧ r.toInt = (i 165).toInt ∧ (u.1 165).toInt = (i 165).toInt + 1))) (oC D (va_A (xwT sk a t i q c d) sz) (fun u : MS => xwT sk a t u.1 u.2.1 u.2.2.1 u.2.2.2) (fun _ => [])) (va_A (xwT sk a t i q c d) sz)) 0 0 (va_A (xwT sk a t i q c d) sz) := by
  refine Met.ofW (cc := cX11_cast) (maxL := 3) (ret := (some .int)) (by decide +kernel) rfl ?_
  intro p e s m args below meth cd s₁ B hml hv
  obtain ⟨rfl, ⟨hsz, hP, hK, hD0⟩, hN, hZ, hBW⟩ := hv
  have hx := B.exec
  have hb := B.bytes
  have hr := B.returns
  have hts := atoms_spec (ws := wm_X11_cast_e) B.pre
  have hown : s.vm.findClass RX11 = some m.cls := findClass_of_methodNamed B.named
  have hlocks := B.notSynchronized
  subst hsz
  have hD := hD0.self (sz := s.heap.size)
  have hZ := xZ_A hZ hP hBW
  generalize hAe : va_A (xwT sk a t i q c d) s.heap.size = A at hD hZ ⊢
  have hA : ∀ q : Nat, s.heap.size ≤ q → A q := fun q h => by rw [← hAe]; exact Or.inr h
  have hS : va_S A s.heap s.heap [] := va_S.rf
  have hfi : ∀ k, k ∉ ([] : List Nat) → i k = i k := fun _ _ => rfl
  have hfc : ∀ k, k ∉ ([] : List Nat) → c k = c k := fun _ _ => rfl
  have hl := lv_entry ([.ref (a 100), .int s1, .int n1]) (n := 3) (Nat.le_of_ble_eq_true rfl)
  rw [lg_entry_eq]
  generalize (lg_sl ([.ref (a 100), .int s1, .int n1]) ++ List.replicate (3 - (lg_sl ([.ref (a 100), .int s1, .int n1])).length) Slot.unset).toArray = ls at hl ⊢
  have hl : lv_has ls 3 [(0, .ref (a 100)), (1, .int s1), (2, .int n1)] := hl
  have rb165_i : 0 ≤ (i 165).toInt ∧ (i 165).toInt ≤ 10 := hI.1 165
  refine lv_iload_n hx hb dX11_cast_0 rfl (lv_at hl 1 rfl) ?_
  refine lv_iconst (v := 1) hx hb dX11_cast_1 (by decide +kernel) ?_
  refine lv_icmp_lt (tgt := 16) hx hb dX11_cast_2 (by decide +kernel) (fun c1 => ?_) (fun c1 => ?_)
  · have f1 := (ti_lt (a := s1.toInt) (b := 1) rfl (by decide +kernel)).mp c1
    refine lv_iconst (v := (-1)) hx hb dX11_cast_16 (by decide +kernel) ?_
    exact rw_iret (i, q, c, d) hx hb hr hlocks hS (hK.sub (tys' := []) [] rfl) hP hD dX11_cast_17 ⟨trivial, hI, fr_w hfi (by decide +kernel), fr_w hfc (by decide +kernel), (show (¬ (1 ≤ s1.toInt ∧ s1.toInt ≤ 5 ∧ n1.toInt ≤ 12) ∧ ((-1) : Int32).toInt = -1 ∧ ((i 165) : Int32).toInt = (i 165).toInt) ∨ (1 ≤ s1.toInt ∧ s1.toInt ≤ 5 ∧ n1.toInt ≤ 12 ∧ 10 ≤ (i 165).toInt ∧ ((-1) : Int32).toInt = -2 ∧ ((i 165) : Int32).toInt = (i 165).toInt) ∨ (1 ≤ s1.toInt ∧ s1.toInt ≤ 5 ∧ n1.toInt ≤ 12 ∧ (i 165).toInt ≤ 9 ∧ n1.toInt < 0 ∧ ((-1) : Int32).toInt = -3 ∧ ((i 165) : Int32).toInt = (i 165).toInt) ∨ (1 ≤ s1.toInt ∧ s1.toInt ≤ 5 ∧ n1.toInt ≤ 12 ∧ (i 165).toInt ≤ 9 ∧ 0 ≤ n1.toInt ∧ ((-1) : Int32).toInt = (i 165).toInt ∧ ((i 165) : Int32).toInt = (i 165).toInt + 1) from by have h54 : ((-1) : Int32).toInt = -1 := (by decide +kernel); omega)⟩
  · have f1 := mt (ti_lt (a := s1.toInt) (b := 1) rfl (by decide +kernel)).mpr c1
    refine lv_iload_n hx hb dX11_cast_5 rfl (lv_at hl 1 rfl) ?_
    refine lv_iconst (v := 5) hx hb dX11_cast_6 (by decide +kernel) ?_
    refine lv_icmp_gt (tgt := 16) hx hb dX11_cast_7 (by decide +kernel) (fun c2 => ?_) (fun c2 => ?_)
    · have f2 := (ti_lt (a := 5) (b := s1.toInt) (by decide +kernel) rfl).mp c2
      refine lv_iconst (v := (-1)) hx hb dX11_cast_16 (by decide +kernel) ?_
      exact rw_iret (i, q, c, d) hx hb hr hlocks hS (hK.sub (tys' := []) [] rfl) hP hD dX11_cast_17 ⟨trivial, hI, fr_w hfi (by decide +kernel), fr_w hfc (by decide +kernel), (show (¬ (1 ≤ s1.toInt ∧ s1.toInt ≤ 5 ∧ n1.toInt ≤ 12) ∧ ((-1) : Int32).toInt = -1 ∧ ((i 165) : Int32).toInt = (i 165).toInt) ∨ (1 ≤ s1.toInt ∧ s1.toInt ≤ 5 ∧ n1.toInt ≤ 12 ∧ 10 ≤ (i 165).toInt ∧ ((-1) : Int32).toInt = -2 ∧ ((i 165) : Int32).toInt = (i 165).toInt) ∨ (1 ≤ s1.toInt ∧ s1.toInt ≤ 5 ∧ n1.toInt ≤ 12 ∧ (i 165).toInt ≤ 9 ∧ n1.toInt < 0 ∧ ((-1) : Int32).toInt = -3 ∧ ((i 165) : Int32).toInt = (i 165).toInt) ∨ (1 ≤ s1.toInt ∧ s1.toInt ≤ 5 ∧ n1.toInt ≤ 12 ∧ (i 165).toInt ≤ 9 ∧ 0 ≤ n1.toInt ∧ ((-1) : Int32).toInt = (i 165).toInt ∧ ((i 165) : Int32).toInt = (i 165).toInt + 1) from by have h54 : ((-1) : Int32).toInt = -1 := (by decide +kernel); omega)⟩
    · have f2 := mt (ti_lt (a := 5) (b := s1.toInt) (by decide +kernel) rfl).mpr c2
      refine lv_iload_n hx hb dX11_cast_10 rfl (lv_at hl 2 rfl) ?_
      refine lv_bipush (v := 12) hx hb dX11_cast_11 (by decide +kernel) ?_
      refine lv_icmp_le (tgt := 18) hx hb dX11_cast_13 (by decide +kernel) (fun c3 => ?_) (fun c3 => ?_)
      · have f3 := (ti_le (a := n1.toInt) (b := 12) rfl (by decide +kernel)).mp c3
        refine lv_aload_n hx hb dX11_cast_18 rfl (lv_at hl 0 rfl) ?_
        refine xgT_X_casts hx hb hts (fun _ h => List.mem_cons_of_mem _ (List.mem_append_left _ (List.mem_append_right _ h))) hown hK hP (hts (.fieldLink RX11 60 "TalePlay" "casts" "LTalePlay$Casts;") (List.mem_cons_of_mem _ (List.mem_append_left _ (List.mem_append_left _ (List.mem_append_left _ (List.mem_of_getElem? (i := 0) rfl)))))) dX11_cast_19 ?_
        refine xgT_C_made (v := (i 165)) rfl hx hb hts (fun _ h => List.mem_cons_of_mem _ (List.mem_append_right _ h)) hown hK hP (hts (.fieldLink RX11 334 "TalePlay$Casts" "made" "I") (List.mem_cons_of_mem _ (List.mem_append_left _ (List.mem_append_left _ (List.mem_append_left _ (List.mem_of_getElem? (i := 1) rfl)))))) dX11_cast_22 ?_
        refine lv_bipush (v := 10) hx hb dX11_cast_25 (by decide +kernel) ?_
        refine lv_icmp_lt (tgt := 33) hx hb dX11_cast_27 (by decide +kernel) (fun c4 => ?_) (fun c4 => ?_)
        · have f4 := (ti_lt (a := (i 165).toInt) (b := 10) rfl (by decide +kernel)).mp c4
          refine lv_iload_n hx hb dX11_cast_33 rfl (lv_at hl 2 rfl) ?_
          refine lv_if_ge (tgt := 43) hx hb dX11_cast_34 (by decide +kernel) (fun c5 => ?_) (fun c5 => ?_)
          · have f5 := (ti_le (a := 0) (b := n1.toInt) (by decide +kernel) rfl).mp c5
            refine lv_aload_n hx hb dX11_cast_43 rfl (lv_at hl 0 rfl) ?_
            refine xgT_X_casts hx hb hts (fun _ h => List.mem_cons_of_mem _ (List.mem_append_left _ (List.mem_append_right _ h))) hown hK hP (hts (.fieldLink RX11 60 "TalePlay" "casts" "LTalePlay$Casts;") (List.mem_cons_of_mem _ (List.mem_append_left _ (List.mem_append_left _ (List.mem_append_left _ (List.mem_of_getElem? (i := 0) rfl)))))) dX11_cast_44 ?_
            refine lv_iload_n hx hb dX11_cast_47 rfl (lv_at hl 1 rfl) ?_
            refine lv_iload_n hx hb dX11_cast_48 rfl (lv_at hl 2 rfl) ?_
            refine al_calli (va_runV (As := [.int s1, .int n1]) (rest := []) ⟨hx, hb, hml, hown, hts⟩ (x_X3_open_e l D s.heap.size sk a t i q c d s1 n1 hI (show 1 ≤ s1.toInt ∧ s1.toInt ≤ 5 from by omega) (show 0 ≤ n1.toInt ∧ n1.toInt ≤ 12 from by omega) (show ((i 165) : Int32).toInt ≤ 9 from by omega)) (cwV 2 hts gm_X11_cast_e_X3_open_e_337 rfl rfl rfl (by decide +kernel) ⟨Nat.le_of_ble_eq_true rfl, Nat.le_of_ble_eq_true rfl⟩) (yB_V hN (xZ_k hZ hS hA) (xZ_n hZ hD) hK hP hD (ci := 3) (q0 := 47) rfl rfl) rfl rfl hl.1 rfl (lv_room (Nat.le_of_ble_eq_true rfl)) dX11_cast_49 ⟨Nat.le_of_ble_eq_true rfl, Nat.le_of_ble_eq_true rfl⟩) hS hA hP hD (fun r6 u6 H locs hw6 hP hD hS => ?_)
            obtain ⟨i6, q6, c6, d6⟩ := u6
            have hw6 : (r6.toInt = (i 165).toInt) ∧ xInv i6 c6 ∧ (∀ k, k ∉ ([165] : List Nat) → i6 k = i k) ∧ (∀ k, k ∉ ([162, 163] : List Nat) → c6 k = c k) ∧ ((i6 165).toInt = (i 165).toInt + 1) := hw6
            obtain ⟨hw6, hI, hei6, hec6, hxp6_0⟩ := hw6
            have hxp6_0 : (i6 165).toInt = (i 165).toInt + 1 := hxp6_0
            have hfi : ∀ k, k ∉ ([165] : List Nat) → i6 k = i k := fr_z hfi hei6 (by decide +kernel) (by decide +kernel)
            have hfc : ∀ k, k ∉ ([162, 163] : List Nat) → c6 k = c k := fr_z hfc hec6 (by decide +kernel) (by decide +kernel)
            exact rw_iret (i6, q6, c6, d6) hx hb hr hlocks hS (hK.sub (tys' := []) [] rfl) hP hD dX11_cast_52 ⟨trivial, hI, fr_w hfi (by decide +kernel), fr_w hfc (by decide +kernel), (show (¬ (1 ≤ s1.toInt ∧ s1.toInt ≤ 5 ∧ n1.toInt ≤ 12) ∧ (r6 : Int32).toInt = -1 ∧ ((i6 165) : Int32).toInt = (i 165).toInt) ∨ (1 ≤ s1.toInt ∧ s1.toInt ≤ 5 ∧ n1.toInt ≤ 12 ∧ 10 ≤ (i 165).toInt ∧ (r6 : Int32).toInt = -2 ∧ ((i6 165) : Int32).toInt = (i 165).toInt) ∨ (1 ≤ s1.toInt ∧ s1.toInt ≤ 5 ∧ n1.toInt ≤ 12 ∧ (i 165).toInt ≤ 9 ∧ n1.toInt < 0 ∧ (r6 : Int32).toInt = -3 ∧ ((i6 165) : Int32).toInt = (i 165).toInt) ∨ (1 ≤ s1.toInt ∧ s1.toInt ≤ 5 ∧ n1.toInt ≤ 12 ∧ (i 165).toInt ≤ 9 ∧ 0 ≤ n1.toInt ∧ (r6 : Int32).toInt = (i 165).toInt ∧ ((i6 165) : Int32).toInt = (i 165).toInt + 1) from by omega)⟩
          · have f5 := mt (ti_le (a := 0) (b := n1.toInt) (by decide +kernel) rfl).mpr c5
            refine lv_aload_n hx hb dX11_cast_37 rfl (lv_at hl 0 rfl) ?_
            refine lv_iconst (v := 5) hx hb dX11_cast_38 (by decide +kernel) ?_
            refine al_calli (va_runV (As := [.int 5]) (rest := []) ⟨hx, hb, hml, hown, hts⟩ (x_X11_answerFinding l D s.heap.size sk a t i q c d 5 hI (show 1 ≤ 5 ∧ 5 ≤ 6 from by decide +kernel)) (cwV 1 hts gm_X11_cast_e_X11_answerFinding_128 rfl rfl rfl (by decide +kernel) ⟨Nat.le_of_ble_eq_true rfl, Nat.le_of_ble_eq_true rfl⟩) (yB_V hN (xZ_k hZ hS hA) (xZ_n hZ hD) hK hP hD (ci := 11) (q0 := 0) rfl rfl) rfl rfl hl.1 rfl (lv_room (Nat.le_of_ble_eq_true rfl)) dX11_cast_39 ⟨Nat.le_of_ble_eq_true rfl, Nat.le_of_ble_eq_true rfl⟩) hS hA hP hD (fun r7 u7 H locs hw7 hP hD hS => ?_)
            obtain ⟨i7, q7, c7, d7⟩ := u7
            have hw7 : r7 = (-3) ∧ xInv i7 c7 ∧ (∀ k, k ∉ ([102] : List Nat) → i7 k = i k) ∧ (∀ k, k ∉ ([101] : List Nat) → c7 k = c k) := hw7
            obtain ⟨hw7, hI, hei7, hec7⟩ := hw7
            have hfi : ∀ k, k ∉ ([102] : List Nat) → i7 k = i k := fr_z hfi hei7 (by decide +kernel) (by decide +kernel)
            have hfc : ∀ k, k ∉ ([101] : List Nat) → c7 k = c k := fr_z hfc hec7 (by decide +kernel) (by decide +kernel)
            have hw7 : r7 = (-3) := hw7
            subst hw7
            have hmd9 : (i7 165).toInt = (i 165).toInt := by rw [show i7 165 = i 165 from hfi 165 (by decide +kernel)]
            exact rw_iret (i7, q7, c7, d7) hx hb hr hlocks hS (hK.sub (tys' := []) [] rfl) hP hD dX11_cast_42 ⟨trivial, hI, fr_w hfi (by decide +kernel), fr_w hfc (by decide +kernel), (show (¬ (1 ≤ s1.toInt ∧ s1.toInt ≤ 5 ∧ n1.toInt ≤ 12) ∧ ((-3) : Int32).toInt = -1 ∧ ((i7 165) : Int32).toInt = (i 165).toInt) ∨ (1 ≤ s1.toInt ∧ s1.toInt ≤ 5 ∧ n1.toInt ≤ 12 ∧ 10 ≤ (i 165).toInt ∧ ((-3) : Int32).toInt = -2 ∧ ((i7 165) : Int32).toInt = (i 165).toInt) ∨ (1 ≤ s1.toInt ∧ s1.toInt ≤ 5 ∧ n1.toInt ≤ 12 ∧ (i 165).toInt ≤ 9 ∧ n1.toInt < 0 ∧ ((-3) : Int32).toInt = -3 ∧ ((i7 165) : Int32).toInt = (i 165).toInt) ∨ (1 ≤ s1.toInt ∧ s1.toInt ≤ 5 ∧ n1.toInt ≤ 12 ∧ (i 165).toInt ≤ 9 ∧ 0 ≤ n1.toInt ∧ ((-3) : Int32).toInt = (i 165).toInt ∧ ((i7 165) : Int32).toInt = (i 165).toInt + 1) from by have h54 : ((-3) : Int32).toInt = -3 := (by decide +kernel); omega)⟩
        · have f4 := mt (ti_lt (a := (i 165).toInt) (b := 10) rfl (by decide +kernel)).mpr c4
          refine lv_bipush (v := (-2)) hx hb dX11_cast_30 (by decide +kernel) ?_
          exact rw_iret (i, q, c, d) hx hb hr hlocks hS (hK.sub (tys' := []) [] rfl) hP hD dX11_cast_32 ⟨trivial, hI, fr_w hfi (by decide +kernel), fr_w hfc (by decide +kernel), (show (¬ (1 ≤ s1.toInt ∧ s1.toInt ≤ 5 ∧ n1.toInt ≤ 12) ∧ ((-2) : Int32).toInt = -1 ∧ ((i 165) : Int32).toInt = (i 165).toInt) ∨ (1 ≤ s1.toInt ∧ s1.toInt ≤ 5 ∧ n1.toInt ≤ 12 ∧ 10 ≤ (i 165).toInt ∧ ((-2) : Int32).toInt = -2 ∧ ((i 165) : Int32).toInt = (i 165).toInt) ∨ (1 ≤ s1.toInt ∧ s1.toInt ≤ 5 ∧ n1.toInt ≤ 12 ∧ (i 165).toInt ≤ 9 ∧ n1.toInt < 0 ∧ ((-2) : Int32).toInt = -3 ∧ ((i 165) : Int32).toInt = (i 165).toInt) ∨ (1 ≤ s1.toInt ∧ s1.toInt ≤ 5 ∧ n1.toInt ≤ 12 ∧ (i 165).toInt ≤ 9 ∧ 0 ≤ n1.toInt ∧ ((-2) : Int32).toInt = (i 165).toInt ∧ ((i 165) : Int32).toInt = (i 165).toInt + 1) from by have h54 : ((-2) : Int32).toInt = -2 := (by decide +kernel); omega)⟩
      · have f3 := mt (ti_le (a := n1.toInt) (b := 12) rfl (by decide +kernel)).mpr c3
        refine lv_iconst (v := (-1)) hx hb dX11_cast_16 (by decide +kernel) ?_
        exact rw_iret (i, q, c, d) hx hb hr hlocks hS (hK.sub (tys' := []) [] rfl) hP hD dX11_cast_17 ⟨trivial, hI, fr_w hfi (by decide +kernel), fr_w hfc (by decide +kernel), (show (¬ (1 ≤ s1.toInt ∧ s1.toInt ≤ 5 ∧ n1.toInt ≤ 12) ∧ ((-1) : Int32).toInt = -1 ∧ ((i 165) : Int32).toInt = (i 165).toInt) ∨ (1 ≤ s1.toInt ∧ s1.toInt ≤ 5 ∧ n1.toInt ≤ 12 ∧ 10 ≤ (i 165).toInt ∧ ((-1) : Int32).toInt = -2 ∧ ((i 165) : Int32).toInt = (i 165).toInt) ∨ (1 ≤ s1.toInt ∧ s1.toInt ≤ 5 ∧ n1.toInt ≤ 12 ∧ (i 165).toInt ≤ 9 ∧ n1.toInt < 0 ∧ ((-1) : Int32).toInt = -3 ∧ ((i 165) : Int32).toInt = (i 165).toInt) ∨ (1 ≤ s1.toInt ∧ s1.toInt ≤ 5 ∧ n1.toInt ≤ 12 ∧ (i 165).toInt ≤ 9 ∧ 0 ≤ n1.toInt ∧ ((-1) : Int32).toInt = (i 165).toInt ∧ ((i 165) : Int32).toInt = (i 165).toInt + 1) from by have h54 : ((-1) : Int32).toInt = -1 := (by decide +kernel); omega)⟩

set_option maxHeartbeats 4000000 in
set_option maxRecDepth 100000 in
theorem s_X12_cast_e (l : Launch) (D : va_G) (sz : Nat) (o : Nat) (a : Nat → Nat) (t : Nat → ClassId) (i : Nat → Int32) (q : Int64) (c : Nat → Nat → Int32) (d : Nat → Nat → Int64) (s1 : Int32) (n1 : Int32) (hI : mInv i c) : Met l yX12_cast wm_X12_cast ({ frames := 1, cells := 0, slots := 0, locals := 25 }) (va_Pc [.ref o, .int s1, .int n1] (pB D sz (mW o a t i q c d) (mT t))) (va_Qi (fun (r : Int32) (u : MS) => True ∧ mInv u.1 u.2.2.1 ∧ (∀ k, k ∉ ([0, 64] : List Nat) → u.1 k = i k) ∧ (∀ k, k ∉ ([1, 65, 66, 67] : List Nat) → u.2.2.1 k = c k) ∧ ((¬ (1 ≤ s1.toInt ∧ s1.toInt ≤ 5 ∧ n1.toInt ≤ 12) ∧ r.toInt = -1 ∧ (u.1 64).toInt = (i 64).toInt) ∨ (1 ≤ s1.toInt ∧ s1.toInt ≤ 5 ∧ n1.toInt ≤ 12 ∧ 10 ≤ (i 64).toInt ∧ r.toInt = -2 ∧ (u.1 64).toInt = (i 64).toInt) ∨ (1 ≤ s1.toInt ∧ s1.toInt ≤ 5 ∧ n1.toInt ≤ 12 ∧ (i 64).toInt ≤ 9 ∧ n1.toInt < 0 ∧ r.toInt = -3 ∧ (u.1 64).toInt = (i 64).toInt) ∨ (1 ≤ s1.toInt ∧ s1.toInt ≤ 5 ∧ n1.toInt ≤ 12 ∧ (i 64).toInt ≤ 9 ∧ 0 ≤ n1.toInt ∧ r.toInt = (i 64).toInt ∧ (u.1 64).toInt = (i 64).toInt + 1))) (oC D (va_A (mW o a t i q c d) sz) (fun u : MS => mW o a t u.1 u.2.1 u.2.2.1 u.2.2.2) (fun _ => [])) (va_A (mW o a t i q c d) sz)) 0 0 (va_A (mW o a t i q c d) sz) := by
  refine Met.ofW (cc := cX12_cast) (maxL := 4) (ret := (some .int)) (by decide +kernel) rfl ?_
  intro p e s m args below meth cd s₁ B hml hv
  obtain ⟨rfl, hsz, hP, hK, hD0⟩ := hv
  have hx := B.exec
  have hb := B.bytes
  have hr := B.returns
  have hts := atoms_spec (ws := wm_X12_cast) B.pre
  have hown : s.vm.findClass RX12 = some m.cls := findClass_of_methodNamed B.named
  have hlocks := B.notSynchronized
  subst hsz
  have hD := hD0.self (sz := s.heap.size)
  generalize hAe : va_A (mW o a t i q c d) s.heap.size = A at hD ⊢
  have hA : ∀ q : Nat, s.heap.size ≤ q → A q := fun q h => by rw [← hAe]; exact Or.inr h
  have hS : va_S A s.heap s.heap [] := va_S.rf
  have hfi : ∀ k, k ∉ ([] : List Nat) → i k = i k := fun _ _ => rfl
  have hfc : ∀ k, k ∉ ([] : List Nat) → c k = c k := fun _ _ => rfl
  have hl := lv_entry ([.ref o, .int s1, .int n1]) (n := 4) (Nat.le_of_ble_eq_true rfl)
  rw [lg_entry_eq]
  generalize (lg_sl ([.ref o, .int s1, .int n1]) ++ List.replicate (4 - (lg_sl ([.ref o, .int s1, .int n1])).length) Slot.unset).toArray = ls at hl ⊢
  have hl : lv_has ls 4 [(0, .ref o), (1, .int s1), (2, .int n1)] := hl
  have rb64_i : 0 ≤ (i 64).toInt ∧ (i 64).toInt ≤ 10 := hI.1 64
  refine lv_iload_n hx hb dX12_cast_0 rfl (lv_at hl 1 rfl) ?_
  refine lv_i2l (v := s1.toInt64) hx hb dX12_cast_1 rfl ?_
  refine lv_lconst (v := 1) hx hb dX12_cast_2 (by decide +kernel) ?_
  refine lv_ldc2 (v := 5) hx hb hown (hts (.constantLong RX12 170 (5)) (List.mem_cons_of_mem _ (List.mem_append_left _ (List.mem_of_getElem? (i := 0) rfl)))) dX12_cast_3 ?_
  have hPc := hP.sub (ws' := []) [] rfl
  have hKc := hK.sub (tys' := []) [] rfl
  refine ro_calli (va_runS (As := [.long s1.toInt64, .long 1, .long 5]) (rest := []) ⟨hx, hb, hml, hown, hts⟩ (c_X12_in l D s.heap.size s1.toInt64 1 5 s1.toInt 1 5 ((Int32.toInt_toInt64 s1).trans rfl) (by decide +kernel) (by decide +kernel)) (va_cwS 3 hts gm_X12_cast_X12_in rfl rfl rfl (by decide +kernel) ⟨Nat.le_of_ble_eq_true rfl, Nat.le_of_ble_eq_true rfl⟩) (pA_S hKc hPc) rfl rfl hl.1 rfl (lv_room (Nat.le_of_ble_eq_true rfl)) dX12_cast_6 ⟨Nat.le_of_ble_eq_true rfl, Nat.le_of_ble_eq_true rfl⟩) hS hA hP (fun r1 u1 H locs hw1 hP hS => ?_)
  have hw1 : r1 = if (1 ≤ s1.toInt ∧ s1.toInt ≤ 5) then 1 else 0 := hw1
  refine lv_if_eq (tgt := 18) hx hb dX12_cast_9 (by decide +kernel) (fun c2 => ?_) (fun c2 => ?_)
  · have f2 := fl_f hw1 c2
    refine lv_iconst (v := (-1)) hx hb dX12_cast_18 (by decide +kernel) ?_
    exact rw_iret (i, q, c, d) hx hb hr hlocks hS (hK.sub (tys' := []) [] rfl) hP hD dX12_cast_19 ⟨trivial, hI, fr_w hfi (by decide +kernel), fr_w hfc (by decide +kernel), (show (¬ (1 ≤ s1.toInt ∧ s1.toInt ≤ 5 ∧ n1.toInt ≤ 12) ∧ ((-1) : Int32).toInt = -1 ∧ ((i 64) : Int32).toInt = (i 64).toInt) ∨ (1 ≤ s1.toInt ∧ s1.toInt ≤ 5 ∧ n1.toInt ≤ 12 ∧ 10 ≤ (i 64).toInt ∧ ((-1) : Int32).toInt = -2 ∧ ((i 64) : Int32).toInt = (i 64).toInt) ∨ (1 ≤ s1.toInt ∧ s1.toInt ≤ 5 ∧ n1.toInt ≤ 12 ∧ (i 64).toInt ≤ 9 ∧ n1.toInt < 0 ∧ ((-1) : Int32).toInt = -3 ∧ ((i 64) : Int32).toInt = (i 64).toInt) ∨ (1 ≤ s1.toInt ∧ s1.toInt ≤ 5 ∧ n1.toInt ≤ 12 ∧ (i 64).toInt ≤ 9 ∧ 0 ≤ n1.toInt ∧ ((-1) : Int32).toInt = (i 64).toInt ∧ ((i 64) : Int32).toInt = (i 64).toInt + 1) from by have h54 : ((-1) : Int32).toInt = -1 := (by decide +kernel); omega)⟩
  · have f2 := fl_t hw1 c2
    refine lv_iload_n hx hb dX12_cast_12 rfl (lv_at hl 2 rfl) ?_
    refine lv_bipush (v := 12) hx hb dX12_cast_13 (by decide +kernel) ?_
    refine lv_icmp_le (tgt := 20) hx hb dX12_cast_15 (by decide +kernel) (fun c3 => ?_) (fun c3 => ?_)
    · have f3 := (ti_le (a := n1.toInt) (b := 12) rfl (by decide +kernel)).mp c3
      refine lv_aload_n hx hb dX12_cast_20 rfl (lv_at hl 0 rfl) ?_
      refine mget_64 (v := (i 64)) rfl hx hb hts (fun _ h => List.mem_cons_of_mem _ (List.mem_append_right _ h)) hown hK hP (hts (.fieldLink RX12 450 "TalePlayModel" "casts" "I") (List.mem_cons_of_mem _ (List.mem_append_left _ (List.mem_of_getElem? (i := 5) rfl)))) dX12_cast_21 ?_
      refine lv_bipush (v := 10) hx hb dX12_cast_24 (by decide +kernel) ?_
      refine lv_icmp_ne (tgt := 32) hx hb dX12_cast_26 (by decide +kernel) (fun c4 => ?_) (fun c4 => ?_)
      · have f4 := mt (ti_eq (a := (i 64).toInt) (b := 10) rfl (by decide +kernel)).mpr c4
        refine lv_iload_n hx hb dX12_cast_32 rfl (lv_at hl 2 rfl) ?_
        refine lv_if_ge (tgt := 42) hx hb dX12_cast_33 (by decide +kernel) (fun c5 => ?_) (fun c5 => ?_)
        · have f5 := (ti_le (a := 0) (b := n1.toInt) (by decide +kernel) rfl).mp c5
          refine lv_aload_n hx hb dX12_cast_42 rfl (lv_at hl 0 rfl) ?_
          refine mget_65 hx hb hts (fun _ h => List.mem_cons_of_mem _ (List.mem_append_right _ h)) hown hK hP (hts (.fieldLink RX12 139 "TalePlayModel" "castSort" "[I") (List.mem_cons_of_mem _ (List.mem_append_left _ (List.mem_of_getElem? (i := 6) rfl)))) dX12_cast_43 ?_
          refine lv_aload_n hx hb dX12_cast_46 rfl (lv_at hl 0 rfl) ?_
          refine mget_64 (v := (i 64)) rfl hx hb hts (fun _ h => List.mem_cons_of_mem _ (List.mem_append_right _ h)) hown hK hP (hts (.fieldLink RX12 450 "TalePlayModel" "casts" "I") (List.mem_cons_of_mem _ (List.mem_append_left _ (List.mem_of_getElem? (i := 5) rfl)))) dX12_cast_47 ?_
          refine lv_iload_n hx hb dX12_cast_50 rfl (lv_at hl 1 rfl) ?_
          refine mst_65 hx hb hK hP hD hS (vp_in_iff.mpr (by have h9 : (i 64).toInt = (i 64).toInt := rfl; omega)) dX12_cast_51 (fun H locs hP hD hS => ?_)
          have hI := mInv_c hI (k := 65) (j := ((i 64) : Int32).toNatClampNeg) (x := s1) (show 0 ≤ (s1 : Int32).toInt ∧ (s1 : Int32).toInt ≤ 5 from by omega)
          have hfc : ∀ k, k ∉ ([65] : List Nat) → (updA c 65 ((i 64) : Int32).toNatClampNeg s1) k = c k := fr_cz hfc (by decide +kernel) (by decide +kernel)
          refine lv_aload_n hx hb dX12_cast_52 rfl (lv_at hl 0 rfl) ?_
          refine mget_66 hx hb hts (fun _ h => List.mem_cons_of_mem _ (List.mem_append_right _ h)) hown hK hP (hts (.fieldLink RX12 142 "TalePlayModel" "castMany" "[I") (List.mem_cons_of_mem _ (List.mem_append_left _ (List.mem_of_getElem? (i := 7) rfl)))) dX12_cast_53 ?_
          refine lv_aload_n hx hb dX12_cast_56 rfl (lv_at hl 0 rfl) ?_
          refine mget_64 (v := (i 64)) rfl hx hb hts (fun _ h => List.mem_cons_of_mem _ (List.mem_append_right _ h)) hown hK hP (hts (.fieldLink RX12 450 "TalePlayModel" "casts" "I") (List.mem_cons_of_mem _ (List.mem_append_left _ (List.mem_of_getElem? (i := 5) rfl)))) dX12_cast_57 ?_
          refine lv_iload_n hx hb dX12_cast_60 rfl (lv_at hl 2 rfl) ?_
          refine mst_66 hx hb hK hP hD hS (vp_in_iff.mpr (by have h9 : (i 64).toInt = (i 64).toInt := rfl; omega)) dX12_cast_61 (fun H locs hP hD hS => ?_)
          have hI := mInv_c hI (k := 66) (j := ((i 64) : Int32).toNatClampNeg) (x := n1) (show 0 ≤ (n1 : Int32).toInt ∧ (n1 : Int32).toInt ≤ 12 from by omega)
          have hfc : ∀ k, k ∉ ([65, 66] : List Nat) → (updA (updA c 65 ((i 64) : Int32).toNatClampNeg s1) 66 ((i 64) : Int32).toNatClampNeg n1) k = c k := fr_cz hfc (by decide +kernel) (by decide +kernel)
          refine lv_iconst (v := 0) hx hb dX12_cast_62 (by decide +kernel) ?_
          refine lv_istore_n (lv' := [(3, .int 0), (0, .ref o), (1, .int s1), (2, .int n1)]) hx hb dX12_cast_63 rfl hl (by decide +kernel) rfl (fun ls hl => ?_)
          have lp6 : ∀ (fu : Nat) (i6 : Nat → Int32) (q6 : Int64) (c6 : Nat → Nat → Int32) (d6 : Nat → Nat → Int64) (y6_3 : Int32), mInv i6 c6 → (∀ k, k ∉ ([] : List Nat) → i6 k = i k) → (∀ k, k ∉ ([65, 66, 67] : List Nat) → c6 k = c k) → (0 ≤ y6_3.toInt ∧ y6_3.toInt ≤ 12) → (((i6 64) : Int32).toInt = (i 64).toInt) → (12 - y6_3.toInt).toNat < fu → ∀ (H : Heap) (locs : List Loc) (ls : Array Slot), va_P D vwCl (mW o a t i6 q6 c6 d6) H → va_D A (mW o a t i6 q6 c6 d6) → va_S A s.heap H locs → lv_has ls 4 [(3, .int y6_3), (0, .ref o), (1, .int s1), (2, .int n1)] → W p l e (headSpec wm_X12_cast ({ frames := 1, cells := 0, slots := 0, locals := 25 })).room s m ([.ref o, .int s1, .int n1] : List Value).toArray below meth cd H locs 0 0 (MQ below (va_Qi (fun (r : Int32) (u : MS) => True ∧ mInv u.1 u.2.2.1 ∧ (∀ k, k ∉ ([0, 64] : List Nat) → u.1 k = i k) ∧ (∀ k, k ∉ ([1, 65, 66, 67] : List Nat) → u.2.2.1 k = c k) ∧ ((¬ (1 ≤ s1.toInt ∧ s1.toInt ≤ 5 ∧ n1.toInt ≤ 12) ∧ r.toInt = -1 ∧ (u.1 64).toInt = (i 64).toInt) ∨ (1 ≤ s1.toInt ∧ s1.toInt ≤ 5 ∧ n1.toInt ≤ 12 ∧ 10 ≤ (i 64).toInt ∧ r.toInt = -2 ∧ (u.1 64).toInt = (i 64).toInt) ∨ (1 ≤ s1.toInt ∧ s1.toInt ≤ 5 ∧ n1.toInt ≤ 12 ∧ (i 64).toInt ≤ 9 ∧ n1.toInt < 0 ∧ r.toInt = -3 ∧ (u.1 64).toInt = (i 64).toInt) ∨ (1 ≤ s1.toInt ∧ s1.toInt ≤ 5 ∧ n1.toInt ≤ 12 ∧ (i 64).toInt ≤ 9 ∧ 0 ≤ n1.toInt ∧ r.toInt = (i 64).toInt ∧ (u.1 64).toInt = (i 64).toInt + 1))) (oC D A (fun u : MS => mW o a t u.1 u.2.1 u.2.2.1 u.2.2.2) (fun _ => [])) A) ([.ref o, .int s1, .int n1] : List Value).toArray s 0 0 A) (F0 m 64 ls []) := by
            intro fu
            induction fu with
            | zero => intro i6 q6 c6 d6 y6_3 hI hfi hfc hy6_3 hz6_0 hm; exact absurd hm (Nat.not_lt_zero _)
            | succ fu ih =>
              intro i6 q6 c6 d6 y6_3 hI hfi hfc hy6_3 hz6_0 hm H locs ls hP hD hS hl
              have ih6 := ih
              refine lv_iload_n hx hb dX12_cast_64 rfl (lv_at hl 0 rfl) ?_
              refine lv_bipush (v := 12) hx hb dX12_cast_65 (by decide +kernel) ?_
              refine lv_icmp_ge (tgt := 92) hx hb dX12_cast_67 (by decide +kernel) (fun c7 => ?_) (fun c7 => ?_)
              · have f7 := (ti_le (a := 12) (b := y6_3.toInt) (by decide +kernel) rfl).mp c7
                refine lv_aload_n hx hb dX12_cast_92 rfl (lv_at hl 1 rfl) ?_
                refine lv_dup hx hb dX12_cast_93 rfl ?_
                refine mget_64 (v := (i6 64)) rfl hx hb hts (fun _ h => List.mem_cons_of_mem _ (List.mem_append_right _ h)) hown hK hP (hts (.fieldLink RX12 450 "TalePlayModel" "casts" "I") (List.mem_cons_of_mem _ (List.mem_append_left _ (List.mem_of_getElem? (i := 5) rfl)))) dX12_cast_94 ?_
                have rb64_i6 : 0 ≤ (i6 64).toInt ∧ (i6 64).toInt ≤ 10 := hI.1 64
                have re64_i6 : (i6 64).toInt = (i 64).toInt := congrArg Int32.toInt (hfi 64 (by decide +kernel))
                refine lv_iconst (v := 1) hx hb dX12_cast_97 (by decide +kernel) ?_
                refine lv_iadd hx hb dX12_cast_98 ?_
                refine lv_topi (fun x8 ex8 => ?_)
                have tx8 := ti_add (a := (i6 64).toInt) (b := 1) ex8 rfl (by decide +kernel) (by omega) (by omega)
                refine mput_64 hx hb hts (fun _ h => List.mem_cons_of_mem _ (List.mem_append_right _ h)) hown hK hP hD hS (hts (.fieldLink RX12 450 "TalePlayModel" "casts" "I") (List.mem_cons_of_mem _ (List.mem_append_left _ (List.mem_of_getElem? (i := 5) rfl)))) rfl rfl dX12_cast_99 (fun H locs hP hD hS => ?_)
                have hI := mInv_i hI (k := 64) (v := x8) (show 0 ≤ (x8 : Int32).toInt ∧ (x8 : Int32).toInt ≤ 10 from by have h9 : x8.toInt = ((i6 64).toInt + 1) := tx8; omega)
                have hfi : ∀ k, k ∉ ([64] : List Nat) → (upd i6 64 x8) k = i k := fr_iz hfi (by decide +kernel) (by decide +kernel)
                refine lv_aload_n hx hb dX12_cast_102 rfl (lv_at hl 1 rfl) ?_
                refine mget_64 (i := (upd i6 64 x8)) (v := x8) rfl hx hb hts (fun _ h => List.mem_cons_of_mem _ (List.mem_append_right _ h)) hown hK hP (hts (.fieldLink RX12 450 "TalePlayModel" "casts" "I") (List.mem_cons_of_mem _ (List.mem_append_left _ (List.mem_of_getElem? (i := 5) rfl)))) dX12_cast_103 ?_
                refine lv_iconst (v := 1) hx hb dX12_cast_106 (by decide +kernel) ?_
                refine lv_isub hx hb dX12_cast_107 ?_
                refine lv_topi (fun x9 ex9 => ?_)
                have tx9 := ti_sub (a := ((i6 64).toInt + 1)) (b := 1) ex9 tx8 (by decide +kernel) (by omega) (by omega)
                exact rw_iret ((upd i6 64 x8), q6, c6, d6) hx hb hr hlocks hS (hK.sub (tys' := []) [] rfl) hP hD dX12_cast_108 ⟨trivial, hI, fr_w hfi (by decide +kernel), fr_w hfc (by decide +kernel), (show (¬ (1 ≤ s1.toInt ∧ s1.toInt ≤ 5 ∧ n1.toInt ≤ 12) ∧ (x9 : Int32).toInt = -1 ∧ (x8 : Int32).toInt = (i 64).toInt) ∨ (1 ≤ s1.toInt ∧ s1.toInt ≤ 5 ∧ n1.toInt ≤ 12 ∧ 10 ≤ (i 64).toInt ∧ (x9 : Int32).toInt = -2 ∧ (x8 : Int32).toInt = (i 64).toInt) ∨ (1 ≤ s1.toInt ∧ s1.toInt ≤ 5 ∧ n1.toInt ≤ 12 ∧ (i 64).toInt ≤ 9 ∧ n1.toInt < 0 ∧ (x9 : Int32).toInt = -3 ∧ (x8 : Int32).toInt = (i 64).toInt) ∨ (1 ≤ s1.toInt ∧ s1.toInt ≤ 5 ∧ n1.toInt ≤ 12 ∧ (i 64).toInt ≤ 9 ∧ 0 ≤ n1.toInt ∧ (x9 : Int32).toInt = (i 64).toInt ∧ (x8 : Int32).toInt = (i 64).toInt + 1) from by have h50 : x8.toInt = ((i6 64).toInt + 1) := tx8; have h51 : x8.toInt = ((i6 64).toInt + 1) := tx8; have h52 : x8.toInt = ((i6 64).toInt + 1) := tx8; have h53 : x8.toInt = ((i6 64).toInt + 1) := tx8; have h54 : x9.toInt = (((i6 64).toInt + 1) - 1) := tx9; omega)⟩
              · have f7 := mt (ti_le (a := 12) (b := y6_3.toInt) (by decide +kernel) rfl).mpr c7
                refine lv_aload_n hx hb dX12_cast_70 rfl (lv_at hl 1 rfl) ?_
                refine mget_67 hx hb hts (fun _ h => List.mem_cons_of_mem _ (List.mem_append_right _ h)) hown hK hP (hts (.fieldLink RX12 145 "TalePlayModel" "roles" "[I") (List.mem_cons_of_mem _ (List.mem_append_left _ (List.mem_of_getElem? (i := 8) rfl)))) dX12_cast_71 ?_
                refine lv_bipush (v := 12) hx hb dX12_cast_74 (by decide +kernel) ?_
                refine lv_aload_n hx hb dX12_cast_76 rfl (lv_at hl 1 rfl) ?_
                refine mget_64 (v := (i6 64)) rfl hx hb hts (fun _ h => List.mem_cons_of_mem _ (List.mem_append_right _ h)) hown hK hP (hts (.fieldLink RX12 450 "TalePlayModel" "casts" "I") (List.mem_cons_of_mem _ (List.mem_append_left _ (List.mem_of_getElem? (i := 5) rfl)))) dX12_cast_77 ?_
                have rb64_i6 : 0 ≤ (i6 64).toInt ∧ (i6 64).toInt ≤ 10 := hI.1 64
                have re64_i6 : (i6 64).toInt = (i 64).toInt := congrArg Int32.toInt (hfi 64 (by decide +kernel))
                refine lv_imul hx hb dX12_cast_80 ?_
                refine lv_topi (fun x10 ex10 => ?_)
                have tx10 := ti_mul (a := 12) (b := (i6 64).toInt) ex10 (by decide +kernel) rfl (by omega) (by omega)
                refine lv_iload_n hx hb dX12_cast_81 rfl (lv_at hl 0 rfl) ?_
                refine lv_iadd hx hb dX12_cast_82 ?_
                refine lv_topi (fun x11 ex11 => ?_)
                have tx11 := ti_add (a := (12 * (i6 64).toInt)) (b := y6_3.toInt) ex11 tx10 rfl (by omega) (by omega)
                refine lv_bipush (v := (-9)) hx hb dX12_cast_83 (by decide +kernel) ?_
                refine mst_67 hx hb hK hP hD hS (vp_in_iff.mpr (by have h9 : x11.toInt = ((12 * (i6 64).toInt) + y6_3.toInt) := tx11; omega)) dX12_cast_85 (fun H locs hP hD hS => ?_)
                have hI := mInv_c hI (k := 67) (j := (x11 : Int32).toNatClampNeg) (x := (-9)) (show ((-9) : Int32).toInt = -9 ∨ (0 ≤ ((-9) : Int32).toInt ∧ ((-9) : Int32).toInt ≤ 29) from by decide +kernel)
                have hfc := fr_c hfc (k := 67) (j := (x11 : Int32).toNatClampNeg) (x := (-9)) (by decide +kernel)
                obtain ⟨x12, ex12⟩ : ∃ y : Int32, y = y6_3 + 1 := ⟨_, rfl⟩
                have tx12 := ti_add (a := y6_3.toInt) (b := 1) ex12 rfl (by decide +kernel) (by omega) (by omega)
                refine lv_iinc (v := x12) (lv' := [(3, .int x12), (0, .ref o), (1, .int s1), (2, .int n1)]) hx hb dX12_cast_86 hl (k := 0) rfl (by rw [ex12]; rfl) (by decide +kernel) rfl (fun ls hl => ?_)
                refine lv_goto (tgt := 64) hx hb dX12_cast_89 (by decide +kernel) ?_
                exact ih6 i6 q6 (updA c6 67 (x11 : Int32).toNatClampNeg (-9)) d6 x12 hI (fr_w hfi (by decide +kernel)) (fr_w hfc (by decide +kernel)) (show 0 ≤ x12.toInt ∧ x12.toInt ≤ 12 from by have h50 : x12.toInt = (y6_3.toInt + 1) := tx12; omega) (show ((i6 64) : Int32).toInt = (i 64).toInt from by have h50 : x12.toInt = (y6_3.toInt + 1) := tx12; omega) (by have h50 : x12.toInt = (y6_3.toInt + 1) := tx12; omega) _ _ _ hP hD hS (lv_sub hl [0, 1, 2, 3] rfl)
          exact lp6 _ i q (updA (updA c 65 ((i 64) : Int32).toNatClampNeg s1) 66 ((i 64) : Int32).toNatClampNeg n1) d (0 : Int32) hI (fr_w hfi (by decide +kernel)) (fr_w hfc (by decide +kernel)) (show 0 ≤ (0 : Int32).toInt ∧ (0 : Int32).toInt ≤ 12 from by decide +kernel) (show ((i 64) : Int32).toInt = (i 64).toInt from by have h50 : (0 : Int32).toInt = 0 := (by decide +kernel); omega) (Nat.lt_succ_self _) _ _ _ hP hD hS (lv_sub hl [0, 1, 2, 3] rfl)
        · have f5 := mt (ti_le (a := 0) (b := n1.toInt) (by decide +kernel) rfl).mpr c5
          refine lv_aload_n hx hb dX12_cast_36 rfl (lv_at hl 0 rfl) ?_
          refine lv_iconst (v := 5) hx hb dX12_cast_37 (by decide +kernel) ?_
          refine al_calli (va_runV (As := [.int 5]) (rest := []) ⟨hx, hb, hml, hown, hts⟩ (s_X12_meets l D H.size o a t i q c d 5 hI (show 1 ≤ 5 ∧ 5 ≤ 6 from by decide +kernel)) (cwV 1 hts gm_X12_cast_X12_meets rfl rfl rfl (by decide +kernel) ⟨Nat.le_of_ble_eq_true rfl, Nat.le_of_ble_eq_true rfl⟩) (pB_V hK hP hD (ci := 12) (q0 := 0) rfl rfl) rfl rfl hl.1 rfl (lv_room (Nat.le_of_ble_eq_true rfl)) dX12_cast_38 ⟨Nat.le_of_ble_eq_true rfl, Nat.le_of_ble_eq_true rfl⟩) hS hA hP hD (fun r13 u13 H locs hw13 hP hD hS => ?_)
          obtain ⟨i13, q13, c13, d13⟩ := u13
          have hw13 : r13 = (-3) ∧ mInv i13 c13 ∧ (∀ k, k ∉ ([0] : List Nat) → i13 k = i k) ∧ (∀ k, k ∉ ([1] : List Nat) → c13 k = c k) := hw13
          obtain ⟨hw13, hI, hei13, hec13⟩ := hw13
          have hfi : ∀ k, k ∉ ([0] : List Nat) → i13 k = i k := fr_z hfi hei13 (by decide +kernel) (by decide +kernel)
          have hfc : ∀ k, k ∉ ([1] : List Nat) → c13 k = c k := fr_z hfc hec13 (by decide +kernel) (by decide +kernel)
          have hP : va_P D vwCl (mW o a t i13 q13 c13 d13) H := hP
          have hD : va_D A (mW o a t i13 q13 c13 d13) := hD
          have hw13 : r13 = (-3) := hw13
          subst hw13
          have hmd9 : (i13 64).toInt = (i 64).toInt := by rw [show i13 64 = i 64 from hfi 64 (by decide +kernel)]
          exact rw_iret (i13, q13, c13, d13) hx hb hr hlocks hS (hK.sub (tys' := []) [] rfl) hP hD dX12_cast_41 ⟨trivial, hI, fr_w hfi (by decide +kernel), fr_w hfc (by decide +kernel), (show (¬ (1 ≤ s1.toInt ∧ s1.toInt ≤ 5 ∧ n1.toInt ≤ 12) ∧ ((-3) : Int32).toInt = -1 ∧ ((i13 64) : Int32).toInt = (i 64).toInt) ∨ (1 ≤ s1.toInt ∧ s1.toInt ≤ 5 ∧ n1.toInt ≤ 12 ∧ 10 ≤ (i 64).toInt ∧ ((-3) : Int32).toInt = -2 ∧ ((i13 64) : Int32).toInt = (i 64).toInt) ∨ (1 ≤ s1.toInt ∧ s1.toInt ≤ 5 ∧ n1.toInt ≤ 12 ∧ (i 64).toInt ≤ 9 ∧ n1.toInt < 0 ∧ ((-3) : Int32).toInt = -3 ∧ ((i13 64) : Int32).toInt = (i 64).toInt) ∨ (1 ≤ s1.toInt ∧ s1.toInt ≤ 5 ∧ n1.toInt ≤ 12 ∧ (i 64).toInt ≤ 9 ∧ 0 ≤ n1.toInt ∧ ((-3) : Int32).toInt = (i 64).toInt ∧ ((i13 64) : Int32).toInt = (i 64).toInt + 1) from by have h54 : ((-3) : Int32).toInt = -3 := (by decide +kernel); omega)⟩
      · have f4 := (ti_eq (a := (i 64).toInt) (b := 10) rfl (by decide +kernel)).mp c4
        refine lv_bipush (v := (-2)) hx hb dX12_cast_29 (by decide +kernel) ?_
        exact rw_iret (i, q, c, d) hx hb hr hlocks hS (hK.sub (tys' := []) [] rfl) hP hD dX12_cast_31 ⟨trivial, hI, fr_w hfi (by decide +kernel), fr_w hfc (by decide +kernel), (show (¬ (1 ≤ s1.toInt ∧ s1.toInt ≤ 5 ∧ n1.toInt ≤ 12) ∧ ((-2) : Int32).toInt = -1 ∧ ((i 64) : Int32).toInt = (i 64).toInt) ∨ (1 ≤ s1.toInt ∧ s1.toInt ≤ 5 ∧ n1.toInt ≤ 12 ∧ 10 ≤ (i 64).toInt ∧ ((-2) : Int32).toInt = -2 ∧ ((i 64) : Int32).toInt = (i 64).toInt) ∨ (1 ≤ s1.toInt ∧ s1.toInt ≤ 5 ∧ n1.toInt ≤ 12 ∧ (i 64).toInt ≤ 9 ∧ n1.toInt < 0 ∧ ((-2) : Int32).toInt = -3 ∧ ((i 64) : Int32).toInt = (i 64).toInt) ∨ (1 ≤ s1.toInt ∧ s1.toInt ≤ 5 ∧ n1.toInt ≤ 12 ∧ (i 64).toInt ≤ 9 ∧ 0 ≤ n1.toInt ∧ ((-2) : Int32).toInt = (i 64).toInt ∧ ((i 64) : Int32).toInt = (i 64).toInt + 1) from by have h54 : ((-2) : Int32).toInt = -2 := (by decide +kernel); omega)⟩
    · have f3 := mt (ti_le (a := n1.toInt) (b := 12) rfl (by decide +kernel)).mpr c3
      refine lv_iconst (v := (-1)) hx hb dX12_cast_18 (by decide +kernel) ?_
      exact rw_iret (i, q, c, d) hx hb hr hlocks hS (hK.sub (tys' := []) [] rfl) hP hD dX12_cast_19 ⟨trivial, hI, fr_w hfi (by decide +kernel), fr_w hfc (by decide +kernel), (show (¬ (1 ≤ s1.toInt ∧ s1.toInt ≤ 5 ∧ n1.toInt ≤ 12) ∧ ((-1) : Int32).toInt = -1 ∧ ((i 64) : Int32).toInt = (i 64).toInt) ∨ (1 ≤ s1.toInt ∧ s1.toInt ≤ 5 ∧ n1.toInt ≤ 12 ∧ 10 ≤ (i 64).toInt ∧ ((-1) : Int32).toInt = -2 ∧ ((i 64) : Int32).toInt = (i 64).toInt) ∨ (1 ≤ s1.toInt ∧ s1.toInt ≤ 5 ∧ n1.toInt ≤ 12 ∧ (i 64).toInt ≤ 9 ∧ n1.toInt < 0 ∧ ((-1) : Int32).toInt = -3 ∧ ((i 64) : Int32).toInt = (i 64).toInt) ∨ (1 ≤ s1.toInt ∧ s1.toInt ≤ 5 ∧ n1.toInt ≤ 12 ∧ (i 64).toInt ≤ 9 ∧ 0 ≤ n1.toInt ∧ ((-1) : Int32).toInt = (i 64).toInt ∧ ((i 64) : Int32).toInt = (i 64).toInt + 1) from by have h54 : ((-1) : Int32).toInt = -1 := (by decide +kernel); omega)⟩

def wm_X10_changeStandard_e : List Cond := .code yX10_changeStandard cX10_changeStandard 5 (some .int) :: (([.fieldLink RX10 18 "TalePlay$World" "standards" "[I"] : List Cond) ++ wsX100)
set_option maxHeartbeats 4000000 in
set_option maxRecDepth 100000 in
theorem x_X10_changeStandard_e (l : Launch) (D : va_G) (sz : Nat) (sk : Value) (a : Nat → Nat) (t : Nat → ClassId) (i : Nat → Int32) (q : Int64) (c : Nat → Nat → Int32) (d : Nat → Nat → Int64) (k1 : Int32) (f : Int32) (v1 : Int32) (hI : xInv i c) (hk1 : 0 ≤ k1.toInt ∧ k1.toInt ≤ 23) (hf : 0 ≤ f.toInt ∧ f.toInt ≤ 5) (hv : v1.toInt = -9 ∨ (0 ≤ v1.toInt ∧ v1.toInt ≤ 1)) : Met l yX10_changeStandard wm_X10_changeStandard_e ({ frames := 0, cells := 0, slots := 0, locals := 0 }) (va_Pc [.ref (a 104), .int k1, .int f, .int v1] (yB (a 186) D sz (xwT sk a t i q c d) (xtT t))) (va_Qi (fun (r : Int32) (u : MS) => True ∧ xInv u.1 u.2.2.1 ∧ (∀ k, k ∉ ([] : List Nat) → u.1 k = i k) ∧ (∀ k, k ∉ ([107] : List Nat) → u.2.2.1 k = c k) ∧ (r = (c 107 (k1.toInt * 6 + f.toInt).toNat)) ∧ ((u.2.2.1 107) = upd (c 107) (k1.toInt * 6 + f.toInt).toNat v1)) (oC D (va_A (xwT sk a t i q c d) sz) (fun u : MS => xwT sk a t u.1 u.2.1 u.2.2.1 u.2.2.2) (fun _ => [])) (va_A (xwT sk a t i q c d) sz)) 0 0 (va_A (xwT sk a t i q c d) sz) := by
  refine Met.ofW (cc := cX10_changeStandard) (maxL := 5) (ret := (some .int)) (by decide +kernel) rfl ?_
  intro p e s m args below meth cd s₁ B hml hv
  obtain ⟨rfl, ⟨hsz, hP, hK, hD0⟩, hN, hZ, hBW⟩ := hv
  have hx := B.exec
  have hb := B.bytes
  have hr := B.returns
  have hts := atoms_spec (ws := wm_X10_changeStandard_e) B.pre
  have hown : s.vm.findClass RX10 = some m.cls := findClass_of_methodNamed B.named
  have hlocks := B.notSynchronized
  subst hsz
  have hD := hD0.self (sz := s.heap.size)
  have hZ := xZ_A hZ hP hBW
  generalize hAe : va_A (xwT sk a t i q c d) s.heap.size = A at hD hZ ⊢
  have hA : ∀ q : Nat, s.heap.size ≤ q → A q := fun q h => by rw [← hAe]; exact Or.inr h
  have hS : va_S A s.heap s.heap [] := va_S.rf
  have hfi : ∀ k, k ∉ ([] : List Nat) → i k = i k := fun _ _ => rfl
  have hfc : ∀ k, k ∉ ([] : List Nat) → c k = c k := fun _ _ => rfl
  have hl := lv_entry ([.ref (a 104), .int k1, .int f, .int v1]) (n := 5) (Nat.le_of_ble_eq_true rfl)
  rw [lg_entry_eq]
  generalize (lg_sl ([.ref (a 104), .int k1, .int f, .int v1]) ++ List.replicate (5 - (lg_sl ([.ref (a 104), .int k1, .int f, .int v1])).length) Slot.unset).toArray = ls at hl ⊢
  have hl : lv_has ls 5 [(0, .ref (a 104)), (1, .int k1), (2, .int f), (3, .int v1)] := hl
  refine lv_aload_n hx hb dX10_changeStandard_0 rfl (lv_at hl 0 rfl) ?_
  refine xgT_W_standards hx hb hts (fun _ h => List.mem_cons_of_mem _ (List.mem_append_right _ h)) hown hK hP (hts (.fieldLink RX10 18 "TalePlay$World" "standards" "[I") (List.mem_cons_of_mem _ (List.mem_append_left _ (List.mem_of_getElem? (i := 0) rfl)))) dX10_changeStandard_1 ?_
  refine lv_iload_n hx hb dX10_changeStandard_4 rfl (lv_at hl 1 rfl) ?_
  refine lv_bipush (v := 6) hx hb dX10_changeStandard_5 (by decide +kernel) ?_
  refine lv_imul hx hb dX10_changeStandard_7 ?_
  refine lv_topi (fun x1 ex1 => ?_)
  have tx1 := ti_mul (a := k1.toInt) (b := 6) ex1 rfl (by decide +kernel) (by omega) (by omega)
  refine lv_iload_n hx hb dX10_changeStandard_8 rfl (lv_at hl 2 rfl) ?_
  refine lv_iadd hx hb dX10_changeStandard_9 ?_
  refine lv_topi (fun x2 ex2 => ?_)
  have tx2 := ti_add (a := (k1.toInt * 6)) (b := f.toInt) ex2 tx1 rfl (by omega) (by omega)
  refine xlT_107 hx hb hK hP (vp_in_iff.mpr (by have h9 : x2.toInt = ((k1.toInt * 6) + f.toInt) := tx2; omega)) dX10_changeStandard_10 (fun x3 ex3 => ?_)
  have rx3 : x3.toInt = -9 ∨ (0 ≤ x3.toInt ∧ x3.toInt ≤ 1) := by rw [ex3]; exact hI.2 107 _
  refine lv_istore (lv' := [(4, .int x3), (0, .ref (a 104)), (1, .int k1), (2, .int f), (3, .int v1)]) hx hb dX10_changeStandard_11 hl (by decide +kernel) rfl (fun ls hl => ?_)
  refine lv_aload_n hx hb dX10_changeStandard_13 rfl (lv_at hl 1 rfl) ?_
  refine xgT_W_standards hx hb hts (fun _ h => List.mem_cons_of_mem _ (List.mem_append_right _ h)) hown hK hP (hts (.fieldLink RX10 18 "TalePlay$World" "standards" "[I") (List.mem_cons_of_mem _ (List.mem_append_left _ (List.mem_of_getElem? (i := 0) rfl)))) dX10_changeStandard_14 ?_
  refine lv_iload_n hx hb dX10_changeStandard_17 rfl (lv_at hl 2 rfl) ?_
  refine lv_bipush (v := 6) hx hb dX10_changeStandard_18 (by decide +kernel) ?_
  refine lv_imul hx hb dX10_changeStandard_20 ?_
  refine lv_topi (fun x4 ex4 => ?_)
  have tx4 := ti_mul (a := k1.toInt) (b := 6) ex4 rfl (by decide +kernel) (by omega) (by omega)
  refine lv_iload_n hx hb dX10_changeStandard_21 rfl (lv_at hl 3 rfl) ?_
  refine lv_iadd hx hb dX10_changeStandard_22 ?_
  refine lv_topi (fun x5 ex5 => ?_)
  have tx5 := ti_add (a := (k1.toInt * 6)) (b := f.toInt) ex5 tx4 rfl (by omega) (by omega)
  refine lv_iload_n hx hb dX10_changeStandard_23 rfl (lv_at hl 4 rfl) ?_
  refine xsT_107 hx hb hK hP hD hS (vp_in_iff.mpr (by have h9 : x5.toInt = ((k1.toInt * 6) + f.toInt) := tx5; omega)) dX10_changeStandard_24 (fun H locs hP hD hS => ?_)
  have hI := xInv_c hI (k := 107) (j := (x5 : Int32).toNatClampNeg) (x := v1) (show (v1 : Int32).toInt = -9 ∨ (0 ≤ (v1 : Int32).toInt ∧ (v1 : Int32).toInt ≤ 1) from by omega)
  have hfc : ∀ k, k ∉ ([107] : List Nat) → (updA c 107 (x5 : Int32).toNatClampNeg v1) k = c k := fr_cz hfc (by decide +kernel) (by decide +kernel)
  refine lv_iload hx hb dX10_changeStandard_25 (lv_at hl 0 rfl) ?_
  exact rw_iret (i, q, (updA c 107 (x5 : Int32).toNatClampNeg v1), d) hx hb hr hlocks hS (hK.sub (tys' := []) [] rfl) hP hD dX10_changeStandard_27 ⟨trivial, hI, fr_w hfi (by decide +kernel), fr_w hfc (by decide +kernel), (show (x3 : Int32) = (c 107 (k1.toInt * 6 + f.toInt).toNat) from (ix_n (f := c 107) (s := x2) (show (x2 : Int32).toInt = k1.toInt * 6 + f.toInt from by omega) ex3).symm), (show ((updA c 107 (x5 : Int32).toNatClampNeg v1) 107) = upd (c 107) (k1.toInt * 6 + f.toInt).toNat v1 from by show upd (c 107) (x5 : Int32).toNatClampNeg v1 = _; rw [cl_t (show (x5 : Int32).toInt = (k1.toInt * 6 + f.toInt) from by omega)])⟩

def wm_X11_standard_e : List Cond := .code yX11_standard cX11_standard 4 (some .int) :: ((([.fieldLink RX11 10 "TalePlay" "world" "LTalePlay$World;", .methodLink RX11 80 yX10_hasKind, .instanceMethod yX10_hasKind, .selects RX10 yX10_hasKind yX10_hasKind, .initialized RX10, .code yX10_hasKind cX10_hasKind 2 (some .boolean), .fieldLink RX10 33 "TalePlay$World" "kinds" "I", .methodLink RX11 91 yX11_isBelow, .static yX11_isBelow, .initialized RX11, .code yX11_isBelow cX11_isBelow 2 (some .boolean), .fieldLink RX11 46 "TalePlay" "tale" "LTalePlay$Tale;", .methodLink RX11 95 yX9_end, .instanceMethod yX9_end, .selects RX9 yX9_end yX9_end, .initialized RX9] : List Cond) ++ ([.code yX9_end cX9_end 1 none, .fieldLink RX9 72 "TalePlay$Tale" "there" "Z", .fieldLink RX9 77 "TalePlay$Tale" "turns" "I", .methodLink RX11 98 yX10_changeStandard, .instanceMethod yX10_changeStandard, .selects RX10 yX10_changeStandard yX10_changeStandard, .code yX10_changeStandard cX10_changeStandard 5 (some .int), .fieldLink RX10 18 "TalePlay$World" "standards" "[I"] : List Cond)) ++ wsX110 ++ wsX100 ++ wsX90)
set_option maxRecDepth 20000 in
theorem gm_X11_standard_e_X10_hasKind_80 : GoodIn wm_X11_standard_e (wsV RX11 80 RX10 yX10_hasKind wm_X10_hasKind) := goodIn_w (List.forall_mem_append.mpr ⟨List.forall_mem_cons.mpr ⟨List.mem_cons_of_mem _ (List.mem_append_left _ (List.mem_append_left _ (List.mem_append_left _ (List.mem_append_left _ (List.mem_of_getElem? (i := 1) rfl))))), List.forall_mem_cons.mpr ⟨List.mem_cons_of_mem _ (List.mem_append_left _ (List.mem_append_left _ (List.mem_append_left _ (List.mem_append_left _ (List.mem_of_getElem? (i := 2) rfl))))), List.forall_mem_cons.mpr ⟨List.mem_cons_of_mem _ (List.mem_append_left _ (List.mem_append_left _ (List.mem_append_left _ (List.mem_append_left _ (List.mem_of_getElem? (i := 3) rfl))))), List.forall_mem_cons.mpr ⟨List.mem_cons_of_mem _ (List.mem_append_left _ (List.mem_append_left _ (List.mem_append_left _ (List.mem_append_left _ (List.mem_of_getElem? (i := 4) rfl))))), (fun _ h => absurd h List.not_mem_nil)⟩⟩⟩⟩, List.forall_mem_cons.mpr ⟨List.mem_cons_of_mem _ (List.mem_append_left _ (List.mem_append_left _ (List.mem_append_left _ (List.mem_append_left _ (List.mem_of_getElem? (i := 5) rfl))))), List.forall_mem_append.mpr ⟨List.forall_mem_cons.mpr ⟨List.mem_cons_of_mem _ (List.mem_append_left _ (List.mem_append_left _ (List.mem_append_left _ (List.mem_append_left _ (List.mem_of_getElem? (i := 6) rfl))))), (fun _ h => absurd h List.not_mem_nil)⟩, (fun _ h => List.mem_cons_of_mem _ (List.mem_append_left _ (List.mem_append_right _ h)))⟩⟩⟩) (by decide +kernel)
set_option maxRecDepth 20000 in
theorem gm_X11_standard_e_X11_isBelow_91 : GoodIn wm_X11_standard_e (va_wsS RX11 91 yX11_isBelow wm_X11_isBelow) := goodIn_w (List.forall_mem_append.mpr ⟨List.forall_mem_cons.mpr ⟨List.mem_cons_of_mem _ (List.mem_append_left _ (List.mem_append_left _ (List.mem_append_left _ (List.mem_append_left _ (List.mem_of_getElem? (i := 7) rfl))))), List.forall_mem_cons.mpr ⟨List.mem_cons_of_mem _ (List.mem_append_left _ (List.mem_append_left _ (List.mem_append_left _ (List.mem_append_left _ (List.mem_of_getElem? (i := 8) rfl))))), List.forall_mem_cons.mpr ⟨List.mem_cons_of_mem _ (List.mem_append_left _ (List.mem_append_left _ (List.mem_append_left _ (List.mem_append_left _ (List.mem_of_getElem? (i := 9) rfl))))), (fun _ h => absurd h List.not_mem_nil)⟩⟩⟩, List.forall_mem_cons.mpr ⟨List.mem_cons_of_mem _ (List.mem_append_left _ (List.mem_append_left _ (List.mem_append_left _ (List.mem_append_left _ (List.mem_of_getElem? (i := 10) rfl))))), (fun _ h => absurd h List.not_mem_nil)⟩⟩) (by decide +kernel)
set_option maxRecDepth 20000 in
theorem gm_X11_standard_e_X9_end_95 : GoodIn wm_X11_standard_e (wsV RX11 95 RX9 yX9_end wm_X9_end) := goodIn_w (List.forall_mem_append.mpr ⟨List.forall_mem_cons.mpr ⟨List.mem_cons_of_mem _ (List.mem_append_left _ (List.mem_append_left _ (List.mem_append_left _ (List.mem_append_left _ (List.mem_of_getElem? (i := 12) rfl))))), List.forall_mem_cons.mpr ⟨List.mem_cons_of_mem _ (List.mem_append_left _ (List.mem_append_left _ (List.mem_append_left _ (List.mem_append_left _ (List.mem_of_getElem? (i := 13) rfl))))), List.forall_mem_cons.mpr ⟨List.mem_cons_of_mem _ (List.mem_append_left _ (List.mem_append_left _ (List.mem_append_left _ (List.mem_append_left _ (List.mem_of_getElem? (i := 14) rfl))))), List.forall_mem_cons.mpr ⟨List.mem_cons_of_mem _ (List.mem_append_left _ (List.mem_append_left _ (List.mem_append_left _ (List.mem_append_left _ (List.mem_of_getElem? (i := 15) rfl))))), (fun _ h => absurd h List.not_mem_nil)⟩⟩⟩⟩, List.forall_mem_cons.mpr ⟨List.mem_cons_of_mem _ (List.mem_append_left _ (List.mem_append_left _ (List.mem_append_left _ (List.mem_append_right _ (List.mem_of_getElem? (i := 0) rfl))))), List.forall_mem_append.mpr ⟨List.forall_mem_cons.mpr ⟨List.mem_cons_of_mem _ (List.mem_append_left _ (List.mem_append_left _ (List.mem_append_left _ (List.mem_append_right _ (List.mem_of_getElem? (i := 1) rfl))))), List.forall_mem_cons.mpr ⟨List.mem_cons_of_mem _ (List.mem_append_left _ (List.mem_append_left _ (List.mem_append_left _ (List.mem_append_right _ (List.mem_of_getElem? (i := 2) rfl))))), (fun _ h => absurd h List.not_mem_nil)⟩⟩, (fun _ h => List.mem_cons_of_mem _ (List.mem_append_right _ h))⟩⟩⟩) (by decide +kernel)
set_option maxRecDepth 20000 in
theorem gm_X11_standard_e_X10_changeStandard_e_98 : GoodIn wm_X11_standard_e (wsV RX11 98 RX10 yX10_changeStandard wm_X10_changeStandard_e) := goodIn_w (List.forall_mem_append.mpr ⟨List.forall_mem_cons.mpr ⟨List.mem_cons_of_mem _ (List.mem_append_left _ (List.mem_append_left _ (List.mem_append_left _ (List.mem_append_right _ (List.mem_of_getElem? (i := 3) rfl))))), List.forall_mem_cons.mpr ⟨List.mem_cons_of_mem _ (List.mem_append_left _ (List.mem_append_left _ (List.mem_append_left _ (List.mem_append_right _ (List.mem_of_getElem? (i := 4) rfl))))), List.forall_mem_cons.mpr ⟨List.mem_cons_of_mem _ (List.mem_append_left _ (List.mem_append_left _ (List.mem_append_left _ (List.mem_append_right _ (List.mem_of_getElem? (i := 5) rfl))))), List.forall_mem_cons.mpr ⟨List.mem_cons_of_mem _ (List.mem_append_left _ (List.mem_append_left _ (List.mem_append_left _ (List.mem_append_left _ (List.mem_of_getElem? (i := 4) rfl))))), (fun _ h => absurd h List.not_mem_nil)⟩⟩⟩⟩, List.forall_mem_cons.mpr ⟨List.mem_cons_of_mem _ (List.mem_append_left _ (List.mem_append_left _ (List.mem_append_left _ (List.mem_append_right _ (List.mem_of_getElem? (i := 6) rfl))))), List.forall_mem_append.mpr ⟨List.forall_mem_cons.mpr ⟨List.mem_cons_of_mem _ (List.mem_append_left _ (List.mem_append_left _ (List.mem_append_left _ (List.mem_append_right _ (List.mem_of_getElem? (i := 7) rfl))))), (fun _ h => absurd h List.not_mem_nil)⟩, (fun _ h => List.mem_cons_of_mem _ (List.mem_append_left _ (List.mem_append_right _ h)))⟩⟩⟩) (by decide +kernel)
set_option maxHeartbeats 4000000 in
set_option maxRecDepth 100000 in
theorem x_X11_standard_e (l : Launch) (D : va_G) (sz : Nat) (sk : Value) (a : Nat → Nat) (t : Nat → ClassId) (i : Nat → Int32) (q : Int64) (c : Nat → Nat → Int32) (d : Nat → Nat → Int64) (k1 : Int32) (f : Int32) (v1 : Int32) (hI : xInv i c) : Met l yX11_standard wm_X11_standard_e ({ frames := 1, cells := 0, slots := 0, locals := 24 }) (va_Pc [.ref (a 100), .int k1, .int f, .int v1] (yB (a 186) D sz (xwT sk a t i q c d) (xtT t))) (va_Qi (fun (r : Int32) (u : MS) => True ∧ xInv u.1 u.2.2.1 ∧ (∀ k, k ∉ ([146, 148] : List Nat) → u.1 k = i k) ∧ (∀ k, k ∉ ([107] : List Nat) → u.2.2.1 k = c k) ∧ (xEn (i 146) (i 148) (u.1 146) (u.1 148)) ∧ (StR (c 107) k1 f v1 (i 110).toInt r) ∧ (StU (c 107) (u.2.2.1 107) k1 f v1 (i 110).toInt)) (oC D (va_A (xwT sk a t i q c d) sz) (fun u : MS => xwT sk a t u.1 u.2.1 u.2.2.1 u.2.2.2) (fun _ => [])) (va_A (xwT sk a t i q c d) sz)) 0 0 (va_A (xwT sk a t i q c d) sz) := by
  refine Met.ofW (cc := cX11_standard) (maxL := 4) (ret := (some .int)) (by decide +kernel) rfl ?_
  intro p e s m args below meth cd s₁ B hml hv
  obtain ⟨rfl, ⟨hsz, hP, hK, hD0⟩, hN, hZ, hBW⟩ := hv
  have hx := B.exec
  have hb := B.bytes
  have hr := B.returns
  have hts := atoms_spec (ws := wm_X11_standard_e) B.pre
  have hown : s.vm.findClass RX11 = some m.cls := findClass_of_methodNamed B.named
  have hlocks := B.notSynchronized
  subst hsz
  have hD := hD0.self (sz := s.heap.size)
  have hZ := xZ_A hZ hP hBW
  generalize hAe : va_A (xwT sk a t i q c d) s.heap.size = A at hD hZ ⊢
  have hA : ∀ q : Nat, s.heap.size ≤ q → A q := fun q h => by rw [← hAe]; exact Or.inr h
  have hS : va_S A s.heap s.heap [] := va_S.rf
  have hfi : ∀ k, k ∉ ([] : List Nat) → i k = i k := fun _ _ => rfl
  have hfc : ∀ k, k ∉ ([] : List Nat) → c k = c k := fun _ _ => rfl
  have hl := lv_entry ([.ref (a 100), .int k1, .int f, .int v1]) (n := 4) (Nat.le_of_ble_eq_true rfl)
  rw [lg_entry_eq]
  generalize (lg_sl ([.ref (a 100), .int k1, .int f, .int v1]) ++ List.replicate (4 - (lg_sl ([.ref (a 100), .int k1, .int f, .int v1])).length) Slot.unset).toArray = ls at hl ⊢
  have hl : lv_has ls 4 [(0, .ref (a 100)), (1, .int k1), (2, .int f), (3, .int v1)] := hl
  have rb110_i : 6 ≤ (i 110).toInt ∧ (i 110).toInt ≤ 24 := hI.1 110
  refine lv_aload_n hx hb dX11_standard_0 rfl (lv_at hl 0 rfl) ?_
  refine xgT_X_world hx hb hts (fun _ h => List.mem_cons_of_mem _ (List.mem_append_left _ (List.mem_append_left _ (List.mem_append_right _ h)))) hown hK hP (hts (.fieldLink RX11 10 "TalePlay" "world" "LTalePlay$World;") (List.mem_cons_of_mem _ (List.mem_append_left _ (List.mem_append_left _ (List.mem_append_left _ (List.mem_append_left _ (List.mem_of_getElem? (i := 0) rfl))))))) dX11_standard_1 ?_
  refine lv_iload_n hx hb dX11_standard_4 rfl (lv_at hl 1 rfl) ?_
  refine ro_calli (va_runV (As := [.int k1]) (rest := []) ⟨hx, hb, hml, hown, hts⟩ (x_X10_hasKind l D s.heap.size .null a t i q c d k1 hI ) (cwV 1 hts gm_X11_standard_e_X10_hasKind_80 rfl rfl rfl (by decide +kernel) ⟨Nat.le_of_ble_eq_true rfl, Nat.le_of_ble_eq_true rfl⟩) (yA_V hN (xZ_k hZ hS hA) (xkT_W hK) (xuT_W (sk := sk) hP) (ci := 10) (q0 := 0) rfl rfl) rfl rfl hl.1 rfl (lv_room (Nat.le_of_ble_eq_true rfl)) dX11_standard_5 ⟨Nat.le_of_ble_eq_true rfl, Nat.le_of_ble_eq_true rfl⟩) hS hA hP (fun r1 u1 H locs hw1 hP hS => ?_)
  have hw1 : r1 = if (0 ≤ k1.toInt ∧ k1.toInt < (i 110).toInt) then 1 else 0 := hw1
  refine lv_if_eq (tgt := 35) hx hb dX11_standard_8 (by decide +kernel) (fun c2 => ?_) (fun c2 => ?_)
  · have f2 := fl_f hw1 c2
    refine lv_iconst (v := (-1)) hx hb dX11_standard_35 (by decide +kernel) ?_
    exact rw_iret (i, q, c, d) hx hb hr hlocks hS (hK.sub (tys' := []) [] rfl) hP hD dX11_standard_36 ⟨trivial, hI, fr_w hfi (by decide +kernel), fr_w hfc (by decide +kernel), (show xEn (i 146) (i 148) ((i 146) : Int32) ((i 148) : Int32) from Or.inr ⟨rfl, rfl⟩), (show StR (c 107) k1 f v1 (i 110).toInt ((-1) : Int32) from Or.inl ⟨by unfold StB; omega, by decide⟩), (show StU (c 107) (c 107) k1 f v1 (i 110).toInt from Or.inl ⟨by unfold StB; omega, rfl⟩)⟩
  · have f2 := fl_t hw1 c2
    refine lv_iload_n hx hb dX11_standard_11 rfl (lv_at hl 2 rfl) ?_
    refine lv_bipush (v := 6) hx hb dX11_standard_12 (by decide +kernel) ?_
    have hPc := hP.sub (ws' := []) [] rfl
    have hKc := hK.sub (tys' := []) [] rfl
    refine ro_calli (va_runS (As := [.int f, .int 6]) (rest := []) ⟨hx, hb, hml, hown, hts⟩ (c_X11_isBelow l D H.size f 6 f.toInt 6 rfl (by decide +kernel)) (va_cwS 2 hts gm_X11_standard_e_X11_isBelow_91 rfl rfl rfl (by decide +kernel) ⟨Nat.le_of_ble_eq_true rfl, Nat.le_of_ble_eq_true rfl⟩) (pA_S hKc hPc) rfl rfl hl.1 rfl (lv_room (Nat.le_of_ble_eq_true rfl)) dX11_standard_14 ⟨Nat.le_of_ble_eq_true rfl, Nat.le_of_ble_eq_true rfl⟩) hS hA hP (fun r4 u4 H locs hw4 hP hS => ?_)
    have hw4 : r4 = if (0 ≤ f.toInt ∧ f.toInt < 6) then 1 else 0 := hw4
    refine lv_if_eq (tgt := 35) hx hb dX11_standard_17 (by decide +kernel) (fun c5 => ?_) (fun c5 => ?_)
    · have f5 := fl_f hw4 c5
      refine lv_iconst (v := (-1)) hx hb dX11_standard_35 (by decide +kernel) ?_
      exact rw_iret (i, q, c, d) hx hb hr hlocks hS (hK.sub (tys' := []) [] rfl) hP hD dX11_standard_36 ⟨trivial, hI, fr_w hfi (by decide +kernel), fr_w hfc (by decide +kernel), (show xEn (i 146) (i 148) ((i 146) : Int32) ((i 148) : Int32) from Or.inr ⟨rfl, rfl⟩), (show StR (c 107) k1 f v1 (i 110).toInt ((-1) : Int32) from Or.inl ⟨by unfold StB; omega, by decide⟩), (show StU (c 107) (c 107) k1 f v1 (i 110).toInt from Or.inl ⟨by unfold StB; omega, rfl⟩)⟩
    · have f5 := fl_t hw4 c5
      refine lv_iload_n hx hb dX11_standard_20 rfl (lv_at hl 3 rfl) ?_
      refine lv_if_eq (tgt := 37) hx hb dX11_standard_21 (by decide +kernel) (fun c6 => ?_) (fun c6 => ?_)
      · have f6 := (ti_eq (a := v1.toInt) (b := 0) rfl (by decide +kernel)).mp c6
        refine lv_aload_n hx hb dX11_standard_37 rfl (lv_at hl 0 rfl) ?_
        refine xgT_X_tale hx hb hts (fun _ h => List.mem_cons_of_mem _ (List.mem_append_left _ (List.mem_append_left _ (List.mem_append_right _ h)))) hown hK hP (hts (.fieldLink RX11 46 "TalePlay" "tale" "LTalePlay$Tale;") (List.mem_cons_of_mem _ (List.mem_append_left _ (List.mem_append_left _ (List.mem_append_left _ (List.mem_append_left _ (List.mem_of_getElem? (i := 11) rfl))))))) dX11_standard_38 ?_
        refine al_callv (va_runV (As := []) (rest := []) ⟨hx, hb, hml, hown, hts⟩ (x_X9_end l D H.size sk a t i q c d  hI ) (cwV 0 hts gm_X11_standard_e_X9_end_95 rfl rfl rfl (by decide +kernel) ⟨Nat.le_of_ble_eq_true rfl, Nat.le_of_ble_eq_true rfl⟩) (yB_V hN (xZ_k hZ hS hA) (xZ_n hZ hD) hK hP hD (ci := 9) (q0 := 33) rfl rfl) rfl rfl hl.1 rfl (lv_room (Nat.le_of_ble_eq_true rfl)) dX11_standard_41 ⟨Nat.le_of_ble_eq_true rfl, Nat.le_of_ble_eq_true rfl⟩) hS hA hP hD (fun u7 H locs hw7 hP hD hS => ?_)
        obtain ⟨i7, q7, c7, d7⟩ := u7
        have hw7 : True ∧ xInv i7 c7 ∧ (∀ k, k ∉ ([146, 148] : List Nat) → i7 k = i k) ∧ (∀ k, k ∉ ([] : List Nat) → c7 k = c k) ∧ ((i7 146).toInt = 0) ∧ ((i7 148).toInt = 0) := hw7
        obtain ⟨hw7, hI, hei7, hec7, hxp7_0, hxp7_1⟩ := hw7
        have hxp7_0 : (i7 146).toInt = 0 := hxp7_0
        have hxp7_1 : (i7 148).toInt = 0 := hxp7_1
        have hfi : ∀ k, k ∉ ([146, 148] : List Nat) → i7 k = i k := fr_z hfi hei7 (by decide +kernel) (by decide +kernel)
        have hfc : ∀ k, k ∉ ([] : List Nat) → c7 k = c k := fr_z hfc hec7 (by decide +kernel) (by decide +kernel)
        have hen : (i7 146).toInt = 0 := hxp7_0
        refine lv_aload_n hx hb dX11_standard_44 rfl (lv_at hl 0 rfl) ?_
        refine xgT_X_world hx hb hts (fun _ h => List.mem_cons_of_mem _ (List.mem_append_left _ (List.mem_append_left _ (List.mem_append_right _ h)))) hown hK hP (hts (.fieldLink RX11 10 "TalePlay" "world" "LTalePlay$World;") (List.mem_cons_of_mem _ (List.mem_append_left _ (List.mem_append_left _ (List.mem_append_left _ (List.mem_append_left _ (List.mem_of_getElem? (i := 0) rfl))))))) dX11_standard_45 ?_
        refine lv_iload_n hx hb dX11_standard_48 rfl (lv_at hl 1 rfl) ?_
        refine lv_iload_n hx hb dX11_standard_49 rfl (lv_at hl 2 rfl) ?_
        refine lv_iload_n hx hb dX11_standard_50 rfl (lv_at hl 3 rfl) ?_
        refine al_calli (va_runV (As := [.int k1, .int f, .int v1]) (rest := []) ⟨hx, hb, hml, hown, hts⟩ (x_X10_changeStandard_e l D H.size sk a t i7 q7 c7 d7 k1 f v1 hI (show 0 ≤ k1.toInt ∧ k1.toInt ≤ 23 from by omega) (show 0 ≤ f.toInt ∧ f.toInt ≤ 5 from by omega) (show v1.toInt = -9 ∨ (0 ≤ v1.toInt ∧ v1.toInt ≤ 1) from by omega)) (cwV 3 hts gm_X11_standard_e_X10_changeStandard_e_98 rfl rfl rfl (by decide +kernel) ⟨Nat.le_of_ble_eq_true rfl, Nat.le_of_ble_eq_true rfl⟩) (yB_V hN (xZ_k hZ hS hA) (xZ_n hZ hD) hK hP hD (ci := 10) (q0 := 2) rfl rfl) rfl rfl hl.1 rfl (lv_room (Nat.le_of_ble_eq_true rfl)) dX11_standard_51 ⟨Nat.le_of_ble_eq_true rfl, Nat.le_of_ble_eq_true rfl⟩) hS hA hP hD (fun r8 u8 H locs hw8 hP hD hS => ?_)
        obtain ⟨i8, q8, c8, d8⟩ := u8
        have hw8 : True ∧ xInv i8 c8 ∧ (∀ k, k ∉ ([] : List Nat) → i8 k = i7 k) ∧ (∀ k, k ∉ ([107] : List Nat) → c8 k = c7 k) ∧ (r8 = (c7 107 (k1.toInt * 6 + f.toInt).toNat)) ∧ ((c8 107) = upd (c7 107) (k1.toInt * 6 + f.toInt).toNat v1) := hw8
        obtain ⟨hw8, hI, hei8, hec8, hxp8_0, hxp8_1⟩ := hw8
        have hxp8_0 : r8 = (c 107 (k1.toInt * 6 + f.toInt).toNat) := by have h9 := hxp8_0; rw [show c7 107 = c 107 from hfc 107 (by decide +kernel)] at h9; exact h9
        have hxp8_1 : (c8 107) = upd (c 107) (k1.toInt * 6 + f.toInt).toNat v1 := by have h9 := hxp8_1; rw [show c7 107 = c 107 from hfc 107 (by decide +kernel)] at h9; exact h9
        have hfi : ∀ k, k ∉ ([146, 148] : List Nat) → i8 k = i k := fr_z hfi hei8 (by decide +kernel) (by decide +kernel)
        have hfc : ∀ k, k ∉ ([107] : List Nat) → c8 k = c k := fr_z hfc hec8 (by decide +kernel) (by decide +kernel)
        have hen : ((i8 146) : Int32).toInt = 0 := by rw [show i8 146 = i7 146 from hei8 146 (by decide +kernel)]; exact hen
        exact rw_iret (i8, q8, c8, d8) hx hb hr hlocks hS (hK.sub (tys' := []) [] rfl) hP hD dX11_standard_54 ⟨trivial, hI, fr_w hfi (by decide +kernel), fr_w hfc (by decide +kernel), (show xEn (i 146) (i 148) ((i8 146) : Int32) ((i8 148) : Int32) from Or.inl hen), (show StR (c 107) k1 f v1 (i 110).toInt (r8 : Int32) from Or.inr ⟨by unfold StB; omega, hxp8_0⟩), (show StU (c 107) (c8 107) k1 f v1 (i 110).toInt from Or.inr ⟨by unfold StB; omega, hxp8_1⟩)⟩
      · have f6 := mt (ti_eq (a := v1.toInt) (b := 0) rfl (by decide +kernel)).mpr c6
        refine lv_iload_n hx hb dX11_standard_24 rfl (lv_at hl 3 rfl) ?_
        refine lv_iconst (v := 1) hx hb dX11_standard_25 (by decide +kernel) ?_
        refine lv_icmp_eq (tgt := 37) hx hb dX11_standard_26 (by decide +kernel) (fun c9 => ?_) (fun c9 => ?_)
        · have f9 := (ti_eq (a := v1.toInt) (b := 1) rfl (by decide +kernel)).mp c9
          refine lv_aload_n hx hb dX11_standard_37 rfl (lv_at hl 0 rfl) ?_
          refine xgT_X_tale hx hb hts (fun _ h => List.mem_cons_of_mem _ (List.mem_append_left _ (List.mem_append_left _ (List.mem_append_right _ h)))) hown hK hP (hts (.fieldLink RX11 46 "TalePlay" "tale" "LTalePlay$Tale;") (List.mem_cons_of_mem _ (List.mem_append_left _ (List.mem_append_left _ (List.mem_append_left _ (List.mem_append_left _ (List.mem_of_getElem? (i := 11) rfl))))))) dX11_standard_38 ?_
          refine al_callv (va_runV (As := []) (rest := []) ⟨hx, hb, hml, hown, hts⟩ (x_X9_end l D H.size sk a t i q c d  hI ) (cwV 0 hts gm_X11_standard_e_X9_end_95 rfl rfl rfl (by decide +kernel) ⟨Nat.le_of_ble_eq_true rfl, Nat.le_of_ble_eq_true rfl⟩) (yB_V hN (xZ_k hZ hS hA) (xZ_n hZ hD) hK hP hD (ci := 9) (q0 := 33) rfl rfl) rfl rfl hl.1 rfl (lv_room (Nat.le_of_ble_eq_true rfl)) dX11_standard_41 ⟨Nat.le_of_ble_eq_true rfl, Nat.le_of_ble_eq_true rfl⟩) hS hA hP hD (fun u10 H locs hw10 hP hD hS => ?_)
          obtain ⟨i10, q10, c10, d10⟩ := u10
          have hw10 : True ∧ xInv i10 c10 ∧ (∀ k, k ∉ ([146, 148] : List Nat) → i10 k = i k) ∧ (∀ k, k ∉ ([] : List Nat) → c10 k = c k) ∧ ((i10 146).toInt = 0) ∧ ((i10 148).toInt = 0) := hw10
          obtain ⟨hw10, hI, hei10, hec10, hxp10_0, hxp10_1⟩ := hw10
          have hxp10_0 : (i10 146).toInt = 0 := hxp10_0
          have hxp10_1 : (i10 148).toInt = 0 := hxp10_1
          have hfi : ∀ k, k ∉ ([146, 148] : List Nat) → i10 k = i k := fr_z hfi hei10 (by decide +kernel) (by decide +kernel)
          have hfc : ∀ k, k ∉ ([] : List Nat) → c10 k = c k := fr_z hfc hec10 (by decide +kernel) (by decide +kernel)
          have hen : (i10 146).toInt = 0 := hxp10_0
          refine lv_aload_n hx hb dX11_standard_44 rfl (lv_at hl 0 rfl) ?_
          refine xgT_X_world hx hb hts (fun _ h => List.mem_cons_of_mem _ (List.mem_append_left _ (List.mem_append_left _ (List.mem_append_right _ h)))) hown hK hP (hts (.fieldLink RX11 10 "TalePlay" "world" "LTalePlay$World;") (List.mem_cons_of_mem _ (List.mem_append_left _ (List.mem_append_left _ (List.mem_append_left _ (List.mem_append_left _ (List.mem_of_getElem? (i := 0) rfl))))))) dX11_standard_45 ?_
          refine lv_iload_n hx hb dX11_standard_48 rfl (lv_at hl 1 rfl) ?_
          refine lv_iload_n hx hb dX11_standard_49 rfl (lv_at hl 2 rfl) ?_
          refine lv_iload_n hx hb dX11_standard_50 rfl (lv_at hl 3 rfl) ?_
          refine al_calli (va_runV (As := [.int k1, .int f, .int v1]) (rest := []) ⟨hx, hb, hml, hown, hts⟩ (x_X10_changeStandard_e l D H.size sk a t i10 q10 c10 d10 k1 f v1 hI (show 0 ≤ k1.toInt ∧ k1.toInt ≤ 23 from by omega) (show 0 ≤ f.toInt ∧ f.toInt ≤ 5 from by omega) (show v1.toInt = -9 ∨ (0 ≤ v1.toInt ∧ v1.toInt ≤ 1) from by omega)) (cwV 3 hts gm_X11_standard_e_X10_changeStandard_e_98 rfl rfl rfl (by decide +kernel) ⟨Nat.le_of_ble_eq_true rfl, Nat.le_of_ble_eq_true rfl⟩) (yB_V hN (xZ_k hZ hS hA) (xZ_n hZ hD) hK hP hD (ci := 10) (q0 := 2) rfl rfl) rfl rfl hl.1 rfl (lv_room (Nat.le_of_ble_eq_true rfl)) dX11_standard_51 ⟨Nat.le_of_ble_eq_true rfl, Nat.le_of_ble_eq_true rfl⟩) hS hA hP hD (fun r11 u11 H locs hw11 hP hD hS => ?_)
          obtain ⟨i11, q11, c11, d11⟩ := u11
          have hw11 : True ∧ xInv i11 c11 ∧ (∀ k, k ∉ ([] : List Nat) → i11 k = i10 k) ∧ (∀ k, k ∉ ([107] : List Nat) → c11 k = c10 k) ∧ (r11 = (c10 107 (k1.toInt * 6 + f.toInt).toNat)) ∧ ((c11 107) = upd (c10 107) (k1.toInt * 6 + f.toInt).toNat v1) := hw11
          obtain ⟨hw11, hI, hei11, hec11, hxp11_0, hxp11_1⟩ := hw11
          have hxp11_0 : r11 = (c 107 (k1.toInt * 6 + f.toInt).toNat) := by have h9 := hxp11_0; rw [show c10 107 = c 107 from hfc 107 (by decide +kernel)] at h9; exact h9
          have hxp11_1 : (c11 107) = upd (c 107) (k1.toInt * 6 + f.toInt).toNat v1 := by have h9 := hxp11_1; rw [show c10 107 = c 107 from hfc 107 (by decide +kernel)] at h9; exact h9
          have hfi : ∀ k, k ∉ ([146, 148] : List Nat) → i11 k = i k := fr_z hfi hei11 (by decide +kernel) (by decide +kernel)
          have hfc : ∀ k, k ∉ ([107] : List Nat) → c11 k = c k := fr_z hfc hec11 (by decide +kernel) (by decide +kernel)
          have hen : ((i11 146) : Int32).toInt = 0 := by rw [show i11 146 = i10 146 from hei11 146 (by decide +kernel)]; exact hen
          exact rw_iret (i11, q11, c11, d11) hx hb hr hlocks hS (hK.sub (tys' := []) [] rfl) hP hD dX11_standard_54 ⟨trivial, hI, fr_w hfi (by decide +kernel), fr_w hfc (by decide +kernel), (show xEn (i 146) (i 148) ((i11 146) : Int32) ((i11 148) : Int32) from Or.inl hen), (show StR (c 107) k1 f v1 (i 110).toInt (r11 : Int32) from Or.inr ⟨by unfold StB; omega, hxp11_0⟩), (show StU (c 107) (c11 107) k1 f v1 (i 110).toInt from Or.inr ⟨by unfold StB; omega, hxp11_1⟩)⟩
        · have f9 := mt (ti_eq (a := v1.toInt) (b := 1) rfl (by decide +kernel)).mpr c9
          refine lv_iload_n hx hb dX11_standard_29 rfl (lv_at hl 3 rfl) ?_
          refine lv_bipush (v := (-9)) hx hb dX11_standard_30 (by decide +kernel) ?_
          refine lv_icmp_eq (tgt := 37) hx hb dX11_standard_32 (by decide +kernel) (fun c12 => ?_) (fun c12 => ?_)
          · have f12 := (ti_eq (a := v1.toInt) (b := (-9)) rfl (by decide +kernel)).mp c12
            refine lv_aload_n hx hb dX11_standard_37 rfl (lv_at hl 0 rfl) ?_
            refine xgT_X_tale hx hb hts (fun _ h => List.mem_cons_of_mem _ (List.mem_append_left _ (List.mem_append_left _ (List.mem_append_right _ h)))) hown hK hP (hts (.fieldLink RX11 46 "TalePlay" "tale" "LTalePlay$Tale;") (List.mem_cons_of_mem _ (List.mem_append_left _ (List.mem_append_left _ (List.mem_append_left _ (List.mem_append_left _ (List.mem_of_getElem? (i := 11) rfl))))))) dX11_standard_38 ?_
            refine al_callv (va_runV (As := []) (rest := []) ⟨hx, hb, hml, hown, hts⟩ (x_X9_end l D H.size sk a t i q c d  hI ) (cwV 0 hts gm_X11_standard_e_X9_end_95 rfl rfl rfl (by decide +kernel) ⟨Nat.le_of_ble_eq_true rfl, Nat.le_of_ble_eq_true rfl⟩) (yB_V hN (xZ_k hZ hS hA) (xZ_n hZ hD) hK hP hD (ci := 9) (q0 := 33) rfl rfl) rfl rfl hl.1 rfl (lv_room (Nat.le_of_ble_eq_true rfl)) dX11_standard_41 ⟨Nat.le_of_ble_eq_true rfl, Nat.le_of_ble_eq_true rfl⟩) hS hA hP hD (fun u13 H locs hw13 hP hD hS => ?_)
            obtain ⟨i13, q13, c13, d13⟩ := u13
            have hw13 : True ∧ xInv i13 c13 ∧ (∀ k, k ∉ ([146, 148] : List Nat) → i13 k = i k) ∧ (∀ k, k ∉ ([] : List Nat) → c13 k = c k) ∧ ((i13 146).toInt = 0) ∧ ((i13 148).toInt = 0) := hw13
            obtain ⟨hw13, hI, hei13, hec13, hxp13_0, hxp13_1⟩ := hw13
            have hxp13_0 : (i13 146).toInt = 0 := hxp13_0
            have hxp13_1 : (i13 148).toInt = 0 := hxp13_1
            have hfi : ∀ k, k ∉ ([146, 148] : List Nat) → i13 k = i k := fr_z hfi hei13 (by decide +kernel) (by decide +kernel)
            have hfc : ∀ k, k ∉ ([] : List Nat) → c13 k = c k := fr_z hfc hec13 (by decide +kernel) (by decide +kernel)
            have hen : (i13 146).toInt = 0 := hxp13_0
            refine lv_aload_n hx hb dX11_standard_44 rfl (lv_at hl 0 rfl) ?_
            refine xgT_X_world hx hb hts (fun _ h => List.mem_cons_of_mem _ (List.mem_append_left _ (List.mem_append_left _ (List.mem_append_right _ h)))) hown hK hP (hts (.fieldLink RX11 10 "TalePlay" "world" "LTalePlay$World;") (List.mem_cons_of_mem _ (List.mem_append_left _ (List.mem_append_left _ (List.mem_append_left _ (List.mem_append_left _ (List.mem_of_getElem? (i := 0) rfl))))))) dX11_standard_45 ?_
            refine lv_iload_n hx hb dX11_standard_48 rfl (lv_at hl 1 rfl) ?_
            refine lv_iload_n hx hb dX11_standard_49 rfl (lv_at hl 2 rfl) ?_
            refine lv_iload_n hx hb dX11_standard_50 rfl (lv_at hl 3 rfl) ?_
            refine al_calli (va_runV (As := [.int k1, .int f, .int v1]) (rest := []) ⟨hx, hb, hml, hown, hts⟩ (x_X10_changeStandard_e l D H.size sk a t i13 q13 c13 d13 k1 f v1 hI (show 0 ≤ k1.toInt ∧ k1.toInt ≤ 23 from by omega) (show 0 ≤ f.toInt ∧ f.toInt ≤ 5 from by omega) (show v1.toInt = -9 ∨ (0 ≤ v1.toInt ∧ v1.toInt ≤ 1) from by omega)) (cwV 3 hts gm_X11_standard_e_X10_changeStandard_e_98 rfl rfl rfl (by decide +kernel) ⟨Nat.le_of_ble_eq_true rfl, Nat.le_of_ble_eq_true rfl⟩) (yB_V hN (xZ_k hZ hS hA) (xZ_n hZ hD) hK hP hD (ci := 10) (q0 := 2) rfl rfl) rfl rfl hl.1 rfl (lv_room (Nat.le_of_ble_eq_true rfl)) dX11_standard_51 ⟨Nat.le_of_ble_eq_true rfl, Nat.le_of_ble_eq_true rfl⟩) hS hA hP hD (fun r14 u14 H locs hw14 hP hD hS => ?_)
            obtain ⟨i14, q14, c14, d14⟩ := u14
            have hw14 : True ∧ xInv i14 c14 ∧ (∀ k, k ∉ ([] : List Nat) → i14 k = i13 k) ∧ (∀ k, k ∉ ([107] : List Nat) → c14 k = c13 k) ∧ (r14 = (c13 107 (k1.toInt * 6 + f.toInt).toNat)) ∧ ((c14 107) = upd (c13 107) (k1.toInt * 6 + f.toInt).toNat v1) := hw14
            obtain ⟨hw14, hI, hei14, hec14, hxp14_0, hxp14_1⟩ := hw14
            have hxp14_0 : r14 = (c 107 (k1.toInt * 6 + f.toInt).toNat) := by have h9 := hxp14_0; rw [show c13 107 = c 107 from hfc 107 (by decide +kernel)] at h9; exact h9
            have hxp14_1 : (c14 107) = upd (c 107) (k1.toInt * 6 + f.toInt).toNat v1 := by have h9 := hxp14_1; rw [show c13 107 = c 107 from hfc 107 (by decide +kernel)] at h9; exact h9
            have hfi : ∀ k, k ∉ ([146, 148] : List Nat) → i14 k = i k := fr_z hfi hei14 (by decide +kernel) (by decide +kernel)
            have hfc : ∀ k, k ∉ ([107] : List Nat) → c14 k = c k := fr_z hfc hec14 (by decide +kernel) (by decide +kernel)
            have hen : ((i14 146) : Int32).toInt = 0 := by rw [show i14 146 = i13 146 from hei14 146 (by decide +kernel)]; exact hen
            exact rw_iret (i14, q14, c14, d14) hx hb hr hlocks hS (hK.sub (tys' := []) [] rfl) hP hD dX11_standard_54 ⟨trivial, hI, fr_w hfi (by decide +kernel), fr_w hfc (by decide +kernel), (show xEn (i 146) (i 148) ((i14 146) : Int32) ((i14 148) : Int32) from Or.inl hen), (show StR (c 107) k1 f v1 (i 110).toInt (r14 : Int32) from Or.inr ⟨by unfold StB; omega, hxp14_0⟩), (show StU (c 107) (c14 107) k1 f v1 (i 110).toInt from Or.inr ⟨by unfold StB; omega, hxp14_1⟩)⟩
          · have f12 := mt (ti_eq (a := v1.toInt) (b := (-9)) rfl (by decide +kernel)).mpr c12
            refine lv_iconst (v := (-1)) hx hb dX11_standard_35 (by decide +kernel) ?_
            exact rw_iret (i, q, c, d) hx hb hr hlocks hS (hK.sub (tys' := []) [] rfl) hP hD dX11_standard_36 ⟨trivial, hI, fr_w hfi (by decide +kernel), fr_w hfc (by decide +kernel), (show xEn (i 146) (i 148) ((i 146) : Int32) ((i 148) : Int32) from Or.inr ⟨rfl, rfl⟩), (show StR (c 107) k1 f v1 (i 110).toInt ((-1) : Int32) from Or.inl ⟨by unfold StB; omega, by decide⟩), (show StU (c 107) (c 107) k1 f v1 (i 110).toInt from Or.inl ⟨by unfold StB; omega, rfl⟩)⟩

set_option maxHeartbeats 4000000 in
set_option maxRecDepth 100000 in
theorem s_X12_standard_e (l : Launch) (D : va_G) (sz : Nat) (o : Nat) (a : Nat → Nat) (t : Nat → ClassId) (i : Nat → Int32) (q : Int64) (c : Nat → Nat → Int32) (d : Nat → Nat → Int64) (k1 : Int32) (f1 : Int32) (v1 : Int32) (hI : mInv i c) (hs_S : SJ (c 3) (c 6) (c 9) (c 10) (c 11) (c 13) (i 2).toInt (i 5).toInt (i 8).toInt) (hs_J : TJ (c 3) (c 6) (c 23) (c 24) (c 29) (c 30) (i 5).toInt (i 22).toInt (i 27).toInt) : Met l yX12_standard wm_X12_standard ({ frames := 1, cells := 0, slots := 0, locals := 25 }) (va_Pc [.ref o, .int k1, .int f1, .int v1] (pB D sz (mW o a t i q c d) (mT t))) (va_Qi (fun (r : Int32) (u : MS) => True ∧ mInv u.1 u.2.2.1 ∧ (∀ k, k ∉ ([22, 27] : List Nat) → u.1 k = i k) ∧ (∀ k, k ∉ ([4] : List Nat) → u.2.2.1 k = c k) ∧ (SJ (u.2.2.1 3) (u.2.2.1 6) (u.2.2.1 9) (u.2.2.1 10) (u.2.2.1 11) (u.2.2.1 13) (u.1 2).toInt (u.1 5).toInt (u.1 8).toInt) ∧ (TJ (u.2.2.1 3) (u.2.2.1 6) (u.2.2.1 23) (u.2.2.1 24) (u.2.2.1 29) (u.2.2.1 30) (u.1 5).toInt (u.1 22).toInt (u.1 27).toInt) ∧ (StR (c 4) k1 f1 v1 (i 2).toInt r) ∧ (StU (c 4) (u.2.2.1 4) k1 f1 v1 (i 2).toInt)) (oC D (va_A (mW o a t i q c d) sz) (fun u : MS => mW o a t u.1 u.2.1 u.2.2.1 u.2.2.2) (fun _ => [])) (va_A (mW o a t i q c d) sz)) 0 0 (va_A (mW o a t i q c d) sz) := by
  refine Met.ofW (cc := cX12_standard) (maxL := 5) (ret := (some .int)) (by decide +kernel) rfl ?_
  intro p e s m args below meth cd s₁ B hml hv
  obtain ⟨rfl, hsz, hP, hK, hD0⟩ := hv
  have hx := B.exec
  have hb := B.bytes
  have hr := B.returns
  have hts := atoms_spec (ws := wm_X12_standard) B.pre
  have hown : s.vm.findClass RX12 = some m.cls := findClass_of_methodNamed B.named
  have hlocks := B.notSynchronized
  subst hsz
  have hD := hD0.self (sz := s.heap.size)
  generalize hAe : va_A (mW o a t i q c d) s.heap.size = A at hD ⊢
  have hA : ∀ q : Nat, s.heap.size ≤ q → A q := fun q h => by rw [← hAe]; exact Or.inr h
  have hS : va_S A s.heap s.heap [] := va_S.rf
  have hfi : ∀ k, k ∉ ([] : List Nat) → i k = i k := fun _ _ => rfl
  have hfc : ∀ k, k ∉ ([] : List Nat) → c k = c k := fun _ _ => rfl
  have hl := lv_entry ([.ref o, .int k1, .int f1, .int v1]) (n := 5) (Nat.le_of_ble_eq_true rfl)
  rw [lg_entry_eq]
  generalize (lg_sl ([.ref o, .int k1, .int f1, .int v1]) ++ List.replicate (5 - (lg_sl ([.ref o, .int k1, .int f1, .int v1])).length) Slot.unset).toArray = ls at hl ⊢
  have hl : lv_has ls 5 [(0, .ref o), (1, .int k1), (2, .int f1), (3, .int v1)] := hl
  have rb2_i : 6 ≤ (i 2).toInt ∧ (i 2).toInt ≤ 24 := hI.1 2
  refine lv_iload_n hx hb dX12_standard_0 rfl (lv_at hl 1 rfl) ?_
  refine lv_i2l (v := k1.toInt64) hx hb dX12_standard_1 rfl ?_
  refine lv_lconst (v := 0) hx hb dX12_standard_2 (by decide +kernel) ?_
  refine lv_aload_n hx hb dX12_standard_3 rfl (lv_at hl 0 rfl) ?_
  refine mget_2 (v := (i 2)) rfl hx hb hts (fun _ h => List.mem_cons_of_mem _ (List.mem_append_right _ h)) hown hK hP (hts (.fieldLink RX12 151 "TalePlayModel" "kinds" "I") (List.mem_cons_of_mem _ (List.mem_append_left _ (List.mem_of_getElem? (i := 0) rfl)))) dX12_standard_4 ?_
  refine lv_iconst (v := 1) hx hb dX12_standard_7 (by decide +kernel) ?_
  refine lv_isub hx hb dX12_standard_8 ?_
  refine lv_topi (fun x1 ex1 => ?_)
  have tx1 := ti_sub (a := (i 2).toInt) (b := 1) ex1 rfl (by decide +kernel) (by omega) (by omega)
  refine lv_i2l (v := x1.toInt64) hx hb dX12_standard_9 rfl ?_
  have hPc := hP.sub (ws' := []) [] rfl
  have hKc := hK.sub (tys' := []) [] rfl
  refine ro_calli (va_runS (As := [.long k1.toInt64, .long 0, .long x1.toInt64]) (rest := []) ⟨hx, hb, hml, hown, hts⟩ (c_X12_in l D s.heap.size k1.toInt64 0 x1.toInt64 k1.toInt 0 ((i 2).toInt - 1) ((Int32.toInt_toInt64 k1).trans rfl) (by decide +kernel) ((Int32.toInt_toInt64 x1).trans tx1)) (va_cwS 3 hts gm_X12_standard_X12_in rfl rfl rfl (by decide +kernel) ⟨Nat.le_of_ble_eq_true rfl, Nat.le_of_ble_eq_true rfl⟩) (pA_S hKc hPc) rfl rfl hl.1 rfl (lv_room (Nat.le_of_ble_eq_true rfl)) dX12_standard_10 ⟨Nat.le_of_ble_eq_true rfl, Nat.le_of_ble_eq_true rfl⟩) hS hA hP (fun r2 u2 H locs hw2 hP hS => ?_)
  have hw2 : r2 = if (0 ≤ k1.toInt ∧ k1.toInt ≤ ((i 2).toInt - 1)) then 1 else 0 := hw2
  refine lv_if_eq (tgt := 44) hx hb dX12_standard_13 (by decide +kernel) (fun c3 => ?_) (fun c3 => ?_)
  · have f3 := fl_f hw2 c3
    refine lv_iconst (v := (-1)) hx hb dX12_standard_44 (by decide +kernel) ?_
    exact rw_iret (i, q, c, d) hx hb hr hlocks hS (hK.sub (tys' := []) [] rfl) hP hD dX12_standard_45 ⟨trivial, hI, fr_w hfi (by decide +kernel), fr_w hfc (by decide +kernel), (show SJ (c 3) (c 6) (c 9) (c 10) (c 11) (c 13) ((i 2) : Int32).toInt ((i 5) : Int32).toInt ((i 8) : Int32).toInt from hs_S), (show TJ (c 3) (c 6) (c 23) (c 24) (c 29) (c 30) ((i 5) : Int32).toInt ((i 22) : Int32).toInt ((i 27) : Int32).toInt from hs_J), (show StR (c 4) k1 f1 v1 (i 2).toInt ((-1) : Int32) from Or.inl ⟨by unfold StB; omega, by decide⟩), (show StU (c 4) (c 4) k1 f1 v1 (i 2).toInt from Or.inl ⟨by unfold StB; omega, rfl⟩)⟩
  · have f3 := fl_t hw2 c3
    refine lv_iload_n hx hb dX12_standard_16 rfl (lv_at hl 2 rfl) ?_
    refine lv_i2l (v := f1.toInt64) hx hb dX12_standard_17 rfl ?_
    refine lv_lconst (v := 0) hx hb dX12_standard_18 (by decide +kernel) ?_
    refine lv_ldc2 (v := 5) hx hb hown (hts (.constantLong RX12 170 (5)) (List.mem_cons_of_mem _ (List.mem_append_left _ (List.mem_of_getElem? (i := 5) rfl)))) dX12_standard_19 ?_
    have hPc := hP.sub (ws' := []) [] rfl
    have hKc := hK.sub (tys' := []) [] rfl
    refine ro_calli (va_runS (As := [.long f1.toInt64, .long 0, .long 5]) (rest := []) ⟨hx, hb, hml, hown, hts⟩ (c_X12_in l D H.size f1.toInt64 0 5 f1.toInt 0 5 ((Int32.toInt_toInt64 f1).trans rfl) (by decide +kernel) (by decide +kernel)) (va_cwS 3 hts gm_X12_standard_X12_in rfl rfl rfl (by decide +kernel) ⟨Nat.le_of_ble_eq_true rfl, Nat.le_of_ble_eq_true rfl⟩) (pA_S hKc hPc) rfl rfl hl.1 rfl (lv_room (Nat.le_of_ble_eq_true rfl)) dX12_standard_22 ⟨Nat.le_of_ble_eq_true rfl, Nat.le_of_ble_eq_true rfl⟩) hS hA hP (fun r4 u4 H locs hw4 hP hS => ?_)
    have hw4 : r4 = if (0 ≤ f1.toInt ∧ f1.toInt ≤ 5) then 1 else 0 := hw4
    refine lv_if_eq (tgt := 44) hx hb dX12_standard_25 (by decide +kernel) (fun c5 => ?_) (fun c5 => ?_)
    · have f5 := fl_f hw4 c5
      refine lv_iconst (v := (-1)) hx hb dX12_standard_44 (by decide +kernel) ?_
      exact rw_iret (i, q, c, d) hx hb hr hlocks hS (hK.sub (tys' := []) [] rfl) hP hD dX12_standard_45 ⟨trivial, hI, fr_w hfi (by decide +kernel), fr_w hfc (by decide +kernel), (show SJ (c 3) (c 6) (c 9) (c 10) (c 11) (c 13) ((i 2) : Int32).toInt ((i 5) : Int32).toInt ((i 8) : Int32).toInt from hs_S), (show TJ (c 3) (c 6) (c 23) (c 24) (c 29) (c 30) ((i 5) : Int32).toInt ((i 22) : Int32).toInt ((i 27) : Int32).toInt from hs_J), (show StR (c 4) k1 f1 v1 (i 2).toInt ((-1) : Int32) from Or.inl ⟨by unfold StB; omega, by decide⟩), (show StU (c 4) (c 4) k1 f1 v1 (i 2).toInt from Or.inl ⟨by unfold StB; omega, rfl⟩)⟩
    · have f5 := fl_t hw4 c5
      refine lv_iload_n hx hb dX12_standard_28 rfl (lv_at hl 3 rfl) ?_
      refine lv_i2l (v := v1.toInt64) hx hb dX12_standard_29 rfl ?_
      refine lv_lconst (v := 0) hx hb dX12_standard_30 (by decide +kernel) ?_
      refine lv_lconst (v := 1) hx hb dX12_standard_31 (by decide +kernel) ?_
      have hPc := hP.sub (ws' := []) [] rfl
      have hKc := hK.sub (tys' := []) [] rfl
      refine ro_calli (va_runS (As := [.long v1.toInt64, .long 0, .long 1]) (rest := []) ⟨hx, hb, hml, hown, hts⟩ (c_X12_in l D H.size v1.toInt64 0 1 v1.toInt 0 1 ((Int32.toInt_toInt64 v1).trans rfl) (by decide +kernel) (by decide +kernel)) (va_cwS 3 hts gm_X12_standard_X12_in rfl rfl rfl (by decide +kernel) ⟨Nat.le_of_ble_eq_true rfl, Nat.le_of_ble_eq_true rfl⟩) (pA_S hKc hPc) rfl rfl hl.1 rfl (lv_room (Nat.le_of_ble_eq_true rfl)) dX12_standard_32 ⟨Nat.le_of_ble_eq_true rfl, Nat.le_of_ble_eq_true rfl⟩) hS hA hP (fun r6 u6 H locs hw6 hP hS => ?_)
      have hw6 : r6 = if (0 ≤ v1.toInt ∧ v1.toInt ≤ 1) then 1 else 0 := hw6
      refine lv_if_ne (tgt := 46) hx hb dX12_standard_35 (by decide +kernel) (fun c7 => ?_) (fun c7 => ?_)
      · have f7 := fl_t hw6 c7
        refine lv_aload_n hx hb dX12_standard_46 rfl (lv_at hl 0 rfl) ?_
        refine mget_4 hx hb hts (fun _ h => List.mem_cons_of_mem _ (List.mem_append_right _ h)) hown hK hP (hts (.fieldLink RX12 16 "TalePlayModel" "defaults" "[I") (List.mem_cons_of_mem _ (List.mem_append_left _ (List.mem_of_getElem? (i := 6) rfl)))) dX12_standard_47 ?_
        refine lv_bipush (v := 6) hx hb dX12_standard_50 (by decide +kernel) ?_
        refine lv_iload_n hx hb dX12_standard_52 rfl (lv_at hl 1 rfl) ?_
        refine lv_imul hx hb dX12_standard_53 ?_
        refine lv_topi (fun x8 ex8 => ?_)
        have tx8 := ti_mul (a := 6) (b := k1.toInt) ex8 (by decide +kernel) rfl (by omega) (by omega)
        refine lv_iload_n hx hb dX12_standard_54 rfl (lv_at hl 2 rfl) ?_
        refine lv_iadd hx hb dX12_standard_55 ?_
        refine lv_topi (fun x9 ex9 => ?_)
        have tx9 := ti_add (a := (6 * k1.toInt)) (b := f1.toInt) ex9 tx8 rfl (by omega) (by omega)
        refine mld_4 hx hb hK hP (vp_in_iff.mpr (by have h9 : x9.toInt = ((6 * k1.toInt) + f1.toInt) := tx9; omega)) dX12_standard_56 (fun x10 ex10 => ?_)
        have rx10 : x10.toInt = -9 ∨ (0 ≤ x10.toInt ∧ x10.toInt ≤ 1) := by rw [ex10]; exact hI.2 4 _
        refine lv_istore (lv' := [(4, .int x10), (0, .ref o), (1, .int k1), (2, .int f1), (3, .int v1)]) hx hb dX12_standard_57 hl (by decide +kernel) rfl (fun ls hl => ?_)
        refine lv_aload_n hx hb dX12_standard_59 rfl (lv_at hl 1 rfl) ?_
        refine mget_4 hx hb hts (fun _ h => List.mem_cons_of_mem _ (List.mem_append_right _ h)) hown hK hP (hts (.fieldLink RX12 16 "TalePlayModel" "defaults" "[I") (List.mem_cons_of_mem _ (List.mem_append_left _ (List.mem_of_getElem? (i := 6) rfl)))) dX12_standard_60 ?_
        refine lv_bipush (v := 6) hx hb dX12_standard_63 (by decide +kernel) ?_
        refine lv_iload_n hx hb dX12_standard_65 rfl (lv_at hl 2 rfl) ?_
        refine lv_imul hx hb dX12_standard_66 ?_
        refine lv_topi (fun x11 ex11 => ?_)
        have tx11 := ti_mul (a := 6) (b := k1.toInt) ex11 (by decide +kernel) rfl (by omega) (by omega)
        refine lv_iload_n hx hb dX12_standard_67 rfl (lv_at hl 3 rfl) ?_
        refine lv_iadd hx hb dX12_standard_68 ?_
        refine lv_topi (fun x12 ex12 => ?_)
        have tx12 := ti_add (a := (6 * k1.toInt)) (b := f1.toInt) ex12 tx11 rfl (by omega) (by omega)
        refine lv_iload_n hx hb dX12_standard_69 rfl (lv_at hl 4 rfl) ?_
        refine mst_4 hx hb hK hP hD hS (vp_in_iff.mpr (by have h9 : x12.toInt = ((6 * k1.toInt) + f1.toInt) := tx12; omega)) dX12_standard_70 (fun H locs hP hD hS => ?_)
        have hI := mInv_c hI (k := 4) (j := (x12 : Int32).toNatClampNeg) (x := v1) (show (v1 : Int32).toInt = -9 ∨ (0 ≤ (v1 : Int32).toInt ∧ (v1 : Int32).toInt ≤ 1) from by omega)
        have hfc : ∀ k, k ∉ ([4] : List Nat) → (updA c 4 (x12 : Int32).toNatClampNeg v1) k = c k := fr_cz hfc (by decide +kernel) (by decide +kernel)
        refine lv_aload_n hx hb dX12_standard_71 rfl (lv_at hl 1 rfl) ?_
        refine al_callv (va_runV (As := []) (rest := []) ⟨hx, hb, hml, hown, hts⟩ (s_X12_endTale l D H.size o a t i q (updA c 4 (x12 : Int32).toNatClampNeg v1) d  hI ) (cwV 0 hts gm_X12_standard_X12_endTale rfl rfl rfl (by decide +kernel) ⟨Nat.le_of_ble_eq_true rfl, Nat.le_of_ble_eq_true rfl⟩) (pB_V hK hP hD (ci := 12) (q0 := 0) rfl rfl) rfl rfl hl.1 rfl (lv_room (Nat.le_of_ble_eq_true rfl)) dX12_standard_72 ⟨Nat.le_of_ble_eq_true rfl, Nat.le_of_ble_eq_true rfl⟩) hS hA hP hD (fun u13 H locs hw13 hP hD hS => ?_)
        obtain ⟨i13, q13, c13, d13⟩ := u13
        have hw13 : True ∧ mInv i13 c13 ∧ (∀ k, k ∉ ([22, 27] : List Nat) → i13 k = i k) ∧ (∀ k, k ∉ ([] : List Nat) → c13 k = (updA c 4 (x12 : Int32).toNatClampNeg v1) k) ∧ ((i13 22).toInt = -9) ∧ ((i13 27).toInt = 0) := hw13
        obtain ⟨hw13, hI, hei13, hec13, hxp13_0, hxp13_1⟩ := hw13
        have hxp13_0 : (i13 22).toInt = -9 := hxp13_0
        have hxp13_1 : (i13 27).toInt = 0 := hxp13_1
        have hfi : ∀ k, k ∉ ([22, 27] : List Nat) → i13 k = i k := fr_z hfi hei13 (by decide +kernel) (by decide +kernel)
        have hfc : ∀ k, k ∉ ([4] : List Nat) → c13 k = c k := fr_z hfc hec13 (by decide +kernel) (by decide +kernel)
        have hP : va_P D vwCl (mW o a t i13 q13 c13 d13) H := hP
        have hD : va_D A (mW o a t i13 q13 c13 d13) := hD
        refine lv_iload hx hb dX12_standard_75 (lv_at hl 0 rfl) ?_
        exact rw_iret (i13, q13, c13, d13) hx hb hr hlocks hS (hK.sub (tys' := []) [] rfl) hP hD dX12_standard_77 ⟨trivial, hI, fr_w hfi (by decide +kernel), fr_w hfc (by decide +kernel), (show SJ (c13 3) (c13 6) (c13 9) (c13 10) (c13 11) (c13 13) ((i13 2) : Int32).toInt ((i13 5) : Int32).toInt ((i13 8) : Int32).toInt from by rw [show c13 3 = (updA c 4 (x12 : Int32).toNatClampNeg v1) 3 from hec13 3 (by decide +kernel), show c13 6 = (updA c 4 (x12 : Int32).toNatClampNeg v1) 6 from hec13 6 (by decide +kernel), show c13 9 = (updA c 4 (x12 : Int32).toNatClampNeg v1) 9 from hec13 9 (by decide +kernel), show c13 10 = (updA c 4 (x12 : Int32).toNatClampNeg v1) 10 from hec13 10 (by decide +kernel), show c13 11 = (updA c 4 (x12 : Int32).toNatClampNeg v1) 11 from hec13 11 (by decide +kernel), show c13 13 = (updA c 4 (x12 : Int32).toNatClampNeg v1) 13 from hec13 13 (by decide +kernel), show i13 2 = i 2 from hei13 2 (by decide +kernel), show i13 5 = i 5 from hei13 5 (by decide +kernel), show i13 8 = i 8 from hei13 8 (by decide +kernel)]; show SJ (c 3) (c 6) (c 9) (c 10) (c 11) (c 13) (i 2).toInt (i 5).toInt (i 8).toInt; exact hs_S), (show TJ (c13 3) (c13 6) (c13 23) (c13 24) (c13 29) (c13 30) ((i13 5) : Int32).toInt ((i13 22) : Int32).toInt ((i13 27) : Int32).toInt from TJ_no hxp13_0), (show StR (c 4) k1 f1 v1 (i 2).toInt (x10 : Int32) from Or.inr ⟨by unfold StB; omega, (ix_n (f := c 4) (s := x9) (show (x9 : Int32).toInt = k1.toInt * 6 + f1.toInt from by omega) ex10).symm⟩), (show StU (c 4) (c13 4) k1 f1 v1 (i 2).toInt from Or.inr ⟨by unfold StB; omega, by rw [show c13 4 = (updA c 4 (x12 : Int32).toNatClampNeg v1) 4 from hec13 4 (by decide +kernel)]; show upd (c 4) (x12 : Int32).toNatClampNeg v1 = _; rw [cl_t (show (x12 : Int32).toInt = k1.toInt * 6 + f1.toInt from by omega)]⟩)⟩
      · have f7 := fl_f hw6 c7
        refine lv_iload_n hx hb dX12_standard_38 rfl (lv_at hl 3 rfl) ?_
        refine lv_bipush (v := (-9)) hx hb dX12_standard_39 (by decide +kernel) ?_
        refine lv_icmp_eq (tgt := 46) hx hb dX12_standard_41 (by decide +kernel) (fun c14 => ?_) (fun c14 => ?_)
        · have f14 := (ti_eq (a := v1.toInt) (b := (-9)) rfl (by decide +kernel)).mp c14
          refine lv_aload_n hx hb dX12_standard_46 rfl (lv_at hl 0 rfl) ?_
          refine mget_4 hx hb hts (fun _ h => List.mem_cons_of_mem _ (List.mem_append_right _ h)) hown hK hP (hts (.fieldLink RX12 16 "TalePlayModel" "defaults" "[I") (List.mem_cons_of_mem _ (List.mem_append_left _ (List.mem_of_getElem? (i := 6) rfl)))) dX12_standard_47 ?_
          refine lv_bipush (v := 6) hx hb dX12_standard_50 (by decide +kernel) ?_
          refine lv_iload_n hx hb dX12_standard_52 rfl (lv_at hl 1 rfl) ?_
          refine lv_imul hx hb dX12_standard_53 ?_
          refine lv_topi (fun x15 ex15 => ?_)
          have tx15 := ti_mul (a := 6) (b := k1.toInt) ex15 (by decide +kernel) rfl (by omega) (by omega)
          refine lv_iload_n hx hb dX12_standard_54 rfl (lv_at hl 2 rfl) ?_
          refine lv_iadd hx hb dX12_standard_55 ?_
          refine lv_topi (fun x16 ex16 => ?_)
          have tx16 := ti_add (a := (6 * k1.toInt)) (b := f1.toInt) ex16 tx15 rfl (by omega) (by omega)
          refine mld_4 hx hb hK hP (vp_in_iff.mpr (by have h9 : x16.toInt = ((6 * k1.toInt) + f1.toInt) := tx16; omega)) dX12_standard_56 (fun x17 ex17 => ?_)
          have rx17 : x17.toInt = -9 ∨ (0 ≤ x17.toInt ∧ x17.toInt ≤ 1) := by rw [ex17]; exact hI.2 4 _
          refine lv_istore (lv' := [(4, .int x17), (0, .ref o), (1, .int k1), (2, .int f1), (3, .int v1)]) hx hb dX12_standard_57 hl (by decide +kernel) rfl (fun ls hl => ?_)
          refine lv_aload_n hx hb dX12_standard_59 rfl (lv_at hl 1 rfl) ?_
          refine mget_4 hx hb hts (fun _ h => List.mem_cons_of_mem _ (List.mem_append_right _ h)) hown hK hP (hts (.fieldLink RX12 16 "TalePlayModel" "defaults" "[I") (List.mem_cons_of_mem _ (List.mem_append_left _ (List.mem_of_getElem? (i := 6) rfl)))) dX12_standard_60 ?_
          refine lv_bipush (v := 6) hx hb dX12_standard_63 (by decide +kernel) ?_
          refine lv_iload_n hx hb dX12_standard_65 rfl (lv_at hl 2 rfl) ?_
          refine lv_imul hx hb dX12_standard_66 ?_
          refine lv_topi (fun x18 ex18 => ?_)
          have tx18 := ti_mul (a := 6) (b := k1.toInt) ex18 (by decide +kernel) rfl (by omega) (by omega)
          refine lv_iload_n hx hb dX12_standard_67 rfl (lv_at hl 3 rfl) ?_
          refine lv_iadd hx hb dX12_standard_68 ?_
          refine lv_topi (fun x19 ex19 => ?_)
          have tx19 := ti_add (a := (6 * k1.toInt)) (b := f1.toInt) ex19 tx18 rfl (by omega) (by omega)
          refine lv_iload_n hx hb dX12_standard_69 rfl (lv_at hl 4 rfl) ?_
          refine mst_4 hx hb hK hP hD hS (vp_in_iff.mpr (by have h9 : x19.toInt = ((6 * k1.toInt) + f1.toInt) := tx19; omega)) dX12_standard_70 (fun H locs hP hD hS => ?_)
          have hI := mInv_c hI (k := 4) (j := (x19 : Int32).toNatClampNeg) (x := v1) (show (v1 : Int32).toInt = -9 ∨ (0 ≤ (v1 : Int32).toInt ∧ (v1 : Int32).toInt ≤ 1) from by omega)
          have hfc : ∀ k, k ∉ ([4] : List Nat) → (updA c 4 (x19 : Int32).toNatClampNeg v1) k = c k := fr_cz hfc (by decide +kernel) (by decide +kernel)
          refine lv_aload_n hx hb dX12_standard_71 rfl (lv_at hl 1 rfl) ?_
          refine al_callv (va_runV (As := []) (rest := []) ⟨hx, hb, hml, hown, hts⟩ (s_X12_endTale l D H.size o a t i q (updA c 4 (x19 : Int32).toNatClampNeg v1) d  hI ) (cwV 0 hts gm_X12_standard_X12_endTale rfl rfl rfl (by decide +kernel) ⟨Nat.le_of_ble_eq_true rfl, Nat.le_of_ble_eq_true rfl⟩) (pB_V hK hP hD (ci := 12) (q0 := 0) rfl rfl) rfl rfl hl.1 rfl (lv_room (Nat.le_of_ble_eq_true rfl)) dX12_standard_72 ⟨Nat.le_of_ble_eq_true rfl, Nat.le_of_ble_eq_true rfl⟩) hS hA hP hD (fun u20 H locs hw20 hP hD hS => ?_)
          obtain ⟨i20, q20, c20, d20⟩ := u20
          have hw20 : True ∧ mInv i20 c20 ∧ (∀ k, k ∉ ([22, 27] : List Nat) → i20 k = i k) ∧ (∀ k, k ∉ ([] : List Nat) → c20 k = (updA c 4 (x19 : Int32).toNatClampNeg v1) k) ∧ ((i20 22).toInt = -9) ∧ ((i20 27).toInt = 0) := hw20
          obtain ⟨hw20, hI, hei20, hec20, hxp20_0, hxp20_1⟩ := hw20
          have hxp20_0 : (i20 22).toInt = -9 := hxp20_0
          have hxp20_1 : (i20 27).toInt = 0 := hxp20_1
          have hfi : ∀ k, k ∉ ([22, 27] : List Nat) → i20 k = i k := fr_z hfi hei20 (by decide +kernel) (by decide +kernel)
          have hfc : ∀ k, k ∉ ([4] : List Nat) → c20 k = c k := fr_z hfc hec20 (by decide +kernel) (by decide +kernel)
          have hP : va_P D vwCl (mW o a t i20 q20 c20 d20) H := hP
          have hD : va_D A (mW o a t i20 q20 c20 d20) := hD
          refine lv_iload hx hb dX12_standard_75 (lv_at hl 0 rfl) ?_
          exact rw_iret (i20, q20, c20, d20) hx hb hr hlocks hS (hK.sub (tys' := []) [] rfl) hP hD dX12_standard_77 ⟨trivial, hI, fr_w hfi (by decide +kernel), fr_w hfc (by decide +kernel), (show SJ (c20 3) (c20 6) (c20 9) (c20 10) (c20 11) (c20 13) ((i20 2) : Int32).toInt ((i20 5) : Int32).toInt ((i20 8) : Int32).toInt from by rw [show c20 3 = (updA c 4 (x19 : Int32).toNatClampNeg v1) 3 from hec20 3 (by decide +kernel), show c20 6 = (updA c 4 (x19 : Int32).toNatClampNeg v1) 6 from hec20 6 (by decide +kernel), show c20 9 = (updA c 4 (x19 : Int32).toNatClampNeg v1) 9 from hec20 9 (by decide +kernel), show c20 10 = (updA c 4 (x19 : Int32).toNatClampNeg v1) 10 from hec20 10 (by decide +kernel), show c20 11 = (updA c 4 (x19 : Int32).toNatClampNeg v1) 11 from hec20 11 (by decide +kernel), show c20 13 = (updA c 4 (x19 : Int32).toNatClampNeg v1) 13 from hec20 13 (by decide +kernel), show i20 2 = i 2 from hei20 2 (by decide +kernel), show i20 5 = i 5 from hei20 5 (by decide +kernel), show i20 8 = i 8 from hei20 8 (by decide +kernel)]; show SJ (c 3) (c 6) (c 9) (c 10) (c 11) (c 13) (i 2).toInt (i 5).toInt (i 8).toInt; exact hs_S), (show TJ (c20 3) (c20 6) (c20 23) (c20 24) (c20 29) (c20 30) ((i20 5) : Int32).toInt ((i20 22) : Int32).toInt ((i20 27) : Int32).toInt from TJ_no hxp20_0), (show StR (c 4) k1 f1 v1 (i 2).toInt (x17 : Int32) from Or.inr ⟨by unfold StB; omega, (ix_n (f := c 4) (s := x16) (show (x16 : Int32).toInt = k1.toInt * 6 + f1.toInt from by omega) ex17).symm⟩), (show StU (c 4) (c20 4) k1 f1 v1 (i 2).toInt from Or.inr ⟨by unfold StB; omega, by rw [show c20 4 = (updA c 4 (x19 : Int32).toNatClampNeg v1) 4 from hec20 4 (by decide +kernel)]; show upd (c 4) (x19 : Int32).toNatClampNeg v1 = _; rw [cl_t (show (x19 : Int32).toInt = k1.toInt * 6 + f1.toInt from by omega)]⟩)⟩
        · have f14 := mt (ti_eq (a := v1.toInt) (b := (-9)) rfl (by decide +kernel)).mpr c14
          refine lv_iconst (v := (-1)) hx hb dX12_standard_44 (by decide +kernel) ?_
          exact rw_iret (i, q, c, d) hx hb hr hlocks hS (hK.sub (tys' := []) [] rfl) hP hD dX12_standard_45 ⟨trivial, hI, fr_w hfi (by decide +kernel), fr_w hfc (by decide +kernel), (show SJ (c 3) (c 6) (c 9) (c 10) (c 11) (c 13) ((i 2) : Int32).toInt ((i 5) : Int32).toInt ((i 8) : Int32).toInt from hs_S), (show TJ (c 3) (c 6) (c 23) (c 24) (c 29) (c 30) ((i 5) : Int32).toInt ((i 22) : Int32).toInt ((i 27) : Int32).toInt from hs_J), (show StR (c 4) k1 f1 v1 (i 2).toInt ((-1) : Int32) from Or.inl ⟨by unfold StB; omega, by decide⟩), (show StU (c 4) (c 4) k1 f1 v1 (i 2).toInt from Or.inl ⟨by unfold StB; omega, rfl⟩)⟩

def wm_X10_kindIs_e : List Cond := .code yX10_kindIs cX10_kindIs 5 (some .boolean) :: (([.fieldLink RX10 9 "TalePlay$World" "parents" "[I"] : List Cond) ++ wsX100)
set_option maxHeartbeats 4000000 in
set_option maxRecDepth 100000 in
theorem x_X10_kindIs_e (l : Launch) (D : va_G) (sz : Nat) (sk : Value) (a : Nat → Nat) (t : Nat → ClassId) (i : Nat → Int32) (q : Int64) (c : Nat → Nat → Int32) (d : Nat → Nat → Int64) (k1 : Int32) (k2 : Int32) (hI : xInv i c) (hk1 : 0 ≤ k1.toInt ∧ k1.toInt ≤ 23) (hk2 : 0 ≤ k2.toInt) (hs_D : PD (c 105)) : Met l yX10_kindIs wm_X10_kindIs_e ({ frames := 0, cells := 0, slots := 0, locals := 0 }) (va_Pc [.ref (a 104), .int k1, .int k2] (yA (a 186) D sz (xwW sk a t i q c d) (xtW t))) (va_Qi (fun (r : Int32) (_ : Unit) => ((0 ≤ r.toInt ∧ r.toInt ≤ 1) ∧ (Sm r (Ch (kF (c 105)) k1.toInt k2.toInt)))) oA (ro sz)) 0 0 (ro sz) := by
  refine Met.ofW (cc := cX10_kindIs) (maxL := 5) (ret := (some .boolean)) (by decide +kernel) rfl ?_
  intro p e s m args below meth cd s₁ B hml hv
  obtain ⟨rfl, ⟨hsz, hP, hK⟩, hN, hZ⟩ := hv
  have hx := B.exec
  have hb := B.bytes
  have hr := B.returns
  have hts := atoms_spec (ws := wm_X10_kindIs_e) B.pre
  have hown : s.vm.findClass RX10 = some m.cls := findClass_of_methodNamed B.named
  have hlocks := B.notSynchronized
  subst hsz
  have hA : ∀ q : Nat, s.heap.size ≤ q → ro s.heap.size q := fun _ h => h
  have hS : va_S (ro s.heap.size) s.heap s.heap [] := va_S.rf
  have hl := lv_entry ([.ref (a 104), .int k1, .int k2]) (n := 5) (Nat.le_of_ble_eq_true rfl)
  rw [lg_entry_eq]
  generalize (lg_sl ([.ref (a 104), .int k1, .int k2]) ++ List.replicate (5 - (lg_sl ([.ref (a 104), .int k1, .int k2])).length) Slot.unset).toArray = ls at hl ⊢
  have hl : lv_has ls 5 [(0, .ref (a 104)), (1, .int k1), (2, .int k2)] := hl
  refine lv_iload_n hx hb dX10_kindIs_0 rfl (lv_at hl 1 rfl) ?_
  refine lv_istore_n (lv' := [(3, .int k1), (0, .ref (a 104)), (1, .int k1), (2, .int k2)]) hx hb dX10_kindIs_1 rfl hl (by decide +kernel) rfl (fun ls hl => ?_)
  refine lv_iconst (v := 0) hx hb dX10_kindIs_2 (by decide +kernel) ?_
  refine lv_istore (lv' := [(4, .int 0), (3, .int k1), (0, .ref (a 104)), (1, .int k1), (2, .int k2)]) hx hb dX10_kindIs_3 hl (by decide +kernel) rfl (fun ls hl => ?_)
  have lp1 : ∀ (fu : Nat) (y1_4 : Int32) (y1_3 : Int32), (0 ≤ y1_4.toInt ∧ y1_4.toInt ≤ 24) → (y1_3.toInt = -9 ∨ (0 ≤ y1_3.toInt ∧ y1_3.toInt ≤ 23)) → (Ch (kF (c 105)) k1.toInt k2.toInt ↔ Ch (kF (c 105)) y1_3.toInt k2.toInt) → (y1_3.toInt = -9 ∨ y1_3.toInt + y1_4.toInt ≤ 23) → (24 - y1_4.toInt).toNat < fu → ∀ (H : Heap) (locs : List Loc) (ls : Array Slot), va_P D vwCl (xwW sk a t i q c d) H → va_S (ro s.heap.size) s.heap H locs → lv_has ls 5 [(4, .int y1_4), (3, .int y1_3), (0, .ref (a 104)), (1, .int k1), (2, .int k2)] → W p l e (headSpec wm_X10_kindIs_e ({ frames := 0, cells := 0, slots := 0, locals := 0 })).room s m ([.ref (a 104), .int k1, .int k2] : List Value).toArray below meth cd H locs 0 0 (MQ below (va_Qi (fun (r : Int32) (_ : Unit) => ((0 ≤ r.toInt ∧ r.toInt ≤ 1) ∧ (Sm r (Ch (kF (c 105)) k1.toInt k2.toInt)))) oA (ro s.heap.size)) ([.ref (a 104), .int k1, .int k2] : List Value).toArray s 0 0 (ro s.heap.size)) (F0 m 5 ls []) := by
    intro fu
    induction fu with
    | zero => intro y1_4 y1_3 hy1_4 hy1_3 hz1_0 hz1_1 hm; exact absurd hm (Nat.not_lt_zero _)
    | succ fu ih =>
      intro y1_4 y1_3 hy1_4 hy1_3 hz1_0 hz1_1 hm H locs ls hP hS hl
      have ih1 := ih
      refine lv_iload hx hb dX10_kindIs_5 (lv_at hl 0 rfl) ?_
      refine lv_bipush (v := 24) hx hb dX10_kindIs_7 (by decide +kernel) ?_
      refine lv_icmp_ge (tgt := 38) hx hb dX10_kindIs_9 (by decide +kernel) (fun c2 => ?_) (fun c2 => ?_)
      · have f2 := (ti_le (a := 24) (b := y1_4.toInt) (by decide +kernel) rfl).mp c2
        refine lv_iconst (v := 0) hx hb dX10_kindIs_38 (by decide +kernel) ?_
        exact ro_zret hx hb hr hlocks hS rfl dX10_kindIs_39 ⟨(show 0 ≤ (0 : Int32).toInt ∧ (0 : Int32).toInt ≤ 1 from by decide +kernel), (show Sm (0 : Int32) (Ch (kF (c 105)) k1.toInt k2.toInt) from sm_0 (fun h9 => by have h8 := hz1_0.mp h9; rw [show y1_3.toInt = -9 by omega] at h8; have h7 := Ch_nd kF_9 h8; omega))⟩
      · have f2 := mt (ti_le (a := 24) (b := y1_4.toInt) (by decide +kernel) rfl).mpr c2
        refine lv_iload_n hx hb dX10_kindIs_12 rfl (lv_at hl 1 rfl) ?_
        refine lv_bipush (v := (-9)) hx hb dX10_kindIs_13 (by decide +kernel) ?_
        refine lv_icmp_eq (tgt := 38) hx hb dX10_kindIs_15 (by decide +kernel) (fun c3 => ?_) (fun c3 => ?_)
        · have f3 := (ti_eq (a := y1_3.toInt) (b := (-9)) rfl (by decide +kernel)).mp c3
          refine lv_iconst (v := 0) hx hb dX10_kindIs_38 (by decide +kernel) ?_
          exact ro_zret hx hb hr hlocks hS rfl dX10_kindIs_39 ⟨(show 0 ≤ (0 : Int32).toInt ∧ (0 : Int32).toInt ≤ 1 from by decide +kernel), (show Sm (0 : Int32) (Ch (kF (c 105)) k1.toInt k2.toInt) from sm_0 (fun h9 => by have h8 := hz1_0.mp h9; rw [show y1_3.toInt = -9 by omega] at h8; have h7 := Ch_nd kF_9 h8; omega))⟩
        · have f3 := mt (ti_eq (a := y1_3.toInt) (b := (-9)) rfl (by decide +kernel)).mpr c3
          refine lv_iload_n hx hb dX10_kindIs_18 rfl (lv_at hl 1 rfl) ?_
          refine lv_iload_n hx hb dX10_kindIs_19 rfl (lv_at hl 4 rfl) ?_
          refine lv_icmp_ne (tgt := 25) hx hb dX10_kindIs_20 (by decide +kernel) (fun c4 => ?_) (fun c4 => ?_)
          · have f4 := mt (ti_eq (a := y1_3.toInt) (b := k2.toInt) rfl rfl).mpr c4
            refine lv_aload_n hx hb dX10_kindIs_25 rfl (lv_at hl 2 rfl) ?_
            refine xgW_W_parents hx hb hts (fun _ h => List.mem_cons_of_mem _ (List.mem_append_right _ h)) hown hK hP (hts (.fieldLink RX10 9 "TalePlay$World" "parents" "[I") (List.mem_cons_of_mem _ (List.mem_append_left _ (List.mem_of_getElem? (i := 0) rfl)))) dX10_kindIs_26 ?_
            refine lv_iload_n hx hb dX10_kindIs_29 rfl (lv_at hl 1 rfl) ?_
            refine xlW_105 hx hb hK hP (vp_in_iff.mpr (by have h9 : y1_3.toInt = y1_3.toInt := rfl; omega)) dX10_kindIs_30 (fun x5 ex5 => ?_)
            have rx5 : x5.toInt = -9 ∨ (0 ≤ x5.toInt ∧ x5.toInt ≤ 23) := by rw [ex5]; exact hI.2 105 _
            refine lv_istore_n (lv' := [(3, .int x5), (4, .int y1_4), (0, .ref (a 104)), (1, .int k1), (2, .int k2)]) hx hb dX10_kindIs_31 rfl hl (by decide +kernel) rfl (fun ls hl => ?_)
            obtain ⟨x6, ex6⟩ : ∃ y : Int32, y = y1_4 + 1 := ⟨_, rfl⟩
            have tx6 := ti_add (a := y1_4.toInt) (b := 1) ex6 rfl (by decide +kernel) (by omega) (by omega)
            refine lv_iinc (v := x6) (lv' := [(4, .int x6), (3, .int x5), (0, .ref (a 104)), (1, .int k1), (2, .int k2)]) hx hb dX10_kindIs_32 hl (k := 1) rfl (by rw [ex6]; rfl) (by decide +kernel) rfl (fun ls hl => ?_)
            refine lv_goto (tgt := 5) hx hb dX10_kindIs_35 (by decide +kernel) ?_
            exact ih1 x6 x5 (show 0 ≤ x6.toInt ∧ x6.toInt ≤ 24 from by have h50 : x6.toInt = (y1_4.toInt + 1) := tx6; omega) (show x5.toInt = -9 ∨ (0 ≤ x5.toInt ∧ x5.toInt ≤ 23) from by have h50 : x6.toInt = (y1_4.toInt + 1) := tx6; omega) (show Ch (kF (c 105)) k1.toInt k2.toInt ↔ Ch (kF (c 105)) x5.toInt k2.toInt from hz1_0.trans (by rw [Ch_nx (f := kF (c 105)) (x := y1_3.toInt) (by omega), kF_at (by omega) ex5])) (show x5.toInt = -9 ∨ x5.toInt + x6.toInt ≤ 23 from by have h9 := hs_D y1_3.toNatClampNeg; rw [← ex5, cl_nn (by omega)] at h9; have h8 := tx6; omega) (by have h50 : x6.toInt = (y1_4.toInt + 1) := tx6; omega) _ _ _ hP hS (lv_sub hl [0, 1, 2, 3, 4] rfl)
          · have f4 := (ti_eq (a := y1_3.toInt) (b := k2.toInt) rfl rfl).mp c4
            refine lv_iconst (v := 1) hx hb dX10_kindIs_23 (by decide +kernel) ?_
            exact ro_zret hx hb hr hlocks hS rfl dX10_kindIs_24 ⟨(show 0 ≤ (1 : Int32).toInt ∧ (1 : Int32).toInt ≤ 1 from by decide +kernel), (show Sm (1 : Int32) (Ch (kF (c 105)) k1.toInt k2.toInt) from sm_1 (hz1_0.mpr (by rw [show y1_3.toInt = k2.toInt by omega]; exact Ch_rf)))⟩
  exact lp1 _ (0 : Int32) k1 (show 0 ≤ (0 : Int32).toInt ∧ (0 : Int32).toInt ≤ 24 from by decide +kernel) (show k1.toInt = -9 ∨ (0 ≤ k1.toInt ∧ k1.toInt ≤ 23) from by have h50 : (0 : Int32).toInt = 0 := (by decide +kernel); omega) (show Ch (kF (c 105)) k1.toInt k2.toInt ↔ Ch (kF (c 105)) k1.toInt k2.toInt from Iff.rfl) (show k1.toInt = -9 ∨ k1.toInt + (0 : Int32).toInt ≤ 23 from by have h50 : (0 : Int32).toInt = 0 := (by decide +kernel); omega) (Nat.lt_succ_self _) _ _ _ hP hS (lv_sub hl [0, 1, 2, 3, 4] rfl)

set_option maxHeartbeats 4000000 in
set_option maxRecDepth 100000 in
theorem c_X11_oneIf_e (l : Launch) (D : va_G) (sz : Nat) (z : Int32) : Met l yX11_oneIf wm_X11_oneIf ({ frames := 0, cells := 0, slots := 0, locals := 0 }) (va_Pc [.int z] (pA D sz [] [])) (va_Qi (fun (r : Int32) (_ : Unit) => r = if (¬ z.toInt = 0) then 1 else 0) oA (ro sz)) 0 0 (ro sz) := by
  refine Met.ofW (cc := cX11_oneIf) (maxL := 1) (ret := (some .int)) (by decide +kernel) rfl ?_
  intro p e s m args below meth c s₁ B hml hv
  obtain ⟨rfl, hsz, hP, hK⟩ := hv
  have hx := B.exec
  have hb := B.bytes
  have hr := B.returns
  have hts := atoms_spec (ws := wm_X11_oneIf) B.pre
  have hown : s.vm.findClass RX11 = some m.cls := findClass_of_methodNamed B.named
  have hlocks := B.notSynchronized
  subst hsz
  have hA : ∀ q : Nat, s.heap.size ≤ q → ro s.heap.size q := fun _ h => h
  have hS : va_S (ro s.heap.size) s.heap s.heap [] := va_S.rf
  have hP : va_P D vwCl [] s.heap := hP
  have hl := lv_entry ([.int z]) (n := 1) (Nat.le_of_ble_eq_true rfl)
  rw [lg_entry_eq]
  generalize (lg_sl ([.int z]) ++ List.replicate (1 - (lg_sl ([.int z])).length) Slot.unset).toArray = ls at hl ⊢
  have hl : lv_has ls 1 [(0, .int z)] := hl
  refine lv_iload_n hx hb dX11_oneIf_0 rfl (lv_at hl 0 rfl) ?_
  refine lv_if_eq (tgt := 8) hx hb dX11_oneIf_1 (by decide +kernel) (fun c1 => ?_) (fun c1 => ?_)
  · have f1 := (ti_eq (a := z.toInt) (b := 0) rfl (by decide +kernel)).mp c1
    refine lv_iconst (v := 0) hx hb dX11_oneIf_8 (by decide +kernel) ?_
    exact ro_iret hx hb hr hlocks hS dX11_oneIf_9 (by show _ = _; rw [if_neg (by omega)])
  · have f1 := mt (ti_eq (a := z.toInt) (b := 0) rfl (by decide +kernel)).mpr c1
    refine lv_iconst (v := 1) hx hb dX11_oneIf_4 (by decide +kernel) ?_
    refine lv_goto (tgt := 9) hx hb dX11_oneIf_5 (by decide +kernel) ?_
    exact ro_iret hx hb hr hlocks hS dX11_oneIf_9 (by show _ = _; rw [if_pos (by omega)])

def wm_X11_is_e : List Cond := .code yX11_is cX11_is 3 (some .int) :: ((([.fieldLink RX11 10 "TalePlay" "world" "LTalePlay$World;", .methodLink RX11 109 yX10_hasObject, .instanceMethod yX10_hasObject, .selects RX10 yX10_hasObject yX10_hasObject, .initialized RX10, .code yX10_hasObject cX10_hasObject 2 (some .boolean), .fieldLink RX10 37 "TalePlay$World" "objects" "I", .methodLink RX11 80 yX10_hasKind, .instanceMethod yX10_hasKind, .selects RX10 yX10_hasKind yX10_hasKind, .code yX10_hasKind cX10_hasKind 2 (some .boolean), .fieldLink RX10 33 "TalePlay$World" "kinds" "I", .fieldLink RX11 112 "TalePlay$World" "kindOf" "[I", .methodLink RX11 115 yX10_kindIs, .instanceMethod yX10_kindIs, .selects RX10 yX10_kindIs yX10_kindIs] : List Cond) ++ ([.code yX10_kindIs cX10_kindIs 5 (some .boolean), .fieldLink RX10 9 "TalePlay$World" "parents" "[I", .methodLink RX11 118 yX11_oneIf, .static yX11_oneIf, .initialized RX11, .code yX11_oneIf cX11_oneIf 1 (some .int)] : List Cond)) ++ wsX110 ++ wsX100)
set_option maxRecDepth 20000 in
theorem gm_X11_is_e_X10_hasObject_109 : GoodIn wm_X11_is_e (wsV RX11 109 RX10 yX10_hasObject wm_X10_hasObject) := goodIn_w (List.forall_mem_append.mpr ⟨List.forall_mem_cons.mpr ⟨List.mem_cons_of_mem _ (List.mem_append_left _ (List.mem_append_left _ (List.mem_append_left _ (List.mem_of_getElem? (i := 1) rfl)))), List.forall_mem_cons.mpr ⟨List.mem_cons_of_mem _ (List.mem_append_left _ (List.mem_append_left _ (List.mem_append_left _ (List.mem_of_getElem? (i := 2) rfl)))), List.forall_mem_cons.mpr ⟨List.mem_cons_of_mem _ (List.mem_append_left _ (List.mem_append_left _ (List.mem_append_left _ (List.mem_of_getElem? (i := 3) rfl)))), List.forall_mem_cons.mpr ⟨List.mem_cons_of_mem _ (List.mem_append_left _ (List.mem_append_left _ (List.mem_append_left _ (List.mem_of_getElem? (i := 4) rfl)))), (fun _ h => absurd h List.not_mem_nil)⟩⟩⟩⟩, List.forall_mem_cons.mpr ⟨List.mem_cons_of_mem _ (List.mem_append_left _ (List.mem_append_left _ (List.mem_append_left _ (List.mem_of_getElem? (i := 5) rfl)))), List.forall_mem_append.mpr ⟨List.forall_mem_cons.mpr ⟨List.mem_cons_of_mem _ (List.mem_append_left _ (List.mem_append_left _ (List.mem_append_left _ (List.mem_of_getElem? (i := 6) rfl)))), (fun _ h => absurd h List.not_mem_nil)⟩, (fun _ h => List.mem_cons_of_mem _ (List.mem_append_right _ h))⟩⟩⟩) (by decide +kernel)
set_option maxRecDepth 20000 in
theorem gm_X11_is_e_X10_hasKind_80 : GoodIn wm_X11_is_e (wsV RX11 80 RX10 yX10_hasKind wm_X10_hasKind) := goodIn_w (List.forall_mem_append.mpr ⟨List.forall_mem_cons.mpr ⟨List.mem_cons_of_mem _ (List.mem_append_left _ (List.mem_append_left _ (List.mem_append_left _ (List.mem_of_getElem? (i := 7) rfl)))), List.forall_mem_cons.mpr ⟨List.mem_cons_of_mem _ (List.mem_append_left _ (List.mem_append_left _ (List.mem_append_left _ (List.mem_of_getElem? (i := 8) rfl)))), List.forall_mem_cons.mpr ⟨List.mem_cons_of_mem _ (List.mem_append_left _ (List.mem_append_left _ (List.mem_append_left _ (List.mem_of_getElem? (i := 9) rfl)))), List.forall_mem_cons.mpr ⟨List.mem_cons_of_mem _ (List.mem_append_left _ (List.mem_append_left _ (List.mem_append_left _ (List.mem_of_getElem? (i := 4) rfl)))), (fun _ h => absurd h List.not_mem_nil)⟩⟩⟩⟩, List.forall_mem_cons.mpr ⟨List.mem_cons_of_mem _ (List.mem_append_left _ (List.mem_append_left _ (List.mem_append_left _ (List.mem_of_getElem? (i := 10) rfl)))), List.forall_mem_append.mpr ⟨List.forall_mem_cons.mpr ⟨List.mem_cons_of_mem _ (List.mem_append_left _ (List.mem_append_left _ (List.mem_append_left _ (List.mem_of_getElem? (i := 11) rfl)))), (fun _ h => absurd h List.not_mem_nil)⟩, (fun _ h => List.mem_cons_of_mem _ (List.mem_append_right _ h))⟩⟩⟩) (by decide +kernel)
set_option maxRecDepth 20000 in
theorem gm_X11_is_e_X10_kindIs_e_115 : GoodIn wm_X11_is_e (wsV RX11 115 RX10 yX10_kindIs wm_X10_kindIs_e) := goodIn_w (List.forall_mem_append.mpr ⟨List.forall_mem_cons.mpr ⟨List.mem_cons_of_mem _ (List.mem_append_left _ (List.mem_append_left _ (List.mem_append_left _ (List.mem_of_getElem? (i := 13) rfl)))), List.forall_mem_cons.mpr ⟨List.mem_cons_of_mem _ (List.mem_append_left _ (List.mem_append_left _ (List.mem_append_left _ (List.mem_of_getElem? (i := 14) rfl)))), List.forall_mem_cons.mpr ⟨List.mem_cons_of_mem _ (List.mem_append_left _ (List.mem_append_left _ (List.mem_append_left _ (List.mem_of_getElem? (i := 15) rfl)))), List.forall_mem_cons.mpr ⟨List.mem_cons_of_mem _ (List.mem_append_left _ (List.mem_append_left _ (List.mem_append_left _ (List.mem_of_getElem? (i := 4) rfl)))), (fun _ h => absurd h List.not_mem_nil)⟩⟩⟩⟩, List.forall_mem_cons.mpr ⟨List.mem_cons_of_mem _ (List.mem_append_left _ (List.mem_append_left _ (List.mem_append_right _ (List.mem_of_getElem? (i := 0) rfl)))), List.forall_mem_append.mpr ⟨List.forall_mem_cons.mpr ⟨List.mem_cons_of_mem _ (List.mem_append_left _ (List.mem_append_left _ (List.mem_append_right _ (List.mem_of_getElem? (i := 1) rfl)))), (fun _ h => absurd h List.not_mem_nil)⟩, (fun _ h => List.mem_cons_of_mem _ (List.mem_append_right _ h))⟩⟩⟩) (by decide +kernel)
set_option maxRecDepth 20000 in
theorem gm_X11_is_e_X11_oneIf_118 : GoodIn wm_X11_is_e (va_wsS RX11 118 yX11_oneIf wm_X11_oneIf) := goodIn_w (List.forall_mem_append.mpr ⟨List.forall_mem_cons.mpr ⟨List.mem_cons_of_mem _ (List.mem_append_left _ (List.mem_append_left _ (List.mem_append_right _ (List.mem_of_getElem? (i := 2) rfl)))), List.forall_mem_cons.mpr ⟨List.mem_cons_of_mem _ (List.mem_append_left _ (List.mem_append_left _ (List.mem_append_right _ (List.mem_of_getElem? (i := 3) rfl)))), List.forall_mem_cons.mpr ⟨List.mem_cons_of_mem _ (List.mem_append_left _ (List.mem_append_left _ (List.mem_append_right _ (List.mem_of_getElem? (i := 4) rfl)))), (fun _ h => absurd h List.not_mem_nil)⟩⟩⟩, List.forall_mem_cons.mpr ⟨List.mem_cons_of_mem _ (List.mem_append_left _ (List.mem_append_left _ (List.mem_append_right _ (List.mem_of_getElem? (i := 5) rfl)))), (fun _ h => absurd h List.not_mem_nil)⟩⟩) (by decide +kernel)
set_option maxHeartbeats 4000000 in
set_option maxRecDepth 100000 in
theorem x_X11_is_e (l : Launch) (D : va_G) (sz : Nat) (sk : Value) (a : Nat → Nat) (t : Nat → ClassId) (i : Nat → Int32) (q : Int64) (c : Nat → Nat → Int32) (d : Nat → Nat → Int64) (w : Int32) (k1 : Int32) (hI : xInv i c) (hs_D : PD (c 105)) : Met l yX11_is wm_X11_is_e ({ frames := 1, cells := 0, slots := 0, locals := 24 }) (va_Pc [.ref (a 100), .int w, .int k1] (yA (a 186) D sz (xwT sk a t i q c d) (xtT t))) (va_Qi (fun (r : Int32) (_ : Unit) => (True ∧ (IsR (c 105) (c 108) w k1 (i 111).toInt (i 110).toInt r))) oA (ro sz)) 0 0 (ro sz) := by
  refine Met.ofW (cc := cX11_is) (maxL := 3) (ret := (some .int)) (by decide +kernel) rfl ?_
  intro p e s m args below meth cd s₁ B hml hv
  obtain ⟨rfl, ⟨hsz, hP, hK⟩, hN, hZ⟩ := hv
  have hx := B.exec
  have hb := B.bytes
  have hr := B.returns
  have hts := atoms_spec (ws := wm_X11_is_e) B.pre
  have hown : s.vm.findClass RX11 = some m.cls := findClass_of_methodNamed B.named
  have hlocks := B.notSynchronized
  subst hsz
  have hA : ∀ q : Nat, s.heap.size ≤ q → ro s.heap.size q := fun _ h => h
  have hS : va_S (ro s.heap.size) s.heap s.heap [] := va_S.rf
  have hl := lv_entry ([.ref (a 100), .int w, .int k1]) (n := 3) (Nat.le_of_ble_eq_true rfl)
  rw [lg_entry_eq]
  generalize (lg_sl ([.ref (a 100), .int w, .int k1]) ++ List.replicate (3 - (lg_sl ([.ref (a 100), .int w, .int k1])).length) Slot.unset).toArray = ls at hl ⊢
  have hl : lv_has ls 3 [(0, .ref (a 100)), (1, .int w), (2, .int k1)] := hl
  have rb110_i : 6 ≤ (i 110).toInt ∧ (i 110).toInt ≤ 24 := hI.1 110
  have rb111_i : 0 ≤ (i 111).toInt ∧ (i 111).toInt ≤ 30 := hI.1 111
  refine lv_aload_n hx hb dX11_is_0 rfl (lv_at hl 0 rfl) ?_
  refine xgT_X_world hx hb hts (fun _ h => List.mem_cons_of_mem _ (List.mem_append_left _ (List.mem_append_right _ h))) hown hK hP (hts (.fieldLink RX11 10 "TalePlay" "world" "LTalePlay$World;") (List.mem_cons_of_mem _ (List.mem_append_left _ (List.mem_append_left _ (List.mem_append_left _ (List.mem_of_getElem? (i := 0) rfl)))))) dX11_is_1 ?_
  refine lv_iload_n hx hb dX11_is_4 rfl (lv_at hl 1 rfl) ?_
  refine ro_calli (va_runV (As := [.int w]) (rest := []) ⟨hx, hb, hml, hown, hts⟩ (x_X10_hasObject l D s.heap.size .null a t i q c d w hI ) (cwV 1 hts gm_X11_is_e_X10_hasObject_109 rfl rfl rfl (by decide +kernel) ⟨Nat.le_of_ble_eq_true rfl, Nat.le_of_ble_eq_true rfl⟩) (yA_V hN (xZ_k hZ hS hA) (xkT_W hK) (xuT_W (sk := sk) hP) (ci := 10) (q0 := 0) rfl rfl) rfl rfl hl.1 rfl (lv_room (Nat.le_of_ble_eq_true rfl)) dX11_is_5 ⟨Nat.le_of_ble_eq_true rfl, Nat.le_of_ble_eq_true rfl⟩) hS hA hP (fun r1 u1 H locs hw1 hP hS => ?_)
  have hw1 : r1 = if (0 ≤ w.toInt ∧ w.toInt < (i 111).toInt) then 1 else 0 := hw1
  refine lv_if_eq (tgt := 22) hx hb dX11_is_8 (by decide +kernel) (fun c2 => ?_) (fun c2 => ?_)
  · have f2 := fl_f hw1 c2
    refine lv_iconst (v := (-1)) hx hb dX11_is_22 (by decide +kernel) ?_
    exact ro_iret hx hb hr hlocks hS dX11_is_23 ⟨trivial, (show IsR (c 105) (c 108) w k1 (i 111).toInt (i 110).toInt ((-1) : Int32) from Or.inl ⟨by omega, by decide⟩)⟩
  · have f2 := fl_t hw1 c2
    refine lv_aload_n hx hb dX11_is_11 rfl (lv_at hl 0 rfl) ?_
    refine xgT_X_world hx hb hts (fun _ h => List.mem_cons_of_mem _ (List.mem_append_left _ (List.mem_append_right _ h))) hown hK hP (hts (.fieldLink RX11 10 "TalePlay" "world" "LTalePlay$World;") (List.mem_cons_of_mem _ (List.mem_append_left _ (List.mem_append_left _ (List.mem_append_left _ (List.mem_of_getElem? (i := 0) rfl)))))) dX11_is_12 ?_
    refine lv_iload_n hx hb dX11_is_15 rfl (lv_at hl 2 rfl) ?_
    refine ro_calli (va_runV (As := [.int k1]) (rest := []) ⟨hx, hb, hml, hown, hts⟩ (x_X10_hasKind l D H.size .null a t i q c d k1 hI ) (cwV 1 hts gm_X11_is_e_X10_hasKind_80 rfl rfl rfl (by decide +kernel) ⟨Nat.le_of_ble_eq_true rfl, Nat.le_of_ble_eq_true rfl⟩) (yA_V hN (xZ_k hZ hS hA) (xkT_W hK) (xuT_W (sk := sk) hP) (ci := 10) (q0 := 0) rfl rfl) rfl rfl hl.1 rfl (lv_room (Nat.le_of_ble_eq_true rfl)) dX11_is_16 ⟨Nat.le_of_ble_eq_true rfl, Nat.le_of_ble_eq_true rfl⟩) hS hA hP (fun r3 u3 H locs hw3 hP hS => ?_)
    have hw3 : r3 = if (0 ≤ k1.toInt ∧ k1.toInt < (i 110).toInt) then 1 else 0 := hw3
    refine lv_if_ne (tgt := 24) hx hb dX11_is_19 (by decide +kernel) (fun c4 => ?_) (fun c4 => ?_)
    · have f4 := fl_t hw3 c4
      refine lv_aload_n hx hb dX11_is_24 rfl (lv_at hl 0 rfl) ?_
      refine xgT_X_world hx hb hts (fun _ h => List.mem_cons_of_mem _ (List.mem_append_left _ (List.mem_append_right _ h))) hown hK hP (hts (.fieldLink RX11 10 "TalePlay" "world" "LTalePlay$World;") (List.mem_cons_of_mem _ (List.mem_append_left _ (List.mem_append_left _ (List.mem_append_left _ (List.mem_of_getElem? (i := 0) rfl)))))) dX11_is_25 ?_
      refine lv_aload_n hx hb dX11_is_28 rfl (lv_at hl 0 rfl) ?_
      refine xgT_X_world hx hb hts (fun _ h => List.mem_cons_of_mem _ (List.mem_append_left _ (List.mem_append_right _ h))) hown hK hP (hts (.fieldLink RX11 10 "TalePlay" "world" "LTalePlay$World;") (List.mem_cons_of_mem _ (List.mem_append_left _ (List.mem_append_left _ (List.mem_append_left _ (List.mem_of_getElem? (i := 0) rfl)))))) dX11_is_29 ?_
      refine xgT_W_kindOf hx hb hts (fun _ h => List.mem_cons_of_mem _ (List.mem_append_right _ h)) hown hK hP (hts (.fieldLink RX11 112 "TalePlay$World" "kindOf" "[I") (List.mem_cons_of_mem _ (List.mem_append_left _ (List.mem_append_left _ (List.mem_append_left _ (List.mem_of_getElem? (i := 12) rfl)))))) dX11_is_32 ?_
      refine lv_iload_n hx hb dX11_is_35 rfl (lv_at hl 1 rfl) ?_
      refine xlT_108 hx hb hK hP (vp_in_iff.mpr (by have h9 : w.toInt = w.toInt := rfl; omega)) dX11_is_36 (fun x5 ex5 => ?_)
      have rx5 : 0 ≤ x5.toInt ∧ x5.toInt ≤ 23 := by rw [ex5]; exact hI.2 108 _
      refine lv_iload_n hx hb dX11_is_37 rfl (lv_at hl 2 rfl) ?_
      refine ro_calli (va_runV (As := [.int x5, .int k1]) (rest := []) ⟨hx, hb, hml, hown, hts⟩ (x_X10_kindIs_e l D H.size .null a t i q c d x5 k1 hI (show 0 ≤ x5.toInt ∧ x5.toInt ≤ 23 from by omega) (show 0 ≤ k1.toInt from by omega) hs_D) (cwV 2 hts gm_X11_is_e_X10_kindIs_e_115 rfl rfl rfl (by decide +kernel) ⟨Nat.le_of_ble_eq_true rfl, Nat.le_of_ble_eq_true rfl⟩) (yA_V hN (xZ_k hZ hS hA) (xkT_W hK) (xuT_W (sk := sk) hP) (ci := 10) (q0 := 0) rfl rfl) rfl rfl hl.1 rfl (lv_room (Nat.le_of_ble_eq_true rfl)) dX11_is_38 ⟨Nat.le_of_ble_eq_true rfl, Nat.le_of_ble_eq_true rfl⟩) hS hA hP (fun r6 u6 H locs hw6 hP hS => ?_)
      have hw6 : ((0 ≤ r6.toInt ∧ r6.toInt ≤ 1) ∧ (Sm r6 (Ch (kF (c 105)) x5.toInt k1.toInt))) := hw6
      obtain ⟨hw6, hr6_0⟩ := hw6
      have hr6_0 : Sm r6 (Ch (kF (c 105)) x5.toInt k1.toInt) := hr6_0
      have hPc := hP.sub (ws' := []) [] rfl
      have hKc := hK.sub (tys' := []) [] rfl
      refine ro_calli (va_runS (As := [.int r6]) (rest := []) ⟨hx, hb, hml, hown, hts⟩ (c_X11_oneIf_e l D H.size r6) (va_cwS 1 hts gm_X11_is_e_X11_oneIf_118 rfl rfl rfl (by decide +kernel) ⟨Nat.le_of_ble_eq_true rfl, Nat.le_of_ble_eq_true rfl⟩) (pA_S hKc hPc) rfl rfl hl.1 rfl (lv_room (Nat.le_of_ble_eq_true rfl)) dX11_is_41 ⟨Nat.le_of_ble_eq_true rfl, Nat.le_of_ble_eq_true rfl⟩) hS hA hP (fun r8 u8 H locs hw8 hP hS => ?_)
      have hw8 : r8 = if (¬ r6.toInt = 0) then 1 else 0 := hw8
      exact ro_iret hx hb hr hlocks hS dX11_is_44 ⟨trivial, (show IsR (c 105) (c 108) w k1 (i 111).toInt (i 110).toInt r8 from Or.inr ⟨by omega, by have h9 := hr6_0; rw [ex5] at h9; exact sm_fl hw8 h9⟩)⟩
    · have f4 := fl_f hw3 c4
      refine lv_iconst (v := (-1)) hx hb dX11_is_22 (by decide +kernel) ?_
      exact ro_iret hx hb hr hlocks hS dX11_is_23 ⟨trivial, (show IsR (c 105) (c 108) w k1 (i 111).toInt (i 110).toInt ((-1) : Int32) from Or.inl ⟨by omega, by decide⟩)⟩

set_option maxHeartbeats 4000000 in
set_option maxRecDepth 100000 in
theorem s_X12_is_e (l : Launch) (D : va_G) (sz : Nat) (o : Nat) (a : Nat → Nat) (t : Nat → ClassId) (i : Nat → Int32) (q : Int64) (c : Nat → Nat → Int32) (d : Nat → Nat → Int64) (w : Int32) (k1 : Int32) (hI : mInv i c) : Met l yX12_is wm_X12_is ({ frames := 2, cells := 0, slots := 0, locals := 46 }) (va_Pc [.ref o, .int w, .int k1] (pA D sz (mW o a t i q c d) (mT t))) (va_Qi (fun (r : Int32) (_ : Unit) => (True ∧ (IsR (c 3) (c 6) w k1 (i 5).toInt (i 2).toInt r))) oA (ro sz)) 0 0 (ro sz) := by
  refine Met.ofW (cc := cX12_is) (maxL := 3) (ret := (some .int)) (by decide +kernel) rfl ?_
  intro p e s m args below meth cd s₁ B hml hv
  obtain ⟨rfl, hsz, hP, hK⟩ := hv
  have hx := B.exec
  have hb := B.bytes
  have hr := B.returns
  have hts := atoms_spec (ws := wm_X12_is) B.pre
  have hown : s.vm.findClass RX12 = some m.cls := findClass_of_methodNamed B.named
  have hlocks := B.notSynchronized
  subst hsz
  have hA : ∀ q : Nat, s.heap.size ≤ q → ro s.heap.size q := fun _ h => h
  have hS : va_S (ro s.heap.size) s.heap s.heap [] := va_S.rf
  have hl := lv_entry ([.ref o, .int w, .int k1]) (n := 3) (Nat.le_of_ble_eq_true rfl)
  rw [lg_entry_eq]
  generalize (lg_sl ([.ref o, .int w, .int k1]) ++ List.replicate (3 - (lg_sl ([.ref o, .int w, .int k1])).length) Slot.unset).toArray = ls at hl ⊢
  have hl : lv_has ls 3 [(0, .ref o), (1, .int w), (2, .int k1)] := hl
  have rb2_i : 6 ≤ (i 2).toInt ∧ (i 2).toInt ≤ 24 := hI.1 2
  have rb5_i : 0 ≤ (i 5).toInt ∧ (i 5).toInt ≤ 30 := hI.1 5
  refine lv_aload_n hx hb dX12_is_0 rfl (lv_at hl 0 rfl) ?_
  refine lv_iload_n hx hb dX12_is_1 rfl (lv_at hl 1 rfl) ?_
  refine ro_calli (va_runV (As := [.int w]) (rest := []) ⟨hx, hb, hml, hown, hts⟩ (s_X12_isObject l D s.heap.size o a t i q c d w hI ) (cwV 1 hts gm_X12_is_X12_isObject rfl rfl rfl (by decide +kernel) ⟨Nat.le_of_ble_eq_true rfl, Nat.le_of_ble_eq_true rfl⟩) (pA_V hK hP (ci := 12) (q0 := 0) rfl rfl) rfl rfl hl.1 rfl (lv_room (Nat.le_of_ble_eq_true rfl)) dX12_is_2 ⟨Nat.le_of_ble_eq_true rfl, Nat.le_of_ble_eq_true rfl⟩) hS hA hP (fun r1 u1 H locs hw1 hP hS => ?_)
  have hw1 : r1 = if (0 ≤ w.toInt ∧ w.toInt ≤ (i 5).toInt - 1) then 1 else 0 := hw1
  refine lv_if_eq (tgt := 24) hx hb dX12_is_5 (by decide +kernel) (fun c2 => ?_) (fun c2 => ?_)
  · have f2 := fl_f hw1 c2
    refine lv_iconst (v := (-1)) hx hb dX12_is_24 (by decide +kernel) ?_
    refine lv_goto (tgt := 42) hx hb dX12_is_25 (by decide +kernel) ?_
    exact ro_iret hx hb hr hlocks hS dX12_is_42 ⟨trivial, (show IsR (c 3) (c 6) w k1 (i 5).toInt (i 2).toInt ((-1) : Int32) from Or.inl ⟨by omega, by decide⟩)⟩
  · have f2 := fl_t hw1 c2
    refine lv_iload_n hx hb dX12_is_8 rfl (lv_at hl 2 rfl) ?_
    refine lv_i2l (v := k1.toInt64) hx hb dX12_is_9 rfl ?_
    refine lv_lconst (v := 0) hx hb dX12_is_10 (by decide +kernel) ?_
    refine lv_aload_n hx hb dX12_is_11 rfl (lv_at hl 0 rfl) ?_
    refine mget_2 (v := (i 2)) rfl hx hb hts (fun _ h => List.mem_cons_of_mem _ (List.mem_append_right _ h)) hown hK hP (hts (.fieldLink RX12 151 "TalePlayModel" "kinds" "I") (List.mem_cons_of_mem _ (List.mem_append_left _ (List.mem_of_getElem? (i := 9) rfl)))) dX12_is_12 ?_
    refine lv_iconst (v := 1) hx hb dX12_is_15 (by decide +kernel) ?_
    refine lv_isub hx hb dX12_is_16 ?_
    refine lv_topi (fun x3 ex3 => ?_)
    have tx3 := ti_sub (a := (i 2).toInt) (b := 1) ex3 rfl (by decide +kernel) (by omega) (by omega)
    refine lv_i2l (v := x3.toInt64) hx hb dX12_is_17 rfl ?_
    have hPc := hP.sub (ws' := []) [] rfl
    have hKc := hK.sub (tys' := []) [] rfl
    refine ro_calli (va_runS (As := [.long k1.toInt64, .long 0, .long x3.toInt64]) (rest := []) ⟨hx, hb, hml, hown, hts⟩ (c_X12_in l D H.size k1.toInt64 0 x3.toInt64 k1.toInt 0 ((i 2).toInt - 1) ((Int32.toInt_toInt64 k1).trans rfl) (by decide +kernel) ((Int32.toInt_toInt64 x3).trans tx3)) (va_cwS 3 hts gm_X12_is_X12_in rfl rfl rfl (by decide +kernel) ⟨Nat.le_of_ble_eq_true rfl, Nat.le_of_ble_eq_true rfl⟩) (pA_S hKc hPc) rfl rfl hl.1 rfl (lv_room (Nat.le_of_ble_eq_true rfl)) dX12_is_18 ⟨Nat.le_of_ble_eq_true rfl, Nat.le_of_ble_eq_true rfl⟩) hS hA hP (fun r4 u4 H locs hw4 hP hS => ?_)
    have hw4 : r4 = if (0 ≤ k1.toInt ∧ k1.toInt ≤ ((i 2).toInt - 1)) then 1 else 0 := hw4
    refine lv_if_ne (tgt := 28) hx hb dX12_is_21 (by decide +kernel) (fun c5 => ?_) (fun c5 => ?_)
    · have f5 := fl_t hw4 c5
      refine lv_aload_n hx hb dX12_is_28 rfl (lv_at hl 0 rfl) ?_
      refine lv_iload_n hx hb dX12_is_29 rfl (lv_at hl 1 rfl) ?_
      refine lv_iload_n hx hb dX12_is_30 rfl (lv_at hl 2 rfl) ?_
      refine ro_calli (va_runV (As := [.int w, .int k1]) (rest := []) ⟨hx, hb, hml, hown, hts⟩ (s_X12_isOf l D H.size o a t i q c d w k1 hI (show 0 ≤ w.toInt ∧ w.toInt ≤ 29 from by omega) (show 0 ≤ k1.toInt from by omega)) (cwV 2 hts gm_X12_is_X12_isOf rfl rfl rfl (by decide +kernel) ⟨Nat.le_of_ble_eq_true rfl, Nat.le_of_ble_eq_true rfl⟩) (pA_V hK hP (ci := 12) (q0 := 0) rfl rfl) rfl rfl hl.1 rfl (lv_room (Nat.le_of_ble_eq_true rfl)) dX12_is_31 ⟨Nat.le_of_ble_eq_true rfl, Nat.le_of_ble_eq_true rfl⟩) hS hA hP (fun r6 u6 H locs hw6 hP hS => ?_)
      have hw6 : ((0 ≤ r6.toInt ∧ r6.toInt ≤ 1) ∧ (Sm r6 (Kd (c 3) (c 6) w.toInt k1.toInt))) := hw6
      obtain ⟨hw6, hr6_0⟩ := hw6
      have hr6_0 : Sm r6 (Kd (c 3) (c 6) w.toInt k1.toInt) := hr6_0
      refine lv_if_eq (tgt := 41) hx hb dX12_is_34 (by decide +kernel) (fun c7 => ?_) (fun c7 => ?_)
      · have f7 := (ti_eq (a := r6.toInt) (b := 0) rfl (by decide +kernel)).mp c7
        have s7 := sm_f hr6_0 c7
        refine lv_iconst (v := 0) hx hb dX12_is_41 (by decide +kernel) ?_
        exact ro_iret hx hb hr hlocks hS dX12_is_42 ⟨trivial, (show IsR (c 3) (c 6) w k1 (i 5).toInt (i 2).toInt (0 : Int32) from Or.inr ⟨by omega, sm_0 s7⟩)⟩
      · have f7 := mt (ti_eq (a := r6.toInt) (b := 0) rfl (by decide +kernel)).mpr c7
        have s7 := sm_t hr6_0 c7
        refine lv_iconst (v := 1) hx hb dX12_is_37 (by decide +kernel) ?_
        refine lv_goto (tgt := 42) hx hb dX12_is_38 (by decide +kernel) ?_
        exact ro_iret hx hb hr hlocks hS dX12_is_42 ⟨trivial, (show IsR (c 3) (c 6) w k1 (i 5).toInt (i 2).toInt (1 : Int32) from Or.inr ⟨by omega, sm_1 s7⟩)⟩
    · have f5 := fl_f hw4 c5
      refine lv_iconst (v := (-1)) hx hb dX12_is_24 (by decide +kernel) ?_
      refine lv_goto (tgt := 42) hx hb dX12_is_25 (by decide +kernel) ?_
      exact ro_iret hx hb hr hlocks hS dX12_is_42 ⟨trivial, (show IsR (c 3) (c 6) w k1 (i 5).toInt (i 2).toInt ((-1) : Int32) from Or.inl ⟨by omega, by decide⟩)⟩

def ctP (S : Nat → Int32) (s : Nat) : Bool := decide ((S s).toInt = 1)
theorem ct_y {S : Nat → Int32} {x y k k2 : Int32} (h : k.toInt = ((cnt (ctP S) x.toInt.toNat : Nat) : Int)) (hx : 0 ≤ x.toInt) (hp : (S x.toNatClampNeg).toInt = 1) (hy : y.toInt = x.toInt + 1) (hk : k2.toInt = k.toInt + 1) : k2.toInt = ((cnt (ctP S) y.toInt.toNat : Nat) : Int) := by
  have q : ctP S x.toInt.toNat = true := decide_eq_true hp
  rw [show y.toInt.toNat = x.toInt.toNat + 1 by omega, hk, h]
  show _ = ((cnt (ctP S) x.toInt.toNat + (if ctP S x.toInt.toNat = true then 1 else 0) : Nat) : Int)
  rw [if_pos q]
  omega
theorem ct_n {S : Nat → Int32} {x y k k2 : Int32} (h : k.toInt = ((cnt (ctP S) x.toInt.toNat : Nat) : Int)) (hx : 0 ≤ x.toInt) (hp : ¬ (S x.toNatClampNeg).toInt = 1) (hy : y.toInt = x.toInt + 1) (hk : k2.toInt = k.toInt) : k2.toInt = ((cnt (ctP S) y.toInt.toNat : Nat) : Int) := by
  have q : ¬ ctP S x.toInt.toNat = true := fun z => hp (of_decide_eq_true z)
  rw [show y.toInt.toNat = x.toInt.toNat + 1 by omega, hk, h]
  show _ = ((cnt (ctP S) x.toInt.toNat + (if ctP S x.toInt.toNat = true then 1 else 0) : Nat) : Int)
  rw [if_neg q]
  omega
def StW (Q : Prop) (d d2 : Int32) : Prop := (¬ Q ∧ d2 = d) ∨ (Q ∧ d2 = d + 1)
def UnR (Q : Prop) (d d2 r : Int32) : Prop := (¬ Q ∧ r.toInt = -1 ∧ d2 = d) ∨ (Q ∧ d2 = d - 1 ∧ r = d - 1)
def UnS (Q : Prop) (S : Nat → Int32) (n : Int) (r : Int32) : Prop := (¬ Q ∧ r.toInt = -1) ∨ (Q ∧ r.toInt = ((cnt (ctP S) n.toNat : Nat) : Int))
def CtS (S : Nat → Int32) (n d : Int32) : Prop := d.toInt = ((cnt (ctP S) n.toInt.toNat : Nat) : Int)

set_option maxHeartbeats 4000000 in
set_option maxRecDepth 100000 in
theorem s_X12_isOf_e (l : Launch) (D : va_G) (sz : Nat) (o : Nat) (a : Nat → Nat) (t : Nat → ClassId) (i : Nat → Int32) (q : Int64) (c : Nat → Nat → Int32) (d : Nat → Nat → Int64) (w : Int32) (k : Int32) (hI : mInv i c) (hw : 0 ≤ w.toInt ∧ w.toInt ≤ 29) (hk : 0 ≤ k.toInt ∧ k.toInt ≤ 5) : Met l yX12_isOf wm_X12_isOf ({ frames := 0, cells := 0, slots := 0, locals := 0 }) (va_Pc [.ref o, .int w, .int k] (pA D sz (mW o a t i q c d) (mT t))) (va_Qi (fun (r : Int32) (_ : Unit) => ((0 ≤ r.toInt ∧ r.toInt ≤ 1) ∧ (0 ≤ kS (c 3) (c 6) w.toInt ∧ kS (c 3) (c 6) w.toInt ≤ 5 ∧ ((r.toInt = 1 ∧ (kS (c 3) (c 6) w.toInt = k.toInt ∨ ((1 : Int) = k.toInt ∧ 1 < kS (c 3) (c 6) w.toInt))) ∨ (r.toInt = 0 ∧ ¬ (kS (c 3) (c 6) w.toInt = k.toInt ∨ ((1 : Int) = k.toInt ∧ 1 < kS (c 3) (c 6) w.toInt))))))) oA (ro sz)) 0 0 (ro sz) := by
  refine Met.ofW (cc := cX12_isOf) (maxL := 4) (ret := (some .boolean)) (by decide +kernel) rfl ?_
  intro p e s m args below meth cd s₁ B hml hv
  obtain ⟨rfl, hsz, hP, hK⟩ := hv
  have hx := B.exec
  have hb := B.bytes
  have hr := B.returns
  have hts := atoms_spec (ws := wm_X12_isOf) B.pre
  have hown : s.vm.findClass RX12 = some m.cls := findClass_of_methodNamed B.named
  have hlocks := B.notSynchronized
  subst hsz
  have hA : ∀ q : Nat, s.heap.size ≤ q → ro s.heap.size q := fun _ h => h
  have hS : va_S (ro s.heap.size) s.heap s.heap [] := va_S.rf
  have hl := lv_entry ([.ref o, .int w, .int k]) (n := 4) (Nat.le_of_ble_eq_true rfl)
  rw [lg_entry_eq]
  generalize (lg_sl ([.ref o, .int w, .int k]) ++ List.replicate (4 - (lg_sl ([.ref o, .int w, .int k])).length) Slot.unset).toArray = ls at hl ⊢
  have hl : lv_has ls 4 [(0, .ref o), (1, .int w), (2, .int k)] := hl
  refine lv_aload_n hx hb dX12_isOf_0 rfl (lv_at hl 0 rfl) ?_
  refine mget_6 hx hb hts (fun _ h => List.mem_cons_of_mem _ (List.mem_append_right _ h)) hown hK hP (hts (.fieldLink RX12 19 "TalePlayModel" "kindOf" "[I") (List.mem_cons_of_mem _ (List.mem_append_left _ (List.mem_of_getElem? (i := 0) rfl)))) dX12_isOf_1 ?_
  refine lv_iload_n hx hb dX12_isOf_4 rfl (lv_at hl 1 rfl) ?_
  refine mld_6 hx hb hK hP (vp_in_iff.mpr (by have h9 : w.toInt = w.toInt := rfl; omega)) dX12_isOf_5 (fun x1 ex1 => ?_)
  have rx1 : 0 ≤ x1.toInt ∧ x1.toInt ≤ 23 := by rw [ex1]; exact hI.2 6 _
  refine lv_istore_n (lv' := [(3, .int x1), (0, .ref o), (1, .int w), (2, .int k)]) hx hb dX12_isOf_6 rfl hl (by decide +kernel) rfl (fun ls hl => ?_)
  have lp2 : ∀ (fu : Nat) (y2_3 : Int32), (y2_3.toInt = -9 ∨ (0 ≤ y2_3.toInt ∧ y2_3.toInt ≤ 23)) → (Ch (kF (c 3)) (c 6 w.toInt.toNat).toInt k.toInt ↔ Ch (kF (c 3)) y2_3.toInt k.toInt) → (y2_3.toInt + 10).toNat < fu → ∀ (H : Heap) (locs : List Loc) (ls : Array Slot), va_P D vwCl (mW o a t i q c d) H → va_S (ro s.heap.size) s.heap H locs → lv_has ls 4 [(3, .int y2_3), (0, .ref o), (1, .int w), (2, .int k)] → W p l e (headSpec wm_X12_isOf ({ frames := 0, cells := 0, slots := 0, locals := 0 })).room s m ([.ref o, .int w, .int k] : List Value).toArray below meth cd H locs 0 0 (MQ below (va_Qi (fun (r : Int32) (_ : Unit) => ((0 ≤ r.toInt ∧ r.toInt ≤ 1) ∧ (0 ≤ kS (c 3) (c 6) w.toInt ∧ kS (c 3) (c 6) w.toInt ≤ 5 ∧ ((r.toInt = 1 ∧ (kS (c 3) (c 6) w.toInt = k.toInt ∨ ((1 : Int) = k.toInt ∧ 1 < kS (c 3) (c 6) w.toInt))) ∨ (r.toInt = 0 ∧ ¬ (kS (c 3) (c 6) w.toInt = k.toInt ∨ ((1 : Int) = k.toInt ∧ 1 < kS (c 3) (c 6) w.toInt))))))) oA (ro s.heap.size)) ([.ref o, .int w, .int k] : List Value).toArray s 0 0 (ro s.heap.size)) (F0 m 7 ls []) := by
    intro fu
    induction fu with
    | zero => intro y2_3 hy2_3 hz2_0 hm; exact absurd hm (Nat.not_lt_zero _)
    | succ fu ih =>
      intro y2_3 hy2_3 hz2_0 hm H locs ls hP hS hl
      have ih2 := ih
      refine lv_iload_n hx hb dX12_isOf_7 rfl (lv_at hl 0 rfl) ?_
      refine lv_bipush (v := (-9)) hx hb dX12_isOf_8 (by decide +kernel) ?_
      refine lv_icmp_eq (tgt := 28) hx hb dX12_isOf_10 (by decide +kernel) (fun c3 => ?_) (fun c3 => ?_)
      · have f3 := (ti_eq (a := y2_3.toInt) (b := (-9)) rfl (by decide +kernel)).mp c3
        refine lv_iload_n hx hb dX12_isOf_28 rfl (lv_at hl 0 rfl) ?_
        refine lv_iload_n hx hb dX12_isOf_29 rfl (lv_at hl 3 rfl) ?_
        refine lv_icmp_ne (tgt := 37) hx hb dX12_isOf_30 (by decide +kernel) (fun c4 => ?_) (fun c4 => ?_)
        · have f4 := mt (ti_eq (a := y2_3.toInt) (b := k.toInt) rfl rfl).mpr c4
          refine lv_iconst (v := 0) hx hb dX12_isOf_37 (by decide +kernel) ?_
          exact ro_zret hx hb hr hlocks hS rfl dX12_isOf_38 ⟨(show 0 ≤ (0 : Int32).toInt ∧ (0 : Int32).toInt ≤ 1 from by decide +kernel), (show 0 ≤ kS (c 3) (c 6) w.toInt ∧ kS (c 3) (c 6) w.toInt ≤ 5 ∧ (((0 : Int32).toInt = 1 ∧ (kS (c 3) (c 6) w.toInt = k.toInt ∨ ((1 : Int) = k.toInt ∧ 1 < kS (c 3) (c 6) w.toInt))) ∨ ((0 : Int32).toInt = 0 ∧ ¬ (kS (c 3) (c 6) w.toInt = k.toInt ∨ ((1 : Int) = k.toInt ∧ 1 < kS (c 3) (c 6) w.toInt)))) from kS_sm hI hk (sm_0 (fun h9 => by have h8 := hz2_0.mp h9; rw [show y2_3.toInt = -9 by omega] at h8; have h7 := Ch_nd kF_9 h8; omega)))⟩
        · have f4 := (ti_eq (a := y2_3.toInt) (b := k.toInt) rfl rfl).mp c4
          refine lv_iconst (v := 1) hx hb dX12_isOf_33 (by decide +kernel) ?_
          refine lv_goto (tgt := 38) hx hb dX12_isOf_34 (by decide +kernel) ?_
          exact ro_zret hx hb hr hlocks hS rfl dX12_isOf_38 ⟨(show 0 ≤ (1 : Int32).toInt ∧ (1 : Int32).toInt ≤ 1 from by decide +kernel), (show 0 ≤ kS (c 3) (c 6) w.toInt ∧ kS (c 3) (c 6) w.toInt ≤ 5 ∧ (((1 : Int32).toInt = 1 ∧ (kS (c 3) (c 6) w.toInt = k.toInt ∨ ((1 : Int) = k.toInt ∧ 1 < kS (c 3) (c 6) w.toInt))) ∨ ((1 : Int32).toInt = 0 ∧ ¬ (kS (c 3) (c 6) w.toInt = k.toInt ∨ ((1 : Int) = k.toInt ∧ 1 < kS (c 3) (c 6) w.toInt)))) from kS_sm hI hk (sm_1 (hz2_0.mpr (by rw [show y2_3.toInt = k.toInt by omega]; exact Ch_rf))))⟩
      · have f3 := mt (ti_eq (a := y2_3.toInt) (b := (-9)) rfl (by decide +kernel)).mpr c3
        refine lv_iload_n hx hb dX12_isOf_13 rfl (lv_at hl 0 rfl) ?_
        refine lv_iload_n hx hb dX12_isOf_14 rfl (lv_at hl 3 rfl) ?_
        refine lv_icmp_eq (tgt := 28) hx hb dX12_isOf_15 (by decide +kernel) (fun c5 => ?_) (fun c5 => ?_)
        · have f5 := (ti_eq (a := y2_3.toInt) (b := k.toInt) rfl rfl).mp c5
          refine lv_iload_n hx hb dX12_isOf_28 rfl (lv_at hl 0 rfl) ?_
          refine lv_iload_n hx hb dX12_isOf_29 rfl (lv_at hl 3 rfl) ?_
          refine lv_icmp_ne (tgt := 37) hx hb dX12_isOf_30 (by decide +kernel) (fun c6 => ?_) (fun c6 => ?_)
          · have f6 := mt (ti_eq (a := y2_3.toInt) (b := k.toInt) rfl rfl).mpr c6
            refine lv_iconst (v := 0) hx hb dX12_isOf_37 (by decide +kernel) ?_
            exact ro_zret hx hb hr hlocks hS rfl dX12_isOf_38 ⟨(show 0 ≤ (0 : Int32).toInt ∧ (0 : Int32).toInt ≤ 1 from by decide +kernel), (show 0 ≤ kS (c 3) (c 6) w.toInt ∧ kS (c 3) (c 6) w.toInt ≤ 5 ∧ (((0 : Int32).toInt = 1 ∧ (kS (c 3) (c 6) w.toInt = k.toInt ∨ ((1 : Int) = k.toInt ∧ 1 < kS (c 3) (c 6) w.toInt))) ∨ ((0 : Int32).toInt = 0 ∧ ¬ (kS (c 3) (c 6) w.toInt = k.toInt ∨ ((1 : Int) = k.toInt ∧ 1 < kS (c 3) (c 6) w.toInt)))) from kS_sm hI hk (sm_0 (fun h9 => by have h8 := hz2_0.mp h9; rw [show y2_3.toInt = -9 by omega] at h8; have h7 := Ch_nd kF_9 h8; omega)))⟩
          · have f6 := (ti_eq (a := y2_3.toInt) (b := k.toInt) rfl rfl).mp c6
            refine lv_iconst (v := 1) hx hb dX12_isOf_33 (by decide +kernel) ?_
            refine lv_goto (tgt := 38) hx hb dX12_isOf_34 (by decide +kernel) ?_
            exact ro_zret hx hb hr hlocks hS rfl dX12_isOf_38 ⟨(show 0 ≤ (1 : Int32).toInt ∧ (1 : Int32).toInt ≤ 1 from by decide +kernel), (show 0 ≤ kS (c 3) (c 6) w.toInt ∧ kS (c 3) (c 6) w.toInt ≤ 5 ∧ (((1 : Int32).toInt = 1 ∧ (kS (c 3) (c 6) w.toInt = k.toInt ∨ ((1 : Int) = k.toInt ∧ 1 < kS (c 3) (c 6) w.toInt))) ∨ ((1 : Int32).toInt = 0 ∧ ¬ (kS (c 3) (c 6) w.toInt = k.toInt ∨ ((1 : Int) = k.toInt ∧ 1 < kS (c 3) (c 6) w.toInt)))) from kS_sm hI hk (sm_1 (hz2_0.mpr (by rw [show y2_3.toInt = k.toInt by omega]; exact Ch_rf))))⟩
        · have f5 := mt (ti_eq (a := y2_3.toInt) (b := k.toInt) rfl rfl).mpr c5
          refine lv_aload_n hx hb dX12_isOf_18 rfl (lv_at hl 1 rfl) ?_
          refine mget_3 hx hb hts (fun _ h => List.mem_cons_of_mem _ (List.mem_append_right _ h)) hown hK hP (hts (.fieldLink RX12 13 "TalePlayModel" "parentOf" "[I") (List.mem_cons_of_mem _ (List.mem_append_left _ (List.mem_of_getElem? (i := 1) rfl)))) dX12_isOf_19 ?_
          refine lv_iload_n hx hb dX12_isOf_22 rfl (lv_at hl 0 rfl) ?_
          refine mld_3 hx hb hK hP (vp_in_iff.mpr (by have h9 : y2_3.toInt = y2_3.toInt := rfl; omega)) dX12_isOf_23 (fun x7 ex7 => ?_)
          have rx7 : ((((y2_3 : Int32).toNatClampNeg : Nat) : Int) ≤ 1 ∧ x7.toInt = -9) ∨ (2 ≤ (((y2_3 : Int32).toNatClampNeg : Nat) : Int) ∧ (((y2_3 : Int32).toNatClampNeg : Nat) : Int) ≤ 5 ∧ x7.toInt = 1) ∨ (6 ≤ (((y2_3 : Int32).toNatClampNeg : Nat) : Int) ∧ 0 ≤ x7.toInt ∧ x7.toInt ≤ 23 ∧ x7.toInt < (((y2_3 : Int32).toNatClampNeg : Nat) : Int)) := by rw [ex7]; exact hI.2 3 _
          have rc7 : (((y2_3 : Int32).toNatClampNeg : Nat) : Int) = (y2_3 : Int32).toInt := cl_nn (by have h9 : y2_3.toInt = y2_3.toInt := rfl; omega)
          refine lv_istore_n (lv' := [(3, .int x7), (0, .ref o), (1, .int w), (2, .int k)]) hx hb dX12_isOf_24 rfl hl (by decide +kernel) rfl (fun ls hl => ?_)
          refine lv_goto (tgt := 7) hx hb dX12_isOf_25 (by decide +kernel) ?_
          exact ih2 x7 (show x7.toInt = -9 ∨ (0 ≤ x7.toInt ∧ x7.toInt ≤ 23) from by omega) (show Ch (kF (c 3)) (c 6 w.toInt.toNat).toInt k.toInt ↔ Ch (kF (c 3)) x7.toInt k.toInt from hz2_0.trans (by rw [Ch_nx (f := kF (c 3)) (x := y2_3.toInt) (by omega), kF_at (by omega) ex7])) (by omega) _ _ _ hP hS (lv_sub hl [0, 1, 2, 3] rfl)
  exact lp2 _ x1 (show x1.toInt = -9 ∨ (0 ≤ x1.toInt ∧ x1.toInt ≤ 23) from by omega) (show Ch (kF (c 3)) (c 6 w.toInt.toNat).toInt k.toInt ↔ Ch (kF (c 3)) x1.toInt k.toInt from by rw [ex1]; exact Iff.rfl) (Nat.lt_succ_self _) _ _ _ hP hS (lv_sub hl [0, 1, 2, 3] rfl)

set_option maxHeartbeats 4000000 in
set_option maxRecDepth 100000 in
theorem s_X12_isMovable_e (l : Launch) (D : va_G) (sz : Nat) (o : Nat) (a : Nat → Nat) (t : Nat → ClassId) (i : Nat → Int32) (q : Int64) (c : Nat → Nat → Int32) (d : Nat → Nat → Int64) (w : Int32) (hI : mInv i c) (hw : 0 ≤ w.toInt ∧ w.toInt ≤ 29) : Met l yX12_isMovable wm_X12_isMovable ({ frames := 1, cells := 0, slots := 0, locals := 23 }) (va_Pc [.ref o, .int w] (pA D sz (mW o a t i q c d) (mT t))) (va_Qi (fun (r : Int32) (_ : Unit) => (0 ≤ kS (c 3) (c 6) w.toInt ∧ kS (c 3) (c 6) w.toInt ≤ 5 ∧ ((r.toInt = 1 ∧ (kS (c 3) (c 6) w.toInt = 1 ∨ 3 ≤ kS (c 3) (c 6) w.toInt)) ∨ (r.toInt = 0 ∧ ¬ (kS (c 3) (c 6) w.toInt = 1 ∨ 3 ≤ kS (c 3) (c 6) w.toInt))))) oA (ro sz)) 0 0 (ro sz) := by
  refine Met.ofW (cc := cX12_isMovable) (maxL := 2) (ret := (some .boolean)) (by decide +kernel) rfl ?_
  intro p e s m args below meth cd s₁ B hml hv
  obtain ⟨rfl, hsz, hP, hK⟩ := hv
  have hx := B.exec
  have hb := B.bytes
  have hr := B.returns
  have hts := atoms_spec (ws := wm_X12_isMovable) B.pre
  have hown : s.vm.findClass RX12 = some m.cls := findClass_of_methodNamed B.named
  have hlocks := B.notSynchronized
  subst hsz
  have hA : ∀ q : Nat, s.heap.size ≤ q → ro s.heap.size q := fun _ h => h
  have hS : va_S (ro s.heap.size) s.heap s.heap [] := va_S.rf
  have hl := lv_entry ([.ref o, .int w]) (n := 2) (Nat.le_of_ble_eq_true rfl)
  rw [lg_entry_eq]
  generalize (lg_sl ([.ref o, .int w]) ++ List.replicate (2 - (lg_sl ([.ref o, .int w])).length) Slot.unset).toArray = ls at hl ⊢
  have hl : lv_has ls 2 [(0, .ref o), (1, .int w)] := hl
  refine lv_aload_n hx hb dX12_isMovable_0 rfl (lv_at hl 0 rfl) ?_
  refine lv_iload_n hx hb dX12_isMovable_1 rfl (lv_at hl 1 rfl) ?_
  refine lv_iconst (v := 1) hx hb dX12_isMovable_2 (by decide +kernel) ?_
  refine ro_calli (va_runV (As := [.int w, .int 1]) (rest := []) ⟨hx, hb, hml, hown, hts⟩ (s_X12_isOf_e l D s.heap.size o a t i q c d w 1 hI (show 0 ≤ w.toInt ∧ w.toInt ≤ 29 from by have h91 : (1 : Int32).toInt = 1 := (by decide +kernel); omega) (show 0 ≤ 1 ∧ 1 ≤ 5 from by decide +kernel)) (cwV 2 hts gm_X12_isMovable_X12_isOf rfl rfl rfl (by decide +kernel) ⟨Nat.le_of_ble_eq_true rfl, Nat.le_of_ble_eq_true rfl⟩) (pA_V hK hP (ci := 12) (q0 := 0) rfl rfl) rfl rfl hl.1 rfl (lv_room (Nat.le_of_ble_eq_true rfl)) dX12_isMovable_3 ⟨Nat.le_of_ble_eq_true rfl, Nat.le_of_ble_eq_true rfl⟩) hS hA hP (fun r1 u1 H locs hw1 hP hS => ?_)
  have hw1 : ((0 ≤ r1.toInt ∧ r1.toInt ≤ 1) ∧ (0 ≤ kS (c 3) (c 6) w.toInt ∧ kS (c 3) (c 6) w.toInt ≤ 5 ∧ ((r1.toInt = 1 ∧ (kS (c 3) (c 6) w.toInt = 1 ∨ ((1 : Int) = 1 ∧ 1 < kS (c 3) (c 6) w.toInt))) ∨ (r1.toInt = 0 ∧ ¬ (kS (c 3) (c 6) w.toInt = 1 ∨ ((1 : Int) = 1 ∧ 1 < kS (c 3) (c 6) w.toInt)))))) := hw1
  obtain ⟨hw1, hr1_0⟩ := hw1
  have hr1_0 : 0 ≤ kS (c 3) (c 6) w.toInt ∧ kS (c 3) (c 6) w.toInt ≤ 5 ∧ ((r1.toInt = 1 ∧ (kS (c 3) (c 6) w.toInt = 1 ∨ ((1 : Int) = 1 ∧ 1 < kS (c 3) (c 6) w.toInt))) ∨ (r1.toInt = 0 ∧ ¬ (kS (c 3) (c 6) w.toInt = 1 ∨ ((1 : Int) = 1 ∧ 1 < kS (c 3) (c 6) w.toInt)))) := hr1_0
  refine lv_if_eq (tgt := 22) hx hb dX12_isMovable_6 (by decide +kernel) (fun c2 => ?_) (fun c2 => ?_)
  · have f2 := (ti_eq (a := r1.toInt) (b := 0) rfl (by decide +kernel)).mp c2
    refine lv_iconst (v := 0) hx hb dX12_isMovable_22 (by decide +kernel) ?_
    exact ro_zret hx hb hr hlocks hS rfl dX12_isMovable_23 (show 0 ≤ kS (c 3) (c 6) w.toInt ∧ kS (c 3) (c 6) w.toInt ≤ 5 ∧ (((0 : Int32).toInt = 1 ∧ (kS (c 3) (c 6) w.toInt = 1 ∨ 3 ≤ kS (c 3) (c 6) w.toInt)) ∨ ((0 : Int32).toInt = 0 ∧ ¬ (kS (c 3) (c 6) w.toInt = 1 ∨ 3 ≤ kS (c 3) (c 6) w.toInt))) from by have h9 : (0 : Int32).toInt = 0 := (by decide +kernel); omega)
  · have f2 := mt (ti_eq (a := r1.toInt) (b := 0) rfl (by decide +kernel)).mpr c2
    refine lv_aload_n hx hb dX12_isMovable_9 rfl (lv_at hl 0 rfl) ?_
    refine lv_iload_n hx hb dX12_isMovable_10 rfl (lv_at hl 1 rfl) ?_
    refine lv_iconst (v := 2) hx hb dX12_isMovable_11 (by decide +kernel) ?_
    refine ro_calli (va_runV (As := [.int w, .int 2]) (rest := []) ⟨hx, hb, hml, hown, hts⟩ (s_X12_isOf_e l D H.size o a t i q c d w 2 hI (show 0 ≤ w.toInt ∧ w.toInt ≤ 29 from by have h91 : (2 : Int32).toInt = 2 := (by decide +kernel); omega) (show 0 ≤ 2 ∧ 2 ≤ 5 from by decide +kernel)) (cwV 2 hts gm_X12_isMovable_X12_isOf rfl rfl rfl (by decide +kernel) ⟨Nat.le_of_ble_eq_true rfl, Nat.le_of_ble_eq_true rfl⟩) (pA_V hK hP (ci := 12) (q0 := 0) rfl rfl) rfl rfl hl.1 rfl (lv_room (Nat.le_of_ble_eq_true rfl)) dX12_isMovable_12 ⟨Nat.le_of_ble_eq_true rfl, Nat.le_of_ble_eq_true rfl⟩) hS hA hP (fun r3 u3 H locs hw3 hP hS => ?_)
    have hw3 : ((0 ≤ r3.toInt ∧ r3.toInt ≤ 1) ∧ (0 ≤ kS (c 3) (c 6) w.toInt ∧ kS (c 3) (c 6) w.toInt ≤ 5 ∧ ((r3.toInt = 1 ∧ (kS (c 3) (c 6) w.toInt = 2 ∨ ((1 : Int) = 2 ∧ 1 < kS (c 3) (c 6) w.toInt))) ∨ (r3.toInt = 0 ∧ ¬ (kS (c 3) (c 6) w.toInt = 2 ∨ ((1 : Int) = 2 ∧ 1 < kS (c 3) (c 6) w.toInt)))))) := hw3
    obtain ⟨hw3, hr3_0⟩ := hw3
    have hr3_0 : 0 ≤ kS (c 3) (c 6) w.toInt ∧ kS (c 3) (c 6) w.toInt ≤ 5 ∧ ((r3.toInt = 1 ∧ (kS (c 3) (c 6) w.toInt = 2 ∨ ((1 : Int) = 2 ∧ 1 < kS (c 3) (c 6) w.toInt))) ∨ (r3.toInt = 0 ∧ ¬ (kS (c 3) (c 6) w.toInt = 2 ∨ ((1 : Int) = 2 ∧ 1 < kS (c 3) (c 6) w.toInt)))) := hr3_0
    refine lv_if_ne (tgt := 22) hx hb dX12_isMovable_15 (by decide +kernel) (fun c4 => ?_) (fun c4 => ?_)
    · have f4 := mt (ti_eq (a := r3.toInt) (b := 0) rfl (by decide +kernel)).mpr c4
      refine lv_iconst (v := 0) hx hb dX12_isMovable_22 (by decide +kernel) ?_
      exact ro_zret hx hb hr hlocks hS rfl dX12_isMovable_23 (show 0 ≤ kS (c 3) (c 6) w.toInt ∧ kS (c 3) (c 6) w.toInt ≤ 5 ∧ (((0 : Int32).toInt = 1 ∧ (kS (c 3) (c 6) w.toInt = 1 ∨ 3 ≤ kS (c 3) (c 6) w.toInt)) ∨ ((0 : Int32).toInt = 0 ∧ ¬ (kS (c 3) (c 6) w.toInt = 1 ∨ 3 ≤ kS (c 3) (c 6) w.toInt))) from by have h9 : (0 : Int32).toInt = 0 := (by decide +kernel); omega)
    · have f4 := (ti_eq (a := r3.toInt) (b := 0) rfl (by decide +kernel)).mp c4
      refine lv_iconst (v := 1) hx hb dX12_isMovable_18 (by decide +kernel) ?_
      refine lv_goto (tgt := 23) hx hb dX12_isMovable_19 (by decide +kernel) ?_
      exact ro_zret hx hb hr hlocks hS rfl dX12_isMovable_23 (show 0 ≤ kS (c 3) (c 6) w.toInt ∧ kS (c 3) (c 6) w.toInt ≤ 5 ∧ (((1 : Int32).toInt = 1 ∧ (kS (c 3) (c 6) w.toInt = 1 ∨ 3 ≤ kS (c 3) (c 6) w.toInt)) ∨ ((1 : Int32).toInt = 0 ∧ ¬ (kS (c 3) (c 6) w.toInt = 1 ∨ 3 ≤ kS (c 3) (c 6) w.toInt))) from by have h9 : (1 : Int32).toInt = 1 := (by decide +kernel); omega)

set_option maxHeartbeats 4000000 in
set_option maxRecDepth 100000 in
theorem s_X12_isGoods_e (l : Launch) (D : va_G) (sz : Nat) (o : Nat) (a : Nat → Nat) (t : Nat → ClassId) (i : Nat → Int32) (q : Int64) (c : Nat → Nat → Int32) (d : Nat → Nat → Int64) (w : Int32) (hI : mInv i c) (hw : 0 ≤ w.toInt ∧ w.toInt ≤ 29) : Met l yX12_isGoods wm_X12_isGoods ({ frames := 2, cells := 0, slots := 0, locals := 44 }) (va_Pc [.ref o, .int w] (pA D sz (mW o a t i q c d) (mT t))) (va_Qi (fun (r : Int32) (_ : Unit) => (0 ≤ kS (c 3) (c 6) w.toInt ∧ kS (c 3) (c 6) w.toInt ≤ 5 ∧ ((r.toInt = 1 ∧ ((kS (c 3) (c 6) w.toInt = 1 ∨ 3 ≤ kS (c 3) (c 6) w.toInt) ∧ ¬ kS (c 3) (c 6) w.toInt = 5)) ∨ (r.toInt = 0 ∧ ¬ ((kS (c 3) (c 6) w.toInt = 1 ∨ 3 ≤ kS (c 3) (c 6) w.toInt) ∧ ¬ kS (c 3) (c 6) w.toInt = 5))))) oA (ro sz)) 0 0 (ro sz) := by
  refine Met.ofW (cc := cX12_isGoods) (maxL := 2) (ret := (some .boolean)) (by decide +kernel) rfl ?_
  intro p e s m args below meth cd s₁ B hml hv
  obtain ⟨rfl, hsz, hP, hK⟩ := hv
  have hx := B.exec
  have hb := B.bytes
  have hr := B.returns
  have hts := atoms_spec (ws := wm_X12_isGoods) B.pre
  have hown : s.vm.findClass RX12 = some m.cls := findClass_of_methodNamed B.named
  have hlocks := B.notSynchronized
  subst hsz
  have hA : ∀ q : Nat, s.heap.size ≤ q → ro s.heap.size q := fun _ h => h
  have hS : va_S (ro s.heap.size) s.heap s.heap [] := va_S.rf
  have hl := lv_entry ([.ref o, .int w]) (n := 2) (Nat.le_of_ble_eq_true rfl)
  rw [lg_entry_eq]
  generalize (lg_sl ([.ref o, .int w]) ++ List.replicate (2 - (lg_sl ([.ref o, .int w])).length) Slot.unset).toArray = ls at hl ⊢
  have hl : lv_has ls 2 [(0, .ref o), (1, .int w)] := hl
  refine lv_aload_n hx hb dX12_isGoods_0 rfl (lv_at hl 0 rfl) ?_
  refine lv_iload_n hx hb dX12_isGoods_1 rfl (lv_at hl 1 rfl) ?_
  refine ro_calli (va_runV (As := [.int w]) (rest := []) ⟨hx, hb, hml, hown, hts⟩ (s_X12_isMovable_e l D s.heap.size o a t i q c d w hI (show 0 ≤ w.toInt ∧ w.toInt ≤ 29 from by omega)) (cwV 1 hts gm_X12_isGoods_X12_isMovable rfl rfl rfl (by decide +kernel) ⟨Nat.le_of_ble_eq_true rfl, Nat.le_of_ble_eq_true rfl⟩) (pA_V hK hP (ci := 12) (q0 := 0) rfl rfl) rfl rfl hl.1 rfl (lv_room (Nat.le_of_ble_eq_true rfl)) dX12_isGoods_2 ⟨Nat.le_of_ble_eq_true rfl, Nat.le_of_ble_eq_true rfl⟩) hS hA hP (fun r1 u1 H locs hw1 hP hS => ?_)
  have hw1 : (0 ≤ kS (c 3) (c 6) w.toInt ∧ kS (c 3) (c 6) w.toInt ≤ 5 ∧ ((r1.toInt = 1 ∧ (kS (c 3) (c 6) w.toInt = 1 ∨ 3 ≤ kS (c 3) (c 6) w.toInt)) ∨ (r1.toInt = 0 ∧ ¬ (kS (c 3) (c 6) w.toInt = 1 ∨ 3 ≤ kS (c 3) (c 6) w.toInt)))) := hw1
  refine lv_if_eq (tgt := 21) hx hb dX12_isGoods_5 (by decide +kernel) (fun c2 => ?_) (fun c2 => ?_)
  · have f2 := (ti_eq (a := r1.toInt) (b := 0) rfl (by decide +kernel)).mp c2
    refine lv_iconst (v := 0) hx hb dX12_isGoods_21 (by decide +kernel) ?_
    exact ro_zret hx hb hr hlocks hS rfl dX12_isGoods_22 (show 0 ≤ kS (c 3) (c 6) w.toInt ∧ kS (c 3) (c 6) w.toInt ≤ 5 ∧ (((0 : Int32).toInt = 1 ∧ ((kS (c 3) (c 6) w.toInt = 1 ∨ 3 ≤ kS (c 3) (c 6) w.toInt) ∧ ¬ kS (c 3) (c 6) w.toInt = 5)) ∨ ((0 : Int32).toInt = 0 ∧ ¬ ((kS (c 3) (c 6) w.toInt = 1 ∨ 3 ≤ kS (c 3) (c 6) w.toInt) ∧ ¬ kS (c 3) (c 6) w.toInt = 5))) from by have h9 : (0 : Int32).toInt = 0 := (by decide +kernel); omega)
  · have f2 := mt (ti_eq (a := r1.toInt) (b := 0) rfl (by decide +kernel)).mpr c2
    refine lv_aload_n hx hb dX12_isGoods_8 rfl (lv_at hl 0 rfl) ?_
    refine lv_iload_n hx hb dX12_isGoods_9 rfl (lv_at hl 1 rfl) ?_
    refine lv_iconst (v := 5) hx hb dX12_isGoods_10 (by decide +kernel) ?_
    refine ro_calli (va_runV (As := [.int w, .int 5]) (rest := []) ⟨hx, hb, hml, hown, hts⟩ (s_X12_isOf_e l D H.size o a t i q c d w 5 hI (show 0 ≤ w.toInt ∧ w.toInt ≤ 29 from by have h91 : (5 : Int32).toInt = 5 := (by decide +kernel); omega) (show 0 ≤ 5 ∧ 5 ≤ 5 from by decide +kernel)) (cwV 2 hts gm_X12_isGoods_X12_isOf rfl rfl rfl (by decide +kernel) ⟨Nat.le_of_ble_eq_true rfl, Nat.le_of_ble_eq_true rfl⟩) (pA_V hK hP (ci := 12) (q0 := 0) rfl rfl) rfl rfl hl.1 rfl (lv_room (Nat.le_of_ble_eq_true rfl)) dX12_isGoods_11 ⟨Nat.le_of_ble_eq_true rfl, Nat.le_of_ble_eq_true rfl⟩) hS hA hP (fun r3 u3 H locs hw3 hP hS => ?_)
    have hw3 : ((0 ≤ r3.toInt ∧ r3.toInt ≤ 1) ∧ (0 ≤ kS (c 3) (c 6) w.toInt ∧ kS (c 3) (c 6) w.toInt ≤ 5 ∧ ((r3.toInt = 1 ∧ (kS (c 3) (c 6) w.toInt = 5 ∨ ((1 : Int) = 5 ∧ 1 < kS (c 3) (c 6) w.toInt))) ∨ (r3.toInt = 0 ∧ ¬ (kS (c 3) (c 6) w.toInt = 5 ∨ ((1 : Int) = 5 ∧ 1 < kS (c 3) (c 6) w.toInt)))))) := hw3
    obtain ⟨hw3, hr3_0⟩ := hw3
    have hr3_0 : 0 ≤ kS (c 3) (c 6) w.toInt ∧ kS (c 3) (c 6) w.toInt ≤ 5 ∧ ((r3.toInt = 1 ∧ (kS (c 3) (c 6) w.toInt = 5 ∨ ((1 : Int) = 5 ∧ 1 < kS (c 3) (c 6) w.toInt))) ∨ (r3.toInt = 0 ∧ ¬ (kS (c 3) (c 6) w.toInt = 5 ∨ ((1 : Int) = 5 ∧ 1 < kS (c 3) (c 6) w.toInt)))) := hr3_0
    refine lv_if_ne (tgt := 21) hx hb dX12_isGoods_14 (by decide +kernel) (fun c4 => ?_) (fun c4 => ?_)
    · have f4 := mt (ti_eq (a := r3.toInt) (b := 0) rfl (by decide +kernel)).mpr c4
      refine lv_iconst (v := 0) hx hb dX12_isGoods_21 (by decide +kernel) ?_
      exact ro_zret hx hb hr hlocks hS rfl dX12_isGoods_22 (show 0 ≤ kS (c 3) (c 6) w.toInt ∧ kS (c 3) (c 6) w.toInt ≤ 5 ∧ (((0 : Int32).toInt = 1 ∧ ((kS (c 3) (c 6) w.toInt = 1 ∨ 3 ≤ kS (c 3) (c 6) w.toInt) ∧ ¬ kS (c 3) (c 6) w.toInt = 5)) ∨ ((0 : Int32).toInt = 0 ∧ ¬ ((kS (c 3) (c 6) w.toInt = 1 ∨ 3 ≤ kS (c 3) (c 6) w.toInt) ∧ ¬ kS (c 3) (c 6) w.toInt = 5))) from by have h9 : (0 : Int32).toInt = 0 := (by decide +kernel); omega)
    · have f4 := (ti_eq (a := r3.toInt) (b := 0) rfl (by decide +kernel)).mp c4
      refine lv_iconst (v := 1) hx hb dX12_isGoods_17 (by decide +kernel) ?_
      refine lv_goto (tgt := 22) hx hb dX12_isGoods_18 (by decide +kernel) ?_
      exact ro_zret hx hb hr hlocks hS rfl dX12_isGoods_22 (show 0 ≤ kS (c 3) (c 6) w.toInt ∧ kS (c 3) (c 6) w.toInt ≤ 5 ∧ (((1 : Int32).toInt = 1 ∧ ((kS (c 3) (c 6) w.toInt = 1 ∨ 3 ≤ kS (c 3) (c 6) w.toInt) ∧ ¬ kS (c 3) (c 6) w.toInt = 5)) ∨ ((1 : Int32).toInt = 0 ∧ ¬ ((kS (c 3) (c 6) w.toInt = 1 ∨ 3 ≤ kS (c 3) (c 6) w.toInt) ∧ ¬ kS (c 3) (c 6) w.toInt = 5))) from by have h9 : (1 : Int32).toInt = 1 := (by decide +kernel); omega)

set_option maxHeartbeats 4000000 in
set_option maxRecDepth 100000 in
theorem s_X12_isShutter_e (l : Launch) (D : va_G) (sz : Nat) (o : Nat) (a : Nat → Nat) (t : Nat → ClassId) (i : Nat → Int32) (q : Int64) (c : Nat → Nat → Int32) (d : Nat → Nat → Int64) (w : Int32) (hI : mInv i c) (hw : 0 ≤ w.toInt ∧ w.toInt ≤ 29) : Met l yX12_isShutter wm_X12_isShutter ({ frames := 1, cells := 0, slots := 0, locals := 23 }) (va_Pc [.ref o, .int w] (pA D sz (mW o a t i q c d) (mT t))) (va_Qi (fun (r : Int32) (_ : Unit) => (0 ≤ kS (c 3) (c 6) w.toInt ∧ kS (c 3) (c 6) w.toInt ≤ 5 ∧ ((r.toInt = 1 ∧ (kS (c 3) (c 6) w.toInt = 2 ∨ kS (c 3) (c 6) w.toInt = 3)) ∨ (r.toInt = 0 ∧ ¬ (kS (c 3) (c 6) w.toInt = 2 ∨ kS (c 3) (c 6) w.toInt = 3))))) oA (ro sz)) 0 0 (ro sz) := by
  refine Met.ofW (cc := cX12_isShutter) (maxL := 2) (ret := (some .boolean)) (by decide +kernel) rfl ?_
  intro p e s m args below meth cd s₁ B hml hv
  obtain ⟨rfl, hsz, hP, hK⟩ := hv
  have hx := B.exec
  have hb := B.bytes
  have hr := B.returns
  have hts := atoms_spec (ws := wm_X12_isShutter) B.pre
  have hown : s.vm.findClass RX12 = some m.cls := findClass_of_methodNamed B.named
  have hlocks := B.notSynchronized
  subst hsz
  have hA : ∀ q : Nat, s.heap.size ≤ q → ro s.heap.size q := fun _ h => h
  have hS : va_S (ro s.heap.size) s.heap s.heap [] := va_S.rf
  have hl := lv_entry ([.ref o, .int w]) (n := 2) (Nat.le_of_ble_eq_true rfl)
  rw [lg_entry_eq]
  generalize (lg_sl ([.ref o, .int w]) ++ List.replicate (2 - (lg_sl ([.ref o, .int w])).length) Slot.unset).toArray = ls at hl ⊢
  have hl : lv_has ls 2 [(0, .ref o), (1, .int w)] := hl
  refine lv_aload_n hx hb dX12_isShutter_0 rfl (lv_at hl 0 rfl) ?_
  refine lv_iload_n hx hb dX12_isShutter_1 rfl (lv_at hl 1 rfl) ?_
  refine lv_iconst (v := 2) hx hb dX12_isShutter_2 (by decide +kernel) ?_
  refine ro_calli (va_runV (As := [.int w, .int 2]) (rest := []) ⟨hx, hb, hml, hown, hts⟩ (s_X12_isOf_e l D s.heap.size o a t i q c d w 2 hI (show 0 ≤ w.toInt ∧ w.toInt ≤ 29 from by have h91 : (2 : Int32).toInt = 2 := (by decide +kernel); omega) (show 0 ≤ 2 ∧ 2 ≤ 5 from by decide +kernel)) (cwV 2 hts gm_X12_isShutter_X12_isOf rfl rfl rfl (by decide +kernel) ⟨Nat.le_of_ble_eq_true rfl, Nat.le_of_ble_eq_true rfl⟩) (pA_V hK hP (ci := 12) (q0 := 0) rfl rfl) rfl rfl hl.1 rfl (lv_room (Nat.le_of_ble_eq_true rfl)) dX12_isShutter_3 ⟨Nat.le_of_ble_eq_true rfl, Nat.le_of_ble_eq_true rfl⟩) hS hA hP (fun r1 u1 H locs hw1 hP hS => ?_)
  have hw1 : ((0 ≤ r1.toInt ∧ r1.toInt ≤ 1) ∧ (0 ≤ kS (c 3) (c 6) w.toInt ∧ kS (c 3) (c 6) w.toInt ≤ 5 ∧ ((r1.toInt = 1 ∧ (kS (c 3) (c 6) w.toInt = 2 ∨ ((1 : Int) = 2 ∧ 1 < kS (c 3) (c 6) w.toInt))) ∨ (r1.toInt = 0 ∧ ¬ (kS (c 3) (c 6) w.toInt = 2 ∨ ((1 : Int) = 2 ∧ 1 < kS (c 3) (c 6) w.toInt)))))) := hw1
  obtain ⟨hw1, hr1_0⟩ := hw1
  have hr1_0 : 0 ≤ kS (c 3) (c 6) w.toInt ∧ kS (c 3) (c 6) w.toInt ≤ 5 ∧ ((r1.toInt = 1 ∧ (kS (c 3) (c 6) w.toInt = 2 ∨ ((1 : Int) = 2 ∧ 1 < kS (c 3) (c 6) w.toInt))) ∨ (r1.toInt = 0 ∧ ¬ (kS (c 3) (c 6) w.toInt = 2 ∨ ((1 : Int) = 2 ∧ 1 < kS (c 3) (c 6) w.toInt)))) := hr1_0
  refine lv_if_ne (tgt := 18) hx hb dX12_isShutter_6 (by decide +kernel) (fun c2 => ?_) (fun c2 => ?_)
  · have f2 := mt (ti_eq (a := r1.toInt) (b := 0) rfl (by decide +kernel)).mpr c2
    refine lv_iconst (v := 1) hx hb dX12_isShutter_18 (by decide +kernel) ?_
    refine lv_goto (tgt := 23) hx hb dX12_isShutter_19 (by decide +kernel) ?_
    exact ro_zret hx hb hr hlocks hS rfl dX12_isShutter_23 (show 0 ≤ kS (c 3) (c 6) w.toInt ∧ kS (c 3) (c 6) w.toInt ≤ 5 ∧ (((1 : Int32).toInt = 1 ∧ (kS (c 3) (c 6) w.toInt = 2 ∨ kS (c 3) (c 6) w.toInt = 3)) ∨ ((1 : Int32).toInt = 0 ∧ ¬ (kS (c 3) (c 6) w.toInt = 2 ∨ kS (c 3) (c 6) w.toInt = 3))) from by have h9 : (1 : Int32).toInt = 1 := (by decide +kernel); omega)
  · have f2 := (ti_eq (a := r1.toInt) (b := 0) rfl (by decide +kernel)).mp c2
    refine lv_aload_n hx hb dX12_isShutter_9 rfl (lv_at hl 0 rfl) ?_
    refine lv_iload_n hx hb dX12_isShutter_10 rfl (lv_at hl 1 rfl) ?_
    refine lv_iconst (v := 3) hx hb dX12_isShutter_11 (by decide +kernel) ?_
    refine ro_calli (va_runV (As := [.int w, .int 3]) (rest := []) ⟨hx, hb, hml, hown, hts⟩ (s_X12_isOf_e l D H.size o a t i q c d w 3 hI (show 0 ≤ w.toInt ∧ w.toInt ≤ 29 from by have h91 : (3 : Int32).toInt = 3 := (by decide +kernel); omega) (show 0 ≤ 3 ∧ 3 ≤ 5 from by decide +kernel)) (cwV 2 hts gm_X12_isShutter_X12_isOf rfl rfl rfl (by decide +kernel) ⟨Nat.le_of_ble_eq_true rfl, Nat.le_of_ble_eq_true rfl⟩) (pA_V hK hP (ci := 12) (q0 := 0) rfl rfl) rfl rfl hl.1 rfl (lv_room (Nat.le_of_ble_eq_true rfl)) dX12_isShutter_12 ⟨Nat.le_of_ble_eq_true rfl, Nat.le_of_ble_eq_true rfl⟩) hS hA hP (fun r3 u3 H locs hw3 hP hS => ?_)
    have hw3 : ((0 ≤ r3.toInt ∧ r3.toInt ≤ 1) ∧ (0 ≤ kS (c 3) (c 6) w.toInt ∧ kS (c 3) (c 6) w.toInt ≤ 5 ∧ ((r3.toInt = 1 ∧ (kS (c 3) (c 6) w.toInt = 3 ∨ ((1 : Int) = 3 ∧ 1 < kS (c 3) (c 6) w.toInt))) ∨ (r3.toInt = 0 ∧ ¬ (kS (c 3) (c 6) w.toInt = 3 ∨ ((1 : Int) = 3 ∧ 1 < kS (c 3) (c 6) w.toInt)))))) := hw3
    obtain ⟨hw3, hr3_0⟩ := hw3
    have hr3_0 : 0 ≤ kS (c 3) (c 6) w.toInt ∧ kS (c 3) (c 6) w.toInt ≤ 5 ∧ ((r3.toInt = 1 ∧ (kS (c 3) (c 6) w.toInt = 3 ∨ ((1 : Int) = 3 ∧ 1 < kS (c 3) (c 6) w.toInt))) ∨ (r3.toInt = 0 ∧ ¬ (kS (c 3) (c 6) w.toInt = 3 ∨ ((1 : Int) = 3 ∧ 1 < kS (c 3) (c 6) w.toInt)))) := hr3_0
    refine lv_if_eq (tgt := 22) hx hb dX12_isShutter_15 (by decide +kernel) (fun c4 => ?_) (fun c4 => ?_)
    · have f4 := (ti_eq (a := r3.toInt) (b := 0) rfl (by decide +kernel)).mp c4
      refine lv_iconst (v := 0) hx hb dX12_isShutter_22 (by decide +kernel) ?_
      exact ro_zret hx hb hr hlocks hS rfl dX12_isShutter_23 (show 0 ≤ kS (c 3) (c 6) w.toInt ∧ kS (c 3) (c 6) w.toInt ≤ 5 ∧ (((0 : Int32).toInt = 1 ∧ (kS (c 3) (c 6) w.toInt = 2 ∨ kS (c 3) (c 6) w.toInt = 3)) ∨ ((0 : Int32).toInt = 0 ∧ ¬ (kS (c 3) (c 6) w.toInt = 2 ∨ kS (c 3) (c 6) w.toInt = 3))) from by have h9 : (0 : Int32).toInt = 0 := (by decide +kernel); omega)
    · have f4 := mt (ti_eq (a := r3.toInt) (b := 0) rfl (by decide +kernel)).mpr c4
      refine lv_iconst (v := 1) hx hb dX12_isShutter_18 (by decide +kernel) ?_
      refine lv_goto (tgt := 23) hx hb dX12_isShutter_19 (by decide +kernel) ?_
      exact ro_zret hx hb hr hlocks hS rfl dX12_isShutter_23 (show 0 ≤ kS (c 3) (c 6) w.toInt ∧ kS (c 3) (c 6) w.toInt ≤ 5 ∧ (((1 : Int32).toInt = 1 ∧ (kS (c 3) (c 6) w.toInt = 2 ∨ kS (c 3) (c 6) w.toInt = 3)) ∨ ((1 : Int32).toInt = 0 ∧ ¬ (kS (c 3) (c 6) w.toInt = 2 ∨ kS (c 3) (c 6) w.toInt = 3))) from by have h9 : (1 : Int32).toInt = 1 := (by decide +kernel); omega)

set_option maxHeartbeats 4000000 in
set_option maxRecDepth 100000 in
theorem s_X12_mayHave_e (l : Launch) (D : va_G) (sz : Nat) (o : Nat) (a : Nat → Nat) (t : Nat → ClassId) (i : Nat → Int32) (q : Int64) (c : Nat → Nat → Int32) (d : Nat → Nat → Int64) (w : Int32) (f : Int32) (hI : mInv i c) (hw : 0 ≤ w.toInt ∧ w.toInt ≤ 29) (hf : 0 ≤ f.toInt ∧ f.toInt ≤ 5) : Met l yX12_mayHave wm_X12_mayHave ({ frames := 3, cells := 0, slots := 0, locals := 65 }) (va_Pc [.ref o, .int w, .int f] (pA D sz (mW o a t i q c d) (mT t))) (va_Qi (fun (r : Int32) (_ : Unit) => (((r.toInt = 1 ∧ ((f.toInt ≤ 1 ∧ (kS (c 3) (c 6) w.toInt = 2 ∨ kS (c 3) (c 6) w.toInt = 3)) ∨ f.toInt = 2 ∨ (f.toInt = 3 ∧ (kS (c 3) (c 6) w.toInt = 1 ∨ 3 ≤ kS (c 3) (c 6) w.toInt)) ∨ (f.toInt = 4 ∧ ((kS (c 3) (c 6) w.toInt = 1 ∨ 3 ≤ kS (c 3) (c 6) w.toInt) ∧ ¬ kS (c 3) (c 6) w.toInt = 5)) ∨ (5 ≤ f.toInt ∧ kS (c 3) (c 6) w.toInt = 3))) ∨ (r.toInt = 0 ∧ ¬ ((f.toInt ≤ 1 ∧ (kS (c 3) (c 6) w.toInt = 2 ∨ kS (c 3) (c 6) w.toInt = 3)) ∨ f.toInt = 2 ∨ (f.toInt = 3 ∧ (kS (c 3) (c 6) w.toInt = 1 ∨ 3 ≤ kS (c 3) (c 6) w.toInt)) ∨ (f.toInt = 4 ∧ ((kS (c 3) (c 6) w.toInt = 1 ∨ 3 ≤ kS (c 3) (c 6) w.toInt) ∧ ¬ kS (c 3) (c 6) w.toInt = 5)) ∨ (5 ≤ f.toInt ∧ kS (c 3) (c 6) w.toInt = 3)))))) oA (ro sz)) 0 0 (ro sz) := by
  refine Met.ofW (cc := cX12_mayHave) (maxL := 3) (ret := (some .boolean)) (by decide +kernel) rfl ?_
  intro p e s m args below meth cd s₁ B hml hv
  obtain ⟨rfl, hsz, hP, hK⟩ := hv
  have hx := B.exec
  have hb := B.bytes
  have hr := B.returns
  have hts := atoms_spec (ws := wm_X12_mayHave) B.pre
  have hown : s.vm.findClass RX12 = some m.cls := findClass_of_methodNamed B.named
  have hlocks := B.notSynchronized
  subst hsz
  have hA : ∀ q : Nat, s.heap.size ≤ q → ro s.heap.size q := fun _ h => h
  have hS : va_S (ro s.heap.size) s.heap s.heap [] := va_S.rf
  have hl := lv_entry ([.ref o, .int w, .int f]) (n := 3) (Nat.le_of_ble_eq_true rfl)
  rw [lg_entry_eq]
  generalize (lg_sl ([.ref o, .int w, .int f]) ++ List.replicate (3 - (lg_sl ([.ref o, .int w, .int f])).length) Slot.unset).toArray = ls at hl ⊢
  have hl : lv_has ls 3 [(0, .ref o), (1, .int w), (2, .int f)] := hl
  refine lv_iload_n hx hb dX12_mayHave_0 rfl (lv_at hl 2 rfl) ?_
  rcases (show (f.toInt < 0 ∨ 4 < f.toInt) ∨ f.toInt = 0 ∨ f.toInt = 1 ∨ f.toInt = 2 ∨ f.toInt = 3 ∨ f.toInt = 4 by omega) with f1 | f1 | f1 | f1 | f1 | f1
  · refine lv_tableOut (tgt := 56) hx hb dX12_mayHave_1 f1 (by decide +kernel) ?_
    refine lv_aload_n hx hb dX12_mayHave_56 rfl (lv_at hl 0 rfl) ?_
    refine lv_iload_n hx hb dX12_mayHave_57 rfl (lv_at hl 1 rfl) ?_
    refine lv_iconst (v := 3) hx hb dX12_mayHave_58 (by decide +kernel) ?_
    refine ro_calli (va_runV (As := [.int w, .int 3]) (rest := []) ⟨hx, hb, hml, hown, hts⟩ (s_X12_isOf_e l D s.heap.size o a t i q c d w 3 hI (show 0 ≤ w.toInt ∧ w.toInt ≤ 29 from by have h91 : (3 : Int32).toInt = 3 := (by decide +kernel); omega) (show 0 ≤ 3 ∧ 3 ≤ 5 from by decide +kernel)) (cwV 2 hts gm_X12_mayHave_X12_isOf rfl rfl rfl (by decide +kernel) ⟨Nat.le_of_ble_eq_true rfl, Nat.le_of_ble_eq_true rfl⟩) (pA_V hK hP (ci := 12) (q0 := 0) rfl rfl) rfl rfl hl.1 rfl (lv_room (Nat.le_of_ble_eq_true rfl)) dX12_mayHave_59 ⟨Nat.le_of_ble_eq_true rfl, Nat.le_of_ble_eq_true rfl⟩) hS hA hP (fun r2 u2 H locs hw2 hP hS => ?_)
    have hw2 : ((0 ≤ r2.toInt ∧ r2.toInt ≤ 1) ∧ (0 ≤ kS (c 3) (c 6) w.toInt ∧ kS (c 3) (c 6) w.toInt ≤ 5 ∧ ((r2.toInt = 1 ∧ (kS (c 3) (c 6) w.toInt = 3 ∨ ((1 : Int) = 3 ∧ 1 < kS (c 3) (c 6) w.toInt))) ∨ (r2.toInt = 0 ∧ ¬ (kS (c 3) (c 6) w.toInt = 3 ∨ ((1 : Int) = 3 ∧ 1 < kS (c 3) (c 6) w.toInt)))))) := hw2
    obtain ⟨hw2, hr2_0⟩ := hw2
    have hr2_0 : 0 ≤ kS (c 3) (c 6) w.toInt ∧ kS (c 3) (c 6) w.toInt ≤ 5 ∧ ((r2.toInt = 1 ∧ (kS (c 3) (c 6) w.toInt = 3 ∨ ((1 : Int) = 3 ∧ 1 < kS (c 3) (c 6) w.toInt))) ∨ (r2.toInt = 0 ∧ ¬ (kS (c 3) (c 6) w.toInt = 3 ∨ ((1 : Int) = 3 ∧ 1 < kS (c 3) (c 6) w.toInt)))) := hr2_0
    exact ro_zret hx hb hr hlocks hS (nb_n (show 0 ≤ r2.toInt ∧ r2.toInt ≤ 1 from by omega)) dX12_mayHave_62 (show ((r2.toInt = 1 ∧ ((f.toInt ≤ 1 ∧ (kS (c 3) (c 6) w.toInt = 2 ∨ kS (c 3) (c 6) w.toInt = 3)) ∨ f.toInt = 2 ∨ (f.toInt = 3 ∧ (kS (c 3) (c 6) w.toInt = 1 ∨ 3 ≤ kS (c 3) (c 6) w.toInt)) ∨ (f.toInt = 4 ∧ ((kS (c 3) (c 6) w.toInt = 1 ∨ 3 ≤ kS (c 3) (c 6) w.toInt) ∧ ¬ kS (c 3) (c 6) w.toInt = 5)) ∨ (5 ≤ f.toInt ∧ kS (c 3) (c 6) w.toInt = 3))) ∨ (r2.toInt = 0 ∧ ¬ ((f.toInt ≤ 1 ∧ (kS (c 3) (c 6) w.toInt = 2 ∨ kS (c 3) (c 6) w.toInt = 3)) ∨ f.toInt = 2 ∨ (f.toInt = 3 ∧ (kS (c 3) (c 6) w.toInt = 1 ∨ 3 ≤ kS (c 3) (c 6) w.toInt)) ∨ (f.toInt = 4 ∧ ((kS (c 3) (c 6) w.toInt = 1 ∨ 3 ≤ kS (c 3) (c 6) w.toInt) ∧ ¬ kS (c 3) (c 6) w.toInt = 5)) ∨ (5 ≤ f.toInt ∧ kS (c 3) (c 6) w.toInt = 3)))) from by omega)
  · refine lv_tableIn (off := 35) (tgt := 36) hx hb dX12_mayHave_1 (by omega) (by omega) (by rw [f1]; rfl) (by decide +kernel) ?_
    refine lv_aload_n hx hb dX12_mayHave_36 rfl (lv_at hl 0 rfl) ?_
    refine lv_iload_n hx hb dX12_mayHave_37 rfl (lv_at hl 1 rfl) ?_
    refine ro_calli (va_runV (As := [.int w]) (rest := []) ⟨hx, hb, hml, hown, hts⟩ (s_X12_isShutter_e l D s.heap.size o a t i q c d w hI (show 0 ≤ w.toInt ∧ w.toInt ≤ 29 from by omega)) (cwV 1 hts gm_X12_mayHave_X12_isShutter rfl rfl rfl (by decide +kernel) ⟨Nat.le_of_ble_eq_true rfl, Nat.le_of_ble_eq_true rfl⟩) (pA_V hK hP (ci := 12) (q0 := 0) rfl rfl) rfl rfl hl.1 rfl (lv_room (Nat.le_of_ble_eq_true rfl)) dX12_mayHave_38 ⟨Nat.le_of_ble_eq_true rfl, Nat.le_of_ble_eq_true rfl⟩) hS hA hP (fun r3 u3 H locs hw3 hP hS => ?_)
    have hw3 : (0 ≤ kS (c 3) (c 6) w.toInt ∧ kS (c 3) (c 6) w.toInt ≤ 5 ∧ ((r3.toInt = 1 ∧ (kS (c 3) (c 6) w.toInt = 2 ∨ kS (c 3) (c 6) w.toInt = 3)) ∨ (r3.toInt = 0 ∧ ¬ (kS (c 3) (c 6) w.toInt = 2 ∨ kS (c 3) (c 6) w.toInt = 3)))) := hw3
    exact ro_zret hx hb hr hlocks hS (nb_n (show 0 ≤ r3.toInt ∧ r3.toInt ≤ 1 from by omega)) dX12_mayHave_41 (show ((r3.toInt = 1 ∧ ((f.toInt ≤ 1 ∧ (kS (c 3) (c 6) w.toInt = 2 ∨ kS (c 3) (c 6) w.toInt = 3)) ∨ f.toInt = 2 ∨ (f.toInt = 3 ∧ (kS (c 3) (c 6) w.toInt = 1 ∨ 3 ≤ kS (c 3) (c 6) w.toInt)) ∨ (f.toInt = 4 ∧ ((kS (c 3) (c 6) w.toInt = 1 ∨ 3 ≤ kS (c 3) (c 6) w.toInt) ∧ ¬ kS (c 3) (c 6) w.toInt = 5)) ∨ (5 ≤ f.toInt ∧ kS (c 3) (c 6) w.toInt = 3))) ∨ (r3.toInt = 0 ∧ ¬ ((f.toInt ≤ 1 ∧ (kS (c 3) (c 6) w.toInt = 2 ∨ kS (c 3) (c 6) w.toInt = 3)) ∨ f.toInt = 2 ∨ (f.toInt = 3 ∧ (kS (c 3) (c 6) w.toInt = 1 ∨ 3 ≤ kS (c 3) (c 6) w.toInt)) ∨ (f.toInt = 4 ∧ ((kS (c 3) (c 6) w.toInt = 1 ∨ 3 ≤ kS (c 3) (c 6) w.toInt) ∧ ¬ kS (c 3) (c 6) w.toInt = 5)) ∨ (5 ≤ f.toInt ∧ kS (c 3) (c 6) w.toInt = 3)))) from by omega)
  · refine lv_tableIn (off := 35) (tgt := 36) hx hb dX12_mayHave_1 (by omega) (by omega) (by rw [f1]; rfl) (by decide +kernel) ?_
    refine lv_aload_n hx hb dX12_mayHave_36 rfl (lv_at hl 0 rfl) ?_
    refine lv_iload_n hx hb dX12_mayHave_37 rfl (lv_at hl 1 rfl) ?_
    refine ro_calli (va_runV (As := [.int w]) (rest := []) ⟨hx, hb, hml, hown, hts⟩ (s_X12_isShutter_e l D s.heap.size o a t i q c d w hI (show 0 ≤ w.toInt ∧ w.toInt ≤ 29 from by omega)) (cwV 1 hts gm_X12_mayHave_X12_isShutter rfl rfl rfl (by decide +kernel) ⟨Nat.le_of_ble_eq_true rfl, Nat.le_of_ble_eq_true rfl⟩) (pA_V hK hP (ci := 12) (q0 := 0) rfl rfl) rfl rfl hl.1 rfl (lv_room (Nat.le_of_ble_eq_true rfl)) dX12_mayHave_38 ⟨Nat.le_of_ble_eq_true rfl, Nat.le_of_ble_eq_true rfl⟩) hS hA hP (fun r4 u4 H locs hw4 hP hS => ?_)
    have hw4 : (0 ≤ kS (c 3) (c 6) w.toInt ∧ kS (c 3) (c 6) w.toInt ≤ 5 ∧ ((r4.toInt = 1 ∧ (kS (c 3) (c 6) w.toInt = 2 ∨ kS (c 3) (c 6) w.toInt = 3)) ∨ (r4.toInt = 0 ∧ ¬ (kS (c 3) (c 6) w.toInt = 2 ∨ kS (c 3) (c 6) w.toInt = 3)))) := hw4
    exact ro_zret hx hb hr hlocks hS (nb_n (show 0 ≤ r4.toInt ∧ r4.toInt ≤ 1 from by omega)) dX12_mayHave_41 (show ((r4.toInt = 1 ∧ ((f.toInt ≤ 1 ∧ (kS (c 3) (c 6) w.toInt = 2 ∨ kS (c 3) (c 6) w.toInt = 3)) ∨ f.toInt = 2 ∨ (f.toInt = 3 ∧ (kS (c 3) (c 6) w.toInt = 1 ∨ 3 ≤ kS (c 3) (c 6) w.toInt)) ∨ (f.toInt = 4 ∧ ((kS (c 3) (c 6) w.toInt = 1 ∨ 3 ≤ kS (c 3) (c 6) w.toInt) ∧ ¬ kS (c 3) (c 6) w.toInt = 5)) ∨ (5 ≤ f.toInt ∧ kS (c 3) (c 6) w.toInt = 3))) ∨ (r4.toInt = 0 ∧ ¬ ((f.toInt ≤ 1 ∧ (kS (c 3) (c 6) w.toInt = 2 ∨ kS (c 3) (c 6) w.toInt = 3)) ∨ f.toInt = 2 ∨ (f.toInt = 3 ∧ (kS (c 3) (c 6) w.toInt = 1 ∨ 3 ≤ kS (c 3) (c 6) w.toInt)) ∨ (f.toInt = 4 ∧ ((kS (c 3) (c 6) w.toInt = 1 ∨ 3 ≤ kS (c 3) (c 6) w.toInt) ∧ ¬ kS (c 3) (c 6) w.toInt = 5)) ∨ (5 ≤ f.toInt ∧ kS (c 3) (c 6) w.toInt = 3)))) from by omega)
  · refine lv_tableIn (off := 41) (tgt := 42) hx hb dX12_mayHave_1 (by omega) (by omega) (by rw [f1]; rfl) (by decide +kernel) ?_
    refine lv_iconst (v := 1) hx hb dX12_mayHave_42 (by decide +kernel) ?_
    exact ro_zret hx hb hr hlocks hS rfl dX12_mayHave_43 (show (((1 : Int32).toInt = 1 ∧ ((f.toInt ≤ 1 ∧ (kS (c 3) (c 6) w.toInt = 2 ∨ kS (c 3) (c 6) w.toInt = 3)) ∨ f.toInt = 2 ∨ (f.toInt = 3 ∧ (kS (c 3) (c 6) w.toInt = 1 ∨ 3 ≤ kS (c 3) (c 6) w.toInt)) ∨ (f.toInt = 4 ∧ ((kS (c 3) (c 6) w.toInt = 1 ∨ 3 ≤ kS (c 3) (c 6) w.toInt) ∧ ¬ kS (c 3) (c 6) w.toInt = 5)) ∨ (5 ≤ f.toInt ∧ kS (c 3) (c 6) w.toInt = 3))) ∨ ((1 : Int32).toInt = 0 ∧ ¬ ((f.toInt ≤ 1 ∧ (kS (c 3) (c 6) w.toInt = 2 ∨ kS (c 3) (c 6) w.toInt = 3)) ∨ f.toInt = 2 ∨ (f.toInt = 3 ∧ (kS (c 3) (c 6) w.toInt = 1 ∨ 3 ≤ kS (c 3) (c 6) w.toInt)) ∨ (f.toInt = 4 ∧ ((kS (c 3) (c 6) w.toInt = 1 ∨ 3 ≤ kS (c 3) (c 6) w.toInt) ∧ ¬ kS (c 3) (c 6) w.toInt = 5)) ∨ (5 ≤ f.toInt ∧ kS (c 3) (c 6) w.toInt = 3)))) from by have h9 : (1 : Int32).toInt = 1 := (by decide +kernel); omega)
  · refine lv_tableIn (off := 43) (tgt := 44) hx hb dX12_mayHave_1 (by omega) (by omega) (by rw [f1]; rfl) (by decide +kernel) ?_
    refine lv_aload_n hx hb dX12_mayHave_44 rfl (lv_at hl 0 rfl) ?_
    refine lv_iload_n hx hb dX12_mayHave_45 rfl (lv_at hl 1 rfl) ?_
    refine ro_calli (va_runV (As := [.int w]) (rest := []) ⟨hx, hb, hml, hown, hts⟩ (s_X12_isMovable_e l D s.heap.size o a t i q c d w hI (show 0 ≤ w.toInt ∧ w.toInt ≤ 29 from by omega)) (cwV 1 hts gm_X12_mayHave_X12_isMovable rfl rfl rfl (by decide +kernel) ⟨Nat.le_of_ble_eq_true rfl, Nat.le_of_ble_eq_true rfl⟩) (pA_V hK hP (ci := 12) (q0 := 0) rfl rfl) rfl rfl hl.1 rfl (lv_room (Nat.le_of_ble_eq_true rfl)) dX12_mayHave_46 ⟨Nat.le_of_ble_eq_true rfl, Nat.le_of_ble_eq_true rfl⟩) hS hA hP (fun r5 u5 H locs hw5 hP hS => ?_)
    have hw5 : (0 ≤ kS (c 3) (c 6) w.toInt ∧ kS (c 3) (c 6) w.toInt ≤ 5 ∧ ((r5.toInt = 1 ∧ (kS (c 3) (c 6) w.toInt = 1 ∨ 3 ≤ kS (c 3) (c 6) w.toInt)) ∨ (r5.toInt = 0 ∧ ¬ (kS (c 3) (c 6) w.toInt = 1 ∨ 3 ≤ kS (c 3) (c 6) w.toInt)))) := hw5
    exact ro_zret hx hb hr hlocks hS (nb_n (show 0 ≤ r5.toInt ∧ r5.toInt ≤ 1 from by omega)) dX12_mayHave_49 (show ((r5.toInt = 1 ∧ ((f.toInt ≤ 1 ∧ (kS (c 3) (c 6) w.toInt = 2 ∨ kS (c 3) (c 6) w.toInt = 3)) ∨ f.toInt = 2 ∨ (f.toInt = 3 ∧ (kS (c 3) (c 6) w.toInt = 1 ∨ 3 ≤ kS (c 3) (c 6) w.toInt)) ∨ (f.toInt = 4 ∧ ((kS (c 3) (c 6) w.toInt = 1 ∨ 3 ≤ kS (c 3) (c 6) w.toInt) ∧ ¬ kS (c 3) (c 6) w.toInt = 5)) ∨ (5 ≤ f.toInt ∧ kS (c 3) (c 6) w.toInt = 3))) ∨ (r5.toInt = 0 ∧ ¬ ((f.toInt ≤ 1 ∧ (kS (c 3) (c 6) w.toInt = 2 ∨ kS (c 3) (c 6) w.toInt = 3)) ∨ f.toInt = 2 ∨ (f.toInt = 3 ∧ (kS (c 3) (c 6) w.toInt = 1 ∨ 3 ≤ kS (c 3) (c 6) w.toInt)) ∨ (f.toInt = 4 ∧ ((kS (c 3) (c 6) w.toInt = 1 ∨ 3 ≤ kS (c 3) (c 6) w.toInt) ∧ ¬ kS (c 3) (c 6) w.toInt = 5)) ∨ (5 ≤ f.toInt ∧ kS (c 3) (c 6) w.toInt = 3)))) from by omega)
  · refine lv_tableIn (off := 49) (tgt := 50) hx hb dX12_mayHave_1 (by omega) (by omega) (by rw [f1]; rfl) (by decide +kernel) ?_
    refine lv_aload_n hx hb dX12_mayHave_50 rfl (lv_at hl 0 rfl) ?_
    refine lv_iload_n hx hb dX12_mayHave_51 rfl (lv_at hl 1 rfl) ?_
    refine ro_calli (va_runV (As := [.int w]) (rest := []) ⟨hx, hb, hml, hown, hts⟩ (s_X12_isGoods_e l D s.heap.size o a t i q c d w hI (show 0 ≤ w.toInt ∧ w.toInt ≤ 29 from by omega)) (cwV 1 hts gm_X12_mayHave_X12_isGoods rfl rfl rfl (by decide +kernel) ⟨Nat.le_of_ble_eq_true rfl, Nat.le_of_ble_eq_true rfl⟩) (pA_V hK hP (ci := 12) (q0 := 0) rfl rfl) rfl rfl hl.1 rfl (lv_room (Nat.le_of_ble_eq_true rfl)) dX12_mayHave_52 ⟨Nat.le_of_ble_eq_true rfl, Nat.le_of_ble_eq_true rfl⟩) hS hA hP (fun r6 u6 H locs hw6 hP hS => ?_)
    have hw6 : (0 ≤ kS (c 3) (c 6) w.toInt ∧ kS (c 3) (c 6) w.toInt ≤ 5 ∧ ((r6.toInt = 1 ∧ ((kS (c 3) (c 6) w.toInt = 1 ∨ 3 ≤ kS (c 3) (c 6) w.toInt) ∧ ¬ kS (c 3) (c 6) w.toInt = 5)) ∨ (r6.toInt = 0 ∧ ¬ ((kS (c 3) (c 6) w.toInt = 1 ∨ 3 ≤ kS (c 3) (c 6) w.toInt) ∧ ¬ kS (c 3) (c 6) w.toInt = 5)))) := hw6
    exact ro_zret hx hb hr hlocks hS (nb_n (show 0 ≤ r6.toInt ∧ r6.toInt ≤ 1 from by omega)) dX12_mayHave_55 (show ((r6.toInt = 1 ∧ ((f.toInt ≤ 1 ∧ (kS (c 3) (c 6) w.toInt = 2 ∨ kS (c 3) (c 6) w.toInt = 3)) ∨ f.toInt = 2 ∨ (f.toInt = 3 ∧ (kS (c 3) (c 6) w.toInt = 1 ∨ 3 ≤ kS (c 3) (c 6) w.toInt)) ∨ (f.toInt = 4 ∧ ((kS (c 3) (c 6) w.toInt = 1 ∨ 3 ≤ kS (c 3) (c 6) w.toInt) ∧ ¬ kS (c 3) (c 6) w.toInt = 5)) ∨ (5 ≤ f.toInt ∧ kS (c 3) (c 6) w.toInt = 3))) ∨ (r6.toInt = 0 ∧ ¬ ((f.toInt ≤ 1 ∧ (kS (c 3) (c 6) w.toInt = 2 ∨ kS (c 3) (c 6) w.toInt = 3)) ∨ f.toInt = 2 ∨ (f.toInt = 3 ∧ (kS (c 3) (c 6) w.toInt = 1 ∨ 3 ≤ kS (c 3) (c 6) w.toInt)) ∨ (f.toInt = 4 ∧ ((kS (c 3) (c 6) w.toInt = 1 ∨ 3 ≤ kS (c 3) (c 6) w.toInt) ∧ ¬ kS (c 3) (c 6) w.toInt = 5)) ∨ (5 ≤ f.toInt ∧ kS (c 3) (c 6) w.toInt = 3)))) from by omega)

set_option maxHeartbeats 4000000 in
set_option maxRecDepth 100000 in
theorem s_X12_fitsLeft_e (l : Launch) (D : va_G) (sz : Nat) (o : Nat) (a : Nat → Nat) (t : Nat → ClassId) (i : Nat → Int32) (q : Int64) (c : Nat → Nat → Int32) (d : Nat → Nat → Int64) (f : Int32) (w1 : Int32) (w2 : Int32) (hI : mInv i c) (hw1 : 0 ≤ w1.toInt ∧ w1.toInt ≤ 29) (hf : 0 ≤ f.toInt ∧ f.toInt ≤ 7) (hb6 : ¬ f.toInt = 6 ∨ (0 ≤ w2.toInt ∧ w2.toInt ≤ 5)) : Met l yX12_fitsLeft wm_X12_fitsLeft ({ frames := 4, cells := 0, slots := 0, locals := 87 }) (va_Pc [.ref o, .int f, .int w1, .int w2] (pA D sz (mW o a t i q c d) (mT t))) (va_Qi (fun (r : Int32) (_ : Unit) => ((0 ≤ r.toInt ∧ r.toInt ≤ 1) ∧ (Sm r (FtL f.toInt (kS (c 3) (c 6) w1.toInt) w2.toInt)))) oA (ro sz)) 0 0 (ro sz) := by
  refine Met.ofW (cc := cX12_fitsLeft) (maxL := 4) (ret := (some .boolean)) (by decide +kernel) rfl ?_
  intro p e s m args below meth cd s₁ B hml hv
  obtain ⟨rfl, hsz, hP, hK⟩ := hv
  have hx := B.exec
  have hb := B.bytes
  have hr := B.returns
  have hts := atoms_spec (ws := wm_X12_fitsLeft) B.pre
  have hown : s.vm.findClass RX12 = some m.cls := findClass_of_methodNamed B.named
  have hlocks := B.notSynchronized
  subst hsz
  have hA : ∀ q : Nat, s.heap.size ≤ q → ro s.heap.size q := fun _ h => h
  have hS : va_S (ro s.heap.size) s.heap s.heap [] := va_S.rf
  have hl := lv_entry ([.ref o, .int f, .int w1, .int w2]) (n := 4) (Nat.le_of_ble_eq_true rfl)
  rw [lg_entry_eq]
  generalize (lg_sl ([.ref o, .int f, .int w1, .int w2]) ++ List.replicate (4 - (lg_sl ([.ref o, .int f, .int w1, .int w2])).length) Slot.unset).toArray = ls at hl ⊢
  have hl : lv_has ls 4 [(0, .ref o), (1, .int f), (2, .int w1), (3, .int w2)] := hl
  refine lv_iload_n hx hb dX12_fitsLeft_0 rfl (lv_at hl 1 rfl) ?_
  rcases (show (f.toInt < 0 ∨ 6 < f.toInt) ∨ f.toInt = 0 ∨ f.toInt = 1 ∨ f.toInt = 2 ∨ f.toInt = 3 ∨ f.toInt = 4 ∨ f.toInt = 5 ∨ f.toInt = 6 by omega) with f1 | f1 | f1 | f1 | f1 | f1 | f1 | f1
  · refine lv_tableOut (tgt := 64) hx hb dX12_fitsLeft_1 f1 (by decide +kernel) ?_
    refine lv_aload_n hx hb dX12_fitsLeft_64 rfl (lv_at hl 0 rfl) ?_
    refine lv_iload_n hx hb dX12_fitsLeft_65 rfl (lv_at hl 2 rfl) ?_
    refine ro_calli (va_runV (As := [.int w1]) (rest := []) ⟨hx, hb, hml, hown, hts⟩ (s_X12_isGoods_e l D s.heap.size o a t i q c d w1 hI (show 0 ≤ w1.toInt ∧ w1.toInt ≤ 29 from by omega)) (cwV 1 hts gm_X12_fitsLeft_X12_isGoods rfl rfl rfl (by decide +kernel) ⟨Nat.le_of_ble_eq_true rfl, Nat.le_of_ble_eq_true rfl⟩) (pA_V hK hP (ci := 12) (q0 := 0) rfl rfl) rfl rfl hl.1 rfl (lv_room (Nat.le_of_ble_eq_true rfl)) dX12_fitsLeft_66 ⟨Nat.le_of_ble_eq_true rfl, Nat.le_of_ble_eq_true rfl⟩) hS hA hP (fun r2 u2 H locs hw2 hP hS => ?_)
    have hw2 : (0 ≤ kS (c 3) (c 6) w1.toInt ∧ kS (c 3) (c 6) w1.toInt ≤ 5 ∧ ((r2.toInt = 1 ∧ ((kS (c 3) (c 6) w1.toInt = 1 ∨ 3 ≤ kS (c 3) (c 6) w1.toInt) ∧ ¬ kS (c 3) (c 6) w1.toInt = 5)) ∨ (r2.toInt = 0 ∧ ¬ ((kS (c 3) (c 6) w1.toInt = 1 ∨ 3 ≤ kS (c 3) (c 6) w1.toInt) ∧ ¬ kS (c 3) (c 6) w1.toInt = 5)))) := hw2
    exact ro_zret hx hb hr hlocks hS (nb_n (show 0 ≤ r2.toInt ∧ r2.toInt ≤ 1 from by omega)) dX12_fitsLeft_69 ⟨(show 0 ≤ r2.toInt ∧ r2.toInt ≤ 1 from by omega), (show Sm r2 (FtL f.toInt (kS (c 3) (c 6) w1.toInt) w2.toInt) from by unfold Sm FtL; omega)⟩
  · refine lv_tableIn (off := 43) (tgt := 44) hx hb dX12_fitsLeft_1 (by omega) (by omega) (by rw [f1]; rfl) (by decide +kernel) ?_
    refine lv_aload_n hx hb dX12_fitsLeft_44 rfl (lv_at hl 0 rfl) ?_
    refine lv_iload_n hx hb dX12_fitsLeft_45 rfl (lv_at hl 2 rfl) ?_
    refine ro_calli (va_runV (As := [.int w1]) (rest := []) ⟨hx, hb, hml, hown, hts⟩ (s_X12_isMovable_e l D s.heap.size o a t i q c d w1 hI (show 0 ≤ w1.toInt ∧ w1.toInt ≤ 29 from by omega)) (cwV 1 hts gm_X12_fitsLeft_X12_isMovable rfl rfl rfl (by decide +kernel) ⟨Nat.le_of_ble_eq_true rfl, Nat.le_of_ble_eq_true rfl⟩) (pA_V hK hP (ci := 12) (q0 := 0) rfl rfl) rfl rfl hl.1 rfl (lv_room (Nat.le_of_ble_eq_true rfl)) dX12_fitsLeft_46 ⟨Nat.le_of_ble_eq_true rfl, Nat.le_of_ble_eq_true rfl⟩) hS hA hP (fun r3 u3 H locs hw3 hP hS => ?_)
    have hw3 : (0 ≤ kS (c 3) (c 6) w1.toInt ∧ kS (c 3) (c 6) w1.toInt ≤ 5 ∧ ((r3.toInt = 1 ∧ (kS (c 3) (c 6) w1.toInt = 1 ∨ 3 ≤ kS (c 3) (c 6) w1.toInt)) ∨ (r3.toInt = 0 ∧ ¬ (kS (c 3) (c 6) w1.toInt = 1 ∨ 3 ≤ kS (c 3) (c 6) w1.toInt)))) := hw3
    exact ro_zret hx hb hr hlocks hS (nb_n (show 0 ≤ r3.toInt ∧ r3.toInt ≤ 1 from by omega)) dX12_fitsLeft_49 ⟨(show 0 ≤ r3.toInt ∧ r3.toInt ≤ 1 from by omega), (show Sm r3 (FtL f.toInt (kS (c 3) (c 6) w1.toInt) w2.toInt) from by unfold Sm; rw [propext (FtL_0 (by omega))]; omega)⟩
  · refine lv_tableIn (off := 43) (tgt := 44) hx hb dX12_fitsLeft_1 (by omega) (by omega) (by rw [f1]; rfl) (by decide +kernel) ?_
    refine lv_aload_n hx hb dX12_fitsLeft_44 rfl (lv_at hl 0 rfl) ?_
    refine lv_iload_n hx hb dX12_fitsLeft_45 rfl (lv_at hl 2 rfl) ?_
    refine ro_calli (va_runV (As := [.int w1]) (rest := []) ⟨hx, hb, hml, hown, hts⟩ (s_X12_isMovable_e l D s.heap.size o a t i q c d w1 hI (show 0 ≤ w1.toInt ∧ w1.toInt ≤ 29 from by omega)) (cwV 1 hts gm_X12_fitsLeft_X12_isMovable rfl rfl rfl (by decide +kernel) ⟨Nat.le_of_ble_eq_true rfl, Nat.le_of_ble_eq_true rfl⟩) (pA_V hK hP (ci := 12) (q0 := 0) rfl rfl) rfl rfl hl.1 rfl (lv_room (Nat.le_of_ble_eq_true rfl)) dX12_fitsLeft_46 ⟨Nat.le_of_ble_eq_true rfl, Nat.le_of_ble_eq_true rfl⟩) hS hA hP (fun r4 u4 H locs hw4 hP hS => ?_)
    have hw4 : (0 ≤ kS (c 3) (c 6) w1.toInt ∧ kS (c 3) (c 6) w1.toInt ≤ 5 ∧ ((r4.toInt = 1 ∧ (kS (c 3) (c 6) w1.toInt = 1 ∨ 3 ≤ kS (c 3) (c 6) w1.toInt)) ∨ (r4.toInt = 0 ∧ ¬ (kS (c 3) (c 6) w1.toInt = 1 ∨ 3 ≤ kS (c 3) (c 6) w1.toInt)))) := hw4
    exact ro_zret hx hb hr hlocks hS (nb_n (show 0 ≤ r4.toInt ∧ r4.toInt ≤ 1 from by omega)) dX12_fitsLeft_49 ⟨(show 0 ≤ r4.toInt ∧ r4.toInt ≤ 1 from by omega), (show Sm r4 (FtL f.toInt (kS (c 3) (c 6) w1.toInt) w2.toInt) from by unfold Sm; rw [propext (FtL_1 (by omega))]; omega)⟩
  · refine lv_tableIn (off := 63) (tgt := 64) hx hb dX12_fitsLeft_1 (by omega) (by omega) (by rw [f1]; rfl) (by decide +kernel) ?_
    refine lv_aload_n hx hb dX12_fitsLeft_64 rfl (lv_at hl 0 rfl) ?_
    refine lv_iload_n hx hb dX12_fitsLeft_65 rfl (lv_at hl 2 rfl) ?_
    refine ro_calli (va_runV (As := [.int w1]) (rest := []) ⟨hx, hb, hml, hown, hts⟩ (s_X12_isGoods_e l D s.heap.size o a t i q c d w1 hI (show 0 ≤ w1.toInt ∧ w1.toInt ≤ 29 from by omega)) (cwV 1 hts gm_X12_fitsLeft_X12_isGoods rfl rfl rfl (by decide +kernel) ⟨Nat.le_of_ble_eq_true rfl, Nat.le_of_ble_eq_true rfl⟩) (pA_V hK hP (ci := 12) (q0 := 0) rfl rfl) rfl rfl hl.1 rfl (lv_room (Nat.le_of_ble_eq_true rfl)) dX12_fitsLeft_66 ⟨Nat.le_of_ble_eq_true rfl, Nat.le_of_ble_eq_true rfl⟩) hS hA hP (fun r5 u5 H locs hw5 hP hS => ?_)
    have hw5 : (0 ≤ kS (c 3) (c 6) w1.toInt ∧ kS (c 3) (c 6) w1.toInt ≤ 5 ∧ ((r5.toInt = 1 ∧ ((kS (c 3) (c 6) w1.toInt = 1 ∨ 3 ≤ kS (c 3) (c 6) w1.toInt) ∧ ¬ kS (c 3) (c 6) w1.toInt = 5)) ∨ (r5.toInt = 0 ∧ ¬ ((kS (c 3) (c 6) w1.toInt = 1 ∨ 3 ≤ kS (c 3) (c 6) w1.toInt) ∧ ¬ kS (c 3) (c 6) w1.toInt = 5)))) := hw5
    exact ro_zret hx hb hr hlocks hS (nb_n (show 0 ≤ r5.toInt ∧ r5.toInt ≤ 1 from by omega)) dX12_fitsLeft_69 ⟨(show 0 ≤ r5.toInt ∧ r5.toInt ≤ 1 from by omega), (show Sm r5 (FtL f.toInt (kS (c 3) (c 6) w1.toInt) w2.toInt) from by unfold Sm; rw [propext (FtL_2 (by omega))]; omega)⟩
  · refine lv_tableIn (off := 63) (tgt := 64) hx hb dX12_fitsLeft_1 (by omega) (by omega) (by rw [f1]; rfl) (by decide +kernel) ?_
    refine lv_aload_n hx hb dX12_fitsLeft_64 rfl (lv_at hl 0 rfl) ?_
    refine lv_iload_n hx hb dX12_fitsLeft_65 rfl (lv_at hl 2 rfl) ?_
    refine ro_calli (va_runV (As := [.int w1]) (rest := []) ⟨hx, hb, hml, hown, hts⟩ (s_X12_isGoods_e l D s.heap.size o a t i q c d w1 hI (show 0 ≤ w1.toInt ∧ w1.toInt ≤ 29 from by omega)) (cwV 1 hts gm_X12_fitsLeft_X12_isGoods rfl rfl rfl (by decide +kernel) ⟨Nat.le_of_ble_eq_true rfl, Nat.le_of_ble_eq_true rfl⟩) (pA_V hK hP (ci := 12) (q0 := 0) rfl rfl) rfl rfl hl.1 rfl (lv_room (Nat.le_of_ble_eq_true rfl)) dX12_fitsLeft_66 ⟨Nat.le_of_ble_eq_true rfl, Nat.le_of_ble_eq_true rfl⟩) hS hA hP (fun r6 u6 H locs hw6 hP hS => ?_)
    have hw6 : (0 ≤ kS (c 3) (c 6) w1.toInt ∧ kS (c 3) (c 6) w1.toInt ≤ 5 ∧ ((r6.toInt = 1 ∧ ((kS (c 3) (c 6) w1.toInt = 1 ∨ 3 ≤ kS (c 3) (c 6) w1.toInt) ∧ ¬ kS (c 3) (c 6) w1.toInt = 5)) ∨ (r6.toInt = 0 ∧ ¬ ((kS (c 3) (c 6) w1.toInt = 1 ∨ 3 ≤ kS (c 3) (c 6) w1.toInt) ∧ ¬ kS (c 3) (c 6) w1.toInt = 5)))) := hw6
    exact ro_zret hx hb hr hlocks hS (nb_n (show 0 ≤ r6.toInt ∧ r6.toInt ≤ 1 from by omega)) dX12_fitsLeft_69 ⟨(show 0 ≤ r6.toInt ∧ r6.toInt ≤ 1 from by omega), (show Sm r6 (FtL f.toInt (kS (c 3) (c 6) w1.toInt) w2.toInt) from by unfold Sm; rw [propext (FtL_3 (by omega))]; omega)⟩
  · refine lv_tableIn (off := 63) (tgt := 64) hx hb dX12_fitsLeft_1 (by omega) (by omega) (by rw [f1]; rfl) (by decide +kernel) ?_
    refine lv_aload_n hx hb dX12_fitsLeft_64 rfl (lv_at hl 0 rfl) ?_
    refine lv_iload_n hx hb dX12_fitsLeft_65 rfl (lv_at hl 2 rfl) ?_
    refine ro_calli (va_runV (As := [.int w1]) (rest := []) ⟨hx, hb, hml, hown, hts⟩ (s_X12_isGoods_e l D s.heap.size o a t i q c d w1 hI (show 0 ≤ w1.toInt ∧ w1.toInt ≤ 29 from by omega)) (cwV 1 hts gm_X12_fitsLeft_X12_isGoods rfl rfl rfl (by decide +kernel) ⟨Nat.le_of_ble_eq_true rfl, Nat.le_of_ble_eq_true rfl⟩) (pA_V hK hP (ci := 12) (q0 := 0) rfl rfl) rfl rfl hl.1 rfl (lv_room (Nat.le_of_ble_eq_true rfl)) dX12_fitsLeft_66 ⟨Nat.le_of_ble_eq_true rfl, Nat.le_of_ble_eq_true rfl⟩) hS hA hP (fun r7 u7 H locs hw7 hP hS => ?_)
    have hw7 : (0 ≤ kS (c 3) (c 6) w1.toInt ∧ kS (c 3) (c 6) w1.toInt ≤ 5 ∧ ((r7.toInt = 1 ∧ ((kS (c 3) (c 6) w1.toInt = 1 ∨ 3 ≤ kS (c 3) (c 6) w1.toInt) ∧ ¬ kS (c 3) (c 6) w1.toInt = 5)) ∨ (r7.toInt = 0 ∧ ¬ ((kS (c 3) (c 6) w1.toInt = 1 ∨ 3 ≤ kS (c 3) (c 6) w1.toInt) ∧ ¬ kS (c 3) (c 6) w1.toInt = 5)))) := hw7
    exact ro_zret hx hb hr hlocks hS (nb_n (show 0 ≤ r7.toInt ∧ r7.toInt ≤ 1 from by omega)) dX12_fitsLeft_69 ⟨(show 0 ≤ r7.toInt ∧ r7.toInt ≤ 1 from by omega), (show Sm r7 (FtL f.toInt (kS (c 3) (c 6) w1.toInt) w2.toInt) from by unfold Sm; rw [propext (FtL_4 (by omega))]; omega)⟩
  · refine lv_tableIn (off := 49) (tgt := 50) hx hb dX12_fitsLeft_1 (by omega) (by omega) (by rw [f1]; rfl) (by decide +kernel) ?_
    refine lv_aload_n hx hb dX12_fitsLeft_50 rfl (lv_at hl 0 rfl) ?_
    refine lv_iload_n hx hb dX12_fitsLeft_51 rfl (lv_at hl 2 rfl) ?_
    refine lv_iconst (v := 0) hx hb dX12_fitsLeft_52 (by decide +kernel) ?_
    refine ro_calli (va_runV (As := [.int w1, .int 0]) (rest := []) ⟨hx, hb, hml, hown, hts⟩ (s_X12_isOf_e l D s.heap.size o a t i q c d w1 0 hI (show 0 ≤ w1.toInt ∧ w1.toInt ≤ 29 from by have h91 : (0 : Int32).toInt = 0 := (by decide +kernel); omega) (show 0 ≤ 0 ∧ 0 ≤ 5 from by decide +kernel)) (cwV 2 hts gm_X12_fitsLeft_X12_isOf rfl rfl rfl (by decide +kernel) ⟨Nat.le_of_ble_eq_true rfl, Nat.le_of_ble_eq_true rfl⟩) (pA_V hK hP (ci := 12) (q0 := 0) rfl rfl) rfl rfl hl.1 rfl (lv_room (Nat.le_of_ble_eq_true rfl)) dX12_fitsLeft_53 ⟨Nat.le_of_ble_eq_true rfl, Nat.le_of_ble_eq_true rfl⟩) hS hA hP (fun r8 u8 H locs hw8 hP hS => ?_)
    have hw8 : ((0 ≤ r8.toInt ∧ r8.toInt ≤ 1) ∧ (0 ≤ kS (c 3) (c 6) w1.toInt ∧ kS (c 3) (c 6) w1.toInt ≤ 5 ∧ ((r8.toInt = 1 ∧ (kS (c 3) (c 6) w1.toInt = 0 ∨ ((1 : Int) = 0 ∧ 1 < kS (c 3) (c 6) w1.toInt))) ∨ (r8.toInt = 0 ∧ ¬ (kS (c 3) (c 6) w1.toInt = 0 ∨ ((1 : Int) = 0 ∧ 1 < kS (c 3) (c 6) w1.toInt)))))) := hw8
    obtain ⟨hw8, hr8_0⟩ := hw8
    have hr8_0 : 0 ≤ kS (c 3) (c 6) w1.toInt ∧ kS (c 3) (c 6) w1.toInt ≤ 5 ∧ ((r8.toInt = 1 ∧ (kS (c 3) (c 6) w1.toInt = 0 ∨ ((1 : Int) = 0 ∧ 1 < kS (c 3) (c 6) w1.toInt))) ∨ (r8.toInt = 0 ∧ ¬ (kS (c 3) (c 6) w1.toInt = 0 ∨ ((1 : Int) = 0 ∧ 1 < kS (c 3) (c 6) w1.toInt)))) := hr8_0
    exact ro_zret hx hb hr hlocks hS (nb_n (show 0 ≤ r8.toInt ∧ r8.toInt ≤ 1 from by omega)) dX12_fitsLeft_56 ⟨(show 0 ≤ r8.toInt ∧ r8.toInt ≤ 1 from by omega), (show Sm r8 (FtL f.toInt (kS (c 3) (c 6) w1.toInt) w2.toInt) from by unfold Sm; rw [propext (FtL_5 (by omega))]; omega)⟩
  · refine lv_tableIn (off := 56) (tgt := 57) hx hb dX12_fitsLeft_1 (by omega) (by omega) (by rw [f1]; rfl) (by decide +kernel) ?_
    refine lv_aload_n hx hb dX12_fitsLeft_57 rfl (lv_at hl 0 rfl) ?_
    refine lv_iload_n hx hb dX12_fitsLeft_58 rfl (lv_at hl 2 rfl) ?_
    refine lv_iload_n hx hb dX12_fitsLeft_59 rfl (lv_at hl 3 rfl) ?_
    refine ro_calli (va_runV (As := [.int w1, .int w2]) (rest := []) ⟨hx, hb, hml, hown, hts⟩ (s_X12_mayHave_e l D s.heap.size o a t i q c d w1 w2 hI (show 0 ≤ w1.toInt ∧ w1.toInt ≤ 29 from by omega) (show 0 ≤ w2.toInt ∧ w2.toInt ≤ 5 from by omega)) (cwV 2 hts gm_X12_fitsLeft_X12_mayHave rfl rfl rfl (by decide +kernel) ⟨Nat.le_of_ble_eq_true rfl, Nat.le_of_ble_eq_true rfl⟩) (pA_V hK hP (ci := 12) (q0 := 0) rfl rfl) rfl rfl hl.1 rfl (lv_room (Nat.le_of_ble_eq_true rfl)) dX12_fitsLeft_60 ⟨Nat.le_of_ble_eq_true rfl, Nat.le_of_ble_eq_true rfl⟩) hS hA hP (fun r9 u9 H locs hw9 hP hS => ?_)
    have hw9 : (((r9.toInt = 1 ∧ ((w2.toInt ≤ 1 ∧ (kS (c 3) (c 6) w1.toInt = 2 ∨ kS (c 3) (c 6) w1.toInt = 3)) ∨ w2.toInt = 2 ∨ (w2.toInt = 3 ∧ (kS (c 3) (c 6) w1.toInt = 1 ∨ 3 ≤ kS (c 3) (c 6) w1.toInt)) ∨ (w2.toInt = 4 ∧ ((kS (c 3) (c 6) w1.toInt = 1 ∨ 3 ≤ kS (c 3) (c 6) w1.toInt) ∧ ¬ kS (c 3) (c 6) w1.toInt = 5)) ∨ (5 ≤ w2.toInt ∧ kS (c 3) (c 6) w1.toInt = 3))) ∨ (r9.toInt = 0 ∧ ¬ ((w2.toInt ≤ 1 ∧ (kS (c 3) (c 6) w1.toInt = 2 ∨ kS (c 3) (c 6) w1.toInt = 3)) ∨ w2.toInt = 2 ∨ (w2.toInt = 3 ∧ (kS (c 3) (c 6) w1.toInt = 1 ∨ 3 ≤ kS (c 3) (c 6) w1.toInt)) ∨ (w2.toInt = 4 ∧ ((kS (c 3) (c 6) w1.toInt = 1 ∨ 3 ≤ kS (c 3) (c 6) w1.toInt) ∧ ¬ kS (c 3) (c 6) w1.toInt = 5)) ∨ (5 ≤ w2.toInt ∧ kS (c 3) (c 6) w1.toInt = 3))))) := hw9
    exact ro_zret hx hb hr hlocks hS (nb_n (show 0 ≤ r9.toInt ∧ r9.toInt ≤ 1 from by omega)) dX12_fitsLeft_63 ⟨(show 0 ≤ r9.toInt ∧ r9.toInt ≤ 1 from by omega), (show Sm r9 (FtL f.toInt (kS (c 3) (c 6) w1.toInt) w2.toInt) from by unfold Sm; rw [propext (FtL_6 (by omega))]; omega)⟩

set_option maxHeartbeats 4000000 in
set_option maxRecDepth 100000 in
theorem s_X12_fitsRight_e (l : Launch) (D : va_G) (sz : Nat) (o : Nat) (a : Nat → Nat) (t : Nat → ClassId) (i : Nat → Int32) (q : Int64) (c : Nat → Nat → Int32) (d : Nat → Nat → Int64) (f : Int32) (w2 : Int32) (hI : mInv i c) (hw2 : 0 ≤ w2.toInt ∧ w2.toInt ≤ 29) (hf : 0 ≤ f.toInt ∧ f.toInt ≤ 7) : Met l yX12_fitsRight wm_X12_fitsRight ({ frames := 2, cells := 0, slots := 0, locals := 44 }) (va_Pc [.ref o, .int f, .int w2] (pA D sz (mW o a t i q c d) (mT t))) (va_Qi (fun (r : Int32) (_ : Unit) => ((0 ≤ r.toInt ∧ r.toInt ≤ 1) ∧ (Sm r (FtR f.toInt (kS (c 3) (c 6) w2.toInt))))) oA (ro sz)) 0 0 (ro sz) := by
  refine Met.ofW (cc := cX12_fitsRight) (maxL := 3) (ret := (some .boolean)) (by decide +kernel) rfl ?_
  intro p e s m args below meth cd s₁ B hml hv
  obtain ⟨rfl, hsz, hP, hK⟩ := hv
  have hx := B.exec
  have hb := B.bytes
  have hr := B.returns
  have hts := atoms_spec (ws := wm_X12_fitsRight) B.pre
  have hown : s.vm.findClass RX12 = some m.cls := findClass_of_methodNamed B.named
  have hlocks := B.notSynchronized
  subst hsz
  have hA : ∀ q : Nat, s.heap.size ≤ q → ro s.heap.size q := fun _ h => h
  have hS : va_S (ro s.heap.size) s.heap s.heap [] := va_S.rf
  have hl := lv_entry ([.ref o, .int f, .int w2]) (n := 3) (Nat.le_of_ble_eq_true rfl)
  rw [lg_entry_eq]
  generalize (lg_sl ([.ref o, .int f, .int w2]) ++ List.replicate (3 - (lg_sl ([.ref o, .int f, .int w2])).length) Slot.unset).toArray = ls at hl ⊢
  have hl : lv_has ls 3 [(0, .ref o), (1, .int f), (2, .int w2)] := hl
  refine lv_iload_n hx hb dX12_fitsRight_0 rfl (lv_at hl 1 rfl) ?_
  rcases (show (f.toInt < 0 ∨ 7 < f.toInt) ∨ f.toInt = 0 ∨ f.toInt = 1 ∨ f.toInt = 2 ∨ f.toInt = 3 ∨ f.toInt = 4 ∨ f.toInt = 5 ∨ f.toInt = 6 ∨ f.toInt = 7 by omega) with f1 | f1 | f1 | f1 | f1 | f1 | f1 | f1 | f1
  · refine lv_tableOut (tgt := 123) hx hb dX12_fitsRight_1 f1 (by decide +kernel) ?_
    refine lv_iconst (v := 1) hx hb dX12_fitsRight_123 (by decide +kernel) ?_
    exact ro_zret hx hb hr hlocks hS rfl dX12_fitsRight_124 ⟨(show 0 ≤ (1 : Int32).toInt ∧ (1 : Int32).toInt ≤ 1 from by decide +kernel), (show Sm (1 : Int32) (FtR f.toInt (kS (c 3) (c 6) w2.toInt)) from sm_1 (by unfold FtR; omega))⟩
  · refine lv_tableIn (off := 47) (tgt := 48) hx hb dX12_fitsRight_1 (by omega) (by omega) (by rw [f1]; rfl) (by decide +kernel) ?_
    refine lv_aload_n hx hb dX12_fitsRight_48 rfl (lv_at hl 0 rfl) ?_
    refine lv_iload_n hx hb dX12_fitsRight_49 rfl (lv_at hl 2 rfl) ?_
    refine lv_iconst (v := 0) hx hb dX12_fitsRight_50 (by decide +kernel) ?_
    refine ro_calli (va_runV (As := [.int w2, .int 0]) (rest := []) ⟨hx, hb, hml, hown, hts⟩ (s_X12_isOf_e l D s.heap.size o a t i q c d w2 0 hI (show 0 ≤ w2.toInt ∧ w2.toInt ≤ 29 from by have h91 : (0 : Int32).toInt = 0 := (by decide +kernel); omega) (show 0 ≤ 0 ∧ 0 ≤ 5 from by decide +kernel)) (cwV 2 hts gm_X12_fitsRight_X12_isOf rfl rfl rfl (by decide +kernel) ⟨Nat.le_of_ble_eq_true rfl, Nat.le_of_ble_eq_true rfl⟩) (pA_V hK hP (ci := 12) (q0 := 0) rfl rfl) rfl rfl hl.1 rfl (lv_room (Nat.le_of_ble_eq_true rfl)) dX12_fitsRight_51 ⟨Nat.le_of_ble_eq_true rfl, Nat.le_of_ble_eq_true rfl⟩) hS hA hP (fun r2 u2 H locs hw2 hP hS => ?_)
    have hw2 : ((0 ≤ r2.toInt ∧ r2.toInt ≤ 1) ∧ (0 ≤ kS (c 3) (c 6) w2.toInt ∧ kS (c 3) (c 6) w2.toInt ≤ 5 ∧ ((r2.toInt = 1 ∧ (kS (c 3) (c 6) w2.toInt = 0 ∨ ((1 : Int) = 0 ∧ 1 < kS (c 3) (c 6) w2.toInt))) ∨ (r2.toInt = 0 ∧ ¬ (kS (c 3) (c 6) w2.toInt = 0 ∨ ((1 : Int) = 0 ∧ 1 < kS (c 3) (c 6) w2.toInt)))))) := hw2
    obtain ⟨hw2, hr2_0⟩ := hw2
    have hr2_0 : 0 ≤ kS (c 3) (c 6) w2.toInt ∧ kS (c 3) (c 6) w2.toInt ≤ 5 ∧ ((r2.toInt = 1 ∧ (kS (c 3) (c 6) w2.toInt = 0 ∨ ((1 : Int) = 0 ∧ 1 < kS (c 3) (c 6) w2.toInt))) ∨ (r2.toInt = 0 ∧ ¬ (kS (c 3) (c 6) w2.toInt = 0 ∨ ((1 : Int) = 0 ∧ 1 < kS (c 3) (c 6) w2.toInt)))) := hr2_0
    refine lv_if_ne (tgt := 66) hx hb dX12_fitsRight_54 (by decide +kernel) (fun c3 => ?_) (fun c3 => ?_)
    · have f3 := mt (ti_eq (a := r2.toInt) (b := 0) rfl (by decide +kernel)).mpr c3
      refine lv_iconst (v := 1) hx hb dX12_fitsRight_66 (by decide +kernel) ?_
      refine lv_goto (tgt := 71) hx hb dX12_fitsRight_67 (by decide +kernel) ?_
      exact ro_zret hx hb hr hlocks hS rfl dX12_fitsRight_71 ⟨(show 0 ≤ (1 : Int32).toInt ∧ (1 : Int32).toInt ≤ 1 from by decide +kernel), (show Sm (1 : Int32) (FtR f.toInt (kS (c 3) (c 6) w2.toInt)) from sm_1 ((FtR_0 (by omega)).mpr (by omega)))⟩
    · have f3 := (ti_eq (a := r2.toInt) (b := 0) rfl (by decide +kernel)).mp c3
      refine lv_aload_n hx hb dX12_fitsRight_57 rfl (lv_at hl 0 rfl) ?_
      refine lv_iload_n hx hb dX12_fitsRight_58 rfl (lv_at hl 2 rfl) ?_
      refine lv_iconst (v := 3) hx hb dX12_fitsRight_59 (by decide +kernel) ?_
      refine ro_calli (va_runV (As := [.int w2, .int 3]) (rest := []) ⟨hx, hb, hml, hown, hts⟩ (s_X12_isOf_e l D H.size o a t i q c d w2 3 hI (show 0 ≤ w2.toInt ∧ w2.toInt ≤ 29 from by have h91 : (3 : Int32).toInt = 3 := (by decide +kernel); omega) (show 0 ≤ 3 ∧ 3 ≤ 5 from by decide +kernel)) (cwV 2 hts gm_X12_fitsRight_X12_isOf rfl rfl rfl (by decide +kernel) ⟨Nat.le_of_ble_eq_true rfl, Nat.le_of_ble_eq_true rfl⟩) (pA_V hK hP (ci := 12) (q0 := 0) rfl rfl) rfl rfl hl.1 rfl (lv_room (Nat.le_of_ble_eq_true rfl)) dX12_fitsRight_60 ⟨Nat.le_of_ble_eq_true rfl, Nat.le_of_ble_eq_true rfl⟩) hS hA hP (fun r4 u4 H locs hw4 hP hS => ?_)
      have hw4 : ((0 ≤ r4.toInt ∧ r4.toInt ≤ 1) ∧ (0 ≤ kS (c 3) (c 6) w2.toInt ∧ kS (c 3) (c 6) w2.toInt ≤ 5 ∧ ((r4.toInt = 1 ∧ (kS (c 3) (c 6) w2.toInt = 3 ∨ ((1 : Int) = 3 ∧ 1 < kS (c 3) (c 6) w2.toInt))) ∨ (r4.toInt = 0 ∧ ¬ (kS (c 3) (c 6) w2.toInt = 3 ∨ ((1 : Int) = 3 ∧ 1 < kS (c 3) (c 6) w2.toInt)))))) := hw4
      obtain ⟨hw4, hr4_0⟩ := hw4
      have hr4_0 : 0 ≤ kS (c 3) (c 6) w2.toInt ∧ kS (c 3) (c 6) w2.toInt ≤ 5 ∧ ((r4.toInt = 1 ∧ (kS (c 3) (c 6) w2.toInt = 3 ∨ ((1 : Int) = 3 ∧ 1 < kS (c 3) (c 6) w2.toInt))) ∨ (r4.toInt = 0 ∧ ¬ (kS (c 3) (c 6) w2.toInt = 3 ∨ ((1 : Int) = 3 ∧ 1 < kS (c 3) (c 6) w2.toInt)))) := hr4_0
      refine lv_if_eq (tgt := 70) hx hb dX12_fitsRight_63 (by decide +kernel) (fun c5 => ?_) (fun c5 => ?_)
      · have f5 := (ti_eq (a := r4.toInt) (b := 0) rfl (by decide +kernel)).mp c5
        refine lv_iconst (v := 0) hx hb dX12_fitsRight_70 (by decide +kernel) ?_
        exact ro_zret hx hb hr hlocks hS rfl dX12_fitsRight_71 ⟨(show 0 ≤ (0 : Int32).toInt ∧ (0 : Int32).toInt ≤ 1 from by decide +kernel), (show Sm (0 : Int32) (FtR f.toInt (kS (c 3) (c 6) w2.toInt)) from sm_0 (mt (FtR_0 (by omega)).mp (by omega)))⟩
      · have f5 := mt (ti_eq (a := r4.toInt) (b := 0) rfl (by decide +kernel)).mpr c5
        refine lv_iconst (v := 1) hx hb dX12_fitsRight_66 (by decide +kernel) ?_
        refine lv_goto (tgt := 71) hx hb dX12_fitsRight_67 (by decide +kernel) ?_
        exact ro_zret hx hb hr hlocks hS rfl dX12_fitsRight_71 ⟨(show 0 ≤ (1 : Int32).toInt ∧ (1 : Int32).toInt ≤ 1 from by decide +kernel), (show Sm (1 : Int32) (FtR f.toInt (kS (c 3) (c 6) w2.toInt)) from sm_1 ((FtR_0 (by omega)).mpr (by omega)))⟩
  · refine lv_tableIn (off := 71) (tgt := 72) hx hb dX12_fitsRight_1 (by omega) (by omega) (by rw [f1]; rfl) (by decide +kernel) ?_
    refine lv_aload_n hx hb dX12_fitsRight_72 rfl (lv_at hl 0 rfl) ?_
    refine lv_iload_n hx hb dX12_fitsRight_73 rfl (lv_at hl 2 rfl) ?_
    refine lv_iconst (v := 4) hx hb dX12_fitsRight_74 (by decide +kernel) ?_
    refine ro_calli (va_runV (As := [.int w2, .int 4]) (rest := []) ⟨hx, hb, hml, hown, hts⟩ (s_X12_isOf_e l D s.heap.size o a t i q c d w2 4 hI (show 0 ≤ w2.toInt ∧ w2.toInt ≤ 29 from by have h91 : (4 : Int32).toInt = 4 := (by decide +kernel); omega) (show 0 ≤ 4 ∧ 4 ≤ 5 from by decide +kernel)) (cwV 2 hts gm_X12_fitsRight_X12_isOf rfl rfl rfl (by decide +kernel) ⟨Nat.le_of_ble_eq_true rfl, Nat.le_of_ble_eq_true rfl⟩) (pA_V hK hP (ci := 12) (q0 := 0) rfl rfl) rfl rfl hl.1 rfl (lv_room (Nat.le_of_ble_eq_true rfl)) dX12_fitsRight_75 ⟨Nat.le_of_ble_eq_true rfl, Nat.le_of_ble_eq_true rfl⟩) hS hA hP (fun r6 u6 H locs hw6 hP hS => ?_)
    have hw6 : ((0 ≤ r6.toInt ∧ r6.toInt ≤ 1) ∧ (0 ≤ kS (c 3) (c 6) w2.toInt ∧ kS (c 3) (c 6) w2.toInt ≤ 5 ∧ ((r6.toInt = 1 ∧ (kS (c 3) (c 6) w2.toInt = 4 ∨ ((1 : Int) = 4 ∧ 1 < kS (c 3) (c 6) w2.toInt))) ∨ (r6.toInt = 0 ∧ ¬ (kS (c 3) (c 6) w2.toInt = 4 ∨ ((1 : Int) = 4 ∧ 1 < kS (c 3) (c 6) w2.toInt)))))) := hw6
    obtain ⟨hw6, hr6_0⟩ := hw6
    have hr6_0 : 0 ≤ kS (c 3) (c 6) w2.toInt ∧ kS (c 3) (c 6) w2.toInt ≤ 5 ∧ ((r6.toInt = 1 ∧ (kS (c 3) (c 6) w2.toInt = 4 ∨ ((1 : Int) = 4 ∧ 1 < kS (c 3) (c 6) w2.toInt))) ∨ (r6.toInt = 0 ∧ ¬ (kS (c 3) (c 6) w2.toInt = 4 ∨ ((1 : Int) = 4 ∧ 1 < kS (c 3) (c 6) w2.toInt)))) := hr6_0
    exact ro_zret hx hb hr hlocks hS (nb_n (show 0 ≤ r6.toInt ∧ r6.toInt ≤ 1 from by omega)) dX12_fitsRight_78 ⟨(show 0 ≤ r6.toInt ∧ r6.toInt ≤ 1 from by omega), (show Sm r6 (FtR f.toInt (kS (c 3) (c 6) w2.toInt)) from by unfold Sm; rw [propext (FtR_1 (by omega))]; omega)⟩
  · refine lv_tableIn (off := 78) (tgt := 79) hx hb dX12_fitsRight_1 (by omega) (by omega) (by rw [f1]; rfl) (by decide +kernel) ?_
    refine lv_aload_n hx hb dX12_fitsRight_79 rfl (lv_at hl 0 rfl) ?_
    refine lv_iload_n hx hb dX12_fitsRight_80 rfl (lv_at hl 2 rfl) ?_
    refine lv_iconst (v := 5) hx hb dX12_fitsRight_81 (by decide +kernel) ?_
    refine ro_calli (va_runV (As := [.int w2, .int 5]) (rest := []) ⟨hx, hb, hml, hown, hts⟩ (s_X12_isOf_e l D s.heap.size o a t i q c d w2 5 hI (show 0 ≤ w2.toInt ∧ w2.toInt ≤ 29 from by have h91 : (5 : Int32).toInt = 5 := (by decide +kernel); omega) (show 0 ≤ 5 ∧ 5 ≤ 5 from by decide +kernel)) (cwV 2 hts gm_X12_fitsRight_X12_isOf rfl rfl rfl (by decide +kernel) ⟨Nat.le_of_ble_eq_true rfl, Nat.le_of_ble_eq_true rfl⟩) (pA_V hK hP (ci := 12) (q0 := 0) rfl rfl) rfl rfl hl.1 rfl (lv_room (Nat.le_of_ble_eq_true rfl)) dX12_fitsRight_82 ⟨Nat.le_of_ble_eq_true rfl, Nat.le_of_ble_eq_true rfl⟩) hS hA hP (fun r7 u7 H locs hw7 hP hS => ?_)
    have hw7 : ((0 ≤ r7.toInt ∧ r7.toInt ≤ 1) ∧ (0 ≤ kS (c 3) (c 6) w2.toInt ∧ kS (c 3) (c 6) w2.toInt ≤ 5 ∧ ((r7.toInt = 1 ∧ (kS (c 3) (c 6) w2.toInt = 5 ∨ ((1 : Int) = 5 ∧ 1 < kS (c 3) (c 6) w2.toInt))) ∨ (r7.toInt = 0 ∧ ¬ (kS (c 3) (c 6) w2.toInt = 5 ∨ ((1 : Int) = 5 ∧ 1 < kS (c 3) (c 6) w2.toInt)))))) := hw7
    obtain ⟨hw7, hr7_0⟩ := hw7
    have hr7_0 : 0 ≤ kS (c 3) (c 6) w2.toInt ∧ kS (c 3) (c 6) w2.toInt ≤ 5 ∧ ((r7.toInt = 1 ∧ (kS (c 3) (c 6) w2.toInt = 5 ∨ ((1 : Int) = 5 ∧ 1 < kS (c 3) (c 6) w2.toInt))) ∨ (r7.toInt = 0 ∧ ¬ (kS (c 3) (c 6) w2.toInt = 5 ∨ ((1 : Int) = 5 ∧ 1 < kS (c 3) (c 6) w2.toInt)))) := hr7_0
    exact ro_zret hx hb hr hlocks hS (nb_n (show 0 ≤ r7.toInt ∧ r7.toInt ≤ 1 from by omega)) dX12_fitsRight_85 ⟨(show 0 ≤ r7.toInt ∧ r7.toInt ≤ 1 from by omega), (show Sm r7 (FtR f.toInt (kS (c 3) (c 6) w2.toInt)) from by unfold Sm; rw [propext (FtR_2 (by omega))]; omega)⟩
  · refine lv_tableIn (off := 78) (tgt := 79) hx hb dX12_fitsRight_1 (by omega) (by omega) (by rw [f1]; rfl) (by decide +kernel) ?_
    refine lv_aload_n hx hb dX12_fitsRight_79 rfl (lv_at hl 0 rfl) ?_
    refine lv_iload_n hx hb dX12_fitsRight_80 rfl (lv_at hl 2 rfl) ?_
    refine lv_iconst (v := 5) hx hb dX12_fitsRight_81 (by decide +kernel) ?_
    refine ro_calli (va_runV (As := [.int w2, .int 5]) (rest := []) ⟨hx, hb, hml, hown, hts⟩ (s_X12_isOf_e l D s.heap.size o a t i q c d w2 5 hI (show 0 ≤ w2.toInt ∧ w2.toInt ≤ 29 from by have h91 : (5 : Int32).toInt = 5 := (by decide +kernel); omega) (show 0 ≤ 5 ∧ 5 ≤ 5 from by decide +kernel)) (cwV 2 hts gm_X12_fitsRight_X12_isOf rfl rfl rfl (by decide +kernel) ⟨Nat.le_of_ble_eq_true rfl, Nat.le_of_ble_eq_true rfl⟩) (pA_V hK hP (ci := 12) (q0 := 0) rfl rfl) rfl rfl hl.1 rfl (lv_room (Nat.le_of_ble_eq_true rfl)) dX12_fitsRight_82 ⟨Nat.le_of_ble_eq_true rfl, Nat.le_of_ble_eq_true rfl⟩) hS hA hP (fun r8 u8 H locs hw8 hP hS => ?_)
    have hw8 : ((0 ≤ r8.toInt ∧ r8.toInt ≤ 1) ∧ (0 ≤ kS (c 3) (c 6) w2.toInt ∧ kS (c 3) (c 6) w2.toInt ≤ 5 ∧ ((r8.toInt = 1 ∧ (kS (c 3) (c 6) w2.toInt = 5 ∨ ((1 : Int) = 5 ∧ 1 < kS (c 3) (c 6) w2.toInt))) ∨ (r8.toInt = 0 ∧ ¬ (kS (c 3) (c 6) w2.toInt = 5 ∨ ((1 : Int) = 5 ∧ 1 < kS (c 3) (c 6) w2.toInt)))))) := hw8
    obtain ⟨hw8, hr8_0⟩ := hw8
    have hr8_0 : 0 ≤ kS (c 3) (c 6) w2.toInt ∧ kS (c 3) (c 6) w2.toInt ≤ 5 ∧ ((r8.toInt = 1 ∧ (kS (c 3) (c 6) w2.toInt = 5 ∨ ((1 : Int) = 5 ∧ 1 < kS (c 3) (c 6) w2.toInt))) ∨ (r8.toInt = 0 ∧ ¬ (kS (c 3) (c 6) w2.toInt = 5 ∨ ((1 : Int) = 5 ∧ 1 < kS (c 3) (c 6) w2.toInt)))) := hr8_0
    exact ro_zret hx hb hr hlocks hS (nb_n (show 0 ≤ r8.toInt ∧ r8.toInt ≤ 1 from by omega)) dX12_fitsRight_85 ⟨(show 0 ≤ r8.toInt ∧ r8.toInt ≤ 1 from by omega), (show Sm r8 (FtR f.toInt (kS (c 3) (c 6) w2.toInt)) from by unfold Sm; rw [propext (FtR_3 (by omega))]; omega)⟩
  · refine lv_tableIn (off := 85) (tgt := 86) hx hb dX12_fitsRight_1 (by omega) (by omega) (by rw [f1]; rfl) (by decide +kernel) ?_
    refine lv_aload_n hx hb dX12_fitsRight_86 rfl (lv_at hl 0 rfl) ?_
    refine lv_iload_n hx hb dX12_fitsRight_87 rfl (lv_at hl 2 rfl) ?_
    refine lv_iconst (v := 1) hx hb dX12_fitsRight_88 (by decide +kernel) ?_
    refine ro_calli (va_runV (As := [.int w2, .int 1]) (rest := []) ⟨hx, hb, hml, hown, hts⟩ (s_X12_isOf_e l D s.heap.size o a t i q c d w2 1 hI (show 0 ≤ w2.toInt ∧ w2.toInt ≤ 29 from by have h91 : (1 : Int32).toInt = 1 := (by decide +kernel); omega) (show 0 ≤ 1 ∧ 1 ≤ 5 from by decide +kernel)) (cwV 2 hts gm_X12_fitsRight_X12_isOf rfl rfl rfl (by decide +kernel) ⟨Nat.le_of_ble_eq_true rfl, Nat.le_of_ble_eq_true rfl⟩) (pA_V hK hP (ci := 12) (q0 := 0) rfl rfl) rfl rfl hl.1 rfl (lv_room (Nat.le_of_ble_eq_true rfl)) dX12_fitsRight_89 ⟨Nat.le_of_ble_eq_true rfl, Nat.le_of_ble_eq_true rfl⟩) hS hA hP (fun r9 u9 H locs hw9 hP hS => ?_)
    have hw9 : ((0 ≤ r9.toInt ∧ r9.toInt ≤ 1) ∧ (0 ≤ kS (c 3) (c 6) w2.toInt ∧ kS (c 3) (c 6) w2.toInt ≤ 5 ∧ ((r9.toInt = 1 ∧ (kS (c 3) (c 6) w2.toInt = 1 ∨ ((1 : Int) = 1 ∧ 1 < kS (c 3) (c 6) w2.toInt))) ∨ (r9.toInt = 0 ∧ ¬ (kS (c 3) (c 6) w2.toInt = 1 ∨ ((1 : Int) = 1 ∧ 1 < kS (c 3) (c 6) w2.toInt)))))) := hw9
    obtain ⟨hw9, hr9_0⟩ := hw9
    have hr9_0 : 0 ≤ kS (c 3) (c 6) w2.toInt ∧ kS (c 3) (c 6) w2.toInt ≤ 5 ∧ ((r9.toInt = 1 ∧ (kS (c 3) (c 6) w2.toInt = 1 ∨ ((1 : Int) = 1 ∧ 1 < kS (c 3) (c 6) w2.toInt))) ∨ (r9.toInt = 0 ∧ ¬ (kS (c 3) (c 6) w2.toInt = 1 ∨ ((1 : Int) = 1 ∧ 1 < kS (c 3) (c 6) w2.toInt)))) := hr9_0
    exact ro_zret hx hb hr hlocks hS (nb_n (show 0 ≤ r9.toInt ∧ r9.toInt ≤ 1 from by omega)) dX12_fitsRight_92 ⟨(show 0 ≤ r9.toInt ∧ r9.toInt ≤ 1 from by omega), (show Sm r9 (FtR f.toInt (kS (c 3) (c 6) w2.toInt)) from by unfold Sm; rw [propext (FtR_4 (by omega))]; omega)⟩
  · refine lv_tableIn (off := 92) (tgt := 93) hx hb dX12_fitsRight_1 (by omega) (by omega) (by rw [f1]; rfl) (by decide +kernel) ?_
    refine lv_aload_n hx hb dX12_fitsRight_93 rfl (lv_at hl 0 rfl) ?_
    refine lv_iload_n hx hb dX12_fitsRight_94 rfl (lv_at hl 2 rfl) ?_
    refine lv_iconst (v := 0) hx hb dX12_fitsRight_95 (by decide +kernel) ?_
    refine ro_calli (va_runV (As := [.int w2, .int 0]) (rest := []) ⟨hx, hb, hml, hown, hts⟩ (s_X12_isOf_e l D s.heap.size o a t i q c d w2 0 hI (show 0 ≤ w2.toInt ∧ w2.toInt ≤ 29 from by have h91 : (0 : Int32).toInt = 0 := (by decide +kernel); omega) (show 0 ≤ 0 ∧ 0 ≤ 5 from by decide +kernel)) (cwV 2 hts gm_X12_fitsRight_X12_isOf rfl rfl rfl (by decide +kernel) ⟨Nat.le_of_ble_eq_true rfl, Nat.le_of_ble_eq_true rfl⟩) (pA_V hK hP (ci := 12) (q0 := 0) rfl rfl) rfl rfl hl.1 rfl (lv_room (Nat.le_of_ble_eq_true rfl)) dX12_fitsRight_96 ⟨Nat.le_of_ble_eq_true rfl, Nat.le_of_ble_eq_true rfl⟩) hS hA hP (fun r10 u10 H locs hw10 hP hS => ?_)
    have hw10 : ((0 ≤ r10.toInt ∧ r10.toInt ≤ 1) ∧ (0 ≤ kS (c 3) (c 6) w2.toInt ∧ kS (c 3) (c 6) w2.toInt ≤ 5 ∧ ((r10.toInt = 1 ∧ (kS (c 3) (c 6) w2.toInt = 0 ∨ ((1 : Int) = 0 ∧ 1 < kS (c 3) (c 6) w2.toInt))) ∨ (r10.toInt = 0 ∧ ¬ (kS (c 3) (c 6) w2.toInt = 0 ∨ ((1 : Int) = 0 ∧ 1 < kS (c 3) (c 6) w2.toInt)))))) := hw10
    obtain ⟨hw10, hr10_0⟩ := hw10
    have hr10_0 : 0 ≤ kS (c 3) (c 6) w2.toInt ∧ kS (c 3) (c 6) w2.toInt ≤ 5 ∧ ((r10.toInt = 1 ∧ (kS (c 3) (c 6) w2.toInt = 0 ∨ ((1 : Int) = 0 ∧ 1 < kS (c 3) (c 6) w2.toInt))) ∨ (r10.toInt = 0 ∧ ¬ (kS (c 3) (c 6) w2.toInt = 0 ∨ ((1 : Int) = 0 ∧ 1 < kS (c 3) (c 6) w2.toInt)))) := hr10_0
    refine lv_if_ne (tgt := 111) hx hb dX12_fitsRight_99 (by decide +kernel) (fun c11 => ?_) (fun c11 => ?_)
    · have f11 := mt (ti_eq (a := r10.toInt) (b := 0) rfl (by decide +kernel)).mpr c11
      refine lv_iconst (v := 1) hx hb dX12_fitsRight_111 (by decide +kernel) ?_
      refine lv_goto (tgt := 116) hx hb dX12_fitsRight_112 (by decide +kernel) ?_
      exact ro_zret hx hb hr hlocks hS rfl dX12_fitsRight_116 ⟨(show 0 ≤ (1 : Int32).toInt ∧ (1 : Int32).toInt ≤ 1 from by decide +kernel), (show Sm (1 : Int32) (FtR f.toInt (kS (c 3) (c 6) w2.toInt)) from sm_1 ((FtR_5 (by omega)).mpr (by omega)))⟩
    · have f11 := (ti_eq (a := r10.toInt) (b := 0) rfl (by decide +kernel)).mp c11
      refine lv_aload_n hx hb dX12_fitsRight_102 rfl (lv_at hl 0 rfl) ?_
      refine lv_iload_n hx hb dX12_fitsRight_103 rfl (lv_at hl 2 rfl) ?_
      refine lv_iconst (v := 2) hx hb dX12_fitsRight_104 (by decide +kernel) ?_
      refine ro_calli (va_runV (As := [.int w2, .int 2]) (rest := []) ⟨hx, hb, hml, hown, hts⟩ (s_X12_isOf_e l D H.size o a t i q c d w2 2 hI (show 0 ≤ w2.toInt ∧ w2.toInt ≤ 29 from by have h91 : (2 : Int32).toInt = 2 := (by decide +kernel); omega) (show 0 ≤ 2 ∧ 2 ≤ 5 from by decide +kernel)) (cwV 2 hts gm_X12_fitsRight_X12_isOf rfl rfl rfl (by decide +kernel) ⟨Nat.le_of_ble_eq_true rfl, Nat.le_of_ble_eq_true rfl⟩) (pA_V hK hP (ci := 12) (q0 := 0) rfl rfl) rfl rfl hl.1 rfl (lv_room (Nat.le_of_ble_eq_true rfl)) dX12_fitsRight_105 ⟨Nat.le_of_ble_eq_true rfl, Nat.le_of_ble_eq_true rfl⟩) hS hA hP (fun r12 u12 H locs hw12 hP hS => ?_)
      have hw12 : ((0 ≤ r12.toInt ∧ r12.toInt ≤ 1) ∧ (0 ≤ kS (c 3) (c 6) w2.toInt ∧ kS (c 3) (c 6) w2.toInt ≤ 5 ∧ ((r12.toInt = 1 ∧ (kS (c 3) (c 6) w2.toInt = 2 ∨ ((1 : Int) = 2 ∧ 1 < kS (c 3) (c 6) w2.toInt))) ∨ (r12.toInt = 0 ∧ ¬ (kS (c 3) (c 6) w2.toInt = 2 ∨ ((1 : Int) = 2 ∧ 1 < kS (c 3) (c 6) w2.toInt)))))) := hw12
      obtain ⟨hw12, hr12_0⟩ := hw12
      have hr12_0 : 0 ≤ kS (c 3) (c 6) w2.toInt ∧ kS (c 3) (c 6) w2.toInt ≤ 5 ∧ ((r12.toInt = 1 ∧ (kS (c 3) (c 6) w2.toInt = 2 ∨ ((1 : Int) = 2 ∧ 1 < kS (c 3) (c 6) w2.toInt))) ∨ (r12.toInt = 0 ∧ ¬ (kS (c 3) (c 6) w2.toInt = 2 ∨ ((1 : Int) = 2 ∧ 1 < kS (c 3) (c 6) w2.toInt)))) := hr12_0
      refine lv_if_eq (tgt := 115) hx hb dX12_fitsRight_108 (by decide +kernel) (fun c13 => ?_) (fun c13 => ?_)
      · have f13 := (ti_eq (a := r12.toInt) (b := 0) rfl (by decide +kernel)).mp c13
        refine lv_iconst (v := 0) hx hb dX12_fitsRight_115 (by decide +kernel) ?_
        exact ro_zret hx hb hr hlocks hS rfl dX12_fitsRight_116 ⟨(show 0 ≤ (0 : Int32).toInt ∧ (0 : Int32).toInt ≤ 1 from by decide +kernel), (show Sm (0 : Int32) (FtR f.toInt (kS (c 3) (c 6) w2.toInt)) from sm_0 (mt (FtR_5 (by omega)).mp (by omega)))⟩
      · have f13 := mt (ti_eq (a := r12.toInt) (b := 0) rfl (by decide +kernel)).mpr c13
        refine lv_iconst (v := 1) hx hb dX12_fitsRight_111 (by decide +kernel) ?_
        refine lv_goto (tgt := 116) hx hb dX12_fitsRight_112 (by decide +kernel) ?_
        exact ro_zret hx hb hr hlocks hS rfl dX12_fitsRight_116 ⟨(show 0 ≤ (1 : Int32).toInt ∧ (1 : Int32).toInt ≤ 1 from by decide +kernel), (show Sm (1 : Int32) (FtR f.toInt (kS (c 3) (c 6) w2.toInt)) from sm_1 ((FtR_5 (by omega)).mpr (by omega)))⟩
  · refine lv_tableIn (off := 122) (tgt := 123) hx hb dX12_fitsRight_1 (by omega) (by omega) (by rw [f1]; rfl) (by decide +kernel) ?_
    refine lv_iconst (v := 1) hx hb dX12_fitsRight_123 (by decide +kernel) ?_
    exact ro_zret hx hb hr hlocks hS rfl dX12_fitsRight_124 ⟨(show 0 ≤ (1 : Int32).toInt ∧ (1 : Int32).toInt ≤ 1 from by decide +kernel), (show Sm (1 : Int32) (FtR f.toInt (kS (c 3) (c 6) w2.toInt)) from sm_1 ((FtR_6 (by omega)).mpr trivial))⟩
  · refine lv_tableIn (off := 116) (tgt := 117) hx hb dX12_fitsRight_1 (by omega) (by omega) (by rw [f1]; rfl) (by decide +kernel) ?_
    refine lv_aload_n hx hb dX12_fitsRight_117 rfl (lv_at hl 0 rfl) ?_
    refine lv_iload_n hx hb dX12_fitsRight_118 rfl (lv_at hl 2 rfl) ?_
    refine ro_calli (va_runV (As := [.int w2]) (rest := []) ⟨hx, hb, hml, hown, hts⟩ (s_X12_isShutter_e l D s.heap.size o a t i q c d w2 hI (show 0 ≤ w2.toInt ∧ w2.toInt ≤ 29 from by omega)) (cwV 1 hts gm_X12_fitsRight_X12_isShutter rfl rfl rfl (by decide +kernel) ⟨Nat.le_of_ble_eq_true rfl, Nat.le_of_ble_eq_true rfl⟩) (pA_V hK hP (ci := 12) (q0 := 0) rfl rfl) rfl rfl hl.1 rfl (lv_room (Nat.le_of_ble_eq_true rfl)) dX12_fitsRight_119 ⟨Nat.le_of_ble_eq_true rfl, Nat.le_of_ble_eq_true rfl⟩) hS hA hP (fun r14 u14 H locs hw14 hP hS => ?_)
    have hw14 : (0 ≤ kS (c 3) (c 6) w2.toInt ∧ kS (c 3) (c 6) w2.toInt ≤ 5 ∧ ((r14.toInt = 1 ∧ (kS (c 3) (c 6) w2.toInt = 2 ∨ kS (c 3) (c 6) w2.toInt = 3)) ∨ (r14.toInt = 0 ∧ ¬ (kS (c 3) (c 6) w2.toInt = 2 ∨ kS (c 3) (c 6) w2.toInt = 3)))) := hw14
    exact ro_zret hx hb hr hlocks hS (nb_n (show 0 ≤ r14.toInt ∧ r14.toInt ≤ 1 from by omega)) dX12_fitsRight_122 ⟨(show 0 ≤ r14.toInt ∧ r14.toInt ≤ 1 from by omega), (show Sm r14 (FtR f.toInt (kS (c 3) (c 6) w2.toInt)) from by unfold Sm; rw [propext (FtR_7 (by omega))]; omega)⟩

set_option maxHeartbeats 4000000 in
set_option maxRecDepth 100000 in
theorem s_X12_areNumbers_e (l : Launch) (D : va_G) (sz : Nat) (o : Nat) (a : Nat → Nat) (t : Nat → ClassId) (i : Nat → Int32) (q : Int64) (c : Nat → Nat → Int32) (d : Nat → Nat → Int64) (f : Int32) (w1 : Int32) (w2 : Int32) (w3 : Int32) (hI : mInv i c) (hf : 0 ≤ f.toInt ∧ f.toInt ≤ 7) : Met l yX12_areNumbers wm_X12_areNumbers ({ frames := 2, cells := 0, slots := 0, locals := 46 }) (va_Pc [.ref o, .int f, .int w1, .int w2, .int w3] (pA D sz (mW o a t i q c d) (mT t))) (va_Qi (fun (r : Int32) (_ : Unit) => ((0 ≤ r.toInt ∧ r.toInt ≤ 1) ∧ (Sm r (WF f.toInt w1.toInt w2.toInt w3.toInt (i 5).toInt)))) oA (ro sz)) 0 0 (ro sz) := by
  refine Met.ofW (cc := cX12_areNumbers) (maxL := 5) (ret := (some .boolean)) (by decide +kernel) rfl ?_
  intro p e s m args below meth cd s₁ B hml hv
  obtain ⟨rfl, hsz, hP, hK⟩ := hv
  have hx := B.exec
  have hb := B.bytes
  have hr := B.returns
  have hts := atoms_spec (ws := wm_X12_areNumbers) B.pre
  have hown : s.vm.findClass RX12 = some m.cls := findClass_of_methodNamed B.named
  have hlocks := B.notSynchronized
  subst hsz
  have hA : ∀ q : Nat, s.heap.size ≤ q → ro s.heap.size q := fun _ h => h
  have hS : va_S (ro s.heap.size) s.heap s.heap [] := va_S.rf
  have hl := lv_entry ([.ref o, .int f, .int w1, .int w2, .int w3]) (n := 5) (Nat.le_of_ble_eq_true rfl)
  rw [lg_entry_eq]
  generalize (lg_sl ([.ref o, .int f, .int w1, .int w2, .int w3]) ++ List.replicate (5 - (lg_sl ([.ref o, .int f, .int w1, .int w2, .int w3])).length) Slot.unset).toArray = ls at hl ⊢
  have hl : lv_has ls 5 [(0, .ref o), (1, .int f), (2, .int w1), (3, .int w2), (4, .int w3)] := hl
  refine lv_iload_n hx hb dX12_areNumbers_0 rfl (lv_at hl 1 rfl) ?_
  refine lv_bipush (v := 6) hx hb dX12_areNumbers_1 (by decide +kernel) ?_
  refine lv_icmp_ne (tgt := 43) hx hb dX12_areNumbers_3 (by decide +kernel) (fun c1 => ?_) (fun c1 => ?_)
  · have f1 := mt (ti_eq (a := f.toInt) (b := 6) rfl (by decide +kernel)).mpr c1
    refine lv_aload_n hx hb dX12_areNumbers_43 rfl (lv_at hl 0 rfl) ?_
    refine lv_iload_n hx hb dX12_areNumbers_44 rfl (lv_at hl 2 rfl) ?_
    have rb5_i : 0 ≤ (i 5).toInt ∧ (i 5).toInt ≤ 30 := hI.1 5
    refine ro_calli (va_runV (As := [.int w1]) (rest := []) ⟨hx, hb, hml, hown, hts⟩ (s_X12_isObject l D s.heap.size o a t i q c d w1 hI ) (cwV 1 hts gm_X12_areNumbers_X12_isObject rfl rfl rfl (by decide +kernel) ⟨Nat.le_of_ble_eq_true rfl, Nat.le_of_ble_eq_true rfl⟩) (pA_V hK hP (ci := 12) (q0 := 0) rfl rfl) rfl rfl hl.1 rfl (lv_room (Nat.le_of_ble_eq_true rfl)) dX12_areNumbers_45 ⟨Nat.le_of_ble_eq_true rfl, Nat.le_of_ble_eq_true rfl⟩) hS hA hP (fun r2 u2 H locs hw2 hP hS => ?_)
    have hw2 : r2 = if (0 ≤ w1.toInt ∧ w1.toInt ≤ (i 5).toInt - 1) then 1 else 0 := hw2
    refine lv_if_eq (tgt := 81) hx hb dX12_areNumbers_48 (by decide +kernel) (fun c3 => ?_) (fun c3 => ?_)
    · have f3 := fl_f hw2 c3
      refine lv_iconst (v := 0) hx hb dX12_areNumbers_81 (by decide +kernel) ?_
      exact ro_zret hx hb hr hlocks hS rfl dX12_areNumbers_82 ⟨(show 0 ≤ (0 : Int32).toInt ∧ (0 : Int32).toInt ≤ 1 from by decide +kernel), (show Sm (0 : Int32) (WF f.toInt w1.toInt w2.toInt w3.toInt (i 5).toInt) from sm_0 (by unfold WF; omega))⟩
    · have f3 := fl_t hw2 c3
      refine lv_aload_n hx hb dX12_areNumbers_51 rfl (lv_at hl 0 rfl) ?_
      refine lv_iload_n hx hb dX12_areNumbers_52 rfl (lv_at hl 3 rfl) ?_
      refine ro_calli (va_runV (As := [.int w2]) (rest := []) ⟨hx, hb, hml, hown, hts⟩ (s_X12_isObject l D H.size o a t i q c d w2 hI ) (cwV 1 hts gm_X12_areNumbers_X12_isObject rfl rfl rfl (by decide +kernel) ⟨Nat.le_of_ble_eq_true rfl, Nat.le_of_ble_eq_true rfl⟩) (pA_V hK hP (ci := 12) (q0 := 0) rfl rfl) rfl rfl hl.1 rfl (lv_room (Nat.le_of_ble_eq_true rfl)) dX12_areNumbers_53 ⟨Nat.le_of_ble_eq_true rfl, Nat.le_of_ble_eq_true rfl⟩) hS hA hP (fun r4 u4 H locs hw4 hP hS => ?_)
      have hw4 : r4 = if (0 ≤ w2.toInt ∧ w2.toInt ≤ (i 5).toInt - 1) then 1 else 0 := hw4
      refine lv_if_eq (tgt := 81) hx hb dX12_areNumbers_56 (by decide +kernel) (fun c5 => ?_) (fun c5 => ?_)
      · have f5 := fl_f hw4 c5
        refine lv_iconst (v := 0) hx hb dX12_areNumbers_81 (by decide +kernel) ?_
        exact ro_zret hx hb hr hlocks hS rfl dX12_areNumbers_82 ⟨(show 0 ≤ (0 : Int32).toInt ∧ (0 : Int32).toInt ≤ 1 from by decide +kernel), (show Sm (0 : Int32) (WF f.toInt w1.toInt w2.toInt w3.toInt (i 5).toInt) from sm_0 (by unfold WF; omega))⟩
      · have f5 := fl_t hw4 c5
        refine lv_iload_n hx hb dX12_areNumbers_59 rfl (lv_at hl 1 rfl) ?_
        refine lv_iconst (v := 5) hx hb dX12_areNumbers_60 (by decide +kernel) ?_
        refine lv_icmp_ne (tgt := 77) hx hb dX12_areNumbers_61 (by decide +kernel) (fun c6 => ?_) (fun c6 => ?_)
        · have f6 := mt (ti_eq (a := f.toInt) (b := 5) rfl (by decide +kernel)).mpr c6
          refine lv_iconst (v := 1) hx hb dX12_areNumbers_77 (by decide +kernel) ?_
          refine lv_goto (tgt := 82) hx hb dX12_areNumbers_78 (by decide +kernel) ?_
          exact ro_zret hx hb hr hlocks hS rfl dX12_areNumbers_82 ⟨(show 0 ≤ (1 : Int32).toInt ∧ (1 : Int32).toInt ≤ 1 from by decide +kernel), (show Sm (1 : Int32) (WF f.toInt w1.toInt w2.toInt w3.toInt (i 5).toInt) from sm_1 (by unfold WF; omega))⟩
        · have f6 := (ti_eq (a := f.toInt) (b := 5) rfl (by decide +kernel)).mp c6
          refine lv_iload hx hb dX12_areNumbers_64 (lv_at hl 4 rfl) ?_
          refine lv_i2l (v := w3.toInt64) hx hb dX12_areNumbers_66 rfl ?_
          refine lv_lconst (v := 0) hx hb dX12_areNumbers_67 (by decide +kernel) ?_
          refine lv_ldc2 (v := 9) hx hb hown (hts (.constantLong RX12 197 (9)) (List.mem_cons_of_mem _ (List.mem_append_left _ (List.mem_of_getElem? (i := 9) rfl)))) dX12_areNumbers_68 ?_
          have hPc := hP.sub (ws' := []) [] rfl
          have hKc := hK.sub (tys' := []) [] rfl
          refine ro_calli (va_runS (As := [.long w3.toInt64, .long 0, .long 9]) (rest := []) ⟨hx, hb, hml, hown, hts⟩ (c_X12_in l D H.size w3.toInt64 0 9 w3.toInt 0 9 ((Int32.toInt_toInt64 w3).trans rfl) (by decide +kernel) (by decide +kernel)) (va_cwS 3 hts gm_X12_areNumbers_X12_in rfl rfl rfl (by decide +kernel) ⟨Nat.le_of_ble_eq_true rfl, Nat.le_of_ble_eq_true rfl⟩) (pA_S hKc hPc) rfl rfl hl.1 rfl (lv_room (Nat.le_of_ble_eq_true rfl)) dX12_areNumbers_71 ⟨Nat.le_of_ble_eq_true rfl, Nat.le_of_ble_eq_true rfl⟩) hS hA hP (fun r7 u7 H locs hw7 hP hS => ?_)
          have hw7 : r7 = if (0 ≤ w3.toInt ∧ w3.toInt ≤ 9) then 1 else 0 := hw7
          refine lv_if_eq (tgt := 81) hx hb dX12_areNumbers_74 (by decide +kernel) (fun c8 => ?_) (fun c8 => ?_)
          · have f8 := fl_f hw7 c8
            refine lv_iconst (v := 0) hx hb dX12_areNumbers_81 (by decide +kernel) ?_
            exact ro_zret hx hb hr hlocks hS rfl dX12_areNumbers_82 ⟨(show 0 ≤ (0 : Int32).toInt ∧ (0 : Int32).toInt ≤ 1 from by decide +kernel), (show Sm (0 : Int32) (WF f.toInt w1.toInt w2.toInt w3.toInt (i 5).toInt) from sm_0 (by unfold WF; omega))⟩
          · have f8 := fl_t hw7 c8
            refine lv_iconst (v := 1) hx hb dX12_areNumbers_77 (by decide +kernel) ?_
            refine lv_goto (tgt := 82) hx hb dX12_areNumbers_78 (by decide +kernel) ?_
            exact ro_zret hx hb hr hlocks hS rfl dX12_areNumbers_82 ⟨(show 0 ≤ (1 : Int32).toInt ∧ (1 : Int32).toInt ≤ 1 from by decide +kernel), (show Sm (1 : Int32) (WF f.toInt w1.toInt w2.toInt w3.toInt (i 5).toInt) from sm_1 (by unfold WF; omega))⟩
  · have f1 := (ti_eq (a := f.toInt) (b := 6) rfl (by decide +kernel)).mp c1
    refine lv_aload_n hx hb dX12_areNumbers_6 rfl (lv_at hl 0 rfl) ?_
    refine lv_iload_n hx hb dX12_areNumbers_7 rfl (lv_at hl 2 rfl) ?_
    have rb5_i : 0 ≤ (i 5).toInt ∧ (i 5).toInt ≤ 30 := hI.1 5
    refine ro_calli (va_runV (As := [.int w1]) (rest := []) ⟨hx, hb, hml, hown, hts⟩ (s_X12_isObject l D s.heap.size o a t i q c d w1 hI ) (cwV 1 hts gm_X12_areNumbers_X12_isObject rfl rfl rfl (by decide +kernel) ⟨Nat.le_of_ble_eq_true rfl, Nat.le_of_ble_eq_true rfl⟩) (pA_V hK hP (ci := 12) (q0 := 0) rfl rfl) rfl rfl hl.1 rfl (lv_room (Nat.le_of_ble_eq_true rfl)) dX12_areNumbers_8 ⟨Nat.le_of_ble_eq_true rfl, Nat.le_of_ble_eq_true rfl⟩) hS hA hP (fun r9 u9 H locs hw9 hP hS => ?_)
    have hw9 : r9 = if (0 ≤ w1.toInt ∧ w1.toInt ≤ (i 5).toInt - 1) then 1 else 0 := hw9
    refine lv_if_eq (tgt := 41) hx hb dX12_areNumbers_11 (by decide +kernel) (fun c10 => ?_) (fun c10 => ?_)
    · have f10 := fl_f hw9 c10
      refine lv_iconst (v := 0) hx hb dX12_areNumbers_41 (by decide +kernel) ?_
      exact ro_zret hx hb hr hlocks hS rfl dX12_areNumbers_42 ⟨(show 0 ≤ (0 : Int32).toInt ∧ (0 : Int32).toInt ≤ 1 from by decide +kernel), (show Sm (0 : Int32) (WF f.toInt w1.toInt w2.toInt w3.toInt (i 5).toInt) from sm_0 (by unfold WF; omega))⟩
    · have f10 := fl_t hw9 c10
      refine lv_iload_n hx hb dX12_areNumbers_14 rfl (lv_at hl 3 rfl) ?_
      refine lv_i2l (v := w2.toInt64) hx hb dX12_areNumbers_15 rfl ?_
      refine lv_lconst (v := 0) hx hb dX12_areNumbers_16 (by decide +kernel) ?_
      refine lv_ldc2 (v := 5) hx hb hown (hts (.constantLong RX12 170 (5)) (List.mem_cons_of_mem _ (List.mem_append_left _ (List.mem_of_getElem? (i := 10) rfl)))) dX12_areNumbers_17 ?_
      have hPc := hP.sub (ws' := []) [] rfl
      have hKc := hK.sub (tys' := []) [] rfl
      refine ro_calli (va_runS (As := [.long w2.toInt64, .long 0, .long 5]) (rest := []) ⟨hx, hb, hml, hown, hts⟩ (c_X12_in l D H.size w2.toInt64 0 5 w2.toInt 0 5 ((Int32.toInt_toInt64 w2).trans rfl) (by decide +kernel) (by decide +kernel)) (va_cwS 3 hts gm_X12_areNumbers_X12_in rfl rfl rfl (by decide +kernel) ⟨Nat.le_of_ble_eq_true rfl, Nat.le_of_ble_eq_true rfl⟩) (pA_S hKc hPc) rfl rfl hl.1 rfl (lv_room (Nat.le_of_ble_eq_true rfl)) dX12_areNumbers_20 ⟨Nat.le_of_ble_eq_true rfl, Nat.le_of_ble_eq_true rfl⟩) hS hA hP (fun r11 u11 H locs hw11 hP hS => ?_)
      have hw11 : r11 = if (0 ≤ w2.toInt ∧ w2.toInt ≤ 5) then 1 else 0 := hw11
      refine lv_if_eq (tgt := 41) hx hb dX12_areNumbers_23 (by decide +kernel) (fun c12 => ?_) (fun c12 => ?_)
      · have f12 := fl_f hw11 c12
        refine lv_iconst (v := 0) hx hb dX12_areNumbers_41 (by decide +kernel) ?_
        exact ro_zret hx hb hr hlocks hS rfl dX12_areNumbers_42 ⟨(show 0 ≤ (0 : Int32).toInt ∧ (0 : Int32).toInt ≤ 1 from by decide +kernel), (show Sm (0 : Int32) (WF f.toInt w1.toInt w2.toInt w3.toInt (i 5).toInt) from sm_0 (by unfold WF; omega))⟩
      · have f12 := fl_t hw11 c12
        refine lv_iload hx hb dX12_areNumbers_26 (lv_at hl 4 rfl) ?_
        refine lv_i2l (v := w3.toInt64) hx hb dX12_areNumbers_28 rfl ?_
        refine lv_lconst (v := 0) hx hb dX12_areNumbers_29 (by decide +kernel) ?_
        refine lv_lconst (v := 1) hx hb dX12_areNumbers_30 (by decide +kernel) ?_
        have hPc := hP.sub (ws' := []) [] rfl
        have hKc := hK.sub (tys' := []) [] rfl
        refine ro_calli (va_runS (As := [.long w3.toInt64, .long 0, .long 1]) (rest := []) ⟨hx, hb, hml, hown, hts⟩ (c_X12_in l D H.size w3.toInt64 0 1 w3.toInt 0 1 ((Int32.toInt_toInt64 w3).trans rfl) (by decide +kernel) (by decide +kernel)) (va_cwS 3 hts gm_X12_areNumbers_X12_in rfl rfl rfl (by decide +kernel) ⟨Nat.le_of_ble_eq_true rfl, Nat.le_of_ble_eq_true rfl⟩) (pA_S hKc hPc) rfl rfl hl.1 rfl (lv_room (Nat.le_of_ble_eq_true rfl)) dX12_areNumbers_31 ⟨Nat.le_of_ble_eq_true rfl, Nat.le_of_ble_eq_true rfl⟩) hS hA hP (fun r13 u13 H locs hw13 hP hS => ?_)
        have hw13 : r13 = if (0 ≤ w3.toInt ∧ w3.toInt ≤ 1) then 1 else 0 := hw13
        refine lv_if_eq (tgt := 41) hx hb dX12_areNumbers_34 (by decide +kernel) (fun c14 => ?_) (fun c14 => ?_)
        · have f14 := fl_f hw13 c14
          refine lv_iconst (v := 0) hx hb dX12_areNumbers_41 (by decide +kernel) ?_
          exact ro_zret hx hb hr hlocks hS rfl dX12_areNumbers_42 ⟨(show 0 ≤ (0 : Int32).toInt ∧ (0 : Int32).toInt ≤ 1 from by decide +kernel), (show Sm (0 : Int32) (WF f.toInt w1.toInt w2.toInt w3.toInt (i 5).toInt) from sm_0 (by unfold WF; omega))⟩
        · have f14 := fl_t hw13 c14
          refine lv_iconst (v := 1) hx hb dX12_areNumbers_37 (by decide +kernel) ?_
          refine lv_goto (tgt := 42) hx hb dX12_areNumbers_38 (by decide +kernel) ?_
          exact ro_zret hx hb hr hlocks hS rfl dX12_areNumbers_42 ⟨(show 0 ≤ (1 : Int32).toInt ∧ (1 : Int32).toInt ≤ 1 from by decide +kernel), (show Sm (1 : Int32) (WF f.toInt w1.toInt w2.toInt w3.toInt (i 5).toInt) from sm_1 (by unfold WF; omega))⟩

set_option maxHeartbeats 4000000 in
set_option maxRecDepth 100000 in
theorem s_X12_saidSo_e (l : Launch) (D : va_G) (sz : Nat) (o : Nat) (a : Nat → Nat) (t : Nat → ClassId) (i : Nat → Int32) (q : Int64) (c : Nat → Nat → Int32) (d : Nat → Nat → Int64) (f : Int32) (w1 : Int32) (w2 : Int32) (w3 : Int32) (hI : mInv i c) : Met l yX12_saidSo wm_X12_saidSo ({ frames := 0, cells := 0, slots := 0, locals := 0 }) (va_Pc [.ref o, .int f, .int w1, .int w2, .int w3] (pA D sz (mW o a t i q c d) (mT t))) (va_Qi (fun (r : Int32) (_ : Unit) => ((r.toInt = -9 ∨ (0 ≤ r.toInt ∧ r.toInt ≤ 199)) ∧ (r.toInt = fsF (sE (c 9) (c 10) (c 11) (c 12) (c 13) f.toInt w1.toInt w2.toInt w3.toInt) (i 8).toInt.toNat))) oA (ro sz)) 0 0 (ro sz) := by
  refine Met.ofW (cc := cX12_saidSo) (maxL := 6) (ret := (some .int)) (by decide +kernel) rfl ?_
  intro p e s m args below meth cd s₁ B hml hv
  obtain ⟨rfl, hsz, hP, hK⟩ := hv
  have hx := B.exec
  have hb := B.bytes
  have hr := B.returns
  have hts := atoms_spec (ws := wm_X12_saidSo) B.pre
  have hown : s.vm.findClass RX12 = some m.cls := findClass_of_methodNamed B.named
  have hlocks := B.notSynchronized
  subst hsz
  have hA : ∀ q : Nat, s.heap.size ≤ q → ro s.heap.size q := fun _ h => h
  have hS : va_S (ro s.heap.size) s.heap s.heap [] := va_S.rf
  have hl := lv_entry ([.ref o, .int f, .int w1, .int w2, .int w3]) (n := 6) (Nat.le_of_ble_eq_true rfl)
  rw [lg_entry_eq]
  generalize (lg_sl ([.ref o, .int f, .int w1, .int w2, .int w3]) ++ List.replicate (6 - (lg_sl ([.ref o, .int f, .int w1, .int w2, .int w3])).length) Slot.unset).toArray = ls at hl ⊢
  have hl : lv_has ls 6 [(0, .ref o), (1, .int f), (2, .int w1), (3, .int w2), (4, .int w3)] := hl
  refine lv_iconst (v := 0) hx hb dX12_saidSo_0 (by decide +kernel) ?_
  refine lv_istore (lv' := [(5, .int 0), (0, .ref o), (1, .int f), (2, .int w1), (3, .int w2), (4, .int w3)]) hx hb dX12_saidSo_1 hl (by decide +kernel) rfl (fun ls hl => ?_)
  have lp1 : ∀ (fu : Nat) (y1_5 : Int32), (0 ≤ y1_5.toInt ∧ y1_5.toInt ≤ 200) → (∀ s : Nat, (s : Int) < y1_5.toInt → ¬ sE (c 9) (c 10) (c 11) (c 12) (c 13) f.toInt w1.toInt w2.toInt w3.toInt s) → (200 - y1_5.toInt).toNat < fu → ∀ (H : Heap) (locs : List Loc) (ls : Array Slot), va_P D vwCl (mW o a t i q c d) H → va_S (ro s.heap.size) s.heap H locs → lv_has ls 6 [(5, .int y1_5), (0, .ref o), (1, .int f), (2, .int w1), (3, .int w2), (4, .int w3)] → W p l e (headSpec wm_X12_saidSo ({ frames := 0, cells := 0, slots := 0, locals := 0 })).room s m ([.ref o, .int f, .int w1, .int w2, .int w3] : List Value).toArray below meth cd H locs 0 0 (MQ below (va_Qi (fun (r : Int32) (_ : Unit) => ((r.toInt = -9 ∨ (0 ≤ r.toInt ∧ r.toInt ≤ 199)) ∧ (r.toInt = fsF (sE (c 9) (c 10) (c 11) (c 12) (c 13) f.toInt w1.toInt w2.toInt w3.toInt) (i 8).toInt.toNat))) oA (ro s.heap.size)) ([.ref o, .int f, .int w1, .int w2, .int w3] : List Value).toArray s 0 0 (ro s.heap.size)) (F0 m 3 ls []) := by
    intro fu
    induction fu with
    | zero => intro y1_5 hy1_5 hz1_0 hm; exact absurd hm (Nat.not_lt_zero _)
    | succ fu ih =>
      intro y1_5 hy1_5 hz1_0 hm H locs ls hP hS hl
      have ih1 := ih
      refine lv_iload hx hb dX12_saidSo_3 (lv_at hl 0 rfl) ?_
      refine lv_aload_n hx hb dX12_saidSo_5 rfl (lv_at hl 1 rfl) ?_
      refine mget_8 (v := (i 8)) rfl hx hb hts (fun _ h => List.mem_cons_of_mem _ (List.mem_append_right _ h)) hown hK hP (hts (.fieldLink RX12 202 "TalePlayModel" "sentences" "I") (List.mem_cons_of_mem _ (List.mem_append_left _ (List.mem_of_getElem? (i := 0) rfl)))) dX12_saidSo_6 ?_
      have rb8_i : 0 ≤ (i 8).toInt ∧ (i 8).toInt ≤ 200 := hI.1 8
      refine lv_icmp_ge (tgt := 76) hx hb dX12_saidSo_9 (by decide +kernel) (fun c2 => ?_) (fun c2 => ?_)
      · have f2 := (ti_le (a := (i 8).toInt) (b := y1_5.toInt) rfl rfl).mp c2
        refine lv_bipush (v := (-9)) hx hb dX12_saidSo_76 (by decide +kernel) ?_
        exact ro_iret hx hb hr hlocks hS dX12_saidSo_78 ⟨(show ((-9) : Int32).toInt = -9 ∨ (0 ≤ ((-9) : Int32).toInt ∧ ((-9) : Int32).toInt ≤ 199) from by decide +kernel), (show ((-9) : Int32).toInt = fsF (sE (c 9) (c 10) (c 11) (c 12) (c 13) f.toInt w1.toInt w2.toInt w3.toInt) (i 8).toInt.toNat from by rw [show ((-9) : Int32).toInt = -9 by decide]; exact fs_no hz1_0 (by omega))⟩
      · have f2 := mt (ti_le (a := (i 8).toInt) (b := y1_5.toInt) rfl rfl).mpr c2
        refine lv_aload_n hx hb dX12_saidSo_12 rfl (lv_at hl 1 rfl) ?_
        refine mget_13 hx hb hts (fun _ h => List.mem_cons_of_mem _ (List.mem_append_right _ h)) hown hK hP (hts (.fieldLink RX12 37 "TalePlayModel" "isSaid" "[Z") (List.mem_cons_of_mem _ (List.mem_append_left _ (List.mem_of_getElem? (i := 1) rfl)))) dX12_saidSo_13 ?_
        refine lv_iload hx hb dX12_saidSo_16 (lv_at hl 0 rfl) ?_
        refine mld_13 hx hb hK hP (vp_in_iff.mpr (by have h9 : y1_5.toInt = y1_5.toInt := rfl; omega)) dX12_saidSo_18 (fun x3 ex3 => ?_)
        have rx3 : 0 ≤ x3.toInt ∧ x3.toInt ≤ 1 := by rw [ex3]; exact hI.2 13 _
        have gx3 : (c 13 (y1_5 : Int32).toNatClampNeg).toInt = x3.toInt := by rw [ex3]
        have jn4 : (¬ sE (c 9) (c 10) (c 11) (c 12) (c 13) f.toInt w1.toInt w2.toInt w3.toInt y1_5.toNatClampNeg) → ∀ (H : Heap) (locs : List Loc) (ls : Array Slot), va_P D vwCl (mW o a t i q c d) H → va_S (ro s.heap.size) s.heap H locs → lv_has ls 6 [(5, .int y1_5), (0, .ref o), (1, .int f), (2, .int w1), (3, .int w2), (4, .int w3)] → W p l e (headSpec wm_X12_saidSo ({ frames := 0, cells := 0, slots := 0, locals := 0 })).room s m ([.ref o, .int f, .int w1, .int w2, .int w3] : List Value).toArray below meth cd H locs 0 0 (MQ below (va_Qi (fun (r : Int32) (_ : Unit) => ((r.toInt = -9 ∨ (0 ≤ r.toInt ∧ r.toInt ≤ 199)) ∧ (r.toInt = fsF (sE (c 9) (c 10) (c 11) (c 12) (c 13) f.toInt w1.toInt w2.toInt w3.toInt) (i 8).toInt.toNat))) oA (ro s.heap.size)) ([.ref o, .int f, .int w1, .int w2, .int w3] : List Value).toArray s 0 0 (ro s.heap.size)) (F0 m 70 ls []) := by
          intro hz4_0 H locs ls hP hS hl
          obtain ⟨x5, ex5⟩ : ∃ y : Int32, y = y1_5 + 1 := ⟨_, rfl⟩
          have tx5 := ti_add (a := y1_5.toInt) (b := 1) ex5 rfl (by decide +kernel) (by omega) (by omega)
          refine lv_iinc (v := x5) (lv' := [(5, .int x5), (0, .ref o), (1, .int f), (2, .int w1), (3, .int w2), (4, .int w3)]) hx hb dX12_saidSo_70 hl (k := 0) rfl (by rw [ex5]; rfl) (by decide +kernel) rfl (fun ls hl => ?_)
          refine lv_goto (tgt := 3) hx hb dX12_saidSo_73 (by decide +kernel) ?_
          exact ih1 x5 (show 0 ≤ x5.toInt ∧ x5.toInt ≤ 200 from by have h50 : x5.toInt = (y1_5.toInt + 1) := tx5; omega) (show ∀ s : Nat, (s : Int) < x5.toInt → ¬ sE (c 9) (c 10) (c 11) (c 12) (c 13) f.toInt w1.toInt w2.toInt w3.toInt s from fs_go hz1_0 (by omega) hz4_0 tx5) (by have h50 : x5.toInt = (y1_5.toInt + 1) := tx5; omega) _ _ _ hP hS (lv_sub hl [0, 1, 2, 3, 4, 5] rfl)
        refine lv_if_eq (tgt := 70) hx hb dX12_saidSo_19 (by decide +kernel) (fun c6 => ?_) (fun c6 => ?_)
        · have f6 := (ti_eq (a := x3.toInt) (b := 0) rfl (by decide +kernel)).mp c6
          exact jn4   (show ¬ sE (c 9) (c 10) (c 11) (c 12) (c 13) f.toInt w1.toInt w2.toInt w3.toInt y1_5.toNatClampNeg from by first | omega | (unfold sE; omega)) _ _ _ hP hS (lv_sub hl [0, 1, 2, 3, 4, 5] rfl)
        · have f6 := mt (ti_eq (a := x3.toInt) (b := 0) rfl (by decide +kernel)).mpr c6
          refine lv_aload_n hx hb dX12_saidSo_22 rfl (lv_at hl 1 rfl) ?_
          refine mget_9 hx hb hts (fun _ h => List.mem_cons_of_mem _ (List.mem_append_right _ h)) hown hK hP (hts (.fieldLink RX12 25 "TalePlayModel" "form" "[I") (List.mem_cons_of_mem _ (List.mem_append_left _ (List.mem_of_getElem? (i := 2) rfl)))) dX12_saidSo_23 ?_
          refine lv_iload hx hb dX12_saidSo_26 (lv_at hl 0 rfl) ?_
          refine mld_9 hx hb hK hP (vp_in_iff.mpr (by have h9 : y1_5.toInt = y1_5.toInt := rfl; omega)) dX12_saidSo_28 (fun x7 ex7 => ?_)
          have rx7 : 0 ≤ x7.toInt ∧ x7.toInt ≤ 7 := by rw [ex7]; exact hI.2 9 _
          have gx7 : (c 9 (y1_5 : Int32).toNatClampNeg).toInt = x7.toInt := by rw [ex7]
          refine lv_iload_n hx hb dX12_saidSo_29 rfl (lv_at hl 2 rfl) ?_
          refine lv_icmp_ne (tgt := 70) hx hb dX12_saidSo_30 (by decide +kernel) (fun c8 => ?_) (fun c8 => ?_)
          · have f8 := mt (ti_eq (a := x7.toInt) (b := f.toInt) rfl rfl).mpr c8
            exact jn4   (show ¬ sE (c 9) (c 10) (c 11) (c 12) (c 13) f.toInt w1.toInt w2.toInt w3.toInt y1_5.toNatClampNeg from by first | omega | (unfold sE; omega)) _ _ _ hP hS (lv_sub hl [0, 1, 2, 3, 4, 5] rfl)
          · have f8 := (ti_eq (a := x7.toInt) (b := f.toInt) rfl rfl).mp c8
            refine lv_aload_n hx hb dX12_saidSo_33 rfl (lv_at hl 1 rfl) ?_
            refine mget_10 hx hb hts (fun _ h => List.mem_cons_of_mem _ (List.mem_append_right _ h)) hown hK hP (hts (.fieldLink RX12 28 "TalePlayModel" "left" "[I") (List.mem_cons_of_mem _ (List.mem_append_left _ (List.mem_of_getElem? (i := 3) rfl)))) dX12_saidSo_34 ?_
            refine lv_iload hx hb dX12_saidSo_37 (lv_at hl 0 rfl) ?_
            refine mld_10 hx hb hK hP (vp_in_iff.mpr (by have h9 : y1_5.toInt = y1_5.toInt := rfl; omega)) dX12_saidSo_39 (fun x9 ex9 => ?_)
            have rx9 : 0 ≤ x9.toInt ∧ x9.toInt ≤ 29 := by rw [ex9]; exact hI.2 10 _
            have gx9 : (c 10 (y1_5 : Int32).toNatClampNeg).toInt = x9.toInt := by rw [ex9]
            refine lv_iload_n hx hb dX12_saidSo_40 rfl (lv_at hl 3 rfl) ?_
            refine lv_icmp_ne (tgt := 70) hx hb dX12_saidSo_41 (by decide +kernel) (fun c10 => ?_) (fun c10 => ?_)
            · have f10 := mt (ti_eq (a := x9.toInt) (b := w1.toInt) rfl rfl).mpr c10
              exact jn4   (show ¬ sE (c 9) (c 10) (c 11) (c 12) (c 13) f.toInt w1.toInt w2.toInt w3.toInt y1_5.toNatClampNeg from by first | omega | (unfold sE; omega)) _ _ _ hP hS (lv_sub hl [0, 1, 2, 3, 4, 5] rfl)
            · have f10 := (ti_eq (a := x9.toInt) (b := w1.toInt) rfl rfl).mp c10
              refine lv_aload_n hx hb dX12_saidSo_44 rfl (lv_at hl 1 rfl) ?_
              refine mget_11 hx hb hts (fun _ h => List.mem_cons_of_mem _ (List.mem_append_right _ h)) hown hK hP (hts (.fieldLink RX12 31 "TalePlayModel" "middle" "[I") (List.mem_cons_of_mem _ (List.mem_append_left _ (List.mem_of_getElem? (i := 4) rfl)))) dX12_saidSo_45 ?_
              refine lv_iload hx hb dX12_saidSo_48 (lv_at hl 0 rfl) ?_
              refine mld_11 hx hb hK hP (vp_in_iff.mpr (by have h9 : y1_5.toInt = y1_5.toInt := rfl; omega)) dX12_saidSo_50 (fun x11 ex11 => ?_)
              have rx11 : 0 ≤ x11.toInt ∧ x11.toInt ≤ 29 := by rw [ex11]; exact hI.2 11 _
              have gx11 : (c 11 (y1_5 : Int32).toNatClampNeg).toInt = x11.toInt := by rw [ex11]
              refine lv_iload_n hx hb dX12_saidSo_51 rfl (lv_at hl 4 rfl) ?_
              refine lv_icmp_ne (tgt := 70) hx hb dX12_saidSo_52 (by decide +kernel) (fun c12 => ?_) (fun c12 => ?_)
              · have f12 := mt (ti_eq (a := x11.toInt) (b := w2.toInt) rfl rfl).mpr c12
                exact jn4   (show ¬ sE (c 9) (c 10) (c 11) (c 12) (c 13) f.toInt w1.toInt w2.toInt w3.toInt y1_5.toNatClampNeg from by first | omega | (unfold sE; omega)) _ _ _ hP hS (lv_sub hl [0, 1, 2, 3, 4, 5] rfl)
              · have f12 := (ti_eq (a := x11.toInt) (b := w2.toInt) rfl rfl).mp c12
                refine lv_aload_n hx hb dX12_saidSo_55 rfl (lv_at hl 1 rfl) ?_
                refine mget_12 hx hb hts (fun _ h => List.mem_cons_of_mem _ (List.mem_append_right _ h)) hown hK hP (hts (.fieldLink RX12 34 "TalePlayModel" "right" "[I") (List.mem_cons_of_mem _ (List.mem_append_left _ (List.mem_of_getElem? (i := 5) rfl)))) dX12_saidSo_56 ?_
                refine lv_iload hx hb dX12_saidSo_59 (lv_at hl 0 rfl) ?_
                refine mld_12 hx hb hK hP (vp_in_iff.mpr (by have h9 : y1_5.toInt = y1_5.toInt := rfl; omega)) dX12_saidSo_61 (fun x13 ex13 => ?_)
                have rx13 : 0 ≤ x13.toInt ∧ x13.toInt ≤ 9 := by rw [ex13]; exact hI.2 12 _
                have gx13 : (c 12 (y1_5 : Int32).toNatClampNeg).toInt = x13.toInt := by rw [ex13]
                refine lv_iload hx hb dX12_saidSo_62 (lv_at hl 5 rfl) ?_
                refine lv_icmp_ne (tgt := 70) hx hb dX12_saidSo_64 (by decide +kernel) (fun c14 => ?_) (fun c14 => ?_)
                · have f14 := mt (ti_eq (a := x13.toInt) (b := w3.toInt) rfl rfl).mpr c14
                  exact jn4   (show ¬ sE (c 9) (c 10) (c 11) (c 12) (c 13) f.toInt w1.toInt w2.toInt w3.toInt y1_5.toNatClampNeg from by first | omega | (unfold sE; omega)) _ _ _ hP hS (lv_sub hl [0, 1, 2, 3, 4, 5] rfl)
                · have f14 := (ti_eq (a := x13.toInt) (b := w3.toInt) rfl rfl).mp c14
                  refine lv_iload hx hb dX12_saidSo_67 (lv_at hl 0 rfl) ?_
                  exact ro_iret hx hb hr hlocks hS dX12_saidSo_69 ⟨(show y1_5.toInt = -9 ∨ (0 ≤ y1_5.toInt ∧ y1_5.toInt ≤ 199) from by omega), (show y1_5.toInt = fsF (sE (c 9) (c 10) (c 11) (c 12) (c 13) f.toInt w1.toInt w2.toInt w3.toInt) (i 8).toInt.toNat from fs_yes hz1_0 (by omega) (by omega) (by unfold sE; omega))⟩
  exact lp1 _ (0 : Int32) (show 0 ≤ (0 : Int32).toInt ∧ (0 : Int32).toInt ≤ 200 from by decide +kernel) (show ∀ s : Nat, (s : Int) < (0 : Int32).toInt → ¬ sE (c 9) (c 10) (c 11) (c 12) (c 13) f.toInt w1.toInt w2.toInt w3.toInt s from fs_0 (by decide +kernel)) (Nat.lt_succ_self _) _ _ _ hP hS (lv_sub hl [0, 1, 2, 3, 4, 5] rfl)

set_option maxHeartbeats 4000000 in
set_option maxRecDepth 100000 in
theorem s_X12_isPlaceBarred_e (l : Launch) (D : va_G) (sz : Nat) (o : Nat) (a : Nat → Nat) (t : Nat → ClassId) (i : Nat → Int32) (q : Int64) (c : Nat → Nat → Int32) (d : Nat → Nat → Int64) (f : Int32) (w1 : Int32) (w2 : Int32) (hI : mInv i c) (hw1 : 0 ≤ w1.toInt ∧ w1.toInt ≤ 29) (hw2 : 0 ≤ w2.toInt ∧ w2.toInt ≤ 29) (hrm : (i 15).toInt = 0) (hs_S : SJ (c 3) (c 6) (c 9) (c 10) (c 11) (c 13) (i 2).toInt (i 5).toInt (i 8).toInt) : Met l yX12_isPlaceBarred wm_X12_isPlaceBarred ({ frames := 1, cells := 0, slots := 0, locals := 25 }) (va_Pc [.ref o, .int f, .int w1, .int w2] (pB D sz (mW o a t i q c d) (mT t))) (va_Qi (fun (r : Int32) (u : MS) => ((0 ≤ r.toInt ∧ r.toInt ≤ 1) ∧ (Sm r (PbM (c 9) (c 10) (c 11) (c 12) (c 13) (i 8).toInt f.toInt w1.toInt w2.toInt))) ∧ mInv u.1 u.2.2.1 ∧ (∀ k, k ∉ ([15] : List Nat) → u.1 k = i k) ∧ (∀ k, k ∉ ([14] : List Nat) → u.2.2.1 k = c k)) (oC D (va_A (mW o a t i q c d) sz) (fun u : MS => mW o a t u.1 u.2.1 u.2.2.1 u.2.2.2) (fun _ => [])) (va_A (mW o a t i q c d) sz)) 0 0 (va_A (mW o a t i q c d) sz) := by
  refine Met.ofW (cc := cX12_isPlaceBarred) (maxL := 7) (ret := (some .boolean)) (by decide +kernel) rfl ?_
  intro p e s m args below meth cd s₁ B hml hv
  obtain ⟨rfl, hsz, hP, hK, hD0⟩ := hv
  have hx := B.exec
  have hb := B.bytes
  have hr := B.returns
  have hts := atoms_spec (ws := wm_X12_isPlaceBarred) B.pre
  have hown : s.vm.findClass RX12 = some m.cls := findClass_of_methodNamed B.named
  have hlocks := B.notSynchronized
  subst hsz
  have hD := hD0.self (sz := s.heap.size)
  generalize hAe : va_A (mW o a t i q c d) s.heap.size = A at hD ⊢
  have hA : ∀ q : Nat, s.heap.size ≤ q → A q := fun q h => by rw [← hAe]; exact Or.inr h
  have hS : va_S A s.heap s.heap [] := va_S.rf
  have hfi : ∀ k, k ∉ ([] : List Nat) → i k = i k := fun _ _ => rfl
  have hfc : ∀ k, k ∉ ([] : List Nat) → c k = c k := fun _ _ => rfl
  have hl := lv_entry ([.ref o, .int f, .int w1, .int w2]) (n := 7) (Nat.le_of_ble_eq_true rfl)
  rw [lg_entry_eq]
  generalize (lg_sl ([.ref o, .int f, .int w1, .int w2]) ++ List.replicate (7 - (lg_sl ([.ref o, .int f, .int w1, .int w2])).length) Slot.unset).toArray = ls at hl ⊢
  have hl : lv_has ls 7 [(0, .ref o), (1, .int f), (2, .int w1), (3, .int w2)] := hl
  obtain ⟨rk, hrk⟩ := hs_S.2.2.2
  have hr0 := hrk.1 w2.toInt
  refine lv_aload_n hx hb dX12_isPlaceBarred_0 rfl (lv_at hl 0 rfl) ?_
  refine lv_iload_n hx hb dX12_isPlaceBarred_1 rfl (lv_at hl 2 rfl) ?_
  have rb8_i : 0 ≤ (i 8).toInt ∧ (i 8).toInt ≤ 200 := hI.1 8
  refine ro_calli (va_runV (As := [.int w1]) (rest := []) ⟨hx, hb, hml, hown, hts⟩ (s_X12_placing l D s.heap.size o a t i q c d w1 hI ) (cwV 1 hts gm_X12_isPlaceBarred_X12_placing rfl rfl rfl (by decide +kernel) ⟨Nat.le_of_ble_eq_true rfl, Nat.le_of_ble_eq_true rfl⟩) (pA_V hK hP (ci := 12) (q0 := 0) rfl rfl) rfl rfl hl.1 rfl (lv_room (Nat.le_of_ble_eq_true rfl)) dX12_isPlaceBarred_2 ⟨Nat.le_of_ble_eq_true rfl, Nat.le_of_ble_eq_true rfl⟩) hS hA hP (fun r1 u1 H locs hw1 hP hS => ?_)
  have hw1 : ((r1.toInt = -9 ∨ (0 ≤ r1.toInt ∧ r1.toInt ≤ 199)) ∧ (r1.toInt = pL (c 9) (c 10) (c 13) (i 8).toInt w1.toInt)) := hw1
  obtain ⟨hw1, hr1_0⟩ := hw1
  have hr1_0 : r1.toInt = pL (c 9) (c 10) (c 13) (i 8).toInt w1.toInt := hr1_0
  refine lv_istore (lv' := [(4, .int r1), (0, .ref o), (1, .int f), (2, .int w1), (3, .int w2)]) hx hb dX12_isPlaceBarred_5 hl (by decide +kernel) rfl (fun ls hl => ?_)
  refine lv_iload hx hb dX12_isPlaceBarred_7 (lv_at hl 0 rfl) ?_
  refine lv_bipush (v := (-9)) hx hb dX12_isPlaceBarred_9 (by decide +kernel) ?_
  refine lv_icmp_eq (tgt := 22) hx hb dX12_isPlaceBarred_11 (by decide +kernel) (fun c2 => ?_) (fun c2 => ?_)
  · have f2 := (ti_eq (a := r1.toInt) (b := (-9)) rfl (by decide +kernel)).mp c2
    refine lv_iload_n hx hb dX12_isPlaceBarred_22 rfl (lv_at hl 4 rfl) ?_
    refine lv_istore (lv' := [(5, .int w2), (4, .int r1), (0, .ref o), (1, .int f), (2, .int w1), (3, .int w2)]) hx hb dX12_isPlaceBarred_23 hl (by decide +kernel) rfl (fun ls hl => ?_)
    have lp3 : ∀ (fu : Nat) (i3 : Nat → Int32) (q3 : Int64) (c3 : Nat → Nat → Int32) (d3 : Nat → Nat → Int64) (y3_5 : Int32), mInv i3 c3 → (∀ k, k ∉ ([15] : List Nat) → i3 k = i k) → (∀ k, k ∉ ([14] : List Nat) → c3 k = c k) → (0 ≤ y3_5.toInt ∧ y3_5.toInt ≤ 29) → (((i3 15) : Int32).toInt + (rk y3_5.toInt : Int) ≤ 29) → (Ch (fP (c 9) (c 10) (c 11) (c 13) (i 8).toInt) w2.toInt w1.toInt ↔ Ch (fP (c 9) (c 10) (c 11) (c 13) (i 8).toInt) y3_5.toInt w1.toInt) → rk y3_5.toInt < fu → ∀ (H : Heap) (locs : List Loc) (ls : Array Slot), va_P D vwCl (mW o a t i3 q3 c3 d3) H → va_D A (mW o a t i3 q3 c3 d3) → va_S A s.heap H locs → lv_has ls 7 [(5, .int y3_5), (4, .int r1), (0, .ref o), (1, .int f), (2, .int w1), (3, .int w2)] → W p l e (headSpec wm_X12_isPlaceBarred ({ frames := 1, cells := 0, slots := 0, locals := 25 })).room s m ([.ref o, .int f, .int w1, .int w2] : List Value).toArray below meth cd H locs 0 0 (MQ below (va_Qi (fun (r : Int32) (u : MS) => ((0 ≤ r.toInt ∧ r.toInt ≤ 1) ∧ (Sm r (PbM (c 9) (c 10) (c 11) (c 12) (c 13) (i 8).toInt f.toInt w1.toInt w2.toInt))) ∧ mInv u.1 u.2.2.1 ∧ (∀ k, k ∉ ([15] : List Nat) → u.1 k = i k) ∧ (∀ k, k ∉ ([14] : List Nat) → u.2.2.1 k = c k)) (oC D A (fun u : MS => mW o a t u.1 u.2.1 u.2.2.1 u.2.2.2) (fun _ => [])) A) ([.ref o, .int f, .int w1, .int w2] : List Value).toArray s 0 0 A) (F0 m 25 ls []) := by
      intro fu
      induction fu with
      | zero => intro i3 q3 c3 d3 y3_5 hI hfi hfc hy3_5 hz3_0 hz3_1 hm; exact absurd hm (Nat.not_lt_zero _)
      | succ fu ih =>
        intro i3 q3 c3 d3 y3_5 hI hfi hfc hy3_5 hz3_0 hz3_1 hm H locs ls hP hD hS hl
        have ih3 := ih
        refine lv_iload hx hb dX12_isPlaceBarred_25 (lv_at hl 0 rfl) ?_
        refine lv_iload_n hx hb dX12_isPlaceBarred_27 rfl (lv_at hl 4 rfl) ?_
        have jn4 : (y3_5.toInt = w1.toInt ∨ pL (c 9) (c 10) (c 13) (i 8).toInt y3_5.toInt = -9) → ∀ (H : Heap) (locs : List Loc) (ls : Array Slot), va_P D vwCl (mW o a t i3 q3 c3 d3) H → va_D A (mW o a t i3 q3 c3 d3) → va_S A s.heap H locs → lv_has ls 7 [(5, .int y3_5), (4, .int r1), (0, .ref o), (1, .int f), (2, .int w1), (3, .int w2)] → W p l e (headSpec wm_X12_isPlaceBarred ({ frames := 1, cells := 0, slots := 0, locals := 25 })).room s m ([.ref o, .int f, .int w1, .int w2] : List Value).toArray below meth cd H locs 0 0 (MQ below (va_Qi (fun (r : Int32) (u : MS) => ((0 ≤ r.toInt ∧ r.toInt ≤ 1) ∧ (Sm r (PbM (c 9) (c 10) (c 11) (c 12) (c 13) (i 8).toInt f.toInt w1.toInt w2.toInt))) ∧ mInv u.1 u.2.2.1 ∧ (∀ k, k ∉ ([15] : List Nat) → u.1 k = i k) ∧ (∀ k, k ∉ ([14] : List Nat) → u.2.2.1 k = c k)) (oC D A (fun u : MS => mW o a t u.1 u.2.1 u.2.2.1 u.2.2.2) (fun _ => [])) A) ([.ref o, .int f, .int w1, .int w2] : List Value).toArray s 0 0 A) (F0 m 68 ls []) := by
          intro hz4_0 H locs ls hP hD hS hl
          refine lv_iload hx hb dX12_isPlaceBarred_68 (lv_at hl 0 rfl) ?_
          refine lv_iload_n hx hb dX12_isPlaceBarred_70 rfl (lv_at hl 4 rfl) ?_
          refine lv_icmp_ne (tgt := 76) hx hb dX12_isPlaceBarred_71 (by decide +kernel) (fun c5 => ?_) (fun c5 => ?_)
          · have f5 := mt (ti_eq (a := y3_5.toInt) (b := w1.toInt) rfl rfl).mpr c5
            refine lv_aload_n hx hb dX12_isPlaceBarred_76 rfl (lv_at hl 2 rfl) ?_
            refine lv_iconst (v := 0) hx hb dX12_isPlaceBarred_77 (by decide +kernel) ?_
            refine mput_15 hx hb hts (fun _ h => List.mem_cons_of_mem _ (List.mem_append_right _ h)) hown hK hP hD hS (hts (.fieldLink RX12 205 "TalePlayModel" "rowMany" "I") (List.mem_cons_of_mem _ (List.mem_append_left _ (List.mem_append_left _ (List.mem_of_getElem? (i := 9) rfl))))) rfl rfl dX12_isPlaceBarred_78 (fun H locs hP hD hS => ?_)
            have hI := mInv_i hI (k := 15) (v := 0) (show 0 ≤ (0 : Int32).toInt ∧ (0 : Int32).toInt ≤ 200 from by decide +kernel)
            have hfi := fr_i hfi (k := 15) (v := 0) (by decide +kernel)
            refine lv_iload_n hx hb dX12_isPlaceBarred_81 rfl (lv_at hl 3 rfl) ?_
            refine lv_iconst (v := 3) hx hb dX12_isPlaceBarred_82 (by decide +kernel) ?_
            refine lv_icmp_ne (tgt := 98) hx hb dX12_isPlaceBarred_83 (by decide +kernel) (fun c6 => ?_) (fun c6 => ?_)
            · have f6 := mt (ti_eq (a := f.toInt) (b := 3) rfl (by decide +kernel)).mpr c6
              refine lv_bipush (v := (-9)) hx hb dX12_isPlaceBarred_98 (by decide +kernel) ?_
              refine lv_istore (lv' := [(6, .int (-9)), (5, .int y3_5), (4, .int r1), (0, .ref o), (1, .int f), (2, .int w1), (3, .int w2)]) hx hb dX12_isPlaceBarred_100 hl (by decide +kernel) rfl (fun ls hl => ?_)
              refine lv_iload hx hb dX12_isPlaceBarred_102 (lv_at hl 0 rfl) ?_
              refine lv_bipush (v := (-9)) hx hb dX12_isPlaceBarred_104 (by decide +kernel) ?_
              refine lv_icmp_eq (tgt := 115) hx hb dX12_isPlaceBarred_106 (by decide +kernel) (fun _ => ?_) (fun q9 => absurd (by decide +kernel) q9)
              refine lv_iload hx hb dX12_isPlaceBarred_115 (lv_at hl 0 rfl) ?_
              refine lv_bipush (v := (-9)) hx hb dX12_isPlaceBarred_117 (by decide +kernel) ?_
              refine lv_icmp_eq (tgt := 126) hx hb dX12_isPlaceBarred_119 (by decide +kernel) (fun _ => ?_) (fun q9 => absurd (by decide +kernel) q9)
              refine lv_iconst (v := 0) hx hb dX12_isPlaceBarred_126 (by decide +kernel) ?_
              exact rw_zret ((upd i3 15 0), q3, c3, d3) hx hb hr hlocks hS (hK.sub (tys' := []) [] rfl) hP hD rfl dX12_isPlaceBarred_127 ⟨⟨(show 0 ≤ (0 : Int32).toInt ∧ (0 : Int32).toInt ≤ 1 from by decide +kernel), (show Sm (0 : Int32) (PbM (c 9) (c 10) (c 11) (c 12) (c 13) (i 8).toInt f.toInt w1.toInt w2.toInt) from by first | (exfalso; omega; done) | exact sm_0 (fun h9 => by rcases h9 with h9 | h9 | h9; (· omega); (· have h7 := (Ch_nx (f := fP (c 9) (c 10) (c 11) (c 13) (i 8).toInt) (show ¬ y3_5.toInt = w1.toInt by omega)).mp (hz3_1.mp h9); rw [fP_no (by omega)] at h7; have h6 := Ch_nd fP_9 h7; omega); (· omega)))⟩, hI, fr_w hfi (by decide +kernel), fr_w hfc (by decide +kernel)⟩
            · have f6 := (ti_eq (a := f.toInt) (b := 3) rfl (by decide +kernel)).mp c6
              refine lv_aload_n hx hb dX12_isPlaceBarred_86 rfl (lv_at hl 2 rfl) ?_
              refine lv_bipush (v := 6) hx hb dX12_isPlaceBarred_87 (by decide +kernel) ?_
              refine lv_iload_n hx hb dX12_isPlaceBarred_89 rfl (lv_at hl 4 rfl) ?_
              refine lv_iconst (v := 4) hx hb dX12_isPlaceBarred_90 (by decide +kernel) ?_
              refine lv_iconst (v := 0) hx hb dX12_isPlaceBarred_91 (by decide +kernel) ?_
              have rb8_i3 : 0 ≤ (i3 8).toInt ∧ (i3 8).toInt ≤ 200 := hI.1 8
              have re8_i3 : (i3 8).toInt = (i 8).toInt := congrArg Int32.toInt (hfi 8 (by decide +kernel))
              refine ro_calli (va_runV (As := [.int 6, .int w1, .int 4, .int 0]) (rest := []) ⟨hx, hb, hml, hown, hts⟩ (s_X12_saidSo_e l D H.size o a t (upd i3 15 0) q3 c3 d3 6 w1 4 0 hI ) (cwV 4 hts gm_X12_isPlaceBarred_X12_saidSo rfl rfl rfl (by decide +kernel) ⟨Nat.le_of_ble_eq_true rfl, Nat.le_of_ble_eq_true rfl⟩) (pA_V hK hP (ci := 12) (q0 := 0) rfl rfl) rfl rfl hl.1 rfl (lv_room (Nat.le_of_ble_eq_true rfl)) dX12_isPlaceBarred_92 ⟨Nat.le_of_ble_eq_true rfl, Nat.le_of_ble_eq_true rfl⟩) hS hA hP (fun r7 u7 H locs hw7 hP hS => ?_)
              have hw7 : ((r7.toInt = -9 ∨ (0 ≤ r7.toInt ∧ r7.toInt ≤ 199)) ∧ (r7.toInt = fsF (sE (c3 9) (c3 10) (c3 11) (c3 12) (c3 13) 6 w1.toInt 4 0) ((upd i3 15 0) 8).toInt.toNat)) := hw7
              obtain ⟨hw7, hr7_0⟩ := hw7
              have hr7_0 : r7.toInt = fsF (sE (c 9) (c 10) (c 11) (c 12) (c 13) 6 w1.toInt 4 0) (i 8).toInt.toNat := by have h9 := hr7_0; rw [show c3 9 = c 9 from hfc 9 (by decide +kernel), show c3 10 = c 10 from hfc 10 (by decide +kernel), show c3 11 = c 11 from hfc 11 (by decide +kernel), show c3 12 = c 12 from hfc 12 (by decide +kernel), show c3 13 = c 13 from hfc 13 (by decide +kernel), show (upd i3 15 0) 8 = i 8 from hfi 8 (by decide +kernel)] at h9; exact h9
              refine lv_goto (tgt := 100) hx hb dX12_isPlaceBarred_95 (by decide +kernel) ?_
              refine lv_istore (lv' := [(6, .int r7), (5, .int y3_5), (4, .int r1), (0, .ref o), (1, .int f), (2, .int w1), (3, .int w2)]) hx hb dX12_isPlaceBarred_100 hl (by decide +kernel) rfl (fun ls hl => ?_)
              refine lv_iload hx hb dX12_isPlaceBarred_102 (lv_at hl 0 rfl) ?_
              refine lv_bipush (v := (-9)) hx hb dX12_isPlaceBarred_104 (by decide +kernel) ?_
              refine lv_icmp_eq (tgt := 115) hx hb dX12_isPlaceBarred_106 (by decide +kernel) (fun c8 => ?_) (fun c8 => ?_)
              · have f8 := (ti_eq (a := r7.toInt) (b := (-9)) rfl (by decide +kernel)).mp c8
                refine lv_iload hx hb dX12_isPlaceBarred_115 (lv_at hl 0 rfl) ?_
                refine lv_bipush (v := (-9)) hx hb dX12_isPlaceBarred_117 (by decide +kernel) ?_
                refine lv_icmp_eq (tgt := 126) hx hb dX12_isPlaceBarred_119 (by decide +kernel) (fun c9 => ?_) (fun c9 => ?_)
                · have f9 := (ti_eq (a := r7.toInt) (b := (-9)) rfl (by decide +kernel)).mp c9
                  refine lv_iconst (v := 0) hx hb dX12_isPlaceBarred_126 (by decide +kernel) ?_
                  exact rw_zret ((upd i3 15 0), q3, c3, d3) hx hb hr hlocks hS (hK.sub (tys' := []) [] rfl) hP hD rfl dX12_isPlaceBarred_127 ⟨⟨(show 0 ≤ (0 : Int32).toInt ∧ (0 : Int32).toInt ≤ 1 from by decide +kernel), (show Sm (0 : Int32) (PbM (c 9) (c 10) (c 11) (c 12) (c 13) (i 8).toInt f.toInt w1.toInt w2.toInt) from by first | (exfalso; omega; done) | exact sm_0 (fun h9 => by rcases h9 with h9 | h9 | h9; (· omega); (· have h7 := (Ch_nx (f := fP (c 9) (c 10) (c 11) (c 13) (i 8).toInt) (show ¬ y3_5.toInt = w1.toInt by omega)).mp (hz3_1.mp h9); rw [fP_no (by omega)] at h7; have h6 := Ch_nd fP_9 h7; omega); (· omega)))⟩, hI, fr_w hfi (by decide +kernel), fr_w hfc (by decide +kernel)⟩
                · have f9 := mt (ti_eq (a := r7.toInt) (b := (-9)) rfl (by decide +kernel)).mpr c9
                  refine lv_iconst (v := 1) hx hb dX12_isPlaceBarred_122 (by decide +kernel) ?_
                  refine lv_goto (tgt := 127) hx hb dX12_isPlaceBarred_123 (by decide +kernel) ?_
                  exact rw_zret ((upd i3 15 0), q3, c3, d3) hx hb hr hlocks hS (hK.sub (tys' := []) [] rfl) hP hD rfl dX12_isPlaceBarred_127 ⟨⟨(show 0 ≤ (1 : Int32).toInt ∧ (1 : Int32).toInt ≤ 1 from by decide +kernel), (show Sm (1 : Int32) (PbM (c 9) (c 10) (c 11) (c 12) (c 13) (i 8).toInt f.toInt w1.toInt w2.toInt) from by first | (exfalso; omega; done) | exact sm_1 (Or.inr (Or.inr ⟨by omega, by omega⟩)))⟩, hI, fr_w hfi (by decide +kernel), fr_w hfc (by decide +kernel)⟩
              · have f8 := mt (ti_eq (a := r7.toInt) (b := (-9)) rfl (by decide +kernel)).mpr c8
                refine lv_aload_n hx hb dX12_isPlaceBarred_109 rfl (lv_at hl 3 rfl) ?_
                refine lv_iload hx hb dX12_isPlaceBarred_110 (lv_at hl 0 rfl) ?_
                refine al_callv (va_runV (As := [.int r7]) (rest := []) ⟨hx, hb, hml, hown, hts⟩ (s_X12_clashes l D H.size o a t (upd i3 15 0) q3 c3 d3 r7 hI (show 0 ≤ r7.toInt ∧ r7.toInt ≤ 199 from by have h60 : (0 : Int32).toInt = 0 := (by decide +kernel); omega) (show (0 : Int32).toInt ≤ 199 from by decide +kernel)) (cwV 1 hts gm_X12_isPlaceBarred_X12_clashes rfl rfl rfl (by decide +kernel) ⟨Nat.le_of_ble_eq_true rfl, Nat.le_of_ble_eq_true rfl⟩) (pB_V hK hP hD (ci := 12) (q0 := 0) rfl rfl) rfl rfl hl.1 rfl (lv_room (Nat.le_of_ble_eq_true rfl)) dX12_isPlaceBarred_112 ⟨Nat.le_of_ble_eq_true rfl, Nat.le_of_ble_eq_true rfl⟩) hS hA hP hD (fun u10 H locs hw10 hP hD hS => ?_)
                obtain ⟨i10, q10, c10, d10⟩ := u10
                have hw10 : True ∧ mInv i10 c10 ∧ (∀ k, k ∉ ([15] : List Nat) → i10 k = (upd i3 15 0) k) ∧ (∀ k, k ∉ ([14] : List Nat) → c10 k = c3 k) ∧ ((i10 15).toInt = ((upd i3 15 0) 15).toInt + 1) := hw10
                obtain ⟨hw10, hI, hei10, hec10, hxp10_0⟩ := hw10
                have hxp10_0 : (i10 15).toInt = ((upd i3 15 0) 15).toInt + 1 := hxp10_0
                have hfi : ∀ k, k ∉ ([15] : List Nat) → i10 k = i k := fr_z hfi hei10 (by decide +kernel) (by decide +kernel)
                have hfc : ∀ k, k ∉ ([14] : List Nat) → c10 k = c k := fr_z hfc hec10 (by decide +kernel) (by decide +kernel)
                have hP : va_P D vwCl (mW o a t i10 q10 c10 d10) H := hP
                have hD : va_D A (mW o a t i10 q10 c10 d10) := hD
                refine lv_iload hx hb dX12_isPlaceBarred_115 (lv_at hl 0 rfl) ?_
                refine lv_bipush (v := (-9)) hx hb dX12_isPlaceBarred_117 (by decide +kernel) ?_
                refine lv_icmp_eq (tgt := 126) hx hb dX12_isPlaceBarred_119 (by decide +kernel) (fun c11 => ?_) (fun c11 => ?_)
                · have f11 := (ti_eq (a := r7.toInt) (b := (-9)) rfl (by decide +kernel)).mp c11
                  refine lv_iconst (v := 0) hx hb dX12_isPlaceBarred_126 (by decide +kernel) ?_
                  exact rw_zret (i10, q10, c10, d10) hx hb hr hlocks hS (hK.sub (tys' := []) [] rfl) hP hD rfl dX12_isPlaceBarred_127 ⟨⟨(show 0 ≤ (0 : Int32).toInt ∧ (0 : Int32).toInt ≤ 1 from by decide +kernel), (show Sm (0 : Int32) (PbM (c 9) (c 10) (c 11) (c 12) (c 13) (i 8).toInt f.toInt w1.toInt w2.toInt) from by first | (exfalso; omega; done) | exact sm_0 (fun h9 => by rcases h9 with h9 | h9 | h9; (· omega); (· have h7 := (Ch_nx (f := fP (c 9) (c 10) (c 11) (c 13) (i 8).toInt) (show ¬ y3_5.toInt = w1.toInt by omega)).mp (hz3_1.mp h9); rw [fP_no (by omega)] at h7; have h6 := Ch_nd fP_9 h7; omega); (· omega)))⟩, hI, fr_w hfi (by decide +kernel), fr_w hfc (by decide +kernel)⟩
                · have f11 := mt (ti_eq (a := r7.toInt) (b := (-9)) rfl (by decide +kernel)).mpr c11
                  refine lv_iconst (v := 1) hx hb dX12_isPlaceBarred_122 (by decide +kernel) ?_
                  refine lv_goto (tgt := 127) hx hb dX12_isPlaceBarred_123 (by decide +kernel) ?_
                  exact rw_zret (i10, q10, c10, d10) hx hb hr hlocks hS (hK.sub (tys' := []) [] rfl) hP hD rfl dX12_isPlaceBarred_127 ⟨⟨(show 0 ≤ (1 : Int32).toInt ∧ (1 : Int32).toInt ≤ 1 from by decide +kernel), (show Sm (1 : Int32) (PbM (c 9) (c 10) (c 11) (c 12) (c 13) (i 8).toInt f.toInt w1.toInt w2.toInt) from by first | (exfalso; omega; done) | exact sm_1 (Or.inr (Or.inr ⟨by omega, by omega⟩)))⟩, hI, fr_w hfi (by decide +kernel), fr_w hfc (by decide +kernel)⟩
          · have f5 := (ti_eq (a := y3_5.toInt) (b := w1.toInt) rfl rfl).mp c5
            refine lv_iconst (v := 1) hx hb dX12_isPlaceBarred_74 (by decide +kernel) ?_
            exact rw_zret (i3, q3, c3, d3) hx hb hr hlocks hS (hK.sub (tys' := []) [] rfl) hP hD rfl dX12_isPlaceBarred_75 ⟨⟨(show 0 ≤ (1 : Int32).toInt ∧ (1 : Int32).toInt ≤ 1 from by decide +kernel), (show Sm (1 : Int32) (PbM (c 9) (c 10) (c 11) (c 12) (c 13) (i 8).toInt f.toInt w1.toInt w2.toInt) from sm_1 (Or.inr (Or.inl (hz3_1.mpr (by rw [show y3_5.toInt = w1.toInt by omega]; exact Ch_rf)))))⟩, hI, fr_w hfi (by decide +kernel), fr_w hfc (by decide +kernel)⟩
        refine lv_icmp_eq (tgt := 68) hx hb dX12_isPlaceBarred_28 (by decide +kernel) (fun c12 => ?_) (fun c12 => ?_)
        · have f12 := (ti_eq (a := y3_5.toInt) (b := w1.toInt) rfl rfl).mp c12
          exact jn4   (show y3_5.toInt = w1.toInt ∨ pL (c 9) (c 10) (c 13) (i 8).toInt y3_5.toInt = -9 from by omega) _ _ _ hP hD hS (lv_sub hl [0, 1, 2, 3, 4, 5] rfl)
        · have f12 := mt (ti_eq (a := y3_5.toInt) (b := w1.toInt) rfl rfl).mpr c12
          refine lv_aload_n hx hb dX12_isPlaceBarred_31 rfl (lv_at hl 2 rfl) ?_
          refine lv_iload hx hb dX12_isPlaceBarred_32 (lv_at hl 0 rfl) ?_
          have rb8_i3 : 0 ≤ (i3 8).toInt ∧ (i3 8).toInt ≤ 200 := hI.1 8
          have re8_i3 : (i3 8).toInt = (i 8).toInt := congrArg Int32.toInt (hfi 8 (by decide +kernel))
          refine ro_calli (va_runV (As := [.int y3_5]) (rest := []) ⟨hx, hb, hml, hown, hts⟩ (s_X12_placing l D H.size o a t i3 q3 c3 d3 y3_5 hI ) (cwV 1 hts gm_X12_isPlaceBarred_X12_placing rfl rfl rfl (by decide +kernel) ⟨Nat.le_of_ble_eq_true rfl, Nat.le_of_ble_eq_true rfl⟩) (pA_V hK hP (ci := 12) (q0 := 0) rfl rfl) rfl rfl hl.1 rfl (lv_room (Nat.le_of_ble_eq_true rfl)) dX12_isPlaceBarred_34 ⟨Nat.le_of_ble_eq_true rfl, Nat.le_of_ble_eq_true rfl⟩) hS hA hP (fun r13 u13 H locs hw13 hP hS => ?_)
          have hw13 : ((r13.toInt = -9 ∨ (0 ≤ r13.toInt ∧ r13.toInt ≤ 199)) ∧ (r13.toInt = pL (c3 9) (c3 10) (c3 13) (i3 8).toInt y3_5.toInt)) := hw13
          obtain ⟨hw13, hr13_0⟩ := hw13
          have hr13_0 : r13.toInt = pL (c 9) (c 10) (c 13) (i 8).toInt y3_5.toInt := by have h9 := hr13_0; rw [show c3 9 = c 9 from hfc 9 (by decide +kernel), show c3 10 = c 10 from hfc 10 (by decide +kernel), show c3 13 = c 13 from hfc 13 (by decide +kernel), show i3 8 = i 8 from hfi 8 (by decide +kernel)] at h9; exact h9
          refine lv_bipush (v := (-9)) hx hb dX12_isPlaceBarred_37 (by decide +kernel) ?_
          refine lv_icmp_eq (tgt := 68) hx hb dX12_isPlaceBarred_39 (by decide +kernel) (fun c14 => ?_) (fun c14 => ?_)
          · have f14 := (ti_eq (a := r13.toInt) (b := (-9)) rfl (by decide +kernel)).mp c14
            exact jn4   (show y3_5.toInt = w1.toInt ∨ pL (c 9) (c 10) (c 13) (i 8).toInt y3_5.toInt = -9 from by omega) _ _ _ hP hD hS (lv_sub hl [0, 1, 2, 3, 4, 5] rfl)
          · have f14 := mt (ti_eq (a := r13.toInt) (b := (-9)) rfl (by decide +kernel)).mpr c14
            refine lv_aload_n hx hb dX12_isPlaceBarred_42 rfl (lv_at hl 2 rfl) ?_
            refine lv_aload_n hx hb dX12_isPlaceBarred_43 rfl (lv_at hl 2 rfl) ?_
            refine lv_iload hx hb dX12_isPlaceBarred_44 (lv_at hl 0 rfl) ?_
            refine ro_calli (va_runV (As := [.int y3_5]) (rest := [.ref o]) ⟨hx, hb, hml, hown, hts⟩ (s_X12_placing l D H.size o a t i3 q3 c3 d3 y3_5 hI ) (cwV 1 hts gm_X12_isPlaceBarred_X12_placing rfl rfl rfl (by decide +kernel) ⟨Nat.le_of_ble_eq_true rfl, Nat.le_of_ble_eq_true rfl⟩) (pA_V hK hP (ci := 12) (q0 := 0) rfl rfl) rfl rfl hl.1 rfl (lv_room (Nat.le_of_ble_eq_true rfl)) dX12_isPlaceBarred_46 ⟨Nat.le_of_ble_eq_true rfl, Nat.le_of_ble_eq_true rfl⟩) hS hA hP (fun r15 u15 H locs hw15 hP hS => ?_)
            have hw15 : ((r15.toInt = -9 ∨ (0 ≤ r15.toInt ∧ r15.toInt ≤ 199)) ∧ (r15.toInt = pL (c3 9) (c3 10) (c3 13) (i3 8).toInt y3_5.toInt)) := hw15
            obtain ⟨hw15, hr15_0⟩ := hw15
            have hr15_0 : r15.toInt = pL (c 9) (c 10) (c 13) (i 8).toInt y3_5.toInt := by have h9 := hr15_0; rw [show c3 9 = c 9 from hfc 9 (by decide +kernel), show c3 10 = c 10 from hfc 10 (by decide +kernel), show c3 13 = c 13 from hfc 13 (by decide +kernel), show i3 8 = i 8 from hfi 8 (by decide +kernel)] at h9; exact h9
            have rb15_i3 : 0 ≤ (i3 15).toInt ∧ (i3 15).toInt ≤ 200 := hI.1 15
            refine al_callv (va_runV (As := [.int r15]) (rest := []) ⟨hx, hb, hml, hown, hts⟩ (s_X12_clashes l D H.size o a t i3 q3 c3 d3 r15 hI (show 0 ≤ r15.toInt ∧ r15.toInt ≤ 199 from by omega) (show ((i3 15) : Int32).toInt ≤ 199 from by omega)) (cwV 1 hts gm_X12_isPlaceBarred_X12_clashes rfl rfl rfl (by decide +kernel) ⟨Nat.le_of_ble_eq_true rfl, Nat.le_of_ble_eq_true rfl⟩) (pB_V hK hP hD (ci := 12) (q0 := 0) rfl rfl) rfl rfl hl.1 rfl (lv_room (Nat.le_of_ble_eq_true rfl)) dX12_isPlaceBarred_49 ⟨Nat.le_of_ble_eq_true rfl, Nat.le_of_ble_eq_true rfl⟩) hS hA hP hD (fun u16 H locs hw16 hP hD hS => ?_)
            obtain ⟨i16, q16, c16, d16⟩ := u16
            have hw16 : True ∧ mInv i16 c16 ∧ (∀ k, k ∉ ([15] : List Nat) → i16 k = i3 k) ∧ (∀ k, k ∉ ([14] : List Nat) → c16 k = c3 k) ∧ ((i16 15).toInt = (i3 15).toInt + 1) := hw16
            obtain ⟨hw16, hI, hei16, hec16, hxp16_0⟩ := hw16
            have hxp16_0 : (i16 15).toInt = (i3 15).toInt + 1 := hxp16_0
            have hfi : ∀ k, k ∉ ([15] : List Nat) → i16 k = i k := fr_z hfi hei16 (by decide +kernel) (by decide +kernel)
            have hfc : ∀ k, k ∉ ([14] : List Nat) → c16 k = c k := fr_z hfc hec16 (by decide +kernel) (by decide +kernel)
            have hP : va_P D vwCl (mW o a t i16 q16 c16 d16) H := hP
            have hD : va_D A (mW o a t i16 q16 c16 d16) := hD
            refine lv_aload_n hx hb dX12_isPlaceBarred_52 rfl (lv_at hl 2 rfl) ?_
            refine mget_11 hx hb hts (fun _ h => List.mem_cons_of_mem _ (List.mem_append_right _ h)) hown hK hP (hts (.fieldLink RX12 31 "TalePlayModel" "middle" "[I") (List.mem_cons_of_mem _ (List.mem_append_left _ (List.mem_append_right _ (List.mem_of_getElem? (i := 3) rfl))))) dX12_isPlaceBarred_53 ?_
            refine lv_aload_n hx hb dX12_isPlaceBarred_56 rfl (lv_at hl 2 rfl) ?_
            refine lv_iload hx hb dX12_isPlaceBarred_57 (lv_at hl 0 rfl) ?_
            have rb8_i16 : 0 ≤ (i16 8).toInt ∧ (i16 8).toInt ≤ 200 := hI.1 8
            have re8_i16 : (i16 8).toInt = (i 8).toInt := congrArg Int32.toInt (hfi 8 (by decide +kernel))
            refine ro_calli (va_runV (As := [.int y3_5]) (rest := [.ref (a 11)]) ⟨hx, hb, hml, hown, hts⟩ (s_X12_placing l D H.size o a t i16 q16 c16 d16 y3_5 hI ) (cwV 1 hts gm_X12_isPlaceBarred_X12_placing rfl rfl rfl (by decide +kernel) ⟨Nat.le_of_ble_eq_true rfl, Nat.le_of_ble_eq_true rfl⟩) (pA_V hK hP (ci := 12) (q0 := 0) rfl rfl) rfl rfl hl.1 rfl (lv_room (Nat.le_of_ble_eq_true rfl)) dX12_isPlaceBarred_59 ⟨Nat.le_of_ble_eq_true rfl, Nat.le_of_ble_eq_true rfl⟩) hS hA hP (fun r17 u17 H locs hw17 hP hS => ?_)
            have hw17 : ((r17.toInt = -9 ∨ (0 ≤ r17.toInt ∧ r17.toInt ≤ 199)) ∧ (r17.toInt = pL (c16 9) (c16 10) (c16 13) (i16 8).toInt y3_5.toInt)) := hw17
            obtain ⟨hw17, hr17_0⟩ := hw17
            have hr17_0 : r17.toInt = pL (c 9) (c 10) (c 13) (i 8).toInt y3_5.toInt := by have h9 := hr17_0; rw [show c16 9 = c 9 from hfc 9 (by decide +kernel), show c16 10 = c 10 from hfc 10 (by decide +kernel), show c16 13 = c 13 from hfc 13 (by decide +kernel), show i16 8 = i 8 from hfi 8 (by decide +kernel)] at h9; exact h9
            refine mld_11 hx hb hK hP (vp_in_iff.mpr (by have h9 : r17.toInt = r17.toInt := rfl; omega)) dX12_isPlaceBarred_62 (fun x18 ex18 => ?_)
            have rx18 : 0 ≤ x18.toInt ∧ x18.toInt ≤ 29 := by rw [ex18]; exact hI.2 11 _
            have gx18 : (c 11 (r17 : Int32).toNatClampNeg).toInt = x18.toInt := by rw [ex18, show c16 11 = c 11 from hfc 11 (by decide +kernel)]
            refine lv_istore (lv' := [(5, .int x18), (4, .int r1), (0, .ref o), (1, .int f), (2, .int w1), (3, .int w2)]) hx hb dX12_isPlaceBarred_63 hl (by decide +kernel) rfl (fun ls hl => ?_)
            have hfx : fP (c 9) (c 10) (c 11) (c 13) (i 8).toInt y3_5.toInt = x18.toInt := fP_at (by omega) hr17_0 (by omega) gx18
            have hrx := hrk.2 y3_5.toInt (by omega) (by omega) (by rw [hfx]; omega)
            rw [hfx] at hrx
            refine lv_goto (tgt := 25) hx hb dX12_isPlaceBarred_65 (by decide +kernel) ?_
            exact ih3 i16 q16 c16 d16 x18 hI (fr_w hfi (by decide +kernel)) (fr_w hfc (by decide +kernel)) (show 0 ≤ x18.toInt ∧ x18.toInt ≤ 29 from by omega) (show ((i16 15) : Int32).toInt + (rk x18.toInt : Int) ≤ 29 from by omega) (show Ch (fP (c 9) (c 10) (c 11) (c 13) (i 8).toInt) w2.toInt w1.toInt ↔ Ch (fP (c 9) (c 10) (c 11) (c 13) (i 8).toInt) x18.toInt w1.toInt from hz3_1.trans (by rw [Ch_nx (f := fP (c 9) (c 10) (c 11) (c 13) (i 8).toInt) (x := y3_5.toInt) (by omega), hfx])) (by omega) _ _ _ hP hD hS (lv_sub hl [0, 1, 2, 3, 4, 5] rfl)
    exact lp3 _ i q c d w2 hI (fr_w hfi (by decide +kernel)) (fr_w hfc (by decide +kernel)) (show 0 ≤ w2.toInt ∧ w2.toInt ≤ 29 from by omega) (show ((i 15) : Int32).toInt + (rk w2.toInt : Int) ≤ 29 from by omega) (show Ch (fP (c 9) (c 10) (c 11) (c 13) (i 8).toInt) w2.toInt w1.toInt ↔ Ch (fP (c 9) (c 10) (c 11) (c 13) (i 8).toInt) w2.toInt w1.toInt from Iff.rfl) (Nat.lt_succ_self _) _ _ _ hP hD hS (lv_sub hl [0, 1, 2, 3, 4, 5] rfl)
  · have f2 := mt (ti_eq (a := r1.toInt) (b := (-9)) rfl (by decide +kernel)).mpr c2
    refine lv_aload_n hx hb dX12_isPlaceBarred_14 rfl (lv_at hl 1 rfl) ?_
    refine lv_iload hx hb dX12_isPlaceBarred_15 (lv_at hl 0 rfl) ?_
    have rb15_i : 0 ≤ (i 15).toInt ∧ (i 15).toInt ≤ 200 := hI.1 15
    refine al_callv (va_runV (As := [.int r1]) (rest := []) ⟨hx, hb, hml, hown, hts⟩ (s_X12_clashes l D H.size o a t i q c d r1 hI (show 0 ≤ r1.toInt ∧ r1.toInt ≤ 199 from by omega) (show ((i 15) : Int32).toInt ≤ 199 from by omega)) (cwV 1 hts gm_X12_isPlaceBarred_X12_clashes rfl rfl rfl (by decide +kernel) ⟨Nat.le_of_ble_eq_true rfl, Nat.le_of_ble_eq_true rfl⟩) (pB_V hK hP hD (ci := 12) (q0 := 0) rfl rfl) rfl rfl hl.1 rfl (lv_room (Nat.le_of_ble_eq_true rfl)) dX12_isPlaceBarred_17 ⟨Nat.le_of_ble_eq_true rfl, Nat.le_of_ble_eq_true rfl⟩) hS hA hP hD (fun u19 H locs hw19 hP hD hS => ?_)
    obtain ⟨i19, q19, c19, d19⟩ := u19
    have hw19 : True ∧ mInv i19 c19 ∧ (∀ k, k ∉ ([15] : List Nat) → i19 k = i k) ∧ (∀ k, k ∉ ([14] : List Nat) → c19 k = c k) ∧ ((i19 15).toInt = (i 15).toInt + 1) := hw19
    obtain ⟨hw19, hI, hei19, hec19, hxp19_0⟩ := hw19
    have hxp19_0 : (i19 15).toInt = (i 15).toInt + 1 := hxp19_0
    have hfi : ∀ k, k ∉ ([15] : List Nat) → i19 k = i k := fr_z hfi hei19 (by decide +kernel) (by decide +kernel)
    have hfc : ∀ k, k ∉ ([14] : List Nat) → c19 k = c k := fr_z hfc hec19 (by decide +kernel) (by decide +kernel)
    have hP : va_P D vwCl (mW o a t i19 q19 c19 d19) H := hP
    have hD : va_D A (mW o a t i19 q19 c19 d19) := hD
    refine lv_iconst (v := 1) hx hb dX12_isPlaceBarred_20 (by decide +kernel) ?_
    exact rw_zret (i19, q19, c19, d19) hx hb hr hlocks hS (hK.sub (tys' := []) [] rfl) hP hD rfl dX12_isPlaceBarred_21 ⟨⟨(show 0 ≤ (1 : Int32).toInt ∧ (1 : Int32).toInt ≤ 1 from by decide +kernel), (show Sm (1 : Int32) (PbM (c 9) (c 10) (c 11) (c 12) (c 13) (i 8).toInt f.toInt w1.toInt w2.toInt) from sm_1 (Or.inl (by omega)))⟩, hI, fr_w hfi (by decide +kernel), fr_w hfc (by decide +kernel)⟩

