/-! sentences of both sides -/
/-- the sort of an object by its kinds -/
noncomputable def kS (pa ko : Nat → Int32) (o : Int) : Int :=
  @ite _ (Kd pa ko o 0) (Classical.propDecidable _) 0 (@ite _ (Kd pa ko o 2) (Classical.propDecidable _) 2 (@ite _ (Kd pa ko o 3) (Classical.propDecidable _) 3 (@ite _ (Kd pa ko o 4) (Classical.propDecidable _) 4 (@ite _ (Kd pa ko o 5) (Classical.propDecidable _) 5 1))))
theorem kS_c {pa ko : Nat → Int32} {o : Int} : (kS pa ko o = 0 ∧ Kd pa ko o 0) ∨ (kS pa ko o = 2 ∧ Kd pa ko o 2) ∨ (kS pa ko o = 3 ∧ Kd pa ko o 3) ∨ (kS pa ko o = 4 ∧ Kd pa ko o 4) ∨ (kS pa ko o = 5 ∧ Kd pa ko o 5) ∨ (kS pa ko o = 1 ∧ ¬ Kd pa ko o 0 ∧ ¬ Kd pa ko o 2 ∧ ¬ Kd pa ko o 3 ∧ ¬ Kd pa ko o 4 ∧ ¬ Kd pa ko o 5) := by
  unfold kS
  by_cases a0 : Kd pa ko o 0
  · rw [if_pos a0]; exact Or.inl ⟨rfl, a0⟩
  · rw [if_neg a0]
    by_cases a2 : Kd pa ko o 2
    · rw [if_pos a2]; exact Or.inr (Or.inl ⟨rfl, a2⟩)
    · rw [if_neg a2]
      by_cases a3 : Kd pa ko o 3
      · rw [if_pos a3]; exact Or.inr (Or.inr (Or.inl ⟨rfl, a3⟩))
      · rw [if_neg a3]
        by_cases a4 : Kd pa ko o 4
        · rw [if_pos a4]; exact Or.inr (Or.inr (Or.inr (Or.inl ⟨rfl, a4⟩)))
        · rw [if_neg a4]
          by_cases a5 : Kd pa ko o 5
          · rw [if_pos a5]; exact Or.inr (Or.inr (Or.inr (Or.inr (Or.inl ⟨rfl, a5⟩))))
          · rw [if_neg a5]; exact Or.inr (Or.inr (Or.inr (Or.inr (Or.inr ⟨rfl, a0, a2, a3, a4, a5⟩))))
theorem kS_r {pa ko : Nat → Int32} {o : Int} : 0 ≤ kS pa ko o ∧ kS pa ko o ≤ 5 := by
  rcases kS_c (pa := pa) (ko := ko) (o := o) with h | h | h | h | h | h <;> omega
theorem kS_e {pa ko : Nat → Int32} {o k : Int} (h6 : K6 pa) (ht : Kd pa ko o 0 ∨ Kd pa ko o 1) (hk : 0 ≤ k ∧ k ≤ 5) : Kd pa ko o k ↔ (kS pa ko o = k ∨ (k = 1 ∧ 1 < kS pa ko o)) := by
  have n0 : ∀ a : Int, 1 ≤ a → a ≤ 5 → Kd pa ko o a → ¬ Kd pa ko o 0 := fun a h1 h5 q => by
    by_cases e : a = 1
    · rw [e] at q; exact Kd_10 h6 q
    · exact Kd_10 h6 (Kd_a1 h6 (by omega) q)
  have nb : ∀ a b : Int, 2 ≤ a → a ≤ 5 → 2 ≤ b → b ≤ 5 → ¬ a = b → Kd pa ko o a → ¬ Kd pa ko o b := fun a b h1 h2 h3 h4 e q => Kd_ab h6 ⟨h1, h2⟩ ⟨h3, h4⟩ e q
  rcases kS_c (pa := pa) (ko := ko) (o := o) with ⟨e, q⟩ | ⟨e, q⟩ | ⟨e, q⟩ | ⟨e, q⟩ | ⟨e, q⟩ | ⟨e, q0, q2, q3, q4, q5⟩
  · rw [e]
    constructor
    · intro w
      by_cases z : k = 0
      · exact Or.inl z.symm
      · exact absurd q (n0 k (by omega) (by omega) w)
    · intro w
      rw [show k = 0 by omega]; exact q
  all_goals try
    rw [e]
    constructor
    · intro w
      by_cases z : k = 0
      · rw [z] at w; exact absurd w (n0 _ (by omega) (by omega) q)
      · by_cases y : k = 1
        · exact Or.inr ⟨y, by omega⟩
        · by_cases x : 2 = k ∨ 3 = k ∨ 4 = k ∨ 5 = k
          · first
              | exact Or.inl (Decidable.byContradiction fun x2 => absurd w (nb _ _ (by omega) (by omega) (by omega) (by omega) x2 q))
          · exfalso; omega
    · intro w
      rcases w with w | w
      · rw [← w]; exact q
      · rw [w.1]; exact Kd_a1 h6 (by omega) q
  rw [e]
  constructor
  · intro w
    rcases (show k = 0 ∨ k = 1 ∨ k = 2 ∨ k = 3 ∨ k = 4 ∨ k = 5 by omega) with z | z | z | z | z | z <;> subst z
    · exact absurd w q0
    · exact Or.inl rfl
    · exact absurd w q2
    · exact absurd w q3
    · exact absurd w q4
    · exact absurd w q5
  · intro w
    rw [show k = 1 by omega]; exact ht.resolve_left q0
theorem Kd_tot {i : Nat → Int32} {c : Nat → Nat → Int32} (hI : mInv i c) (o : Int) : Kd (c 3) (c 6) o 0 ∨ Kd (c 3) (c 6) o 1 := by
  have h6 := K6_of hI
  have st : ∀ m k : Nat, k ≤ m → k ≤ 23 → Ch (kF (c 3)) (k : Int) 0 ∨ Ch (kF (c 3)) (k : Int) 1 := by
    intro m
    induction m with
    | zero => intro k h1 _; rw [show k = 0 by omega]; exact Or.inl Ch_rf
    | succ m ih =>
      intro k h1 h2
      have q : ((k : Int) ≤ 1 ∧ (c 3 k).toInt = -9) ∨ (2 ≤ (k : Int) ∧ (k : Int) ≤ 5 ∧ (c 3 k).toInt = 1) ∨ (6 ≤ (k : Int) ∧ 0 ≤ (c 3 k).toInt ∧ (c 3 k).toInt ≤ 23 ∧ (c 3 k).toInt < (k : Int)) := hI.2 3 k
      have e : kF (c 3) (k : Int) = (c 3 k).toInt := by rw [kF_in (by omega) (by omega), show ((k : Int)).toNat = k by omega]
      rcases q with q | q | q
      · by_cases z : k = 0
        · rw [z]; exact Or.inl Ch_rf
        · rw [show k = 1 by omega]; exact Or.inr Ch_rf
      · exact Or.inr (Ch_up (by rw [e, q.2.2]; exact Ch_rf))
      · have w := ih (c 3 k).toInt.toNat (by omega) (by omega)
        rw [show (((c 3 k).toInt.toNat : Nat) : Int) = (c 3 k).toInt by omega, ← e] at w
        rcases w with w | w
        · exact Or.inl (Ch_up w)
        · exact Or.inr (Ch_up w)
  have r : 0 ≤ (c 6 o.toNat).toInt ∧ (c 6 o.toNat).toInt ≤ 23 := hI.2 6 o.toNat
  have w := st 23 (c 6 o.toNat).toInt.toNat (by omega) (by omega)
  rw [show (((c 6 o.toNat).toInt.toNat : Nat) : Int) = (c 6 o.toNat).toInt by omega] at w
  exact w
theorem kS_sm {i : Nat → Int32} {c : Nat → Nat → Int32} {r : Int32} {o k : Int} (hI : mInv i c) (hk : 0 ≤ k ∧ k ≤ 5) (h : Sm r (Kd (c 3) (c 6) o k)) : 0 ≤ kS (c 3) (c 6) o ∧ kS (c 3) (c 6) o ≤ 5 ∧ ((r.toInt = 1 ∧ (kS (c 3) (c 6) o = k ∨ ((1 : Int) = k ∧ 1 < kS (c 3) (c 6) o))) ∨ (r.toInt = 0 ∧ ¬ (kS (c 3) (c 6) o = k ∨ ((1 : Int) = k ∧ 1 < kS (c 3) (c 6) o)))) := by
  have e := kS_e (k := k) (K6_of hI) (Kd_tot hI o) hk
  refine ⟨kS_r.1, kS_r.2, ?_⟩
  rcases h with ⟨a, b⟩ | ⟨a, b⟩
  · exact Or.inl ⟨a, by have := e.mp b; omega⟩
  · exact Or.inr ⟨a, fun q => b (e.mpr (by omega))⟩
/-- what may stand left, right -/
def FtL (f s b : Int) : Prop := (f ≤ 1 ∧ (s = 1 ∨ 3 ≤ s)) ∨ (f = 5 ∧ s = 0) ∨ (f = 6 ∧ ((b ≤ 1 ∧ (s = 2 ∨ s = 3)) ∨ b = 2 ∨ (b = 3 ∧ (s = 1 ∨ 3 ≤ s)) ∨ (b = 4 ∧ (s = 1 ∨ 3 ≤ s) ∧ ¬ s = 5) ∨ (5 ≤ b ∧ s = 3))) ∨ ((2 ≤ f ∧ f ≤ 4 ∨ f = 7) ∧ (s = 1 ∨ 3 ≤ s) ∧ ¬ s = 5)
def FtR (f s : Int) : Prop := (f = 0 ∧ (s = 0 ∨ s = 3)) ∨ (f = 1 ∧ s = 4) ∨ ((f = 2 ∨ f = 3) ∧ s = 5) ∨ (f = 4 ∧ ¬ s = 0) ∨ (f = 5 ∧ (s = 0 ∨ s = 2)) ∨ f = 6 ∨ (f = 7 ∧ (s = 2 ∨ s = 3))
theorem FtL_0 {f s b : Int} (hf : f = 0) : FtL f s b ↔ (s = 1 ∨ 3 ≤ s) := by
  subst hf
  constructor
  · intro h
    rcases h with h | h | h | h <;> first | exact h.2 | (exfalso; omega)
  · intro h
    exact Or.inl ⟨by omega, h⟩
theorem FtL_1 {f s b : Int} (hf : f = 1) : FtL f s b ↔ (s = 1 ∨ 3 ≤ s) := by
  subst hf
  constructor
  · intro h
    rcases h with h | h | h | h <;> first | exact h.2 | (exfalso; omega)
  · intro h
    exact Or.inl ⟨by omega, h⟩
theorem FtL_2 {f s b : Int} (hf : f = 2) : FtL f s b ↔ ((s = 1 ∨ 3 ≤ s) ∧ ¬ s = 5) := by
  subst hf
  constructor
  · intro h
    rcases h with h | h | h | h <;> first | exact h.2 | (exfalso; omega)
  · intro h
    exact Or.inr (Or.inr (Or.inr ⟨by omega, h⟩))
theorem FtL_3 {f s b : Int} (hf : f = 3) : FtL f s b ↔ ((s = 1 ∨ 3 ≤ s) ∧ ¬ s = 5) := by
  subst hf
  constructor
  · intro h
    rcases h with h | h | h | h <;> first | exact h.2 | (exfalso; omega)
  · intro h
    exact Or.inr (Or.inr (Or.inr ⟨by omega, h⟩))
theorem FtL_4 {f s b : Int} (hf : f = 4) : FtL f s b ↔ ((s = 1 ∨ 3 ≤ s) ∧ ¬ s = 5) := by
  subst hf
  constructor
  · intro h
    rcases h with h | h | h | h <;> first | exact h.2 | (exfalso; omega)
  · intro h
    exact Or.inr (Or.inr (Or.inr ⟨by omega, h⟩))
theorem FtL_5 {f s b : Int} (hf : f = 5) : FtL f s b ↔ s = 0 := by
  subst hf
  constructor
  · intro h
    rcases h with h | h | h | h <;> first | exact h.2 | (exfalso; omega)
  · intro h
    exact Or.inr (Or.inl ⟨rfl, h⟩)
theorem FtL_6 {f s b : Int} (hf : f = 6) : FtL f s b ↔ ((b ≤ 1 ∧ (s = 2 ∨ s = 3)) ∨ b = 2 ∨ (b = 3 ∧ (s = 1 ∨ 3 ≤ s)) ∨ (b = 4 ∧ (s = 1 ∨ 3 ≤ s) ∧ ¬ s = 5) ∨ (5 ≤ b ∧ s = 3)) := by
  subst hf
  constructor
  · intro h
    rcases h with h | h | h | h <;> first | exact h.2 | (exfalso; omega)
  · intro h
    exact Or.inr (Or.inr (Or.inl ⟨rfl, h⟩))
theorem FtL_7 {f s b : Int} (hf : f = 7) : FtL f s b ↔ ((s = 1 ∨ 3 ≤ s) ∧ ¬ s = 5) := by
  subst hf
  constructor
  · intro h
    rcases h with h | h | h | h <;> first | exact h.2 | (exfalso; omega)
  · intro h
    exact Or.inr (Or.inr (Or.inr ⟨by omega, h⟩))
theorem FtR_0 {f s : Int} (hf : f = 0) : FtR f s ↔ (s = 0 ∨ s = 3) := by
  subst hf
  constructor
  · intro h
    rcases h with h | h | h | h | h | h | h <;> first | exact h.2 | (exfalso; omega)
  · intro h
    exact Or.inl ⟨rfl, h⟩
theorem FtR_1 {f s : Int} (hf : f = 1) : FtR f s ↔ s = 4 := by
  subst hf
  constructor
  · intro h
    rcases h with h | h | h | h | h | h | h <;> first | exact h.2 | (exfalso; omega)
  · intro h
    exact Or.inr (Or.inl ⟨rfl, h⟩)
theorem FtR_2 {f s : Int} (hf : f = 2) : FtR f s ↔ s = 5 := by
  subst hf
  constructor
  · intro h
    rcases h with h | h | h | h | h | h | h <;> first | exact h.2 | (exfalso; omega)
  · intro h
    exact Or.inr (Or.inr (Or.inl ⟨by omega, h⟩))
theorem FtR_3 {f s : Int} (hf : f = 3) : FtR f s ↔ s = 5 := by
  subst hf
  constructor
  · intro h
    rcases h with h | h | h | h | h | h | h <;> first | exact h.2 | (exfalso; omega)
  · intro h
    exact Or.inr (Or.inr (Or.inl ⟨by omega, h⟩))
theorem FtR_4 {f s : Int} (hf : f = 4) : FtR f s ↔ ¬ s = 0 := by
  subst hf
  constructor
  · intro h
    rcases h with h | h | h | h | h | h | h <;> first | exact h.2 | (exfalso; omega)
  · intro h
    exact Or.inr (Or.inr (Or.inr (Or.inl ⟨rfl, h⟩)))
theorem FtR_5 {f s : Int} (hf : f = 5) : FtR f s ↔ (s = 0 ∨ s = 2) := by
  subst hf
  constructor
  · intro h
    rcases h with h | h | h | h | h | h | h <;> first | exact h.2 | (exfalso; omega)
  · intro h
    exact Or.inr (Or.inr (Or.inr (Or.inr (Or.inl ⟨rfl, h⟩))))
theorem FtR_7 {f s : Int} (hf : f = 7) : FtR f s ↔ (s = 2 ∨ s = 3) := by
  subst hf
  constructor
  · intro h
    rcases h with h | h | h | h | h | h | h <;> first | exact h.2 | (exfalso; omega)
  · intro h
    exact Or.inr (Or.inr (Or.inr (Or.inr (Or.inr (Or.inr ⟨rfl, h⟩)))))
theorem FtR_6 {f s : Int} (hf : f = 6) : FtR f s ↔ True := by
  subst hf
  exact ⟨fun _ => trivial, fun _ => Or.inr (Or.inr (Or.inr (Or.inr (Or.inr (Or.inl rfl)))))⟩
def Fit (f s b z : Int) : Prop := FtL f s b ∧ (f = 6 ∨ FtR f z)
theorem Fit_0 {f s b z : Int} (hf : f = 0) : Fit f s b z ↔ ((s = 1 ∨ 3 ≤ s) ∧ (z = 0 ∨ z = 3)) :=
  ⟨fun h => ⟨(FtL_0 hf).mp h.1, (FtR_0 hf).mp (h.2.resolve_left (by omega))⟩, fun h => ⟨(FtL_0 hf).mpr h.1, Or.inr ((FtR_0 hf).mpr h.2)⟩⟩
theorem Fit_1 {f s b z : Int} (hf : f = 1) : Fit f s b z ↔ ((s = 1 ∨ 3 ≤ s) ∧ z = 4) :=
  ⟨fun h => ⟨(FtL_1 hf).mp h.1, (FtR_1 hf).mp (h.2.resolve_left (by omega))⟩, fun h => ⟨(FtL_1 hf).mpr h.1, Or.inr ((FtR_1 hf).mpr h.2)⟩⟩
theorem Fit_2 {f s b z : Int} (hf : f = 2) : Fit f s b z ↔ (((s = 1 ∨ 3 ≤ s) ∧ ¬ s = 5) ∧ z = 5) :=
  ⟨fun h => ⟨(FtL_2 hf).mp h.1, (FtR_2 hf).mp (h.2.resolve_left (by omega))⟩, fun h => ⟨(FtL_2 hf).mpr h.1, Or.inr ((FtR_2 hf).mpr h.2)⟩⟩
theorem Fit_3 {f s b z : Int} (hf : f = 3) : Fit f s b z ↔ (((s = 1 ∨ 3 ≤ s) ∧ ¬ s = 5) ∧ z = 5) :=
  ⟨fun h => ⟨(FtL_3 hf).mp h.1, (FtR_3 hf).mp (h.2.resolve_left (by omega))⟩, fun h => ⟨(FtL_3 hf).mpr h.1, Or.inr ((FtR_3 hf).mpr h.2)⟩⟩
theorem Fit_4 {f s b z : Int} (hf : f = 4) : Fit f s b z ↔ (((s = 1 ∨ 3 ≤ s) ∧ ¬ s = 5) ∧ ¬ z = 0) :=
  ⟨fun h => ⟨(FtL_4 hf).mp h.1, (FtR_4 hf).mp (h.2.resolve_left (by omega))⟩, fun h => ⟨(FtL_4 hf).mpr h.1, Or.inr ((FtR_4 hf).mpr h.2)⟩⟩
theorem Fit_5 {f s b z : Int} (hf : f = 5) : Fit f s b z ↔ (s = 0 ∧ (z = 0 ∨ z = 2)) :=
  ⟨fun h => ⟨(FtL_5 hf).mp h.1, (FtR_5 hf).mp (h.2.resolve_left (by omega))⟩, fun h => ⟨(FtL_5 hf).mpr h.1, Or.inr ((FtR_5 hf).mpr h.2)⟩⟩
theorem Fit_7 {f s b z : Int} (hf : f = 7) : Fit f s b z ↔ (((s = 1 ∨ 3 ≤ s) ∧ ¬ s = 5) ∧ (z = 2 ∨ z = 3)) :=
  ⟨fun h => ⟨(FtL_7 hf).mp h.1, (FtR_7 hf).mp (h.2.resolve_left (by omega))⟩, fun h => ⟨(FtL_7 hf).mpr h.1, Or.inr ((FtR_7 hf).mpr h.2)⟩⟩
theorem Fit_6 {f s b z : Int} (hf : f = 6) : Fit f s b z ↔ ((b ≤ 1 ∧ (s = 2 ∨ s = 3)) ∨ b = 2 ∨ (b = 3 ∧ (s = 1 ∨ 3 ≤ s)) ∨ (b = 4 ∧ (s = 1 ∨ 3 ≤ s) ∧ ¬ s = 5) ∨ (5 ≤ b ∧ s = 3)) :=
  ⟨fun h => (FtL_6 hf).mp h.1, fun h => ⟨(FtL_6 hf).mpr h, Or.inl hf⟩⟩
def WF (f a b c N : Int) : Prop := 0 ≤ f ∧ f ≤ 7 ∧ 0 ≤ a ∧ a < N ∧ ((f = 6 ∧ 0 ≤ b ∧ b ≤ 5 ∧ 0 ≤ c ∧ c ≤ 1) ∨ (¬ f = 6 ∧ 0 ≤ b ∧ b < N ∧ (¬ f = 5 ∨ (0 ≤ c ∧ c ≤ 9))))
/-- the sentence that stands where such a one would -/
def sFv (pb eb fb kb : Nat → Int32) (f a b c : Int) : Int32 := if f = 5 then eb (a * 10 + c).toNat else if f = 6 then fb (a * 6 + b).toNat else if f = 7 then kb b.toNat else pb a.toNat
def SX (F A B C : Nat → Int32) (v : Int32) (f a b c : Int) : Prop := ¬ v.toInt = -9 ∧ (F v.toNatClampNeg).toInt = f ∧ (A v.toNatClampNeg).toInt = a ∧ (B v.toNatClampNeg).toInt = b ∧ (C v.toNatClampNeg).toInt = c
def SyX (fb C : Nat → Int32) (a g v : Int) : Prop := ¬ (fb (a * 6 + g).toNat).toInt = -9 ∧ (C (fb (a * 6 + g).toNat).toNatClampNeg).toInt = v
/-- where a row of cells lays an object -/
def hF (ce : Nat → Int32) (x : Int) : Int := if 0 ≤ x ∧ x ≤ 29 ∧ ¬ (ce x.toNat).toInt % 256 = 255 then (ce x.toNat).toInt / 8 % 32 else -9
theorem hF_at {ce : Nat → Int32} {x r : Int32} (hx : 0 ≤ x.toInt ∧ x.toInt ≤ 29) (h : (r.toInt = -9 ∧ (ce x.toNatClampNeg).toInt % 256 = 255) ∨ (0 ≤ r.toInt ∧ r.toInt ≤ 29 ∧ ¬ (ce x.toNatClampNeg).toInt % 256 = 255 ∧ r.toInt = (ce x.toNatClampNeg).toInt / 8 % 32)) : hF ce x.toInt = r.toInt := by
  have e : x.toNatClampNeg = x.toInt.toNat := rfl
  rw [e] at h
  unfold hF
  rcases h with ⟨a, b⟩ | ⟨a, b, d, f⟩
  · rw [if_neg (fun q => q.2.2 b), a]
  · rw [if_pos ⟨hx.1, hx.2, d⟩, f]
theorem hF_9 {ce : Nat → Int32} : hF ce (-9) = -9 := if_neg (by omega)
def PlX (ce fb C : Nat → Int32) (f a b : Int) : Prop := a = b ∨ Ch (hF ce) (hF ce b) a ∨ (f = 3 ∧ SyX fb C a 4 0)
def DP (eb B : Nat → Int32) (a b : Int) (d : Nat) : Prop := ¬ (eb (a * 10 + (d : Int)).toNat).toInt = -9 ∧ (B (eb (a * 10 + (d : Int)).toNat).toNatClampNeg).toInt = b
def EB (F B S : Nat → Int32) (b : Int) (s : Nat) : Prop := (S s).toInt = 1 ∧ (F s).toInt = 5 ∧ (B s).toInt = b
def Two (P : Nat → Prop) (m : Int) : Prop := ∃ s1 s2 : Nat, s1 < s2 ∧ (s2 : Int) < m ∧ P s1 ∧ P s2
/-- k: none, one, or two and more of those below m -/
def CN (P : Nat → Prop) (m k : Int) : Prop := (k = 0 ∧ ∀ s : Nat, (s : Int) < m → ¬ P s) ∨ (k = 1 ∧ ∃ s1 : Nat, (s1 : Int) < m ∧ P s1 ∧ ∀ s : Nat, (s : Int) < m → P s → s = s1) ∨ (2 ≤ k ∧ Two P m)
theorem CN_0 {P : Nat → Prop} {m k : Int} (h : m = 0) (hk : k = 0) : CN P m k := Or.inl ⟨hk, fun s hs => by omega⟩
theorem CN_n {P : Nat → Prop} {x y : Int32} {k : Int} (h : CN P x.toInt k) (hx : 0 ≤ x.toInt) (hp : ¬ P x.toNatClampNeg) (hy : y.toInt = x.toInt + 1) : CN P y.toInt k := by
  have e : x.toNatClampNeg = x.toInt.toNat := rfl
  have no : ∀ s : Nat, (s : Int) < y.toInt → P s → (s : Int) < x.toInt := fun s hs q => by
    by_cases z : s = x.toNatClampNeg
    · rw [z] at q; exact absurd q hp
    · omega
  rcases h with ⟨a, b⟩ | ⟨a, s1, b, d, f⟩ | ⟨a, s1, s2, b, d, f, g⟩
  · exact Or.inl ⟨a, fun s hs q => b s (no s hs q) q⟩
  · exact Or.inr (Or.inl ⟨a, s1, by omega, d, fun s hs q => f s (no s hs q) q⟩)
  · exact Or.inr (Or.inr ⟨a, s1, s2, b, by omega, f, g⟩)
theorem CN_y {P : Nat → Prop} {x y : Int32} {k k2 : Int} (h : CN P x.toInt k) (hx : 0 ≤ x.toInt) (hp : P x.toNatClampNeg) (hy : y.toInt = x.toInt + 1) (hk : k2 = k + 1 ∨ (2 ≤ k ∧ k2 = k)) : CN P y.toInt k2 := by
  have e : x.toNatClampNeg = x.toInt.toNat := rfl
  rcases h with ⟨a, b⟩ | ⟨a, s1, b, d, f⟩ | ⟨a, s1, s2, b, d, f, g⟩
  · exact Or.inr (Or.inl ⟨by omega, x.toNatClampNeg, by omega, hp, fun s hs q => by
      by_cases z : s = x.toNatClampNeg
      · exact z
      · exact absurd q (b s (by omega))⟩)
  · exact Or.inr (Or.inr ⟨by omega, s1, x.toNatClampNeg, by omega, by omega, d, hp⟩)
  · exact Or.inr (Or.inr ⟨by omega, s1, s2, b, by omega, f, g⟩)
theorem CN_2 {P : Nat → Prop} {m k : Int} (h : CN P m k) (hk : 2 ≤ k) : Two P m := by
  rcases h with ⟨a, b⟩ | ⟨a, b⟩ | ⟨a, b⟩
  · exfalso; omega
  · exfalso; omega
  · exact b
theorem CN_1 {P : Nat → Prop} {m k : Int} (h : CN P m k) (hk : ¬ 2 ≤ k) : ¬ Two P m := by
  rintro ⟨s1, s2, q1, q2, p1, p2⟩
  rcases h with ⟨a, b⟩ | ⟨a, s, b, d, f⟩ | ⟨a, b⟩
  · exact b s2 q2 p2
  · have e1 := f s1 (by omega) p1
    have e2 := f s2 q2 p2
    omega
  · exact hk a
theorem CN_p {P : Nat → Prop} {m k : Int} (h : CN P m k) (hk : ¬ k = 0) : ∃ s : Nat, (s : Int) < m ∧ P s := by
  rcases h with ⟨a, b⟩ | ⟨a, s, b, d, f⟩ | ⟨a, s1, s2, b, d, f, g⟩
  · exact absurd a hk
  · exact ⟨s, b, d⟩
  · exact ⟨s2, d, g⟩
theorem CN_z {P : Nat → Prop} {m k : Int} (h : CN P m k) (hk : k = 0) : ¬ ∃ s : Nat, (s : Int) < m ∧ P s := by
  rintro ⟨s, q, p⟩
  rcases h with ⟨a, b⟩ | ⟨a, s, b, d, f⟩ | ⟨a, s1, s2, b, d, f, g⟩
  · exact b s q p
  · omega
  · omega
def DoX (eb F B S : Nat → Int32) (n a b : Int) : Prop := (∃ d : Nat, (d : Int) < 10 ∧ DP eb B a b d) ∨ Two (EB F B S b) n
def FlX (pb fb C ce : Nat → Int32) (a g v : Int) : Prop := (g = 0 ∧ v = 1 ∧ SyX fb C a 1 1) ∨ (g = 1 ∧ v = 1 ∧ SyX fb C a 0 1) ∨ (g = 4 ∧ v = 0 ∧ ¬ (ce a.toNat).toInt % 256 = 255 ∧ (ce a.toNat).toInt % 8 = 3 ∧ ¬ (pb a.toNat).toInt = -9)
def ClX (F B C S pb eb fb kb ce : Nat → Int32) (n z f a b c : Int) : Prop := ¬ (sFv pb eb fb kb f a b c).toInt = -9 ∨ (f = 5 ∧ z = 2 ∧ DoX eb F B S n a b) ∨ (f = 6 ∧ FlX pb fb C ce a b c) ∨ (f < 5 ∧ PlX ce fb C f a b)
/-- by which number is what a sentence speaks of -/
def PT (pb eb fb kb ce pb2 eb2 fb2 kb2 ce2 : Nat → Int32) (f a b c : Int) (v : Int32) : Prop :=
  (f = 5 ∧ eb2 = upd eb (a * 10 + c).toNat v ∧ pb2 = pb ∧ fb2 = fb ∧ kb2 = kb ∧ ce2 = ce) ∨ (f = 6 ∧ fb2 = upd fb (a * 6 + b).toNat v ∧ pb2 = pb ∧ eb2 = eb ∧ kb2 = kb ∧ ce2 = ce) ∨ (f = 7 ∧ kb2 = upd kb b.toNat v ∧ pb2 = pb ∧ eb2 = eb ∧ fb2 = fb ∧ ce2 = ce)
  ∨ (f < 5 ∧ pb2 = upd pb a.toNat v ∧ eb2 = eb ∧ fb2 = fb ∧ kb2 = kb ∧ ∃ w : Int32, ce2 = upd ce a.toNat w ∧ ((v.toInt = -9 ∧ w.toInt = 255) ∨ (¬ v.toInt = -9 ∧ w.toInt = b * 8 + f)))
/-- the last number of a sentence as it is kept -/
def lI (f c : Int32) : Int32 := if f.toInt = 5 ∨ f.toInt = 6 then c else 0
theorem lI_y {f c : Int32} (h : f.toInt = 5 ∨ f.toInt = 6) : lI f c = c := if_pos h
theorem lI_n {f c : Int32} (h : ¬ (f.toInt = 5 ∨ f.toInt = 6)) : lI f c = 0 := if_neg h
theorem sm_x {r : Int32} {P : Prop} (h : Sm r P) (c : ¬ r.toInt = 1) : ¬ P := by
  rcases h with h | h
  · exact absurd h.1 c
  · exact h.2
theorem sm_i {r : Int32} {P Q : Prop} (h : Sm r P) (e : P ↔ Q) : Sm r Q := by
  rcases h with h | h
  · exact Or.inl ⟨h.1, e.mp h.2⟩
  · exact Or.inr ⟨h.1, fun q => h.2 (e.mpr q)⟩
def sE (F A B C S : Nat → Int32) (f a b c : Int) (s : Nat) : Prop := (S s).toInt = 1 ∧ (F s).toInt = f ∧ (A s).toInt = a ∧ (B s).toInt = b ∧ (C s).toInt = c
def aP (F A B S : Nat → Int32) (a b : Int) (s : Nat) : Prop := (S s).toInt = 1 ∧ (F s).toInt = 5 ∧ (A s).toInt = a ∧ (B s).toInt = b
def KB (F B S : Nat → Int32) (b : Int) (s : Nat) : Prop := (S s).toInt = 1 ∧ (F s).toInt = 7 ∧ (B s).toInt = b
theorem fsF_x {P : Nat → Prop} {n : Int} : ¬ fsF P n.toNat = -9 ↔ ∃ s : Nat, (s : Int) < n ∧ P s := by
  constructor
  · intro h; have q := fsF_q h; exact ⟨_, q.1, q.2⟩
  · rintro ⟨s, a, b⟩ h; exact fsF_n h a b
def PbM (F A B C S : Nat → Int32) (n f a b : Int) : Prop := ¬ pL F A S n a = -9 ∨ Ch (fP F A B S n) b a ∨ (f = 3 ∧ ¬ fsF (sE F A B C S 6 a 4 0) n.toNat = -9)
def XbM (F A B C S : Nat → Int32) (n z a b c : Int) : Prop := ¬ fsF (bP F A C S a c) n.toNat = -9 ∨ (z = 2 ∧ (¬ fsF (aP F A B S a b) n.toNat = -9 ∨ Two (EB F B S b) n))
def FbM (F A B C S : Nat → Int32) (n a b c : Int) : Prop := ¬ fsF (sE F A B C S 6 a b (1 - c)) n.toNat = -9 ∨ (c = 1 ∧ (b = 0 ∨ b = 1) ∧ ¬ fsF (sE F A B C S 6 a (1 - b) 1) n.toNat = -9) ∨ (b = 4 ∧ c = 0 ∧ ¬ pL F A S n a = -9 ∧ (F (pL F A S n a).toNat).toInt = 3)
def BaM (F A B C S : Nat → Int32) (n z f a b c : Int) : Prop := (f < 5 ∧ PbM F A B C S n f a b) ∨ (f = 5 ∧ XbM F A B C S n z a b c) ∨ (f = 6 ∧ FbM F A B C S n a b c) ∨ (f = 7 ∧ ∃ s : Nat, (s : Int) < n ∧ KB F B S b s)
theorem Ba_4 {F A B C S : Nat → Int32} {n z f a b c : Int} (h : f < 5) : PbM F A B C S n f a b ↔ BaM F A B C S n z f a b c :=
  ⟨fun q => Or.inl ⟨h, q⟩, fun q => by rcases q with q | q | q | q; exact q.2; (exfalso; omega); (exfalso; omega); (exfalso; omega)⟩
theorem Ba_5 {F A B C S : Nat → Int32} {n z f a b c : Int} (h : f = 5) : XbM F A B C S n z a b c ↔ BaM F A B C S n z f a b c :=
  ⟨fun q => Or.inr (Or.inl ⟨h, q⟩), fun q => by rcases q with q | q | q | q; (exfalso; omega); exact q.2; (exfalso; omega); (exfalso; omega)⟩
theorem Ba_6 {F A B C S : Nat → Int32} {n z f a b c : Int} (h : f = 6) : FbM F A B C S n a b c ↔ BaM F A B C S n z f a b c :=
  ⟨fun q => Or.inr (Or.inr (Or.inl ⟨h, q⟩)), fun q => by rcases q with q | q | q | q; (exfalso; omega); (exfalso; omega); exact q.2; (exfalso; omega)⟩
theorem Ba_7 {F A B C S : Nat → Int32} {n z f a b c : Int} (h : f = 7) : (∃ s : Nat, (s : Int) < n ∧ KB F B S b s) ↔ BaM F A B C S n z f a b c :=
  ⟨fun q => Or.inr (Or.inr (Or.inr ⟨h, q⟩)), fun q => by rcases q with q | q | q | q; (exfalso; omega); (exfalso; omega); (exfalso; omega); exact q.2⟩
/-- what a sentence said does to the rows -/
def SyW (Q : Prop) (F A B C S F2 A2 B2 C2 S2 : Nat → Int32) (n n2 f a b l : Int32) : Prop := (¬ Q ∧ F2 = F ∧ A2 = A ∧ B2 = B ∧ C2 = C ∧ S2 = S ∧ n2.toInt = n.toInt) ∨ (Q ∧ F2 = upd F n.toNatClampNeg f ∧ A2 = upd A n.toNatClampNeg a ∧ B2 = upd B n.toNatClampNeg b ∧ C2 = upd C n.toNatClampNeg l ∧ S2 = upd S n.toNatClampNeg 1 ∧ n2.toInt = n.toInt + 1)
def AcM (F A B C S : Nat → Int32) (n N z y f a b c l : Int) : Prop := WF f a b c N ∧ Fit f z b y ∧ fsF (sE F A B C S f a b l) n.toNat = -9 ∧ n ≤ 199 ∧ ¬ BaM F A B C S n y f a b l
def AcX (F A B C S pb eb fb kb ce : Nat → Int32) (n N z y f a b c l : Int) : Prop := WF f a b c N ∧ Fit f z b y ∧ ¬ SX F A B C (sFv pb eb fb kb f a b l) f a b l ∧ n ≤ 199 ∧ ¬ ClX F B C S pb eb fb kb ce n y f a b l
theorem FF_of {i : Nat → Int32} {c : Nat → Nat → Int32} {f a b : Int} (hI : mInv i c) (h : Fit f (kS (c 3) (c 6) a) b (kS (c 3) (c 6) b)) : Im (f < 5) (¬ Kd (c 3) (c 6) a 0) ∧ Im (f = 5) (Kd (c 3) (c 6) a 0 ∧ (Kd (c 3) (c 6) b 0 ∨ Kd (c 3) (c 6) b 2)) := by
  have e0 := kS_e (k := 0) (K6_of hI) (Kd_tot hI a) (by omega)
  have e1 := kS_e (k := 0) (K6_of hI) (Kd_tot hI b) (by omega)
  have e2 := kS_e (k := 2) (K6_of hI) (Kd_tot hI b) (by omega)
  unfold Fit FtL FtR at h
  refine ⟨fun q w => ?_, fun q => ⟨e0.mpr (by omega), ?_⟩⟩
  · have := e0.mp w; omega
  · by_cases z : kS (c 3) (c 6) b = 0
    · exact Or.inl (e1.mpr (Or.inl z))
    · exact Or.inr (e2.mpr (by omega))
def PtW (Q : Prop) (pb eb fb kb ce pb2 eb2 fb2 kb2 ce2 : Nat → Int32) (f a b c : Int) (v : Int32) : Prop := (¬ Q ∧ pb2 = pb ∧ eb2 = eb ∧ fb2 = fb ∧ kb2 = kb ∧ ce2 = ce) ∨ (Q ∧ PT pb eb fb kb ce pb2 eb2 fb2 kb2 ce2 f a b c v)
def UnQ (S : Nat → Int32) (n s : Int32) : Prop := 0 ≤ s.toInt ∧ s.toInt < n.toInt ∧ (S s.toNatClampNeg).toInt = 1
def UnW (S S2 : Nat → Int32) (n s : Int32) : Prop := (¬ UnQ S n s ∧ S2 = S) ∨ (UnQ S n s ∧ S2 = upd S s.toNatClampNeg 0)

def SoR (pa so : Nat → Int32) (kn : Int32) : Prop := ∀ k : Nat, (k : Int) < kn.toInt → ∀ c : Int, 0 ≤ c → c ≤ 5 → (Ch (kF pa) (k : Int) c ↔ ((so k).toInt = c ∨ (c = 1 ∧ 1 < (so k).toInt)))
def KS (a b : Nat → Int32) (k kn : Int32) : Prop := (¬ (0 ≤ k.toInt ∧ k.toInt < kn.toInt ∧ kn.toInt ≤ 23) ∧ b = a) ∨ (0 ≤ k.toInt ∧ k.toInt < kn.toInt ∧ kn.toInt ≤ 23 ∧ b = upd a kn.toNatClampNeg (a k.toNatClampNeg))
def KU (a b : Nat → Int32) (k kn : Int32) : Prop := (¬ (0 ≤ k.toInt ∧ k.toInt < kn.toInt ∧ kn.toInt ≤ 23) ∧ b = a) ∨ (0 ≤ k.toInt ∧ k.toInt < kn.toInt ∧ kn.toInt ≤ 23 ∧ b = upd a kn.toNatClampNeg k)
def OU (a b : Nat → Int32) (k s1 kn ob : Int32) : Prop := (¬ (0 ≤ k.toInt ∧ k.toInt < kn.toInt ∧ 0 ≤ s1.toInt ∧ s1.toInt ≤ 99 ∧ ob.toInt ≤ 29) ∧ b = a) ∨ (0 ≤ k.toInt ∧ k.toInt < kn.toInt ∧ 0 ≤ s1.toInt ∧ s1.toInt ≤ 99 ∧ ob.toInt ≤ 29 ∧ b = upd a ob.toNatClampNeg k)
def PD (pa : Nat → Int32) : Prop := ∀ j : Nat, (pa j).toInt = -9 ∨ (0 ≤ (pa j).toInt ∧ (pa j).toInt < (j : Int))
def IsR (pa ko : Nat → Int32) (w k : Int32) (ob kn : Int) (r : Int32) : Prop := (¬ (0 ≤ w.toInt ∧ w.toInt < ob ∧ 0 ≤ k.toInt ∧ k.toInt < kn) ∧ r.toInt = -1) ∨ ((0 ≤ w.toInt ∧ w.toInt < ob ∧ 0 ≤ k.toInt ∧ k.toInt < kn) ∧ Sm r (Kd pa ko w.toInt k.toInt))
theorem sm_fl {r z : Int32} {P : Prop} (h : r = if (¬ z.toInt = 0) then 1 else 0) (hz : Sm z P) : Sm r P := by
  rcases hz with ⟨a, b⟩ | ⟨a, b⟩
  · rw [if_pos (by omega)] at h; subst h; exact sm_1 b
  · rw [if_neg (by omega)] at h; subst h; exact sm_0 b

def StB (k f v : Int32) (kn : Int) : Prop := ¬ (0 ≤ k.toInt ∧ k.toInt < kn) ∨ ¬ (0 ≤ f.toInt ∧ f.toInt ≤ 5) ∨ ¬ (v.toInt = -9 ∨ v.toInt = 0 ∨ v.toInt = 1)
def StU (a b : Nat → Int32) (k f v : Int32) (kn : Int) : Prop := (StB k f v kn ∧ b = a) ∨ (¬ StB k f v kn ∧ b = upd a (k.toInt * 6 + f.toInt).toNat v)
def StR (a : Nat → Int32) (k f v : Int32) (kn : Int) (r : Int32) : Prop := (StB k f v kn ∧ r.toInt = -1) ∨ (¬ StB k f v kn ∧ r = a (k.toInt * 6 + f.toInt).toNat)
theorem cl_t {x : Int32} {a : Int} (e : x.toInt = a) : x.toNatClampNeg = a.toNat := by rw [← e]; rfl

def wm_X10_addKind_e : List Cond := .code yX10_addKind cX10_addKind 2 (some .int) :: (([.fieldLink RX10 9 "TalePlay$World" "parents" "[I", .fieldLink RX10 33 "TalePlay$World" "kinds" "I", .fieldLink RX10 15 "TalePlay$World" "sorts" "[I"] : List Cond) ++ wsX100)
set_option maxHeartbeats 4000000 in
set_option maxRecDepth 100000 in
theorem x_X10_addKind_e (l : Launch) (D : va_G) (sz : Nat) (sk : Value) (a : Nat → Nat) (t : Nat → ClassId) (i : Nat → Int32) (q : Int64) (c : Nat → Nat → Int32) (d : Nat → Nat → Int64) (k1 : Int32) (hI : xInv i c) (hk1 : 0 ≤ k1.toInt ∧ k1.toInt ≤ 23) (hkn : (i 110).toInt ≤ 23) : Met l yX10_addKind wm_X10_addKind_e ({ frames := 0, cells := 0, slots := 0, locals := 0 }) (va_Pc [.ref (a 104), .int k1] (yB (a 186) D sz (xwT sk a t i q c d) (xtT t))) (va_Qi (fun (r : Int32) (u : MS) => (r.toInt = (i 110).toInt) ∧ xInv u.1 u.2.2.1 ∧ (∀ k, k ∉ ([110] : List Nat) → u.1 k = i k) ∧ (∀ k, k ∉ ([105, 106] : List Nat) → u.2.2.1 k = c k) ∧ ((u.1 110).toInt = (i 110).toInt + 1) ∧ ((u.2.2.1 105) = upd (c 105) (i 110).toNatClampNeg k1) ∧ ((u.2.2.1 106) = upd (c 106) (i 110).toNatClampNeg (c 106 k1.toNatClampNeg))) (oC D (va_A (xwT sk a t i q c d) sz) (fun u : MS => xwT sk a t u.1 u.2.1 u.2.2.1 u.2.2.2) (fun _ => [])) (va_A (xwT sk a t i q c d) sz)) 0 0 (va_A (xwT sk a t i q c d) sz) := by
  refine Met.ofW (cc := cX10_addKind) (maxL := 2) (ret := (some .int)) (by decide +kernel) rfl ?_
  intro p e s m args below meth cd s₁ B hml hv
  obtain ⟨rfl, ⟨hsz, hP, hK, hD0⟩, hN, hZ, hBW⟩ := hv
  have hx := B.exec
  have hb := B.bytes
  have hr := B.returns
  have hts := atoms_spec (ws := wm_X10_addKind_e) B.pre
  have hown : s.vm.findClass RX10 = some m.cls := findClass_of_methodNamed B.named
  have hlocks := B.notSynchronized
  subst hsz
  have hD := hD0.self (sz := s.heap.size)
  have hZ := xZ_A hZ hP hBW
  generalize hAe : va_A (xwT sk a t i q c d) s.heap.size = A at hD hZ ⊢
  have hA : ∀ q : Nat, s.heap.size ≤ q → A q := fun q h => by rw [← hAe]; exact Or.inr h
  have hS : va_S A s.heap s.heap [] := va_S.rf
  have hfi : ∀ k, k ∉ ([] : List Nat) → i k = i k := fun _ _ => rfl
  have hfc : ∀ k, k ∉ ([] : List Nat) → c k = c k := fun _ _ => rfl
  have hl := lv_entry ([.ref (a 104), .int k1]) (n := 2) (Nat.le_of_ble_eq_true rfl)
  rw [lg_entry_eq]
  generalize (lg_sl ([.ref (a 104), .int k1]) ++ List.replicate (2 - (lg_sl ([.ref (a 104), .int k1])).length) Slot.unset).toArray = ls at hl ⊢
  have hl : lv_has ls 2 [(0, .ref (a 104)), (1, .int k1)] := hl
  refine lv_aload_n hx hb dX10_addKind_0 rfl (lv_at hl 0 rfl) ?_
  refine xgT_W_parents hx hb hts (fun _ h => List.mem_cons_of_mem _ (List.mem_append_right _ h)) hown hK hP (hts (.fieldLink RX10 9 "TalePlay$World" "parents" "[I") (List.mem_cons_of_mem _ (List.mem_append_left _ (List.mem_of_getElem? (i := 0) rfl)))) dX10_addKind_1 ?_
  refine lv_aload_n hx hb dX10_addKind_4 rfl (lv_at hl 0 rfl) ?_
  refine xgT_W_kinds (v := (i 110)) rfl hx hb hts (fun _ h => List.mem_cons_of_mem _ (List.mem_append_right _ h)) hown hK hP (hts (.fieldLink RX10 33 "TalePlay$World" "kinds" "I") (List.mem_cons_of_mem _ (List.mem_append_left _ (List.mem_of_getElem? (i := 1) rfl)))) dX10_addKind_5 ?_
  have rb110_i : 6 ≤ (i 110).toInt ∧ (i 110).toInt ≤ 24 := hI.1 110
  refine lv_iload_n hx hb dX10_addKind_8 rfl (lv_at hl 1 rfl) ?_
  refine xsT_105 hx hb hK hP hD hS (vp_in_iff.mpr (by have h9 : (i 110).toInt = (i 110).toInt := rfl; omega)) dX10_addKind_9 (fun H locs hP hD hS => ?_)
  have hI := xInv_c hI (k := 105) (j := ((i 110) : Int32).toNatClampNeg) (x := k1) (show (k1 : Int32).toInt = -9 ∨ (0 ≤ (k1 : Int32).toInt ∧ (k1 : Int32).toInt ≤ 23) from by omega)
  have hfc : ∀ k, k ∉ ([105] : List Nat) → (updA c 105 ((i 110) : Int32).toNatClampNeg k1) k = c k := fr_cz hfc (by decide +kernel) (by decide +kernel)
  refine lv_aload_n hx hb dX10_addKind_10 rfl (lv_at hl 0 rfl) ?_
  refine xgT_W_sorts hx hb hts (fun _ h => List.mem_cons_of_mem _ (List.mem_append_right _ h)) hown hK hP (hts (.fieldLink RX10 15 "TalePlay$World" "sorts" "[I") (List.mem_cons_of_mem _ (List.mem_append_left _ (List.mem_of_getElem? (i := 2) rfl)))) dX10_addKind_11 ?_
  refine lv_aload_n hx hb dX10_addKind_14 rfl (lv_at hl 0 rfl) ?_
  refine xgT_W_kinds (v := (i 110)) rfl hx hb hts (fun _ h => List.mem_cons_of_mem _ (List.mem_append_right _ h)) hown hK hP (hts (.fieldLink RX10 33 "TalePlay$World" "kinds" "I") (List.mem_cons_of_mem _ (List.mem_append_left _ (List.mem_of_getElem? (i := 1) rfl)))) dX10_addKind_15 ?_
  refine lv_aload_n hx hb dX10_addKind_18 rfl (lv_at hl 0 rfl) ?_
  refine xgT_W_sorts hx hb hts (fun _ h => List.mem_cons_of_mem _ (List.mem_append_right _ h)) hown hK hP (hts (.fieldLink RX10 15 "TalePlay$World" "sorts" "[I") (List.mem_cons_of_mem _ (List.mem_append_left _ (List.mem_of_getElem? (i := 2) rfl)))) dX10_addKind_19 ?_
  refine lv_iload_n hx hb dX10_addKind_22 rfl (lv_at hl 1 rfl) ?_
  refine xlT_106 hx hb hK hP (vp_in_iff.mpr (by have h9 : k1.toInt = k1.toInt := rfl; omega)) dX10_addKind_23 (fun x1 ex1 => ?_)
  have rx1 : 0 ≤ x1.toInt ∧ x1.toInt ≤ 5 := by rw [ex1]; exact hI.2 106 _
  refine xsT_106 hx hb hK hP hD hS (vp_in_iff.mpr (by have h9 : (i 110).toInt = (i 110).toInt := rfl; omega)) dX10_addKind_24 (fun H locs hP hD hS => ?_)
  have hI := xInv_c hI (k := 106) (j := ((i 110) : Int32).toNatClampNeg) (x := x1) (show 0 ≤ (x1 : Int32).toInt ∧ (x1 : Int32).toInt ≤ 5 from by omega)
  have hfc : ∀ k, k ∉ ([105, 106] : List Nat) → (updA (updA c 105 ((i 110) : Int32).toNatClampNeg k1) 106 ((i 110) : Int32).toNatClampNeg x1) k = c k := fr_cz hfc (by decide +kernel) (by decide +kernel)
  refine lv_aload_n hx hb dX10_addKind_25 rfl (lv_at hl 0 rfl) ?_
  refine lv_dup hx hb dX10_addKind_26 rfl ?_
  refine xgT_W_kinds (v := (i 110)) rfl hx hb hts (fun _ h => List.mem_cons_of_mem _ (List.mem_append_right _ h)) hown hK hP (hts (.fieldLink RX10 33 "TalePlay$World" "kinds" "I") (List.mem_cons_of_mem _ (List.mem_append_left _ (List.mem_of_getElem? (i := 1) rfl)))) dX10_addKind_27 ?_
  refine lv_dup_x1 hx hb dX10_addKind_30 rfl rfl ?_
  refine lv_iconst (v := 1) hx hb dX10_addKind_31 (by decide +kernel) ?_
  refine lv_iadd hx hb dX10_addKind_32 ?_
  refine lv_topi (fun x2 ex2 => ?_)
  have tx2 := ti_add (a := (i 110).toInt) (b := 1) ex2 rfl (by decide +kernel) (by omega) (by omega)
  refine xpT_W_kinds hx hb hts (fun _ h => List.mem_cons_of_mem _ (List.mem_append_right _ h)) hown hK hP hD hS (hts (.fieldLink RX10 33 "TalePlay$World" "kinds" "I") (List.mem_cons_of_mem _ (List.mem_append_left _ (List.mem_of_getElem? (i := 1) rfl)))) rfl rfl dX10_addKind_33 (fun H locs hP hD hS => ?_)
  have hI := xInv_i hI (k := 110) (v := x2) (show 6 ≤ (x2 : Int32).toInt ∧ (x2 : Int32).toInt ≤ 24 from by have h9 : x2.toInt = ((i 110).toInt + 1) := tx2; omega)
  have hfi : ∀ k, k ∉ ([110] : List Nat) → (upd i 110 x2) k = i k := fr_iz hfi (by decide +kernel) (by decide +kernel)
  exact rw_iret ((upd i 110 x2), q, (updA (updA c 105 ((i 110) : Int32).toNatClampNeg k1) 106 ((i 110) : Int32).toNatClampNeg x1), d) hx hb hr hlocks hS (hK.sub (tys' := []) [] rfl) hP hD dX10_addKind_36 ⟨(show (i 110).toInt = (i 110).toInt from by omega), hI, fr_w hfi (by decide +kernel), fr_w hfc (by decide +kernel), (show (x2 : Int32).toInt = (i 110).toInt + 1 from by have h50 : x2.toInt = ((i 110).toInt + 1) := tx2; omega), (show ((updA (updA c 105 ((i 110) : Int32).toNatClampNeg k1) 106 ((i 110) : Int32).toNatClampNeg x1) 105) = upd (c 105) (i 110).toNatClampNeg k1 from rfl), (show ((updA (updA c 105 ((i 110) : Int32).toNatClampNeg k1) 106 ((i 110) : Int32).toNatClampNeg x1) 106) = upd (c 106) (i 110).toNatClampNeg (c 106 k1.toNatClampNeg) from by show upd (c 106) (i 110).toNatClampNeg x1 = _; rw [ex1]; rfl)⟩

def wm_X11_kind_e : List Cond := .code yX11_kind cX11_kind 2 (some .int) :: (([.fieldLink RX11 10 "TalePlay" "world" "LTalePlay$World;", .methodLink RX11 80 yX10_hasKind, .instanceMethod yX10_hasKind, .selects RX10 yX10_hasKind yX10_hasKind, .initialized RX10, .code yX10_hasKind cX10_hasKind 2 (some .boolean), .fieldLink RX10 33 "TalePlay$World" "kinds" "I", .fieldLink RX11 84 "TalePlay$World" "kinds" "I", .methodLink RX11 87 yX10_addKind, .instanceMethod yX10_addKind, .selects RX10 yX10_addKind yX10_addKind, .code yX10_addKind cX10_addKind 2 (some .int), .fieldLink RX10 9 "TalePlay$World" "parents" "[I", .fieldLink RX10 15 "TalePlay$World" "sorts" "[I"] : List Cond) ++ wsX110 ++ wsX100)
set_option maxRecDepth 20000 in
theorem gm_X11_kind_e_X10_hasKind_80 : GoodIn wm_X11_kind_e (wsV RX11 80 RX10 yX10_hasKind wm_X10_hasKind) := goodIn_w (List.forall_mem_append.mpr ⟨List.forall_mem_cons.mpr ⟨List.mem_cons_of_mem _ (List.mem_append_left _ (List.mem_append_left _ (List.mem_of_getElem? (i := 1) rfl))), List.forall_mem_cons.mpr ⟨List.mem_cons_of_mem _ (List.mem_append_left _ (List.mem_append_left _ (List.mem_of_getElem? (i := 2) rfl))), List.forall_mem_cons.mpr ⟨List.mem_cons_of_mem _ (List.mem_append_left _ (List.mem_append_left _ (List.mem_of_getElem? (i := 3) rfl))), List.forall_mem_cons.mpr ⟨List.mem_cons_of_mem _ (List.mem_append_left _ (List.mem_append_left _ (List.mem_of_getElem? (i := 4) rfl))), (fun _ h => absurd h List.not_mem_nil)⟩⟩⟩⟩, List.forall_mem_cons.mpr ⟨List.mem_cons_of_mem _ (List.mem_append_left _ (List.mem_append_left _ (List.mem_of_getElem? (i := 5) rfl))), List.forall_mem_append.mpr ⟨List.forall_mem_cons.mpr ⟨List.mem_cons_of_mem _ (List.mem_append_left _ (List.mem_append_left _ (List.mem_of_getElem? (i := 6) rfl))), (fun _ h => absurd h List.not_mem_nil)⟩, (fun _ h => List.mem_cons_of_mem _ (List.mem_append_right _ h))⟩⟩⟩) (by decide +kernel)
set_option maxRecDepth 20000 in
theorem gm_X11_kind_e_X10_addKind_e_87 : GoodIn wm_X11_kind_e (wsV RX11 87 RX10 yX10_addKind wm_X10_addKind_e) := goodIn_w (List.forall_mem_append.mpr ⟨List.forall_mem_cons.mpr ⟨List.mem_cons_of_mem _ (List.mem_append_left _ (List.mem_append_left _ (List.mem_of_getElem? (i := 8) rfl))), List.forall_mem_cons.mpr ⟨List.mem_cons_of_mem _ (List.mem_append_left _ (List.mem_append_left _ (List.mem_of_getElem? (i := 9) rfl))), List.forall_mem_cons.mpr ⟨List.mem_cons_of_mem _ (List.mem_append_left _ (List.mem_append_left _ (List.mem_of_getElem? (i := 10) rfl))), List.forall_mem_cons.mpr ⟨List.mem_cons_of_mem _ (List.mem_append_left _ (List.mem_append_left _ (List.mem_of_getElem? (i := 4) rfl))), (fun _ h => absurd h List.not_mem_nil)⟩⟩⟩⟩, List.forall_mem_cons.mpr ⟨List.mem_cons_of_mem _ (List.mem_append_left _ (List.mem_append_left _ (List.mem_of_getElem? (i := 11) rfl))), List.forall_mem_append.mpr ⟨List.forall_mem_cons.mpr ⟨List.mem_cons_of_mem _ (List.mem_append_left _ (List.mem_append_left _ (List.mem_of_getElem? (i := 12) rfl))), List.forall_mem_cons.mpr ⟨List.mem_cons_of_mem _ (List.mem_append_left _ (List.mem_append_left _ (List.mem_of_getElem? (i := 6) rfl))), List.forall_mem_cons.mpr ⟨List.mem_cons_of_mem _ (List.mem_append_left _ (List.mem_append_left _ (List.mem_of_getElem? (i := 13) rfl))), (fun _ h => absurd h List.not_mem_nil)⟩⟩⟩, (fun _ h => List.mem_cons_of_mem _ (List.mem_append_right _ h))⟩⟩⟩) (by decide +kernel)
set_option maxHeartbeats 4000000 in
set_option maxRecDepth 100000 in
theorem x_X11_kind_e (l : Launch) (D : va_G) (sz : Nat) (sk : Value) (a : Nat → Nat) (t : Nat → ClassId) (i : Nat → Int32) (q : Int64) (c : Nat → Nat → Int32) (d : Nat → Nat → Int64) (k1 : Int32) (hI : xInv i c) : Met l yX11_kind wm_X11_kind_e ({ frames := 1, cells := 0, slots := 0, locals := 21 }) (va_Pc [.ref (a 100), .int k1] (yB (a 186) D sz (xwT sk a t i q c d) (xtT t))) (va_Qi (fun (r : Int32) (u : MS) => True ∧ xInv u.1 u.2.2.1 ∧ (∀ k, k ∉ ([110] : List Nat) → u.1 k = i k) ∧ (∀ k, k ∉ ([105, 106] : List Nat) → u.2.2.1 k = c k) ∧ ((¬ (0 ≤ k1.toInt ∧ k1.toInt < (i 110).toInt) ∧ r.toInt = -1 ∧ (u.1 110).toInt = (i 110).toInt) ∨ (0 ≤ k1.toInt ∧ k1.toInt < (i 110).toInt ∧ 24 ≤ (i 110).toInt ∧ r.toInt = -2 ∧ (u.1 110).toInt = (i 110).toInt) ∨ (0 ≤ k1.toInt ∧ k1.toInt < (i 110).toInt ∧ (i 110).toInt ≤ 23 ∧ r.toInt = (i 110).toInt ∧ (u.1 110).toInt = (i 110).toInt + 1)) ∧ (KU (c 105) (u.2.2.1 105) k1 (i 110)) ∧ (KS (c 106) (u.2.2.1 106) k1 (i 110))) (oC D (va_A (xwT sk a t i q c d) sz) (fun u : MS => xwT sk a t u.1 u.2.1 u.2.2.1 u.2.2.2) (fun _ => [])) (va_A (xwT sk a t i q c d) sz)) 0 0 (va_A (xwT sk a t i q c d) sz) := by
  refine Met.ofW (cc := cX11_kind) (maxL := 2) (ret := (some .int)) (by decide +kernel) rfl ?_
  intro p e s m args below meth cd s₁ B hml hv
  obtain ⟨rfl, ⟨hsz, hP, hK, hD0⟩, hN, hZ, hBW⟩ := hv
  have hx := B.exec
  have hb := B.bytes
  have hr := B.returns
  have hts := atoms_spec (ws := wm_X11_kind_e) B.pre
  have hown : s.vm.findClass RX11 = some m.cls := findClass_of_methodNamed B.named
  have hlocks := B.notSynchronized
  subst hsz
  have hD := hD0.self (sz := s.heap.size)
  have hZ := xZ_A hZ hP hBW
  generalize hAe : va_A (xwT sk a t i q c d) s.heap.size = A at hD hZ ⊢
  have hA : ∀ q : Nat, s.heap.size ≤ q → A q := fun q h => by rw [← hAe]; exact Or.inr h
  have hS : va_S A s.heap s.heap [] := va_S.rf
  have hfi : ∀ k, k ∉ ([] : List Nat) → i k = i k := fun _ _ => rfl
  have hfc : ∀ k, k ∉ ([] : List Nat) → c k = c k := fun _ _ => rfl
  have hl := lv_entry ([.ref (a 100), .int k1]) (n := 2) (Nat.le_of_ble_eq_true rfl)
  rw [lg_entry_eq]
  generalize (lg_sl ([.ref (a 100), .int k1]) ++ List.replicate (2 - (lg_sl ([.ref (a 100), .int k1])).length) Slot.unset).toArray = ls at hl ⊢
  have hl : lv_has ls 2 [(0, .ref (a 100)), (1, .int k1)] := hl
  have rb110_i : 6 ≤ (i 110).toInt ∧ (i 110).toInt ≤ 24 := hI.1 110
  refine lv_aload_n hx hb dX11_kind_0 rfl (lv_at hl 0 rfl) ?_
  refine xgT_X_world hx hb hts (fun _ h => List.mem_cons_of_mem _ (List.mem_append_left _ (List.mem_append_right _ h))) hown hK hP (hts (.fieldLink RX11 10 "TalePlay" "world" "LTalePlay$World;") (List.mem_cons_of_mem _ (List.mem_append_left _ (List.mem_append_left _ (List.mem_of_getElem? (i := 0) rfl))))) dX11_kind_1 ?_
  refine lv_iload_n hx hb dX11_kind_4 rfl (lv_at hl 1 rfl) ?_
  refine ro_calli (va_runV (As := [.int k1]) (rest := []) ⟨hx, hb, hml, hown, hts⟩ (x_X10_hasKind l D s.heap.size .null a t i q c d k1 hI ) (cwV 1 hts gm_X11_kind_e_X10_hasKind_80 rfl rfl rfl (by decide +kernel) ⟨Nat.le_of_ble_eq_true rfl, Nat.le_of_ble_eq_true rfl⟩) (yA_V hN (xZ_k hZ hS hA) (xkT_W hK) (xuT_W (sk := sk) hP) (ci := 10) (q0 := 0) rfl rfl) rfl rfl hl.1 rfl (lv_room (Nat.le_of_ble_eq_true rfl)) dX11_kind_5 ⟨Nat.le_of_ble_eq_true rfl, Nat.le_of_ble_eq_true rfl⟩) hS hA hP (fun r1 u1 H locs hw1 hP hS => ?_)
  have hw1 : r1 = if (0 ≤ k1.toInt ∧ k1.toInt < (i 110).toInt) then 1 else 0 := hw1
  refine lv_if_ne (tgt := 13) hx hb dX11_kind_8 (by decide +kernel) (fun c2 => ?_) (fun c2 => ?_)
  · have f2 := fl_t hw1 c2
    refine lv_aload_n hx hb dX11_kind_13 rfl (lv_at hl 0 rfl) ?_
    refine xgT_X_world hx hb hts (fun _ h => List.mem_cons_of_mem _ (List.mem_append_left _ (List.mem_append_right _ h))) hown hK hP (hts (.fieldLink RX11 10 "TalePlay" "world" "LTalePlay$World;") (List.mem_cons_of_mem _ (List.mem_append_left _ (List.mem_append_left _ (List.mem_of_getElem? (i := 0) rfl))))) dX11_kind_14 ?_
    refine xgT_W_kinds (v := (i 110)) rfl hx hb hts (fun _ h => List.mem_cons_of_mem _ (List.mem_append_right _ h)) hown hK hP (hts (.fieldLink RX11 84 "TalePlay$World" "kinds" "I") (List.mem_cons_of_mem _ (List.mem_append_left _ (List.mem_append_left _ (List.mem_of_getElem? (i := 7) rfl))))) dX11_kind_17 ?_
    refine lv_bipush (v := 24) hx hb dX11_kind_20 (by decide +kernel) ?_
    refine lv_icmp_lt (tgt := 28) hx hb dX11_kind_22 (by decide +kernel) (fun c3 => ?_) (fun c3 => ?_)
    · have f3 := (ti_lt (a := (i 110).toInt) (b := 24) rfl (by decide +kernel)).mp c3
      refine lv_aload_n hx hb dX11_kind_28 rfl (lv_at hl 0 rfl) ?_
      refine xgT_X_world hx hb hts (fun _ h => List.mem_cons_of_mem _ (List.mem_append_left _ (List.mem_append_right _ h))) hown hK hP (hts (.fieldLink RX11 10 "TalePlay" "world" "LTalePlay$World;") (List.mem_cons_of_mem _ (List.mem_append_left _ (List.mem_append_left _ (List.mem_of_getElem? (i := 0) rfl))))) dX11_kind_29 ?_
      refine lv_iload_n hx hb dX11_kind_32 rfl (lv_at hl 1 rfl) ?_
      refine al_calli (va_runV (As := [.int k1]) (rest := []) ⟨hx, hb, hml, hown, hts⟩ (x_X10_addKind_e l D H.size sk a t i q c d k1 hI (show 0 ≤ k1.toInt ∧ k1.toInt ≤ 23 from by omega) (show ((i 110) : Int32).toInt ≤ 23 from by omega)) (cwV 1 hts gm_X11_kind_e_X10_addKind_e_87 rfl rfl rfl (by decide +kernel) ⟨Nat.le_of_ble_eq_true rfl, Nat.le_of_ble_eq_true rfl⟩) (yB_V hN (xZ_k hZ hS hA) (xZ_n hZ hD) hK hP hD (ci := 10) (q0 := 2) rfl rfl) rfl rfl hl.1 rfl (lv_room (Nat.le_of_ble_eq_true rfl)) dX11_kind_33 ⟨Nat.le_of_ble_eq_true rfl, Nat.le_of_ble_eq_true rfl⟩) hS hA hP hD (fun r4 u4 H locs hw4 hP hD hS => ?_)
      obtain ⟨i4, q4, c4, d4⟩ := u4
      have hw4 : (r4.toInt = (i 110).toInt) ∧ xInv i4 c4 ∧ (∀ k, k ∉ ([110] : List Nat) → i4 k = i k) ∧ (∀ k, k ∉ ([105, 106] : List Nat) → c4 k = c k) ∧ ((i4 110).toInt = (i 110).toInt + 1) ∧ ((c4 105) = upd (c 105) (i 110).toNatClampNeg k1) ∧ ((c4 106) = upd (c 106) (i 110).toNatClampNeg (c 106 k1.toNatClampNeg)) := hw4
      obtain ⟨hw4, hI, hei4, hec4, hxp4_0, hxp4_1, hxp4_2⟩ := hw4
      have hxp4_0 : (i4 110).toInt = (i 110).toInt + 1 := hxp4_0
      have hxp4_1 : (c4 105) = upd (c 105) (i 110).toNatClampNeg k1 := hxp4_1
      have hxp4_2 : (c4 106) = upd (c 106) (i 110).toNatClampNeg (c 106 k1.toNatClampNeg) := hxp4_2
      have hfi : ∀ k, k ∉ ([110] : List Nat) → i4 k = i k := fr_z hfi hei4 (by decide +kernel) (by decide +kernel)
      have hfc : ∀ k, k ∉ ([105, 106] : List Nat) → c4 k = c k := fr_z hfc hec4 (by decide +kernel) (by decide +kernel)
      exact rw_iret (i4, q4, c4, d4) hx hb hr hlocks hS (hK.sub (tys' := []) [] rfl) hP hD dX11_kind_36 ⟨trivial, hI, fr_w hfi (by decide +kernel), fr_w hfc (by decide +kernel), (show (¬ (0 ≤ k1.toInt ∧ k1.toInt < (i 110).toInt) ∧ (r4 : Int32).toInt = -1 ∧ ((i4 110) : Int32).toInt = (i 110).toInt) ∨ (0 ≤ k1.toInt ∧ k1.toInt < (i 110).toInt ∧ 24 ≤ (i 110).toInt ∧ (r4 : Int32).toInt = -2 ∧ ((i4 110) : Int32).toInt = (i 110).toInt) ∨ (0 ≤ k1.toInt ∧ k1.toInt < (i 110).toInt ∧ (i 110).toInt ≤ 23 ∧ (r4 : Int32).toInt = (i 110).toInt ∧ ((i4 110) : Int32).toInt = (i 110).toInt + 1) from by omega), (show KU (c 105) (c4 105) k1 (i 110) from Or.inr ⟨by omega, by omega, by omega, hxp4_1⟩), (show KS (c 106) (c4 106) k1 (i 110) from Or.inr ⟨by omega, by omega, by omega, hxp4_2⟩)⟩
    · have f3 := mt (ti_lt (a := (i 110).toInt) (b := 24) rfl (by decide +kernel)).mpr c3
      refine lv_bipush (v := (-2)) hx hb dX11_kind_25 (by decide +kernel) ?_
      exact rw_iret (i, q, c, d) hx hb hr hlocks hS (hK.sub (tys' := []) [] rfl) hP hD dX11_kind_27 ⟨trivial, hI, fr_w hfi (by decide +kernel), fr_w hfc (by decide +kernel), (show (¬ (0 ≤ k1.toInt ∧ k1.toInt < (i 110).toInt) ∧ ((-2) : Int32).toInt = -1 ∧ ((i 110) : Int32).toInt = (i 110).toInt) ∨ (0 ≤ k1.toInt ∧ k1.toInt < (i 110).toInt ∧ 24 ≤ (i 110).toInt ∧ ((-2) : Int32).toInt = -2 ∧ ((i 110) : Int32).toInt = (i 110).toInt) ∨ (0 ≤ k1.toInt ∧ k1.toInt < (i 110).toInt ∧ (i 110).toInt ≤ 23 ∧ ((-2) : Int32).toInt = (i 110).toInt ∧ ((i 110) : Int32).toInt = (i 110).toInt + 1) from by have h53 : ((-2) : Int32).toInt = -2 := (by decide +kernel); omega), (show KU (c 105) (c 105) k1 (i 110) from Or.inl ⟨by omega, rfl⟩), (show KS (c 106) (c 106) k1 (i 110) from Or.inl ⟨by omega, rfl⟩)⟩
  · have f2 := fl_f hw1 c2
    refine lv_iconst (v := (-1)) hx hb dX11_kind_11 (by decide +kernel) ?_
    exact rw_iret (i, q, c, d) hx hb hr hlocks hS (hK.sub (tys' := []) [] rfl) hP hD dX11_kind_12 ⟨trivial, hI, fr_w hfi (by decide +kernel), fr_w hfc (by decide +kernel), (show (¬ (0 ≤ k1.toInt ∧ k1.toInt < (i 110).toInt) ∧ ((-1) : Int32).toInt = -1 ∧ ((i 110) : Int32).toInt = (i 110).toInt) ∨ (0 ≤ k1.toInt ∧ k1.toInt < (i 110).toInt ∧ 24 ≤ (i 110).toInt ∧ ((-1) : Int32).toInt = -2 ∧ ((i 110) : Int32).toInt = (i 110).toInt) ∨ (0 ≤ k1.toInt ∧ k1.toInt < (i 110).toInt ∧ (i 110).toInt ≤ 23 ∧ ((-1) : Int32).toInt = (i 110).toInt ∧ ((i 110) : Int32).toInt = (i 110).toInt + 1) from by have h53 : ((-1) : Int32).toInt = -1 := (by decide +kernel); omega), (show KU (c 105) (c 105) k1 (i 110) from Or.inl ⟨by omega, rfl⟩), (show KS (c 106) (c 106) k1 (i 110) from Or.inl ⟨by omega, rfl⟩)⟩

set_option maxHeartbeats 4000000 in
set_option maxRecDepth 100000 in
theorem s_X12_kind_e (l : Launch) (D : va_G) (sz : Nat) (o : Nat) (a : Nat → Nat) (t : Nat → ClassId) (i : Nat → Int32) (q : Int64) (c : Nat → Nat → Int32) (d : Nat → Nat → Int64) (p1 : Int32) (hI : mInv i c) (hs_S : SJ (c 3) (c 6) (c 9) (c 10) (c 11) (c 13) (i 2).toInt (i 5).toInt (i 8).toInt) (hs_J : TJ (c 3) (c 6) (c 23) (c 24) (c 29) (c 30) (i 5).toInt (i 22).toInt (i 27).toInt) : Met l yX12_kind wm_X12_kind ({ frames := 1, cells := 0, slots := 0, locals := 25 }) (va_Pc [.ref o, .int p1] (pB D sz (mW o a t i q c d) (mT t))) (va_Qi (fun (r : Int32) (u : MS) => True ∧ mInv u.1 u.2.2.1 ∧ (∀ k, k ∉ ([2] : List Nat) → u.1 k = i k) ∧ (∀ k, k ∉ ([3] : List Nat) → u.2.2.1 k = c k) ∧ (SJ (u.2.2.1 3) (u.2.2.1 6) (u.2.2.1 9) (u.2.2.1 10) (u.2.2.1 11) (u.2.2.1 13) (u.1 2).toInt (u.1 5).toInt (u.1 8).toInt) ∧ (TJ (u.2.2.1 3) (u.2.2.1 6) (u.2.2.1 23) (u.2.2.1 24) (u.2.2.1 29) (u.2.2.1 30) (u.1 5).toInt (u.1 22).toInt (u.1 27).toInt) ∧ ((¬ (0 ≤ p1.toInt ∧ p1.toInt < (i 2).toInt) ∧ r.toInt = -1 ∧ (u.1 2).toInt = (i 2).toInt) ∨ (0 ≤ p1.toInt ∧ p1.toInt < (i 2).toInt ∧ 24 ≤ (i 2).toInt ∧ r.toInt = -2 ∧ (u.1 2).toInt = (i 2).toInt) ∨ (0 ≤ p1.toInt ∧ p1.toInt < (i 2).toInt ∧ (i 2).toInt ≤ 23 ∧ r.toInt = (i 2).toInt ∧ (u.1 2).toInt = (i 2).toInt + 1)) ∧ (KU (c 3) (u.2.2.1 3) p1 (i 2))) (oC D (va_A (mW o a t i q c d) sz) (fun u : MS => mW o a t u.1 u.2.1 u.2.2.1 u.2.2.2) (fun _ => [])) (va_A (mW o a t i q c d) sz)) 0 0 (va_A (mW o a t i q c d) sz) := by
  refine Met.ofW (cc := cX12_kind) (maxL := 2) (ret := (some .int)) (by decide +kernel) rfl ?_
  intro p e s m args below meth cd s₁ B hml hv
  obtain ⟨rfl, hsz, hP, hK, hD0⟩ := hv
  have hx := B.exec
  have hb := B.bytes
  have hr := B.returns
  have hts := atoms_spec (ws := wm_X12_kind) B.pre
  have hown : s.vm.findClass RX12 = some m.cls := findClass_of_methodNamed B.named
  have hlocks := B.notSynchronized
  subst hsz
  have hD := hD0.self (sz := s.heap.size)
  generalize hAe : va_A (mW o a t i q c d) s.heap.size = A at hD ⊢
  have hA : ∀ q : Nat, s.heap.size ≤ q → A q := fun q h => by rw [← hAe]; exact Or.inr h
  have hS : va_S A s.heap s.heap [] := va_S.rf
  have hfi : ∀ k, k ∉ ([] : List Nat) → i k = i k := fun _ _ => rfl
  have hfc : ∀ k, k ∉ ([] : List Nat) → c k = c k := fun _ _ => rfl
  have hl := lv_entry ([.ref o, .int p1]) (n := 2) (Nat.le_of_ble_eq_true rfl)
  rw [lg_entry_eq]
  generalize (lg_sl ([.ref o, .int p1]) ++ List.replicate (2 - (lg_sl ([.ref o, .int p1])).length) Slot.unset).toArray = ls at hl ⊢
  have hl : lv_has ls 2 [(0, .ref o), (1, .int p1)] := hl
  have hI0 := hI
  have rb2_i : 6 ≤ (i 2).toInt ∧ (i 2).toInt ≤ 24 := hI.1 2
  refine lv_iload_n hx hb dX12_kind_0 rfl (lv_at hl 1 rfl) ?_
  refine lv_i2l (v := p1.toInt64) hx hb dX12_kind_1 rfl ?_
  refine lv_lconst (v := 0) hx hb dX12_kind_2 (by decide +kernel) ?_
  refine lv_aload_n hx hb dX12_kind_3 rfl (lv_at hl 0 rfl) ?_
  refine mget_2 (v := (i 2)) rfl hx hb hts (fun _ h => List.mem_cons_of_mem _ (List.mem_append_right _ h)) hown hK hP (hts (.fieldLink RX12 151 "TalePlayModel" "kinds" "I") (List.mem_cons_of_mem _ (List.mem_append_left _ (List.mem_of_getElem? (i := 0) rfl)))) dX12_kind_4 ?_
  refine lv_iconst (v := 1) hx hb dX12_kind_7 (by decide +kernel) ?_
  refine lv_isub hx hb dX12_kind_8 ?_
  refine lv_topi (fun x1 ex1 => ?_)
  have tx1 := ti_sub (a := (i 2).toInt) (b := 1) ex1 rfl (by decide +kernel) (by omega) (by omega)
  refine lv_i2l (v := x1.toInt64) hx hb dX12_kind_9 rfl ?_
  have hPc := hP.sub (ws' := []) [] rfl
  have hKc := hK.sub (tys' := []) [] rfl
  refine ro_calli (va_runS (As := [.long p1.toInt64, .long 0, .long x1.toInt64]) (rest := []) ⟨hx, hb, hml, hown, hts⟩ (c_X12_in l D s.heap.size p1.toInt64 0 x1.toInt64 p1.toInt 0 ((i 2).toInt - 1) ((Int32.toInt_toInt64 p1).trans rfl) (by decide +kernel) ((Int32.toInt_toInt64 x1).trans tx1)) (va_cwS 3 hts gm_X12_kind_X12_in rfl rfl rfl (by decide +kernel) ⟨Nat.le_of_ble_eq_true rfl, Nat.le_of_ble_eq_true rfl⟩) (pA_S hKc hPc) rfl rfl hl.1 rfl (lv_room (Nat.le_of_ble_eq_true rfl)) dX12_kind_10 ⟨Nat.le_of_ble_eq_true rfl, Nat.le_of_ble_eq_true rfl⟩) hS hA hP (fun r2 u2 H locs hw2 hP hS => ?_)
  have hw2 : r2 = if (0 ≤ p1.toInt ∧ p1.toInt ≤ ((i 2).toInt - 1)) then 1 else 0 := hw2
  refine lv_if_ne (tgt := 18) hx hb dX12_kind_13 (by decide +kernel) (fun c3 => ?_) (fun c3 => ?_)
  · have f3 := fl_t hw2 c3
    refine lv_aload_n hx hb dX12_kind_18 rfl (lv_at hl 0 rfl) ?_
    refine mget_2 (v := (i 2)) rfl hx hb hts (fun _ h => List.mem_cons_of_mem _ (List.mem_append_right _ h)) hown hK hP (hts (.fieldLink RX12 151 "TalePlayModel" "kinds" "I") (List.mem_cons_of_mem _ (List.mem_append_left _ (List.mem_of_getElem? (i := 0) rfl)))) dX12_kind_19 ?_
    refine lv_bipush (v := 24) hx hb dX12_kind_22 (by decide +kernel) ?_
    refine lv_icmp_ne (tgt := 30) hx hb dX12_kind_24 (by decide +kernel) (fun c4 => ?_) (fun c4 => ?_)
    · have f4 := mt (ti_eq (a := (i 2).toInt) (b := 24) rfl (by decide +kernel)).mpr c4
      refine lv_aload_n hx hb dX12_kind_30 rfl (lv_at hl 0 rfl) ?_
      refine mget_3 hx hb hts (fun _ h => List.mem_cons_of_mem _ (List.mem_append_right _ h)) hown hK hP (hts (.fieldLink RX12 13 "TalePlayModel" "parentOf" "[I") (List.mem_cons_of_mem _ (List.mem_append_left _ (List.mem_of_getElem? (i := 5) rfl)))) dX12_kind_31 ?_
      refine lv_aload_n hx hb dX12_kind_34 rfl (lv_at hl 0 rfl) ?_
      refine mget_2 (v := (i 2)) rfl hx hb hts (fun _ h => List.mem_cons_of_mem _ (List.mem_append_right _ h)) hown hK hP (hts (.fieldLink RX12 151 "TalePlayModel" "kinds" "I") (List.mem_cons_of_mem _ (List.mem_append_left _ (List.mem_of_getElem? (i := 0) rfl)))) dX12_kind_35 ?_
      refine lv_iload_n hx hb dX12_kind_38 rfl (lv_at hl 1 rfl) ?_
      have rc5 : ((((i 2) : Int32).toNatClampNeg : Nat) : Int) = ((i 2) : Int32).toInt := cl_nn (by have h9 : (i 2).toInt = (i 2).toInt := rfl; omega)
      refine mst_3 hx hb hK hP hD hS (vp_in_iff.mpr (by have h9 : (i 2).toInt = (i 2).toInt := rfl; omega)) dX12_kind_39 (fun H locs hP hD hS => ?_)
      have hI := mInv_c hI (k := 3) (j := ((i 2) : Int32).toNatClampNeg) (x := p1) (show (((((i 2) : Int32).toNatClampNeg : Nat) : Int) ≤ 1 ∧ (p1 : Int32).toInt = -9) ∨ (2 ≤ ((((i 2) : Int32).toNatClampNeg : Nat) : Int) ∧ ((((i 2) : Int32).toNatClampNeg : Nat) : Int) ≤ 5 ∧ (p1 : Int32).toInt = 1) ∨ (6 ≤ ((((i 2) : Int32).toNatClampNeg : Nat) : Int) ∧ 0 ≤ (p1 : Int32).toInt ∧ (p1 : Int32).toInt ≤ 23 ∧ (p1 : Int32).toInt < ((((i 2) : Int32).toNatClampNeg : Nat) : Int)) from by omega)
      have hfc : ∀ k, k ∉ ([3] : List Nat) → (updA c 3 ((i 2) : Int32).toNatClampNeg p1) k = c k := fr_cz hfc (by decide +kernel) (by decide +kernel)
      refine lv_aload_n hx hb dX12_kind_40 rfl (lv_at hl 0 rfl) ?_
      refine lv_dup hx hb dX12_kind_41 rfl ?_
      refine mget_2 (v := (i 2)) rfl hx hb hts (fun _ h => List.mem_cons_of_mem _ (List.mem_append_right _ h)) hown hK hP (hts (.fieldLink RX12 151 "TalePlayModel" "kinds" "I") (List.mem_cons_of_mem _ (List.mem_append_left _ (List.mem_of_getElem? (i := 0) rfl)))) dX12_kind_42 ?_
      refine lv_iconst (v := 1) hx hb dX12_kind_45 (by decide +kernel) ?_
      refine lv_iadd hx hb dX12_kind_46 ?_
      refine lv_topi (fun x6 ex6 => ?_)
      have tx6 := ti_add (a := (i 2).toInt) (b := 1) ex6 rfl (by decide +kernel) (by omega) (by omega)
      refine mput_2 hx hb hts (fun _ h => List.mem_cons_of_mem _ (List.mem_append_right _ h)) hown hK hP hD hS (hts (.fieldLink RX12 151 "TalePlayModel" "kinds" "I") (List.mem_cons_of_mem _ (List.mem_append_left _ (List.mem_of_getElem? (i := 0) rfl)))) rfl rfl dX12_kind_47 (fun H locs hP hD hS => ?_)
      have hI := mInv_i hI (k := 2) (v := x6) (show 6 ≤ (x6 : Int32).toInt ∧ (x6 : Int32).toInt ≤ 24 from by have h9 : x6.toInt = ((i 2).toInt + 1) := tx6; omega)
      have hfi : ∀ k, k ∉ ([2] : List Nat) → (upd i 2 x6) k = i k := fr_iz hfi (by decide +kernel) (by decide +kernel)
      refine lv_aload_n hx hb dX12_kind_50 rfl (lv_at hl 0 rfl) ?_
      refine mget_2 (i := (upd i 2 x6)) (v := x6) rfl hx hb hts (fun _ h => List.mem_cons_of_mem _ (List.mem_append_right _ h)) hown hK hP (hts (.fieldLink RX12 151 "TalePlayModel" "kinds" "I") (List.mem_cons_of_mem _ (List.mem_append_left _ (List.mem_of_getElem? (i := 0) rfl)))) dX12_kind_51 ?_
      refine lv_iconst (v := 1) hx hb dX12_kind_54 (by decide +kernel) ?_
      refine lv_isub hx hb dX12_kind_55 ?_
      refine lv_topi (fun x7 ex7 => ?_)
      have tx7 := ti_sub (a := ((i 2).toInt + 1)) (b := 1) ex7 tx6 (by decide +kernel) (by omega) (by omega)
      exact rw_iret ((upd i 2 x6), q, (updA c 3 ((i 2) : Int32).toNatClampNeg p1), d) hx hb hr hlocks hS (hK.sub (tys' := []) [] rfl) hP hD dX12_kind_56 ⟨trivial, hI, fr_w hfi (by decide +kernel), fr_w hfc (by decide +kernel), (show SJ ((updA c 3 ((i 2) : Int32).toNatClampNeg p1) 3) ((updA c 3 ((i 2) : Int32).toNatClampNeg p1) 6) ((updA c 3 ((i 2) : Int32).toNatClampNeg p1) 9) ((updA c 3 ((i 2) : Int32).toNatClampNeg p1) 10) ((updA c 3 ((i 2) : Int32).toNatClampNeg p1) 11) ((updA c 3 ((i 2) : Int32).toNatClampNeg p1) 13) (x6 : Int32).toInt ((i 5) : Int32).toInt ((i 8) : Int32).toInt from by show SJ (upd (c 3) ((i 2) : Int32).toNatClampNeg p1) (c 6) (c 9) (c 10) (c 11) (c 13) x6.toInt (i 5).toInt (i 8).toInt; rw [tx6]; exact SJ_kind (kn := (i 2).toInt) hs_S (fun j _ => mI_pa hI0 j) (by omega) (mI_ko hI0) (mI_le hI0) (fun o => (mI_mi hI0 o).1)), (show TJ ((updA c 3 ((i 2) : Int32).toNatClampNeg p1) 3) ((updA c 3 ((i 2) : Int32).toNatClampNeg p1) 6) ((updA c 3 ((i 2) : Int32).toNatClampNeg p1) 23) ((updA c 3 ((i 2) : Int32).toNatClampNeg p1) 24) ((updA c 3 ((i 2) : Int32).toNatClampNeg p1) 29) ((updA c 3 ((i 2) : Int32).toNatClampNeg p1) 30) ((i 5) : Int32).toInt ((i 22) : Int32).toInt ((i 27) : Int32).toInt from by show TJ (upd (c 3) ((i 2) : Int32).toNatClampNeg p1) (c 6) (c 23) (c 24) (c 29) (c 30) (i 5).toInt (i 22).toInt (i 27).toInt; exact TJ_kind (kn := (i 2).toInt) hs_J hs_S.1 (fun j _ => mI_pa hI0 j) (by omega) (mI_ko hI0)), (show (¬ (0 ≤ p1.toInt ∧ p1.toInt < (i 2).toInt) ∧ (x7 : Int32).toInt = -1 ∧ (x6 : Int32).toInt = (i 2).toInt) ∨ (0 ≤ p1.toInt ∧ p1.toInt < (i 2).toInt ∧ 24 ≤ (i 2).toInt ∧ (x7 : Int32).toInt = -2 ∧ (x6 : Int32).toInt = (i 2).toInt) ∨ (0 ≤ p1.toInt ∧ p1.toInt < (i 2).toInt ∧ (i 2).toInt ≤ 23 ∧ (x7 : Int32).toInt = (i 2).toInt ∧ (x6 : Int32).toInt = (i 2).toInt + 1) from by have h50 : x6.toInt = ((i 2).toInt + 1) := tx6; have h51 : x6.toInt = ((i 2).toInt + 1) := tx6; have h52 : x6.toInt = ((i 2).toInt + 1) := tx6; have h53 : x7.toInt = (((i 2).toInt + 1) - 1) := tx7; omega), (show KU (c 3) ((updA c 3 ((i 2) : Int32).toNatClampNeg p1) 3) p1 (i 2) from Or.inr ⟨by omega, by omega, by omega, rfl⟩)⟩
    · have f4 := (ti_eq (a := (i 2).toInt) (b := 24) rfl (by decide +kernel)).mp c4
      refine lv_bipush (v := (-2)) hx hb dX12_kind_27 (by decide +kernel) ?_
      exact rw_iret (i, q, c, d) hx hb hr hlocks hS (hK.sub (tys' := []) [] rfl) hP hD dX12_kind_29 ⟨trivial, hI, fr_w hfi (by decide +kernel), fr_w hfc (by decide +kernel), (show SJ (c 3) (c 6) (c 9) (c 10) (c 11) (c 13) ((i 2) : Int32).toInt ((i 5) : Int32).toInt ((i 8) : Int32).toInt from hs_S), (show TJ (c 3) (c 6) (c 23) (c 24) (c 29) (c 30) ((i 5) : Int32).toInt ((i 22) : Int32).toInt ((i 27) : Int32).toInt from hs_J), (show (¬ (0 ≤ p1.toInt ∧ p1.toInt < (i 2).toInt) ∧ ((-2) : Int32).toInt = -1 ∧ ((i 2) : Int32).toInt = (i 2).toInt) ∨ (0 ≤ p1.toInt ∧ p1.toInt < (i 2).toInt ∧ 24 ≤ (i 2).toInt ∧ ((-2) : Int32).toInt = -2 ∧ ((i 2) : Int32).toInt = (i 2).toInt) ∨ (0 ≤ p1.toInt ∧ p1.toInt < (i 2).toInt ∧ (i 2).toInt ≤ 23 ∧ ((-2) : Int32).toInt = (i 2).toInt ∧ ((i 2) : Int32).toInt = (i 2).toInt + 1) from by have h53 : ((-2) : Int32).toInt = -2 := (by decide +kernel); omega), (show KU (c 3) (c 3) p1 (i 2) from Or.inl ⟨by omega, rfl⟩)⟩
  · have f3 := fl_f hw2 c3
    refine lv_iconst (v := (-1)) hx hb dX12_kind_16 (by decide +kernel) ?_
    exact rw_iret (i, q, c, d) hx hb hr hlocks hS (hK.sub (tys' := []) [] rfl) hP hD dX12_kind_17 ⟨trivial, hI, fr_w hfi (by decide +kernel), fr_w hfc (by decide +kernel), (show SJ (c 3) (c 6) (c 9) (c 10) (c 11) (c 13) ((i 2) : Int32).toInt ((i 5) : Int32).toInt ((i 8) : Int32).toInt from hs_S), (show TJ (c 3) (c 6) (c 23) (c 24) (c 29) (c 30) ((i 5) : Int32).toInt ((i 22) : Int32).toInt ((i 27) : Int32).toInt from hs_J), (show (¬ (0 ≤ p1.toInt ∧ p1.toInt < (i 2).toInt) ∧ ((-1) : Int32).toInt = -1 ∧ ((i 2) : Int32).toInt = (i 2).toInt) ∨ (0 ≤ p1.toInt ∧ p1.toInt < (i 2).toInt ∧ 24 ≤ (i 2).toInt ∧ ((-1) : Int32).toInt = -2 ∧ ((i 2) : Int32).toInt = (i 2).toInt) ∨ (0 ≤ p1.toInt ∧ p1.toInt < (i 2).toInt ∧ (i 2).toInt ≤ 23 ∧ ((-1) : Int32).toInt = (i 2).toInt ∧ ((i 2) : Int32).toInt = (i 2).toInt + 1) from by have h53 : ((-1) : Int32).toInt = -1 := (by decide +kernel); omega), (show KU (c 3) (c 3) p1 (i 2) from Or.inl ⟨by omega, rfl⟩)⟩

def wm_X10_addObject_e : List Cond := .code yX10_addObject cX10_addObject 3 (some .int) :: (([.fieldLink RX10 21 "TalePlay$World" "kindOf" "[I", .fieldLink RX10 37 "TalePlay$World" "objects" "I", .fieldLink RX10 24 "TalePlay$World" "sizeOf" "[I"] : List Cond) ++ wsX100)
set_option maxHeartbeats 4000000 in
set_option maxRecDepth 100000 in
theorem x_X10_addObject_e (l : Launch) (D : va_G) (sz : Nat) (sk : Value) (a : Nat → Nat) (t : Nat → ClassId) (i : Nat → Int32) (q : Int64) (c : Nat → Nat → Int32) (d : Nat → Nat → Int64) (k1 : Int32) (s1 : Int32) (hI : xInv i c) (hk1 : 0 ≤ k1.toInt ∧ k1.toInt ≤ 23) (hs1 : 0 ≤ s1.toInt ∧ s1.toInt ≤ 99) (hon : (i 111).toInt ≤ 29) : Met l yX10_addObject wm_X10_addObject_e ({ frames := 0, cells := 0, slots := 0, locals := 0 }) (va_Pc [.ref (a 104), .int k1, .int s1] (yB (a 186) D sz (xwT sk a t i q c d) (xtT t))) (va_Qi (fun (r : Int32) (u : MS) => (r.toInt = (i 111).toInt) ∧ xInv u.1 u.2.2.1 ∧ (∀ k, k ∉ ([111] : List Nat) → u.1 k = i k) ∧ (∀ k, k ∉ ([108, 109] : List Nat) → u.2.2.1 k = c k) ∧ ((u.1 111).toInt = (i 111).toInt + 1) ∧ ((u.2.2.1 108) = upd (c 108) (i 111).toNatClampNeg k1)) (oC D (va_A (xwT sk a t i q c d) sz) (fun u : MS => xwT sk a t u.1 u.2.1 u.2.2.1 u.2.2.2) (fun _ => [])) (va_A (xwT sk a t i q c d) sz)) 0 0 (va_A (xwT sk a t i q c d) sz) := by
  refine Met.ofW (cc := cX10_addObject) (maxL := 3) (ret := (some .int)) (by decide +kernel) rfl ?_
  intro p e s m args below meth cd s₁ B hml hv
  obtain ⟨rfl, ⟨hsz, hP, hK, hD0⟩, hN, hZ, hBW⟩ := hv
  have hx := B.exec
  have hb := B.bytes
  have hr := B.returns
  have hts := atoms_spec (ws := wm_X10_addObject_e) B.pre
  have hown : s.vm.findClass RX10 = some m.cls := findClass_of_methodNamed B.named
  have hlocks := B.notSynchronized
  subst hsz
  have hD := hD0.self (sz := s.heap.size)
  have hZ := xZ_A hZ hP hBW
  generalize hAe : va_A (xwT sk a t i q c d) s.heap.size = A at hD hZ ⊢
  have hA : ∀ q : Nat, s.heap.size ≤ q → A q := fun q h => by rw [← hAe]; exact Or.inr h
  have hS : va_S A s.heap s.heap [] := va_S.rf
  have hfi : ∀ k, k ∉ ([] : List Nat) → i k = i k := fun _ _ => rfl
  have hfc : ∀ k, k ∉ ([] : List Nat) → c k = c k := fun _ _ => rfl
  have hl := lv_entry ([.ref (a 104), .int k1, .int s1]) (n := 3) (Nat.le_of_ble_eq_true rfl)
  rw [lg_entry_eq]
  generalize (lg_sl ([.ref (a 104), .int k1, .int s1]) ++ List.replicate (3 - (lg_sl ([.ref (a 104), .int k1, .int s1])).length) Slot.unset).toArray = ls at hl ⊢
  have hl : lv_has ls 3 [(0, .ref (a 104)), (1, .int k1), (2, .int s1)] := hl
  refine lv_aload_n hx hb dX10_addObject_0 rfl (lv_at hl 0 rfl) ?_
  refine xgT_W_kindOf hx hb hts (fun _ h => List.mem_cons_of_mem _ (List.mem_append_right _ h)) hown hK hP (hts (.fieldLink RX10 21 "TalePlay$World" "kindOf" "[I") (List.mem_cons_of_mem _ (List.mem_append_left _ (List.mem_of_getElem? (i := 0) rfl)))) dX10_addObject_1 ?_
  refine lv_aload_n hx hb dX10_addObject_4 rfl (lv_at hl 0 rfl) ?_
  refine xgT_W_objects (v := (i 111)) rfl hx hb hts (fun _ h => List.mem_cons_of_mem _ (List.mem_append_right _ h)) hown hK hP (hts (.fieldLink RX10 37 "TalePlay$World" "objects" "I") (List.mem_cons_of_mem _ (List.mem_append_left _ (List.mem_of_getElem? (i := 1) rfl)))) dX10_addObject_5 ?_
  have rb111_i : 0 ≤ (i 111).toInt ∧ (i 111).toInt ≤ 30 := hI.1 111
  refine lv_iload_n hx hb dX10_addObject_8 rfl (lv_at hl 1 rfl) ?_
  refine xsT_108 hx hb hK hP hD hS (vp_in_iff.mpr (by have h9 : (i 111).toInt = (i 111).toInt := rfl; omega)) dX10_addObject_9 (fun H locs hP hD hS => ?_)
  have hI := xInv_c hI (k := 108) (j := ((i 111) : Int32).toNatClampNeg) (x := k1) (show 0 ≤ (k1 : Int32).toInt ∧ (k1 : Int32).toInt ≤ 23 from by omega)
  have hfc : ∀ k, k ∉ ([108] : List Nat) → (updA c 108 ((i 111) : Int32).toNatClampNeg k1) k = c k := fr_cz hfc (by decide +kernel) (by decide +kernel)
  refine lv_aload_n hx hb dX10_addObject_10 rfl (lv_at hl 0 rfl) ?_
  refine xgT_W_sizeOf hx hb hts (fun _ h => List.mem_cons_of_mem _ (List.mem_append_right _ h)) hown hK hP (hts (.fieldLink RX10 24 "TalePlay$World" "sizeOf" "[I") (List.mem_cons_of_mem _ (List.mem_append_left _ (List.mem_of_getElem? (i := 2) rfl)))) dX10_addObject_11 ?_
  refine lv_aload_n hx hb dX10_addObject_14 rfl (lv_at hl 0 rfl) ?_
  refine xgT_W_objects (v := (i 111)) rfl hx hb hts (fun _ h => List.mem_cons_of_mem _ (List.mem_append_right _ h)) hown hK hP (hts (.fieldLink RX10 37 "TalePlay$World" "objects" "I") (List.mem_cons_of_mem _ (List.mem_append_left _ (List.mem_of_getElem? (i := 1) rfl)))) dX10_addObject_15 ?_
  refine lv_iload_n hx hb dX10_addObject_18 rfl (lv_at hl 2 rfl) ?_
  refine xsT_109 hx hb hK hP hD hS (vp_in_iff.mpr (by have h9 : (i 111).toInt = (i 111).toInt := rfl; omega)) dX10_addObject_19 (fun H locs hP hD hS => ?_)
  have hI := xInv_c hI (k := 109) (j := ((i 111) : Int32).toNatClampNeg) (x := s1) (show 0 ≤ (s1 : Int32).toInt ∧ (s1 : Int32).toInt ≤ 99 from by omega)
  have hfc : ∀ k, k ∉ ([108, 109] : List Nat) → (updA (updA c 108 ((i 111) : Int32).toNatClampNeg k1) 109 ((i 111) : Int32).toNatClampNeg s1) k = c k := fr_cz hfc (by decide +kernel) (by decide +kernel)
  refine lv_aload_n hx hb dX10_addObject_20 rfl (lv_at hl 0 rfl) ?_
  refine lv_dup hx hb dX10_addObject_21 rfl ?_
  refine xgT_W_objects (v := (i 111)) rfl hx hb hts (fun _ h => List.mem_cons_of_mem _ (List.mem_append_right _ h)) hown hK hP (hts (.fieldLink RX10 37 "TalePlay$World" "objects" "I") (List.mem_cons_of_mem _ (List.mem_append_left _ (List.mem_of_getElem? (i := 1) rfl)))) dX10_addObject_22 ?_
  refine lv_dup_x1 hx hb dX10_addObject_25 rfl rfl ?_
  refine lv_iconst (v := 1) hx hb dX10_addObject_26 (by decide +kernel) ?_
  refine lv_iadd hx hb dX10_addObject_27 ?_
  refine lv_topi (fun x1 ex1 => ?_)
  have tx1 := ti_add (a := (i 111).toInt) (b := 1) ex1 rfl (by decide +kernel) (by omega) (by omega)
  refine xpT_W_objects hx hb hts (fun _ h => List.mem_cons_of_mem _ (List.mem_append_right _ h)) hown hK hP hD hS (hts (.fieldLink RX10 37 "TalePlay$World" "objects" "I") (List.mem_cons_of_mem _ (List.mem_append_left _ (List.mem_of_getElem? (i := 1) rfl)))) rfl rfl dX10_addObject_28 (fun H locs hP hD hS => ?_)
  have hI := xInv_i hI (k := 111) (v := x1) (show 0 ≤ (x1 : Int32).toInt ∧ (x1 : Int32).toInt ≤ 30 from by have h9 : x1.toInt = ((i 111).toInt + 1) := tx1; omega)
  have hfi : ∀ k, k ∉ ([111] : List Nat) → (upd i 111 x1) k = i k := fr_iz hfi (by decide +kernel) (by decide +kernel)
  exact rw_iret ((upd i 111 x1), q, (updA (updA c 108 ((i 111) : Int32).toNatClampNeg k1) 109 ((i 111) : Int32).toNatClampNeg s1), d) hx hb hr hlocks hS (hK.sub (tys' := []) [] rfl) hP hD dX10_addObject_31 ⟨(show (i 111).toInt = (i 111).toInt from by omega), hI, fr_w hfi (by decide +kernel), fr_w hfc (by decide +kernel), (show (x1 : Int32).toInt = (i 111).toInt + 1 from by have h50 : x1.toInt = ((i 111).toInt + 1) := tx1; omega), (show ((updA (updA c 108 ((i 111) : Int32).toNatClampNeg k1) 109 ((i 111) : Int32).toNatClampNeg s1) 108) = upd (c 108) (i 111).toNatClampNeg k1 from rfl)⟩

def wm_X11_make_e : List Cond := .code yX11_make cX11_make 3 (some .int) :: ((([.fieldLink RX11 10 "TalePlay" "world" "LTalePlay$World;", .methodLink RX11 80 yX10_hasKind, .instanceMethod yX10_hasKind, .selects RX10 yX10_hasKind yX10_hasKind, .initialized RX10, .code yX10_hasKind cX10_hasKind 2 (some .boolean), .fieldLink RX10 33 "TalePlay$World" "kinds" "I", .fieldLink RX11 102 "TalePlay$World" "objects" "I", .fieldLink RX11 46 "TalePlay" "tale" "LTalePlay$Tale;", .methodLink RX11 95 yX9_end, .instanceMethod yX9_end, .selects RX9 yX9_end yX9_end, .initialized RX9, .code yX9_end cX9_end 1 none, .fieldLink RX9 72 "TalePlay$Tale" "there" "Z", .fieldLink RX9 77 "TalePlay$Tale" "turns" "I"] : List Cond) ++ ([.methodLink RX11 105 yX10_addObject, .instanceMethod yX10_addObject, .selects RX10 yX10_addObject yX10_addObject, .code yX10_addObject cX10_addObject 3 (some .int), .fieldLink RX10 21 "TalePlay$World" "kindOf" "[I", .fieldLink RX10 37 "TalePlay$World" "objects" "I", .fieldLink RX10 24 "TalePlay$World" "sizeOf" "[I"] : List Cond)) ++ wsX110 ++ wsX100 ++ wsX90)
set_option maxRecDepth 20000 in
theorem gm_X11_make_e_X10_hasKind_80 : GoodIn wm_X11_make_e (wsV RX11 80 RX10 yX10_hasKind wm_X10_hasKind) := goodIn_w (List.forall_mem_append.mpr ⟨List.forall_mem_cons.mpr ⟨List.mem_cons_of_mem _ (List.mem_append_left _ (List.mem_append_left _ (List.mem_append_left _ (List.mem_append_left _ (List.mem_of_getElem? (i := 1) rfl))))), List.forall_mem_cons.mpr ⟨List.mem_cons_of_mem _ (List.mem_append_left _ (List.mem_append_left _ (List.mem_append_left _ (List.mem_append_left _ (List.mem_of_getElem? (i := 2) rfl))))), List.forall_mem_cons.mpr ⟨List.mem_cons_of_mem _ (List.mem_append_left _ (List.mem_append_left _ (List.mem_append_left _ (List.mem_append_left _ (List.mem_of_getElem? (i := 3) rfl))))), List.forall_mem_cons.mpr ⟨List.mem_cons_of_mem _ (List.mem_append_left _ (List.mem_append_left _ (List.mem_append_left _ (List.mem_append_left _ (List.mem_of_getElem? (i := 4) rfl))))), (fun _ h => absurd h List.not_mem_nil)⟩⟩⟩⟩, List.forall_mem_cons.mpr ⟨List.mem_cons_of_mem _ (List.mem_append_left _ (List.mem_append_left _ (List.mem_append_left _ (List.mem_append_left _ (List.mem_of_getElem? (i := 5) rfl))))), List.forall_mem_append.mpr ⟨List.forall_mem_cons.mpr ⟨List.mem_cons_of_mem _ (List.mem_append_left _ (List.mem_append_left _ (List.mem_append_left _ (List.mem_append_left _ (List.mem_of_getElem? (i := 6) rfl))))), (fun _ h => absurd h List.not_mem_nil)⟩, (fun _ h => List.mem_cons_of_mem _ (List.mem_append_left _ (List.mem_append_right _ h)))⟩⟩⟩) (by decide +kernel)
set_option maxRecDepth 20000 in
theorem gm_X11_make_e_X9_end_95 : GoodIn wm_X11_make_e (wsV RX11 95 RX9 yX9_end wm_X9_end) := goodIn_w (List.forall_mem_append.mpr ⟨List.forall_mem_cons.mpr ⟨List.mem_cons_of_mem _ (List.mem_append_left _ (List.mem_append_left _ (List.mem_append_left _ (List.mem_append_left _ (List.mem_of_getElem? (i := 9) rfl))))), List.forall_mem_cons.mpr ⟨List.mem_cons_of_mem _ (List.mem_append_left _ (List.mem_append_left _ (List.mem_append_left _ (List.mem_append_left _ (List.mem_of_getElem? (i := 10) rfl))))), List.forall_mem_cons.mpr ⟨List.mem_cons_of_mem _ (List.mem_append_left _ (List.mem_append_left _ (List.mem_append_left _ (List.mem_append_left _ (List.mem_of_getElem? (i := 11) rfl))))), List.forall_mem_cons.mpr ⟨List.mem_cons_of_mem _ (List.mem_append_left _ (List.mem_append_left _ (List.mem_append_left _ (List.mem_append_left _ (List.mem_of_getElem? (i := 12) rfl))))), (fun _ h => absurd h List.not_mem_nil)⟩⟩⟩⟩, List.forall_mem_cons.mpr ⟨List.mem_cons_of_mem _ (List.mem_append_left _ (List.mem_append_left _ (List.mem_append_left _ (List.mem_append_left _ (List.mem_of_getElem? (i := 13) rfl))))), List.forall_mem_append.mpr ⟨List.forall_mem_cons.mpr ⟨List.mem_cons_of_mem _ (List.mem_append_left _ (List.mem_append_left _ (List.mem_append_left _ (List.mem_append_left _ (List.mem_of_getElem? (i := 14) rfl))))), List.forall_mem_cons.mpr ⟨List.mem_cons_of_mem _ (List.mem_append_left _ (List.mem_append_left _ (List.mem_append_left _ (List.mem_append_left _ (List.mem_of_getElem? (i := 15) rfl))))), (fun _ h => absurd h List.not_mem_nil)⟩⟩, (fun _ h => List.mem_cons_of_mem _ (List.mem_append_right _ h))⟩⟩⟩) (by decide +kernel)
set_option maxRecDepth 20000 in
theorem gm_X11_make_e_X10_addObject_e_105 : GoodIn wm_X11_make_e (wsV RX11 105 RX10 yX10_addObject wm_X10_addObject_e) := goodIn_w (List.forall_mem_append.mpr ⟨List.forall_mem_cons.mpr ⟨List.mem_cons_of_mem _ (List.mem_append_left _ (List.mem_append_left _ (List.mem_append_left _ (List.mem_append_right _ (List.mem_of_getElem? (i := 0) rfl))))), List.forall_mem_cons.mpr ⟨List.mem_cons_of_mem _ (List.mem_append_left _ (List.mem_append_left _ (List.mem_append_left _ (List.mem_append_right _ (List.mem_of_getElem? (i := 1) rfl))))), List.forall_mem_cons.mpr ⟨List.mem_cons_of_mem _ (List.mem_append_left _ (List.mem_append_left _ (List.mem_append_left _ (List.mem_append_right _ (List.mem_of_getElem? (i := 2) rfl))))), List.forall_mem_cons.mpr ⟨List.mem_cons_of_mem _ (List.mem_append_left _ (List.mem_append_left _ (List.mem_append_left _ (List.mem_append_left _ (List.mem_of_getElem? (i := 4) rfl))))), (fun _ h => absurd h List.not_mem_nil)⟩⟩⟩⟩, List.forall_mem_cons.mpr ⟨List.mem_cons_of_mem _ (List.mem_append_left _ (List.mem_append_left _ (List.mem_append_left _ (List.mem_append_right _ (List.mem_of_getElem? (i := 3) rfl))))), List.forall_mem_append.mpr ⟨List.forall_mem_cons.mpr ⟨List.mem_cons_of_mem _ (List.mem_append_left _ (List.mem_append_left _ (List.mem_append_left _ (List.mem_append_right _ (List.mem_of_getElem? (i := 4) rfl))))), List.forall_mem_cons.mpr ⟨List.mem_cons_of_mem _ (List.mem_append_left _ (List.mem_append_left _ (List.mem_append_left _ (List.mem_append_right _ (List.mem_of_getElem? (i := 5) rfl))))), List.forall_mem_cons.mpr ⟨List.mem_cons_of_mem _ (List.mem_append_left _ (List.mem_append_left _ (List.mem_append_left _ (List.mem_append_right _ (List.mem_of_getElem? (i := 6) rfl))))), (fun _ h => absurd h List.not_mem_nil)⟩⟩⟩, (fun _ h => List.mem_cons_of_mem _ (List.mem_append_left _ (List.mem_append_right _ h)))⟩⟩⟩) (by decide +kernel)
set_option maxHeartbeats 4000000 in
set_option maxRecDepth 100000 in
theorem x_X11_make_e (l : Launch) (D : va_G) (sz : Nat) (sk : Value) (a : Nat → Nat) (t : Nat → ClassId) (i : Nat → Int32) (q : Int64) (c : Nat → Nat → Int32) (d : Nat → Nat → Int64) (k1 : Int32) (s1 : Int32) (hI : xInv i c) : Met l yX11_make wm_X11_make_e ({ frames := 1, cells := 0, slots := 0, locals := 22 }) (va_Pc [.ref (a 100), .int k1, .int s1] (yB (a 186) D sz (xwT sk a t i q c d) (xtT t))) (va_Qi (fun (r : Int32) (u : MS) => True ∧ xInv u.1 u.2.2.1 ∧ (∀ k, k ∉ ([111, 146, 148] : List Nat) → u.1 k = i k) ∧ (∀ k, k ∉ ([108, 109] : List Nat) → u.2.2.1 k = c k) ∧ (xEn (i 146) (i 148) (u.1 146) (u.1 148)) ∧ ((¬ (0 ≤ k1.toInt ∧ k1.toInt < (i 110).toInt ∧ 0 ≤ s1.toInt ∧ s1.toInt ≤ 99) ∧ r.toInt = -1 ∧ (u.1 111).toInt = (i 111).toInt) ∨ (0 ≤ k1.toInt ∧ k1.toInt < (i 110).toInt ∧ 0 ≤ s1.toInt ∧ s1.toInt ≤ 99 ∧ 30 ≤ (i 111).toInt ∧ r.toInt = -2 ∧ (u.1 111).toInt = (i 111).toInt) ∨ (0 ≤ k1.toInt ∧ k1.toInt < (i 110).toInt ∧ 0 ≤ s1.toInt ∧ s1.toInt ≤ 99 ∧ (i 111).toInt ≤ 29 ∧ r.toInt = (i 111).toInt ∧ (u.1 111).toInt = (i 111).toInt + 1)) ∧ (OU (c 108) (u.2.2.1 108) k1 s1 (i 110) (i 111))) (oC D (va_A (xwT sk a t i q c d) sz) (fun u : MS => xwT sk a t u.1 u.2.1 u.2.2.1 u.2.2.2) (fun _ => [])) (va_A (xwT sk a t i q c d) sz)) 0 0 (va_A (xwT sk a t i q c d) sz) := by
  refine Met.ofW (cc := cX11_make) (maxL := 3) (ret := (some .int)) (by decide +kernel) rfl ?_
  intro p e s m args below meth cd s₁ B hml hv
  obtain ⟨rfl, ⟨hsz, hP, hK, hD0⟩, hN, hZ, hBW⟩ := hv
  have hx := B.exec
  have hb := B.bytes
  have hr := B.returns
  have hts := atoms_spec (ws := wm_X11_make_e) B.pre
  have hown : s.vm.findClass RX11 = some m.cls := findClass_of_methodNamed B.named
  have hlocks := B.notSynchronized
  subst hsz
  have hD := hD0.self (sz := s.heap.size)
  have hZ := xZ_A hZ hP hBW
  generalize hAe : va_A (xwT sk a t i q c d) s.heap.size = A at hD hZ ⊢
  have hA : ∀ q : Nat, s.heap.size ≤ q → A q := fun q h => by rw [← hAe]; exact Or.inr h
  have hS : va_S A s.heap s.heap [] := va_S.rf
  have hfi : ∀ k, k ∉ ([] : List Nat) → i k = i k := fun _ _ => rfl
  have hfc : ∀ k, k ∉ ([] : List Nat) → c k = c k := fun _ _ => rfl
  have hl := lv_entry ([.ref (a 100), .int k1, .int s1]) (n := 3) (Nat.le_of_ble_eq_true rfl)
  rw [lg_entry_eq]
  generalize (lg_sl ([.ref (a 100), .int k1, .int s1]) ++ List.replicate (3 - (lg_sl ([.ref (a 100), .int k1, .int s1])).length) Slot.unset).toArray = ls at hl ⊢
  have hl : lv_has ls 3 [(0, .ref (a 100)), (1, .int k1), (2, .int s1)] := hl
  have rb110_i : 6 ≤ (i 110).toInt ∧ (i 110).toInt ≤ 24 := hI.1 110
  have rb111_i : 0 ≤ (i 111).toInt ∧ (i 111).toInt ≤ 30 := hI.1 111
  refine lv_aload_n hx hb dX11_make_0 rfl (lv_at hl 0 rfl) ?_
  refine xgT_X_world hx hb hts (fun _ h => List.mem_cons_of_mem _ (List.mem_append_left _ (List.mem_append_left _ (List.mem_append_right _ h)))) hown hK hP (hts (.fieldLink RX11 10 "TalePlay" "world" "LTalePlay$World;") (List.mem_cons_of_mem _ (List.mem_append_left _ (List.mem_append_left _ (List.mem_append_left _ (List.mem_append_left _ (List.mem_of_getElem? (i := 0) rfl))))))) dX11_make_1 ?_
  refine lv_iload_n hx hb dX11_make_4 rfl (lv_at hl 1 rfl) ?_
  refine ro_calli (va_runV (As := [.int k1]) (rest := []) ⟨hx, hb, hml, hown, hts⟩ (x_X10_hasKind l D s.heap.size .null a t i q c d k1 hI ) (cwV 1 hts gm_X11_make_e_X10_hasKind_80 rfl rfl rfl (by decide +kernel) ⟨Nat.le_of_ble_eq_true rfl, Nat.le_of_ble_eq_true rfl⟩) (yA_V hN (xZ_k hZ hS hA) (xkT_W hK) (xuT_W (sk := sk) hP) (ci := 10) (q0 := 0) rfl rfl) rfl rfl hl.1 rfl (lv_room (Nat.le_of_ble_eq_true rfl)) dX11_make_5 ⟨Nat.le_of_ble_eq_true rfl, Nat.le_of_ble_eq_true rfl⟩) hS hA hP (fun r1 u1 H locs hw1 hP hS => ?_)
  have hw1 : r1 = if (0 ≤ k1.toInt ∧ k1.toInt < (i 110).toInt) then 1 else 0 := hw1
  refine lv_if_eq (tgt := 21) hx hb dX11_make_8 (by decide +kernel) (fun c2 => ?_) (fun c2 => ?_)
  · have f2 := fl_f hw1 c2
    refine lv_iconst (v := (-1)) hx hb dX11_make_21 (by decide +kernel) ?_
    exact rw_iret (i, q, c, d) hx hb hr hlocks hS (hK.sub (tys' := []) [] rfl) hP hD dX11_make_22 ⟨trivial, hI, fr_w hfi (by decide +kernel), fr_w hfc (by decide +kernel), (show xEn (i 146) (i 148) ((i 146) : Int32) ((i 148) : Int32) from Or.inr ⟨rfl, rfl⟩), (show (¬ (0 ≤ k1.toInt ∧ k1.toInt < (i 110).toInt ∧ 0 ≤ s1.toInt ∧ s1.toInt ≤ 99) ∧ ((-1) : Int32).toInt = -1 ∧ ((i 111) : Int32).toInt = (i 111).toInt) ∨ (0 ≤ k1.toInt ∧ k1.toInt < (i 110).toInt ∧ 0 ≤ s1.toInt ∧ s1.toInt ≤ 99 ∧ 30 ≤ (i 111).toInt ∧ ((-1) : Int32).toInt = -2 ∧ ((i 111) : Int32).toInt = (i 111).toInt) ∨ (0 ≤ k1.toInt ∧ k1.toInt < (i 110).toInt ∧ 0 ≤ s1.toInt ∧ s1.toInt ≤ 99 ∧ (i 111).toInt ≤ 29 ∧ ((-1) : Int32).toInt = (i 111).toInt ∧ ((i 111) : Int32).toInt = (i 111).toInt + 1) from by have h53 : ((-1) : Int32).toInt = -1 := (by decide +kernel); omega), (show OU (c 108) (c 108) k1 s1 (i 110) (i 111) from Or.inl ⟨by omega, rfl⟩)⟩
  · have f2 := fl_t hw1 c2
    refine lv_iload_n hx hb dX11_make_11 rfl (lv_at hl 2 rfl) ?_
    refine lv_if_lt (tgt := 21) hx hb dX11_make_12 (by decide +kernel) (fun c3 => ?_) (fun c3 => ?_)
    · have f3 := (ti_lt (a := s1.toInt) (b := 0) rfl (by decide +kernel)).mp c3
      refine lv_iconst (v := (-1)) hx hb dX11_make_21 (by decide +kernel) ?_
      exact rw_iret (i, q, c, d) hx hb hr hlocks hS (hK.sub (tys' := []) [] rfl) hP hD dX11_make_22 ⟨trivial, hI, fr_w hfi (by decide +kernel), fr_w hfc (by decide +kernel), (show xEn (i 146) (i 148) ((i 146) : Int32) ((i 148) : Int32) from Or.inr ⟨rfl, rfl⟩), (show (¬ (0 ≤ k1.toInt ∧ k1.toInt < (i 110).toInt ∧ 0 ≤ s1.toInt ∧ s1.toInt ≤ 99) ∧ ((-1) : Int32).toInt = -1 ∧ ((i 111) : Int32).toInt = (i 111).toInt) ∨ (0 ≤ k1.toInt ∧ k1.toInt < (i 110).toInt ∧ 0 ≤ s1.toInt ∧ s1.toInt ≤ 99 ∧ 30 ≤ (i 111).toInt ∧ ((-1) : Int32).toInt = -2 ∧ ((i 111) : Int32).toInt = (i 111).toInt) ∨ (0 ≤ k1.toInt ∧ k1.toInt < (i 110).toInt ∧ 0 ≤ s1.toInt ∧ s1.toInt ≤ 99 ∧ (i 111).toInt ≤ 29 ∧ ((-1) : Int32).toInt = (i 111).toInt ∧ ((i 111) : Int32).toInt = (i 111).toInt + 1) from by have h53 : ((-1) : Int32).toInt = -1 := (by decide +kernel); omega), (show OU (c 108) (c 108) k1 s1 (i 110) (i 111) from Or.inl ⟨by omega, rfl⟩)⟩
    · have f3 := mt (ti_lt (a := s1.toInt) (b := 0) rfl (by decide +kernel)).mpr c3
      refine lv_iload_n hx hb dX11_make_15 rfl (lv_at hl 2 rfl) ?_
      refine lv_bipush (v := 99) hx hb dX11_make_16 (by decide +kernel) ?_
      refine lv_icmp_le (tgt := 23) hx hb dX11_make_18 (by decide +kernel) (fun c4 => ?_) (fun c4 => ?_)
      · have f4 := (ti_le (a := s1.toInt) (b := 99) rfl (by decide +kernel)).mp c4
        refine lv_aload_n hx hb dX11_make_23 rfl (lv_at hl 0 rfl) ?_
        refine xgT_X_world hx hb hts (fun _ h => List.mem_cons_of_mem _ (List.mem_append_left _ (List.mem_append_left _ (List.mem_append_right _ h)))) hown hK hP (hts (.fieldLink RX11 10 "TalePlay" "world" "LTalePlay$World;") (List.mem_cons_of_mem _ (List.mem_append_left _ (List.mem_append_left _ (List.mem_append_left _ (List.mem_append_left _ (List.mem_of_getElem? (i := 0) rfl))))))) dX11_make_24 ?_
        refine xgT_W_objects (v := (i 111)) rfl hx hb hts (fun _ h => List.mem_cons_of_mem _ (List.mem_append_left _ (List.mem_append_right _ h))) hown hK hP (hts (.fieldLink RX11 102 "TalePlay$World" "objects" "I") (List.mem_cons_of_mem _ (List.mem_append_left _ (List.mem_append_left _ (List.mem_append_left _ (List.mem_append_left _ (List.mem_of_getElem? (i := 7) rfl))))))) dX11_make_27 ?_
        refine lv_bipush (v := 30) hx hb dX11_make_30 (by decide +kernel) ?_
        refine lv_icmp_lt (tgt := 38) hx hb dX11_make_32 (by decide +kernel) (fun c5 => ?_) (fun c5 => ?_)
        · have f5 := (ti_lt (a := (i 111).toInt) (b := 30) rfl (by decide +kernel)).mp c5
          refine lv_aload_n hx hb dX11_make_38 rfl (lv_at hl 0 rfl) ?_
          refine xgT_X_tale hx hb hts (fun _ h => List.mem_cons_of_mem _ (List.mem_append_left _ (List.mem_append_left _ (List.mem_append_right _ h)))) hown hK hP (hts (.fieldLink RX11 46 "TalePlay" "tale" "LTalePlay$Tale;") (List.mem_cons_of_mem _ (List.mem_append_left _ (List.mem_append_left _ (List.mem_append_left _ (List.mem_append_left _ (List.mem_of_getElem? (i := 8) rfl))))))) dX11_make_39 ?_
          refine al_callv (va_runV (As := []) (rest := []) ⟨hx, hb, hml, hown, hts⟩ (x_X9_end l D H.size sk a t i q c d  hI ) (cwV 0 hts gm_X11_make_e_X9_end_95 rfl rfl rfl (by decide +kernel) ⟨Nat.le_of_ble_eq_true rfl, Nat.le_of_ble_eq_true rfl⟩) (yB_V hN (xZ_k hZ hS hA) (xZ_n hZ hD) hK hP hD (ci := 9) (q0 := 33) rfl rfl) rfl rfl hl.1 rfl (lv_room (Nat.le_of_ble_eq_true rfl)) dX11_make_42 ⟨Nat.le_of_ble_eq_true rfl, Nat.le_of_ble_eq_true rfl⟩) hS hA hP hD (fun u6 H locs hw6 hP hD hS => ?_)
          obtain ⟨i6, q6, c6, d6⟩ := u6
          have hw6 : True ∧ xInv i6 c6 ∧ (∀ k, k ∉ ([146, 148] : List Nat) → i6 k = i k) ∧ (∀ k, k ∉ ([] : List Nat) → c6 k = c k) ∧ ((i6 146).toInt = 0) ∧ ((i6 148).toInt = 0) := hw6
          obtain ⟨hw6, hI, hei6, hec6, hxp6_0, hxp6_1⟩ := hw6
          have hxp6_0 : (i6 146).toInt = 0 := hxp6_0
          have hxp6_1 : (i6 148).toInt = 0 := hxp6_1
          have hfi : ∀ k, k ∉ ([146, 148] : List Nat) → i6 k = i k := fr_z hfi hei6 (by decide +kernel) (by decide +kernel)
          have hfc : ∀ k, k ∉ ([] : List Nat) → c6 k = c k := fr_z hfc hec6 (by decide +kernel) (by decide +kernel)
          have hen : (i6 146).toInt = 0 := hxp6_0
          refine lv_aload_n hx hb dX11_make_45 rfl (lv_at hl 0 rfl) ?_
          refine xgT_X_world hx hb hts (fun _ h => List.mem_cons_of_mem _ (List.mem_append_left _ (List.mem_append_left _ (List.mem_append_right _ h)))) hown hK hP (hts (.fieldLink RX11 10 "TalePlay" "world" "LTalePlay$World;") (List.mem_cons_of_mem _ (List.mem_append_left _ (List.mem_append_left _ (List.mem_append_left _ (List.mem_append_left _ (List.mem_of_getElem? (i := 0) rfl))))))) dX11_make_46 ?_
          refine lv_iload_n hx hb dX11_make_49 rfl (lv_at hl 1 rfl) ?_
          refine lv_iload_n hx hb dX11_make_50 rfl (lv_at hl 2 rfl) ?_
          have rb111_i6 : 0 ≤ (i6 111).toInt ∧ (i6 111).toInt ≤ 30 := hI.1 111
          have re111_i6 : (i6 111).toInt = (i 111).toInt := congrArg Int32.toInt (hfi 111 (by decide +kernel))
          refine al_calli (va_runV (As := [.int k1, .int s1]) (rest := []) ⟨hx, hb, hml, hown, hts⟩ (x_X10_addObject_e l D H.size sk a t i6 q6 c6 d6 k1 s1 hI (show 0 ≤ k1.toInt ∧ k1.toInt ≤ 23 from by omega) (show 0 ≤ s1.toInt ∧ s1.toInt ≤ 99 from by omega) (show ((i6 111) : Int32).toInt ≤ 29 from by omega)) (cwV 2 hts gm_X11_make_e_X10_addObject_e_105 rfl rfl rfl (by decide +kernel) ⟨Nat.le_of_ble_eq_true rfl, Nat.le_of_ble_eq_true rfl⟩) (yB_V hN (xZ_k hZ hS hA) (xZ_n hZ hD) hK hP hD (ci := 10) (q0 := 2) rfl rfl) rfl rfl hl.1 rfl (lv_room (Nat.le_of_ble_eq_true rfl)) dX11_make_51 ⟨Nat.le_of_ble_eq_true rfl, Nat.le_of_ble_eq_true rfl⟩) hS hA hP hD (fun r7 u7 H locs hw7 hP hD hS => ?_)
          obtain ⟨i7, q7, c7, d7⟩ := u7
          have hw7 : (r7.toInt = (i6 111).toInt) ∧ xInv i7 c7 ∧ (∀ k, k ∉ ([111] : List Nat) → i7 k = i6 k) ∧ (∀ k, k ∉ ([108, 109] : List Nat) → c7 k = c6 k) ∧ ((i7 111).toInt = (i6 111).toInt + 1) ∧ ((c7 108) = upd (c6 108) (i6 111).toNatClampNeg k1) := hw7
          obtain ⟨hw7, hI, hei7, hec7, hxp7_0, hxp7_1⟩ := hw7
          have hxp7_0 : (i7 111).toInt = (i 111).toInt + 1 := by have h9 := hxp7_0; rw [show i6 111 = i 111 from hfi 111 (by decide +kernel)] at h9; exact h9
          have hxp7_1 : (c7 108) = upd (c 108) (i 111).toNatClampNeg k1 := by have h9 := hxp7_1; rw [show c6 108 = c 108 from hfc 108 (by decide +kernel), show i6 111 = i 111 from hfi 111 (by decide +kernel)] at h9; exact h9
          have hfi : ∀ k, k ∉ ([111, 146, 148] : List Nat) → i7 k = i k := fr_z hfi hei7 (by decide +kernel) (by decide +kernel)
          have hfc : ∀ k, k ∉ ([108, 109] : List Nat) → c7 k = c k := fr_z hfc hec7 (by decide +kernel) (by decide +kernel)
          have hen : ((i7 146) : Int32).toInt = 0 := by rw [show i7 146 = i6 146 from hei7 146 (by decide +kernel)]; exact hen
          exact rw_iret (i7, q7, c7, d7) hx hb hr hlocks hS (hK.sub (tys' := []) [] rfl) hP hD dX11_make_54 ⟨trivial, hI, fr_w hfi (by decide +kernel), fr_w hfc (by decide +kernel), (show xEn (i 146) (i 148) ((i7 146) : Int32) ((i7 148) : Int32) from Or.inl hen), (show (¬ (0 ≤ k1.toInt ∧ k1.toInt < (i 110).toInt ∧ 0 ≤ s1.toInt ∧ s1.toInt ≤ 99) ∧ (r7 : Int32).toInt = -1 ∧ ((i7 111) : Int32).toInt = (i 111).toInt) ∨ (0 ≤ k1.toInt ∧ k1.toInt < (i 110).toInt ∧ 0 ≤ s1.toInt ∧ s1.toInt ≤ 99 ∧ 30 ≤ (i 111).toInt ∧ (r7 : Int32).toInt = -2 ∧ ((i7 111) : Int32).toInt = (i 111).toInt) ∨ (0 ≤ k1.toInt ∧ k1.toInt < (i 110).toInt ∧ 0 ≤ s1.toInt ∧ s1.toInt ≤ 99 ∧ (i 111).toInt ≤ 29 ∧ (r7 : Int32).toInt = (i 111).toInt ∧ ((i7 111) : Int32).toInt = (i 111).toInt + 1) from by omega), (show OU (c 108) (c7 108) k1 s1 (i 110) (i 111) from Or.inr ⟨by omega, by omega, by omega, by omega, by omega, hxp7_1⟩)⟩
        · have f5 := mt (ti_lt (a := (i 111).toInt) (b := 30) rfl (by decide +kernel)).mpr c5
          refine lv_bipush (v := (-2)) hx hb dX11_make_35 (by decide +kernel) ?_
          exact rw_iret (i, q, c, d) hx hb hr hlocks hS (hK.sub (tys' := []) [] rfl) hP hD dX11_make_37 ⟨trivial, hI, fr_w hfi (by decide +kernel), fr_w hfc (by decide +kernel), (show xEn (i 146) (i 148) ((i 146) : Int32) ((i 148) : Int32) from Or.inr ⟨rfl, rfl⟩), (show (¬ (0 ≤ k1.toInt ∧ k1.toInt < (i 110).toInt ∧ 0 ≤ s1.toInt ∧ s1.toInt ≤ 99) ∧ ((-2) : Int32).toInt = -1 ∧ ((i 111) : Int32).toInt = (i 111).toInt) ∨ (0 ≤ k1.toInt ∧ k1.toInt < (i 110).toInt ∧ 0 ≤ s1.toInt ∧ s1.toInt ≤ 99 ∧ 30 ≤ (i 111).toInt ∧ ((-2) : Int32).toInt = -2 ∧ ((i 111) : Int32).toInt = (i 111).toInt) ∨ (0 ≤ k1.toInt ∧ k1.toInt < (i 110).toInt ∧ 0 ≤ s1.toInt ∧ s1.toInt ≤ 99 ∧ (i 111).toInt ≤ 29 ∧ ((-2) : Int32).toInt = (i 111).toInt ∧ ((i 111) : Int32).toInt = (i 111).toInt + 1) from by have h53 : ((-2) : Int32).toInt = -2 := (by decide +kernel); omega), (show OU (c 108) (c 108) k1 s1 (i 110) (i 111) from Or.inl ⟨by omega, rfl⟩)⟩
      · have f4 := mt (ti_le (a := s1.toInt) (b := 99) rfl (by decide +kernel)).mpr c4
        refine lv_iconst (v := (-1)) hx hb dX11_make_21 (by decide +kernel) ?_
        exact rw_iret (i, q, c, d) hx hb hr hlocks hS (hK.sub (tys' := []) [] rfl) hP hD dX11_make_22 ⟨trivial, hI, fr_w hfi (by decide +kernel), fr_w hfc (by decide +kernel), (show xEn (i 146) (i 148) ((i 146) : Int32) ((i 148) : Int32) from Or.inr ⟨rfl, rfl⟩), (show (¬ (0 ≤ k1.toInt ∧ k1.toInt < (i 110).toInt ∧ 0 ≤ s1.toInt ∧ s1.toInt ≤ 99) ∧ ((-1) : Int32).toInt = -1 ∧ ((i 111) : Int32).toInt = (i 111).toInt) ∨ (0 ≤ k1.toInt ∧ k1.toInt < (i 110).toInt ∧ 0 ≤ s1.toInt ∧ s1.toInt ≤ 99 ∧ 30 ≤ (i 111).toInt ∧ ((-1) : Int32).toInt = -2 ∧ ((i 111) : Int32).toInt = (i 111).toInt) ∨ (0 ≤ k1.toInt ∧ k1.toInt < (i 110).toInt ∧ 0 ≤ s1.toInt ∧ s1.toInt ≤ 99 ∧ (i 111).toInt ≤ 29 ∧ ((-1) : Int32).toInt = (i 111).toInt ∧ ((i 111) : Int32).toInt = (i 111).toInt + 1) from by have h53 : ((-1) : Int32).toInt = -1 := (by decide +kernel); omega), (show OU (c 108) (c 108) k1 s1 (i 110) (i 111) from Or.inl ⟨by omega, rfl⟩)⟩

set_option maxHeartbeats 4000000 in
set_option maxRecDepth 100000 in
theorem s_X12_make_e (l : Launch) (D : va_G) (sz : Nat) (o : Nat) (a : Nat → Nat) (t : Nat → ClassId) (i : Nat → Int32) (q : Int64) (c : Nat → Nat → Int32) (d : Nat → Nat → Int64) (k1 : Int32) (s1 : Int32) (hI : mInv i c) (hs_S : SJ (c 3) (c 6) (c 9) (c 10) (c 11) (c 13) (i 2).toInt (i 5).toInt (i 8).toInt) (hs_J : TJ (c 3) (c 6) (c 23) (c 24) (c 29) (c 30) (i 5).toInt (i 22).toInt (i 27).toInt) : Met l yX12_make wm_X12_make ({ frames := 1, cells := 0, slots := 0, locals := 25 }) (va_Pc [.ref o, .int k1, .int s1] (pB D sz (mW o a t i q c d) (mT t))) (va_Qi (fun (r : Int32) (u : MS) => True ∧ mInv u.1 u.2.2.1 ∧ (∀ k, k ∉ ([5, 22, 27] : List Nat) → u.1 k = i k) ∧ (∀ k, k ∉ ([6, 7] : List Nat) → u.2.2.1 k = c k) ∧ (SJ (u.2.2.1 3) (u.2.2.1 6) (u.2.2.1 9) (u.2.2.1 10) (u.2.2.1 11) (u.2.2.1 13) (u.1 2).toInt (u.1 5).toInt (u.1 8).toInt) ∧ (TJ (u.2.2.1 3) (u.2.2.1 6) (u.2.2.1 23) (u.2.2.1 24) (u.2.2.1 29) (u.2.2.1 30) (u.1 5).toInt (u.1 22).toInt (u.1 27).toInt) ∧ ((¬ (0 ≤ k1.toInt ∧ k1.toInt < (i 2).toInt ∧ 0 ≤ s1.toInt ∧ s1.toInt ≤ 99) ∧ r.toInt = -1 ∧ (u.1 5).toInt = (i 5).toInt) ∨ (0 ≤ k1.toInt ∧ k1.toInt < (i 2).toInt ∧ 0 ≤ s1.toInt ∧ s1.toInt ≤ 99 ∧ 30 ≤ (i 5).toInt ∧ r.toInt = -2 ∧ (u.1 5).toInt = (i 5).toInt) ∨ (0 ≤ k1.toInt ∧ k1.toInt < (i 2).toInt ∧ 0 ≤ s1.toInt ∧ s1.toInt ≤ 99 ∧ (i 5).toInt ≤ 29 ∧ r.toInt = (i 5).toInt ∧ (u.1 5).toInt = (i 5).toInt + 1)) ∧ (OU (c 6) (u.2.2.1 6) k1 s1 (i 2) (i 5))) (oC D (va_A (mW o a t i q c d) sz) (fun u : MS => mW o a t u.1 u.2.1 u.2.2.1 u.2.2.2) (fun _ => [])) (va_A (mW o a t i q c d) sz)) 0 0 (va_A (mW o a t i q c d) sz) := by
  refine Met.ofW (cc := cX12_make) (maxL := 3) (ret := (some .int)) (by decide +kernel) rfl ?_
  intro p e s m args below meth cd s₁ B hml hv
  obtain ⟨rfl, hsz, hP, hK, hD0⟩ := hv
  have hx := B.exec
  have hb := B.bytes
  have hr := B.returns
  have hts := atoms_spec (ws := wm_X12_make) B.pre
  have hown : s.vm.findClass RX12 = some m.cls := findClass_of_methodNamed B.named
  have hlocks := B.notSynchronized
  subst hsz
  have hD := hD0.self (sz := s.heap.size)
  generalize hAe : va_A (mW o a t i q c d) s.heap.size = A at hD ⊢
  have hA : ∀ q : Nat, s.heap.size ≤ q → A q := fun q h => by rw [← hAe]; exact Or.inr h
  have hS : va_S A s.heap s.heap [] := va_S.rf
  have hfi : ∀ k, k ∉ ([] : List Nat) → i k = i k := fun _ _ => rfl
  have hfc : ∀ k, k ∉ ([] : List Nat) → c k = c k := fun _ _ => rfl
  have hl := lv_entry ([.ref o, .int k1, .int s1]) (n := 3) (Nat.le_of_ble_eq_true rfl)
  rw [lg_entry_eq]
  generalize (lg_sl ([.ref o, .int k1, .int s1]) ++ List.replicate (3 - (lg_sl ([.ref o, .int k1, .int s1])).length) Slot.unset).toArray = ls at hl ⊢
  have hl : lv_has ls 3 [(0, .ref o), (1, .int k1), (2, .int s1)] := hl
  have hI0 := hI
  have rb2_i : 6 ≤ (i 2).toInt ∧ (i 2).toInt ≤ 24 := hI.1 2
  have rb5_i : 0 ≤ (i 5).toInt ∧ (i 5).toInt ≤ 30 := hI.1 5
  refine lv_iload_n hx hb dX12_make_0 rfl (lv_at hl 1 rfl) ?_
  refine lv_i2l (v := k1.toInt64) hx hb dX12_make_1 rfl ?_
  refine lv_lconst (v := 0) hx hb dX12_make_2 (by decide +kernel) ?_
  refine lv_aload_n hx hb dX12_make_3 rfl (lv_at hl 0 rfl) ?_
  refine mget_2 (v := (i 2)) rfl hx hb hts (fun _ h => List.mem_cons_of_mem _ (List.mem_append_right _ h)) hown hK hP (hts (.fieldLink RX12 151 "TalePlayModel" "kinds" "I") (List.mem_cons_of_mem _ (List.mem_append_left _ (List.mem_of_getElem? (i := 0) rfl)))) dX12_make_4 ?_
  refine lv_iconst (v := 1) hx hb dX12_make_7 (by decide +kernel) ?_
  refine lv_isub hx hb dX12_make_8 ?_
  refine lv_topi (fun x1 ex1 => ?_)
  have tx1 := ti_sub (a := (i 2).toInt) (b := 1) ex1 rfl (by decide +kernel) (by omega) (by omega)
  refine lv_i2l (v := x1.toInt64) hx hb dX12_make_9 rfl ?_
  have hPc := hP.sub (ws' := []) [] rfl
  have hKc := hK.sub (tys' := []) [] rfl
  refine ro_calli (va_runS (As := [.long k1.toInt64, .long 0, .long x1.toInt64]) (rest := []) ⟨hx, hb, hml, hown, hts⟩ (c_X12_in l D s.heap.size k1.toInt64 0 x1.toInt64 k1.toInt 0 ((i 2).toInt - 1) ((Int32.toInt_toInt64 k1).trans rfl) (by decide +kernel) ((Int32.toInt_toInt64 x1).trans tx1)) (va_cwS 3 hts gm_X12_make_X12_in rfl rfl rfl (by decide +kernel) ⟨Nat.le_of_ble_eq_true rfl, Nat.le_of_ble_eq_true rfl⟩) (pA_S hKc hPc) rfl rfl hl.1 rfl (lv_room (Nat.le_of_ble_eq_true rfl)) dX12_make_10 ⟨Nat.le_of_ble_eq_true rfl, Nat.le_of_ble_eq_true rfl⟩) hS hA hP (fun r2 u2 H locs hw2 hP hS => ?_)
  have hw2 : r2 = if (0 ≤ k1.toInt ∧ k1.toInt ≤ ((i 2).toInt - 1)) then 1 else 0 := hw2
  refine lv_if_eq (tgt := 28) hx hb dX12_make_13 (by decide +kernel) (fun c3 => ?_) (fun c3 => ?_)
  · have f3 := fl_f hw2 c3
    refine lv_iconst (v := (-1)) hx hb dX12_make_28 (by decide +kernel) ?_
    exact rw_iret (i, q, c, d) hx hb hr hlocks hS (hK.sub (tys' := []) [] rfl) hP hD dX12_make_29 ⟨trivial, hI, fr_w hfi (by decide +kernel), fr_w hfc (by decide +kernel), (show SJ (c 3) (c 6) (c 9) (c 10) (c 11) (c 13) ((i 2) : Int32).toInt ((i 5) : Int32).toInt ((i 8) : Int32).toInt from hs_S), (show TJ (c 3) (c 6) (c 23) (c 24) (c 29) (c 30) ((i 5) : Int32).toInt ((i 22) : Int32).toInt ((i 27) : Int32).toInt from hs_J), (show (¬ (0 ≤ k1.toInt ∧ k1.toInt < (i 2).toInt ∧ 0 ≤ s1.toInt ∧ s1.toInt ≤ 99) ∧ ((-1) : Int32).toInt = -1 ∧ ((i 5) : Int32).toInt = (i 5).toInt) ∨ (0 ≤ k1.toInt ∧ k1.toInt < (i 2).toInt ∧ 0 ≤ s1.toInt ∧ s1.toInt ≤ 99 ∧ 30 ≤ (i 5).toInt ∧ ((-1) : Int32).toInt = -2 ∧ ((i 5) : Int32).toInt = (i 5).toInt) ∨ (0 ≤ k1.toInt ∧ k1.toInt < (i 2).toInt ∧ 0 ≤ s1.toInt ∧ s1.toInt ≤ 99 ∧ (i 5).toInt ≤ 29 ∧ ((-1) : Int32).toInt = (i 5).toInt ∧ ((i 5) : Int32).toInt = (i 5).toInt + 1) from by have h53 : ((-1) : Int32).toInt = -1 := (by decide +kernel); omega), (show OU (c 6) (c 6) k1 s1 (i 2) (i 5) from Or.inl ⟨by omega, rfl⟩)⟩
  · have f3 := fl_t hw2 c3
    refine lv_iload_n hx hb dX12_make_16 rfl (lv_at hl 2 rfl) ?_
    refine lv_i2l (v := s1.toInt64) hx hb dX12_make_17 rfl ?_
    refine lv_lconst (v := 0) hx hb dX12_make_18 (by decide +kernel) ?_
    refine lv_ldc2 (v := 99) hx hb hown (hts (.constantLong RX12 175 (99)) (List.mem_cons_of_mem _ (List.mem_append_left _ (List.mem_of_getElem? (i := 5) rfl)))) dX12_make_19 ?_
    have hPc := hP.sub (ws' := []) [] rfl
    have hKc := hK.sub (tys' := []) [] rfl
    refine ro_calli (va_runS (As := [.long s1.toInt64, .long 0, .long 99]) (rest := []) ⟨hx, hb, hml, hown, hts⟩ (c_X12_in l D H.size s1.toInt64 0 99 s1.toInt 0 99 ((Int32.toInt_toInt64 s1).trans rfl) (by decide +kernel) (by decide +kernel)) (va_cwS 3 hts gm_X12_make_X12_in rfl rfl rfl (by decide +kernel) ⟨Nat.le_of_ble_eq_true rfl, Nat.le_of_ble_eq_true rfl⟩) (pA_S hKc hPc) rfl rfl hl.1 rfl (lv_room (Nat.le_of_ble_eq_true rfl)) dX12_make_22 ⟨Nat.le_of_ble_eq_true rfl, Nat.le_of_ble_eq_true rfl⟩) hS hA hP (fun r4 u4 H locs hw4 hP hS => ?_)
    have hw4 : r4 = if (0 ≤ s1.toInt ∧ s1.toInt ≤ 99) then 1 else 0 := hw4
    refine lv_if_ne (tgt := 30) hx hb dX12_make_25 (by decide +kernel) (fun c5 => ?_) (fun c5 => ?_)
    · have f5 := fl_t hw4 c5
      refine lv_aload_n hx hb dX12_make_30 rfl (lv_at hl 0 rfl) ?_
      refine mget_5 (v := (i 5)) rfl hx hb hts (fun _ h => List.mem_cons_of_mem _ (List.mem_append_right _ h)) hown hK hP (hts (.fieldLink RX12 177 "TalePlayModel" "objects" "I") (List.mem_cons_of_mem _ (List.mem_append_left _ (List.mem_of_getElem? (i := 6) rfl)))) dX12_make_31 ?_
      refine lv_bipush (v := 30) hx hb dX12_make_34 (by decide +kernel) ?_
      refine lv_icmp_ne (tgt := 42) hx hb dX12_make_36 (by decide +kernel) (fun c6 => ?_) (fun c6 => ?_)
      · have f6 := mt (ti_eq (a := (i 5).toInt) (b := 30) rfl (by decide +kernel)).mpr c6
        refine lv_aload_n hx hb dX12_make_42 rfl (lv_at hl 0 rfl) ?_
        refine mget_6 hx hb hts (fun _ h => List.mem_cons_of_mem _ (List.mem_append_right _ h)) hown hK hP (hts (.fieldLink RX12 19 "TalePlayModel" "kindOf" "[I") (List.mem_cons_of_mem _ (List.mem_append_left _ (List.mem_of_getElem? (i := 7) rfl)))) dX12_make_43 ?_
        refine lv_aload_n hx hb dX12_make_46 rfl (lv_at hl 0 rfl) ?_
        refine mget_5 (v := (i 5)) rfl hx hb hts (fun _ h => List.mem_cons_of_mem _ (List.mem_append_right _ h)) hown hK hP (hts (.fieldLink RX12 177 "TalePlayModel" "objects" "I") (List.mem_cons_of_mem _ (List.mem_append_left _ (List.mem_of_getElem? (i := 6) rfl)))) dX12_make_47 ?_
        refine lv_iload_n hx hb dX12_make_50 rfl (lv_at hl 1 rfl) ?_
        refine mst_6 hx hb hK hP hD hS (vp_in_iff.mpr (by have h9 : (i 5).toInt = (i 5).toInt := rfl; omega)) dX12_make_51 (fun H locs hP hD hS => ?_)
        have hI := mInv_c hI (k := 6) (j := ((i 5) : Int32).toNatClampNeg) (x := k1) (show 0 ≤ (k1 : Int32).toInt ∧ (k1 : Int32).toInt ≤ 23 from by omega)
        have hfc : ∀ k, k ∉ ([6] : List Nat) → (updA c 6 ((i 5) : Int32).toNatClampNeg k1) k = c k := fr_cz hfc (by decide +kernel) (by decide +kernel)
        refine lv_aload_n hx hb dX12_make_52 rfl (lv_at hl 0 rfl) ?_
        refine mget_7 hx hb hts (fun _ h => List.mem_cons_of_mem _ (List.mem_append_right _ h)) hown hK hP (hts (.fieldLink RX12 22 "TalePlayModel" "sizeOf" "[I") (List.mem_cons_of_mem _ (List.mem_append_left _ (List.mem_of_getElem? (i := 8) rfl)))) dX12_make_53 ?_
        refine lv_aload_n hx hb dX12_make_56 rfl (lv_at hl 0 rfl) ?_
        refine mget_5 (v := (i 5)) rfl hx hb hts (fun _ h => List.mem_cons_of_mem _ (List.mem_append_right _ h)) hown hK hP (hts (.fieldLink RX12 177 "TalePlayModel" "objects" "I") (List.mem_cons_of_mem _ (List.mem_append_left _ (List.mem_of_getElem? (i := 6) rfl)))) dX12_make_57 ?_
        refine lv_iload_n hx hb dX12_make_60 rfl (lv_at hl 2 rfl) ?_
        refine mst_7 hx hb hK hP hD hS (vp_in_iff.mpr (by have h9 : (i 5).toInt = (i 5).toInt := rfl; omega)) dX12_make_61 (fun H locs hP hD hS => ?_)
        have hI := mInv_c hI (k := 7) (j := ((i 5) : Int32).toNatClampNeg) (x := s1) (show 0 ≤ (s1 : Int32).toInt ∧ (s1 : Int32).toInt ≤ 99 from by omega)
        have hfc : ∀ k, k ∉ ([6, 7] : List Nat) → (updA (updA c 6 ((i 5) : Int32).toNatClampNeg k1) 7 ((i 5) : Int32).toNatClampNeg s1) k = c k := fr_cz hfc (by decide +kernel) (by decide +kernel)
        refine lv_aload_n hx hb dX12_make_62 rfl (lv_at hl 0 rfl) ?_
        refine lv_dup hx hb dX12_make_63 rfl ?_
        refine mget_5 (v := (i 5)) rfl hx hb hts (fun _ h => List.mem_cons_of_mem _ (List.mem_append_right _ h)) hown hK hP (hts (.fieldLink RX12 177 "TalePlayModel" "objects" "I") (List.mem_cons_of_mem _ (List.mem_append_left _ (List.mem_of_getElem? (i := 6) rfl)))) dX12_make_64 ?_
        refine lv_iconst (v := 1) hx hb dX12_make_67 (by decide +kernel) ?_
        refine lv_iadd hx hb dX12_make_68 ?_
        refine lv_topi (fun x7 ex7 => ?_)
        have tx7 := ti_add (a := (i 5).toInt) (b := 1) ex7 rfl (by decide +kernel) (by omega) (by omega)
        refine mput_5 hx hb hts (fun _ h => List.mem_cons_of_mem _ (List.mem_append_right _ h)) hown hK hP hD hS (hts (.fieldLink RX12 177 "TalePlayModel" "objects" "I") (List.mem_cons_of_mem _ (List.mem_append_left _ (List.mem_of_getElem? (i := 6) rfl)))) rfl rfl dX12_make_69 (fun H locs hP hD hS => ?_)
        have hI := mInv_i hI (k := 5) (v := x7) (show 0 ≤ (x7 : Int32).toInt ∧ (x7 : Int32).toInt ≤ 30 from by have h9 : x7.toInt = ((i 5).toInt + 1) := tx7; omega)
        have hfi : ∀ k, k ∉ ([5] : List Nat) → (upd i 5 x7) k = i k := fr_iz hfi (by decide +kernel) (by decide +kernel)
        refine lv_aload_n hx hb dX12_make_72 rfl (lv_at hl 0 rfl) ?_
        refine al_callv (va_runV (As := []) (rest := []) ⟨hx, hb, hml, hown, hts⟩ (s_X12_endTale l D H.size o a t (upd i 5 x7) q (updA (updA c 6 ((i 5) : Int32).toNatClampNeg k1) 7 ((i 5) : Int32).toNatClampNeg s1) d  hI ) (cwV 0 hts gm_X12_make_X12_endTale rfl rfl rfl (by decide +kernel) ⟨Nat.le_of_ble_eq_true rfl, Nat.le_of_ble_eq_true rfl⟩) (pB_V hK hP hD (ci := 12) (q0 := 0) rfl rfl) rfl rfl hl.1 rfl (lv_room (Nat.le_of_ble_eq_true rfl)) dX12_make_73 ⟨Nat.le_of_ble_eq_true rfl, Nat.le_of_ble_eq_true rfl⟩) hS hA hP hD (fun u8 H locs hw8 hP hD hS => ?_)
        obtain ⟨i8, q8, c8, d8⟩ := u8
        have hw8 : True ∧ mInv i8 c8 ∧ (∀ k, k ∉ ([22, 27] : List Nat) → i8 k = (upd i 5 x7) k) ∧ (∀ k, k ∉ ([] : List Nat) → c8 k = (updA (updA c 6 ((i 5) : Int32).toNatClampNeg k1) 7 ((i 5) : Int32).toNatClampNeg s1) k) ∧ ((i8 22).toInt = -9) ∧ ((i8 27).toInt = 0) := hw8
        obtain ⟨hw8, hI, hei8, hec8, hxp8_0, hxp8_1⟩ := hw8
        have hxp8_0 : (i8 22).toInt = -9 := hxp8_0
        have hxp8_1 : (i8 27).toInt = 0 := hxp8_1
        have hfi : ∀ k, k ∉ ([5, 22, 27] : List Nat) → i8 k = i k := fr_z hfi hei8 (by decide +kernel) (by decide +kernel)
        have hfc : ∀ k, k ∉ ([6, 7] : List Nat) → c8 k = c k := fr_z hfc hec8 (by decide +kernel) (by decide +kernel)
        have hP : va_P D vwCl (mW o a t i8 q8 c8 d8) H := hP
        have hD : va_D A (mW o a t i8 q8 c8 d8) := hD
        have hob9 : (i8 5).toInt = (i 5).toInt + 1 := by rw [show i8 5 = (upd i 5 x7) 5 from hei8 5 (by decide +kernel)]; exact tx7
        refine lv_aload_n hx hb dX12_make_76 rfl (lv_at hl 0 rfl) ?_
        refine mget_5 (v := (i8 5)) rfl hx hb hts (fun _ h => List.mem_cons_of_mem _ (List.mem_append_right _ h)) hown hK hP (hts (.fieldLink RX12 177 "TalePlayModel" "objects" "I") (List.mem_cons_of_mem _ (List.mem_append_left _ (List.mem_of_getElem? (i := 6) rfl)))) dX12_make_77 ?_
        have rb5_i8 : 0 ≤ (i8 5).toInt ∧ (i8 5).toInt ≤ 30 := hI.1 5
        refine lv_iconst (v := 1) hx hb dX12_make_80 (by decide +kernel) ?_
        refine lv_isub hx hb dX12_make_81 ?_
        refine lv_topi (fun x9 ex9 => ?_)
        have tx9 := ti_sub (a := (i8 5).toInt) (b := 1) ex9 rfl (by decide +kernel) (by omega) (by omega)
        exact rw_iret (i8, q8, c8, d8) hx hb hr hlocks hS (hK.sub (tys' := []) [] rfl) hP hD dX12_make_82 ⟨trivial, hI, fr_w hfi (by decide +kernel), fr_w hfc (by decide +kernel), (show SJ (c8 3) (c8 6) (c8 9) (c8 10) (c8 11) (c8 13) ((i8 2) : Int32).toInt ((i8 5) : Int32).toInt ((i8 8) : Int32).toInt from by rw [show c8 3 = (updA (updA c 6 ((i 5) : Int32).toNatClampNeg k1) 7 ((i 5) : Int32).toNatClampNeg s1) 3 from hec8 3 (by decide +kernel), show c8 6 = (updA (updA c 6 ((i 5) : Int32).toNatClampNeg k1) 7 ((i 5) : Int32).toNatClampNeg s1) 6 from hec8 6 (by decide +kernel), show c8 9 = (updA (updA c 6 ((i 5) : Int32).toNatClampNeg k1) 7 ((i 5) : Int32).toNatClampNeg s1) 9 from hec8 9 (by decide +kernel), show c8 10 = (updA (updA c 6 ((i 5) : Int32).toNatClampNeg k1) 7 ((i 5) : Int32).toNatClampNeg s1) 10 from hec8 10 (by decide +kernel), show c8 11 = (updA (updA c 6 ((i 5) : Int32).toNatClampNeg k1) 7 ((i 5) : Int32).toNatClampNeg s1) 11 from hec8 11 (by decide +kernel), show c8 13 = (updA (updA c 6 ((i 5) : Int32).toNatClampNeg k1) 7 ((i 5) : Int32).toNatClampNeg s1) 13 from hec8 13 (by decide +kernel), show i8 2 = (upd i 5 x7) 2 from hei8 2 (by decide +kernel), show i8 5 = (upd i 5 x7) 5 from hei8 5 (by decide +kernel), show i8 8 = (upd i 5 x7) 8 from hei8 8 (by decide +kernel)]; show SJ (c 3) (upd (c 6) ((i 5) : Int32).toNatClampNeg k1) (c 9) (c 10) (c 11) (c 13) (i 2).toInt x7.toInt (i 8).toInt; rw [tx7]; exact SJ_make (N := (i 5).toInt) hs_S (by omega) (by omega) (mI_le hI0) (fun o => (mI_mi hI0 o).1)), (show TJ (c8 3) (c8 6) (c8 23) (c8 24) (c8 29) (c8 30) ((i8 5) : Int32).toInt ((i8 22) : Int32).toInt ((i8 27) : Int32).toInt from TJ_no hxp8_0), (show (¬ (0 ≤ k1.toInt ∧ k1.toInt < (i 2).toInt ∧ 0 ≤ s1.toInt ∧ s1.toInt ≤ 99) ∧ (x9 : Int32).toInt = -1 ∧ ((i8 5) : Int32).toInt = (i 5).toInt) ∨ (0 ≤ k1.toInt ∧ k1.toInt < (i 2).toInt ∧ 0 ≤ s1.toInt ∧ s1.toInt ≤ 99 ∧ 30 ≤ (i 5).toInt ∧ (x9 : Int32).toInt = -2 ∧ ((i8 5) : Int32).toInt = (i 5).toInt) ∨ (0 ≤ k1.toInt ∧ k1.toInt < (i 2).toInt ∧ 0 ≤ s1.toInt ∧ s1.toInt ≤ 99 ∧ (i 5).toInt ≤ 29 ∧ (x9 : Int32).toInt = (i 5).toInt ∧ ((i8 5) : Int32).toInt = (i 5).toInt + 1) from by have h53 : x9.toInt = ((i8 5).toInt - 1) := tx9; omega), (show OU (c 6) (c8 6) k1 s1 (i 2) (i 5) from Or.inr ⟨by omega, by omega, by omega, by omega, by omega, by rw [show c8 6 = (updA (updA c 6 ((i 5) : Int32).toNatClampNeg k1) 7 ((i 5) : Int32).toNatClampNeg s1) 6 from hec8 6 (by decide +kernel)]; rfl⟩)⟩
      · have f6 := (ti_eq (a := (i 5).toInt) (b := 30) rfl (by decide +kernel)).mp c6
        refine lv_bipush (v := (-2)) hx hb dX12_make_39 (by decide +kernel) ?_
        exact rw_iret (i, q, c, d) hx hb hr hlocks hS (hK.sub (tys' := []) [] rfl) hP hD dX12_make_41 ⟨trivial, hI, fr_w hfi (by decide +kernel), fr_w hfc (by decide +kernel), (show SJ (c 3) (c 6) (c 9) (c 10) (c 11) (c 13) ((i 2) : Int32).toInt ((i 5) : Int32).toInt ((i 8) : Int32).toInt from hs_S), (show TJ (c 3) (c 6) (c 23) (c 24) (c 29) (c 30) ((i 5) : Int32).toInt ((i 22) : Int32).toInt ((i 27) : Int32).toInt from hs_J), (show (¬ (0 ≤ k1.toInt ∧ k1.toInt < (i 2).toInt ∧ 0 ≤ s1.toInt ∧ s1.toInt ≤ 99) ∧ ((-2) : Int32).toInt = -1 ∧ ((i 5) : Int32).toInt = (i 5).toInt) ∨ (0 ≤ k1.toInt ∧ k1.toInt < (i 2).toInt ∧ 0 ≤ s1.toInt ∧ s1.toInt ≤ 99 ∧ 30 ≤ (i 5).toInt ∧ ((-2) : Int32).toInt = -2 ∧ ((i 5) : Int32).toInt = (i 5).toInt) ∨ (0 ≤ k1.toInt ∧ k1.toInt < (i 2).toInt ∧ 0 ≤ s1.toInt ∧ s1.toInt ≤ 99 ∧ (i 5).toInt ≤ 29 ∧ ((-2) : Int32).toInt = (i 5).toInt ∧ ((i 5) : Int32).toInt = (i 5).toInt + 1) from by have h53 : ((-2) : Int32).toInt = -2 := (by decide +kernel); omega), (show OU (c 6) (c 6) k1 s1 (i 2) (i 5) from Or.inl ⟨by omega, rfl⟩)⟩
    · have f5 := fl_f hw4 c5
      refine lv_iconst (v := (-1)) hx hb dX12_make_28 (by decide +kernel) ?_
      exact rw_iret (i, q, c, d) hx hb hr hlocks hS (hK.sub (tys' := []) [] rfl) hP hD dX12_make_29 ⟨trivial, hI, fr_w hfi (by decide +kernel), fr_w hfc (by decide +kernel), (show SJ (c 3) (c 6) (c 9) (c 10) (c 11) (c 13) ((i 2) : Int32).toInt ((i 5) : Int32).toInt ((i 8) : Int32).toInt from hs_S), (show TJ (c 3) (c 6) (c 23) (c 24) (c 29) (c 30) ((i 5) : Int32).toInt ((i 22) : Int32).toInt ((i 27) : Int32).toInt from hs_J), (show (¬ (0 ≤ k1.toInt ∧ k1.toInt < (i 2).toInt ∧ 0 ≤ s1.toInt ∧ s1.toInt ≤ 99) ∧ ((-1) : Int32).toInt = -1 ∧ ((i 5) : Int32).toInt = (i 5).toInt) ∨ (0 ≤ k1.toInt ∧ k1.toInt < (i 2).toInt ∧ 0 ≤ s1.toInt ∧ s1.toInt ≤ 99 ∧ 30 ≤ (i 5).toInt ∧ ((-1) : Int32).toInt = -2 ∧ ((i 5) : Int32).toInt = (i 5).toInt) ∨ (0 ≤ k1.toInt ∧ k1.toInt < (i 2).toInt ∧ 0 ≤ s1.toInt ∧ s1.toInt ≤ 99 ∧ (i 5).toInt ≤ 29 ∧ ((-1) : Int32).toInt = (i 5).toInt ∧ ((i 5) : Int32).toInt = (i 5).toInt + 1) from by have h53 : ((-1) : Int32).toInt = -1 := (by decide +kernel); omega), (show OU (c 6) (c 6) k1 s1 (i 2) (i 5) from Or.inl ⟨by omega, rfl⟩)⟩

def wm_X3_open_e : List Cond := .code yX3_open cX3_open 3 (some .int) :: (([.fieldLink RX3 9 "TalePlay$Casts" "sorts" "[I", .fieldLink RX3 27 "TalePlay$Casts" "made" "I", .fieldLink RX3 15 "TalePlay$Casts" "lengths" "[I"] : List Cond) ++ wsX30)
set_option maxHeartbeats 4000000 in
set_option maxRecDepth 100000 in
theorem x_X3_open_e (l : Launch) (D : va_G) (sz : Nat) (sk : Value) (a : Nat → Nat) (t : Nat → ClassId) (i : Nat → Int32) (q : Int64) (c : Nat → Nat → Int32) (d : Nat → Nat → Int64) (s1 : Int32) (n1 : Int32) (hI : xInv i c) (hs1 : 1 ≤ s1.toInt ∧ s1.toInt ≤ 5) (hn1 : 0 ≤ n1.toInt ∧ n1.toInt ≤ 12) (hm : (i 165).toInt ≤ 9) : Met l yX3_open wm_X3_open_e ({ frames := 0, cells := 0, slots := 0, locals := 0 }) (va_Pc [.ref (a 161), .int s1, .int n1] (yB (a 186) D sz (xwT sk a t i q c d) (xtT t))) (va_Qi (fun (r : Int32) (u : MS) => (r.toInt = (i 165).toInt) ∧ xInv u.1 u.2.2.1 ∧ (∀ k, k ∉ ([165] : List Nat) → u.1 k = i k) ∧ (∀ k, k ∉ ([162, 163] : List Nat) → u.2.2.1 k = c k) ∧ ((u.1 165).toInt = (i 165).toInt + 1)) (oC D (va_A (xwT sk a t i q c d) sz) (fun u : MS => xwT sk a t u.1 u.2.1 u.2.2.1 u.2.2.2) (fun _ => [])) (va_A (xwT sk a t i q c d) sz)) 0 0 (va_A (xwT sk a t i q c d) sz) := by
  refine Met.ofW (cc := cX3_open) (maxL := 3) (ret := (some .int)) (by decide +kernel) rfl ?_
  intro p e s m args below meth cd s₁ B hml hv
  obtain ⟨rfl, ⟨hsz, hP, hK, hD0⟩, hN, hZ, hBW⟩ := hv
  have hx := B.exec
  have hb := B.bytes
  have hr := B.returns
  have hts := atoms_spec (ws := wm_X3_open_e) B.pre
  have hown : s.vm.findClass RX3 = some m.cls := findClass_of_methodNamed B.named
  have hlocks := B.notSynchronized
  subst hsz
  have hD := hD0.self (sz := s.heap.size)
  have hZ := xZ_A hZ hP hBW
  generalize hAe : va_A (xwT sk a t i q c d) s.heap.size = A at hD hZ ⊢
  have hA : ∀ q : Nat, s.heap.size ≤ q → A q := fun q h => by rw [← hAe]; exact Or.inr h
  have hS : va_S A s.heap s.heap [] := va_S.rf
  have hfi : ∀ k, k ∉ ([] : List Nat) → i k = i k := fun _ _ => rfl
  have hfc : ∀ k, k ∉ ([] : List Nat) → c k = c k := fun _ _ => rfl
  have hl := lv_entry ([.ref (a 161), .int s1, .int n1]) (n := 3) (Nat.le_of_ble_eq_true rfl)
  rw [lg_entry_eq]
  generalize (lg_sl ([.ref (a 161), .int s1, .int n1]) ++ List.replicate (3 - (lg_sl ([.ref (a 161), .int s1, .int n1])).length) Slot.unset).toArray = ls at hl ⊢
  have hl : lv_has ls 3 [(0, .ref (a 161)), (1, .int s1), (2, .int n1)] := hl
  refine lv_aload_n hx hb dX3_open_0 rfl (lv_at hl 0 rfl) ?_
  refine xgT_C_sorts hx hb hts (fun _ h => List.mem_cons_of_mem _ (List.mem_append_right _ h)) hown hK hP (hts (.fieldLink RX3 9 "TalePlay$Casts" "sorts" "[I") (List.mem_cons_of_mem _ (List.mem_append_left _ (List.mem_of_getElem? (i := 0) rfl)))) dX3_open_1 ?_
  refine lv_aload_n hx hb dX3_open_4 rfl (lv_at hl 0 rfl) ?_
  refine xgT_C_made (v := (i 165)) rfl hx hb hts (fun _ h => List.mem_cons_of_mem _ (List.mem_append_right _ h)) hown hK hP (hts (.fieldLink RX3 27 "TalePlay$Casts" "made" "I") (List.mem_cons_of_mem _ (List.mem_append_left _ (List.mem_of_getElem? (i := 1) rfl)))) dX3_open_5 ?_
  have rb165_i : 0 ≤ (i 165).toInt ∧ (i 165).toInt ≤ 10 := hI.1 165
  refine lv_iload_n hx hb dX3_open_8 rfl (lv_at hl 1 rfl) ?_
  refine xsT_162 hx hb hK hP hD hS (vp_in_iff.mpr (by have h9 : (i 165).toInt = (i 165).toInt := rfl; omega)) dX3_open_9 (fun H locs hP hD hS => ?_)
  have hI := xInv_c hI (k := 162) (j := ((i 165) : Int32).toNatClampNeg) (x := s1) (show 0 ≤ (s1 : Int32).toInt ∧ (s1 : Int32).toInt ≤ 5 from by omega)
  have hfc : ∀ k, k ∉ ([162] : List Nat) → (updA c 162 ((i 165) : Int32).toNatClampNeg s1) k = c k := fr_cz hfc (by decide +kernel) (by decide +kernel)
  refine lv_aload_n hx hb dX3_open_10 rfl (lv_at hl 0 rfl) ?_
  refine xgT_C_lengths hx hb hts (fun _ h => List.mem_cons_of_mem _ (List.mem_append_right _ h)) hown hK hP (hts (.fieldLink RX3 15 "TalePlay$Casts" "lengths" "[I") (List.mem_cons_of_mem _ (List.mem_append_left _ (List.mem_of_getElem? (i := 2) rfl)))) dX3_open_11 ?_
  refine lv_aload_n hx hb dX3_open_14 rfl (lv_at hl 0 rfl) ?_
  refine xgT_C_made (v := (i 165)) rfl hx hb hts (fun _ h => List.mem_cons_of_mem _ (List.mem_append_right _ h)) hown hK hP (hts (.fieldLink RX3 27 "TalePlay$Casts" "made" "I") (List.mem_cons_of_mem _ (List.mem_append_left _ (List.mem_of_getElem? (i := 1) rfl)))) dX3_open_15 ?_
  refine lv_iload_n hx hb dX3_open_18 rfl (lv_at hl 2 rfl) ?_
  refine xsT_163 hx hb hK hP hD hS (vp_in_iff.mpr (by have h9 : (i 165).toInt = (i 165).toInt := rfl; omega)) dX3_open_19 (fun H locs hP hD hS => ?_)
  have hI := xInv_c hI (k := 163) (j := ((i 165) : Int32).toNatClampNeg) (x := n1) (show 0 ≤ (n1 : Int32).toInt ∧ (n1 : Int32).toInt ≤ 12 from by omega)
  have hfc : ∀ k, k ∉ ([162, 163] : List Nat) → (updA (updA c 162 ((i 165) : Int32).toNatClampNeg s1) 163 ((i 165) : Int32).toNatClampNeg n1) k = c k := fr_cz hfc (by decide +kernel) (by decide +kernel)
  refine lv_aload_n hx hb dX3_open_20 rfl (lv_at hl 0 rfl) ?_
  refine lv_dup hx hb dX3_open_21 rfl ?_
  refine xgT_C_made (v := (i 165)) rfl hx hb hts (fun _ h => List.mem_cons_of_mem _ (List.mem_append_right _ h)) hown hK hP (hts (.fieldLink RX3 27 "TalePlay$Casts" "made" "I") (List.mem_cons_of_mem _ (List.mem_append_left _ (List.mem_of_getElem? (i := 1) rfl)))) dX3_open_22 ?_
  refine lv_dup_x1 hx hb dX3_open_25 rfl rfl ?_
  refine lv_iconst (v := 1) hx hb dX3_open_26 (by decide +kernel) ?_
  refine lv_iadd hx hb dX3_open_27 ?_
  refine lv_topi (fun x1 ex1 => ?_)
  have tx1 := ti_add (a := (i 165).toInt) (b := 1) ex1 rfl (by decide +kernel) (by omega) (by omega)
  refine xpT_C_made hx hb hts (fun _ h => List.mem_cons_of_mem _ (List.mem_append_right _ h)) hown hK hP hD hS (hts (.fieldLink RX3 27 "TalePlay$Casts" "made" "I") (List.mem_cons_of_mem _ (List.mem_append_left _ (List.mem_of_getElem? (i := 1) rfl)))) rfl rfl dX3_open_28 (fun H locs hP hD hS => ?_)
  have hI := xInv_i hI (k := 165) (v := x1) (show 0 ≤ (x1 : Int32).toInt ∧ (x1 : Int32).toInt ≤ 10 from by have h9 : x1.toInt = ((i 165).toInt + 1) := tx1; omega)
  have hfi : ∀ k, k ∉ ([165] : List Nat) → (upd i 165 x1) k = i k := fr_iz hfi (by decide +kernel) (by decide +kernel)
  exact rw_iret ((upd i 165 x1), q, (updA (updA c 162 ((i 165) : Int32).toNatClampNeg s1) 163 ((i 165) : Int32).toNatClampNeg n1), d) hx hb hr hlocks hS (hK.sub (tys' := []) [] rfl) hP hD dX3_open_31 ⟨(show (i 165).toInt = (i 165).toInt from by omega), hI, fr_w hfi (by decide +kernel), fr_w hfc (by decide +kernel), (show (x1 : Int32).toInt = (i 165).toInt + 1 from by have h50 : x1.toInt = ((i 165).toInt + 1) := tx1; omega)⟩

def wm_X11_cast_e : List Cond := .code yX11_cast cX11_cast 3 (some .int) :: ((([.fieldLink RX11 60 "TalePlay" "casts" "LTalePlay$Casts;", .fieldLink RX11 334 "TalePlay$Casts" "made" "I", .methodLink RX11 337 yX3_open, .instanceMethod yX3_open, .selects RX3 yX3_open yX3_open, .initialized RX3, .code yX3_open cX3_open 3 (some .int), .fieldLink RX3 9 "TalePlay$Casts" "sorts" "[I", .fieldLink RX3 27 "TalePlay$Casts" "made" "I", .fieldLink RX3 15 "TalePlay$Casts" "lengths" "[I", .methodLink RX11 128 yX11_answerFinding, .instanceMethod yX11_answerFinding, .selects RX11 yX11_answerFinding yX11_answerFinding, .initialized RX11, .code yX11_answerFinding cX11_answerFinding 2 (some .int), .fieldLink RX11 72 "TalePlay" "latestFinding" "I"] : List Cond) ++ ([.fieldLink RX11 68 "TalePlay" "findingCounts" "[I"] : List Cond)) ++ wsX110 ++ wsX30)
set_option maxRecDepth 20000 in
theorem gm_X11_cast_e_X3_open_e_337 : GoodIn wm_X11_cast_e (wsV RX11 337 RX3 yX3_open wm_X3_open_e) := goodIn_w (List.forall_mem_append.mpr ⟨List.forall_mem_cons.mpr ⟨List.mem_cons_of_mem _ (List.mem_append_left _ (List.mem_append_left _ (List.mem_append_left _ (List.mem_of_getElem? (i := 2) rfl)))), List.forall_mem_cons.mpr ⟨List.mem_cons_of_mem _ (List.mem_append_left _ (List.mem_append_left _ (List.mem_append_left _ (List.mem_of_getElem? (i := 3) rfl)))), List.forall_mem_cons.mpr ⟨List.mem_cons_of_mem _ (List.mem_append_left _ (List.mem_append_left _ (List.mem_append_left _ (List.mem_of_getElem? (i := 4) rfl)))), List.forall_mem_cons.mpr ⟨List.mem_cons_of_mem _ (List.mem_append_left _ (List.mem_append_left _ (List.mem_append_left _ (List.mem_of_getElem? (i := 5) rfl)))), (fun _ h => absurd h List.not_mem_nil)⟩⟩⟩⟩, List.forall_mem_cons.mpr ⟨List.mem_cons_of_mem _ (List.mem_append_left _ (List.mem_append_left _ (List.mem_append_left _ (List.mem_of_getElem? (i := 6) rfl)))), List.forall_mem_append.mpr ⟨List.forall_mem_cons.mpr ⟨List.mem_cons_of_mem _ (List.mem_append_left _ (List.mem_append_left _ (List.mem_append_left _ (List.mem_of_getElem? (i := 7) rfl)))), List.forall_mem_cons.mpr ⟨List.mem_cons_of_mem _ (List.mem_append_left _ (List.mem_append_left _ (List.mem_append_left _ (List.mem_of_getElem? (i := 8) rfl)))), List.forall_mem_cons.mpr ⟨List.mem_cons_of_mem _ (List.mem_append_left _ (List.mem_append_left _ (List.mem_append_left _ (List.mem_of_getElem? (i := 9) rfl)))), (fun _ h => absurd h List.not_mem_nil)⟩⟩⟩, (fun _ h => List.mem_cons_of_mem _ (List.mem_append_right _ h))⟩⟩⟩) (by decide +kernel)
set_option maxRecDepth 20000 in
theorem gm_X11_cast_e_X11_answerFinding_128 : GoodIn wm_X11_cast_e (wsV RX11 128 RX11 yX11_answerFinding wm_X11_answerFinding) := goodIn_w (List.forall_mem_append.mpr ⟨List.forall_mem_cons.mpr ⟨List.mem_cons_of_mem _ (List.mem_append_left _ (List.mem_append_left _ (List.mem_append_left _ (List.mem_of_getElem? (i := 10) rfl)))), List.forall_mem_cons.mpr ⟨List.mem_cons_of_mem _ (List.mem_append_left _ (List.mem_append_left _ (List.mem_append_left _ (List.mem_of_getElem? (i := 11) rfl)))), List.forall_mem_cons.mpr ⟨List.mem_cons_of_mem _ (List.mem_append_left _ (List.mem_append_left _ (List.mem_append_left _ (List.mem_of_getElem? (i := 12) rfl)))), List.forall_mem_cons.mpr ⟨List.mem_cons_of_mem _ (List.mem_append_left _ (List.mem_append_left _ (List.mem_append_left _ (List.mem_of_getElem? (i := 13) rfl)))), (fun _ h => absurd h List.not_mem_nil)⟩⟩⟩⟩, List.forall_mem_cons.mpr ⟨List.mem_cons_of_mem _ (List.mem_append_left _ (List.mem_append_left _ (List.mem_append_left _ (List.mem_of_getElem? (i := 14) rfl)))), List.forall_mem_append.mpr ⟨List.forall_mem_cons.mpr ⟨List.mem_cons_of_mem _ (List.mem_append_left _ (List.mem_append_left _ (List.mem_append_left _ (List.mem_of_getElem? (i := 15) rfl)))), List.forall_mem_cons.mpr ⟨List.mem_cons_of_mem _ (List.mem_append_left _ (List.mem_append_left _ (List.mem_append_right _ (List.mem_of_getElem? (i := 0) rfl)))), (fun _ h => absurd h List.not_mem_nil)⟩⟩, (fun _ h => List.mem_cons_of_mem _ (List.mem_append_left _ (List.mem_append_right _ h)))⟩⟩⟩) (by decide +kernel)
set_option maxHeartbeats 4000000 in
set_option maxRecDepth 100000 in
theorem x_X11_cast_e (l : Launch) (D : va_G) (sz : Nat) (sk : Value) (a : Nat → Nat) (t : Nat → ClassId) (i : Nat → Int32) (q : Int64) (c : Nat → Nat → Int32) (d : Nat → Nat → Int64) (s1 : Int32) (n1 : Int32) (hI : xInv i c) : Met l yX11_cast wm_X11_cast_e ({ frames := 1, cells := 0, slots := 0, locals := 22 }) (va_Pc [.ref (a 100), .int s1, .int n1] (yB (a 186) D sz (xwT sk a t i q c d) (xtT t))) (va_Qi (fun (r : Int32) (u : MS) => True ∧ xInv u.1 u.2.2.1 ∧ (∀ k, k ∉ ([102, 165] : List Nat) → u.1 k = i k) ∧ (∀ k, k ∉ ([101, 162, 163] : List Nat) → u.2.2.1 k = c k) ∧ ((¬ (1 ≤ s1.toInt ∧ s1.toInt ≤ 5 ∧ n1.toInt ≤ 12) ∧ r.toInt = -1 ∧ (u.1 165).toInt = (i 165).toInt) ∨ (1 ≤ s1.toInt ∧ s1.toInt ≤ 5 ∧ n1.toInt ≤ 12 ∧ 10 ≤ (i 165).toInt ∧ r.toInt = -2 ∧ (u.1 165).toInt = (i 165).toInt) ∨ (1 ≤ s1.toInt ∧ s1.toInt ≤ 5 ∧ n1.toInt ≤ 12 ∧ (i 165).toInt ≤ 9 ∧ n1.toInt < 0 ∧ r.toInt = -3 ∧ (u.1 165).toInt = (i 165).toInt) ∨ (1 ≤ s1.toInt ∧ s1.toInt ≤ 5 ∧ n1.toInt ≤ 12 ∧ (i 165).toInt ≤ 9 ∧ 0 ≤ n1.toInt ∧ r.toInt = (i 165).toInt ∧ (u.1 165).toInt = (i 165).toInt + 1))) (oC D (va_A (xwT sk a t i q c d) sz) (fun u : MS => xwT sk a t u.1 u.2.1 u.2.2.1 u.2.2.2) (fun _ => [])) (va_A (xwT sk a t i q c d) sz)) 0 0 (va_A (xwT sk a t i q c d) sz) := by
  refine Met.ofW (cc := cX11_cast) (maxL := 3) (ret := (some .int)) (by decide +kernel) rfl ?_
  intro p e s m args below meth cd s₁ B hml hv
  obtain ⟨rfl, ⟨hsz, hP, hK, hD0⟩, hN, hZ, hBW⟩ := hv
  have hx := B.exec
  have hb := B.bytes
  have hr := B.returns
  have hts := atoms_spec (ws := wm_X11_cast_e) B.pre
  have hown : s.vm.findClass RX11 = some m.cls := findClass_of_methodNamed B.named
  have hlocks := B.notSynchronized
  subst hsz
  have hD := hD0.self (sz := s.heap.size)
  have hZ := xZ_A hZ hP hBW
  generalize hAe : va_A (xwT sk a t i q c d) s.heap.size = A at hD hZ ⊢
  have hA : ∀ q : Nat, s.heap.size ≤ q → A q := fun q h => by rw [← hAe]; exact Or.inr h
  have hS : va_S A s.heap s.heap [] := va_S.rf
  have hfi : ∀ k, k ∉ ([] : List Nat) → i k = i k := fun _ _ => rfl
  have hfc : ∀ k, k ∉ ([] : List Nat) → c k = c k := fun _ _ => rfl
  have hl := lv_entry ([.ref (a 100), .int s1, .int n1]) (n := 3) (Nat.le_of_ble_eq_true rfl)
  rw [lg_entry_eq]
  generalize (lg_sl ([.ref (a 100), .int s1, .int n1]) ++ List.replicate (3 - (lg_sl ([.ref (a 100), .int s1, .int n1])).length) Slot.unset).toArray = ls at hl ⊢
  have hl : lv_has ls 3 [(0, .ref (a 100)), (1, .int s1), (2, .int n1)] := hl
  have rb165_i : 0 ≤ (i 165).toInt ∧ (i 165).toInt ≤ 10 := hI.1 165
  refine lv_iload_n hx hb dX11_cast_0 rfl (lv_at hl 1 rfl) ?_
  refine lv_iconst (v := 1) hx hb dX11_cast_1 (by decide +kernel) ?_
  refine lv_icmp_lt (tgt := 16) hx hb dX11_cast_2 (by decide +kernel) (fun c1 => ?_) (fun c1 => ?_)
  · have f1 := (ti_lt (a := s1.toInt) (b := 1) rfl (by decide +kernel)).mp c1
    refine lv_iconst (v := (-1)) hx hb dX11_cast_16 (by decide +kernel) ?_
    exact rw_iret (i, q, c, d) hx hb hr hlocks hS (hK.sub (tys' := []) [] rfl) hP hD dX11_cast_17 ⟨trivial, hI, fr_w hfi (by decide +kernel), fr_w hfc (by decide +kernel), (show (¬ (1 ≤ s1.toInt ∧ s1.toInt ≤ 5 ∧ n1.toInt ≤ 12) ∧ ((-1) : Int32).toInt = -1 ∧ ((i 165) : Int32).toInt = (i 165).toInt) ∨ (1 ≤ s1.toInt ∧ s1.toInt ≤ 5 ∧ n1.toInt ≤ 12 ∧ 10 ≤ (i 165).toInt ∧ ((-1) : Int32).toInt = -2 ∧ ((i 165) : Int32).toInt = (i 165).toInt) ∨ (1 ≤ s1.toInt ∧ s1.toInt ≤ 5 ∧ n1.toInt ≤ 12 ∧ (i 165).toInt ≤ 9 ∧ n1.toInt < 0 ∧ ((-1) : Int32).toInt = -3 ∧ ((i 165) : Int32).toInt = (i 165).toInt) ∨ (1 ≤ s1.toInt ∧ s1.toInt ≤ 5 ∧ n1.toInt ≤ 12 ∧ (i 165).toInt ≤ 9 ∧ 0 ≤ n1.toInt ∧ ((-1) : Int32).toInt = (i 165).toInt ∧ ((i 165) : Int32).toInt = (i 165).toInt + 1) from by have h54 : ((-1) : Int32).toInt = -1 := (by decide +kernel); omega)⟩
  · have f1 := mt (ti_lt (a := s1.toInt) (b := 1) rfl (by decide +kernel)).mpr c1
    refine lv_iload_n hx hb dX11_cast_5 rfl (lv_at hl 1 rfl) ?_
    refine lv_iconst (v := 5) hx hb dX11_cast_6 (by decide +kernel) ?_
    refine lv_icmp_gt (tgt := 16) hx hb dX11_cast_7 (by decide +kernel) (fun c2 => ?_) (fun c2 => ?_)
    · have f2 := (ti_lt (a := 5) (b := s1.toInt) (by decide +kernel) rfl).mp c2
      refine lv_iconst (v := (-1)) hx hb dX11_cast_16 (by decide +kernel) ?_
      exact rw_iret (i, q, c, d) hx hb hr hlocks hS (hK.sub (tys' := []) [] rfl) hP hD dX11_cast_17 ⟨trivial, hI, fr_w hfi (by decide +kernel), fr_w hfc (by decide +kernel), (show (¬ (1 ≤ s1.toInt ∧ s1.toInt ≤ 5 ∧ n1.toInt ≤ 12) ∧ ((-1) : Int32).toInt = -1 ∧ ((i 165) : Int32).toInt = (i 165).toInt) ∨ (1 ≤ s1.toInt ∧ s1.toInt ≤ 5 ∧ n1.toInt ≤ 12 ∧ 10 ≤ (i 165).toInt ∧ ((-1) : Int32).toInt = -2 ∧ ((i 165) : Int32).toInt = (i 165).toInt) ∨ (1 ≤ s1.toInt ∧ s1.toInt ≤ 5 ∧ n1.toInt ≤ 12 ∧ (i 165).toInt ≤ 9 ∧ n1.toInt < 0 ∧ ((-1) : Int32).toInt = -3 ∧ ((i 165) : Int32).toInt = (i 165).toInt) ∨ (1 ≤ s1.toInt ∧ s1.toInt ≤ 5 ∧ n1.toInt ≤ 12 ∧ (i 165).toInt ≤ 9 ∧ 0 ≤ n1.toInt ∧ ((-1) : Int32).toInt = (i 165).toInt ∧ ((i 165) : Int32).toInt = (i 165).toInt + 1) from by have h54 : ((-1) : Int32).toInt = -1 := (by decide +kernel); omega)⟩
    · have f2 := mt (ti_lt (a := 5) (b := s1.toInt) (by decide +kernel) rfl).mpr c2
      refine lv_iload_n hx hb dX11_cast_10 rfl (lv_at hl 2 rfl) ?_
      refine lv_bipush (v := 12) hx hb dX11_cast_11 (by decide +kernel) ?_
      refine lv_icmp_le (tgt := 18) hx hb dX11_cast_13 (by decide +kernel) (fun c3 => ?_) (fun c3 => ?_)
      · have f3 := (ti_le (a := n1.toInt) (b := 12) rfl (by decide +kernel)).mp c3
        refine lv_aload_n hx hb dX11_cast_18 rfl (lv_at hl 0 rfl) ?_
        refine xgT_X_casts hx hb hts (fun _ h => List.mem_cons_of_mem _ (List.mem_append_left _ (List.mem_append_right _ h))) hown hK hP (hts (.fieldLink RX11 60 "TalePlay" "casts" "LTalePlay$Casts;") (List.mem_cons_of_mem _ (List.mem_append_left _ (List.mem_append_left _ (List.mem_append_left _ (List.mem_of_getElem? (i := 0) rfl)))))) dX11_cast_19 ?_
        refine xgT_C_made (v := (i 165)) rfl hx hb hts (fun _ h => List.mem_cons_of_mem _ (List.mem_append_right _ h)) hown hK hP (hts (.fieldLink RX11 334 "TalePlay$Casts" "made" "I") (List.mem_cons_of_mem _ (List.mem_append_left _ (List.mem_append_left _ (List.mem_append_left _ (List.mem_of_getElem? (i := 1) rfl)))))) dX11_cast_22 ?_
        refine lv_bipush (v := 10) hx hb dX11_cast_25 (by decide +kernel) ?_
        refine lv_icmp_lt (tgt := 33) hx hb dX11_cast_27 (by decide +kernel) (fun c4 => ?_) (fun c4 => ?_)
        · have f4 := (ti_lt (a := (i 165).toInt) (b := 10) rfl (by decide +kernel)).mp c4
          refine lv_iload_n hx hb dX11_cast_33 rfl (lv_at hl 2 rfl) ?_
          refine lv_if_ge (tgt := 43) hx hb dX11_cast_34 (by decide +kernel) (fun c5 => ?_) (fun c5 => ?_)
          · have f5 := (ti_le (a := 0) (b := n1.toInt) (by decide +kernel) rfl).mp c5
            refine lv_aload_n hx hb dX11_cast_43 rfl (lv_at hl 0 rfl) ?_
            refine xgT_X_casts hx hb hts (fun _ h => List.mem_cons_of_mem _ (List.mem_append_left _ (List.mem_append_right _ h))) hown hK hP (hts (.fieldLink RX11 60 "TalePlay" "casts" "LTalePlay$Casts;") (List.mem_cons_of_mem _ (List.mem_append_left _ (List.mem_append_left _ (List.mem_append_left _ (List.mem_of_getElem? (i := 0) rfl)))))) dX11_cast_44 ?_
            refine lv_iload_n hx hb dX11_cast_47 rfl (lv_at hl 1 rfl) ?_
            refine lv_iload_n hx hb dX11_cast_48 rfl (lv_at hl 2 rfl) ?_
            refine al_calli (va_runV (As := [.int s1, .int n1]) (rest := []) ⟨hx, hb, hml, hown, hts⟩ (x_X3_open_e l D s.heap.size sk a t i q c d s1 n1 hI (show 1 ≤ s1.toInt ∧ s1.toInt ≤ 5 from by omega) (show 0 ≤ n1.toInt ∧ n1.toInt ≤ 12 from by omega) (show ((i 165) : Int32).toInt ≤ 9 from by omega)) (cwV 2 hts gm_X11_cast_e_X3_open_e_337 rfl rfl rfl (by decide +kernel) ⟨Nat.le_of_ble_eq_true rfl, Nat.le_of_ble_eq_true rfl⟩) (yB_V hN (xZ_k hZ hS hA) (xZ_n hZ hD) hK hP hD (ci := 3) (q0 := 47) rfl rfl) rfl rfl hl.1 rfl (lv_room (Nat.le_of_ble_eq_true rfl)) dX11_cast_49 ⟨Nat.le_of_ble_eq_true rfl, Nat.le_of_ble_eq_true rfl⟩) hS hA hP hD (fun r6 u6 H locs hw6 hP hD hS => ?_)
            obtain ⟨i6, q6, c6, d6⟩ := u6
            have hw6 : (r6.toInt = (i 165).toInt) ∧ xInv i6 c6 ∧ (∀ k, k ∉ ([165] : List Nat) → i6 k = i k) ∧ (∀ k, k ∉ ([162, 163] : List Nat) → c6 k = c k) ∧ ((i6 165).toInt = (i 165).toInt + 1) := hw6
            obtain ⟨hw6, hI, hei6, hec6, hxp6_0⟩ := hw6
            have hxp6_0 : (i6 165).toInt = (i 165).toInt + 1 := hxp6_0
            have hfi : ∀ k, k ∉ ([165] : List Nat) → i6 k = i k := fr_z hfi hei6 (by decide +kernel) (by decide +kernel)
            have hfc : ∀ k, k ∉ ([162, 163] : List Nat) → c6 k = c k := fr_z hfc hec6 (by decide +kernel) (by decide +kernel)
            exact rw_iret (i6, q6, c6, d6) hx hb hr hlocks hS (hK.sub (tys' := []) [] rfl) hP hD dX11_cast_52 ⟨trivial, hI, fr_w hfi (by decide +kernel), fr_w hfc (by decide +kernel), (show (¬ (1 ≤ s1.toInt ∧ s1.toInt ≤ 5 ∧ n1.toInt ≤ 12) ∧ (r6 : Int32).toInt = -1 ∧ ((i6 165) : Int32).toInt = (i 165).toInt) ∨ (1 ≤ s1.toInt ∧ s1.toInt ≤ 5 ∧ n1.toInt ≤ 12 ∧ 10 ≤ (i 165).toInt ∧ (r6 : Int32).toInt = -2 ∧ ((i6 165) : Int32).toInt = (i 165).toInt) ∨ (1 ≤ s1.toInt ∧ s1.toInt ≤ 5 ∧ n1.toInt ≤ 12 ∧ (i 165).toInt ≤ 9 ∧ n1.toInt < 0 ∧ (r6 : Int32).toInt = -3 ∧ ((i6 165) : Int32).toInt = (i 165).toInt) ∨ (1 ≤ s1.toInt ∧ s1.toInt ≤ 5 ∧ n1.toInt ≤ 12 ∧ (i 165).toInt ≤ 9 ∧ 0 ≤ n1.toInt ∧ (r6 : Int32).toInt = (i 165).toInt ∧ ((i6 165) : Int32).toInt = (i 165).toInt + 1) from by omega)⟩
          · have f5 := mt (ti_le (a := 0) (b := n1.toInt) (by decide +kernel) rfl).mpr c5
            refine lv_aload_n hx hb dX11_cast_37 rfl (lv_at hl 0 rfl) ?_
            refine lv_iconst (v := 5) hx hb dX11_cast_38 (by decide +kernel) ?_
            refine al_calli (va_runV (As := [.int 5]) (rest := []) ⟨hx, hb, hml, hown, hts⟩ (x_X11_answerFinding l D s.heap.size sk a t i q c d 5 hI (show 1 ≤ 5 ∧ 5 ≤ 6 from by decide +kernel)) (cwV 1 hts gm_X11_cast_e_X11_answerFinding_128 rfl rfl rfl (by decide +kernel) ⟨Nat.le_of_ble_eq_true rfl, Nat.le_of_ble_eq_true rfl⟩) (yB_V hN (xZ_k hZ hS hA) (xZ_n hZ hD) hK hP hD (ci := 11) (q0 := 0) rfl rfl) rfl rfl hl.1 rfl (lv_room (Nat.le_of_ble_eq_true rfl)) dX11_cast_39 ⟨Nat.le_of_ble_eq_true rfl, Nat.le_of_ble_eq_true rfl⟩) hS hA hP hD (fun r7 u7 H locs hw7 hP hD hS => ?_)
            obtain ⟨i7, q7, c7, d7⟩ := u7
            have hw7 : r7 = (-3) ∧ xInv i7 c7 ∧ (∀ k, k ∉ ([102] : List Nat) → i7 k = i k) ∧ (∀ k, k ∉ ([101] : List Nat) → c7 k = c k) := hw7
            obtain ⟨hw7, hI, hei7, hec7⟩ := hw7
            have hfi : ∀ k, k ∉ ([102] : List Nat) → i7 k = i k := fr_z hfi hei7 (by decide +kernel) (by decide +kernel)
            have hfc : ∀ k, k ∉ ([101] : List Nat) → c7 k = c k := fr_z hfc hec7 (by decide +kernel) (by decide +kernel)
            have hw7 : r7 = (-3) := hw7
            subst hw7
            have hmd9 : (i7 165).toInt = (i 165).toInt := by rw [show i7 165 = i 165 from hfi 165 (by decide +kernel)]
            exact rw_iret (i7, q7, c7, d7) hx hb hr hlocks hS (hK.sub (tys' := []) [] rfl) hP hD dX11_cast_42 ⟨trivial, hI, fr_w hfi (by decide +kernel), fr_w hfc (by decide +kernel), (show (¬ (1 ≤ s1.toInt ∧ s1.toInt ≤ 5 ∧ n1.toInt ≤ 12) ∧ ((-3) : Int32).toInt = -1 ∧ ((i7 165) : Int32).toInt = (i 165).toInt) ∨ (1 ≤ s1.toInt ∧ s1.toInt ≤ 5 ∧ n1.toInt ≤ 12 ∧ 10 ≤ (i 165).toInt ∧ ((-3) : Int32).toInt = -2 ∧ ((i7 165) : Int32).toInt = (i 165).toInt) ∨ (1 ≤ s1.toInt ∧ s1.toInt ≤ 5 ∧ n1.toInt ≤ 12 ∧ (i 165).toInt ≤ 9 ∧ n1.toInt < 0 ∧ ((-3) : Int32).toInt = -3 ∧ ((i7 165) : Int32).toInt = (i 165).toInt) ∨ (1 ≤ s1.toInt ∧ s1.toInt ≤ 5 ∧ n1.toInt ≤ 12 ∧ (i 165).toInt ≤ 9 ∧ 0 ≤ n1.toInt ∧ ((-3) : Int32).toInt = (i 165).toInt ∧ ((i7 165) : Int32).toInt = (i 165).toInt + 1) from by have h54 : ((-3) : Int32).toInt = -3 := (by decide +kernel); omega)⟩
        · have f4 := mt (ti_lt (a := (i 165).toInt) (b := 10) rfl (by decide +kernel)).mpr c4
          refine lv_bipush (v := (-2)) hx hb dX11_cast_30 (by decide +kernel) ?_
          exact rw_iret (i, q, c, d) hx hb hr hlocks hS (hK.sub (tys' := []) [] rfl) hP hD dX11_cast_32 ⟨trivial, hI, fr_w hfi (by decide +kernel), fr_w hfc (by decide +kernel), (show (¬ (1 ≤ s1.toInt ∧ s1.toInt ≤ 5 ∧ n1.toInt ≤ 12) ∧ ((-2) : Int32).toInt = -1 ∧ ((i 165) : Int32).toInt = (i 165).toInt) ∨ (1 ≤ s1.toInt ∧ s1.toInt ≤ 5 ∧ n1.toInt ≤ 12 ∧ 10 ≤ (i 165).toInt ∧ ((-2) : Int32).toInt = -2 ∧ ((i 165) : Int32).toInt = (i 165).toInt) ∨ (1 ≤ s1.toInt ∧ s1.toInt ≤ 5 ∧ n1.toInt ≤ 12 ∧ (i 165).toInt ≤ 9 ∧ n1.toInt < 0 ∧ ((-2) : Int32).toInt = -3 ∧ ((i 165) : Int32).toInt = (i 165).toInt) ∨ (1 ≤ s1.toInt ∧ s1.toInt ≤ 5 ∧ n1.toInt ≤ 12 ∧ (i 165).toInt ≤ 9 ∧ 0 ≤ n1.toInt ∧ ((-2) : Int32).toInt = (i 165).toInt ∧ ((i 165) : Int32).toInt = (i 165).toInt + 1) from by have h54 : ((-2) : Int32).toInt = -2 := (by decide +kernel); omega)⟩
      · have f3 := mt (ti_le (a := n1.toInt) (b := 12) rfl (by decide +kernel)).mpr c3
        refine lv_iconst (v := (-1)) hx hb dX11_cast_16 (by decide +kernel) ?_
        exact rw_iret (i, q, c, d) hx hb hr hlocks hS (hK.sub (tys' := []) [] rfl) hP hD dX11_cast_17 ⟨trivial, hI, fr_w hfi (by decide +kernel), fr_w hfc (by decide +kernel), (show (¬ (1 ≤ s1.toInt ∧ s1.toInt ≤ 5 ∧ n1.toInt ≤ 12) ∧ ((-1) : Int32).toInt = -1 ∧ ((i 165) : Int32).toInt = (i 165).toInt) ∨ (1 ≤ s1.toInt ∧ s1.toInt ≤ 5 ∧ n1.toInt ≤ 12 ∧ 10 ≤ (i 165).toInt ∧ ((-1) : Int32).toInt = -2 ∧ ((i 165) : Int32).toInt = (i 165).toInt) ∨ (1 ≤ s1.toInt ∧ s1.toInt ≤ 5 ∧ n1.toInt ≤ 12 ∧ (i 165).toInt ≤ 9 ∧ n1.toInt < 0 ∧ ((-1) : Int32).toInt = -3 ∧ ((i 165) : Int32).toInt = (i 165).toInt) ∨ (1 ≤ s1.toInt ∧ s1.toInt ≤ 5 ∧ n1.toInt ≤ 12 ∧ (i 165).toInt ≤ 9 ∧ 0 ≤ n1.toInt ∧ ((-1) : Int32).toInt = (i 165).toInt ∧ ((i 165) : Int32).toInt = (i 165).toInt + 1) from by have h54 : ((-1) : Int32).toInt = -1 := (by decide +kernel); omega)⟩

set_option maxHeartbeats 4000000 in
set_option maxRecDepth 100000 in
theorem s_X12_cast_e (l : Launch) (D : va_G) (sz : Nat) (o : Nat) (a : Nat → Nat) (t : Nat → ClassId) (i : Nat → Int32) (q : Int64) (c : Nat → Nat → Int32) (d : Nat → Nat → Int64) (s1 : Int32) (n1 : Int32) (hI : mInv i c) : Met l yX12_cast wm_X12_cast ({ frames := 1, cells := 0, slots := 0, locals := 25 }) (va_Pc [.ref o, .int s1, .int n1] (pB D sz (mW o a t i q c d) (mT t))) (va_Qi (fun (r : Int32) (u : MS) => True ∧ mInv u.1 u.2.2.1 ∧ (∀ k, k ∉ ([0, 64] : List Nat) → u.1 k = i k) ∧ (∀ k, k ∉ ([1, 65, 66, 67] : List Nat) → u.2.2.1 k = c k) ∧ ((¬ (1 ≤ s1.toInt ∧ s1.toInt ≤ 5 ∧ n1.toInt ≤ 12) ∧ r.toInt = -1 ∧ (u.1 64).toInt = (i 64).toInt) ∨ (1 ≤ s1.toInt ∧ s1.toInt ≤ 5 ∧ n1.toInt ≤ 12 ∧ 10 ≤ (i 64).toInt ∧ r.toInt = -2 ∧ (u.1 64).toInt = (i 64).toInt) ∨ (1 ≤ s1.toInt ∧ s1.toInt ≤ 5 ∧ n1.toInt ≤ 12 ∧ (i 64).toInt ≤ 9 ∧ n1.toInt < 0 ∧ r.toInt = -3 ∧ (u.1 64).toInt = (i 64).toInt) ∨ (1 ≤ s1.toInt ∧ s1.toInt ≤ 5 ∧ n1.toInt ≤ 12 ∧ (i 64).toInt ≤ 9 ∧ 0 ≤ n1.toInt ∧ r.toInt = (i 64).toInt ∧ (u.1 64).toInt = (i 64).toInt + 1))) (oC D (va_A (mW o a t i q c d) sz) (fun u : MS => mW o a t u.1 u.2.1 u.2.2.1 u.2.2.2) (fun _ => [])) (va_A (mW o a t i q c d) sz)) 0 0 (va_A (mW o a t i q c d) sz) := by
  refine Met.ofW (cc := cX12_cast) (maxL := 4) (ret := (some .int)) (by decide +kernel) rfl ?_
  intro p e s m args below meth cd s₁ B hml hv
  obtain ⟨rfl, hsz, hP, hK, hD0⟩ := hv
  have hx := B.exec
  have hb := B.bytes
  have hr := B.returns
  have hts := atoms_spec (ws := wm_X12_cast) B.pre
  have hown : s.vm.findClass RX12 = some m.cls := findClass_of_methodNamed B.named
  have hlocks := B.notSynchronized
  subst hsz
  have hD := hD0.self (sz := s.heap.size)
  generalize hAe : va_A (mW o a t i q c d) s.heap.size = A at hD ⊢
  have hA : ∀ q : Nat, s.heap.size ≤ q → A q := fun q h => by rw [← hAe]; exact Or.inr h
  have hS : va_S A s.heap s.heap [] := va_S.rf
  have hfi : ∀ k, k ∉ ([] : List Nat) → i k = i k := fun _ _ => rfl
  have hfc : ∀ k, k ∉ ([] : List Nat) → c k = c k := fun _ _ => rfl
  have hl := lv_entry ([.ref o, .int s1, .int n1]) (n := 4) (Nat.le_of_ble_eq_true rfl)
  rw [lg_entry_eq]
  generalize (lg_sl ([.ref o, .int s1, .int n1]) ++ List.replicate (4 - (lg_sl ([.ref o, .int s1, .int n1])).length) Slot.unset).toArray = ls at hl ⊢
  have hl : lv_has ls 4 [(0, .ref o), (1, .int s1), (2, .int n1)] := hl
  have rb64_i : 0 ≤ (i 64).toInt ∧ (i 64).toInt ≤ 10 := hI.1 64
  refine lv_iload_n hx hb dX12_cast_0 rfl (lv_at hl 1 rfl) ?_
  refine lv_i2l (v := s1.toInt64) hx hb dX12_cast_1 rfl ?_
  refine lv_lconst (v := 1) hx hb dX12_cast_2 (by decide +kernel) ?_
  refine lv_ldc2 (v := 5) hx hb hown (hts (.constantLong RX12 170 (5)) (List.mem_cons_of_mem _ (List.mem_append_left _ (List.mem_of_getElem? (i := 0) rfl)))) dX12_cast_3 ?_
  have hPc := hP.sub (ws' := []) [] rfl
  have hKc := hK.sub (tys' := []) [] rfl
  refine ro_calli (va_runS (As := [.long s1.toInt64, .long 1, .long 5]) (rest := []) ⟨hx, hb, hml, hown, hts⟩ (c_X12_in l D s.heap.size s1.toInt64 1 5 s1.toInt 1 5 ((Int32.toInt_toInt64 s1).trans rfl) (by decide +kernel) (by decide +kernel)) (va_cwS 3 hts gm_X12_cast_X12_in rfl rfl rfl (by decide +kernel) ⟨Nat.le_of_ble_eq_true rfl, Nat.le_of_ble_eq_true rfl⟩) (pA_S hKc hPc) rfl rfl hl.1 rfl (lv_room (Nat.le_of_ble_eq_true rfl)) dX12_cast_6 ⟨Nat.le_of_ble_eq_true rfl, Nat.le_of_ble_eq_true rfl⟩) hS hA hP (fun r1 u1 H locs hw1 hP hS => ?_)
  have hw1 : r1 = if (1 ≤ s1.toInt ∧ s1.toInt ≤ 5) then 1 else 0 := hw1
  refine lv_if_eq (tgt := 18) hx hb dX12_cast_9 (by decide +kernel) (fun c2 => ?_) (fun c2 => ?_)
  · have f2 := fl_f hw1 c2
    refine lv_iconst (v := (-1)) hx hb dX12_cast_18 (by decide +kernel) ?_
    exact rw_iret (i, q, c, d) hx hb hr hlocks hS (hK.sub (tys' := []) [] rfl) hP hD dX12_cast_19 ⟨trivial, hI, fr_w hfi (by decide +kernel), fr_w hfc (by decide +kernel), (show (¬ (1 ≤ s1.toInt ∧ s1.toInt ≤ 5 ∧ n1.toInt ≤ 12) ∧ ((-1) : Int32).toInt = -1 ∧ ((i 64) : Int32).toInt = (i 64).toInt) ∨ (1 ≤ s1.toInt ∧ s1.toInt ≤ 5 ∧ n1.toInt ≤ 12 ∧ 10 ≤ (i 64).toInt ∧ ((-1) : Int32).toInt = -2 ∧ ((i 64) : Int32).toInt = (i 64).toInt) ∨ (1 ≤ s1.toInt ∧ s1.toInt ≤ 5 ∧ n1.toInt ≤ 12 ∧ (i 64).toInt ≤ 9 ∧ n1.toInt < 0 ∧ ((-1) : Int32).toInt = -3 ∧ ((i 64) : Int32).toInt = (i 64).toInt) ∨ (1 ≤ s1.toInt ∧ s1.toInt ≤ 5 ∧ n1.toInt ≤ 12 ∧ (i 64).toInt ≤ 9 ∧ 0 ≤ n1.toInt ∧ ((-1) : Int32).toInt = (i 64).toInt ∧ ((i 64) : Int32).toInt = (i 64).toInt + 1) from by have h54 : ((-1) : Int32).toInt = -1 := (by decide +kernel); omega)⟩
  · have f2 := fl_t hw1 c2
    refine lv_iload_n hx hb dX12_cast_12 rfl (lv_at hl 2 rfl) ?_
    refine lv_bipush (v := 12) hx hb dX12_cast_13 (by decide +kernel) ?_
    refine lv_icmp_le (tgt := 20) hx hb dX12_cast_15 (by decide +kernel) (fun c3 => ?_) (fun c3 => ?_)
    · have f3 := (ti_le (a := n1.toInt) (b := 12) rfl (by decide +kernel)).mp c3
      refine lv_aload_n hx hb dX12_cast_20 rfl (lv_at hl 0 rfl) ?_
      refine mget_64 (v := (i 64)) rfl hx hb hts (fun _ h => List.mem_cons_of_mem _ (List.mem_append_right _ h)) hown hK hP (hts (.fieldLink RX12 450 "TalePlayModel" "casts" "I") (List.mem_cons_of_mem _ (List.mem_append_left _ (List.mem_of_getElem? (i := 5) rfl)))) dX12_cast_21 ?_
      refine lv_bipush (v := 10) hx hb dX12_cast_24 (by decide +kernel) ?_
      refine lv_icmp_ne (tgt := 32) hx hb dX12_cast_26 (by decide +kernel) (fun c4 => ?_) (fun c4 => ?_)
      · have f4 := mt (ti_eq (a := (i 64).toInt) (b := 10) rfl (by decide +kernel)).mpr c4
        refine lv_iload_n hx hb dX12_cast_32 rfl (lv_at hl 2 rfl) ?_
        refine lv_if_ge (tgt := 42) hx hb dX12_cast_33 (by decide +kernel) (fun c5 => ?_) (fun c5 => ?_)
        · have f5 := (ti_le (a := 0) (b := n1.toInt) (by decide +kernel) rfl).mp c5
          refine lv_aload_n hx hb dX12_cast_42 rfl (lv_at hl 0 rfl) ?_
          refine mget_65 hx hb hts (fun _ h => List.mem_cons_of_mem _ (List.mem_append_right _ h)) hown hK hP (hts (.fieldLink RX12 139 "TalePlayModel" "castSort" "[I") (List.mem_cons_of_mem _ (List.mem_append_left _ (List.mem_of_getElem? (i := 6) rfl)))) dX12_cast_43 ?_
          refine lv_aload_n hx hb dX12_cast_46 rfl (lv_at hl 0 rfl) ?_
          refine mget_64 (v := (i 64)) rfl hx hb hts (fun _ h => List.mem_cons_of_mem _ (List.mem_append_right _ h)) hown hK hP (hts (.fieldLink RX12 450 "TalePlayModel" "casts" "I") (List.mem_cons_of_mem _ (List.mem_append_left _ (List.mem_of_getElem? (i := 5) rfl)))) dX12_cast_47 ?_
          refine lv_iload_n hx hb dX12_cast_50 rfl (lv_at hl 1 rfl) ?_
          refine mst_65 hx hb hK hP hD hS (vp_in_iff.mpr (by have h9 : (i 64).toInt = (i 64).toInt := rfl; omega)) dX12_cast_51 (fun H locs hP hD hS => ?_)
          have hI := mInv_c hI (k := 65) (j := ((i 64) : Int32).toNatClampNeg) (x := s1) (show 0 ≤ (s1 : Int32).toInt ∧ (s1 : Int32).toInt ≤ 5 from by omega)
          have hfc : ∀ k, k ∉ ([65] : List Nat) → (updA c 65 ((i 64) : Int32).toNatClampNeg s1) k = c k := fr_cz hfc (by decide +kernel) (by decide +kernel)
          refine lv_aload_n hx hb dX12_cast_52 rfl (lv_at hl 0 rfl) ?_
          refine mget_66 hx hb hts (fun _ h => List.mem_cons_of_mem _ (List.mem_append_right _ h)) hown hK hP (hts (.fieldLink RX12 142 "TalePlayModel" "castMany" "[I") (List.mem_cons_of_mem _ (List.mem_append_left _ (List.mem_of_getElem? (i := 7) rfl)))) dX12_cast_53 ?_
          refine lv_aload_n hx hb dX12_cast_56 rfl (lv_at hl 0 rfl) ?_
          refine mget_64 (v := (i 64)) rfl hx hb hts (fun _ h => List.mem_cons_of_mem _ (List.mem_append_right _ h)) hown hK hP (hts (.fieldLink RX12 450 "TalePlayModel" "casts" "I") (List.mem_cons_of_mem _ (List.mem_append_left _ (List.mem_of_getElem? (i := 5) rfl)))) dX12_cast_57 ?_
          refine lv_iload_n hx hb dX12_cast_60 rfl (lv_at hl 2 rfl) ?_
          refine mst_66 hx hb hK hP hD hS (vp_in_iff.mpr (by have h9 : (i 64).toInt = (i 64).toInt := rfl; omega)) dX12_cast_61 (fun H locs hP hD hS => ?_)
          have hI := mInv_c hI (k := 66) (j := ((i 64) : Int32).toNatClampNeg) (x := n1) (show 0 ≤ (n1 : Int32).toInt ∧ (n1 : Int32).toInt ≤ 12 from by omega)
          have hfc : ∀ k, k ∉ ([65, 66] : List Nat) → (updA (updA c 65 ((i 64) : Int32).toNatClampNeg s1) 66 ((i 64) : Int32).toNatClampNeg n1) k = c k := fr_cz hfc (by decide +kernel) (by decide +kernel)
          refine lv_iconst (v := 0) hx hb dX12_cast_62 (by decide +kernel) ?_
          refine lv_istore_n (lv' := [(3, .int 0), (0, .ref o), (1, .int s1), (2, .int n1)]) hx hb dX12_cast_63 rfl hl (by decide +kernel) rfl (fun ls hl => ?_)
          have lp6 : ∀ (fu : Nat) (i6 : Nat → Int32) (q6 : Int64) (c6 : Nat → Nat → Int32) (d6 : Nat → Nat → Int64) (y6_3 : Int32), mInv i6 c6 → (∀ k, k ∉ ([] : List Nat) → i6 k = i k) → (∀ k, k ∉ ([65, 66, 67] : List Nat) → c6 k = c k) → (0 ≤ y6_3.toInt ∧ y6_3.toInt ≤ 12) → (((i6 64) : Int32).toInt = (i 64).toInt) → (12 - y6_3.toInt).toNat < fu → ∀ (H : Heap) (locs : List Loc) (ls : Array Slot), va_P D vwCl (mW o a t i6 q6 c6 d6) H → va_D A (mW o a t i6 q6 c6 d6) → va_S A s.heap H locs → lv_has ls 4 [(3, .int y6_3), (0, .ref o), (1, .int s1), (2, .int n1)] → W p l e (headSpec wm_X12_cast ({ frames := 1, cells := 0, slots := 0, locals := 25 })).room s m ([.ref o, .int s1, .int n1] : List Value).toArray below meth cd H locs 0 0 (MQ below (va_Qi (fun (r : Int32) (u : MS) => True ∧ mInv u.1 u.2.2.1 ∧ (∀ k, k ∉ ([0, 64] : List Nat) → u.1 k = i k) ∧ (∀ k, k ∉ ([1, 65, 66, 67] : List Nat) → u.2.2.1 k = c k) ∧ ((¬ (1 ≤ s1.toInt ∧ s1.toInt ≤ 5 ∧ n1.toInt ≤ 12) ∧ r.toInt = -1 ∧ (u.1 64).toInt = (i 64).toInt) ∨ (1 ≤ s1.toInt ∧ s1.toInt ≤ 5 ∧ n1.toInt ≤ 12 ∧ 10 ≤ (i 64).toInt ∧ r.toInt = -2 ∧ (u.1 64).toInt = (i 64).toInt) ∨ (1 ≤ s1.toInt ∧ s1.toInt ≤ 5 ∧ n1.toInt ≤ 12 ∧ (i 64).toInt ≤ 9 ∧ n1.toInt < 0 ∧ r.toInt = -3 ∧ (u.1 64).toInt = (i 64).toInt) ∨ (1 ≤ s1.toInt ∧ s1.toInt ≤ 5 ∧ n1.toInt ≤ 12 ∧ (i 64).toInt ≤ 9 ∧ 0 ≤ n1.toInt ∧ r.toInt = (i 64).toInt ∧ (u.1 64).toInt = (i 64).toInt + 1))) (oC D A (fun u : MS => mW o a t u.1 u.2.1 u.2.2.1 u.2.2.2) (fun _ => [])) A) ([.ref o, .int s1, .int n1] : List Value).toArray s 0 0 A) (F0 m 64 ls []) := by
            intro fu
            induction fu with
            | zero => intro i6 q6 c6 d6 y6_3 hI hfi hfc hy6_3 hz6_0 hm; exact absurd hm (Nat.not_lt_zero _)
            | succ fu ih =>
              intro i6 q6 c6 d6 y6_3 hI hfi hfc hy6_3 hz6_0 hm H locs ls hP hD hS hl
              have ih6 := ih
              refine lv_iload_n hx hb dX12_cast_64 rfl (lv_at hl 0 rfl) ?_
              refine lv_bipush (v := 12) hx hb dX12_cast_65 (by decide +kernel) ?_
              refine lv_icmp_ge (tgt := 92) hx hb dX12_cast_67 (by decide +kernel) (fun c7 => ?_) (fun c7 => ?_)
              · have f7 := (ti_le (a := 12) (b := y6_3.toInt) (by decide +kernel) rfl).mp c7
                refine lv_aload_n hx hb dX12_cast_92 rfl (lv_at hl 1 rfl) ?_
                refine lv_dup hx hb dX12_cast_93 rfl ?_
                refine mget_64 (v := (i6 64)) rfl hx hb hts (fun _ h => List.mem_cons_of_mem _ (List.mem_append_right _ h)) hown hK hP (hts (.fieldLink RX12 450 "TalePlayModel" "casts" "I") (List.mem_cons_of_mem _ (List.mem_append_left _ (List.mem_of_getElem? (i := 5) rfl)))) dX12_cast_94 ?_
                have rb64_i6 : 0 ≤ (i6 64).toInt ∧ (i6 64).toInt ≤ 10 := hI.1 64
                have re64_i6 : (i6 64).toInt = (i 64).toInt := congrArg Int32.toInt (hfi 64 (by decide +kernel))
                refine lv_iconst (v := 1) hx hb dX12_cast_97 (by decide +kernel) ?_
                refine lv_iadd hx hb dX12_cast_98 ?_
                refine lv_topi (fun x8 ex8 => ?_)
                have tx8 := ti_add (a := (i6 64).toInt) (b := 1) ex8 rfl (by decide +kernel) (by omega) (by omega)
                refine mput_64 hx hb hts (fun _ h => List.mem_cons_of_mem _ (List.mem_append_right _ h)) hown hK hP hD hS (hts (.fieldLink RX12 450 "TalePlayModel" "casts" "I") (List.mem_cons_of_mem _ (List.mem_append_left _ (List.mem_of_getElem? (i := 5) rfl)))) rfl rfl dX12_cast_99 (fun H locs hP hD hS => ?_)
                have hI := mInv_i hI (k := 64) (v := x8) (show 0 ≤ (x8 : Int32).toInt ∧ (x8 : Int32).toInt ≤ 10 from by have h9 : x8.toInt = ((i6 64).toInt + 1) := tx8; omega)
                have hfi : ∀ k, k ∉ ([64] : List Nat) → (upd i6 64 x8) k = i k := fr_iz hfi (by decide +kernel) (by decide +kernel)
                refine lv_aload_n hx hb dX12_cast_102 rfl (lv_at hl 1 rfl) ?_
                refine mget_64 (i := (upd i6 64 x8)) (v := x8) rfl hx hb hts (fun _ h => List.mem_cons_of_mem _ (List.mem_append_right _ h)) hown hK hP (hts (.fieldLink RX12 450 "TalePlayModel" "casts" "I") (List.mem_cons_of_mem _ (List.mem_append_left _ (List.mem_of_getElem? (i := 5) rfl)))) dX12_cast_103 ?_
                refine lv_iconst (v := 1) hx hb dX12_cast_106 (by decide +kernel) ?_
                refine lv_isub hx hb dX12_cast_107 ?_
                refine lv_topi (fun x9 ex9 => ?_)
                have tx9 := ti_sub (a := ((i6 64).toInt + 1)) (b := 1) ex9 tx8 (by decide +kernel) (by omega) (by omega)
                exact rw_iret ((upd i6 64 x8), q6, c6, d6) hx hb hr hlocks hS (hK.sub (tys' := []) [] rfl) hP hD dX12_cast_108 ⟨trivial, hI, fr_w hfi (by decide +kernel), fr_w hfc (by decide +kernel), (show (¬ (1 ≤ s1.toInt ∧ s1.toInt ≤ 5 ∧ n1.toInt ≤ 12) ∧ (x9 : Int32).toInt = -1 ∧ (x8 : Int32).toInt = (i 64).toInt) ∨ (1 ≤ s1.toInt ∧ s1.toInt ≤ 5 ∧ n1.toInt ≤ 12 ∧ 10 ≤ (i 64).toInt ∧ (x9 : Int32).toInt = -2 ∧ (x8 : Int32).toInt = (i 64).toInt) ∨ (1 ≤ s1.toInt ∧ s1.toInt ≤ 5 ∧ n1.toInt ≤ 12 ∧ (i 64).toInt ≤ 9 ∧ n1.toInt < 0 ∧ (x9 : Int32).toInt = -3 ∧ (x8 : Int32).toInt = (i 64).toInt) ∨ (1 ≤ s1.toInt ∧ s1.toInt ≤ 5 ∧ n1.toInt ≤ 12 ∧ (i 64).toInt ≤ 9 ∧ 0 ≤ n1.toInt ∧ (x9 : Int32).toInt = (i 64).toInt ∧ (x8 : Int32).toInt = (i 64).toInt + 1) from by have h50 : x8.toInt = ((i6 64).toInt + 1) := tx8; have h51 : x8.toInt = ((i6 64).toInt + 1) := tx8; have h52 : x8.toInt = ((i6 64).toInt + 1) := tx8; have h53 : x8.toInt = ((i6 64).toInt + 1) := tx8; have h54 : x9.toInt = (((i6 64).toInt + 1) - 1) := tx9; omega)⟩
              · have f7 := mt (ti_le (a := 12) (b := y6_3.toInt) (by decide +kernel) rfl).mpr c7
                refine lv_aload_n hx hb dX12_cast_70 rfl (lv_at hl 1 rfl) ?_
                refine mget_67 hx hb hts (fun _ h => List.mem_cons_of_mem _ (List.mem_append_right _ h)) hown hK hP (hts (.fieldLink RX12 145 "TalePlayModel" "roles" "[I") (List.mem_cons_of_mem _ (List.mem_append_left _ (List.mem_of_getElem? (i := 8) rfl)))) dX12_cast_71 ?_
                refine lv_bipush (v := 12) hx hb dX12_cast_74 (by decide +kernel) ?_
                refine lv_aload_n hx hb dX12_cast_76 rfl (lv_at hl 1 rfl) ?_
                refine mget_64 (v := (i6 64)) rfl hx hb hts (fun _ h => List.mem_cons_of_mem _ (List.mem_append_right _ h)) hown hK hP (hts (.fieldLink RX12 450 "TalePlayModel" "casts" "I") (List.mem_cons_of_mem _ (List.mem_append_left _ (List.mem_of_getElem? (i := 5) rfl)))) dX12_cast_77 ?_
                have rb64_i6 : 0 ≤ (i6 64).toInt ∧ (i6 64).toInt ≤ 10 := hI.1 64
                have re64_i6 : (i6 64).toInt = (i 64).toInt := congrArg Int32.toInt (hfi 64 (by decide +kernel))
                refine lv_imul hx hb dX12_cast_80 ?_
                refine lv_topi (fun x10 ex10 => ?_)
                have tx10 := ti_mul (a := 12) (b := (i6 64).toInt) ex10 (by decide +kernel) rfl (by omega) (by omega)
                refine lv_iload_n hx hb dX12_cast_81 rfl (lv_at hl 0 rfl) ?_
                refine lv_iadd hx hb dX12_cast_82 ?_
                refine lv_topi (fun x11 ex11 => ?_)
                have tx11 := ti_add (a := (12 * (i6 64).toInt)) (b := y6_3.toInt) ex11 tx10 rfl (by omega) (by omega)
                refine lv_bipush (v := (-9)) hx hb dX12_cast_83 (by decide +kernel) ?_
                refine mst_67 hx hb hK hP hD hS (vp_in_iff.mpr (by have h9 : x11.toInt = ((12 * (i6 64).toInt) + y6_3.toInt) := tx11; omega)) dX12_cast_85 (fun H locs hP hD hS => ?_)
                have hI := mInv_c hI (k := 67) (j := (x11 : Int32).toNatClampNeg) (x := (-9)) (show ((-9) : Int32).toInt = -9 ∨ (0 ≤ ((-9) : Int32).toInt ∧ ((-9) : Int32).toInt ≤ 29) from by decide +kernel)
                have hfc := fr_c hfc (k := 67) (j := (x11 : Int32).toNatClampNeg) (x := (-9)) (by decide +kernel)
                obtain ⟨x12, ex12⟩ : ∃ y : Int32, y = y6_3 + 1 := ⟨_, rfl⟩
                have tx12 := ti_add (a := y6_3.toInt) (b := 1) ex12 rfl (by decide +kernel) (by omega) (by omega)
                refine lv_iinc (v := x12) (lv' := [(3, .int x12), (0, .ref o), (1, .int s1), (2, .int n1)]) hx hb dX12_cast_86 hl (k := 0) rfl (by rw [ex12]; rfl) (by decide +kernel) rfl (fun ls hl => ?_)
                refine lv_goto (tgt := 64) hx hb dX12_cast_89 (by decide +kernel) ?_
                exact ih6 i6 q6 (updA c6 67 (x11 : Int32).toNatClampNeg (-9)) d6 x12 hI (fr_w hfi (by decide +kernel)) (fr_w hfc (by decide +kernel)) (show 0 ≤ x12.toInt ∧ x12.toInt ≤ 12 from by have h50 : x12.toInt = (y6_3.toInt + 1) := tx12; omega) (show ((i6 64) : Int32).toInt = (i 64).toInt from by have h50 : x12.toInt = (y6_3.toInt + 1) := tx12; omega) (by have h50 : x12.toInt = (y6_3.toInt + 1) := tx12; omega) _ _ _ hP hD hS (lv_sub hl [0, 1, 2, 3] rfl)
          exact lp6 _ i q (updA (updA c 65 ((i 64) : Int32).toNatClampNeg s1) 66 ((i 64) : Int32).toNatClampNeg n1) d (0 : Int32) hI (fr_w hfi (by decide +kernel)) (fr_w hfc (by decide +kernel)) (show 0 ≤ (0 : Int32).toInt ∧ (0 : Int32).toInt ≤ 12 from by decide +kernel) (show ((i 64) : Int32).toInt = (i 64).toInt from by have h50 : (0 : Int32).toInt = 0 := (by decide +kernel); omega) (Nat.lt_succ_self _) _ _ _ hP hD hS (lv_sub hl [0, 1, 2, 3] rfl)
        · have f5 := mt (ti_le (a := 0) (b := n1.toInt) (by decide +kernel) rfl).mpr c5
          refine lv_aload_n hx hb dX12_cast_36 rfl (lv_at hl 0 rfl) ?_
          refine lv_iconst (v := 5) hx hb dX12_cast_37 (by decide +kernel) ?_
          refine al_calli (va_runV (As := [.int 5]) (rest := []) ⟨hx, hb, hml, hown, hts⟩ (s_X12_meets l D H.size o a t i q c d 5 hI (show 1 ≤ 5 ∧ 5 ≤ 6 from by decide +kernel)) (cwV 1 hts gm_X12_cast_X12_meets rfl rfl rfl (by decide +kernel) ⟨Nat.le_of_ble_eq_true rfl, Nat.le_of_ble_eq_true rfl⟩) (pB_V hK hP hD (ci := 12) (q0 := 0) rfl rfl) rfl rfl hl.1 rfl (lv_room (Nat.le_of_ble_eq_true rfl)) dX12_cast_38 ⟨Nat.le_of_ble_eq_true rfl, Nat.le_of_ble_eq_true rfl⟩) hS hA hP hD (fun r13 u13 H locs hw13 hP hD hS => ?_)
          obtain ⟨i13, q13, c13, d13⟩ := u13
          have hw13 : r13 = (-3) ∧ mInv i13 c13 ∧ (∀ k, k ∉ ([0] : List Nat) → i13 k = i k) ∧ (∀ k, k ∉ ([1] : List Nat) → c13 k = c k) := hw13
          obtain ⟨hw13, hI, hei13, hec13⟩ := hw13
          have hfi : ∀ k, k ∉ ([0] : List Nat) → i13 k = i k := fr_z hfi hei13 (by decide +kernel) (by decide +kernel)
          have hfc : ∀ k, k ∉ ([1] : List Nat) → c13 k = c k := fr_z hfc hec13 (by decide +kernel) (by decide +kernel)
          have hP : va_P D vwCl (mW o a t i13 q13 c13 d13) H := hP
          have hD : va_D A (mW o a t i13 q13 c13 d13) := hD
          have hw13 : r13 = (-3) := hw13
          subst hw13
          have hmd9 : (i13 64).toInt = (i 64).toInt := by rw [show i13 64 = i 64 from hfi 64 (by decide +kernel)]
          exact rw_iret (i13, q13, c13, d13) hx hb hr hlocks hS (hK.sub (tys' := []) [] rfl) hP hD dX12_cast_41 ⟨trivial, hI, fr_w hfi (by decide +kernel), fr_w hfc (by decide +kernel), (show (¬ (1 ≤ s1.toInt ∧ s1.toInt ≤ 5 ∧ n1.toInt ≤ 12) ∧ ((-3) : Int32).toInt = -1 ∧ ((i13 64) : Int32).toInt = (i 64).toInt) ∨ (1 ≤ s1.toInt ∧ s1.toInt ≤ 5 ∧ n1.toInt ≤ 12 ∧ 10 ≤ (i 64).toInt ∧ ((-3) : Int32).toInt = -2 ∧ ((i13 64) : Int32).toInt = (i 64).toInt) ∨ (1 ≤ s1.toInt ∧ s1.toInt ≤ 5 ∧ n1.toInt ≤ 12 ∧ (i 64).toInt ≤ 9 ∧ n1.toInt < 0 ∧ ((-3) : Int32).toInt = -3 ∧ ((i13 64) : Int32).toInt = (i 64).toInt) ∨ (1 ≤ s1.toInt ∧ s1.toInt ≤ 5 ∧ n1.toInt ≤ 12 ∧ (i 64).toInt ≤ 9 ∧ 0 ≤ n1.toInt ∧ ((-3) : Int32).toInt = (i 64).toInt ∧ ((i13 64) : Int32).toInt = (i 64).toInt + 1) from by have h54 : ((-3) : Int32).toInt = -3 := (by decide +kernel); omega)⟩
      · have f4 := (ti_eq (a := (i 64).toInt) (b := 10) rfl (by decide +kernel)).mp c4
        refine lv_bipush (v := (-2)) hx hb dX12_cast_29 (by decide +kernel) ?_
        exact rw_iret (i, q, c, d) hx hb hr hlocks hS (hK.sub (tys' := []) [] rfl) hP hD dX12_cast_31 ⟨trivial, hI, fr_w hfi (by decide +kernel), fr_w hfc (by decide +kernel), (show (¬ (1 ≤ s1.toInt ∧ s1.toInt ≤ 5 ∧ n1.toInt ≤ 12) ∧ ((-2) : Int32).toInt = -1 ∧ ((i 64) : Int32).toInt = (i 64).toInt) ∨ (1 ≤ s1.toInt ∧ s1.toInt ≤ 5 ∧ n1.toInt ≤ 12 ∧ 10 ≤ (i 64).toInt ∧ ((-2) : Int32).toInt = -2 ∧ ((i 64) : Int32).toInt = (i 64).toInt) ∨ (1 ≤ s1.toInt ∧ s1.toInt ≤ 5 ∧ n1.toInt ≤ 12 ∧ (i 64).toInt ≤ 9 ∧ n1.toInt < 0 ∧ ((-2) : Int32).toInt = -3 ∧ ((i 64) : Int32).toInt = (i 64).toInt) ∨ (1 ≤ s1.toInt ∧ s1.toInt ≤ 5 ∧ n1.toInt ≤ 12 ∧ (i 64).toInt ≤ 9 ∧ 0 ≤ n1.toInt ∧ ((-2) : Int32).toInt = (i 64).toInt ∧ ((i 64) : Int32).toInt = (i 64).toInt + 1) from by have h54 : ((-2) : Int32).toInt = -2 := (by decide +kernel); omega)⟩
    · have f3 := mt (ti_le (a := n1.toInt) (b := 12) rfl (by decide +kernel)).mpr c3
      refine lv_iconst (v := (-1)) hx hb dX12_cast_18 (by decide +kernel) ?_
      exact rw_iret (i, q, c, d) hx hb hr hlocks hS (hK.sub (tys' := []) [] rfl) hP hD dX12_cast_19 ⟨trivial, hI, fr_w hfi (by decide +kernel), fr_w hfc (by decide +kernel), (show (¬ (1 ≤ s1.toInt ∧ s1.toInt ≤ 5 ∧ n1.toInt ≤ 12) ∧ ((-1) : Int32).toInt = -1 ∧ ((i 64) : Int32).toInt = (i 64).toInt) ∨ (1 ≤ s1.toInt ∧ s1.toInt ≤ 5 ∧ n1.toInt ≤ 12 ∧ 10 ≤ (i 64).toInt ∧ ((-1) : Int32).toInt = -2 ∧ ((i 64) : Int32).toInt = (i 64).toInt) ∨ (1 ≤ s1.toInt ∧ s1.toInt ≤ 5 ∧ n1.toInt ≤ 12 ∧ (i 64).toInt ≤ 9 ∧ n1.toInt < 0 ∧ ((-1) : Int32).toInt = -3 ∧ ((i 64) : Int32).toInt = (i 64).toInt) ∨ (1 ≤ s1.toInt ∧ s1.toInt ≤ 5 ∧ n1.toInt ≤ 12 ∧ (i 64).toInt ≤ 9 ∧ 0 ≤ n1.toInt ∧ ((-1) : Int32).toInt = (i 64).toInt ∧ ((i 64) : Int32).toInt = (i 64).toInt + 1) from by have h54 : ((-1) : Int32).toInt = -1 := (by decide +kernel); omega)⟩

def wm_X10_changeStandard_e : List Cond := .code yX10_changeStandard cX10_changeStandard 5 (some .int) :: (([.fieldLink RX10 18 "TalePlay$World" "standards" "[I"] : List Cond) ++ wsX100)
set_option maxHeartbeats 4000000 in
set_option maxRecDepth 100000 in
theorem x_X10_changeStandard_e (l : Launch) (D : va_G) (sz : Nat) (sk : Value) (a : Nat → Nat) (t : Nat → ClassId) (i : Nat → Int32) (q : Int64) (c : Nat → Nat → Int32) (d : Nat → Nat → Int64) (k1 : Int32) (f : Int32) (v1 : Int32) (hI : xInv i c) (hk1 : 0 ≤ k1.toInt ∧ k1.toInt ≤ 23) (hf : 0 ≤ f.toInt ∧ f.toInt ≤ 5) (hv : v1.toInt = -9 ∨ (0 ≤ v1.toInt ∧ v1.toInt ≤ 1)) : Met l yX10_changeStandard wm_X10_changeStandard_e ({ frames := 0, cells := 0, slots := 0, locals := 0 }) (va_Pc [.ref (a 104), .int k1, .int f, .int v1] (yB (a 186) D sz (xwT sk a t i q c d) (xtT t))) (va_Qi (fun (r : Int32) (u : MS) => True ∧ xInv u.1 u.2.2.1 ∧ (∀ k, k ∉ ([] : List Nat) → u.1 k = i k) ∧ (∀ k, k ∉ ([107] : List Nat) → u.2.2.1 k = c k) ∧ (r = (c 107 (k1.toInt * 6 + f.toInt).toNat)) ∧ ((u.2.2.1 107) = upd (c 107) (k1.toInt * 6 + f.toInt).toNat v1)) (oC D (va_A (xwT sk a t i q c d) sz) (fun u : MS => xwT sk a t u.1 u.2.1 u.2.2.1 u.2.2.2) (fun _ => [])) (va_A (xwT sk a t i q c d) sz)) 0 0 (va_A (xwT sk a t i q c d) sz) := by
  refine Met.ofW (cc := cX10_changeStandard) (maxL := 5) (ret := (some .int)) (by decide +kernel) rfl ?_
  intro p e s m args below meth cd s₁ B hml hv
  obtain ⟨rfl, ⟨hsz, hP, hK, hD0⟩, hN, hZ, hBW⟩ := hv
  have hx := B.exec
  have hb := B.bytes
  have hr := B.returns
  have hts := atoms_spec (ws := wm_X10_changeStandard_e) B.pre
  have hown : s.vm.findClass RX10 = some m.cls := findClass_of_methodNamed B.named
  have hlocks := B.notSynchronized
  subst hsz
  have hD := hD0.self (sz := s.heap.size)
  have hZ := xZ_A hZ hP hBW
  generalize hAe : va_A (xwT sk a t i q c d) s.heap.size = A at hD hZ ⊢
  have hA : ∀ q : Nat, s.heap.size ≤ q → A q := fun q h => by rw [← hAe]; exact Or.inr h
  have hS : va_S A s.heap s.heap [] := va_S.rf
  have hfi : ∀ k, k ∉ ([] : List Nat) → i k = i k := fun _ _ => rfl
  have hfc : ∀ k, k ∉ ([] : List Nat) → c k = c k := fun _ _ => rfl
  have hl := lv_entry ([.ref (a 104), .int k1, .int f, .int v1]) (n := 5) (Nat.le_of_ble_eq_true rfl)
  rw [lg_entry_eq]
  generalize (lg_sl ([.ref (a 104), .int k1, .int f, .int v1]) ++ List.replicate (5 - (lg_sl ([.ref (a 104), .int k1, .int f, .int v1])).length) Slot.unset).toArray = ls at hl ⊢
  have hl : lv_has ls 5 [(0, .ref (a 104)), (1, .int k1), (2, .int f), (3, .int v1)] := hl
  refine lv_aload_n hx hb dX10_changeStandard_0 rfl (lv_at hl 0 rfl) ?_
  refine xgT_W_standards hx hb hts (fun _ h => List.mem_cons_of_mem _ (List.mem_append_right _ h)) hown hK hP (hts (.fieldLink RX10 18 "TalePlay$World" "standards" "[I") (List.mem_cons_of_mem _ (List.mem_append_left _ (List.mem_of_getElem? (i := 0) rfl)))) dX10_changeStandard_1 ?_
  refine lv_iload_n hx hb dX10_changeStandard_4 rfl (lv_at hl 1 rfl) ?_
  refine lv_bipush (v := 6) hx hb dX10_changeStandard_5 (by decide +kernel) ?_
  refine lv_imul hx hb dX10_changeStandard_7 ?_
  refine lv_topi (fun x1 ex1 => ?_)
  have tx1 := ti_mul (a := k1.toInt) (b := 6) ex1 rfl (by decide +kernel) (by omega) (by omega)
  refine lv_iload_n hx hb dX10_changeStandard_8 rfl (lv_at hl 2 rfl) ?_
  refine lv_iadd hx hb dX10_changeStandard_9 ?_
  refine lv_topi (fun x2 ex2 => ?_)
  have tx2 := ti_add (a := (k1.toInt * 6)) (b := f.toInt) ex2 tx1 rfl (by omega) (by omega)
  refine xlT_107 hx hb hK hP (vp_in_iff.mpr (by have h9 : x2.toInt = ((k1.toInt * 6) + f.toInt) := tx2; omega)) dX10_changeStandard_10 (fun x3 ex3 => ?_)
  have rx3 : x3.toInt = -9 ∨ (0 ≤ x3.toInt ∧ x3.toInt ≤ 1) := by rw [ex3]; exact hI.2 107 _
  refine lv_istore (lv' := [(4, .int x3), (0, .ref (a 104)), (1, .int k1), (2, .int f), (3, .int v1)]) hx hb dX10_changeStandard_11 hl (by decide +kernel) rfl (fun ls hl => ?_)
  refine lv_aload_n hx hb dX10_changeStandard_13 rfl (lv_at hl 1 rfl) ?_
  refine xgT_W_standards hx hb hts (fun _ h => List.mem_cons_of_mem _ (List.mem_append_right _ h)) hown hK hP (hts (.fieldLink RX10 18 "TalePlay$World" "standards" "[I") (List.mem_cons_of_mem _ (List.mem_append_left _ (List.mem_of_getElem? (i := 0) rfl)))) dX10_changeStandard_14 ?_
  refine lv_iload_n hx hb dX10_changeStandard_17 rfl (lv_at hl 2 rfl) ?_
  refine lv_bipush (v := 6) hx hb dX10_changeStandard_18 (by decide +kernel) ?_
  refine lv_imul hx hb dX10_changeStandard_20 ?_
  refine lv_topi (fun x4 ex4 => ?_)
  have tx4 := ti_mul (a := k1.toInt) (b := 6) ex4 rfl (by decide +kernel) (by omega) (by omega)
  refine lv_iload_n hx hb dX10_changeStandard_21 rfl (lv_at hl 3 rfl) ?_
  refine lv_iadd hx hb dX10_changeStandard_22 ?_
  refine lv_topi (fun x5 ex5 => ?_)
  have tx5 := ti_add (a := (k1.toInt * 6)) (b := f.toInt) ex5 tx4 rfl (by omega) (by omega)
  refine lv_iload_n hx hb dX10_changeStandard_23 rfl (lv_at hl 4 rfl) ?_
  refine xsT_107 hx hb hK hP hD hS (vp_in_iff.mpr (by have h9 : x5.toInt = ((k1.toInt * 6) + f.toInt) := tx5; omega)) dX10_changeStandard_24 (fun H locs hP hD hS => ?_)
  have hI := xInv_c hI (k := 107) (j := (x5 : Int32).toNatClampNeg) (x := v1) (show (v1 : Int32).toInt = -9 ∨ (0 ≤ (v1 : Int32).toInt ∧ (v1 : Int32).toInt ≤ 1) from by omega)
  have hfc : ∀ k, k ∉ ([107] : List Nat) → (updA c 107 (x5 : Int32).toNatClampNeg v1) k = c k := fr_cz hfc (by decide +kernel) (by decide +kernel)
  refine lv_iload hx hb dX10_changeStandard_25 (lv_at hl 0 rfl) ?_
  exact rw_iret (i, q, (updA c 107 (x5 : Int32).toNatClampNeg v1), d) hx hb hr hlocks hS (hK.sub (tys' := []) [] rfl) hP hD dX10_changeStandard_27 ⟨trivial, hI, fr_w hfi (by decide +kernel), fr_w hfc (by decide +kernel), (show (x3 : Int32) = (c 107 (k1.toInt * 6 + f.toInt).toNat) from (ix_n (f := c 107) (s := x2) (show (x2 : Int32).toInt = k1.toInt * 6 + f.toInt from by omega) ex3).symm), (show ((updA c 107 (x5 : Int32).toNatClampNeg v1) 107) = upd (c 107) (k1.toInt * 6 + f.toInt).toNat v1 from by show upd (c 107) (x5 : Int32).toNatClampNeg v1 = _; rw [cl_t (show (x5 : Int32).toInt = (k1.toInt * 6 + f.toInt) from by omega)])⟩

def wm_X11_standard_e : List Cond := .code yX11_standard cX11_standard 4 (some .int) :: ((([.fieldLink RX11 10 "TalePlay" "world" "LTalePlay$World;", .methodLink RX11 80 yX10_hasKind, .instanceMethod yX10_hasKind, .selects RX10 yX10_hasKind yX10_hasKind, .initialized RX10, .code yX10_hasKind cX10_hasKind 2 (some .boolean), .fieldLink RX10 33 "TalePlay$World" "kinds" "I", .methodLink RX11 91 yX11_isBelow, .static yX11_isBelow, .initialized RX11, .code yX11_isBelow cX11_isBelow 2 (some .boolean), .fieldLink RX11 46 "TalePlay" "tale" "LTalePlay$Tale;", .methodLink RX11 95 yX9_end, .instanceMethod yX9_end, .selects RX9 yX9_end yX9_end, .initialized RX9] : List Cond) ++ ([.code yX9_end cX9_end 1 none, .fieldLink RX9 72 "TalePlay$Tale" "there" "Z", .fieldLink RX9 77 "TalePlay$Tale" "turns" "I", .methodLink RX11 98 yX10_changeStandard, .instanceMethod yX10_changeStandard, .selects RX10 yX10_changeStandard yX10_changeStandard, .code yX10_changeStandard cX10_changeStandard 5 (some .int), .fieldLink RX10 18 "TalePlay$World" "standards" "[I"] : List Cond)) ++ wsX110 ++ wsX100 ++ wsX90)
set_option maxRecDepth 20000 in
theorem gm_X11_standard_e_X10_hasKind_80 : GoodIn wm_X11_standard_e (wsV RX11 80 RX10 yX10_hasKind wm_X10_hasKind) := goodIn_w (List.forall_mem_append.mpr ⟨List.forall_mem_cons.mpr ⟨List.mem_cons_of_mem _ (List.mem_append_left _ (List.mem_append_left _ (List.mem_append_left _ (List.mem_append_left _ (List.mem_of_getElem? (i := 1) rfl))))), List.forall_mem_cons.mpr ⟨List.mem_cons_of_mem _ (List.mem_append_left _ (List.mem_append_left _ (List.mem_append_left _ (List.mem_append_left _ (List.mem_of_getElem? (i := 2) rfl))))), List.forall_mem_cons.mpr ⟨List.mem_cons_of_mem _ (List.mem_append_left _ (List.mem_append_left _ (List.mem_append_left _ (List.mem_append_left _ (List.mem_of_getElem? (i := 3) rfl))))), List.forall_mem_cons.mpr ⟨List.mem_cons_of_mem _ (List.mem_append_left _ (List.mem_append_left _ (List.mem_append_left _ (List.mem_append_left _ (List.mem_of_getElem? (i := 4) rfl))))), (fun _ h => absurd h List.not_mem_nil)⟩⟩⟩⟩, List.forall_mem_cons.mpr ⟨List.mem_cons_of_mem _ (List.mem_append_left _ (List.mem_append_left _ (List.mem_append_left _ (List.mem_append_left _ (List.mem_of_getElem? (i := 5) rfl))))), List.forall_mem_append.mpr ⟨List.forall_mem_cons.mpr ⟨List.mem_cons_of_mem _ (List.mem_append_left _ (List.mem_append_left _ (List.mem_append_left _ (List.mem_append_left _ (List.mem_of_getElem? (i := 6) rfl))))), (fun _ h => absurd h List.not_mem_nil)⟩, (fun _ h => List.mem_cons_of_mem _ (List.mem_append_left _ (List.mem_append_right _ h)))⟩⟩⟩) (by decide +kernel)
set_option maxRecDepth 20000 in
theorem gm_X11_standard_e_X11_isBelow_91 : GoodIn wm_X11_standard_e (va_wsS RX11 91 yX11_isBelow wm_X11_isBelow) := goodIn_w (List.forall_mem_append.mpr ⟨List.forall_mem_cons.mpr ⟨List.mem_cons_of_mem _ (List.mem_append_left _ (List.mem_append_left _ (List.mem_append_left _ (List.mem_append_left _ (List.mem_of_getElem? (i := 7) rfl))))), List.forall_mem_cons.mpr ⟨List.mem_cons_of_mem _ (List.mem_append_left _ (List.mem_append_left _ (List.mem_append_left _ (List.mem_append_left _ (List.mem_of_getElem? (i := 8) rfl))))), List.forall_mem_cons.mpr ⟨List.mem_cons_of_mem _ (List.mem_append_left _ (List.mem_append_left _ (List.mem_append_left _ (List.mem_append_left _ (List.mem_of_getElem? (i := 9) rfl))))), (fun _ h => absurd h List.not_mem_nil)⟩⟩⟩, List.forall_mem_cons.mpr ⟨List.mem_cons_of_mem _ (List.mem_append_left _ (List.mem_append_left _ (List.mem_append_left _ (List.mem_append_left _ (List.mem_of_getElem? (i := 10) rfl))))), (fun _ h => absurd h List.not_mem_nil)⟩⟩) (by decide +kernel)
set_option maxRecDepth 20000 in
theorem gm_X11_standard_e_X9_end_95 : GoodIn wm_X11_standard_e (wsV RX11 95 RX9 yX9_end wm_X9_end) := goodIn_w (List.forall_mem_append.mpr ⟨List.forall_mem_cons.mpr ⟨List.mem_cons_of_mem _ (List.mem_append_left _ (List.mem_append_left _ (List.mem_append_left _ (List.mem_append_left _ (List.mem_of_getElem? (i := 12) rfl))))), List.forall_mem_cons.mpr ⟨List.mem_cons_of_mem _ (List.mem_append_left _ (List.mem_append_left _ (List.mem_append_left _ (List.mem_append_left _ (List.mem_of_getElem? (i := 13) rfl))))), List.forall_mem_cons.mpr ⟨List.mem_cons_of_mem _ (List.mem_append_left _ (List.mem_append_left _ (List.mem_append_left _ (List.mem_append_left _ (List.mem_of_getElem? (i := 14) rfl))))), List.forall_mem_cons.mpr ⟨List.mem_cons_of_mem _ (List.mem_append_left _ (List.mem_append_left _ (List.mem_append_left _ (List.mem_append_left _ (List.mem_of_getElem? (i := 15) rfl))))), (fun _ h => absurd h List.not_mem_nil)⟩⟩⟩⟩, List.forall_mem_cons.mpr ⟨List.mem_cons_of_mem _ (List.mem_append_left _ (List.mem_append_left _ (List.mem_append_left _ (List.mem_append_right _ (List.mem_of_getElem? (i := 0) rfl))))), List.forall_mem_append.mpr ⟨List.forall_mem_cons.mpr ⟨List.mem_cons_of_mem _ (List.mem_append_left _ (List.mem_append_left _ (List.mem_append_left _ (List.mem_append_right _ (List.mem_of_getElem? (i := 1) rfl))))), List.forall_mem_cons.mpr ⟨List.mem_cons_of_mem _ (List.mem_append_left _ (List.mem_append_left _ (List.mem_append_left _ (List.mem_append_right _ (List.mem_of_getElem? (i := 2) rfl))))), (fun _ h => absurd h List.not_mem_nil)⟩⟩, (fun _ h => List.mem_cons_of_mem _ (List.mem_append_right _ h))⟩⟩⟩) (by decide +kernel)
set_option maxRecDepth 20000 in
theorem gm_X11_standard_e_X10_changeStandard_e_98 : GoodIn wm_X11_standard_e (wsV RX11 98 RX10 yX10_changeStandard wm_X10_changeStandard_e) := goodIn_w (List.forall_mem_append.mpr ⟨List.forall_mem_cons.mpr ⟨List.mem_cons_of_mem _ (List.mem_append_left _ (List.mem_append_left _ (List.mem_append_left _ (List.mem_append_right _ (List.mem_of_getElem? (i := 3) rfl))))), List.forall_mem_cons.mpr ⟨List.mem_cons_of_mem _ (List.mem_append_left _ (List.mem_append_left _ (List.mem_append_left _ (List.mem_append_right _ (List.mem_of_getElem? (i := 4) rfl))))), List.forall_mem_cons.mpr ⟨List.mem_cons_of_mem _ (List.mem_append_left _ (List.mem_append_left _ (List.mem_append_left _ (List.mem_append_right _ (List.mem_of_getElem? (i := 5) rfl))))), List.forall_mem_cons.mpr ⟨List.mem_cons_of_mem _ (List.mem_append_left _ (List.mem_append_left _ (List.mem_append_left _ (List.mem_append_left _ (List.mem_of_getElem? (i := 4) rfl))))), (fun _ h => absurd h List.not_mem_nil)⟩⟩⟩⟩, List.forall_mem_cons.mpr ⟨List.mem_cons_of_mem _ (List.mem_append_left _ (List.mem_append_left _ (List.mem_append_left _ (List.mem_append_right _ (List.mem_of_getElem? (i := 6) rfl))))), List.forall_mem_append.mpr ⟨List.forall_mem_cons.mpr ⟨List.mem_cons_of_mem _ (List.mem_append_left _ (List.mem_append_left _ (List.mem_append_left _ (List.mem_append_right _ (List.mem_of_getElem? (i := 7) rfl))))), (fun _ h => absurd h List.not_mem_nil)⟩, (fun _ h => List.mem_cons_of_mem _ (List.mem_append_left _ (List.mem_append_right _ h)))⟩⟩⟩) (by decide +kernel)
set_option maxHeartbeats 4000000 in
set_option maxRecDepth 100000 in
theorem x_X11_standard_e (l : Launch) (D : va_G) (sz : Nat) (sk : Value) (a : Nat → Nat) (t : Nat → ClassId) (i : Nat → Int32) (q : Int64) (c : Nat → Nat → Int32) (d : Nat → Nat → Int64) (k1 : Int32) (f : Int32) (v1 : Int32) (hI : xInv i c) : Met l yX11_standard wm_X11_standard_e ({ frames := 1, cells := 0, slots := 0, locals := 24 }) (va_Pc [.ref (a 100), .int k1, .int f, .int v1] (yB (a 186) D sz (xwT sk a t i q c d) (xtT t))) (va_Qi (fun (r : Int32) (u : MS) => True ∧ xInv u.1 u.2.2.1 ∧ (∀ k, k ∉ ([146, 148] : List Nat) → u.1 k = i k) ∧ (∀ k, k ∉ ([107] : List Nat) → u.2.2.1 k = c k) ∧ (xEn (i 146) (i 148) (u.1 146) (u.1 148)) ∧ (StR (c 107) k1 f v1 (i 110).toInt r) ∧ (StU (c 107) (u.2.2.1 107) k1 f v1 (i 110).toInt)) (oC D (va_A (xwT sk a t i q c d) sz) (fun u : MS => xwT sk a t u.1 u.2.1 u.2.2.1 u.2.2.2) (fun _ => [])) (va_A (xwT sk a t i q c d) sz)) 0 0 (va_A (xwT sk a t i q c d) sz) := by
  refine Met.ofW (cc := cX11_standard) (maxL := 4) (ret := (some .int)) (by decide +kernel) rfl ?_
  intro p e s m args below meth cd s₁ B hml hv
  obtain ⟨rfl, ⟨hsz, hP, hK, hD0⟩, hN, hZ, hBW⟩ := hv
  have hx := B.exec
  have hb := B.bytes
  have hr := B.returns
  have hts := atoms_spec (ws := wm_X11_standard_e) B.pre
  have hown : s.vm.findClass RX11 = some m.cls := findClass_of_methodNamed B.named
  have hlocks := B.notSynchronized
  subst hsz
  have hD := hD0.self (sz := s.heap.size)
  have hZ := xZ_A hZ hP hBW
  generalize hAe : va_A (xwT sk a t i q c d) s.heap.size = A at hD hZ ⊢
  have hA : ∀ q : Nat, s.heap.size ≤ q → A q := fun q h => by rw [← hAe]; exact Or.inr h
  have hS : va_S A s.heap s.heap [] := va_S.rf
  have hfi : ∀ k, k ∉ ([] : List Nat) → i k = i k := fun _ _ => rfl
  have hfc : ∀ k, k ∉ ([] : List Nat) → c k = c k := fun _ _ => rfl
  have hl := lv_entry ([.ref (a 100), .int k1, .int f, .int v1]) (n := 4) (Nat.le_of_ble_eq_true rfl)
  rw [lg_entry_eq]
  generalize (lg_sl ([.ref (a 100), .int k1, .int f, .int v1]) ++ List.replicate (4 - (lg_sl ([.ref (a 100), .int k1, .int f, .int v1])).length) Slot.unset).toArray = ls at hl ⊢
  have hl : lv_has ls 4 [(0, .ref (a 100)), (1, .int k1), (2, .int f), (3, .int v1)] := hl
  have rb110_i : 6 ≤ (i 110).toInt ∧ (i 110).toInt ≤ 24 := hI.1 110
  refine lv_aload_n hx hb dX11_standard_0 rfl (lv_at hl 0 rfl) ?_
  refine xgT_X_world hx hb hts (fun _ h => List.mem_cons_of_mem _ (List.mem_append_left _ (List.mem_append_left _ (List.mem_append_right _ h)))) hown hK hP (hts (.fieldLink RX11 10 "TalePlay" "world" "LTalePlay$World;") (List.mem_cons_of_mem _ (List.mem_append_left _ (List.mem_append_left _ (List.mem_append_left _ (List.mem_append_left _ (List.mem_of_getElem? (i := 0) rfl))))))) dX11_standard_1 ?_
  refine lv_iload_n hx hb dX11_standard_4 rfl (lv_at hl 1 rfl) ?_
  refine ro_calli (va_runV (As := [.int k1]) (rest := []) ⟨hx, hb, hml, hown, hts⟩ (x_X10_hasKind l D s.heap.size .null a t i q c d k1 hI ) (cwV 1 hts gm_X11_standard_e_X10_hasKind_80 rfl rfl rfl (by decide +kernel) ⟨Nat.le_of_ble_eq_true rfl, Nat.le_of_ble_eq_true rfl⟩) (yA_V hN (xZ_k hZ hS hA) (xkT_W hK) (xuT_W (sk := sk) hP) (ci := 10) (q0 := 0) rfl rfl) rfl rfl hl.1 rfl (lv_room (Nat.le_of_ble_eq_true rfl)) dX11_standard_5 ⟨Nat.le_of_ble_eq_true rfl, Nat.le_of_ble_eq_true rfl⟩) hS hA hP (fun r1 u1 H locs hw1 hP hS => ?_)
  have hw1 : r1 = if (0 ≤ k1.toInt ∧ k1.toInt < (i 110).toInt) then 1 else 0 := hw1
  refine lv_if_eq (tgt := 35) hx hb dX11_standard_8 (by decide +kernel) (fun c2 => ?_) (fun c2 => ?_)
  · have f2 := fl_f hw1 c2
    refine lv_iconst (v := (-1)) hx hb dX11_standard_35 (by decide +kernel) ?_
    exact rw_iret (i, q, c, d) hx hb hr hlocks hS (hK.sub (tys' := []) [] rfl) hP hD dX11_standard_36 ⟨trivial, hI, fr_w hfi (by decide +kernel), fr_w hfc (by decide +kernel), (show xEn (i 146) (i 148) ((i 146) : Int32) ((i 148) : Int32) from Or.inr ⟨rfl, rfl⟩), (show StR (c 107) k1 f v1 (i 110).toInt ((-1) : Int32) from Or.inl ⟨by unfold StB; omega, by decide⟩), (show StU (c 107) (c 107) k1 f v1 (i 110).toInt from Or.inl ⟨by unfold StB; omega, rfl⟩)⟩
  · have f2 := fl_t hw1 c2
    refine lv_iload_n hx hb dX11_standard_11 rfl (lv_at hl 2 rfl) ?_
    refine lv_bipush (v := 6) hx hb dX11_standard_12 (by decide +kernel) ?_
    have hPc := hP.sub (ws' := []) [] rfl
    have hKc := hK.sub (tys' := []) [] rfl
    refine ro_calli (va_runS (As := [.int f, .int 6]) (rest := []) ⟨hx, hb, hml, hown, hts⟩ (c_X11_isBelow l D H.size f 6 f.toInt 6 rfl (by decide +kernel)) (va_cwS 2 hts gm_X11_standard_e_X11_isBelow_91 rfl rfl rfl (by decide +kernel) ⟨Nat.le_of_ble_eq_true rfl, Nat.le_of_ble_eq_true rfl⟩) (pA_S hKc hPc) rfl rfl hl.1 rfl (lv_room (Nat.le_of_ble_eq_true rfl)) dX11_standard_14 ⟨Nat.le_of_ble_eq_true rfl, Nat.le_of_ble_eq_true rfl⟩) hS hA hP (fun r4 u4 H locs hw4 hP hS => ?_)
    have hw4 : r4 = if (0 ≤ f.toInt ∧ f.toInt < 6) then 1 else 0 := hw4
    refine lv_if_eq (tgt := 35) hx hb dX11_standard_17 (by decide +kernel) (fun c5 => ?_) (fun c5 => ?_)
    · have f5 := fl_f hw4 c5
      refine lv_iconst (v := (-1)) hx hb dX11_standard_35 (by decide +kernel) ?_
      exact rw_iret (i, q, c, d) hx hb hr hlocks hS (hK.sub (tys' := []) [] rfl) hP hD dX11_standard_36 ⟨trivial, hI, fr_w hfi (by decide +kernel), fr_w hfc (by decide +kernel), (show xEn (i 146) (i 148) ((i 146) : Int32) ((i 148) : Int32) from Or.inr ⟨rfl, rfl⟩), (show StR (c 107) k1 f v1 (i 110).toInt ((-1) : Int32) from Or.inl ⟨by unfold StB; omega, by decide⟩), (show StU (c 107) (c 107) k1 f v1 (i 110).toInt from Or.inl ⟨by unfold StB; omega, rfl⟩)⟩
    · have f5 := fl_t hw4 c5
      refine lv_iload_n hx hb dX11_standard_20 rfl (lv_at hl 3 rfl) ?_
      refine lv_if_eq (tgt := 37) hx hb dX11_standard_21 (by decide +kernel) (fun c6 => ?_) (fun c6 => ?_)
      · have f6 := (ti_eq (a := v1.toInt) (b := 0) rfl (by decide +kernel)).mp c6
        refine lv_aload_n hx hb dX11_standard_37 rfl (lv_at hl 0 rfl) ?_
        refine xgT_X_tale hx hb hts (fun _ h => List.mem_cons_of_mem _ (List.mem_append_left _ (List.mem_append_left _ (List.mem_append_right _ h)))) hown hK hP (hts (.fieldLink RX11 46 "TalePlay" "tale" "LTalePlay$Tale;") (List.mem_cons_of_mem _ (List.mem_append_left _ (List.mem_append_left _ (List.mem_append_left _ (List.mem_append_left _ (List.mem_of_getElem? (i := 11) rfl))))))) dX11_standard_38 ?_
        refine al_callv (va_runV (As := []) (rest := []) ⟨hx, hb, hml, hown, hts⟩ (x_X9_end l D H.size sk a t i q c d  hI ) (cwV 0 hts gm_X11_standard_e_X9_end_95 rfl rfl rfl (by decide +kernel) ⟨Nat.le_of_ble_eq_true rfl, Nat.le_of_ble_eq_true rfl⟩) (yB_V hN (xZ_k hZ hS hA) (xZ_n hZ hD) hK hP hD (ci := 9) (q0 := 33) rfl rfl) rfl rfl hl.1 rfl (lv_room (Nat.le_of_ble_eq_true rfl)) dX11_standard_41 ⟨Nat.le_of_ble_eq_true rfl, Nat.le_of_ble_eq_true rfl⟩) hS hA hP hD (fun u7 H locs hw7 hP hD hS => ?_)
        obtain ⟨i7, q7, c7, d7⟩ := u7
        have hw7 : True ∧ xInv i7 c7 ∧ (∀ k, k ∉ ([146, 148] : List Nat) → i7 k = i k) ∧ (∀ k, k ∉ ([] : List Nat) → c7 k = c k) ∧ ((i7 146).toInt = 0) ∧ ((i7 148).toInt = 0) := hw7
        obtain ⟨hw7, hI, hei7, hec7, hxp7_0, hxp7_1⟩ := hw7
        have hxp7_0 : (i7 146).toInt = 0 := hxp7_0
        have hxp7_1 : (i7 148).toInt = 0 := hxp7_1
        have hfi : ∀ k, k ∉ ([146, 148] : List Nat) → i7 k = i k := fr_z hfi hei7 (by decide +kernel) (by decide +kernel)
        have hfc : ∀ k, k ∉ ([] : List Nat) → c7 k = c k := fr_z hfc hec7 (by decide +kernel) (by decide +kernel)
        have hen : (i7 146).toInt = 0 := hxp7_0
        refine lv_aload_n hx hb dX11_standard_44 rfl (lv_at hl 0 rfl) ?_
        refine xgT_X_world hx hb hts (fun _ h => List.mem_cons_of_mem _ (List.mem_append_left _ (List.mem_append_left _ (List.mem_append_right _ h)))) hown hK hP (hts (.fieldLink RX11 10 "TalePlay" "world" "LTalePlay$World;") (List.mem_cons_of_mem _ (List.mem_append_left _ (List.mem_append_left _ (List.mem_append_left _ (List.mem_append_left _ (List.mem_of_getElem? (i := 0) rfl))))))) dX11_standard_45 ?_
        refine lv_iload_n hx hb dX11_standard_48 rfl (lv_at hl 1 rfl) ?_
        refine lv_iload_n hx hb dX11_standard_49 rfl (lv_at hl 2 rfl) ?_
        refine lv_iload_n hx hb dX11_standard_50 rfl (lv_at hl 3 rfl) ?_
        refine al_calli (va_runV (As := [.int k1, .int f, .int v1]) (rest := []) ⟨hx, hb, hml, hown, hts⟩ (x_X10_changeStandard_e l D H.size sk a t i7 q7 c7 d7 k1 f v1 hI (show 0 ≤ k1.toInt ∧ k1.toInt ≤ 23 from by omega) (show 0 ≤ f.toInt ∧ f.toInt ≤ 5 from by omega) (show v1.toInt = -9 ∨ (0 ≤ v1.toInt ∧ v1.toInt ≤ 1) from by omega)) (cwV 3 hts gm_X11_standard_e_X10_changeStandard_e_98 rfl rfl rfl (by decide +kernel) ⟨Nat.le_of_ble_eq_true rfl, Nat.le_of_ble_eq_true rfl⟩) (yB_V hN (xZ_k hZ hS hA) (xZ_n hZ hD) hK hP hD (ci := 10) (q0 := 2) rfl rfl) rfl rfl hl.1 rfl (lv_room (Nat.le_of_ble_eq_true rfl)) dX11_standard_51 ⟨Nat.le_of_ble_eq_true rfl, Nat.le_of_ble_eq_true rfl⟩) hS hA hP hD (fun r8 u8 H locs hw8 hP hD hS => ?_)
        obtain ⟨i8, q8, c8, d8⟩ := u8
        have hw8 : True ∧ xInv i8 c8 ∧ (∀ k, k ∉ ([] : List Nat) → i8 k = i7 k) ∧ (∀ k, k ∉ ([107] : List Nat) → c8 k = c7 k) ∧ (r8 = (c7 107 (k1.toInt * 6 + f.toInt).toNat)) ∧ ((c8 107) = upd (c7 107) (k1.toInt * 6 + f.toInt).toNat v1) := hw8
        obtain ⟨hw8, hI, hei8, hec8, hxp8_0, hxp8_1⟩ := hw8
        have hxp8_0 : r8 = (c 107 (k1.toInt * 6 + f.toInt).toNat) := by have h9 := hxp8_0; rw [show c7 107 = c 107 from hfc 107 (by decide +kernel)] at h9; exact h9
        have hxp8_1 : (c8 107) = upd (c 107) (k1.toInt * 6 + f.toInt).toNat v1 := by have h9 := hxp8_1; rw [show c7 107 = c 107 from hfc 107 (by decide +kernel)] at h9; exact h9
        have hfi : ∀ k, k ∉ ([146, 148] : List Nat) → i8 k = i k := fr_z hfi hei8 (by decide +kernel) (by decide +kernel)
        have hfc : ∀ k, k ∉ ([107] : List Nat) → c8 k = c k := fr_z hfc hec8 (by decide +kernel) (by decide +kernel)
        have hen : ((i8 146) : Int32).toInt = 0 := by rw [show i8 146 = i7 146 from hei8 146 (by decide +kernel)]; exact hen
        exact rw_iret (i8, q8, c8, d8) hx hb hr hlocks hS (hK.sub (tys' := []) [] rfl) hP hD dX11_standard_54 ⟨trivial, hI, fr_w hfi (by decide +kernel), fr_w hfc (by decide +kernel), (show xEn (i 146) (i 148) ((i8 146) : Int32) ((i8 148) : Int32) from Or.inl hen), (show StR (c 107) k1 f v1 (i 110).toInt (r8 : Int32) from Or.inr ⟨by unfold StB; omega, hxp8_0⟩), (show StU (c 107) (c8 107) k1 f v1 (i 110).toInt from Or.inr ⟨by unfold StB; omega, hxp8_1⟩)⟩
      · have f6 := mt (ti_eq (a := v1.toInt) (b := 0) rfl (by decide +kernel)).mpr c6
        refine lv_iload_n hx hb dX11_standard_24 rfl (lv_at hl 3 rfl) ?_
        refine lv_iconst (v := 1) hx hb dX11_standard_25 (by decide +kernel) ?_
        refine lv_icmp_eq (tgt := 37) hx hb dX11_standard_26 (by decide +kernel) (fun c9 => ?_) (fun c9 => ?_)
        · have f9 := (ti_eq (a := v1.toInt) (b := 1) rfl (by decide +kernel)).mp c9
          refine lv_aload_n hx hb dX11_standard_37 rfl (lv_at hl 0 rfl) ?_
          refine xgT_X_tale hx hb hts (fun _ h => List.mem_cons_of_mem _ (List.mem_append_left _ (List.mem_append_left _ (List.mem_append_right _ h)))) hown hK hP (hts (.fieldLink RX11 46 "TalePlay" "tale" "LTalePlay$Tale;") (List.mem_cons_of_mem _ (List.mem_append_left _ (List.mem_append_left _ (List.mem_append_left _ (List.mem_append_left _ (List.mem_of_getElem? (i := 11) rfl))))))) dX11_standard_38 ?_
          refine al_callv (va_runV (As := []) (rest := []) ⟨hx, hb, hml, hown, hts⟩ (x_X9_end l D H.size sk a t i q c d  hI ) (cwV 0 hts gm_X11_standard_e_X9_end_95 rfl rfl rfl (by decide +kernel) ⟨Nat.le_of_ble_eq_true rfl, Nat.le_of_ble_eq_true rfl⟩) (yB_V hN (xZ_k hZ hS hA) (xZ_n hZ hD) hK hP hD (ci := 9) (q0 := 33) rfl rfl) rfl rfl hl.1 rfl (lv_room (Nat.le_of_ble_eq_true rfl)) dX11_standard_41 ⟨Nat.le_of_ble_eq_true rfl, Nat.le_of_ble_eq_true rfl⟩) hS hA hP hD (fun u10 H locs hw10 hP hD hS => ?_)
          obtain ⟨i10, q10, c10, d10⟩ := u10
          have hw10 : True ∧ xInv i10 c10 ∧ (∀ k, k ∉ ([146, 148] : List Nat) → i10 k = i k) ∧ (∀ k, k ∉ ([] : List Nat) → c10 k = c k) ∧ ((i10 146).toInt = 0) ∧ ((i10 148).toInt = 0) := hw10
          obtain ⟨hw10, hI, hei10, hec10, hxp10_0, hxp10_1⟩ := hw10
          have hxp10_0 : (i10 146).toInt = 0 := hxp10_0
          have hxp10_1 : (i10 148).toInt = 0 := hxp10_1
          have hfi : ∀ k, k ∉ ([146, 148] : List Nat) → i10 k = i k := fr_z hfi hei10 (by decide +kernel) (by decide +kernel)
          have hfc : ∀ k, k ∉ ([] : List Nat) → c10 k = c k := fr_z hfc hec10 (by decide +kernel) (by decide +kernel)
          have hen : (i10 146).toInt = 0 := hxp10_0
          refine lv_aload_n hx hb dX11_standard_44 rfl (lv_at hl 0 rfl) ?_
          refine xgT_X_world hx hb hts (fun _ h => List.mem_cons_of_mem _ (List.mem_append_left _ (List.mem_append_left _ (List.mem_append_right _ h)))) hown hK hP (hts (.fieldLink RX11 10 "TalePlay" "world" "LTalePlay$World;") (List.mem_cons_of_mem _ (List.mem_append_left _ (List.mem_append_left _ (List.mem_append_left _ (List.mem_append_left _ (List.mem_of_getElem? (i := 0) rfl))))))) dX11_standard_45 ?_
          refine lv_iload_n hx hb dX11_standard_48 rfl (lv_at hl 1 rfl) ?_
          refine lv_iload_n hx hb dX11_standard_49 rfl (lv_at hl 2 rfl) ?_
          refine lv_iload_n hx hb dX11_standard_50 rfl (lv_at hl 3 rfl) ?_
          refine al_calli (va_runV (As := [.int k1, .int f, .int v1]) (rest := []) ⟨hx, hb, hml, hown, hts⟩ (x_X10_changeStandard_e l D H.size sk a t i10 q10 c10 d10 k1 f v1 hI (show 0 ≤ k1.toInt ∧ k1.toInt ≤ 23 from by omega) (show 0 ≤ f.toInt ∧ f.toInt ≤ 5 from by omega) (show v1.toInt = -9 ∨ (0 ≤ v1.toInt ∧ v1.toInt ≤ 1) from by omega)) (cwV 3 hts gm_X11_standard_e_X10_changeStandard_e_98 rfl rfl rfl (by decide +kernel) ⟨Nat.le_of_ble_eq_true rfl, Nat.le_of_ble_eq_true rfl⟩) (yB_V hN (xZ_k hZ hS hA) (xZ_n hZ hD) hK hP hD (ci := 10) (q0 := 2) rfl rfl) rfl rfl hl.1 rfl (lv_room (Nat.le_of_ble_eq_true rfl)) dX11_standard_51 ⟨Nat.le_of_ble_eq_true rfl, Nat.le_of_ble_eq_true rfl⟩) hS hA hP hD (fun r11 u11 H locs hw11 hP hD hS => ?_)
          obtain ⟨i11, q11, c11, d11⟩ := u11
          have hw11 : True ∧ xInv i11 c11 ∧ (∀ k, k ∉ ([] : List Nat) → i11 k = i10 k) ∧ (∀ k, k ∉ ([107] : List Nat) → c11 k = c10 k) ∧ (r11 = (c10 107 (k1.toInt * 6 + f.toInt).toNat)) ∧ ((c11 107) = upd (c10 107) (k1.toInt * 6 + f.toInt).toNat v1) := hw11
          obtain ⟨hw11, hI, hei11, hec11, hxp11_0, hxp11_1⟩ := hw11
          have hxp11_0 : r11 = (c 107 (k1.toInt * 6 + f.toInt).toNat) := by have h9 := hxp11_0; rw [show c10 107 = c 107 from hfc 107 (by decide +kernel)] at h9; exact h9
          have hxp11_1 : (c11 107) = upd (c 107) (k1.toInt * 6 + f.toInt).toNat v1 := by have h9 := hxp11_1; rw [show c10 107 = c 107 from hfc 107 (by decide +kernel)] at h9; exact h9
          have hfi : ∀ k, k ∉ ([146, 148] : List Nat) → i11 k = i k := fr_z hfi hei11 (by decide +kernel) (by decide +kernel)
          have hfc : ∀ k, k ∉ ([107] : List Nat) → c11 k = c k := fr_z hfc hec11 (by decide +kernel) (by decide +kernel)
          have hen : ((i11 146) : Int32).toInt = 0 := by rw [show i11 146 = i10 146 from hei11 146 (by decide +kernel)]; exact hen
          exact rw_iret (i11, q11, c11, d11) hx hb hr hlocks hS (hK.sub (tys' := []) [] rfl) hP hD dX11_standard_54 ⟨trivial, hI, fr_w hfi (by decide +kernel), fr_w hfc (by decide +kernel), (show xEn (i 146) (i 148) ((i11 146) : Int32) ((i11 148) : Int32) from Or.inl hen), (show StR (c 107) k1 f v1 (i 110).toInt (r11 : Int32) from Or.inr ⟨by unfold StB; omega, hxp11_0⟩), (show StU (c 107) (c11 107) k1 f v1 (i 110).toInt from Or.inr ⟨by unfold StB; omega, hxp11_1⟩)⟩
        · have f9 := mt (ti_eq (a := v1.toInt) (b := 1) rfl (by decide +kernel)).mpr c9
          refine lv_iload_n hx hb dX11_standard_29 rfl (lv_at hl 3 rfl) ?_
          refine lv_bipush (v := (-9)) hx hb dX11_standard_30 (by decide +kernel) ?_
          refine lv_icmp_eq (tgt := 37) hx hb dX11_standard_32 (by decide +kernel) (fun c12 => ?_) (fun c12 => ?_)
          · have f12 := (ti_eq (a := v1.toInt) (b := (-9)) rfl (by decide +kernel)).mp c12
            refine lv_aload_n hx hb dX11_standard_37 rfl (lv_at hl 0 rfl) ?_
            refine xgT_X_tale hx hb hts (fun _ h => List.mem_cons_of_mem _ (List.mem_append_left _ (List.mem_append_left _ (List.mem_append_right _ h)))) hown hK hP (hts (.fieldLink RX11 46 "TalePlay" "tale" "LTalePlay$Tale;") (List.mem_cons_of_mem _ (List.mem_append_left _ (List.mem_append_left _ (List.mem_append_left _ (List.mem_append_left _ (List.mem_of_getElem? (i := 11) rfl))))))) dX11_standard_38 ?_
            refine al_callv (va_runV (As := []) (rest := []) ⟨hx, hb, hml, hown, hts⟩ (x_X9_end l D H.size sk a t i q c d  hI ) (cwV 0 hts gm_X11_standard_e_X9_end_95 rfl rfl rfl (by decide +kernel) ⟨Nat.le_of_ble_eq_true rfl, Nat.le_of_ble_eq_true rfl⟩) (yB_V hN (xZ_k hZ hS hA) (xZ_n hZ hD) hK hP hD (ci := 9) (q0 := 33) rfl rfl) rfl rfl hl.1 rfl (lv_room (Nat.le_of_ble_eq_true rfl)) dX11_standard_41 ⟨Nat.le_of_ble_eq_true rfl, Nat.le_of_ble_eq_true rfl⟩) hS hA hP hD (fun u13 H locs hw13 hP hD hS => ?_)
            obtain ⟨i13, q13, c13, d13⟩ := u13
            have hw13 : True ∧ xInv i13 c13 ∧ (∀ k, k ∉ ([146, 148] : List Nat) → i13 k = i k) ∧ (∀ k, k ∉ ([] : List Nat) → c13 k = c k) ∧ ((i13 146).toInt = 0) ∧ ((i13 148).toInt = 0) := hw13
            obtain ⟨hw13, hI, hei13, hec13, hxp13_0, hxp13_1⟩ := hw13
            have hxp13_0 : (i13 146).toInt = 0 := hxp13_0
            have hxp13_1 : (i13 148).toInt = 0 := hxp13_1
            have hfi : ∀ k, k ∉ ([146, 148] : List Nat) → i13 k = i k := fr_z hfi hei13 (by decide +kernel) (by decide +kernel)
            have hfc : ∀ k, k ∉ ([] : List Nat) → c13 k = c k := fr_z hfc hec13 (by decide +kernel) (by decide +kernel)
            have hen : (i13 146).toInt = 0 := hxp13_0
            refine lv_aload_n hx hb dX11_standard_44 rfl (lv_at hl 0 rfl) ?_
            refine xgT_X_world hx hb hts (fun _ h => List.mem_cons_of_mem _ (List.mem_append_left _ (List.mem_append_left _ (List.mem_append_right _ h)))) hown hK hP (hts (.fieldLink RX11 10 "TalePlay" "world" "LTalePlay$World;") (List.mem_cons_of_mem _ (List.mem_append_left _ (List.mem_append_left _ (List.mem_append_left _ (List.mem_append_left _ (List.mem_of_getElem? (i := 0) rfl))))))) dX11_standard_45 ?_
            refine lv_iload_n hx hb dX11_standard_48 rfl (lv_at hl 1 rfl) ?_
            refine lv_iload_n hx hb dX11_standard_49 rfl (lv_at hl 2 rfl) ?_
            refine lv_iload_n hx hb dX11_standard_50 rfl (lv_at hl 3 rfl) ?_
            refine al_calli (va_runV (As := [.int k1, .int f, .int v1]) (rest := []) ⟨hx, hb, hml, hown, hts⟩ (x_X10_changeStandard_e l D H.size sk a t i13 q13 c13 d13 k1 f v1 hI (show 0 ≤ k1.toInt ∧ k1.toInt ≤ 23 from by omega) (show 0 ≤ f.toInt ∧ f.toInt ≤ 5 from by omega) (show v1.toInt = -9 ∨ (0 ≤ v1.toInt ∧ v1.toInt ≤ 1) from by omega)) (cwV 3 hts gm_X11_standard_e_X10_changeStandard_e_98 rfl rfl rfl (by decide +kernel) ⟨Nat.le_of_ble_eq_true rfl, Nat.le_of_ble_eq_true rfl⟩) (yB_V hN (xZ_k hZ hS hA) (xZ_n hZ hD) hK hP hD (ci := 10) (q0 := 2) rfl rfl) rfl rfl hl.1 rfl (lv_room (Nat.le_of_ble_eq_true rfl)) dX11_standard_51 ⟨Nat.le_of_ble_eq_true rfl, Nat.le_of_ble_eq_true rfl⟩) hS hA hP hD (fun r14 u14 H locs hw14 hP hD hS => ?_)
            obtain ⟨i14, q14, c14, d14⟩ := u14
            have hw14 : True ∧ xInv i14 c14 ∧ (∀ k, k ∉ ([] : List Nat) → i14 k = i13 k) ∧ (∀ k, k ∉ ([107] : List Nat) → c14 k = c13 k) ∧ (r14 = (c13 107 (k1.toInt * 6 + f.toInt).toNat)) ∧ ((c14 107) = upd (c13 107) (k1.toInt * 6 + f.toInt).toNat v1) := hw14
            obtain ⟨hw14, hI, hei14, hec14, hxp14_0, hxp14_1⟩ := hw14
            have hxp14_0 : r14 = (c 107 (k1.toInt * 6 + f.toInt).toNat) := by have h9 := hxp14_0; rw [show c13 107 = c 107 from hfc 107 (by decide +kernel)] at h9; exact h9
            have hxp14_1 : (c14 107) = upd (c 107) (k1.toInt * 6 + f.toInt).toNat v1 := by have h9 := hxp14_1; rw [show c13 107 = c 107 from hfc 107 (by decide +kernel)] at h9; exact h9
            have hfi : ∀ k, k ∉ ([146, 148] : List Nat) → i14 k = i k := fr_z hfi hei14 (by decide +kernel) (by decide +kernel)
            have hfc : ∀ k, k ∉ ([107] : List Nat) → c14 k = c k := fr_z hfc hec14 (by decide +kernel) (by decide +kernel)
            have hen : ((i14 146) : Int32).toInt = 0 := by rw [show i14 146 = i13 146 from hei14 146 (by decide +kernel)]; exact hen
            exact rw_iret (i14, q14, c14, d14) hx hb hr hlocks hS (hK.sub (tys' := []) [] rfl) hP hD dX11_standard_54 ⟨trivial, hI, fr_w hfi (by decide +kernel), fr_w hfc (by decide +kernel), (show xEn (i 146) (i 148) ((i14 146) : Int32) ((i14 148) : Int32) from Or.inl hen), (show StR (c 107) k1 f v1 (i 110).toInt (r14 : Int32) from Or.inr ⟨by unfold StB; omega, hxp14_0⟩), (show StU (c 107) (c14 107) k1 f v1 (i 110).toInt from Or.inr ⟨by unfold StB; omega, hxp14_1⟩)⟩
          · have f12 := mt (ti_eq (a := v1.toInt) (b := (-9)) rfl (by decide +kernel)).mpr c12
            refine lv_iconst (v := (-1)) hx hb dX11_standard_35 (by decide +kernel) ?_
            exact rw_iret (i, q, c, d) hx hb hr hlocks hS (hK.sub (tys' := []) [] rfl) hP hD dX11_standard_36 ⟨trivial, hI, fr_w hfi (by decide +kernel), fr_w hfc (by decide +kernel), (show xEn (i 146) (i 148) ((i 146) : Int32) ((i 148) : Int32) from Or.inr ⟨rfl, rfl⟩), (show StR (c 107) k1 f v1 (i 110).toInt ((-1) : Int32) from Or.inl ⟨by unfold StB; omega, by decide⟩), (show StU (c 107) (c 107) k1 f v1 (i 110).toInt from Or.inl ⟨by unfold StB; omega, rfl⟩)⟩

set_option maxHeartbeats 4000000 in
set_option maxRecDepth 100000 in
theorem s_X12_standard_e (l : Launch) (D : va_G) (sz : Nat) (o : Nat) (a : Nat → Nat) (t : Nat → ClassId) (i : Nat → Int32) (q : Int64) (c : Nat → Nat → Int32) (d : Nat → Nat → Int64) (k1 : Int32) (f1 : Int32) (v1 : Int32) (hI : mInv i c) (hs_S : SJ (c 3) (c 6) (c 9) (c 10) (c 11) (c 13) (i 2).toInt (i 5).toInt (i 8).toInt) (hs_J : TJ (c 3) (c 6) (c 23) (c 24) (c 29) (c 30) (i 5).toInt (i 22).toInt (i 27).toInt) : Met l yX12_standard wm_X12_standard ({ frames := 1, cells := 0, slots := 0, locals := 25 }) (va_Pc [.ref o, .int k1, .int f1, .int v1] (pB D sz (mW o a t i q c d) (mT t))) (va_Qi (fun (r : Int32) (u : MS) => True ∧ mInv u.1 u.2.2.1 ∧ (∀ k, k ∉ ([22, 27] : List Nat) → u.1 k = i k) ∧ (∀ k, k ∉ ([4] : List Nat) → u.2.2.1 k = c k) ∧ (SJ (u.2.2.1 3) (u.2.2.1 6) (u.2.2.1 9) (u.2.2.1 10) (u.2.2.1 11) (u.2.2.1 13) (u.1 2).toInt (u.1 5).toInt (u.1 8).toInt) ∧ (TJ (u.2.2.1 3) (u.2.2.1 6) (u.2.2.1 23) (u.2.2.1 24) (u.2.2.1 29) (u.2.2.1 30) (u.1 5).toInt (u.1 22).toInt (u.1 27).toInt) ∧ (StR (c 4) k1 f1 v1 (i 2).toInt r) ∧ (StU (c 4) (u.2.2.1 4) k1 f1 v1 (i 2).toInt)) (oC D (va_A (mW o a t i q c d) sz) (fun u : MS => mW o a t u.1 u.2.1 u.2.2.1 u.2.2.2) (fun _ => [])) (va_A (mW o a t i q c d) sz)) 0 0 (va_A (mW o a t i q c d) sz) := by
  refine Met.ofW (cc := cX12_standard) (maxL := 5) (ret := (some .int)) (by decide +kernel) rfl ?_
  intro p e s m args below meth cd s₁ B hml hv
  obtain ⟨rfl, hsz, hP, hK, hD0⟩ := hv
  have hx := B.exec
  have hb := B.bytes
  have hr := B.returns
  have hts := atoms_spec (ws := wm_X12_standard) B.pre
  have hown : s.vm.findClass RX12 = some m.cls := findClass_of_methodNamed B.named
  have hlocks := B.notSynchronized
  subst hsz
  have hD := hD0.self (sz := s.heap.size)
  generalize hAe : va_A (mW o a t i q c d) s.heap.size = A at hD ⊢
  have hA : ∀ q : Nat, s.heap.size ≤ q → A q := fun q h => by rw [← hAe]; exact Or.inr h
  have hS : va_S A s.heap s.heap [] := va_S.rf
  have hfi : ∀ k, k ∉ ([] : List Nat) → i k = i k := fun _ _ => rfl
  have hfc : ∀ k, k ∉ ([] : List Nat) → c k = c k := fun _ _ => rfl
  have hl := lv_entry ([.ref o, .int k1, .int f1, .int v1]) (n := 5) (Nat.le_of_ble_eq_true rfl)
  rw [lg_entry_eq]
  generalize (lg_sl ([.ref o, .int k1, .int f1, .int v1]) ++ List.replicate (5 - (lg_sl ([.ref o, .int k1, .int f1, .int v1])).length) Slot.unset).toArray = ls at hl ⊢
  have hl : lv_has ls 5 [(0, .ref o), (1, .int k1), (2, .int f1), (3, .int v1)] := hl
  have rb2_i : 6 ≤ (i 2).toInt ∧ (i 2).toInt ≤ 24 := hI.1 2
  refine lv_iload_n hx hb dX12_standard_0 rfl (lv_at hl 1 rfl) ?_
  refine lv_i2l (v := k1.toInt64) hx hb dX12_standard_1 rfl ?_
  refine lv_lconst (v := 0) hx hb dX12_standard_2 (by decide +kernel) ?_
  refine lv_aload_n hx hb dX12_standard_3 rfl (lv_at hl 0 rfl) ?_
  refine mget_2 (v := (i 2)) rfl hx hb hts (fun _ h => List.mem_cons_of_mem _ (List.mem_append_right _ h)) hown hK hP (hts (.fieldLink RX12 151 "TalePlayModel" "kinds" "I") (List.mem_cons_of_mem _ (List.mem_append_left _ (List.mem_of_getElem? (i := 0) rfl)))) dX12_standard_4 ?_
  refine lv_iconst (v := 1) hx hb dX12_standard_7 (by decide +kernel) ?_
  refine lv_isub hx hb dX12_standard_8 ?_
  refine lv_topi (fun x1 ex1 => ?_)
  have tx1 := ti_sub (a := (i 2).toInt) (b := 1) ex1 rfl (by decide +kernel) (by omega) (by omega)
  refine lv_i2l (v := x1.toInt64) hx hb dX12_standard_9 rfl ?_
  have hPc := hP.sub (ws' := []) [] rfl
  have hKc := hK.sub (tys' := []) [] rfl
  refine ro_calli (va_runS (As := [.long k1.toInt64, .long 0, .long x1.toInt64]) (rest := []) ⟨hx, hb, hml, hown, hts⟩ (c_X12_in l D s.heap.size k1.toInt64 0 x1.toInt64 k1.toInt 0 ((i 2).toInt - 1) ((Int32.toInt_toInt64 k1).trans rfl) (by decide +kernel) ((Int32.toInt_toInt64 x1).trans tx1)) (va_cwS 3 hts gm_X12_standard_X12_in rfl rfl rfl (by decide +kernel) ⟨Nat.le_of_ble_eq_true rfl, Nat.le_of_ble_eq_true rfl⟩) (pA_S hKc hPc) rfl rfl hl.1 rfl (lv_room (Nat.le_of_ble_eq_true rfl)) dX12_standard_10 ⟨Nat.le_of_ble_eq_true rfl, Nat.le_of_ble_eq_true rfl⟩) hS hA hP (fun r2 u2 H locs hw2 hP hS => ?_)
  have hw2 : r2 = if (0 ≤ k1.toInt ∧ k1.toInt ≤ ((i 2).toInt - 1)) then 1 else 0 := hw2
  refine lv_if_eq (tgt := 44) hx hb dX12_standard_13 (by decide +kernel) (fun c3 => ?_) (fun c3 => ?_)
  · have f3 := fl_f hw2 c3
    refine lv_iconst (v := (-1)) hx hb dX12_standard_44 (by decide +kernel) ?_
    exact rw_iret (i, q, c, d) hx hb hr hlocks hS (hK.sub (tys' := []) [] rfl) hP hD dX12_standard_45 ⟨trivial, hI, fr_w hfi (by decide +kernel), fr_w hfc (by decide +kernel), (show SJ (c 3) (c 6) (c 9) (c 10) (c 11) (c 13) ((i 2) : Int32).toInt ((i 5) : Int32).toInt ((i 8) : Int32).toInt from hs_S), (show TJ (c 3) (c 6) (c 23) (c 24) (c 29) (c 30) ((i 5) : Int32).toInt ((i 22) : Int32).toInt ((i 27) : Int32).toInt from hs_J), (show StR (c 4) k1 f1 v1 (i 2).toInt ((-1) : Int32) from Or.inl ⟨by unfold StB; omega, by decide⟩), (show StU (c 4) (c 4) k1 f1 v1 (i 2).toInt from Or.inl ⟨by unfold StB; omega, rfl⟩)⟩
  · have f3 := fl_t hw2 c3
    refine lv_iload_n hx hb dX12_standard_16 rfl (lv_at hl 2 rfl) ?_
    refine lv_i2l (v := f1.toInt64) hx hb dX12_standard_17 rfl ?_
    refine lv_lconst (v := 0) hx hb dX12_standard_18 (by decide +kernel) ?_
    refine lv_ldc2 (v := 5) hx hb hown (hts (.constantLong RX12 170 (5)) (List.mem_cons_of_mem _ (List.mem_append_left _ (List.mem_of_getElem? (i := 5) rfl)))) dX12_standard_19 ?_
    have hPc := hP.sub (ws' := []) [] rfl
    have hKc := hK.sub (tys' := []) [] rfl
    refine ro_calli (va_runS (As := [.long f1.toInt64, .long 0, .long 5]) (rest := []) ⟨hx, hb, hml, hown, hts⟩ (c_X12_in l D H.size f1.toInt64 0 5 f1.toInt 0 5 ((Int32.toInt_toInt64 f1).trans rfl) (by decide +kernel) (by decide +kernel)) (va_cwS 3 hts gm_X12_standard_X12_in rfl rfl rfl (by decide +kernel) ⟨Nat.le_of_ble_eq_true rfl, Nat.le_of_ble_eq_true rfl⟩) (pA_S hKc hPc) rfl rfl hl.1 rfl (lv_room (Nat.le_of_ble_eq_true rfl)) dX12_standard_22 ⟨Nat.le_of_ble_eq_true rfl, Nat.le_of_ble_eq_true rfl⟩) hS hA hP (fun r4 u4 H locs hw4 hP hS => ?_)
    have hw4 : r4 = if (0 ≤ f1.toInt ∧ f1.toInt ≤ 5) then 1 else 0 := hw4
    refine lv_if_eq (tgt := 44) hx hb dX12_standard_25 (by decide +kernel) (fun c5 => ?_) (fun c5 => ?_)
    · have f5 := fl_f hw4 c5
      refine lv_iconst (v := (-1)) hx hb dX12_standard_44 (by decide +kernel) ?_
      exact rw_iret (i, q, c, d) hx hb hr hlocks hS (hK.sub (tys' := []) [] rfl) hP hD dX12_standard_45 ⟨trivial, hI, fr_w hfi (by decide +kernel), fr_w hfc (by decide +kernel), (show SJ (c 3) (c 6) (c 9) (c 10) (c 11) (c 13) ((i 2) : Int32).toInt ((i 5) : Int32).toInt ((i 8) : Int32).toInt from hs_S), (show TJ (c 3) (c 6) (c 23) (c 24) (c 29) (c 30) ((i 5) : Int32).toInt ((i 22) : Int32).toInt ((i 27) : Int32).toInt from hs_J), (show StR (c 4) k1 f1 v1 (i 2).toInt ((-1) : Int32) from Or.inl ⟨by unfold StB; omega, by decide⟩), (show StU (c 4) (c 4) k1 f1 v1 (i 2).toInt from Or.inl ⟨by unfold StB; omega, rfl⟩)⟩
    · have f5 := fl_t hw4 c5
      refine lv_iload_n hx hb dX12_standard_28 rfl (lv_at hl 3 rfl) ?_
      refine lv_i2l (v := v1.toInt64) hx hb dX12_standard_29 rfl ?_
      refine lv_lconst (v := 0) hx hb dX12_standard_30 (by decide +kernel) ?_
      refine lv_lconst (v := 1) hx hb dX12_standard_31 (by decide +kernel) ?_
      have hPc := hP.sub (ws' := []) [] rfl
      have hKc := hK.sub (tys' := []) [] rfl
      refine ro_calli (va_runS (As := [.long v1.toInt64, .long 0, .long 1]) (rest := []) ⟨hx, hb, hml, hown, hts⟩ (c_X12_in l D H.size v1.toInt64 0 1 v1.toInt 0 1 ((Int32.toInt_toInt64 v1).trans rfl) (by decide +kernel) (by decide +kernel)) (va_cwS 3 hts gm_X12_standard_X12_in rfl rfl rfl (by decide +kernel) ⟨Nat.le_of_ble_eq_true rfl, Nat.le_of_ble_eq_true rfl⟩) (pA_S hKc hPc) rfl rfl hl.1 rfl (lv_room (Nat.le_of_ble_eq_true rfl)) dX12_standard_32 ⟨Nat.le_of_ble_eq_true rfl, Nat.le_of_ble_eq_true rfl⟩) hS hA hP (fun r6 u6 H locs hw6 hP hS => ?_)
      have hw6 : r6 = if (0 ≤ v1.toInt ∧ v1.toInt ≤ 1) then 1 else 0 := hw6
      refine lv_if_ne (tgt := 46) hx hb dX12_standard_35 (by decide +kernel) (fun c7 => ?_) (fun c7 => ?_)
      · have f7 := fl_t hw6 c7
        refine lv_aload_n hx hb dX12_standard_46 rfl (lv_at hl 0 rfl) ?_
        refine mget_4 hx hb hts (fun _ h => List.mem_cons_of_mem _ (List.mem_append_right _ h)) hown hK hP (hts (.fieldLink RX12 16 "TalePlayModel" "defaults" "[I") (List.mem_cons_of_mem _ (List.mem_append_left _ (List.mem_of_getElem? (i := 6) rfl)))) dX12_standard_47 ?_
        refine lv_bipush (v := 6) hx hb dX12_standard_50 (by decide +kernel) ?_
        refine lv_iload_n hx hb dX12_standard_52 rfl (lv_at hl 1 rfl) ?_
        refine lv_imul hx hb dX12_standard_53 ?_
        refine lv_topi (fun x8 ex8 => ?_)
        have tx8 := ti_mul (a := 6) (b := k1.toInt) ex8 (by decide +kernel) rfl (by omega) (by omega)
        refine lv_iload_n hx hb dX12_standard_54 rfl (lv_at hl 2 rfl) ?_
        refine lv_iadd hx hb dX12_standard_55 ?_
        refine lv_topi (fun x9 ex9 => ?_)
        have tx9 := ti_add (a := (6 * k1.toInt)) (b := f1.toInt) ex9 tx8 rfl (by omega) (by omega)
        refine mld_4 hx hb hK hP (vp_in_iff.mpr (by have h9 : x9.toInt = ((6 * k1.toInt) + f1.toInt) := tx9; omega)) dX12_standard_56 (fun x10 ex10 => ?_)
        have rx10 : x10.toInt = -9 ∨ (0 ≤ x10.toInt ∧ x10.toInt ≤ 1) := by rw [ex10]; exact hI.2 4 _
        refine lv_istore (lv' := [(4, .int x10), (0, .ref o), (1, .int k1), (2, .int f1), (3, .int v1)]) hx hb dX12_standard_57 hl (by decide +kernel) rfl (fun ls hl => ?_)
        refine lv_aload_n hx hb dX12_standard_59 rfl (lv_at hl 1 rfl) ?_
        refine mget_4 hx hb hts (fun _ h => List.mem_cons_of_mem _ (List.mem_append_right _ h)) hown hK hP (hts (.fieldLink RX12 16 "TalePlayModel" "defaults" "[I") (List.mem_cons_of_mem _ (List.mem_append_left _ (List.mem_of_getElem? (i := 6) rfl)))) dX12_standard_60 ?_
        refine lv_bipush (v := 6) hx hb dX12_standard_63 (by decide +kernel) ?_
        refine lv_iload_n hx hb dX12_standard_65 rfl (lv_at hl 2 rfl) ?_
        refine lv_imul hx hb dX12_standard_66 ?_
        refine lv_topi (fun x11 ex11 => ?_)
        have tx11 := ti_mul (a := 6) (b := k1.toInt) ex11 (by decide +kernel) rfl (by omega) (by omega)
        refine lv_iload_n hx hb dX12_standard_67 rfl (lv_at hl 3 rfl) ?_
        refine lv_iadd hx hb dX12_standard_68 ?_
        refine lv_topi (fun x12 ex12 => ?_)
        have tx12 := ti_add (a := (6 * k1.toInt)) (b := f1.toInt) ex12 tx11 rfl (by omega) (by omega)
        refine lv_iload_n hx hb dX12_standard_69 rfl (lv_at hl 4 rfl) ?_
        refine mst_4 hx hb hK hP hD hS (vp_in_iff.mpr (by have h9 : x12.toInt = ((6 * k1.toInt) + f1.toInt) := tx12; omega)) dX12_standard_70 (fun H locs hP hD hS => ?_)
        have hI := mInv_c hI (k := 4) (j := (x12 : Int32).toNatClampNeg) (x := v1) (show (v1 : Int32).toInt = -9 ∨ (0 ≤ (v1 : Int32).toInt ∧ (v1 : Int32).toInt ≤ 1) from by omega)
        have hfc : ∀ k, k ∉ ([4] : List Nat) → (updA c 4 (x12 : Int32).toNatClampNeg v1) k = c k := fr_cz hfc (by decide +kernel) (by decide +kernel)
        refine lv_aload_n hx hb dX12_standard_71 rfl (lv_at hl 1 rfl) ?_
        refine al_callv (va_runV (As := []) (rest := []) ⟨hx, hb, hml, hown, hts⟩ (s_X12_endTale l D H.size o a t i q (updA c 4 (x12 : Int32).toNatClampNeg v1) d  hI ) (cwV 0 hts gm_X12_standard_X12_endTale rfl rfl rfl (by decide +kernel) ⟨Nat.le_of_ble_eq_true rfl, Nat.le_of_ble_eq_true rfl⟩) (pB_V hK hP hD (ci := 12) (q0 := 0) rfl rfl) rfl rfl hl.1 rfl (lv_room (Nat.le_of_ble_eq_true rfl)) dX12_standard_72 ⟨Nat.le_of_ble_eq_true rfl, Nat.le_of_ble_eq_true rfl⟩) hS hA hP hD (fun u13 H locs hw13 hP hD hS => ?_)
        obtain ⟨i13, q13, c13, d13⟩ := u13
        have hw13 : True ∧ mInv i13 c13 ∧ (∀ k, k ∉ ([22, 27] : List Nat) → i13 k = i k) ∧ (∀ k, k ∉ ([] : List Nat) → c13 k = (updA c 4 (x12 : Int32).toNatClampNeg v1) k) ∧ ((i13 22).toInt = -9) ∧ ((i13 27).toInt = 0) := hw13
        obtain ⟨hw13, hI, hei13, hec13, hxp13_0, hxp13_1⟩ := hw13
        have hxp13_0 : (i13 22).toInt = -9 := hxp13_0
        have hxp13_1 : (i13 27).toInt = 0 := hxp13_1
        have hfi : ∀ k, k ∉ ([22, 27] : List Nat) → i13 k = i k := fr_z hfi hei13 (by decide +kernel) (by decide +kernel)
        have hfc : ∀ k, k ∉ ([4] : List Nat) → c13 k = c k := fr_z hfc hec13 (by decide +kernel) (by decide +kernel)
        have hP : va_P D vwCl (mW o a t i13 q13 c13 d13) H := hP
        have hD : va_D A (mW o a t i13 q13 c13 d13) := hD
        refine lv_iload hx hb dX12_standard_75 (lv_at hl 0 rfl) ?_
        exact rw_iret (i13, q13, c13, d13) hx hb hr hlocks hS (hK.sub (tys' := []) [] rfl) hP hD dX12_standard_77 ⟨trivial, hI, fr_w hfi (by decide +kernel), fr_w hfc (by decide +kernel), (show SJ (c13 3) (c13 6) (c13 9) (c13 10) (c13 11) (c13 13) ((i13 2) : Int32).toInt ((i13 5) : Int32).toInt ((i13 8) : Int32).toInt from by rw [show c13 3 = (updA c 4 (x12 : Int32).toNatClampNeg v1) 3 from hec13 3 (by decide +kernel), show c13 6 = (updA c 4 (x12 : Int32).toNatClampNeg v1) 6 from hec13 6 (by decide +kernel), show c13 9 = (updA c 4 (x12 : Int32).toNatClampNeg v1) 9 from hec13 9 (by decide +kernel), show c13 10 = (updA c 4 (x12 : Int32).toNatClampNeg v1) 10 from hec13 10 (by decide +kernel), show c13 11 = (updA c 4 (x12 : Int32).toNatClampNeg v1) 11 from hec13 11 (by decide +kernel), show c13 13 = (updA c 4 (x12 : Int32).toNatClampNeg v1) 13 from hec13 13 (by decide +kernel), show i13 2 = i 2 from hei13 2 (by decide +kernel), show i13 5 = i 5 from hei13 5 (by decide +kernel), show i13 8 = i 8 from hei13 8 (by decide +kernel)]; show SJ (c 3) (c 6) (c 9) (c 10) (c 11) (c 13) (i 2).toInt (i 5).toInt (i 8).toInt; exact hs_S), (show TJ (c13 3) (c13 6) (c13 23) (c13 24) (c13 29) (c13 30) ((i13 5) : Int32).toInt ((i13 22) : Int32).toInt ((i13 27) : Int32).toInt from TJ_no hxp13_0), (show StR (c 4) k1 f1 v1 (i 2).toInt (x10 : Int32) from Or.inr ⟨by unfold StB; omega, (ix_n (f := c 4) (s := x9) (show (x9 : Int32).toInt = k1.toInt * 6 + f1.toInt from by omega) ex10).symm⟩), (show StU (c 4) (c13 4) k1 f1 v1 (i 2).toInt from Or.inr ⟨by unfold StB; omega, by rw [show c13 4 = (updA c 4 (x12 : Int32).toNatClampNeg v1) 4 from hec13 4 (by decide +kernel)]; show upd (c 4) (x12 : Int32).toNatClampNeg v1 = _; rw [cl_t (show (x12 : Int32).toInt = k1.toInt * 6 + f1.toInt from by omega)]⟩)⟩
      · have f7 := fl_f hw6 c7
        refine lv_iload_n hx hb dX12_standard_38 rfl (lv_at hl 3 rfl) ?_
        refine lv_bipush (v := (-9)) hx hb dX12_standard_39 (by decide +kernel) ?_
        refine lv_icmp_eq (tgt := 46) hx hb dX12_standard_41 (by decide +kernel) (fun c14 => ?_) (fun c14 => ?_)
        · have f14 := (ti_eq (a := v1.toInt) (b := (-9)) rfl (by decide +kernel)).mp c14
          refine lv_aload_n hx hb dX12_standard_46 rfl (lv_at hl 0 rfl) ?_
          refine mget_4 hx hb hts (fun _ h => List.mem_cons_of_mem _ (List.mem_append_right _ h)) hown hK hP (hts (.fieldLink RX12 16 "TalePlayModel" "defaults" "[I") (List.mem_cons_of_mem _ (List.mem_append_left _ (List.mem_of_getElem? (i := 6) rfl)))) dX12_standard_47 ?_
          refine lv_bipush (v := 6) hx hb dX12_standard_50 (by decide +kernel) ?_
          refine lv_iload_n hx hb dX12_standard_52 rfl (lv_at hl 1 rfl) ?_
          refine lv_imul hx hb dX12_standard_53 ?_
          refine lv_topi (fun x15 ex15 => ?_)
          have tx15 := ti_mul (a := 6) (b := k1.toInt) ex15 (by decide +kernel) rfl (by omega) (by omega)
          refine lv_iload_n hx hb dX12_standard_54 rfl (lv_at hl 2 rfl) ?_
          refine lv_iadd hx hb dX12_standard_55 ?_
          refine lv_topi (fun x16 ex16 => ?_)
          have tx16 := ti_add (a := (6 * k1.toInt)) (b := f1.toInt) ex16 tx15 rfl (by omega) (by omega)
          refine mld_4 hx hb hK hP (vp_in_iff.mpr (by have h9 : x16.toInt = ((6 * k1.toInt) + f1.toInt) := tx16; omega)) dX12_standard_56 (fun x17 ex17 => ?_)
          have rx17 : x17.toInt = -9 ∨ (0 ≤ x17.toInt ∧ x17.toInt ≤ 1) := by rw [ex17]; exact hI.2 4 _
          refine lv_istore (lv' := [(4, .int x17), (0, .ref o), (1, .int k1), (2, .int f1), (3, .int v1)]) hx hb dX12_standard_57 hl (by decide +kernel) rfl (fun ls hl => ?_)
          refine lv_aload_n hx hb dX12_standard_59 rfl (lv_at hl 1 rfl) ?_
          refine mget_4 hx hb hts (fun _ h => List.mem_cons_of_mem _ (List.mem_append_right _ h)) hown hK hP (hts (.fieldLink RX12 16 "TalePlayModel" "defaults" "[I") (List.mem_cons_of_mem _ (List.mem_append_left _ (List.mem_of_getElem? (i := 6) rfl)))) dX12_standard_60 ?_
          refine lv_bipush (v := 6) hx hb dX12_standard_63 (by decide +kernel) ?_
          refine lv_iload_n hx hb dX12_standard_65 rfl (lv_at hl 2 rfl) ?_
          refine lv_imul hx hb dX12_standard_66 ?_
          refine lv_topi (fun x18 ex18 => ?_)
          have tx18 := ti_mul (a := 6) (b := k1.toInt) ex18 (by decide +kernel) rfl (by omega) (by omega)
          refine lv_iload_n hx hb dX12_standard_67 rfl (lv_at hl 3 rfl) ?_
          refine lv_iadd hx hb dX12_standard_68 ?_
          refine lv_topi (fun x19 ex19 => ?_)
          have tx19 := ti_add (a := (6 * k1.toInt)) (b := f1.toInt) ex19 tx18 rfl (by omega) (by omega)
          refine lv_iload_n hx hb dX12_standard_69 rfl (lv_at hl 4 rfl) ?_
          refine mst_4 hx hb hK hP hD hS (vp_in_iff.mpr (by have h9 : x19.toInt = ((6 * k1.toInt) + f1.toInt) := tx19; omega)) dX12_standard_70 (fun H locs hP hD hS => ?_)
          have hI := mInv_c hI (k := 4) (j := (x19 : Int32).toNatClampNeg) (x := v1) (show (v1 : Int32).toInt = -9 ∨ (0 ≤ (v1 : Int32).toInt ∧ (v1 : Int32).toInt ≤ 1) from by omega)
          have hfc : ∀ k, k ∉ ([4] : List Nat) → (updA c 4 (x19 : Int32).toNatClampNeg v1) k = c k := fr_cz hfc (by decide +kernel) (by decide +kernel)
          refine lv_aload_n hx hb dX12_standard_71 rfl (lv_at hl 1 rfl) ?_
          refine al_callv (va_runV (As := []) (rest := []) ⟨hx, hb, hml, hown, hts⟩ (s_X12_endTale l D H.size o a t i q (updA c 4 (x19 : Int32).toNatClampNeg v1) d  hI ) (cwV 0 hts gm_X12_standard_X12_endTale rfl rfl rfl (by decide +kernel) ⟨Nat.le_of_ble_eq_true rfl, Nat.le_of_ble_eq_true rfl⟩) (pB_V hK hP hD (ci := 12) (q0 := 0) rfl rfl) rfl rfl hl.1 rfl (lv_room (Nat.le_of_ble_eq_true rfl)) dX12_standard_72 ⟨Nat.le_of_ble_eq_true rfl, Nat.le_of_ble_eq_true rfl⟩) hS hA hP hD (fun u20 H locs hw20 hP hD hS => ?_)
          obtain ⟨i20, q20, c20, d20⟩ := u20
          have hw20 : True ∧ mInv i20 c20 ∧ (∀ k, k ∉ ([22, 27] : List Nat) → i20 k = i k) ∧ (∀ k, k ∉ ([] : List Nat) → c20 k = (updA c 4 (x19 : Int32).toNatClampNeg v1) k) ∧ ((i20 22).toInt = -9) ∧ ((i20 27).toInt = 0) := hw20
          obtain ⟨hw20, hI, hei20, hec20, hxp20_0, hxp20_1⟩ := hw20
          have hxp20_0 : (i20 22).toInt = -9 := hxp20_0
          have hxp20_1 : (i20 27).toInt = 0 := hxp20_1
          have hfi : ∀ k, k ∉ ([22, 27] : List Nat) → i20 k = i k := fr_z hfi hei20 (by decide +kernel) (by decide +kernel)
          have hfc : ∀ k, k ∉ ([4] : List Nat) → c20 k = c k := fr_z hfc hec20 (by decide +kernel) (by decide +kernel)
          have hP : va_P D vwCl (mW o a t i20 q20 c20 d20) H := hP
          have hD : va_D A (mW o a t i20 q20 c20 d20) := hD
          refine lv_iload hx hb dX12_standard_75 (lv_at hl 0 rfl) ?_
          exact rw_iret (i20, q20, c20, d20) hx hb hr hlocks hS (hK.sub (tys' := []) [] rfl) hP hD dX12_standard_77 ⟨trivial, hI, fr_w hfi (by decide +kernel), fr_w hfc (by decide +kernel), (show SJ (c20 3) (c20 6) (c20 9) (c20 10) (c20 11) (c20 13) ((i20 2) : Int32).toInt ((i20 5) : Int32).toInt ((i20 8) : Int32).toInt from by rw [show c20 3 = (updA c 4 (x19 : Int32).toNatClampNeg v1) 3 from hec20 3 (by decide +kernel), show c20 6 = (updA c 4 (x19 : Int32).toNatClampNeg v1) 6 from hec20 6 (by decide +kernel), show c20 9 = (updA c 4 (x19 : Int32).toNatClampNeg v1) 9 from hec20 9 (by decide +kernel), show c20 10 = (updA c 4 (x19 : Int32).toNatClampNeg v1) 10 from hec20 10 (by decide +kernel), show c20 11 = (updA c 4 (x19 : Int32).toNatClampNeg v1) 11 from hec20 11 (by decide +kernel), show c20 13 = (updA c 4 (x19 : Int32).toNatClampNeg v1) 13 from hec20 13 (by decide +kernel), show i20 2 = i 2 from hei20 2 (by decide +kernel), show i20 5 = i 5 from hei20 5 (by decide +kernel), show i20 8 = i 8 from hei20 8 (by decide +kernel)]; show SJ (c 3) (c 6) (c 9) (c 10) (c 11) (c 13) (i 2).toInt (i 5).toInt (i 8).toInt; exact hs_S), (show TJ (c20 3) (c20 6) (c20 23) (c20 24) (c20 29) (c20 30) ((i20 5) : Int32).toInt ((i20 22) : Int32).toInt ((i20 27) : Int32).toInt from TJ_no hxp20_0), (show StR (c 4) k1 f1 v1 (i 2).toInt (x17 : Int32) from Or.inr ⟨by unfold StB; omega, (ix_n (f := c 4) (s := x16) (show (x16 : Int32).toInt = k1.toInt * 6 + f1.toInt from by omega) ex17).symm⟩), (show StU (c 4) (c20 4) k1 f1 v1 (i 2).toInt from Or.inr ⟨by unfold StB; omega, by rw [show c20 4 = (updA c 4 (x19 : Int32).toNatClampNeg v1) 4 from hec20 4 (by decide +kernel)]; show upd (c 4) (x19 : Int32).toNatClampNeg v1 = _; rw [cl_t (show (x19 : Int32).toInt = k1.toInt * 6 + f1.toInt from by omega)]⟩)⟩
        · have f14 := mt (ti_eq (a := v1.toInt) (b := (-9)) rfl (by decide +kernel)).mpr c14
          refine lv_iconst (v := (-1)) hx hb dX12_standard_44 (by decide +kernel) ?_
          exact rw_iret (i, q, c, d) hx hb hr hlocks hS (hK.sub (tys' := []) [] rfl) hP hD dX12_standard_45 ⟨trivial, hI, fr_w hfi (by decide +kernel), fr_w hfc (by decide +kernel), (show SJ (c 3) (c 6) (c 9) (c 10) (c 11) (c 13) ((i 2) : Int32).toInt ((i 5) : Int32).toInt ((i 8) : Int32).toInt from hs_S), (show TJ (c 3) (c 6) (c 23) (c 24) (c 29) (c 30) ((i 5) : Int32).toInt ((i 22) : Int32).toInt ((i 27) : Int32).toInt from hs_J), (show StR (c 4) k1 f1 v1 (i 2).toInt ((-1) : Int32) from Or.inl ⟨by unfold StB; omega, by decide⟩), (show StU (c 4) (c 4) k1 f1 v1 (i 2).toInt from Or.inl ⟨by unfold StB; omega, rfl⟩)⟩

def wm_X10_kindIs_e : List Cond := .code yX10_kindIs cX10_kindIs 5 (some .boolean) :: (([.fieldLink RX10 9 "TalePlay$World" "parents" "[I"] : List Cond) ++ wsX100)
set_option maxHeartbeats 4000000 in
set_option maxRecDepth 100000 in
theorem x_X10_kindIs_e (l : Launch) (D : va_G) (sz : Nat) (sk : Value) (a : Nat → Nat) (t : Nat → ClassId) (i : Nat → Int32) (q : Int64) (c : Nat → Nat → Int32) (d : Nat → Nat → Int64) (k1 : Int32) (k2 : Int32) (hI : xInv i c) (hk1 : 0 ≤ k1.toInt ∧ k1.toInt ≤ 23) (hk2 : 0 ≤ k2.toInt) (hs_D : PD (c 105)) : Met l yX10_kindIs wm_X10_kindIs_e ({ frames := 0, cells := 0, slots := 0, locals := 0 }) (va_Pc [.ref (a 104), .int k1, .int k2] (yA (a 186) D sz (xwW sk a t i q c d) (xtW t))) (va_Qi (fun (r : Int32) (_ : Unit) => ((0 ≤ r.toInt ∧ r.toInt ≤ 1) ∧ (Sm r (Ch (kF (c 105)) k1.toInt k2.toInt)))) oA (ro sz)) 0 0 (ro sz) := by
  refine Met.ofW (cc := cX10_kindIs) (maxL := 5) (ret := (some .boolean)) (by decide +kernel) rfl ?_
  intro p e s m args below meth cd s₁ B hml hv
  obtain ⟨rfl, ⟨hsz, hP, hK⟩, hN, hZ⟩ := hv
  have hx := B.exec
  have hb := B.bytes
  have hr := B.returns
  have hts := atoms_spec (ws := wm_X10_kindIs_e) B.pre
  have hown : s.vm.findClass RX10 = some m.cls := findClass_of_methodNamed B.named
  have hlocks := B.notSynchronized
  subst hsz
  have hA : ∀ q : Nat, s.heap.size ≤ q → ro s.heap.size q := fun _ h => h
  have hS : va_S (ro s.heap.size) s.heap s.heap [] := va_S.rf
  have hl := lv_entry ([.ref (a 104), .int k1, .int k2]) (n := 5) (Nat.le_of_ble_eq_true rfl)
  rw [lg_entry_eq]
  generalize (lg_sl ([.ref (a 104), .int k1, .int k2]) ++ List.replicate (5 - (lg_sl ([.ref (a 104), .int k1, .int k2])).length) Slot.unset).toArray = ls at hl ⊢
  have hl : lv_has ls 5 [(0, .ref (a 104)), (1, .int k1), (2, .int k2)] := hl
  refine lv_iload_n hx hb dX10_kindIs_0 rfl (lv_at hl 1 rfl) ?_
  refine lv_istore_n (lv' := [(3, .int k1), (0, .ref (a 104)), (1, .int k1), (2, .int k2)]) hx hb dX10_kindIs_1 rfl hl (by decide +kernel) rfl (fun ls hl => ?_)
  refine lv_iconst (v := 0) hx hb dX10_kindIs_2 (by decide +kernel) ?_
  refine lv_istore (lv' := [(4, .int 0), (3, .int k1), (0, .ref (a 104)), (1, .int k1), (2, .int k2)]) hx hb dX10_kindIs_3 hl (by decide +kernel) rfl (fun ls hl => ?_)
  have lp1 : ∀ (fu : Nat) (y1_4 : Int32) (y1_3 : Int32), (0 ≤ y1_4.toInt ∧ y1_4.toInt ≤ 24) → (y1_3.toInt = -9 ∨ (0 ≤ y1_3.toInt ∧ y1_3.toInt ≤ 23)) → (Ch (kF (c 105)) k1.toInt k2.toInt ↔ Ch (kF (c 105)) y1_3.toInt k2.toInt) → (y1_3.toInt = -9 ∨ y1_3.toInt + y1_4.toInt ≤ 23) → (24 - y1_4.toInt).toNat < fu → ∀ (H : Heap) (locs : List Loc) (ls : Array Slot), va_P D vwCl (xwW sk a t i q c d) H → va_S (ro s.heap.size) s.heap H locs → lv_has ls 5 [(4, .int y1_4), (3, .int y1_3), (0, .ref (a 104)), (1, .int k1), (2, .int k2)] → W p l e (headSpec wm_X10_kindIs_e ({ frames := 0, cells := 0, slots := 0, locals := 0 })).room s m ([.ref (a 104), .int k1, .int k2] : List Value).toArray below meth cd H locs 0 0 (MQ below (va_Qi (fun (r : Int32) (_ : Unit) => ((0 ≤ r.toInt ∧ r.toInt ≤ 1) ∧ (Sm r (Ch (kF (c 105)) k1.toInt k2.toInt)))) oA (ro s.heap.size)) ([.ref (a 104), .int k1, .int k2] : List Value).toArray s 0 0 (ro s.heap.size)) (F0 m 5 ls []) := by
    intro fu
    induction fu with
    | zero => intro y1_4 y1_3 hy1_4 hy1_3 hz1_0 hz1_1 hm; exact absurd hm (Nat.not_lt_zero _)
    | succ fu ih =>
      intro y1_4 y1_3 hy1_4 hy1_3 hz1_0 hz1_1 hm H locs ls hP hS hl
      have ih1 := ih
      refine lv_iload hx hb dX10_kindIs_5 (lv_at hl 0 rfl) ?_
      refine lv_bipush (v := 24) hx hb dX10_kindIs_7 (by decide +kernel) ?_
      refine lv_icmp_ge (tgt := 38) hx hb dX10_kindIs_9 (by decide +kernel) (fun c2 => ?_) (fun c2 => ?_)
      · have f2 := (ti_le (a := 24) (b := y1_4.toInt) (by decide +kernel) rfl).mp c2
        refine lv_iconst (v := 0) hx hb dX10_kindIs_38 (by decide +kernel) ?_
        exact ro_zret hx hb hr hlocks hS rfl dX10_kindIs_39 ⟨(show 0 ≤ (0 : Int32).toInt ∧ (0 : Int32).toInt ≤ 1 from by decide +kernel), (show Sm (0 : Int32) (Ch (kF (c 105)) k1.toInt k2.toInt) from sm_0 (fun h9 => by have h8 := hz1_0.mp h9; rw [show y1_3.toInt = -9 by omega] at h8; have h7 := Ch_nd kF_9 h8; omega))⟩
      · have f2 := mt (ti_le (a := 24) (b := y1_4.toInt) (by decide +kernel) rfl).mpr c2
        refine lv_iload_n hx hb dX10_kindIs_12 rfl (lv_at hl 1 rfl) ?_
        refine lv_bipush (v := (-9)) hx hb dX10_kindIs_13 (by decide +kernel) ?_
        refine lv_icmp_eq (tgt := 38) hx hb dX10_kindIs_15 (by decide +kernel) (fun c3 => ?_) (fun c3 => ?_)
        · have f3 := (ti_eq (a := y1_3.toInt) (b := (-9)) rfl (by decide +kernel)).mp c3
          refine lv_iconst (v := 0) hx hb dX10_kindIs_38 (by decide +kernel) ?_
          exact ro_zret hx hb hr hlocks hS rfl dX10_kindIs_39 ⟨(show 0 ≤ (0 : Int32).toInt ∧ (0 : Int32).toInt ≤ 1 from by decide +kernel), (show Sm (0 : Int32) (Ch (kF (c 105)) k1.toInt k2.toInt) from sm_0 (fun h9 => by have h8 := hz1_0.mp h9; rw [show y1_3.toInt = -9 by omega] at h8; have h7 := Ch_nd kF_9 h8; omega))⟩
        · have f3 := mt (ti_eq (a := y1_3.toInt) (b := (-9)) rfl (by decide +kernel)).mpr c3
          refine lv_iload_n hx hb dX10_kindIs_18 rfl (lv_at hl 1 rfl) ?_
          refine lv_iload_n hx hb dX10_kindIs_19 rfl (lv_at hl 4 rfl) ?_
          refine lv_icmp_ne (tgt := 25) hx hb dX10_kindIs_20 (by decide +kernel) (fun c4 => ?_) (fun c4 => ?_)
          · have f4 := mt (ti_eq (a := y1_3.toInt) (b := k2.toInt) rfl rfl).mpr c4
            refine lv_aload_n hx hb dX10_kindIs_25 rfl (lv_at hl 2 rfl) ?_
            refine xgW_W_parents hx hb hts (fun _ h => List.mem_cons_of_mem _ (List.mem_append_right _ h)) hown hK hP (hts (.fieldLink RX10 9 "TalePlay$World" "parents" "[I") (List.mem_cons_of_mem _ (List.mem_append_left _ (List.mem_of_getElem? (i := 0) rfl)))) dX10_kindIs_26 ?_
            refine lv_iload_n hx hb dX10_kindIs_29 rfl (lv_at hl 1 rfl) ?_
            refine xlW_105 hx hb hK hP (vp_in_iff.mpr (by have h9 : y1_3.toInt = y1_3.toInt := rfl; omega)) dX10_kindIs_30 (fun x5 ex5 => ?_)
            have rx5 : x5.toInt = -9 ∨ (0 ≤ x5.toInt ∧ x5.toInt ≤ 23) := by rw [ex5]; exact hI.2 105 _
            refine lv_istore_n (lv' := [(3, .int x5), (4, .int y1_4), (0, .ref (a 104)), (1, .int k1), (2, .int k2)]) hx hb dX10_kindIs_31 rfl hl (by decide +kernel) rfl (fun ls hl => ?_)
            obtain ⟨x6, ex6⟩ : ∃ y : Int32, y = y1_4 + 1 := ⟨_, rfl⟩
            have tx6 := ti_add (a := y1_4.toInt) (b := 1) ex6 rfl (by decide +kernel) (by omega) (by omega)
            refine lv_iinc (v := x6) (lv' := [(4, .int x6), (3, .int x5), (0, .ref (a 104)), (1, .int k1), (2, .int k2)]) hx hb dX10_kindIs_32 hl (k := 1) rfl (by rw [ex6]; rfl) (by decide +kernel) rfl (fun ls hl => ?_)
            refine lv_goto (tgt := 5) hx hb dX10_kindIs_35 (by decide +kernel) ?_
            exact ih1 x6 x5 (show 0 ≤ x6.toInt ∧ x6.toInt ≤ 24 from by have h50 : x6.toInt = (y1_4.toInt + 1) := tx6; omega) (show x5.toInt = -9 ∨ (0 ≤ x5.toInt ∧ x5.toInt ≤ 23) from by have h50 : x6.toInt = (y1_4.toInt + 1) := tx6; omega) (show Ch (kF (c 105)) k1.toInt k2.toInt ↔ Ch (kF (c 105)) x5.toInt k2.toInt from hz1_0.trans (by rw [Ch_nx (f := kF (c 105)) (x := y1_3.toInt) (by omega), kF_at (by omega) ex5])) (show x5.toInt = -9 ∨ x5.toInt + x6.toInt ≤ 23 from by have h9 := hs_D y1_3.toNatClampNeg; rw [← ex5, cl_nn (by omega)] at h9; have h8 := tx6; omega) (by have h50 : x6.toInt = (y1_4.toInt + 1) := tx6; omega) _ _ _ hP hS (lv_sub hl [0, 1, 2, 3, 4] rfl)
          · have f4 := (ti_eq (a := y1_3.toInt) (b := k2.toInt) rfl rfl).mp c4
            refine lv_iconst (v := 1) hx hb dX10_kindIs_23 (by decide +kernel) ?_
            exact ro_zret hx hb hr hlocks hS rfl dX10_kindIs_24 ⟨(show 0 ≤ (1 : Int32).toInt ∧ (1 : Int32).toInt ≤ 1 from by decide +kernel), (show Sm (1 : Int32) (Ch (kF (c 105)) k1.toInt k2.toInt) from sm_1 (hz1_0.mpr (by rw [show y1_3.toInt = k2.toInt by omega]; exact Ch_rf)))⟩
  exact lp1 _ (0 : Int32) k1 (show 0 ≤ (0 : Int32).toInt ∧ (0 : Int32).toInt ≤ 24 from by decide +kernel) (show k1.toInt = -9 ∨ (0 ≤ k1.toInt ∧ k1.toInt ≤ 23) from by have h50 : (0 : Int32).toInt = 0 := (by decide +kernel); omega) (show Ch (kF (c 105)) k1.toInt k2.toInt ↔ Ch (kF (c 105)) k1.toInt k2.toInt from Iff.rfl) (show k1.toInt = -9 ∨ k1.toInt + (0 : Int32).toInt ≤ 23 from by have h50 : (0 : Int32).toInt = 0 := (by decide +kernel); omega) (Nat.lt_succ_self _) _ _ _ hP hS (lv_sub hl [0, 1, 2, 3, 4] rfl)

set_option maxHeartbeats 4000000 in
set_option maxRecDepth 100000 in
theorem c_X11_oneIf_e (l : Launch) (D : va_G) (sz : Nat) (z : Int32) : Met l yX11_oneIf wm_X11_oneIf ({ frames := 0, cells := 0, slots := 0, locals := 0 }) (va_Pc [.int z] (pA D sz [] [])) (va_Qi (fun (r : Int32) (_ : Unit) => r = if (¬ z.toInt = 0) then 1 else 0) oA (ro sz)) 0 0 (ro sz) := by
  refine Met.ofW (cc := cX11_oneIf) (maxL := 1) (ret := (some .int)) (by decide +kernel) rfl ?_
  intro p e s m args below meth c s₁ B hml hv
  obtain ⟨rfl, hsz, hP, hK⟩ := hv
  have hx := B.exec
  have hb := B.bytes
  have hr := B.returns
  have hts := atoms_spec (ws := wm_X11_oneIf) B.pre
  have hown : s.vm.findClass RX11 = some m.cls := findClass_of_methodNamed B.named
  have hlocks := B.notSynchronized
  subst hsz
  have hA : ∀ q : Nat, s.heap.size ≤ q → ro s.heap.size q := fun _ h => h
  have hS : va_S (ro s.heap.size) s.heap s.heap [] := va_S.rf
  have hP : va_P D vwCl [] s.heap := hP
  have hl := lv_entry ([.int z]) (n := 1) (Nat.le_of_ble_eq_true rfl)
  rw [lg_entry_eq]
  generalize (lg_sl ([.int z]) ++ List.replicate (1 - (lg_sl ([.int z])).length) Slot.unset).toArray = ls at hl ⊢
  have hl : lv_has ls 1 [(0, .int z)] := hl
  refine lv_iload_n hx hb dX11_oneIf_0 rfl (lv_at hl 0 rfl) ?_
  refine lv_if_eq (tgt := 8) hx hb dX11_oneIf_1 (by decide +kernel) (fun c1 => ?_) (fun c1 => ?_)
  · have f1 := (ti_eq (a := z.toInt) (b := 0) rfl (by decide +kernel)).mp c1
    refine lv_iconst (v := 0) hx hb dX11_oneIf_8 (by decide +kernel) ?_
    exact ro_iret hx hb hr hlocks hS dX11_oneIf_9 (by show _ = _; rw [if_neg (by omega)])
  · have f1 := mt (ti_eq (a := z.toInt) (b := 0) rfl (by decide +kernel)).mpr c1
    refine lv_iconst (v := 1) hx hb dX11_oneIf_4 (by decide +kernel) ?_
    refine lv_goto (tgt := 9) hx hb dX11_oneIf_5 (by decide +kernel) ?_
    exact ro_iret hx hb hr hlocks hS dX11_oneIf_9 (by show _ = _; rw [if_pos (by omega)])

def wm_X11_is_e : List Cond := .code yX11_is cX11_is 3 (some .int) :: ((([.fieldLink RX11 10 "TalePlay" "world" "LTalePlay$World;", .methodLink RX11 109 yX10_hasObject, .instanceMethod yX10_hasObject, .selects RX10 yX10_hasObject yX10_hasObject, .initialized RX10, .code yX10_hasObject cX10_hasObject 2 (some .boolean), .fieldLink RX10 37 "TalePlay$World" "objects" "I", .methodLink RX11 80 yX10_hasKind, .instanceMethod yX10_hasKind, .selects RX10 yX10_hasKind yX10_hasKind, .code yX10_hasKind cX10_hasKind 2 (some .boolean), .fieldLink RX10 33 "TalePlay$World" "kinds" "I", .fieldLink RX11 112 "TalePlay$World" "kindOf" "[I", .methodLink RX11 115 yX10_kindIs, .instanceMethod yX10_kindIs, .selects RX10 yX10_kindIs yX10_kindIs] : List Cond) ++ ([.code yX10_kindIs cX10_kindIs 5 (some .boolean), .fieldLink RX10 9 "TalePlay$World" "parents" "[I", .methodLink RX11 118 yX11_oneIf, .static yX11_oneIf, .initialized RX11, .code yX11_oneIf cX11_oneIf 1 (some .int)] : List Cond)) ++ wsX110 ++ wsX100)
set_option maxRecDepth 20000 in
theorem gm_X11_is_e_X10_hasObject_109 : GoodIn wm_X11_is_e (wsV RX11 109 RX10 yX10_hasObject wm_X10_hasObject) := goodIn_w (List.forall_mem_append.mpr ⟨List.forall_mem_cons.mpr ⟨List.mem_cons_of_mem _ (List.mem_append_left _ (List.mem_append_left _ (List.mem_append_left _ (List.mem_of_getElem? (i := 1) rfl)))), List.forall_mem_cons.mpr ⟨List.mem_cons_of_mem _ (List.mem_append_left _ (List.mem_append_left _ (List.mem_append_left _ (List.mem_of_getElem? (i := 2) rfl)))), List.forall_mem_cons.mpr ⟨List.mem_cons_of_mem _ (List.mem_append_left _ (List.mem_append_left _ (List.mem_append_left _ (List.mem_of_getElem? (i := 3) rfl)))), List.forall_mem_cons.mpr ⟨List.mem_cons_of_mem _ (List.mem_append_left _ (List.mem_append_left _ (List.mem_append_left _ (List.mem_of_getElem? (i := 4) rfl)))), (fun _ h => absurd h List.not_mem_nil)⟩⟩⟩⟩, List.forall_mem_cons.mpr ⟨List.mem_cons_of_mem _ (List.mem_append_left _ (List.mem_append_left _ (List.mem_append_left _ (List.mem_of_getElem? (i := 5) rfl)))), List.forall_mem_append.mpr ⟨List.forall_mem_cons.mpr ⟨List.mem_cons_of_mem _ (List.mem_append_left _ (List.mem_append_left _ (List.mem_append_left _ (List.mem_of_getElem? (i := 6) rfl)))), (fun _ h => absurd h List.not_mem_nil)⟩, (fun _ h => List.mem_cons_of_mem _ (List.mem_append_right _ h))⟩⟩⟩) (by decide +kernel)
set_option maxRecDepth 20000 in
theorem gm_X11_is_e_X10_hasKind_80 : GoodIn wm_X11_is_e (wsV RX11 80 RX10 yX10_hasKind wm_X10_hasKind) := goodIn_w (List.forall_mem_append.mpr ⟨List.forall_mem_cons.mpr ⟨List.mem_cons_of_mem _ (List.mem_append_left _ (List.mem_append_left _ (List.mem_append_left _ (List.mem_of_getElem? (i := 7) rfl)))), List.forall_mem_cons.mpr ⟨List.mem_cons_of_mem _ (List.mem_append_left _ (List.mem_append_left _ (List.mem_append_left _ (List.mem_of_getElem? (i := 8) rfl)))), List.forall_mem_cons.mpr ⟨List.mem_cons_of_mem _ (List.mem_append_left _ (List.mem_append_left _ (List.mem_append_left _ (List.mem_of_getElem? (i := 9) rfl)))), List.forall_mem_cons.mpr ⟨List.mem_cons_of_mem _ (List.mem_append_left _ (List.mem_append_left _ (List.mem_append_left _ (List.mem_of_getElem? (i := 4) rfl)))), (fun _ h => absurd h List.not_mem_nil)⟩⟩⟩⟩, List.forall_mem_cons.mpr ⟨List.mem_cons_of_mem _ (List.mem_append_left _ (List.mem_append_left _ (List.mem_append_left _ (List.mem_of_getElem? (i := 10) rfl)))), List.forall_mem_append.mpr ⟨List.forall_mem_cons.mpr ⟨List.mem_cons_of_mem _ (List.mem_append_left _ (List.mem_append_left _ (List.mem_append_left _ (List.mem_of_getElem? (i := 11) rfl)))), (fun _ h => absurd h List.not_mem_nil)⟩, (fun _ h => List.mem_cons_of_mem _ (List.mem_append_right _ h))⟩⟩⟩) (by decide +kernel)
set_option maxRecDepth 20000 in
theorem gm_X11_is_e_X10_kindIs_e_115 : GoodIn wm_X11_is_e (wsV RX11 115 RX10 yX10_kindIs wm_X10_kindIs_e) := goodIn_w (List.forall_mem_append.mpr ⟨List.forall_mem_cons.mpr ⟨List.mem_cons_of_mem _ (List.mem_append_left _ (List.mem_append_left _ (List.mem_append_left _ (List.mem_of_getElem? (i := 13) rfl)))), List.forall_mem_cons.mpr ⟨List.mem_cons_of_mem _ (List.mem_append_left _ (List.mem_append_left _ (List.mem_append_left _ (List.mem_of_getElem? (i := 14) rfl)))), List.forall_mem_cons.mpr ⟨List.mem_cons_of_mem _ (List.mem_append_left _ (List.mem_append_left _ (List.mem_append_left _ (List.mem_of_getElem? (i := 15) rfl)))), List.forall_mem_cons.mpr ⟨List.mem_cons_of_mem _ (List.mem_append_left _ (List.mem_append_left _ (List.mem_append_left _ (List.mem_of_getElem? (i := 4) rfl)))), (fun _ h => absurd h List.not_mem_nil)⟩⟩⟩⟩, List.forall_mem_cons.mpr ⟨List.mem_cons_of_mem _ (List.mem_append_left _ (List.mem_append_left _ (List.mem_append_right _ (List.mem_of_getElem? (i := 0) rfl)))), List.forall_mem_append.mpr ⟨List.forall_mem_cons.mpr ⟨List.mem_cons_of_mem _ (List.mem_append_left _ (List.mem_append_left _ (List.mem_append_right _ (List.mem_of_getElem? (i := 1) rfl)))), (fun _ h => absurd h List.not_mem_nil)⟩, (fun _ h => List.mem_cons_of_mem _ (List.mem_append_right _ h))⟩⟩⟩) (by decide +kernel)
set_option maxRecDepth 20000 in
theorem gm_X11_is_e_X11_oneIf_118 : GoodIn wm_X11_is_e (va_wsS RX11 118 yX11_oneIf wm_X11_oneIf) := goodIn_w (List.forall_mem_append.mpr ⟨List.forall_mem_cons.mpr ⟨List.mem_cons_of_mem _ (List.mem_append_left _ (List.mem_append_left _ (List.mem_append_right _ (List.mem_of_getElem? (i := 2) rfl)))), List.forall_mem_cons.mpr ⟨List.mem_cons_of_mem _ (List.mem_append_left _ (List.mem_append_left _ (List.mem_append_right _ (List.mem_of_getElem? (i := 3) rfl)))), List.forall_mem_cons.mpr ⟨List.mem_cons_of_mem _ (List.mem_append_left _ (List.mem_append_left _ (List.mem_append_right _ (List.mem_of_getElem? (i := 4) rfl)))), (fun _ h => absurd h List.not_mem_nil)⟩⟩⟩, List.forall_mem_cons.mpr ⟨List.mem_cons_of_mem _ (List.mem_append_left _ (List.mem_append_left _ (List.mem_append_right _ (List.mem_of_getElem? (i := 5) rfl)))), (fun _ h => absurd h List.not_mem_nil)⟩⟩) (by decide +kernel)
set_option maxHeartbeats 4000000 in
set_option maxRecDepth 100000 in
theorem x_X11_is_e (l : Launch) (D : va_G) (sz : Nat) (sk : Value) (a : Nat → Nat) (t : Nat → ClassId) (i : Nat → Int32) (q : Int64) (c : Nat → Nat → Int32) (d : Nat → Nat → Int64) (w : Int32) (k1 : Int32) (hI : xInv i c) (hs_D : PD (c 105)) : Met l yX11_is wm_X11_is_e ({ frames := 1, cells := 0, slots := 0, locals := 24 }) (va_Pc [.ref (a 100), .int w, .int k1] (yA (a 186) D sz (xwT sk a t i q c d) (xtT t))) (va_Qi (fun (r : Int32) (_ : Unit) => (True ∧ (IsR (c 105) (c 108) w k1 (i 111).toInt (i 110).toInt r))) oA (ro sz)) 0 0 (ro sz) := by
  refine Met.ofW (cc := cX11_is) (maxL := 3) (ret := (some .int)) (by decide +kernel) rfl ?_
  intro p e s m args below meth cd s₁ B hml hv
  obtain ⟨rfl, ⟨hsz, hP, hK⟩, hN, hZ⟩ := hv
  have hx := B.exec
  have hb := B.bytes
  have hr := B.returns
  have hts := atoms_spec (ws := wm_X11_is_e) B.pre
  have hown : s.vm.findClass RX11 = some m.cls := findClass_of_methodNamed B.named
  have hlocks := B.notSynchronized
  subst hsz
  have hA : ∀ q : Nat, s.heap.size ≤ q → ro s.heap.size q := fun _ h => h
  have hS : va_S (ro s.heap.size) s.heap s.heap [] := va_S.rf
  have hl := lv_entry ([.ref (a 100), .int w, .int k1]) (n := 3) (Nat.le_of_ble_eq_true rfl)
  rw [lg_entry_eq]
  generalize (lg_sl ([.ref (a 100), .int w, .int k1]) ++ List.replicate (3 - (lg_sl ([.ref (a 100), .int w, .int k1])).length) Slot.unset).toArray = ls at hl ⊢
  have hl : lv_has ls 3 [(0, .ref (a 100)), (1, .int w), (2, .int k1)] := hl
  have rb110_i : 6 ≤ (i 110).toInt ∧ (i 110).toInt ≤ 24 := hI.1 110
  have rb111_i : 0 ≤ (i 111).toInt ∧ (i 111).toInt ≤ 30 := hI.1 111
  refine lv_aload_n hx hb dX11_is_0 rfl (lv_at hl 0 rfl) ?_
  refine xgT_X_world hx hb hts (fun _ h => List.mem_cons_of_mem _ (List.mem_append_left _ (List.mem_append_right _ h))) hown hK hP (hts (.fieldLink RX11 10 "TalePlay" "world" "LTalePlay$World;") (List.mem_cons_of_mem _ (List.mem_append_left _ (List.mem_append_left _ (List.mem_append_left _ (List.mem_of_getElem? (i := 0) rfl)))))) dX11_is_1 ?_
  refine lv_iload_n hx hb dX11_is_4 rfl (lv_at hl 1 rfl) ?_
  refine ro_calli (va_runV (As := [.int w]) (rest := []) ⟨hx, hb, hml, hown, hts⟩ (x_X10_hasObject l D s.heap.size .null a t i q c d w hI ) (cwV 1 hts gm_X11_is_e_X10_hasObject_109 rfl rfl rfl (by decide +kernel) ⟨Nat.le_of_ble_eq_true rfl, Nat.le_of_ble_eq_true rfl⟩) (yA_V hN (xZ_k hZ hS hA) (xkT_W hK) (xuT_W (sk := sk) hP) (ci := 10) (q0 := 0) rfl rfl) rfl rfl hl.1 rfl (lv_room (Nat.le_of_ble_eq_true rfl)) dX11_is_5 ⟨Nat.le_of_ble_eq_true rfl, Nat.le_of_ble_eq_true rfl⟩) hS hA hP (fun r1 u1 H locs hw1 hP hS => ?_)
  have hw1 : r1 = if (0 ≤ w.toInt ∧ w.toInt < (i 111).toInt) then 1 else 0 := hw1
  refine lv_if_eq (tgt := 22) hx hb dX11_is_8 (by decide +kernel) (fun c2 => ?_) (fun c2 => ?_)
  · have f2 := fl_f hw1 c2
    refine lv_iconst (v := (-1)) hx hb dX11_is_22 (by decide +kernel) ?_
    exact ro_iret hx hb hr hlocks hS dX11_is_23 ⟨trivial, (show IsR (c 105) (c 108) w k1 (i 111).toInt (i 110).toInt ((-1) : Int32) from Or.inl ⟨by omega, by decide⟩)⟩
  · have f2 := fl_t hw1 c2
    refine lv_aload_n hx hb dX11_is_11 rfl (lv_at hl 0 rfl) ?_
    refine xgT_X_world hx hb hts (fun _ h => List.mem_cons_of_mem _ (List.mem_append_left _ (List.mem_append_right _ h))) hown hK hP (hts (.fieldLink RX11 10 "TalePlay" "world" "LTalePlay$World;") (List.mem_cons_of_mem _ (List.mem_append_left _ (List.mem_append_left _ (List.mem_append_left _ (List.mem_of_getElem? (i := 0) rfl)))))) dX11_is_12 ?_
    refine lv_iload_n hx hb dX11_is_15 rfl (lv_at hl 2 rfl) ?_
    refine ro_calli (va_runV (As := [.int k1]) (rest := []) ⟨hx, hb, hml, hown, hts⟩ (x_X10_hasKind l D H.size .null a t i q c d k1 hI ) (cwV 1 hts gm_X11_is_e_X10_hasKind_80 rfl rfl rfl (by decide +kernel) ⟨Nat.le_of_ble_eq_true rfl, Nat.le_of_ble_eq_true rfl⟩) (yA_V hN (xZ_k hZ hS hA) (xkT_W hK) (xuT_W (sk := sk) hP) (ci := 10) (q0 := 0) rfl rfl) rfl rfl hl.1 rfl (lv_room (Nat.le_of_ble_eq_true rfl)) dX11_is_16 ⟨Nat.le_of_ble_eq_true rfl, Nat.le_of_ble_eq_true rfl⟩) hS hA hP (fun r3 u3 H locs hw3 hP hS => ?_)
    have hw3 : r3 = if (0 ≤ k1.toInt ∧ k1.toInt < (i 110).toInt) then 1 else 0 := hw3
    refine lv_if_ne (tgt := 24) hx hb dX11_is_19 (by decide +kernel) (fun c4 => ?_) (fun c4 => ?_)
    · have f4 := fl_t hw3 c4
      refine lv_aload_n hx hb dX11_is_24 rfl (lv_at hl 0 rfl) ?_
      refine xgT_X_world hx hb hts (fun _ h => List.mem_cons_of_mem _ (List.mem_append_left _ (List.mem_append_right _ h))) hown hK hP (hts (.fieldLink RX11 10 "TalePlay" "world" "LTalePlay$World;") (List.mem_cons_of_mem _ (List.mem_append_left _ (List.mem_append_left _ (List.mem_append_left _ (List.mem_of_getElem? (i := 0) rfl)))))) dX11_is_25 ?_
      refine lv_aload_n hx hb dX11_is_28 rfl (lv_at hl 0 rfl) ?_
      refine xgT_X_world hx hb hts (fun _ h => List.mem_cons_of_mem _ (List.mem_append_left _ (List.mem_append_right _ h))) hown hK hP (hts (.fieldLink RX11 10 "TalePlay" "world" "LTalePlay$World;") (List.mem_cons_of_mem _ (List.mem_append_left _ (List.mem_append_left _ (List.mem_append_left _ (List.mem_of_getElem? (i := 0) rfl)))))) dX11_is_29 ?_
      refine xgT_W_kindOf hx hb hts (fun _ h => List.mem_cons_of_mem _ (List.mem_append_right _ h)) hown hK hP (hts (.fieldLink RX11 112 "TalePlay$World" "kindOf" "[I") (List.mem_cons_of_mem _ (List.mem_append_left _ (List.mem_append_left _ (List.mem_append_left _ (List.mem_of_getElem? (i := 12) rfl)))))) dX11_is_32 ?_
      refine lv_iload_n hx hb dX11_is_35 rfl (lv_at hl 1 rfl) ?_
      refine xlT_108 hx hb hK hP (vp_in_iff.mpr (by have h9 : w.toInt = w.toInt := rfl; omega)) dX11_is_36 (fun x5 ex5 => ?_)
      have rx5 : 0 ≤ x5.toInt ∧ x5.toInt ≤ 23 := by rw [ex5]; exact hI.2 108 _
      refine lv_iload_n hx hb dX11_is_37 rfl (lv_at hl 2 rfl) ?_
      refine ro_calli (va_runV (As := [.int x5, .int k1]) (rest := []) ⟨hx, hb, hml, hown, hts⟩ (x_X10_kindIs_e l D H.size .null a t i q c d x5 k1 hI (show 0 ≤ x5.toInt ∧ x5.toInt ≤ 23 from by omega) (show 0 ≤ k1.toInt from by omega) hs_D) (cwV 2 hts gm_X11_is_e_X10_kindIs_e_115 rfl rfl rfl (by decide +kernel) ⟨Nat.le_of_ble_eq_true rfl, Nat.le_of_ble_eq_true rfl⟩) (yA_V hN (xZ_k hZ hS hA) (xkT_W hK) (xuT_W (sk := sk) hP) (ci := 10) (q0 := 0) rfl rfl) rfl rfl hl.1 rfl (lv_room (Nat.le_of_ble_eq_true rfl)) dX11_is_38 ⟨Nat.le_of_ble_eq_true rfl, Nat.le_of_ble_eq_true rfl⟩) hS hA hP (fun r6 u6 H locs hw6 hP hS => ?_)
      have hw6 : ((0 ≤ r6.toInt ∧ r6.toInt ≤ 1) ∧ (Sm r6 (Ch (kF (c 105)) x5.toInt k1.toInt))) := hw6
      obtain ⟨hw6, hr6_0⟩ := hw6
      have hr6_0 : Sm r6 (Ch (kF (c 105)) x5.toInt k1.toInt) := hr6_0
      have hPc := hP.sub (ws' := []) [] rfl
      have hKc := hK.sub (tys' := []) [] rfl
      refine ro_calli (va_runS (As := [.int r6]) (rest := []) ⟨hx, hb, hml, hown, hts⟩ (c_X11_oneIf_e l D H.size r6) (va_cwS 1 hts gm_X11_is_e_X11_oneIf_118 rfl rfl rfl (by decide +kernel) ⟨Nat.le_of_ble_eq_true rfl, Nat.le_of_ble_eq_true rfl⟩) (pA_S hKc hPc) rfl rfl hl.1 rfl (lv_room (Nat.le_of_ble_eq_true rfl)) dX11_is_41 ⟨Nat.le_of_ble_eq_true rfl, Nat.le_of_ble_eq_true rfl⟩) hS hA hP (fun r8 u8 H locs hw8 hP hS => ?_)
      have hw8 : r8 = if (¬ r6.toInt = 0) then 1 else 0 := hw8
      exact ro_iret hx hb hr hlocks hS dX11_is_44 ⟨trivial, (show IsR (c 105) (c 108) w k1 (i 111).toInt (i 110).toInt r8 from Or.inr ⟨by omega, by have h9 := hr6_0; rw [ex5] at h9; exact sm_fl hw8 h9⟩)⟩
    · have f4 := fl_f hw3 c4
      refine lv_iconst (v := (-1)) hx hb dX11_is_22 (by decide +kernel) ?_
      exact ro_iret hx hb hr hlocks hS dX11_is_23 ⟨trivial, (show IsR (c 105) (c 108) w k1 (i 111).toInt (i 110).toInt ((-1) : Int32) from Or.inl ⟨by omega, by decide⟩)⟩

set_option maxHeartbeats 4000000 in
set_option maxRecDepth 100000 in
theorem s_X12_is_e (l : Launch) (D : va_G) (sz : Nat) (o : Nat) (a : Nat → Nat) (t : Nat → ClassId) (i : Nat → Int32) (q : Int64) (c : Nat → Nat → Int32) (d : Nat → Nat → Int64) (w : Int32) (k1 : Int32) (hI : mInv i c) : Met l yX12_is wm_X12_is ({ frames := 2, cells := 0, slots := 0, locals := 46 }) (va_Pc [.ref o, .int w, .int k1] (pA D sz (mW o a t i q c d) (mT t))) (va_Qi (fun (r : Int32) (_ : Unit) => (True ∧ (IsR (c 3) (c 6) w k1 (i 5).toInt (i 2).toInt r))) oA (ro sz)) 0 0 (ro sz) := by
  refine Met.ofW (cc := cX12_is) (maxL := 3) (ret := (some .int)) (by decide +kernel) rfl ?_
  intro p e s m args below meth cd s₁ B hml hv
  obtain ⟨rfl, hsz, hP, hK⟩ := hv
  have hx := B.exec
  have hb := B.bytes
  have hr := B.returns
  have hts := atoms_spec (ws := wm_X12_is) B.pre
  have hown : s.vm.findClass RX12 = some m.cls := findClass_of_methodNamed B.named
  have hlocks := B.notSynchronized
  subst hsz
  have hA : ∀ q : Nat, s.heap.size ≤ q → ro s.heap.size q := fun _ h => h
  have hS : va_S (ro s.heap.size) s.heap s.heap [] := va_S.rf
  have hl := lv_entry ([.ref o, .int w, .int k1]) (n := 3) (Nat.le_of_ble_eq_true rfl)
  rw [lg_entry_eq]
  generalize (lg_sl ([.ref o, .int w, .int k1]) ++ List.replicate (3 - (lg_sl ([.ref o, .int w, .int k1])).length) Slot.unset).toArray = ls at hl ⊢
  have hl : lv_has ls 3 [(0, .ref o), (1, .int w), (2, .int k1)] := hl
  have rb2_i : 6 ≤ (i 2).toInt ∧ (i 2).toInt ≤ 24 := hI.1 2
  have rb5_i : 0 ≤ (i 5).toInt ∧ (i 5).toInt ≤ 30 := hI.1 5
  refine lv_aload_n hx hb dX12_is_0 rfl (lv_at hl 0 rfl) ?_
  refine lv_iload_n hx hb dX12_is_1 rfl (lv_at hl 1 rfl) ?_
  refine ro_calli (va_runV (As := [.int w]) (rest := []) ⟨hx, hb, hml, hown, hts⟩ (s_X12_isObject l D s.heap.size o a t i q c d w hI ) (cwV 1 hts gm_X12_is_X12_isObject rfl rfl rfl (by decide +kernel) ⟨Nat.le_of_ble_eq_true rfl, Nat.le_of_ble_eq_true rfl⟩) (pA_V hK hP (ci := 12) (q0 := 0) rfl rfl) rfl rfl hl.1 rfl (lv_room (Nat.le_of_ble_eq_true rfl)) dX12_is_2 ⟨Nat.le_of_ble_eq_true rfl, Nat.le_of_ble_eq_true rfl⟩) hS hA hP (fun r1 u1 H locs hw1 hP hS => ?_)
  have hw1 : r1 = if (0 ≤ w.toInt ∧ w.toInt ≤ (i 5).toInt - 1) then 1 else 0 := hw1
  refine lv_if_eq (tgt := 24) hx hb dX12_is_5 (by decide +kernel) (fun c2 => ?_) (fun c2 => ?_)
  · have f2 := fl_f hw1 c2
    refine lv_iconst (v := (-1)) hx hb dX12_is_24 (by decide +kernel) ?_
    refine lv_goto (tgt := 42) hx hb dX12_is_25 (by decide +kernel) ?_
    exact ro_iret hx hb hr hlocks hS dX12_is_42 ⟨trivial, (show IsR (c 3) (c 6) w k1 (i 5).toInt (i 2).toInt ((-1) : Int32) from Or.inl ⟨by omega, by decide⟩)⟩
  · have f2 := fl_t hw1 c2
    refine lv_iload_n hx hb dX12_is_8 rfl (lv_at hl 2 rfl) ?_
    refine lv_i2l (v := k1.toInt64) hx hb dX12_is_9 rfl ?_
    refine lv_lconst (v := 0) hx hb dX12_is_10 (by decide +kernel) ?_
    refine lv_aload_n hx hb dX12_is_11 rfl (lv_at hl 0 rfl) ?_
    refine mget_2 (v := (i 2)) rfl hx hb hts (fun _ h => List.mem_cons_of_mem _ (List.mem_append_right _ h)) hown hK hP (hts (.fieldLink RX12 151 "TalePlayModel" "kinds" "I") (List.mem_cons_of_mem _ (List.mem_append_left _ (List.mem_of_getElem? (i := 9) rfl)))) dX12_is_12 ?_
    refine lv_iconst (v := 1) hx hb dX12_is_15 (by decide +kernel) ?_
    refine lv_isub hx hb dX12_is_16 ?_
    refine lv_topi (fun x3 ex3 => ?_)
    have tx3 := ti_sub (a := (i 2).toInt) (b := 1) ex3 rfl (by decide +kernel) (by omega) (by omega)
    refine lv_i2l (v := x3.toInt64) hx hb dX12_is_17 rfl ?_
    have hPc := hP.sub (ws' := []) [] rfl
    have hKc := hK.sub (tys' := []) [] rfl
    refine ro_calli (va_runS (As := [.long k1.toInt64, .long 0, .long x3.toInt64]) (rest := []) ⟨hx, hb, hml, hown, hts⟩ (c_X12_in l D H.size k1.toInt64 0 x3.toInt64 k1.toInt 0 ((i 2).toInt - 1) ((Int32.toInt_toInt64 k1).trans rfl) (by decide +kernel) ((Int32.toInt_toInt64 x3).trans tx3)) (va_cwS 3 hts gm_X12_is_X12_in rfl rfl rfl (by decide +kernel) ⟨Nat.le_of_ble_eq_true rfl, Nat.le_of_ble_eq_true rfl⟩) (pA_S hKc hPc) rfl rfl hl.1 rfl (lv_room (Nat.le_of_ble_eq_true rfl)) dX12_is_18 ⟨Nat.le_of_ble_eq_true rfl, Nat.le_of_ble_eq_true rfl⟩) hS hA hP (fun r4 u4 H locs hw4 hP hS => ?_)
    have hw4 : r4 = if (0 ≤ k1.toInt ∧ k1.toInt ≤ ((i 2).toInt - 1)) then 1 else 0 := hw4
    refine lv_if_ne (tgt := 28) hx hb dX12_is_21 (by decide +kernel) (fun c5 => ?_) (fun c5 => ?_)
    · have f5 := fl_t hw4 c5
      refine lv_aload_n hx hb dX12_is_28 rfl (lv_at hl 0 rfl) ?_
      refine lv_iload_n hx hb dX12_is_29 rfl (lv_at hl 1 rfl) ?_
      refine lv_iload_n hx hb dX12_is_30 rfl (lv_at hl 2 rfl) ?_
      refine ro_calli (va_runV (As := [.int w, .int k1]) (rest := []) ⟨hx, hb, hml, hown, hts⟩ (s_X12_isOf l D H.size o a t i q c d w k1 hI (show 0 ≤ w.toInt ∧ w.toInt ≤ 29 from by omega) (show 0 ≤ k1.toInt from by omega)) (cwV 2 hts gm_X12_is_X12_isOf rfl rfl rfl (by decide +kernel) ⟨Nat.le_of_ble_eq_true rfl, Nat.le_of_ble_eq_true rfl⟩) (pA_V hK hP (ci := 12) (q0 := 0) rfl rfl) rfl rfl hl.1 rfl (lv_room (Nat.le_of_ble_eq_true rfl)) dX12_is_31 ⟨Nat.le_of_ble_eq_true rfl, Nat.le_of_ble_eq_true rfl⟩) hS hA hP (fun r6 u6 H locs hw6 hP hS => ?_)
      have hw6 : ((0 ≤ r6.toInt ∧ r6.toInt ≤ 1) ∧ (Sm r6 (Kd (c 3) (c 6) w.toInt k1.toInt))) := hw6
      obtain ⟨hw6, hr6_0⟩ := hw6
      have hr6_0 : Sm r6 (Kd (c 3) (c 6) w.toInt k1.toInt) := hr6_0
      refine lv_if_eq (tgt := 41) hx hb dX12_is_34 (by decide +kernel) (fun c7 => ?_) (fun c7 => ?_)
      · have f7 := (ti_eq (a := r6.toInt) (b := 0) rfl (by decide +kernel)).mp c7
        have s7 := sm_f hr6_0 c7
        refine lv_iconst (v := 0) hx hb dX12_is_41 (by decide +kernel) ?_
        exact ro_iret hx hb hr hlocks hS dX12_is_42 ⟨trivial, (show IsR (c 3) (c 6) w k1 (i 5).toInt (i 2).toInt (0 : Int32) from Or.inr ⟨by omega, sm_0 s7⟩)⟩
      · have f7 := mt (ti_eq (a := r6.toInt) (b := 0) rfl (by decide +kernel)).mpr c7
        have s7 := sm_t hr6_0 c7
        refine lv_iconst (v := 1) hx hb dX12_is_37 (by decide +kernel) ?_
        refine lv_goto (tgt := 42) hx hb dX12_is_38 (by decide +kernel) ?_
        exact ro_iret hx hb hr hlocks hS dX12_is_42 ⟨trivial, (show IsR (c 3) (c 6) w k1 (i 5).toInt (i 2).toInt (1 : Int32) from Or.inr ⟨by omega, sm_1 s7⟩)⟩
    · have f5 := fl_f hw4 c5
      refine lv_iconst (v := (-1)) hx hb dX12_is_24 (by decide +kernel) ?_
      refine lv_goto (tgt := 42) hx hb dX12_is_25 (by decide +kernel) ?_
      exact ro_iret hx hb hr hlocks hS dX12_is_42 ⟨trivial, (show IsR (c 3) (c 6) w k1 (i 5).toInt (i 2).toInt ((-1) : Int32) from Or.inl ⟨by omega, by decide⟩)⟩

/-! roads: what is drawn -/
def zX (so ko : Nat → Int32) (N x : Int) : Int := if 0 ≤ x ∧ x < N then (so (ko x.toNat).toNatClampNeg).toInt else -9
theorem SO_z {so ko : Nat → Int32} {N w r : Int} (h : SO so ko N w r) : r = zX so ko N w := by
  unfold zX
  rcases h with ⟨a, b, d⟩ | ⟨a, b⟩
  · rw [if_pos ⟨a, b⟩]; exact d
  · rw [if_neg a]; exact b
def Ek (F A C S : Nat → Int32) (k : Int) (s : Nat) : Prop := (S s).toInt = 1 ∧ (F s).toInt = 5 ∧ (A s).toInt * 10 + (C s).toInt = k
def Er (Z : Int → Int) (F A B C S : Nat → Int32) (k : Int) (s : Nat) : Prop := Ek F A C S k s ∧ Z (B s).toInt = 0
def Ed (Z : Int → Int) (F A B C S : Nat → Int32) (k : Int) (s : Nat) : Prop := Ek F A C S k s ∧ ¬ Z (B s).toInt = 0
def Dt (Z : Int → Int) (F B S : Nat → Int32) (t : Int) (s : Nat) : Prop := (S s).toInt = 1 ∧ (F s).toInt = 5 ∧ ¬ Z (B s).toInt = 0 ∧ (B s).toInt = t
def Iq (Z : Int → Int) (F B C S : Nat → Int32) (k : Int) (s : Nat) : Prop := (S s).toInt = 1 ∧ (F s).toInt = 5 ∧ Z (B s).toInt = 0 ∧ (B s).toInt * 10 + opp (C s).toInt = k
def vI (B : Nat → Int32) (r : Int) : Int := if r = -9 then -9 else (B r.toNat).toInt
theorem vI_n {B : Nat → Int32} : vI B (-9) = -9 := if_pos rfl
theorem vI_y {B : Nat → Int32} {s : Nat} : vI B (s : Int) = (B s).toInt := by unfold vI; rw [if_neg (by omega), show ((s : Int)).toNat = s by omega]
def DA (Z : Int → Int) (F A B C S : Nat → Int32) (x : Nat) (bw ld dr : Nat → Int32) (k : Nat) : Prop := lst (Ek F A C S k) x (bw k).toInt ∧ (∃ r, lst (Er Z F A B C S k) x r ∧ (ld k).toInt = vI B r) ∧ ∃ r, lst (Ed Z F A B C S k) x r ∧ (dr k).toInt = vI B r
def DB (Z : Int → Int) (F A B S : Nat → Int32) (x : Nat) (f1 f2 : Nat → Int32) (t : Nat) : Prop := ∃ r1 r2, fst (Dt Z F B S t) x r1 ∧ lst (Dt Z F B S t) x r2 ∧ (f1 t).toInt = vI A r1 ∧ (f2 t).toInt = if r1 = r2 then -9 else vI A r2
def D1 (Z : Int → Int) (F A B C S : Nat → Int32) (x : Nat) (bw ld dr f1 f2 : Nat → Int32) : Prop := (∀ k : Nat, k < 300 → DA Z F A B C S x bw ld dr k) ∧ ∀ t : Nat, t < 30 → DB Z F A B S x f1 f2 t
theorem lsN {P : Nat → Prop} {x : Nat} {r : Int} (h : lst P x r) (hp : ¬ P x) : lst P (x + 1) r := by
  rcases h with ⟨h, a⟩ | ⟨s, h, a, b, d⟩
  · refine Or.inl ⟨h, fun s hs => ?_⟩
    by_cases e : s = x
    · rw [e]; exact hp
    · exact a s (by omega)
  · refine Or.inr ⟨s, h, by omega, b, fun s2 h2 h3 => ?_⟩
    by_cases e : s2 = x
    · rw [e]; exact hp
    · exact d s2 h2 (by omega)
theorem lsY {P : Nat → Prop} {x : Nat} (hp : P x) : lst P (x + 1) (x : Int) := Or.inr ⟨x, rfl, by omega, hp, fun s2 h2 h3 => by omega⟩
theorem fsN {P : Nat → Prop} {x : Nat} {r : Int} (h : fst P x r) (hp : ¬ P x ∨ ¬ r = -9) : fst P (x + 1) r := by
  rcases h with ⟨h, a⟩ | ⟨s, h, a, b, d⟩
  · refine Or.inl ⟨h, fun s hs => ?_⟩
    by_cases e : s = x
    · rw [e]; exact hp.resolve_right (fun q => q h)
    · exact a s (by omega)
  · exact Or.inr ⟨s, h, by omega, b, d⟩
theorem fsY {P : Nat → Prop} {x : Nat} {r : Int} (h : fst P x r) (hr : r = -9) (hp : P x) : fst P (x + 1) (x : Int) := by
  rcases h with ⟨h, a⟩ | ⟨s, h, a, b, d⟩
  · exact Or.inr ⟨x, rfl, by omega, hp, a⟩
  · omega
theorem ls0 {P : Nat → Prop} : lst P 0 (-9) := Or.inl ⟨rfl, fun s hs => absurd hs (Nat.not_lt_zero s)⟩
theorem fs0 {P : Nat → Prop} : fst P 0 (-9) := Or.inl ⟨rfl, fun s hs => absurd hs (Nat.not_lt_zero s)⟩
def WpD (bw ld dr f1 f2 : Nat → Int32) : Prop := ∀ k, (bw k).toInt = -9 ∧ (ld k).toInt = -9 ∧ (dr k).toInt = -9 ∧ (f1 k).toInt = -9 ∧ (f2 k).toInt = -9
theorem D1_0 {Z : Int → Int} {F A B C S bw ld dr f1 f2 : Nat → Int32} {x : Int32} (hx : x.toInt = 0) (h : WpD bw ld dr f1 f2) : D1 Z F A B C S x.toInt.toNat bw ld dr f1 f2 := by
  rw [hx]
  refine ⟨fun k _ => ⟨by rw [(h k).1]; exact ls0, ⟨-9, ls0, by rw [(h k).2.1, vI_n]⟩, ⟨-9, ls0, by rw [(h k).2.2.1, vI_n]⟩⟩, fun t _ => ⟨-9, -9, fs0, ls0, by rw [(h t).2.2.2.1, vI_n], by rw [(h t).2.2.2.2, if_pos rfl]⟩⟩
theorem DA_n {Z : Int → Int} {F A B C S bw ld dr : Nat → Int32} {x k : Nat} (h : DA Z F A B C S x bw ld dr k) (hp : ¬ Ek F A C S k x) : DA Z F A B C S (x + 1) bw ld dr k := by
  obtain ⟨h1, ⟨r, h2, h3⟩, ⟨q, h4, h5⟩⟩ := h
  exact ⟨lsN h1 hp, ⟨r, lsN h2 (fun z => hp z.1), h3⟩, ⟨q, lsN h4 (fun z => hp z.1), h5⟩⟩
theorem DB_n {Z : Int → Int} {F A B S f1 f2 : Nat → Int32} {x t : Nat} (h : DB Z F A B S x f1 f2 t) (hp : ¬ Dt Z F B S t x) : DB Z F A B S (x + 1) f1 f2 t := by
  obtain ⟨r1, r2, h1, h2, h3, h4⟩ := h
  exact ⟨r1, r2, fsN h1 (Or.inl hp), lsN h2 hp, h3, h4⟩
theorem D1_n {Z : Int → Int} {F A B C S bw ld dr f1 f2 : Nat → Int32} {x y : Int32} (h : D1 Z F A B C S x.toInt.toNat bw ld dr f1 f2) (hx : 0 ≤ x.toInt) (hp : ¬ ((S x.toNatClampNeg).toInt = 1 ∧ (F x.toNatClampNeg).toInt = 5)) (hy : y.toInt = x.toInt + 1) : D1 Z F A B C S y.toInt.toNat bw ld dr f1 f2 := by
  rw [show y.toInt.toNat = x.toInt.toNat + 1 by omega]
  exact ⟨fun k hk => DA_n (h.1 k hk) (fun q => hp ⟨q.1, q.2.1⟩), fun t ht => DB_n (h.2 t ht) (fun q => hp ⟨q.1, q.2.1⟩)⟩
/-- what drawTarget does -/
def TgR (Z : Int → Int) (ld dr f1 f2 ld' dr' f1' f2' : Nat → Int32) (k w t : Int32) : Prop :=
  (Z t.toInt = 0 ∧ ld' = upd ld k.toNatClampNeg t ∧ dr' = dr ∧ f1' = f1 ∧ f2' = f2) ∨ (¬ Z t.toInt = 0 ∧ ld' = ld ∧ dr' = upd dr k.toNatClampNeg t ∧ (((f1 t.toNatClampNeg).toInt = -9 ∧ f1' = upd f1 t.toNatClampNeg w ∧ f2' = f2) ∨ (¬ (f1 t.toNatClampNeg).toInt = -9 ∧ f1' = f1 ∧ f2' = upd f2 t.toNatClampNeg w)))
theorem D1_g {Z : Int → Int} {F A B C S bw ld dr f1 f2 ld' dr' f1' f2' : Nat → Int32} {x y k w t : Int32} (h : D1 Z F A B C S x.toInt.toNat bw ld dr f1 f2) (hx : 0 ≤ x.toInt) (hS : (S x.toNatClampNeg).toInt = 1) (hF : (F x.toNatClampNeg).toInt = 5) (hk : k.toInt = (A x.toNatClampNeg).toInt * 10 + (C x.toNatClampNeg).toInt) (hk0 : 0 ≤ k.toInt) (hw : w = A x.toNatClampNeg) (ht : t = B x.toNatClampNeg) (ht0 : 0 ≤ t.toInt) (hA : ∀ s, 0 ≤ (A s).toInt) (hT : TgR Z ld dr f1 f2 ld' dr' f1' f2' k w t) (hy : y.toInt = x.toInt + 1) : D1 Z F A B C S y.toInt.toNat (upd bw k.toNatClampNeg x) ld' dr' f1' f2' := by
  rw [show y.toInt.toNat = x.toInt.toNat + 1 by omega]
  have ex : x.toNatClampNeg = x.toInt.toNat := rfl
  have ek : k.toNatClampNeg = k.toInt.toNat := rfl
  have et : t.toNatClampNeg = t.toInt.toNat := rfl
  rw [ex] at hS hF hk hw ht
  have xc : ((x.toInt.toNat : Nat) : Int) = x.toInt := by omega
  have tB : (B x.toInt.toNat).toInt = t.toInt := by rw [ht]
  have wA : (A x.toInt.toNat).toInt = w.toInt := by rw [hw]
  refine ⟨fun j hj => ?_, fun j hj => ?_⟩
  · by_cases q : j = k.toNatClampNeg
    · have P : Ek F A C S j x.toInt.toNat := ⟨hS, hF, by omega⟩
      obtain ⟨h1, ⟨r, h2, h3⟩, ⟨z, h4, h5⟩⟩ := h.1 j hj
      have b1 : lst (Ek F A C S j) (x.toInt.toNat + 1) (upd bw k.toNatClampNeg x j).toInt := by
        rw [q, pk_us, ← q, ← xc]; exact lsY P
      rcases hT with ⟨a, e1, e2, e3, e4⟩ | ⟨a, e1, e2, e3⟩
      · refine ⟨b1, ⟨((x.toInt.toNat : Nat) : Int), lsY ⟨P, by rw [tB]; exact a⟩, by rw [e1, q, pk_us, vI_y, tB]⟩, ⟨z, lsN h4 (fun y => y.2 (by rw [tB]; exact a)), by rw [e2]; exact h5⟩⟩
      · refine ⟨b1, ⟨r, lsN h2 (fun y => a (by rw [← tB]; exact y.2)), by rw [e1]; exact h3⟩, ⟨((x.toInt.toNat : Nat) : Int), lsY ⟨P, by rw [tB]; exact a⟩, by rw [e2, q, pk_us, vI_y, tB]⟩⟩
    · have nP : ¬ Ek F A C S j x.toInt.toNat := fun y => q (by have := y.2.2; omega)
      have g := DA_n (h.1 j hj) nP
      obtain ⟨h1, h2, h3⟩ := g
      refine ⟨by rw [pk_un q]; exact h1, ?_, ?_⟩
      · rcases hT with ⟨a, e1, e2, e3, e4⟩ | ⟨a, e1, e2, e3⟩
        · rw [e1, pk_un q]; exact h2
        · rw [e1]; exact h2
      · rcases hT with ⟨a, e1, e2, e3, e4⟩ | ⟨a, e1, e2, e3⟩
        · rw [e2]; exact h3
        · rw [e2, pk_un q]; exact h3
  · rcases hT with ⟨a, e1, e2, e3, e4⟩ | ⟨a, e1, e2, e3⟩
    · rw [e3, e4]
      exact DB_n (h.2 j hj) (fun y => y.2.2.1 (by rw [tB]; exact a))
    · by_cases q : j = t.toNatClampNeg
      · have P : Dt Z F B S j x.toInt.toNat := ⟨hS, hF, by rw [tB]; exact a, by rw [tB]; omega⟩
        obtain ⟨r1, r2, h1, h2, h3, h4⟩ := h.2 j hj
        rcases e3 with ⟨c, e3, e4⟩ | ⟨c, e3, e4⟩
        · have r9 : r1 = -9 := by
            rw [← q, h3] at c
            rcases h1 with y | ⟨s, y, _⟩
            · exact y.1
            · rw [y, vI_y] at c; have := hA s; omega
          have r8 : r2 = -9 := by
            rcases h2 with y | ⟨s, y, y2, y3, _⟩
            · exact y.1
            · rcases h1 with v | ⟨s', v, _⟩
              · exact absurd y3 (v.2 s y2)
              · omega
          refine ⟨((x.toInt.toNat : Nat) : Int), ((x.toInt.toNat : Nat) : Int), fsY h1 r9 P, lsY P, by rw [e3, q, pk_us, vI_y, wA], ?_⟩
          rw [e4, if_pos rfl, h4, if_pos (by omega)]
        · have r9 : ¬ r1 = -9 := fun y => by
            rw [← q, h3, y, vI_n] at c; exact c rfl
          refine ⟨r1, ((x.toInt.toNat : Nat) : Int), fsN h1 (Or.inr r9), lsY P, by rw [e3]; exact h3, ?_⟩
          have ne : ¬ r1 = ((x.toInt.toNat : Nat) : Int) := by
            rcases h1 with y | ⟨s, y, y2, _⟩
            · exact absurd y.1 r9
            · omega
          rw [e4, q, pk_us, if_neg ne, vI_y, wA]
      · have nP : ¬ Dt Z F B S j x.toInt.toNat := fun y => q (by have := y.2.2.2; omega)
        obtain ⟨r1, r2, h1, h2, h3, h4⟩ := DB_n (h.2 j hj) nP
        refine ⟨r1, r2, h1, h2, ?_, ?_⟩
        · rcases e3 with ⟨c, e3, e4⟩ | ⟨c, e3, e4⟩
          · rw [e3, pk_un q]; exact h3
          · rw [e3]; exact h3
        · rcases e3 with ⟨c, e3, e4⟩ | ⟨c, e3, e4⟩
          · rw [e4]; exact h4
          · rw [e4, pk_un q]; exact h4
/-- what is implied -/
def DI (Z : Int → Int) (F A B C S : Nat → Int32) (x : Nat) (b1 l1 bw ld im : Nat → Int32) (k : Nat) : Prop := ∃ q, fst (Iq Z F B C S k) x q ∧ ((¬ (b1 k).toInt = -9 ∧ bw k = b1 k ∧ ld k = l1 k ∧ (im k).toInt = 0) ∨ ((b1 k).toInt = -9 ∧ q = -9 ∧ (bw k).toInt = -9 ∧ ld k = l1 k ∧ (im k).toInt = 0) ∨ ((b1 k).toInt = -9 ∧ ¬ q = -9 ∧ (bw k).toInt = q ∧ (ld k).toInt = vI A q ∧ (im k).toInt = 1))
def D2 (Z : Int → Int) (F A B C S : Nat → Int32) (x : Nat) (b1 l1 bw ld im : Nat → Int32) : Prop := ∀ k : Nat, k < 300 → DI Z F A B C S x b1 l1 bw ld im k
theorem D2_0 {Z : Int → Int} {F A B C S b1 l1 im : Nat → Int32} {x : Int32} (hx : x.toInt = 0) (h : ∀ k, (im k).toInt = 0) : D2 Z F A B C S x.toInt.toNat b1 l1 b1 l1 im := by
  rw [hx]
  intro k _
  refine ⟨-9, fs0, ?_⟩
  by_cases q : (b1 k).toInt = -9
  · exact Or.inr (Or.inl ⟨q, rfl, q, rfl, h k⟩)
  · exact Or.inl ⟨q, rfl, rfl, h k⟩
theorem DI_n {Z : Int → Int} {F A B C S b1 l1 bw ld im : Nat → Int32} {x k : Nat} (h : DI Z F A B C S x b1 l1 bw ld im k) (hp : ¬ Iq Z F B C S k x) : DI Z F A B C S (x + 1) b1 l1 bw ld im k := by
  obtain ⟨q, h1, h2⟩ := h
  exact ⟨q, fsN h1 (Or.inl hp), h2⟩
theorem D2_n {Z : Int → Int} {F A B C S b1 l1 bw ld im : Nat → Int32} {x y : Int32} (h : D2 Z F A B C S x.toInt.toNat b1 l1 bw ld im) (hx : 0 ≤ x.toInt) (hp : ¬ ((S x.toNatClampNeg).toInt = 1 ∧ (F x.toNatClampNeg).toInt = 5 ∧ Z (B x.toNatClampNeg).toInt = 0)) (hy : y.toInt = x.toInt + 1) : D2 Z F A B C S y.toInt.toNat b1 l1 bw ld im := by
  rw [show y.toInt.toNat = x.toInt.toNat + 1 by omega]
  exact fun k hk => DI_n (h k hk) (fun q => hp ⟨q.1, q.2.1, q.2.2.1⟩)
theorem D2_k {Z : Int → Int} {F A B C S b1 l1 bw ld im : Nat → Int32} {x y k : Int32} (h : D2 Z F A B C S x.toInt.toNat b1 l1 bw ld im) (hx : 0 ≤ x.toInt) (hS : (S x.toNatClampNeg).toInt = 1) (hF : (F x.toNatClampNeg).toInt = 5) (hZ : Z (B x.toNatClampNeg).toInt = 0) (hk : k.toInt = (B x.toNatClampNeg).toInt * 10 + opp (C x.toNatClampNeg).toInt) (hb : ¬ (bw k.toNatClampNeg).toInt = -9) (hy : y.toInt = x.toInt + 1) : D2 Z F A B C S y.toInt.toNat b1 l1 bw ld im := by
  rw [show y.toInt.toNat = x.toInt.toNat + 1 by omega]
  have ek : k.toNatClampNeg = k.toInt.toNat := rfl
  intro j hj
  have g := h j hj
  by_cases q : j = k.toNatClampNeg
  · obtain ⟨z, h1, h2⟩ := g
    rw [← q] at hb
    rcases h2 with a | a | a
    · have P : fst (Iq Z F B C S j) x.toInt.toNat z := h1
      by_cases z9 : z = -9
      · by_cases p : Iq Z F B C S j x.toInt.toNat
        · exact ⟨_, fsY h1 z9 p, Or.inl a⟩
        · exact ⟨z, fsN h1 (Or.inl p), Or.inl a⟩
      · exact ⟨z, fsN h1 (Or.inr z9), Or.inl a⟩
    · exact absurd a.2.2.1 hb
    · exact ⟨z, fsN h1 (Or.inr a.2.1), Or.inr (Or.inr a)⟩
  · refine DI_n g (fun p => q ?_)
    have e := p.2.2.2
    have ex : x.toNatClampNeg = x.toInt.toNat := rfl
    rw [ex] at hk
    omega
theorem D2_s {Z : Int → Int} {F A B C S b1 l1 bw ld im : Nat → Int32} {x y k w : Int32} (h : D2 Z F A B C S x.toInt.toNat b1 l1 bw ld im) (hx : 0 ≤ x.toInt) (hS : (S x.toNatClampNeg).toInt = 1) (hF : (F x.toNatClampNeg).toInt = 5) (hZ : Z (B x.toNatClampNeg).toInt = 0) (hk : k.toInt = (B x.toNatClampNeg).toInt * 10 + opp (C x.toNatClampNeg).toInt) (hk0 : 0 ≤ k.toInt) (hb : (bw k.toNatClampNeg).toInt = -9) (hw : w = A x.toNatClampNeg) (hy : y.toInt = x.toInt + 1) : D2 Z F A B C S y.toInt.toNat b1 l1 (upd bw k.toNatClampNeg x) (upd ld k.toNatClampNeg w) (upd im k.toNatClampNeg 1) := by
  rw [show y.toInt.toNat = x.toInt.toNat + 1 by omega]
  have ek : k.toNatClampNeg = k.toInt.toNat := rfl
  have ex : x.toNatClampNeg = x.toInt.toNat := rfl
  rw [ex] at hS hF hZ hk hw
  intro j hj
  have g := h j hj
  by_cases q : j = k.toNatClampNeg
  · have P : Iq Z F B C S j x.toInt.toNat := ⟨hS, hF, hZ, by omega⟩
    obtain ⟨z, h1, h2⟩ := g
    rw [← q] at hb
    have z9 : (b1 j).toInt = -9 ∧ z = -9 := by
      rcases h2 with a | a | a
      · rw [a.2.1] at hb; exact absurd hb a.1
      · exact ⟨a.1, a.2.1⟩
      · have := a.2.2.1; omega
    refine ⟨_, fsY h1 z9.2 P, Or.inr (Or.inr ⟨z9.1, by omega, ?_, ?_, ?_⟩)⟩
    · rw [q, pk_us]; omega
    · rw [q, pk_us, vI_y, hw]
    · rw [q, pk_us]; decide
  · have g2 := DI_n g (fun p => q (by have e := p.2.2.2; omega))
    obtain ⟨z, h1, h2⟩ := g2
    exact ⟨z, h1, by rw [pk_un q, pk_un q, pk_un q]; exact h2⟩
/-- through doors -/
def thr (l0 dr f1 f2 : Nat → Int32) (k : Nat) : Int := if (dr k).toInt = -9 then (l0 k).toInt else if (f1 (dr k).toNatClampNeg).toInt = (k : Int) / 10 then (f2 (dr k).toNatClampNeg).toInt else (f1 (dr k).toNatClampNeg).toInt
def D3 (x : Nat) (l0 dr f1 f2 ld : Nat → Int32) : Prop := ∀ k : Nat, k < 300 → (k < x → (ld k).toInt = thr l0 dr f1 f2 k) ∧ (¬ k < x → ld k = l0 k)
theorem D3_0 {l0 dr f1 f2 : Nat → Int32} {x : Int32} (hx : x.toInt = 0) : D3 x.toInt.toNat l0 dr f1 f2 l0 := by
  rw [hx]
  exact fun k _ => ⟨fun q => absurd q (Nat.not_lt_zero k), fun _ => rfl⟩
theorem D3_n {l0 dr f1 f2 ld : Nat → Int32} {x y : Int32} (h : D3 x.toInt.toNat l0 dr f1 f2 ld) (hx : 0 ≤ x.toInt ∧ x.toInt < 300) (hd : (dr x.toNatClampNeg).toInt = -9) (hy : y.toInt = x.toInt + 1) : D3 y.toInt.toNat l0 dr f1 f2 ld := by
  rw [show y.toInt.toNat = x.toInt.toNat + 1 by omega]
  have ex : x.toNatClampNeg = x.toInt.toNat := rfl
  rw [ex] at hd
  intro k hk
  refine ⟨fun q => ?_, fun q => (h k hk).2 (by omega)⟩
  by_cases z : k = x.toInt.toNat
  · subst z
    rw [(h _ hk).2 (by omega)]
    unfold thr
    rw [if_pos hd]
  · exact (h k hk).1 (by omega)
theorem D3_s {l0 dr f1 f2 ld : Nat → Int32} {x y v : Int32} (h : D3 x.toInt.toNat l0 dr f1 f2 ld) (hx : 0 ≤ x.toInt ∧ x.toInt < 300) (hv : v.toInt = thr l0 dr f1 f2 x.toNatClampNeg) (hy : y.toInt = x.toInt + 1) : D3 y.toInt.toNat l0 dr f1 f2 (upd ld x.toNatClampNeg v) := by
  rw [show y.toInt.toNat = x.toInt.toNat + 1 by omega]
  have ex : x.toNatClampNeg = x.toInt.toNat := rfl
  rw [ex] at hv ⊢
  intro k hk
  by_cases z : k = x.toInt.toNat
  · subst z
    rw [pk_us]
    exact ⟨fun _ => hv, fun q => by omega⟩
  · rw [pk_un z]
    exact ⟨fun q => (h k hk).1 (by omega), fun q => (h k hk).2 (by omega)⟩
theorem thr_f {l0 dr f1 f2 : Nat → Int32} {x d v : Int32} (ed : d = dr x.toNatClampNeg) (hd : ¬ d.toInt = -9) (h0 : 0 ≤ x.toInt) (h : ((f1 d.toNatClampNeg).toInt = x.toInt / 10 ∧ v.toInt = (f2 d.toNatClampNeg).toInt) ∨ (¬ (f1 d.toNatClampNeg).toInt = x.toInt / 10 ∧ v.toInt = (f1 d.toNatClampNeg).toInt)) : v.toInt = thr l0 dr f1 f2 x.toNatClampNeg := by
  have ex : ((x.toNatClampNeg : Nat) : Int) = x.toInt := cl_nn h0
  unfold thr
  rw [← ed, if_neg hd, ex]
  rcases h with ⟨a, b⟩ | ⟨a, b⟩
  · rw [if_pos a, b]
  · rw [if_neg a, b]
/-- all of it -/
def RDS (Z : Int → Int) (F A B C S : Nat → Int32) (n : Nat) (ld dr bw im f1 f2 : Nat → Int32) : Prop := ∃ b1 l1 l2 : Nat → Int32, D1 Z F A B C S n b1 l1 dr f1 f2 ∧ D2 Z F A B C S n b1 l1 bw l2 im ∧ D3 300 l2 dr f1 f2 ld
theorem xor1o {x r : Int32} (h : 0 ≤ x.toInt ∧ x.toInt ≤ 9) (e : r = x ^^^ 1) : r.toInt = opp x.toInt := by
  have q : x = 0 ∨ x = 1 ∨ x = 2 ∨ x = 3 ∨ x = 4 ∨ x = 5 ∨ x = 6 ∨ x = 7 ∨ x = 8 ∨ x = 9 := by
    have w : ∀ y : Int32, y.toInt = x.toInt → x = y := fun y z => (Int32.toInt_inj.mp z).symm
    rcases (show x.toInt = 0 ∨ x.toInt = 1 ∨ x.toInt = 2 ∨ x.toInt = 3 ∨ x.toInt = 4 ∨ x.toInt = 5 ∨ x.toInt = 6 ∨ x.toInt = 7 ∨ x.toInt = 8 ∨ x.toInt = 9 by omega) with q | q | q | q | q | q | q | q | q | q
    · exact Or.inl (w 0 (by rw [q]; decide))
    · exact Or.inr (Or.inl (w 1 (by rw [q]; decide)))
    · exact Or.inr (Or.inr (Or.inl (w 2 (by rw [q]; decide))))
    · exact Or.inr (Or.inr (Or.inr (Or.inl (w 3 (by rw [q]; decide)))))
    · exact Or.inr (Or.inr (Or.inr (Or.inr (Or.inl (w 4 (by rw [q]; decide))))))
    · exact Or.inr (Or.inr (Or.inr (Or.inr (Or.inr (Or.inl (w 5 (by rw [q]; decide)))))))
    · exact Or.inr (Or.inr (Or.inr (Or.inr (Or.inr (Or.inr (Or.inl (w 6 (by rw [q]; decide))))))))
    · exact Or.inr (Or.inr (Or.inr (Or.inr (Or.inr (Or.inr (Or.inr (Or.inl (w 7 (by rw [q]; decide)))))))))
    · exact Or.inr (Or.inr (Or.inr (Or.inr (Or.inr (Or.inr (Or.inr (Or.inr (Or.inl (w 8 (by rw [q]; decide))))))))))
    · exact Or.inr (Or.inr (Or.inr (Or.inr (Or.inr (Or.inr (Or.inr (Or.inr (Or.inr (w 9 (by rw [q]; decide))))))))))
  rw [e]
  rcases q with q | q | q | q | q | q | q | q | q | q <;> rw [q] <;> decide
theorem idiv10 {x r : Int32} (h : 0 ≤ x.toInt ∧ x.toInt ≤ 299) (e : r = x / 10) : r.toInt = x.toInt / 10 := by
  rw [e, Int32.toInt_div]
  rw [show (10 : Int32).toInt = 10 by decide, Int.tdiv_eq_ediv_of_nonneg h.1]
  exact Int.bmod_eq_of_le (by omega) (by omega)
/-- an exit, as the reference finds it -/
def FeM (pa ko F A B C S : Nat → Int32) (n r d ld dr bw im : Int) : Prop :=
  (¬ lsF (bP F A C S r d) n.toNat = -9 ∧ bw = lsF (bP F A C S r d) n.toNat ∧ im = 0 ∧ ((kS pa ko (B (lsF (bP F A C S r d) n.toNat).toNat).toInt = 2 ∧ dr = (B (lsF (bP F A C S r d) n.toNat).toNat).toInt ∧ ld = oS F A B S n (B (lsF (bP F A C S r d) n.toNat).toNat).toInt r) ∨ (¬ kS pa ko (B (lsF (bP F A C S r d) n.toNat).toNat).toInt = 2 ∧ dr = -9 ∧ ld = (B (lsF (bP F A C S r d) n.toNat).toNat).toInt)))
  ∨ (lsF (bP F A C S r d) n.toNat = -9 ∧ dr = -9 ∧ ((¬ fsF (qP F B C S r (opp d)) n.toNat = -9 ∧ bw = fsF (qP F B C S r (opp d)) n.toNat ∧ im = 1 ∧ ld = (A (fsF (qP F B C S r (opp d)) n.toNat).toNat).toInt) ∨ (fsF (qP F B C S r (opp d)) n.toNat = -9 ∧ bw = -9 ∧ im = 0 ∧ ld = -9)))
/-- what a sentence said does to the roads -/
def RdQ (Q : Prop) (Z : Int → Int) (F' A' B' C' S' ld dr bw im f1 f2 ld' dr' bw' im' f1' f2' : Nat → Int32) (n' f : Int) : Prop := (¬ (Q ∧ f = 5) ∧ ld' = ld ∧ dr' = dr ∧ bw' = bw ∧ im' = im ∧ f1' = f1 ∧ f2' = f2) ∨ (Q ∧ f = 5 ∧ RDS Z F' A' B' C' S' n'.toNat ld' dr' bw' im' f1' f2')
def Zr (a : Nat → Int32) : Prop := ∀ k, (a k).toInt = 0
def RdW (Z : Int → Int) (F A B C S ld dr bw im f1 f2 ld' dr' bw' im' f1' f2' : Nat → Int32) (n f : Int) : Prop := (¬ f = 5 ∧ ld' = ld ∧ dr' = dr ∧ bw' = bw ∧ im' = im ∧ f1' = f1 ∧ f2' = f2) ∨ (f = 5 ∧ RDS Z F A B C S n.toNat ld' dr' bw' im' f1' f2')

def wm_X5_isDrawn_e : List Cond := .code yX5_isDrawn cX5_isDrawn 2 (some .boolean) :: (([.fieldLink RX5 43 "TalePlay$Roads" "book" "LTalePlay$Book;", .fieldLink RX5 65 "TalePlay$Book" "said" "[Z", .fieldLink RX5 71 "TalePlay$Book" "forms" "[I"] : List Cond) ++ wsX50 ++ wsX10)
set_option maxHeartbeats 4000000 in
set_option maxRecDepth 100000 in
theorem x_X5_isDrawn_e (l : Launch) (D : va_G) (sz : Nat) (sk : Value) (a : Nat → Nat) (t : Nat → ClassId) (i : Nat → Int32) (q : Int64) (c : Nat → Nat → Int32) (d : Nat → Nat → Int64) (s1 : Int32) (hI : xInv i c) (hs1 : 0 ≤ s1.toInt ∧ s1.toInt ≤ 199) : Met l yX5_isDrawn wm_X5_isDrawn_e ({ frames := 0, cells := 0, slots := 0, locals := 0 }) (va_Pc [.ref (a 128), .int s1] (yA (a 186) D sz (xwB sk a t i q c d) (xtB t))) (va_Qi (fun (r : Int32) (_ : Unit) => ((0 ≤ r.toInt ∧ r.toInt ≤ 1) ∧ ((r.toInt = 1 ∧ (c 117 s1.toNatClampNeg).toInt = 1 ∧ (c 113 s1.toNatClampNeg).toInt = 5) ∨ (r.toInt = 0 ∧ ¬ ((c 117 s1.toNatClampNeg).toInt = 1 ∧ (c 113 s1.toNatClampNeg).toInt = 5))))) oA (ro sz)) 0 0 (ro sz) := by
  refine Met.ofW (cc := cX5_isDrawn) (maxL := 2) (ret := (some .boolean)) (by decide +kernel) rfl ?_
  intro p e s m args below meth cd s₁ B hml hv
  obtain ⟨rfl, ⟨hsz, hP, hK⟩, hN, hZ⟩ := hv
  have hx := B.exec
  have hb := B.bytes
  have hr := B.returns
  have hts := atoms_spec (ws := wm_X5_isDrawn_e) B.pre
  have hown : s.vm.findClass RX5 = some m.cls := findClass_of_methodNamed B.named
  have hlocks := B.notSynchronized
  subst hsz
  have hA : ∀ q : Nat, s.heap.size ≤ q → ro s.heap.size q := fun _ h => h
  have hS : va_S (ro s.heap.size) s.heap s.heap [] := va_S.rf
  have hl := lv_entry ([.ref (a 128), .int s1]) (n := 2) (Nat.le_of_ble_eq_true rfl)
  rw [lg_entry_eq]
  generalize (lg_sl ([.ref (a 128), .int s1]) ++ List.replicate (2 - (lg_sl ([.ref (a 128), .int s1])).length) Slot.unset).toArray = ls at hl ⊢
  have hl : lv_has ls 2 [(0, .ref (a 128)), (1, .int s1)] := hl
  refine lv_aload_n hx hb dX5_isDrawn_0 rfl (lv_at hl 0 rfl) ?_
  refine xgB_R_book hx hb hts (fun _ h => List.mem_cons_of_mem _ (List.mem_append_left _ (List.mem_append_right _ h))) hown hK hP (hts (.fieldLink RX5 43 "TalePlay$Roads" "book" "LTalePlay$Book;") (List.mem_cons_of_mem _ (List.mem_append_left _ (List.mem_append_left _ (List.mem_of_getElem? (i := 0) rfl))))) dX5_isDrawn_1 ?_
  refine xgB_B_said hx hb hts (fun _ h => List.mem_cons_of_mem _ (List.mem_append_right _ h)) hown hK hP (hts (.fieldLink RX5 65 "TalePlay$Book" "said" "[Z") (List.mem_cons_of_mem _ (List.mem_append_left _ (List.mem_append_left _ (List.mem_of_getElem? (i := 1) rfl))))) dX5_isDrawn_4 ?_
  refine lv_iload_n hx hb dX5_isDrawn_7 rfl (lv_at hl 1 rfl) ?_
  refine xlB_117 hx hb hK hP (vp_in_iff.mpr (by have h9 : s1.toInt = s1.toInt := rfl; omega)) dX5_isDrawn_8 (fun x1 ex1 => ?_)
  have rx1 : 0 ≤ x1.toInt ∧ x1.toInt ≤ 1 := by rw [ex1]; exact hI.2 117 _
  have gx1 : (c 117 (s1 : Int32).toNatClampNeg).toInt = x1.toInt := (congrArg Int32.toInt ex1).symm
  refine lv_if_eq (tgt := 29) hx hb dX5_isDrawn_9 (by decide +kernel) (fun c2 => ?_) (fun c2 => ?_)
  · have f2 := (ti_eq (a := x1.toInt) (b := 0) rfl (by decide +kernel)).mp c2
    refine lv_iconst (v := 0) hx hb dX5_isDrawn_29 (by decide +kernel) ?_
    exact ro_zret hx hb hr hlocks hS rfl dX5_isDrawn_30 ⟨(show 0 ≤ (0 : Int32).toInt ∧ (0 : Int32).toInt ≤ 1 from by decide +kernel), (show ((0 : Int32).toInt = 1 ∧ (c 117 s1.toNatClampNeg).toInt = 1 ∧ (c 113 s1.toNatClampNeg).toInt = 5) ∨ ((0 : Int32).toInt = 0 ∧ ¬ ((c 117 s1.toNatClampNeg).toInt = 1 ∧ (c 113 s1.toNatClampNeg).toInt = 5)) from Or.inr ⟨by decide, by omega⟩)⟩
  · have f2 := mt (ti_eq (a := x1.toInt) (b := 0) rfl (by decide +kernel)).mpr c2
    refine lv_aload_n hx hb dX5_isDrawn_12 rfl (lv_at hl 0 rfl) ?_
    refine xgB_R_book hx hb hts (fun _ h => List.mem_cons_of_mem _ (List.mem_append_left _ (List.mem_append_right _ h))) hown hK hP (hts (.fieldLink RX5 43 "TalePlay$Roads" "book" "LTalePlay$Book;") (List.mem_cons_of_mem _ (List.mem_append_left _ (List.mem_append_left _ (List.mem_of_getElem? (i := 0) rfl))))) dX5_isDrawn_13 ?_
    refine xgB_B_forms hx hb hts (fun _ h => List.mem_cons_of_mem _ (List.mem_append_right _ h)) hown hK hP (hts (.fieldLink RX5 71 "TalePlay$Book" "forms" "[I") (List.mem_cons_of_mem _ (List.mem_append_left _ (List.mem_append_left _ (List.mem_of_getElem? (i := 2) rfl))))) dX5_isDrawn_16 ?_
    refine lv_iload_n hx hb dX5_isDrawn_19 rfl (lv_at hl 1 rfl) ?_
    refine xlB_113 hx hb hK hP (vp_in_iff.mpr (by have h9 : s1.toInt = s1.toInt := rfl; omega)) dX5_isDrawn_20 (fun x3 ex3 => ?_)
    have rx3 : 0 ≤ x3.toInt ∧ x3.toInt ≤ 7 := by rw [ex3]; exact hI.2 113 _
    have gx3 : (c 113 (s1 : Int32).toNatClampNeg).toInt = x3.toInt := (congrArg Int32.toInt ex3).symm
    refine lv_iconst (v := 5) hx hb dX5_isDrawn_21 (by decide +kernel) ?_
    refine lv_icmp_ne (tgt := 29) hx hb dX5_isDrawn_22 (by decide +kernel) (fun c4 => ?_) (fun c4 => ?_)
    · have f4 := mt (ti_eq (a := x3.toInt) (b := 5) rfl (by decide +kernel)).mpr c4
      refine lv_iconst (v := 0) hx hb dX5_isDrawn_29 (by decide +kernel) ?_
      exact ro_zret hx hb hr hlocks hS rfl dX5_isDrawn_30 ⟨(show 0 ≤ (0 : Int32).toInt ∧ (0 : Int32).toInt ≤ 1 from by decide +kernel), (show ((0 : Int32).toInt = 1 ∧ (c 117 s1.toNatClampNeg).toInt = 1 ∧ (c 113 s1.toNatClampNeg).toInt = 5) ∨ ((0 : Int32).toInt = 0 ∧ ¬ ((c 117 s1.toNatClampNeg).toInt = 1 ∧ (c 113 s1.toNatClampNeg).toInt = 5)) from Or.inr ⟨by decide, by omega⟩)⟩
    · have f4 := (ti_eq (a := x3.toInt) (b := 5) rfl (by decide +kernel)).mp c4
      refine lv_iconst (v := 1) hx hb dX5_isDrawn_25 (by decide +kernel) ?_
      refine lv_goto (tgt := 30) hx hb dX5_isDrawn_26 (by decide +kernel) ?_
      exact ro_zret hx hb hr hlocks hS rfl dX5_isDrawn_30 ⟨(show 0 ≤ (1 : Int32).toInt ∧ (1 : Int32).toInt ≤ 1 from by decide +kernel), (show ((1 : Int32).toInt = 1 ∧ (c 117 s1.toNatClampNeg).toInt = 1 ∧ (c 113 s1.toNatClampNeg).toInt = 5) ∨ ((1 : Int32).toInt = 0 ∧ ¬ ((c 117 s1.toNatClampNeg).toInt = 1 ∧ (c 113 s1.toNatClampNeg).toInt = 5)) from Or.inl ⟨by decide, by omega, by omega⟩)⟩

def wm_X5_drawTarget_e : List Cond := .code yX5_drawTarget cX5_drawTarget 4 none :: (([.fieldLink RX5 39 "TalePlay$Roads" "world" "LTalePlay$World;", .methodLink RX5 95 yX10_sortOf, .instanceMethod yX10_sortOf, .selects RX10 yX10_sortOf yX10_sortOf, .initialized RX10, .code yX10_sortOf cX10_sortOf 2 (some .int), .fieldLink RX10 37 "TalePlay$World" "objects" "I", .fieldLink RX10 15 "TalePlay$World" "sorts" "[I", .fieldLink RX10 21 "TalePlay$World" "kindOf" "[I", .fieldLink RX5 15 "TalePlay$Roads" "doors" "[I", .fieldLink RX5 24 "TalePlay$Roads" "firstSides" "[I", .fieldLink RX5 27 "TalePlay$Roads" "secondSides" "[I", .fieldLink RX5 9 "TalePlay$Roads" "leads" "[I"] : List Cond) ++ wsX50 ++ wsX100)
set_option maxRecDepth 20000 in
theorem gm_X5_drawTarget_e_X10_sortOf_e_95 : GoodIn wm_X5_drawTarget_e (wsV RX5 95 RX10 yX10_sortOf wm_X10_sortOf_e) := goodIn_w (List.forall_mem_append.mpr ⟨List.forall_mem_cons.mpr ⟨List.mem_cons_of_mem _ (List.mem_append_left _ (List.mem_append_left _ (List.mem_of_getElem? (i := 1) rfl))), List.forall_mem_cons.mpr ⟨List.mem_cons_of_mem _ (List.mem_append_left _ (List.mem_append_left _ (List.mem_of_getElem? (i := 2) rfl))), List.forall_mem_cons.mpr ⟨List.mem_cons_of_mem _ (List.mem_append_left _ (List.mem_append_left _ (List.mem_of_getElem? (i := 3) rfl))), List.forall_mem_cons.mpr ⟨List.mem_cons_of_mem _ (List.mem_append_left _ (List.mem_append_left _ (List.mem_of_getElem? (i := 4) rfl))), (fun _ h => absurd h List.not_mem_nil)⟩⟩⟩⟩, List.forall_mem_cons.mpr ⟨List.mem_cons_of_mem _ (List.mem_append_left _ (List.mem_append_left _ (List.mem_of_getElem? (i := 5) rfl))), List.forall_mem_append.mpr ⟨List.forall_mem_cons.mpr ⟨List.mem_cons_of_mem _ (List.mem_append_left _ (List.mem_append_left _ (List.mem_of_getElem? (i := 6) rfl))), List.forall_mem_cons.mpr ⟨List.mem_cons_of_mem _ (List.mem_append_left _ (List.mem_append_left _ (List.mem_of_getElem? (i := 7) rfl))), List.forall_mem_cons.mpr ⟨List.mem_cons_of_mem _ (List.mem_append_left _ (List.mem_append_left _ (List.mem_of_getElem? (i := 8) rfl))), (fun _ h => absurd h List.not_mem_nil)⟩⟩⟩, (fun _ h => List.mem_cons_of_mem _ (List.mem_append_right _ h))⟩⟩⟩) (by decide +kernel)
set_option maxHeartbeats 4000000 in
set_option maxRecDepth 100000 in
theorem x_X5_drawTarget_e (l : Launch) (D : va_G) (sz : Nat) (sk : Value) (a : Nat → Nat) (t : Nat → ClassId) (i : Nat → Int32) (q : Int64) (c : Nat → Nat → Int32) (d : Nat → Nat → Int64) (s1 : Int32) (w1 : Int32) (w2 : Int32) (hI : xInv i c) (hs1 : 0 ≤ s1.toInt ∧ s1.toInt ≤ 299) (hw1 : 0 ≤ w1.toInt ∧ w1.toInt ≤ 29) (hw2 : 0 ≤ w2.toInt ∧ w2.toInt ≤ 29) : Met l yX5_drawTarget wm_X5_drawTarget_e ({ frames := 1, cells := 0, slots := 0, locals := 21 }) (va_Pc [.ref (a 128), .int s1, .int w1, .int w2] (yB (a 186) D sz (xwT sk a t i q c d) (xtT t))) (va_Qv (fun (u : MS) => True ∧ xInv u.1 u.2.2.1 ∧ (∀ k, k ∉ ([] : List Nat) → u.1 k = i k) ∧ (∀ k, k ∉ ([129, 130, 133, 134] : List Nat) → u.2.2.1 k = c k) ∧ (TgR (zX (c 106) (c 108) (i 111).toInt) (c 129) (c 130) (c 133) (c 134) (u.2.2.1 129) (u.2.2.1 130) (u.2.2.1 133) (u.2.2.1 134) s1 w1 w2)) (oC D (va_A (xwT sk a t i q c d) sz) (fun u : MS => xwT sk a t u.1 u.2.1 u.2.2.1 u.2.2.2) (fun _ => [])) (va_A (xwT sk a t i q c d) sz)) 0 0 (va_A (xwT sk a t i q c d) sz) := by
  refine Met.ofW (cc := cX5_drawTarget) (maxL := 4) (ret := none) (by decide +kernel) rfl ?_
  intro p e s m args below meth cd s₁ B hml hv
  obtain ⟨rfl, ⟨hsz, hP, hK, hD0⟩, hN, hZ, hBW⟩ := hv
  have hx := B.exec
  have hb := B.bytes
  have hr := B.returns
  have hts := atoms_spec (ws := wm_X5_drawTarget_e) B.pre
  have hown : s.vm.findClass RX5 = some m.cls := findClass_of_methodNamed B.named
  have hlocks := B.notSynchronized
  subst hsz
  have hD := hD0.self (sz := s.heap.size)
  have hZ := xZ_A hZ hP hBW
  generalize hAe : va_A (xwT sk a t i q c d) s.heap.size = A at hD hZ ⊢
  have hA : ∀ q : Nat, s.heap.size ≤ q → A q := fun q h => by rw [← hAe]; exact Or.inr h
  have hS : va_S A s.heap s.heap [] := va_S.rf
  have hfi : ∀ k, k ∉ ([] : List Nat) → i k = i k := fun _ _ => rfl
  have hfc : ∀ k, k ∉ ([] : List Nat) → c k = c k := fun _ _ => rfl
  have hl := lv_entry ([.ref (a 128), .int s1, .int w1, .int w2]) (n := 4) (Nat.le_of_ble_eq_true rfl)
  rw [lg_entry_eq]
  generalize (lg_sl ([.ref (a 128), .int s1, .int w1, .int w2]) ++ List.replicate (4 - (lg_sl ([.ref (a 128), .int s1, .int w1, .int w2])).length) Slot.unset).toArray = ls at hl ⊢
  have hl : lv_has ls 4 [(0, .ref (a 128)), (1, .int s1), (2, .int w1), (3, .int w2)] := hl
  have rb111_i : 0 ≤ (i 111).toInt ∧ (i 111).toInt ≤ 30 := hI.1 111
  refine lv_aload_n hx hb dX5_drawTarget_0 rfl (lv_at hl 0 rfl) ?_
  refine xgT_R_world hx hb hts (fun _ h => List.mem_cons_of_mem _ (List.mem_append_left _ (List.mem_append_right _ h))) hown hK hP (hts (.fieldLink RX5 39 "TalePlay$Roads" "world" "LTalePlay$World;") (List.mem_cons_of_mem _ (List.mem_append_left _ (List.mem_append_left _ (List.mem_of_getElem? (i := 0) rfl))))) dX5_drawTarget_1 ?_
  refine lv_iload_n hx hb dX5_drawTarget_4 rfl (lv_at hl 3 rfl) ?_
  refine ro_calli (va_runV (As := [.int w2]) (rest := []) ⟨hx, hb, hml, hown, hts⟩ (x_X10_sortOf_e l D s.heap.size .null a t i q c d w2 hI ) (cwV 1 hts gm_X5_drawTarget_e_X10_sortOf_e_95 rfl rfl rfl (by decide +kernel) ⟨Nat.le_of_ble_eq_true rfl, Nat.le_of_ble_eq_true rfl⟩) (yA_V hN (xZ_k hZ hS hA) (xkT_W hK) (xuT_W (sk := sk) hP) (ci := 10) (q0 := 0) rfl rfl) rfl rfl hl.1 rfl (lv_room (Nat.le_of_ble_eq_true rfl)) dX5_drawTarget_5 ⟨Nat.le_of_ble_eq_true rfl, Nat.le_of_ble_eq_true rfl⟩) hS hA hP (fun r1 u1 H locs hw1 hP hS => ?_)
  have hw1 : (((r1.toInt = -9 ∧ ¬ (0 ≤ w2.toInt ∧ w2.toInt < (i 111).toInt)) ∨ (0 ≤ r1.toInt ∧ r1.toInt ≤ 5 ∧ 0 ≤ w2.toInt ∧ w2.toInt < (i 111).toInt)) ∧ (SO (c 106) (c 108) (i 111).toInt w2.toInt r1.toInt)) := hw1
  obtain ⟨hw1, hr1_0⟩ := hw1
  have hr1_0 : SO (c 106) (c 108) (i 111).toInt w2.toInt r1.toInt := hr1_0
  have hzv : r1.toInt = (zX (c 106) (c 108) (i 111).toInt) w2.toInt := SO_z hr1_0
  refine lv_if_ne (tgt := 19) hx hb dX5_drawTarget_8 (by decide +kernel) (fun c2 => ?_) (fun c2 => ?_)
  · have f2 := mt (ti_eq (a := r1.toInt) (b := 0) rfl (by decide +kernel)).mpr c2
    refine lv_aload_n hx hb dX5_drawTarget_19 rfl (lv_at hl 0 rfl) ?_
    refine xgT_R_doors hx hb hts (fun _ h => List.mem_cons_of_mem _ (List.mem_append_left _ (List.mem_append_right _ h))) hown hK hP (hts (.fieldLink RX5 15 "TalePlay$Roads" "doors" "[I") (List.mem_cons_of_mem _ (List.mem_append_left _ (List.mem_append_left _ (List.mem_of_getElem? (i := 9) rfl))))) dX5_drawTarget_20 ?_
    refine lv_iload_n hx hb dX5_drawTarget_23 rfl (lv_at hl 1 rfl) ?_
    refine lv_iload_n hx hb dX5_drawTarget_24 rfl (lv_at hl 3 rfl) ?_
    refine xsT_130 hx hb hK hP hD hS (vp_in_iff.mpr (by have h9 : s1.toInt = s1.toInt := rfl; omega)) dX5_drawTarget_25 (fun H locs hP hD hS => ?_)
    have hI := xInv_c hI (k := 130) (j := (s1 : Int32).toNatClampNeg) (x := w2) (show (w2 : Int32).toInt = -9 ∨ (0 ≤ (w2 : Int32).toInt ∧ (w2 : Int32).toInt ≤ 29) from by omega)
    have hfc : ∀ k, k ∉ ([130] : List Nat) → (updA c 130 (s1 : Int32).toNatClampNeg w2) k = c k := fr_cz hfc (by decide +kernel) (by decide +kernel)
    refine lv_aload_n hx hb dX5_drawTarget_26 rfl (lv_at hl 0 rfl) ?_
    refine xgT_R_firstSides hx hb hts (fun _ h => List.mem_cons_of_mem _ (List.mem_append_left _ (List.mem_append_right _ h))) hown hK hP (hts (.fieldLink RX5 24 "TalePlay$Roads" "firstSides" "[I") (List.mem_cons_of_mem _ (List.mem_append_left _ (List.mem_append_left _ (List.mem_of_getElem? (i := 10) rfl))))) dX5_drawTarget_27 ?_
    refine lv_iload_n hx hb dX5_drawTarget_30 rfl (lv_at hl 3 rfl) ?_
    refine xlT_133 hx hb hK hP (vp_in_iff.mpr (by have h9 : w2.toInt = w2.toInt := rfl; omega)) dX5_drawTarget_31 (fun x3 ex3 => ?_)
    have rx3 : x3.toInt = -9 ∨ (0 ≤ x3.toInt ∧ x3.toInt ≤ 29) := by rw [ex3]; exact hI.2 133 _
    have gx3 : (c 133 (w2 : Int32).toNatClampNeg).toInt = x3.toInt := (congrArg Int32.toInt ex3).symm
    refine lv_bipush (v := (-9)) hx hb dX5_drawTarget_32 (by decide +kernel) ?_
    refine lv_icmp_ne (tgt := 47) hx hb dX5_drawTarget_34 (by decide +kernel) (fun c4 => ?_) (fun c4 => ?_)
    · have f4 := mt (ti_eq (a := x3.toInt) (b := (-9)) rfl (by decide +kernel)).mpr c4
      refine lv_aload_n hx hb dX5_drawTarget_47 rfl (lv_at hl 0 rfl) ?_
      refine xgT_R_secondSides hx hb hts (fun _ h => List.mem_cons_of_mem _ (List.mem_append_left _ (List.mem_append_right _ h))) hown hK hP (hts (.fieldLink RX5 27 "TalePlay$Roads" "secondSides" "[I") (List.mem_cons_of_mem _ (List.mem_append_left _ (List.mem_append_left _ (List.mem_of_getElem? (i := 11) rfl))))) dX5_drawTarget_48 ?_
      refine lv_iload_n hx hb dX5_drawTarget_51 rfl (lv_at hl 3 rfl) ?_
      refine lv_iload_n hx hb dX5_drawTarget_52 rfl (lv_at hl 2 rfl) ?_
      refine xsT_134 hx hb hK hP hD hS (vp_in_iff.mpr (by have h9 : w2.toInt = w2.toInt := rfl; omega)) dX5_drawTarget_53 (fun H locs hP hD hS => ?_)
      have hI := xInv_c hI (k := 134) (j := (w2 : Int32).toNatClampNeg) (x := w1) (show (w1 : Int32).toInt = -9 ∨ (0 ≤ (w1 : Int32).toInt ∧ (w1 : Int32).toInt ≤ 29) from by omega)
      have hfc : ∀ k, k ∉ ([130, 134] : List Nat) → (updA (updA c 130 (s1 : Int32).toNatClampNeg w2) 134 (w2 : Int32).toNatClampNeg w1) k = c k := fr_cz hfc (by decide +kernel) (by decide +kernel)
      exact rw_vret (i, q, (updA (updA c 130 (s1 : Int32).toNatClampNeg w2) 134 (w2 : Int32).toNatClampNeg w1), d) hx hb hr hlocks hS (hK.sub (tys' := []) [] rfl) hP hD dX5_drawTarget_54 ⟨trivial, hI, fr_w hfi (by decide +kernel), fr_w hfc (by decide +kernel), (show TgR (zX (c 106) (c 108) (i 111).toInt) (c 129) (c 130) (c 133) (c 134) ((updA (updA c 130 (s1 : Int32).toNatClampNeg w2) 134 (w2 : Int32).toNatClampNeg w1) 129) ((updA (updA c 130 (s1 : Int32).toNatClampNeg w2) 134 (w2 : Int32).toNatClampNeg w1) 130) ((updA (updA c 130 (s1 : Int32).toNatClampNeg w2) 134 (w2 : Int32).toNatClampNeg w1) 133) ((updA (updA c 130 (s1 : Int32).toNatClampNeg w2) 134 (w2 : Int32).toNatClampNeg w1) 134) s1 w1 w2 from Or.inr ⟨by omega, rfl, rfl, Or.inr ⟨by omega, rfl, rfl⟩⟩)⟩
    · have f4 := (ti_eq (a := x3.toInt) (b := (-9)) rfl (by decide +kernel)).mp c4
      refine lv_aload_n hx hb dX5_drawTarget_37 rfl (lv_at hl 0 rfl) ?_
      refine xgT_R_firstSides hx hb hts (fun _ h => List.mem_cons_of_mem _ (List.mem_append_left _ (List.mem_append_right _ h))) hown hK hP (hts (.fieldLink RX5 24 "TalePlay$Roads" "firstSides" "[I") (List.mem_cons_of_mem _ (List.mem_append_left _ (List.mem_append_left _ (List.mem_of_getElem? (i := 10) rfl))))) dX5_drawTarget_38 ?_
      refine lv_iload_n hx hb dX5_drawTarget_41 rfl (lv_at hl 3 rfl) ?_
      refine lv_iload_n hx hb dX5_drawTarget_42 rfl (lv_at hl 2 rfl) ?_
      refine xsT_133 hx hb hK hP hD hS (vp_in_iff.mpr (by have h9 : w2.toInt = w2.toInt := rfl; omega)) dX5_drawTarget_43 (fun H locs hP hD hS => ?_)
      have hI := xInv_c hI (k := 133) (j := (w2 : Int32).toNatClampNeg) (x := w1) (show (w1 : Int32).toInt = -9 ∨ (0 ≤ (w1 : Int32).toInt ∧ (w1 : Int32).toInt ≤ 29) from by omega)
      have hfc : ∀ k, k ∉ ([130, 133] : List Nat) → (updA (updA c 130 (s1 : Int32).toNatClampNeg w2) 133 (w2 : Int32).toNatClampNeg w1) k = c k := fr_cz hfc (by decide +kernel) (by decide +kernel)
      refine lv_goto (tgt := 54) hx hb dX5_drawTarget_44 (by decide +kernel) ?_
      exact rw_vret (i, q, (updA (updA c 130 (s1 : Int32).toNatClampNeg w2) 133 (w2 : Int32).toNatClampNeg w1), d) hx hb hr hlocks hS (hK.sub (tys' := []) [] rfl) hP hD dX5_drawTarget_54 ⟨trivial, hI, fr_w hfi (by decide +kernel), fr_w hfc (by decide +kernel), (show TgR (zX (c 106) (c 108) (i 111).toInt) (c 129) (c 130) (c 133) (c 134) ((updA (updA c 130 (s1 : Int32).toNatClampNeg w2) 133 (w2 : Int32).toNatClampNeg w1) 129) ((updA (updA c 130 (s1 : Int32).toNatClampNeg w2) 133 (w2 : Int32).toNatClampNeg w1) 130) ((updA (updA c 130 (s1 : Int32).toNatClampNeg w2) 133 (w2 : Int32).toNatClampNeg w1) 133) ((updA (updA c 130 (s1 : Int32).toNatClampNeg w2) 133 (w2 : Int32).toNatClampNeg w1) 134) s1 w1 w2 from Or.inr ⟨by omega, rfl, rfl, Or.inl ⟨by omega, rfl, rfl⟩⟩)⟩
  · have f2 := (ti_eq (a := r1.toInt) (b := 0) rfl (by decide +kernel)).mp c2
    refine lv_aload_n hx hb dX5_drawTarget_11 rfl (lv_at hl 0 rfl) ?_
    refine xgT_R_leads hx hb hts (fun _ h => List.mem_cons_of_mem _ (List.mem_append_left _ (List.mem_append_right _ h))) hown hK hP (hts (.fieldLink RX5 9 "TalePlay$Roads" "leads" "[I") (List.mem_cons_of_mem _ (List.mem_append_left _ (List.mem_append_left _ (List.mem_of_getElem? (i := 12) rfl))))) dX5_drawTarget_12 ?_
    refine lv_iload_n hx hb dX5_drawTarget_15 rfl (lv_at hl 1 rfl) ?_
    refine lv_iload_n hx hb dX5_drawTarget_16 rfl (lv_at hl 3 rfl) ?_
    refine xsT_129 hx hb hK hP hD hS (vp_in_iff.mpr (by have h9 : s1.toInt = s1.toInt := rfl; omega)) dX5_drawTarget_17 (fun H locs hP hD hS => ?_)
    have hI := xInv_c hI (k := 129) (j := (s1 : Int32).toNatClampNeg) (x := w2) (show (w2 : Int32).toInt = -9 ∨ (0 ≤ (w2 : Int32).toInt ∧ (w2 : Int32).toInt ≤ 29) from by omega)
    have hfc : ∀ k, k ∉ ([129] : List Nat) → (updA c 129 (s1 : Int32).toNatClampNeg w2) k = c k := fr_cz hfc (by decide +kernel) (by decide +kernel)
    exact rw_vret (i, q, (updA c 129 (s1 : Int32).toNatClampNeg w2), d) hx hb hr hlocks hS (hK.sub (tys' := []) [] rfl) hP hD dX5_drawTarget_18 ⟨trivial, hI, fr_w hfi (by decide +kernel), fr_w hfc (by decide +kernel), (show TgR (zX (c 106) (c 108) (i 111).toInt) (c 129) (c 130) (c 133) (c 134) ((updA c 129 (s1 : Int32).toNatClampNeg w2) 129) ((updA c 129 (s1 : Int32).toNatClampNeg w2) 130) ((updA c 129 (s1 : Int32).toNatClampNeg w2) 133) ((updA c 129 (s1 : Int32).toNatClampNeg w2) 134) s1 w1 w2 from Or.inl ⟨by omega, rfl, rfl, rfl, rfl⟩)⟩

def wm_X5_drawSaid_e : List Cond := .code yX5_drawSaid cX5_drawSaid 3 none :: ((([.fieldLink RX5 43 "TalePlay$Roads" "book" "LTalePlay$Book;", .fieldLink RX5 74 "TalePlay$Book" "total" "I", .methodLink RX5 78 yX5_isDrawn, .instanceMethod yX5_isDrawn, .selects RX5 yX5_isDrawn yX5_isDrawn, .initialized RX5, .code yX5_isDrawn cX5_isDrawn 2 (some .boolean), .fieldLink RX5 65 "TalePlay$Book" "said" "[Z", .fieldLink RX5 71 "TalePlay$Book" "forms" "[I", .fieldLink RX5 82 "TalePlay$Book" "as" "[I", .fieldLink RX5 85 "TalePlay$Book" "cs" "[I", .fieldLink RX5 18 "TalePlay$Roads" "bys" "[I", .fieldLink RX5 88 "TalePlay$Book" "bs" "[I", .methodLink RX5 91 yX5_drawTarget, .instanceMethod yX5_drawTarget, .selects RX5 yX5_drawTarget yX5_drawTarget] : List Cond) ++ ([.code yX5_drawTarget cX5_drawTarget 4 none, .fieldLink RX5 39 "TalePlay$Roads" "world" "LTalePlay$World;", .methodLink RX5 95 yX10_sortOf, .instanceMethod yX10_sortOf, .selects RX10 yX10_sortOf yX10_sortOf, .initialized RX10, .code yX10_sortOf cX10_sortOf 2 (some .int), .fieldLink RX10 37 "TalePlay$World" "objects" "I", .fieldLink RX10 15 "TalePlay$World" "sorts" "[I", .fieldLink RX10 21 "TalePlay$World" "kindOf" "[I", .fieldLink RX5 15 "TalePlay$Roads" "doors" "[I", .fieldLink RX5 24 "TalePlay$Roads" "firstSides" "[I", .fieldLink RX5 27 "TalePlay$Roads" "secondSides" "[I", .fieldLink RX5 9 "TalePlay$Roads" "leads" "[I"] : List Cond)) ++ wsX50 ++ wsX10 ++ wsX100)
set_option maxRecDepth 20000 in
theorem gm_X5_drawSaid_e_X5_isDrawn_e_78 : GoodIn wm_X5_drawSaid_e (wsV RX5 78 RX5 yX5_isDrawn wm_X5_isDrawn_e) := goodIn_w (List.forall_mem_append.mpr ⟨List.forall_mem_cons.mpr ⟨List.mem_cons_of_mem _ (List.mem_append_left _ (List.mem_append_left _ (List.mem_append_left _ (List.mem_append_left _ (List.mem_of_getElem? (i := 2) rfl))))), List.forall_mem_cons.mpr ⟨List.mem_cons_of_mem _ (List.mem_append_left _ (List.mem_append_left _ (List.mem_append_left _ (List.mem_append_left _ (List.mem_of_getElem? (i := 3) rfl))))), List.forall_mem_cons.mpr ⟨List.mem_cons_of_mem _ (List.mem_append_left _ (List.mem_append_left _ (List.mem_append_left _ (List.mem_append_left _ (List.mem_of_getElem? (i := 4) rfl))))), List.forall_mem_cons.mpr ⟨List.mem_cons_of_mem _ (List.mem_append_left _ (List.mem_append_left _ (List.mem_append_left _ (List.mem_append_left _ (List.mem_of_getElem? (i := 5) rfl))))), (fun _ h => absurd h List.not_mem_nil)⟩⟩⟩⟩, List.forall_mem_cons.mpr ⟨List.mem_cons_of_mem _ (List.mem_append_left _ (List.mem_append_left _ (List.mem_append_left _ (List.mem_append_left _ (List.mem_of_getElem? (i := 6) rfl))))), List.forall_mem_append.mpr ⟨List.forall_mem_append.mpr ⟨List.forall_mem_cons.mpr ⟨List.mem_cons_of_mem _ (List.mem_append_left _ (List.mem_append_left _ (List.mem_append_left _ (List.mem_append_left _ (List.mem_of_getElem? (i := 0) rfl))))), List.forall_mem_cons.mpr ⟨List.mem_cons_of_mem _ (List.mem_append_left _ (List.mem_append_left _ (List.mem_append_left _ (List.mem_append_left _ (List.mem_of_getElem? (i := 7) rfl))))), List.forall_mem_cons.mpr ⟨List.mem_cons_of_mem _ (List.mem_append_left _ (List.mem_append_left _ (List.mem_append_left _ (List.mem_append_left _ (List.mem_of_getElem? (i := 8) rfl))))), (fun _ h => absurd h List.not_mem_nil)⟩⟩⟩, (fun _ h => List.mem_cons_of_mem _ (List.mem_append_left _ (List.mem_append_left _ (List.mem_append_right _ h))))⟩, (fun _ h => List.mem_cons_of_mem _ (List.mem_append_left _ (List.mem_append_right _ h)))⟩⟩⟩) (by decide +kernel)
set_option maxRecDepth 20000 in
theorem gm_X5_drawSaid_e_X5_drawTarget_e_91 : GoodIn wm_X5_drawSaid_e (wsV RX5 91 RX5 yX5_drawTarget wm_X5_drawTarget_e) := goodIn_w (List.forall_mem_append.mpr ⟨List.forall_mem_cons.mpr ⟨List.mem_cons_of_mem _ (List.mem_append_left _ (List.mem_append_left _ (List.mem_append_left _ (List.mem_append_left _ (List.mem_of_getElem? (i := 13) rfl))))), List.forall_mem_cons.mpr ⟨List.mem_cons_of_mem _ (List.mem_append_left _ (List.mem_append_left _ (List.mem_append_left _ (List.mem_append_left _ (List.mem_of_getElem? (i := 14) rfl))))), List.forall_mem_cons.mpr ⟨List.mem_cons_of_mem _ (List.mem_append_left _ (List.mem_append_left _ (List.mem_append_left _ (List.mem_append_left _ (List.mem_of_getElem? (i := 15) rfl))))), List.forall_mem_cons.mpr ⟨List.mem_cons_of_mem _ (List.mem_append_left _ (List.mem_append_left _ (List.mem_append_left _ (List.mem_append_left _ (List.mem_of_getElem? (i := 5) rfl))))), (fun _ h => absurd h List.not_mem_nil)⟩⟩⟩⟩, List.forall_mem_cons.mpr ⟨List.mem_cons_of_mem _ (List.mem_append_left _ (List.mem_append_left _ (List.mem_append_left _ (List.mem_append_right _ (List.mem_of_getElem? (i := 0) rfl))))), List.forall_mem_append.mpr ⟨List.forall_mem_append.mpr ⟨List.forall_mem_cons.mpr ⟨List.mem_cons_of_mem _ (List.mem_append_left _ (List.mem_append_left _ (List.mem_append_left _ (List.mem_append_right _ (List.mem_of_getElem? (i := 1) rfl))))), List.forall_mem_cons.mpr ⟨List.mem_cons_of_mem _ (List.mem_append_left _ (List.mem_append_left _ (List.mem_append_left _ (List.mem_append_right _ (List.mem_of_getElem? (i := 2) rfl))))), List.forall_mem_cons.mpr ⟨List.mem_cons_of_mem _ (List.mem_append_left _ (List.mem_append_left _ (List.mem_append_left _ (List.mem_append_right _ (List.mem_of_getElem? (i := 3) rfl))))), List.forall_mem_cons.mpr ⟨List.mem_cons_of_mem _ (List.mem_append_left _ (List.mem_append_left _ (List.mem_append_left _ (List.mem_append_right _ (List.mem_of_getElem? (i := 4) rfl))))), List.forall_mem_cons.mpr ⟨List.mem_cons_of_mem _ (List.mem_append_left _ (List.mem_append_left _ (List.mem_append_left _ (List.mem_append_right _ (List.mem_of_getElem? (i := 5) rfl))))), List.forall_mem_cons.mpr ⟨List.mem_cons_of_mem _ (List.mem_append_left _ (List.mem_append_left _ (List.mem_append_left _ (List.mem_append_right _ (List.mem_of_getElem? (i := 6) rfl))))), List.forall_mem_cons.mpr ⟨List.mem_cons_of_mem _ (List.mem_append_left _ (List.mem_append_left _ (List.mem_append_left _ (List.mem_append_right _ (List.mem_of_getElem? (i := 7) rfl))))), List.forall_mem_cons.mpr ⟨List.mem_cons_of_mem _ (List.mem_append_left _ (List.mem_append_left _ (List.mem_append_left _ (List.mem_append_right _ (List.mem_of_getElem? (i := 8) rfl))))), List.forall_mem_cons.mpr ⟨List.mem_cons_of_mem _ (List.mem_append_left _ (List.mem_append_left _ (List.mem_append_left _ (List.mem_append_right _ (List.mem_of_getElem? (i := 9) rfl))))), List.forall_mem_cons.mpr ⟨List.mem_cons_of_mem _ (List.mem_append_left _ (List.mem_append_left _ (List.mem_append_left _ (List.mem_append_right _ (List.mem_of_getElem? (i := 10) rfl))))), List.forall_mem_cons.mpr ⟨List.mem_cons_of_mem _ (List.mem_append_left _ (List.mem_append_left _ (List.mem_append_left _ (List.mem_append_right _ (List.mem_of_getElem? (i := 11) rfl))))), List.forall_mem_cons.mpr ⟨List.mem_cons_of_mem _ (List.mem_append_left _ (List.mem_append_left _ (List.mem_append_left _ (List.mem_append_right _ (List.mem_of_getElem? (i := 12) rfl))))), List.forall_mem_cons.mpr ⟨List.mem_cons_of_mem _ (List.mem_append_left _ (List.mem_append_left _ (List.mem_append_left _ (List.mem_append_right _ (List.mem_of_getElem? (i := 13) rfl))))), (fun _ h => absurd h List.not_mem_nil)⟩⟩⟩⟩⟩⟩⟩⟩⟩⟩⟩⟩⟩, (fun _ h => List.mem_cons_of_mem _ (List.mem_append_left _ (List.mem_append_left _ (List.mem_append_right _ h))))⟩, (fun _ h => List.mem_cons_of_mem _ (List.mem_append_right _ h))⟩⟩⟩) (by decide +kernel)
set_option maxHeartbeats 4000000 in
set_option maxRecDepth 100000 in
theorem x_X5_drawSaid_e (l : Launch) (D : va_G) (sz : Nat) (sk : Value) (a : Nat → Nat) (t : Nat → ClassId) (i : Nat → Int32) (q : Int64) (c : Nat → Nat → Int32) (d : Nat → Nat → Int64) (hI : xInv i c) (hs_W : WpD (c 131) (c 129) (c 130) (c 133) (c 134)) : Met l yX5_drawSaid wm_X5_drawSaid_e ({ frames := 2, cells := 0, slots := 0, locals := 44 }) (va_Pc [.ref (a 128)] (yB (a 186) D sz (xwT sk a t i q c d) (xtT t))) (va_Qv (fun (u : MS) => True ∧ xInv u.1 u.2.2.1 ∧ (∀ k, k ∉ ([] : List Nat) → u.1 k = i k) ∧ (∀ k, k ∉ ([129, 130, 131, 133, 134] : List Nat) → u.2.2.1 k = c k) ∧ (D1 (zX (c 106) (c 108) (i 111).toInt) (c 113) (c 114) (c 115) (c 116) (c 117) (i 124).toInt.toNat (u.2.2.1 131) (u.2.2.1 129) (u.2.2.1 130) (u.2.2.1 133) (u.2.2.1 134))) (oC D (va_A (xwT sk a t i q c d) sz) (fun u : MS => xwT sk a t u.1 u.2.1 u.2.2.1 u.2.2.2) (fun _ => [])) (va_A (xwT sk a t i q c d) sz)) 0 0 (va_A (xwT sk a t i q c d) sz) := by
  refine Met.ofW (cc := cX5_drawSaid) (maxL := 3) (ret := none) (by decide +kernel) rfl ?_
  intro p e s m args below meth cd s₁ B hml hv
  obtain ⟨rfl, ⟨hsz, hP, hK, hD0⟩, hN, hZ, hBW⟩ := hv
  have hx := B.exec
  have hb := B.bytes
  have hr := B.returns
  have hts := atoms_spec (ws := wm_X5_drawSaid_e) B.pre
  have hown : s.vm.findClass RX5 = some m.cls := findClass_of_methodNamed B.named
  have hlocks := B.notSynchronized
  subst hsz
  have hD := hD0.self (sz := s.heap.size)
  have hZ := xZ_A hZ hP hBW
  generalize hAe : va_A (xwT sk a t i q c d) s.heap.size = A at hD hZ ⊢
  have hA : ∀ q : Nat, s.heap.size ≤ q → A q := fun q h => by rw [← hAe]; exact Or.inr h
  have hS : va_S A s.heap s.heap [] := va_S.rf
  have hfi : ∀ k, k ∉ ([] : List Nat) → i k = i k := fun _ _ => rfl
  have hfc : ∀ k, k ∉ ([] : List Nat) → c k = c k := fun _ _ => rfl
  have hl := lv_entry ([.ref (a 128)]) (n := 3) (Nat.le_of_ble_eq_true rfl)
  rw [lg_entry_eq]
  generalize (lg_sl ([.ref (a 128)]) ++ List.replicate (3 - (lg_sl ([.ref (a 128)])).length) Slot.unset).toArray = ls at hl ⊢
  have hl : lv_has ls 3 [(0, .ref (a 128))] := hl
  have hI0 := hI
  have rb124_i : 0 ≤ (i 124).toInt ∧ (i 124).toInt ≤ 200 := hI.1 124
  refine lv_iconst (v := 0) hx hb dX5_drawSaid_0 (by decide +kernel) ?_
  refine lv_istore_n (lv' := [(1, .int 0), (0, .ref (a 128))]) hx hb dX5_drawSaid_1 rfl hl (by decide +kernel) rfl (fun ls hl => ?_)
  have lp1 : ∀ (fu : Nat) (i1 : Nat → Int32) (q1 : Int64) (c1 : Nat → Nat → Int32) (d1 : Nat → Nat → Int64) (y1_1 : Int32), xInv i1 c1 → (∀ k, k ∉ ([] : List Nat) → i1 k = i k) → (∀ k, k ∉ ([129, 130, 131, 133, 134] : List Nat) → c1 k = c k) → (0 ≤ y1_1.toInt ∧ y1_1.toInt ≤ 200 ∧ y1_1.toInt ≤ (i 124).toInt) → (D1 (zX (c 106) (c 108) (i 111).toInt) (c 113) (c 114) (c 115) (c 116) (c 117) y1_1.toInt.toNat (c1 131) (c1 129) (c1 130) (c1 133) (c1 134)) → (200 - y1_1.toInt).toNat < fu → ∀ (H : Heap) (locs : List Loc) (ls : Array Slot), va_P D vwCl (xwT sk a t i1 q1 c1 d1) H → va_D A (xwT sk a t i1 q1 c1 d1) → va_S A s.heap H locs → lv_has ls 3 [(1, .int y1_1), (0, .ref (a 128))] → W p l e (headSpec wm_X5_drawSaid_e ({ frames := 2, cells := 0, slots := 0, locals := 44 })).room s m ([.ref (a 128)] : List Value).toArray below meth cd H locs 0 0 (MQ below (va_Qv (fun (u : MS) => True ∧ xInv u.1 u.2.2.1 ∧ (∀ k, k ∉ ([] : List Nat) → u.1 k = i k) ∧ (∀ k, k ∉ ([129, 130, 131, 133, 134] : List Nat) → u.2.2.1 k = c k) ∧ (D1 (zX (c 106) (c 108) (i 111).toInt) (c 113) (c 114) (c 115) (c 116) (c 117) (i 124).toInt.toNat (u.2.2.1 131) (u.2.2.1 129) (u.2.2.1 130) (u.2.2.1 133) (u.2.2.1 134))) (oC D A (fun u : MS => xwT sk a t u.1 u.2.1 u.2.2.1 u.2.2.2) (fun _ => [])) A) ([.ref (a 128)] : List Value).toArray s 0 0 A) (F0 m 2 ls []) := by
    intro fu
    induction fu with
    | zero => intro i1 q1 c1 d1 y1_1 hI hfi hfc hy1_1 hz1_0 hm; exact absurd hm (Nat.not_lt_zero _)
    | succ fu ih =>
      intro i1 q1 c1 d1 y1_1 hI hfi hfc hy1_1 hz1_0 hm H locs ls hP hD hS hl
      have ih1 := ih
      refine lv_iload_n hx hb dX5_drawSaid_2 rfl (lv_at hl 0 rfl) ?_
      refine lv_aload_n hx hb dX5_drawSaid_3 rfl (lv_at hl 1 rfl) ?_
      refine xgT_R_book hx hb hts (fun _ h => List.mem_cons_of_mem _ (List.mem_append_left _ (List.mem_append_left _ (List.mem_append_right _ h)))) hown hK hP (hts (.fieldLink RX5 43 "TalePlay$Roads" "book" "LTalePlay$Book;") (List.mem_cons_of_mem _ (List.mem_append_left _ (List.mem_append_left _ (List.mem_append_left _ (List.mem_append_left _ (List.mem_of_getElem? (i := 0) rfl))))))) dX5_drawSaid_4 ?_
      refine xgT_B_total (v := (i1 124)) rfl hx hb hts (fun _ h => List.mem_cons_of_mem _ (List.mem_append_left _ (List.mem_append_right _ h))) hown hK hP (hts (.fieldLink RX5 74 "TalePlay$Book" "total" "I") (List.mem_cons_of_mem _ (List.mem_append_left _ (List.mem_append_left _ (List.mem_append_left _ (List.mem_append_left _ (List.mem_of_getElem? (i := 1) rfl))))))) dX5_drawSaid_7 ?_
      have rb124_i1 : 0 ≤ (i1 124).toInt ∧ (i1 124).toInt ≤ 200 := hI.1 124
      have re124_i1 : (i1 124).toInt = (i 124).toInt := congrArg Int32.toInt (hfi 124 (by decide +kernel))
      refine lv_icmp_ge (tgt := 80) hx hb dX5_drawSaid_10 (by decide +kernel) (fun c2 => ?_) (fun c2 => ?_)
      · have f2 := (ti_le (a := (i1 124).toInt) (b := y1_1.toInt) rfl rfl).mp c2
        exact rw_vret (i1, q1, c1, d1) hx hb hr hlocks hS (hK.sub (tys' := []) [] rfl) hP hD dX5_drawSaid_80 ⟨trivial, hI, fr_w hfi (by decide +kernel), fr_w hfc (by decide +kernel), (show D1 (zX (c 106) (c 108) (i 111).toInt) (c 113) (c 114) (c 115) (c 116) (c 117) (i 124).toInt.toNat (c1 131) (c1 129) (c1 130) (c1 133) (c1 134) from by rw [show (i 124).toInt = y1_1.toInt by omega]; exact hz1_0)⟩
      · have f2 := mt (ti_le (a := (i1 124).toInt) (b := y1_1.toInt) rfl rfl).mpr c2
        refine lv_aload_n hx hb dX5_drawSaid_13 rfl (lv_at hl 1 rfl) ?_
        refine lv_iload_n hx hb dX5_drawSaid_14 rfl (lv_at hl 0 rfl) ?_
        refine ro_calli (va_runV (As := [.int y1_1]) (rest := []) ⟨hx, hb, hml, hown, hts⟩ (x_X5_isDrawn_e l D H.size .null a t i1 q1 c1 d1 y1_1 hI (show 0 ≤ y1_1.toInt ∧ y1_1.toInt ≤ 199 from by omega)) (cwV 1 hts gm_X5_drawSaid_e_X5_isDrawn_e_78 rfl rfl rfl (by decide +kernel) ⟨Nat.le_of_ble_eq_true rfl, Nat.le_of_ble_eq_true rfl⟩) (yA_V hN (xZ_k hZ hS hA) (xkT_B hK) (xuT_B (sk := sk) hP) (ci := 5) (q0 := 19) rfl rfl) rfl rfl hl.1 rfl (lv_room (Nat.le_of_ble_eq_true rfl)) dX5_drawSaid_15 ⟨Nat.le_of_ble_eq_true rfl, Nat.le_of_ble_eq_true rfl⟩) hS hA hP (fun r3 u3 H locs hw3 hP hS => ?_)
        have hw3 : ((0 ≤ r3.toInt ∧ r3.toInt ≤ 1) ∧ ((r3.toInt = 1 ∧ (c1 117 y1_1.toNatClampNeg).toInt = 1 ∧ (c1 113 y1_1.toNatClampNeg).toInt = 5) ∨ (r3.toInt = 0 ∧ ¬ ((c1 117 y1_1.toNatClampNeg).toInt = 1 ∧ (c1 113 y1_1.toNatClampNeg).toInt = 5)))) := hw3
        obtain ⟨hw3, hr3_0⟩ := hw3
        have hr3_0 : (r3.toInt = 1 ∧ (c 117 y1_1.toNatClampNeg).toInt = 1 ∧ (c 113 y1_1.toNatClampNeg).toInt = 5) ∨ (r3.toInt = 0 ∧ ¬ ((c 117 y1_1.toNatClampNeg).toInt = 1 ∧ (c 113 y1_1.toNatClampNeg).toInt = 5)) := by have h9 := hr3_0; rw [show c1 113 = c 113 from hfc 113 (by decide +kernel), show c1 117 = c 117 from hfc 117 (by decide +kernel)] at h9; exact h9
        refine lv_if_eq (tgt := 74) hx hb dX5_drawSaid_18 (by decide +kernel) (fun c4 => ?_) (fun c4 => ?_)
        · have f4 := (ti_eq (a := r3.toInt) (b := 0) rfl (by decide +kernel)).mp c4
          obtain ⟨x5, ex5⟩ : ∃ y : Int32, y = y1_1 + 1 := ⟨_, rfl⟩
          have tx5 := ti_add (a := y1_1.toInt) (b := 1) ex5 rfl (by decide +kernel) (by omega) (by omega)
          refine lv_iinc (v := x5) (lv' := [(1, .int x5), (0, .ref (a 128))]) hx hb dX5_drawSaid_74 hl (k := 0) rfl (by rw [ex5]; rfl) (by decide +kernel) rfl (fun ls hl => ?_)
          refine lv_goto (tgt := 2) hx hb dX5_drawSaid_77 (by decide +kernel) ?_
          exact ih1 i1 q1 c1 d1 x5 hI (fr_w hfi (by decide +kernel)) (fr_w hfc (by decide +kernel)) (show 0 ≤ x5.toInt ∧ x5.toInt ≤ 200 ∧ x5.toInt ≤ (i 124).toInt from by have h50 : x5.toInt = (y1_1.toInt + 1) := tx5; omega) (show D1 (zX (c 106) (c 108) (i 111).toInt) (c 113) (c 114) (c 115) (c 116) (c 117) x5.toInt.toNat (c1 131) (c1 129) (c1 130) (c1 133) (c1 134) from D1_n hz1_0 (by omega) (by omega) tx5) (by have h50 : x5.toInt = (y1_1.toInt + 1) := tx5; omega) _ _ _ hP hD hS (lv_sub hl [0, 1] rfl)
        · have f4 := mt (ti_eq (a := r3.toInt) (b := 0) rfl (by decide +kernel)).mpr c4
          refine lv_aload_n hx hb dX5_drawSaid_21 rfl (lv_at hl 1 rfl) ?_
          refine xgT_R_book hx hb hts (fun _ h => List.mem_cons_of_mem _ (List.mem_append_left _ (List.mem_append_left _ (List.mem_append_right _ h)))) hown hK hP (hts (.fieldLink RX5 43 "TalePlay$Roads" "book" "LTalePlay$Book;") (List.mem_cons_of_mem _ (List.mem_append_left _ (List.mem_append_left _ (List.mem_append_left _ (List.mem_append_left _ (List.mem_of_getElem? (i := 0) rfl))))))) dX5_drawSaid_22 ?_
          refine xgT_B_as hx hb hts (fun _ h => List.mem_cons_of_mem _ (List.mem_append_left _ (List.mem_append_right _ h))) hown hK hP (hts (.fieldLink RX5 82 "TalePlay$Book" "as" "[I") (List.mem_cons_of_mem _ (List.mem_append_left _ (List.mem_append_left _ (List.mem_append_left _ (List.mem_append_left _ (List.mem_of_getElem? (i := 9) rfl))))))) dX5_drawSaid_25 ?_
          refine lv_iload_n hx hb dX5_drawSaid_28 rfl (lv_at hl 0 rfl) ?_
          refine xlT_114 hx hb hK hP (vp_in_iff.mpr (by have h9 : y1_1.toInt = y1_1.toInt := rfl; omega)) dX5_drawSaid_29 (fun x6 ex6 => ?_)
          have rx6 : 0 ≤ x6.toInt ∧ x6.toInt ≤ 29 := by rw [ex6]; exact hI.2 114 _
          have gx6 : (c 114 (y1_1 : Int32).toNatClampNeg).toInt = x6.toInt := by rw [show x6 = c1 114 (y1_1 : Int32).toNatClampNeg from ex6, show c1 114 = c 114 from hfc 114 (by decide +kernel)]
          refine lv_bipush (v := 10) hx hb dX5_drawSaid_30 (by decide +kernel) ?_
          refine lv_imul hx hb dX5_drawSaid_32 ?_
          refine lv_topi (fun x7 ex7 => ?_)
          have tx7 := ti_mul (a := x6.toInt) (b := 10) ex7 rfl (by decide +kernel) (by omega) (by omega)
          refine lv_aload_n hx hb dX5_drawSaid_33 rfl (lv_at hl 1 rfl) ?_
          refine xgT_R_book hx hb hts (fun _ h => List.mem_cons_of_mem _ (List.mem_append_left _ (List.mem_append_left _ (List.mem_append_right _ h)))) hown hK hP (hts (.fieldLink RX5 43 "TalePlay$Roads" "book" "LTalePlay$Book;") (List.mem_cons_of_mem _ (List.mem_append_left _ (List.mem_append_left _ (List.mem_append_left _ (List.mem_append_left _ (List.mem_of_getElem? (i := 0) rfl))))))) dX5_drawSaid_34 ?_
          refine xgT_B_cs hx hb hts (fun _ h => List.mem_cons_of_mem _ (List.mem_append_left _ (List.mem_append_right _ h))) hown hK hP (hts (.fieldLink RX5 85 "TalePlay$Book" "cs" "[I") (List.mem_cons_of_mem _ (List.mem_append_left _ (List.mem_append_left _ (List.mem_append_left _ (List.mem_append_left _ (List.mem_of_getElem? (i := 10) rfl))))))) dX5_drawSaid_37 ?_
          refine lv_iload_n hx hb dX5_drawSaid_40 rfl (lv_at hl 0 rfl) ?_
          refine xlT_116 hx hb hK hP (vp_in_iff.mpr (by have h9 : y1_1.toInt = y1_1.toInt := rfl; omega)) dX5_drawSaid_41 (fun x8 ex8 => ?_)
          have rx8 : 0 ≤ x8.toInt ∧ x8.toInt ≤ 9 := by rw [ex8]; exact hI.2 116 _
          have gx8 : (c 116 (y1_1 : Int32).toNatClampNeg).toInt = x8.toInt := by rw [show x8 = c1 116 (y1_1 : Int32).toNatClampNeg from ex8, show c1 116 = c 116 from hfc 116 (by decide +kernel)]
          refine lv_iadd hx hb dX5_drawSaid_42 ?_
          refine lv_topi (fun x9 ex9 => ?_)
          have tx9 := ti_add (a := (x6.toInt * 10)) (b := x8.toInt) ex9 tx7 rfl (by omega) (by omega)
          refine lv_istore_n (lv' := [(2, .int x9), (1, .int y1_1), (0, .ref (a 128))]) hx hb dX5_drawSaid_43 rfl hl (by decide +kernel) rfl (fun ls hl => ?_)
          refine lv_aload_n hx hb dX5_drawSaid_44 rfl (lv_at hl 2 rfl) ?_
          refine xgT_R_bys hx hb hts (fun _ h => List.mem_cons_of_mem _ (List.mem_append_left _ (List.mem_append_left _ (List.mem_append_right _ h)))) hown hK hP (hts (.fieldLink RX5 18 "TalePlay$Roads" "bys" "[I") (List.mem_cons_of_mem _ (List.mem_append_left _ (List.mem_append_left _ (List.mem_append_left _ (List.mem_append_left _ (List.mem_of_getElem? (i := 11) rfl))))))) dX5_drawSaid_45 ?_
          refine lv_iload_n hx hb dX5_drawSaid_48 rfl (lv_at hl 0 rfl) ?_
          refine lv_iload_n hx hb dX5_drawSaid_49 rfl (lv_at hl 1 rfl) ?_
          refine xsT_131 hx hb hK hP hD hS (vp_in_iff.mpr (by have h9 : x9.toInt = ((x6.toInt * 10) + x8.toInt) := tx9; omega)) dX5_drawSaid_50 (fun H locs hP hD hS => ?_)
          have hI := xInv_c hI (k := 131) (j := (x9 : Int32).toNatClampNeg) (x := y1_1) (show (y1_1 : Int32).toInt = -9 ∨ (0 ≤ (y1_1 : Int32).toInt ∧ (y1_1 : Int32).toInt ≤ 199) from by omega)
          have hfc := fr_c hfc (k := 131) (j := (x9 : Int32).toNatClampNeg) (x := y1_1) (by decide +kernel)
          refine lv_aload_n hx hb dX5_drawSaid_51 rfl (lv_at hl 2 rfl) ?_
          refine lv_iload_n hx hb dX5_drawSaid_52 rfl (lv_at hl 0 rfl) ?_
          refine lv_aload_n hx hb dX5_drawSaid_53 rfl (lv_at hl 2 rfl) ?_
          refine xgT_R_book hx hb hts (fun _ h => List.mem_cons_of_mem _ (List.mem_append_left _ (List.mem_append_left _ (List.mem_append_right _ h)))) hown hK hP (hts (.fieldLink RX5 43 "TalePlay$Roads" "book" "LTalePlay$Book;") (List.mem_cons_of_mem _ (List.mem_append_left _ (List.mem_append_left _ (List.mem_append_left _ (List.mem_append_left _ (List.mem_of_getElem? (i := 0) rfl))))))) dX5_drawSaid_54 ?_
          refine xgT_B_as hx hb hts (fun _ h => List.mem_cons_of_mem _ (List.mem_append_left _ (List.mem_append_right _ h))) hown hK hP (hts (.fieldLink RX5 82 "TalePlay$Book" "as" "[I") (List.mem_cons_of_mem _ (List.mem_append_left _ (List.mem_append_left _ (List.mem_append_left _ (List.mem_append_left _ (List.mem_of_getElem? (i := 9) rfl))))))) dX5_drawSaid_57 ?_
          refine lv_iload_n hx hb dX5_drawSaid_60 rfl (lv_at hl 1 rfl) ?_
          refine xlT_114 hx hb hK hP (vp_in_iff.mpr (by have h9 : y1_1.toInt = y1_1.toInt := rfl; omega)) dX5_drawSaid_61 (fun x10 ex10 => ?_)
          have rx10 : 0 ≤ x10.toInt ∧ x10.toInt ≤ 29 := by rw [ex10]; exact hI.2 114 _
          have gx10 : (c 114 (y1_1 : Int32).toNatClampNeg).toInt = x10.toInt := by rw [show x10 = (updA c1 131 (x9 : Int32).toNatClampNeg y1_1) 114 (y1_1 : Int32).toNatClampNeg from ex10, show (updA c1 131 (x9 : Int32).toNatClampNeg y1_1) 114 = c 114 from hfc 114 (by decide +kernel)]
          refine lv_aload_n hx hb dX5_drawSaid_62 rfl (lv_at hl 2 rfl) ?_
          refine xgT_R_book hx hb hts (fun _ h => List.mem_cons_of_mem _ (List.mem_append_left _ (List.mem_append_left _ (List.mem_append_right _ h)))) hown hK hP (hts (.fieldLink RX5 43 "TalePlay$Roads" "book" "LTalePlay$Book;") (List.mem_cons_of_mem _ (List.mem_append_left _ (List.mem_append_left _ (List.mem_append_left _ (List.mem_append_left _ (List.mem_of_getElem? (i := 0) rfl))))))) dX5_drawSaid_63 ?_
          refine xgT_B_bs hx hb hts (fun _ h => List.mem_cons_of_mem _ (List.mem_append_left _ (List.mem_append_right _ h))) hown hK hP (hts (.fieldLink RX5 88 "TalePlay$Book" "bs" "[I") (List.mem_cons_of_mem _ (List.mem_append_left _ (List.mem_append_left _ (List.mem_append_left _ (List.mem_append_left _ (List.mem_of_getElem? (i := 12) rfl))))))) dX5_drawSaid_66 ?_
          refine lv_iload_n hx hb dX5_drawSaid_69 rfl (lv_at hl 1 rfl) ?_
          refine xlT_115 hx hb hK hP (vp_in_iff.mpr (by have h9 : y1_1.toInt = y1_1.toInt := rfl; omega)) dX5_drawSaid_70 (fun x11 ex11 => ?_)
          have rx11 : 0 ≤ x11.toInt ∧ x11.toInt ≤ 29 := by rw [ex11]; exact hI.2 115 _
          have gx11 : (c 115 (y1_1 : Int32).toNatClampNeg).toInt = x11.toInt := by rw [show x11 = (updA c1 131 (x9 : Int32).toNatClampNeg y1_1) 115 (y1_1 : Int32).toNatClampNeg from ex11, show (updA c1 131 (x9 : Int32).toNatClampNeg y1_1) 115 = c 115 from hfc 115 (by decide +kernel)]
          have rb111_i1 : 0 ≤ (i1 111).toInt ∧ (i1 111).toInt ≤ 30 := hI.1 111
          have re111_i1 : (i1 111).toInt = (i 111).toInt := congrArg Int32.toInt (hfi 111 (by decide +kernel))
          refine al_callv (va_runV (As := [.int x9, .int x10, .int x11]) (rest := []) ⟨hx, hb, hml, hown, hts⟩ (x_X5_drawTarget_e l D H.size sk a t i1 q1 (updA c1 131 (x9 : Int32).toNatClampNeg y1_1) d1 x9 x10 x11 hI (show 0 ≤ x9.toInt ∧ x9.toInt ≤ 299 from by have h90 : x9.toInt = ((x6.toInt * 10) + x8.toInt) := tx9; omega) (show 0 ≤ x10.toInt ∧ x10.toInt ≤ 29 from by have h90 : x9.toInt = ((x6.toInt * 10) + x8.toInt) := tx9; omega) (show 0 ≤ x11.toInt ∧ x11.toInt ≤ 29 from by have h90 : x9.toInt = ((x6.toInt * 10) + x8.toInt) := tx9; omega)) (cwV 3 hts gm_X5_drawSaid_e_X5_drawTarget_e_91 rfl rfl rfl (by decide +kernel) ⟨Nat.le_of_ble_eq_true rfl, Nat.le_of_ble_eq_true rfl⟩) (yB_V hN (xZ_k hZ hS hA) (xZ_n hZ hD) hK hP hD (ci := 5) (q0 := 21) rfl rfl) rfl rfl hl.1 rfl (lv_room (Nat.le_of_ble_eq_true rfl)) dX5_drawSaid_71 ⟨Nat.le_of_ble_eq_true rfl, Nat.le_of_ble_eq_true rfl⟩) hS hA hP hD (fun u12 H locs hw12 hP hD hS => ?_)
          obtain ⟨i12, q12, c12, d12⟩ := u12
          have hw12 : True ∧ xInv i12 c12 ∧ (∀ k, k ∉ ([] : List Nat) → i12 k = i1 k) ∧ (∀ k, k ∉ ([129, 130, 133, 134] : List Nat) → c12 k = (updA c1 131 (x9 : Int32).toNatClampNeg y1_1) k) ∧ (TgR (zX ((updA c1 131 (x9 : Int32).toNatClampNeg y1_1) 106) ((updA c1 131 (x9 : Int32).toNatClampNeg y1_1) 108) (i1 111).toInt) ((updA c1 131 (x9 : Int32).toNatClampNeg y1_1) 129) ((updA c1 131 (x9 : Int32).toNatClampNeg y1_1) 130) ((updA c1 131 (x9 : Int32).toNatClampNeg y1_1) 133) ((updA c1 131 (x9 : Int32).toNatClampNeg y1_1) 134) (c12 129) (c12 130) (c12 133) (c12 134) x9 x10 x11) := hw12
          obtain ⟨hw12, hI, hei12, hec12, hxp12_0⟩ := hw12
          have hxp12_0 : TgR (zX (c 106) (c 108) (i 111).toInt) ((updA c1 131 (x9 : Int32).toNatClampNeg y1_1) 129) ((updA c1 131 (x9 : Int32).toNatClampNeg y1_1) 130) ((updA c1 131 (x9 : Int32).toNatClampNeg y1_1) 133) ((updA c1 131 (x9 : Int32).toNatClampNeg y1_1) 134) (c12 129) (c12 130) (c12 133) (c12 134) x9 x10 x11 := by have h9 := hxp12_0; rw [show (updA c1 131 (x9 : Int32).toNatClampNeg y1_1) 106 = c 106 from hfc 106 (by decide +kernel), show (updA c1 131 (x9 : Int32).toNatClampNeg y1_1) 108 = c 108 from hfc 108 (by decide +kernel), show i1 111 = i 111 from hfi 111 (by decide +kernel)] at h9; exact h9
          have hfi : ∀ k, k ∉ ([] : List Nat) → i12 k = i k := fr_z hfi hei12 (by decide +kernel) (by decide +kernel)
          have hfc : ∀ k, k ∉ ([129, 130, 131, 133, 134] : List Nat) → c12 k = c k := fr_z hfc hec12 (by decide +kernel) (by decide +kernel)
          obtain ⟨x13, ex13⟩ : ∃ y : Int32, y = y1_1 + 1 := ⟨_, rfl⟩
          have tx13 := ti_add (a := y1_1.toInt) (b := 1) ex13 rfl (by decide +kernel) (by omega) (by omega)
          refine lv_iinc (v := x13) (lv' := [(1, .int x13), (2, .int x9), (0, .ref (a 128))]) hx hb dX5_drawSaid_74 hl (k := 1) rfl (by rw [ex13]; rfl) (by decide +kernel) rfl (fun ls hl => ?_)
          refine lv_goto (tgt := 2) hx hb dX5_drawSaid_77 (by decide +kernel) ?_
          exact ih1 i12 q12 c12 d12 x13 hI (fr_w hfi (by decide +kernel)) (fr_w hfc (by decide +kernel)) (show 0 ≤ x13.toInt ∧ x13.toInt ≤ 200 ∧ x13.toInt ≤ (i 124).toInt from by have h50 : x13.toInt = (y1_1.toInt + 1) := tx13; have h51 : x9.toInt = ((x6.toInt * 10) + x8.toInt) := tx9; omega) (show D1 (zX (c 106) (c 108) (i 111).toInt) (c 113) (c 114) (c 115) (c 116) (c 117) x13.toInt.toNat (c12 131) (c12 129) (c12 130) (c12 133) (c12 134) from by rw [show c12 131 = upd (c1 131) x9.toNatClampNeg y1_1 from (hec12 131 (by decide +kernel)).trans rfl]; exact D1_g hz1_0 (by omega) (by omega) (by omega) (by omega) (by omega) (Int32.toInt_inj.mp gx10.symm) (Int32.toInt_inj.mp gx11.symm) (by omega) (fun s9 => by have h9 : 0 ≤ (c 114 s9).toInt ∧ (c 114 s9).toInt ≤ 29 := hI0.2 114 s9; exact h9.1) (show TgR (zX (c 106) (c 108) (i 111).toInt) (c1 129) (c1 130) (c1 133) (c1 134) (c12 129) (c12 130) (c12 133) (c12 134) x9 x10 x11 from hxp12_0) tx13) (by have h50 : x13.toInt = (y1_1.toInt + 1) := tx13; have h51 : x9.toInt = ((x6.toInt * 10) + x8.toInt) := tx9; omega) _ _ _ hP hD hS (lv_sub hl [0, 2] rfl)
  exact lp1 _ i q c d (0 : Int32) hI (fr_w hfi (by decide +kernel)) (fr_w hfc (by decide +kernel)) (show 0 ≤ (0 : Int32).toInt ∧ (0 : Int32).toInt ≤ 200 ∧ (0 : Int32).toInt ≤ (i 124).toInt from by have h50 : (0 : Int32).toInt = 0 := (by decide +kernel); omega) (show D1 (zX (c 106) (c 108) (i 111).toInt) (c 113) (c 114) (c 115) (c 116) (c 117) (0 : Int32).toInt.toNat (c 131) (c 129) (c 130) (c 133) (c 134) from D1_0 (by decide +kernel) hs_W) (Nat.lt_succ_self _) _ _ _ hP hD hS (lv_sub hl [0, 1] rfl)

def wm_X5_drawImplied_e : List Cond := .code yX5_drawImplied cX5_drawImplied 3 none :: ((([.fieldLink RX5 43 "TalePlay$Roads" "book" "LTalePlay$Book;", .fieldLink RX5 74 "TalePlay$Book" "total" "I", .methodLink RX5 78 yX5_isDrawn, .instanceMethod yX5_isDrawn, .selects RX5 yX5_isDrawn yX5_isDrawn, .initialized RX5, .code yX5_isDrawn cX5_isDrawn 2 (some .boolean), .fieldLink RX5 65 "TalePlay$Book" "said" "[Z", .fieldLink RX5 71 "TalePlay$Book" "forms" "[I", .fieldLink RX5 39 "TalePlay$Roads" "world" "LTalePlay$World;", .fieldLink RX5 88 "TalePlay$Book" "bs" "[I", .methodLink RX5 95 yX10_sortOf, .instanceMethod yX10_sortOf, .selects RX10 yX10_sortOf yX10_sortOf, .initialized RX10, .code yX10_sortOf cX10_sortOf 2 (some .int)] : List Cond) ++ ([.fieldLink RX10 37 "TalePlay$World" "objects" "I", .fieldLink RX10 15 "TalePlay$World" "sorts" "[I", .fieldLink RX10 21 "TalePlay$World" "kindOf" "[I", .fieldLink RX5 85 "TalePlay$Book" "cs" "[I", .fieldLink RX5 18 "TalePlay$Roads" "bys" "[I", .fieldLink RX5 9 "TalePlay$Roads" "leads" "[I", .fieldLink RX5 82 "TalePlay$Book" "as" "[I", .fieldLink RX5 21 "TalePlay$Roads" "implied" "[I"] : List Cond)) ++ wsX50 ++ wsX10 ++ wsX100)
set_option maxRecDepth 20000 in
theorem gm_X5_drawImplied_e_X5_isDrawn_e_78 : GoodIn wm_X5_drawImplied_e (wsV RX5 78 RX5 yX5_isDrawn wm_X5_isDrawn_e) := goodIn_w (List.forall_mem_append.mpr ⟨List.forall_mem_cons.mpr ⟨List.mem_cons_of_mem _ (List.mem_append_left _ (List.mem_append_left _ (List.mem_append_left _ (List.mem_append_left _ (List.mem_of_getElem? (i := 2) rfl))))), List.forall_mem_cons.mpr ⟨List.mem_cons_of_mem _ (List.mem_append_left _ (List.mem_append_left _ (List.mem_append_left _ (List.mem_append_left _ (List.mem_of_getElem? (i := 3) rfl))))), List.forall_mem_cons.mpr ⟨List.mem_cons_of_mem _ (List.mem_append_left _ (List.mem_append_left _ (List.mem_append_left _ (List.mem_append_left _ (List.mem_of_getElem? (i := 4) rfl))))), List.forall_mem_cons.mpr ⟨List.mem_cons_of_mem _ (List.mem_append_left _ (List.mem_append_left _ (List.mem_append_left _ (List.mem_append_left _ (List.mem_of_getElem? (i := 5) rfl))))), (fun _ h => absurd h List.not_mem_nil)⟩⟩⟩⟩, List.forall_mem_cons.mpr ⟨List.mem_cons_of_mem _ (List.mem_append_left _ (List.mem_append_left _ (List.mem_append_left _ (List.mem_append_left _ (List.mem_of_getElem? (i := 6) rfl))))), List.forall_mem_append.mpr ⟨List.forall_mem_append.mpr ⟨List.forall_mem_cons.mpr ⟨List.mem_cons_of_mem _ (List.mem_append_left _ (List.mem_append_left _ (List.mem_append_left _ (List.mem_append_left _ (List.mem_of_getElem? (i := 0) rfl))))), List.forall_mem_cons.mpr ⟨List.mem_cons_of_mem _ (List.mem_append_left _ (List.mem_append_left _ (List.mem_append_left _ (List.mem_append_left _ (List.mem_of_getElem? (i := 7) rfl))))), List.forall_mem_cons.mpr ⟨List.mem_cons_of_mem _ (List.mem_append_left _ (List.mem_append_left _ (List.mem_append_left _ (List.mem_append_left _ (List.mem_of_getElem? (i := 8) rfl))))), (fun _ h => absurd h List.not_mem_nil)⟩⟩⟩, (fun _ h => List.mem_cons_of_mem _ (List.mem_append_left _ (List.mem_append_left _ (List.mem_append_right _ h))))⟩, (fun _ h => List.mem_cons_of_mem _ (List.mem_append_left _ (List.mem_append_right _ h)))⟩⟩⟩) (by decide +kernel)
set_option maxRecDepth 20000 in
theorem gm_X5_drawImplied_e_X10_sortOf_e_95 : GoodIn wm_X5_drawImplied_e (wsV RX5 95 RX10 yX10_sortOf wm_X10_sortOf_e) := goodIn_w (List.forall_mem_append.mpr ⟨List.forall_mem_cons.mpr ⟨List.mem_cons_of_mem _ (List.mem_append_left _ (List.mem_append_left _ (List.mem_append_left _ (List.mem_append_left _ (List.mem_of_getElem? (i := 11) rfl))))), List.forall_mem_cons.mpr ⟨List.mem_cons_of_mem _ (List.mem_append_left _ (List.mem_append_left _ (List.mem_append_left _ (List.mem_append_left _ (List.mem_of_getElem? (i := 12) rfl))))), List.forall_mem_cons.mpr ⟨List.mem_cons_of_mem _ (List.mem_append_left _ (List.mem_append_left _ (List.mem_append_left _ (List.mem_append_left _ (List.mem_of_getElem? (i := 13) rfl))))), List.forall_mem_cons.mpr ⟨List.mem_cons_of_mem _ (List.mem_append_left _ (List.mem_append_left _ (List.mem_append_left _ (List.mem_append_left _ (List.mem_of_getElem? (i := 14) rfl))))), (fun _ h => absurd h List.not_mem_nil)⟩⟩⟩⟩, List.forall_mem_cons.mpr ⟨List.mem_cons_of_mem _ (List.mem_append_left _ (List.mem_append_left _ (List.mem_append_left _ (List.mem_append_left _ (List.mem_of_getElem? (i := 15) rfl))))), List.forall_mem_append.mpr ⟨List.forall_mem_cons.mpr ⟨List.mem_cons_of_mem _ (List.mem_append_left _ (List.mem_append_left _ (List.mem_append_left _ (List.mem_append_right _ (List.mem_of_getElem? (i := 0) rfl))))), List.forall_mem_cons.mpr ⟨List.mem_cons_of_mem _ (List.mem_append_left _ (List.mem_append_left _ (List.mem_append_left _ (List.mem_append_right _ (List.mem_of_getElem? (i := 1) rfl))))), List.forall_mem_cons.mpr ⟨List.mem_cons_of_mem _ (List.mem_append_left _ (List.mem_append_left _ (List.mem_append_left _ (List.mem_append_right _ (List.mem_of_getElem? (i := 2) rfl))))), (fun _ h => absurd h List.not_mem_nil)⟩⟩⟩, (fun _ h => List.mem_cons_of_mem _ (List.mem_append_right _ h))⟩⟩⟩) (by decide +kernel)
set_option maxHeartbeats 4000000 in
set_option maxRecDepth 100000 in
theorem x_X5_drawImplied_e (l : Launch) (D : va_G) (sz : Nat) (sk : Value) (a : Nat → Nat) (t : Nat → ClassId) (i : Nat → Int32) (q : Int64) (c : Nat → Nat → Int32) (d : Nat → Nat → Int64) (hI : xInv i c) (hs_V : Zr (c 132)) : Met l yX5_drawImplied wm_X5_drawImplied_e ({ frames := 1, cells := 0, slots := 0, locals := 21 }) (va_Pc [.ref (a 128)] (yB (a 186) D sz (xwT sk a t i q c d) (xtT t))) (va_Qv (fun (u : MS) => True ∧ xInv u.1 u.2.2.1 ∧ (∀ k, k ∉ ([] : List Nat) → u.1 k = i k) ∧ (∀ k, k ∉ ([129, 131, 132] : List Nat) → u.2.2.1 k = c k) ∧ (D2 (zX (c 106) (c 108) (i 111).toInt) (c 113) (c 114) (c 115) (c 116) (c 117) (i 124).toInt.toNat (c 131) (c 129) (u.2.2.1 131) (u.2.2.1 129) (u.2.2.1 132))) (oC D (va_A (xwT sk a t i q c d) sz) (fun u : MS => xwT sk a t u.1 u.2.1 u.2.2.1 u.2.2.2) (fun _ => [])) (va_A (xwT sk a t i q c d) sz)) 0 0 (va_A (xwT sk a t i q c d) sz) := by
  refine Met.ofW (cc := cX5_drawImplied) (maxL := 3) (ret := none) (by decide +kernel) rfl ?_
  intro p e s m args below meth cd s₁ B hml hv
  obtain ⟨rfl, ⟨hsz, hP, hK, hD0⟩, hN, hZ, hBW⟩ := hv
  have hx := B.exec
  have hb := B.bytes
  have hr := B.returns
  have hts := atoms_spec (ws := wm_X5_drawImplied_e) B.pre
  have hown : s.vm.findClass RX5 = some m.cls := findClass_of_methodNamed B.named
  have hlocks := B.notSynchronized
  subst hsz
  have hD := hD0.self (sz := s.heap.size)
  have hZ := xZ_A hZ hP hBW
  generalize hAe : va_A (xwT sk a t i q c d) s.heap.size = A at hD hZ ⊢
  have hA : ∀ q : Nat, s.heap.size ≤ q → A q := fun q h => by rw [← hAe]; exact Or.inr h
  have hS : va_S A s.heap s.heap [] := va_S.rf
  have hfi : ∀ k, k ∉ ([] : List Nat) → i k = i k := fun _ _ => rfl
  have hfc : ∀ k, k ∉ ([] : List Nat) → c k = c k := fun _ _ => rfl
  have hl := lv_entry ([.ref (a 128)]) (n := 3) (Nat.le_of_ble_eq_true rfl)
  rw [lg_entry_eq]
  generalize (lg_sl ([.ref (a 128)]) ++ List.replicate (3 - (lg_sl ([.ref (a 128)])).length) Slot.unset).toArray = ls at hl ⊢
  have hl : lv_has ls 3 [(0, .ref (a 128))] := hl
  have hI0 := hI
  have rb124_i : 0 ≤ (i 124).toInt ∧ (i 124).toInt ≤ 200 := hI.1 124
  have rb111_i : 0 ≤ (i 111).toInt ∧ (i 111).toInt ≤ 30 := hI.1 111
  refine lv_iconst (v := 0) hx hb dX5_drawImplied_0 (by decide +kernel) ?_
  refine lv_istore_n (lv' := [(1, .int 0), (0, .ref (a 128))]) hx hb dX5_drawImplied_1 rfl hl (by decide +kernel) rfl (fun ls hl => ?_)
  have lp1 : ∀ (fu : Nat) (i1 : Nat → Int32) (q1 : Int64) (c1 : Nat → Nat → Int32) (d1 : Nat → Nat → Int64) (y1_1 : Int32), xInv i1 c1 → (∀ k, k ∉ ([] : List Nat) → i1 k = i k) → (∀ k, k ∉ ([129, 131, 132] : List Nat) → c1 k = c k) → (0 ≤ y1_1.toInt ∧ y1_1.toInt ≤ 200 ∧ y1_1.toInt ≤ (i 124).toInt) → (D2 (zX (c 106) (c 108) (i 111).toInt) (c 113) (c 114) (c 115) (c 116) (c 117) y1_1.toInt.toNat (c 131) (c 129) (c1 131) (c1 129) (c1 132)) → (200 - y1_1.toInt).toNat < fu → ∀ (H : Heap) (locs : List Loc) (ls : Array Slot), va_P D vwCl (xwT sk a t i1 q1 c1 d1) H → va_D A (xwT sk a t i1 q1 c1 d1) → va_S A s.heap H locs → lv_has ls 3 [(1, .int y1_1), (0, .ref (a 128))] → W p l e (headSpec wm_X5_drawImplied_e ({ frames := 1, cells := 0, slots := 0, locals := 21 })).room s m ([.ref (a 128)] : List Value).toArray below meth cd H locs 0 0 (MQ below (va_Qv (fun (u : MS) => True ∧ xInv u.1 u.2.2.1 ∧ (∀ k, k ∉ ([] : List Nat) → u.1 k = i k) ∧ (∀ k, k ∉ ([129, 131, 132] : List Nat) → u.2.2.1 k = c k) ∧ (D2 (zX (c 106) (c 108) (i 111).toInt) (c 113) (c 114) (c 115) (c 116) (c 117) (i 124).toInt.toNat (c 131) (c 129) (u.2.2.1 131) (u.2.2.1 129) (u.2.2.1 132))) (oC D A (fun u : MS => xwT sk a t u.1 u.2.1 u.2.2.1 u.2.2.2) (fun _ => [])) A) ([.ref (a 128)] : List Value).toArray s 0 0 A) (F0 m 2 ls []) := by
    intro fu
    induction fu with
    | zero => intro i1 q1 c1 d1 y1_1 hI hfi hfc hy1_1 hz1_0 hm; exact absurd hm (Nat.not_lt_zero _)
    | succ fu ih =>
      intro i1 q1 c1 d1 y1_1 hI hfi hfc hy1_1 hz1_0 hm H locs ls hP hD hS hl
      have ih1 := ih
      refine lv_iload_n hx hb dX5_drawImplied_2 rfl (lv_at hl 0 rfl) ?_
      refine lv_aload_n hx hb dX5_drawImplied_3 rfl (lv_at hl 1 rfl) ?_
      refine xgT_R_book hx hb hts (fun _ h => List.mem_cons_of_mem _ (List.mem_append_left _ (List.mem_append_left _ (List.mem_append_right _ h)))) hown hK hP (hts (.fieldLink RX5 43 "TalePlay$Roads" "book" "LTalePlay$Book;") (List.mem_cons_of_mem _ (List.mem_append_left _ (List.mem_append_left _ (List.mem_append_left _ (List.mem_append_left _ (List.mem_of_getElem? (i := 0) rfl))))))) dX5_drawImplied_4 ?_
      refine xgT_B_total (v := (i1 124)) rfl hx hb hts (fun _ h => List.mem_cons_of_mem _ (List.mem_append_left _ (List.mem_append_right _ h))) hown hK hP (hts (.fieldLink RX5 74 "TalePlay$Book" "total" "I") (List.mem_cons_of_mem _ (List.mem_append_left _ (List.mem_append_left _ (List.mem_append_left _ (List.mem_append_left _ (List.mem_of_getElem? (i := 1) rfl))))))) dX5_drawImplied_7 ?_
      have rb124_i1 : 0 ≤ (i1 124).toInt ∧ (i1 124).toInt ≤ 200 := hI.1 124
      have re124_i1 : (i1 124).toInt = (i 124).toInt := congrArg Int32.toInt (hfi 124 (by decide +kernel))
      refine lv_icmp_ge (tgt := 111) hx hb dX5_drawImplied_10 (by decide +kernel) (fun c2 => ?_) (fun c2 => ?_)
      · have f2 := (ti_le (a := (i1 124).toInt) (b := y1_1.toInt) rfl rfl).mp c2
        exact rw_vret (i1, q1, c1, d1) hx hb hr hlocks hS (hK.sub (tys' := []) [] rfl) hP hD dX5_drawImplied_111 ⟨trivial, hI, fr_w hfi (by decide +kernel), fr_w hfc (by decide +kernel), (show D2 (zX (c 106) (c 108) (i 111).toInt) (c 113) (c 114) (c 115) (c 116) (c 117) (i 124).toInt.toNat (c 131) (c 129) (c1 131) (c1 129) (c1 132) from by rw [show (i 124).toInt = y1_1.toInt by omega]; exact hz1_0)⟩
      · have f2 := mt (ti_le (a := (i1 124).toInt) (b := y1_1.toInt) rfl rfl).mpr c2
        refine lv_aload_n hx hb dX5_drawImplied_13 rfl (lv_at hl 1 rfl) ?_
        refine lv_iload_n hx hb dX5_drawImplied_14 rfl (lv_at hl 0 rfl) ?_
        refine ro_calli (va_runV (As := [.int y1_1]) (rest := []) ⟨hx, hb, hml, hown, hts⟩ (x_X5_isDrawn_e l D H.size .null a t i1 q1 c1 d1 y1_1 hI (show 0 ≤ y1_1.toInt ∧ y1_1.toInt ≤ 199 from by omega)) (cwV 1 hts gm_X5_drawImplied_e_X5_isDrawn_e_78 rfl rfl rfl (by decide +kernel) ⟨Nat.le_of_ble_eq_true rfl, Nat.le_of_ble_eq_true rfl⟩) (yA_V hN (xZ_k hZ hS hA) (xkT_B hK) (xuT_B (sk := sk) hP) (ci := 5) (q0 := 19) rfl rfl) rfl rfl hl.1 rfl (lv_room (Nat.le_of_ble_eq_true rfl)) dX5_drawImplied_15 ⟨Nat.le_of_ble_eq_true rfl, Nat.le_of_ble_eq_true rfl⟩) hS hA hP (fun r3 u3 H locs hw3 hP hS => ?_)
        have hw3 : ((0 ≤ r3.toInt ∧ r3.toInt ≤ 1) ∧ ((r3.toInt = 1 ∧ (c1 117 y1_1.toNatClampNeg).toInt = 1 ∧ (c1 113 y1_1.toNatClampNeg).toInt = 5) ∨ (r3.toInt = 0 ∧ ¬ ((c1 117 y1_1.toNatClampNeg).toInt = 1 ∧ (c1 113 y1_1.toNatClampNeg).toInt = 5)))) := hw3
        obtain ⟨hw3, hr3_0⟩ := hw3
        have hr3_0 : (r3.toInt = 1 ∧ (c 117 y1_1.toNatClampNeg).toInt = 1 ∧ (c 113 y1_1.toNatClampNeg).toInt = 5) ∨ (r3.toInt = 0 ∧ ¬ ((c 117 y1_1.toNatClampNeg).toInt = 1 ∧ (c 113 y1_1.toNatClampNeg).toInt = 5)) := by have h9 := hr3_0; rw [show c1 113 = c 113 from hfc 113 (by decide +kernel), show c1 117 = c 117 from hfc 117 (by decide +kernel)] at h9; exact h9
        refine lv_if_eq (tgt := 105) hx hb dX5_drawImplied_18 (by decide +kernel) (fun c4 => ?_) (fun c4 => ?_)
        · have f4 := (ti_eq (a := r3.toInt) (b := 0) rfl (by decide +kernel)).mp c4
          obtain ⟨x5, ex5⟩ : ∃ y : Int32, y = y1_1 + 1 := ⟨_, rfl⟩
          have tx5 := ti_add (a := y1_1.toInt) (b := 1) ex5 rfl (by decide +kernel) (by omega) (by omega)
          refine lv_iinc (v := x5) (lv' := [(1, .int x5), (0, .ref (a 128))]) hx hb dX5_drawImplied_105 hl (k := 0) rfl (by rw [ex5]; rfl) (by decide +kernel) rfl (fun ls hl => ?_)
          refine lv_goto (tgt := 2) hx hb dX5_drawImplied_108 (by decide +kernel) ?_
          exact ih1 i1 q1 c1 d1 x5 hI (fr_w hfi (by decide +kernel)) (fr_w hfc (by decide +kernel)) (show 0 ≤ x5.toInt ∧ x5.toInt ≤ 200 ∧ x5.toInt ≤ (i 124).toInt from by have h50 : x5.toInt = (y1_1.toInt + 1) := tx5; omega) (show D2 (zX (c 106) (c 108) (i 111).toInt) (c 113) (c 114) (c 115) (c 116) (c 117) x5.toInt.toNat (c 131) (c 129) (c1 131) (c1 129) (c1 132) from D2_n hz1_0 (by omega) (by omega) tx5) (by have h50 : x5.toInt = (y1_1.toInt + 1) := tx5; omega) _ _ _ hP hD hS (lv_sub hl [0, 1] rfl)
        · have f4 := mt (ti_eq (a := r3.toInt) (b := 0) rfl (by decide +kernel)).mpr c4
          refine lv_aload_n hx hb dX5_drawImplied_21 rfl (lv_at hl 1 rfl) ?_
          refine xgT_R_world hx hb hts (fun _ h => List.mem_cons_of_mem _ (List.mem_append_left _ (List.mem_append_left _ (List.mem_append_right _ h)))) hown hK hP (hts (.fieldLink RX5 39 "TalePlay$Roads" "world" "LTalePlay$World;") (List.mem_cons_of_mem _ (List.mem_append_left _ (List.mem_append_left _ (List.mem_append_left _ (List.mem_append_left _ (List.mem_of_getElem? (i := 9) rfl))))))) dX5_drawImplied_22 ?_
          refine lv_aload_n hx hb dX5_drawImplied_25 rfl (lv_at hl 1 rfl) ?_
          refine xgT_R_book hx hb hts (fun _ h => List.mem_cons_of_mem _ (List.mem_append_left _ (List.mem_append_left _ (List.mem_append_right _ h)))) hown hK hP (hts (.fieldLink RX5 43 "TalePlay$Roads" "book" "LTalePlay$Book;") (List.mem_cons_of_mem _ (List.mem_append_left _ (List.mem_append_left _ (List.mem_append_left _ (List.mem_append_left _ (List.mem_of_getElem? (i := 0) rfl))))))) dX5_drawImplied_26 ?_
          refine xgT_B_bs hx hb hts (fun _ h => List.mem_cons_of_mem _ (List.mem_append_left _ (List.mem_append_right _ h))) hown hK hP (hts (.fieldLink RX5 88 "TalePlay$Book" "bs" "[I") (List.mem_cons_of_mem _ (List.mem_append_left _ (List.mem_append_left _ (List.mem_append_left _ (List.mem_append_left _ (List.mem_of_getElem? (i := 10) rfl))))))) dX5_drawImplied_29 ?_
          refine lv_iload_n hx hb dX5_drawImplied_32 rfl (lv_at hl 0 rfl) ?_
          refine xlT_115 hx hb hK hP (vp_in_iff.mpr (by have h9 : y1_1.toInt = y1_1.toInt := rfl; omega)) dX5_drawImplied_33 (fun x6 ex6 => ?_)
          have rx6 : 0 ≤ x6.toInt ∧ x6.toInt ≤ 29 := by rw [ex6]; exact hI.2 115 _
          have gx6 : (c 115 (y1_1 : Int32).toNatClampNeg).toInt = x6.toInt := by rw [show x6 = c1 115 (y1_1 : Int32).toNatClampNeg from ex6, show c1 115 = c 115 from hfc 115 (by decide +kernel)]
          have rb111_i1 : 0 ≤ (i1 111).toInt ∧ (i1 111).toInt ≤ 30 := hI.1 111
          have re111_i1 : (i1 111).toInt = (i 111).toInt := congrArg Int32.toInt (hfi 111 (by decide +kernel))
          refine ro_calli (va_runV (As := [.int x6]) (rest := []) ⟨hx, hb, hml, hown, hts⟩ (x_X10_sortOf_e l D H.size .null a t i1 q1 c1 d1 x6 hI ) (cwV 1 hts gm_X5_drawImplied_e_X10_sortOf_e_95 rfl rfl rfl (by decide +kernel) ⟨Nat.le_of_ble_eq_true rfl, Nat.le_of_ble_eq_true rfl⟩) (yA_V hN (xZ_k hZ hS hA) (xkT_W hK) (xuT_W (sk := sk) hP) (ci := 10) (q0 := 0) rfl rfl) rfl rfl hl.1 rfl (lv_room (Nat.le_of_ble_eq_true rfl)) dX5_drawImplied_34 ⟨Nat.le_of_ble_eq_true rfl, Nat.le_of_ble_eq_true rfl⟩) hS hA hP (fun r7 u7 H locs hw7 hP hS => ?_)
          have hw7 : (((r7.toInt = -9 ∧ ¬ (0 ≤ x6.toInt ∧ x6.toInt < (i1 111).toInt)) ∨ (0 ≤ r7.toInt ∧ r7.toInt ≤ 5 ∧ 0 ≤ x6.toInt ∧ x6.toInt < (i1 111).toInt)) ∧ (SO (c1 106) (c1 108) (i1 111).toInt x6.toInt r7.toInt)) := hw7
          obtain ⟨hw7, hr7_0⟩ := hw7
          have hr7_0 : SO (c 106) (c 108) (i 111).toInt x6.toInt r7.toInt := by have h9 := hr7_0; rw [show c1 106 = c 106 from hfc 106 (by decide +kernel), show c1 108 = c 108 from hfc 108 (by decide +kernel), show i1 111 = i 111 from hfi 111 (by decide +kernel)] at h9; exact h9
          have hzv : r7.toInt = (zX (c 106) (c 108) (i 111).toInt) (c 115 y1_1.toNatClampNeg).toInt := by rw [gx6]; exact SO_z hr7_0
          refine lv_if_ne (tgt := 105) hx hb dX5_drawImplied_37 (by decide +kernel) (fun c8 => ?_) (fun c8 => ?_)
          · have f8 := mt (ti_eq (a := r7.toInt) (b := 0) rfl (by decide +kernel)).mpr c8
            obtain ⟨x9, ex9⟩ : ∃ y : Int32, y = y1_1 + 1 := ⟨_, rfl⟩
            have tx9 := ti_add (a := y1_1.toInt) (b := 1) ex9 rfl (by decide +kernel) (by omega) (by omega)
            refine lv_iinc (v := x9) (lv' := [(1, .int x9), (0, .ref (a 128))]) hx hb dX5_drawImplied_105 hl (k := 0) rfl (by rw [ex9]; rfl) (by decide +kernel) rfl (fun ls hl => ?_)
            refine lv_goto (tgt := 2) hx hb dX5_drawImplied_108 (by decide +kernel) ?_
            exact ih1 i1 q1 c1 d1 x9 hI (fr_w hfi (by decide +kernel)) (fr_w hfc (by decide +kernel)) (show 0 ≤ x9.toInt ∧ x9.toInt ≤ 200 ∧ x9.toInt ≤ (i 124).toInt from by have h50 : x9.toInt = (y1_1.toInt + 1) := tx9; omega) (show D2 (zX (c 106) (c 108) (i 111).toInt) (c 113) (c 114) (c 115) (c 116) (c 117) x9.toInt.toNat (c 131) (c 129) (c1 131) (c1 129) (c1 132) from D2_n hz1_0 (by omega) (by omega) tx9) (by have h50 : x9.toInt = (y1_1.toInt + 1) := tx9; omega) _ _ _ hP hD hS (lv_sub hl [0, 1] rfl)
          · have f8 := (ti_eq (a := r7.toInt) (b := 0) rfl (by decide +kernel)).mp c8
            refine lv_aload_n hx hb dX5_drawImplied_40 rfl (lv_at hl 1 rfl) ?_
            refine xgT_R_book hx hb hts (fun _ h => List.mem_cons_of_mem _ (List.mem_append_left _ (List.mem_append_left _ (List.mem_append_right _ h)))) hown hK hP (hts (.fieldLink RX5 43 "TalePlay$Roads" "book" "LTalePlay$Book;") (List.mem_cons_of_mem _ (List.mem_append_left _ (List.mem_append_left _ (List.mem_append_left _ (List.mem_append_left _ (List.mem_of_getElem? (i := 0) rfl))))))) dX5_drawImplied_41 ?_
            refine xgT_B_bs hx hb hts (fun _ h => List.mem_cons_of_mem _ (List.mem_append_left _ (List.mem_append_right _ h))) hown hK hP (hts (.fieldLink RX5 88 "TalePlay$Book" "bs" "[I") (List.mem_cons_of_mem _ (List.mem_append_left _ (List.mem_append_left _ (List.mem_append_left _ (List.mem_append_left _ (List.mem_of_getElem? (i := 10) rfl))))))) dX5_drawImplied_44 ?_
            refine lv_iload_n hx hb dX5_drawImplied_47 rfl (lv_at hl 0 rfl) ?_
            refine xlT_115 hx hb hK hP (vp_in_iff.mpr (by have h9 : y1_1.toInt = y1_1.toInt := rfl; omega)) dX5_drawImplied_48 (fun x10 ex10 => ?_)
            have rx10 : 0 ≤ x10.toInt ∧ x10.toInt ≤ 29 := by rw [ex10]; exact hI.2 115 _
            have gx10 : (c 115 (y1_1 : Int32).toNatClampNeg).toInt = x10.toInt := by rw [show x10 = c1 115 (y1_1 : Int32).toNatClampNeg from ex10, show c1 115 = c 115 from hfc 115 (by decide +kernel)]
            refine lv_bipush (v := 10) hx hb dX5_drawImplied_49 (by decide +kernel) ?_
            refine lv_imul hx hb dX5_drawImplied_51 ?_
            refine lv_topi (fun x11 ex11 => ?_)
            have tx11 := ti_mul (a := x10.toInt) (b := 10) ex11 rfl (by decide +kernel) (by omega) (by omega)
            refine lv_aload_n hx hb dX5_drawImplied_52 rfl (lv_at hl 1 rfl) ?_
            refine xgT_R_book hx hb hts (fun _ h => List.mem_cons_of_mem _ (List.mem_append_left _ (List.mem_append_left _ (List.mem_append_right _ h)))) hown hK hP (hts (.fieldLink RX5 43 "TalePlay$Roads" "book" "LTalePlay$Book;") (List.mem_cons_of_mem _ (List.mem_append_left _ (List.mem_append_left _ (List.mem_append_left _ (List.mem_append_left _ (List.mem_of_getElem? (i := 0) rfl))))))) dX5_drawImplied_53 ?_
            refine xgT_B_cs hx hb hts (fun _ h => List.mem_cons_of_mem _ (List.mem_append_left _ (List.mem_append_right _ h))) hown hK hP (hts (.fieldLink RX5 85 "TalePlay$Book" "cs" "[I") (List.mem_cons_of_mem _ (List.mem_append_left _ (List.mem_append_left _ (List.mem_append_left _ (List.mem_append_right _ (List.mem_of_getElem? (i := 3) rfl))))))) dX5_drawImplied_56 ?_
            refine lv_iload_n hx hb dX5_drawImplied_59 rfl (lv_at hl 0 rfl) ?_
            refine xlT_116 hx hb hK hP (vp_in_iff.mpr (by have h9 : y1_1.toInt = y1_1.toInt := rfl; omega)) dX5_drawImplied_60 (fun x12 ex12 => ?_)
            have rx12 : 0 ≤ x12.toInt ∧ x12.toInt ≤ 9 := by rw [ex12]; exact hI.2 116 _
            have gx12 : (c 116 (y1_1 : Int32).toNatClampNeg).toInt = x12.toInt := by rw [show x12 = c1 116 (y1_1 : Int32).toNatClampNeg from ex12, show c1 116 = c 116 from hfc 116 (by decide +kernel)]
            refine lv_iconst (v := 1) hx hb dX5_drawImplied_61 (by decide +kernel) ?_
            refine lv_ixor hx hb dX5_drawImplied_62 ?_
            refine lv_topi (fun x13 ex13 => ?_)
            have bx13 := xor1 (by omega) ex13
            have ox13 := xor1o (by omega) ex13
            refine lv_iadd hx hb dX5_drawImplied_63 ?_
            refine lv_topi (fun x14 ex14 => ?_)
            have tx14 := ti_add (a := (x10.toInt * 10)) (b := x13.toInt) ex14 tx11 rfl (by omega) (by omega)
            refine lv_istore_n (lv' := [(2, .int x14), (1, .int y1_1), (0, .ref (a 128))]) hx hb dX5_drawImplied_64 rfl hl (by decide +kernel) rfl (fun ls hl => ?_)
            refine lv_aload_n hx hb dX5_drawImplied_65 rfl (lv_at hl 2 rfl) ?_
            refine xgT_R_bys hx hb hts (fun _ h => List.mem_cons_of_mem _ (List.mem_append_left _ (List.mem_append_left _ (List.mem_append_right _ h)))) hown hK hP (hts (.fieldLink RX5 18 "TalePlay$Roads" "bys" "[I") (List.mem_cons_of_mem _ (List.mem_append_left _ (List.mem_append_left _ (List.mem_append_left _ (List.mem_append_right _ (List.mem_of_getElem? (i := 4) rfl))))))) dX5_drawImplied_66 ?_
            refine lv_iload_n hx hb dX5_drawImplied_69 rfl (lv_at hl 0 rfl) ?_
            refine xlT_131 hx hb hK hP (vp_in_iff.mpr (by have h9 : x14.toInt = ((x10.toInt * 10) + x13.toInt) := tx14; omega)) dX5_drawImplied_70 (fun x15 ex15 => ?_)
            have rx15 : x15.toInt = -9 ∨ (0 ≤ x15.toInt ∧ x15.toInt ≤ 199) := by rw [ex15]; exact hI.2 131 _
            have gx15 : (c1 131 (x14 : Int32).toNatClampNeg).toInt = x15.toInt := by rw [ex15]
            refine lv_bipush (v := (-9)) hx hb dX5_drawImplied_71 (by decide +kernel) ?_
            refine lv_icmp_ne (tgt := 105) hx hb dX5_drawImplied_73 (by decide +kernel) (fun c16 => ?_) (fun c16 => ?_)
            · have f16 := mt (ti_eq (a := x15.toInt) (b := (-9)) rfl (by decide +kernel)).mpr c16
              obtain ⟨x17, ex17⟩ : ∃ y : Int32, y = y1_1 + 1 := ⟨_, rfl⟩
              have tx17 := ti_add (a := y1_1.toInt) (b := 1) ex17 rfl (by decide +kernel) (by omega) (by omega)
              refine lv_iinc (v := x17) (lv' := [(1, .int x17), (2, .int x14), (0, .ref (a 128))]) hx hb dX5_drawImplied_105 hl (k := 1) rfl (by rw [ex17]; rfl) (by decide +kernel) rfl (fun ls hl => ?_)
              refine lv_goto (tgt := 2) hx hb dX5_drawImplied_108 (by decide +kernel) ?_
              exact ih1 i1 q1 c1 d1 x17 hI (fr_w hfi (by decide +kernel)) (fr_w hfc (by decide +kernel)) (show 0 ≤ x17.toInt ∧ x17.toInt ≤ 200 ∧ x17.toInt ≤ (i 124).toInt from by have h50 : x17.toInt = (y1_1.toInt + 1) := tx17; have h51 : x14.toInt = ((x10.toInt * 10) + x13.toInt) := tx14; omega) (show D2 (zX (c 106) (c 108) (i 111).toInt) (c 113) (c 114) (c 115) (c 116) (c 117) x17.toInt.toNat (c 131) (c 129) (c1 131) (c1 129) (c1 132) from D2_k (k := x14) hz1_0 (by omega) (by omega) (by omega) (by omega) (by rw [gx12]; omega) (by omega) tx17) (by have h50 : x17.toInt = (y1_1.toInt + 1) := tx17; have h51 : x14.toInt = ((x10.toInt * 10) + x13.toInt) := tx14; omega) _ _ _ hP hD hS (lv_sub hl [0, 2] rfl)
            · have f16 := (ti_eq (a := x15.toInt) (b := (-9)) rfl (by decide +kernel)).mp c16
              refine lv_aload_n hx hb dX5_drawImplied_76 rfl (lv_at hl 2 rfl) ?_
              refine xgT_R_bys hx hb hts (fun _ h => List.mem_cons_of_mem _ (List.mem_append_left _ (List.mem_append_left _ (List.mem_append_right _ h)))) hown hK hP (hts (.fieldLink RX5 18 "TalePlay$Roads" "bys" "[I") (List.mem_cons_of_mem _ (List.mem_append_left _ (List.mem_append_left _ (List.mem_append_left _ (List.mem_append_right _ (List.mem_of_getElem? (i := 4) rfl))))))) dX5_drawImplied_77 ?_
              refine lv_iload_n hx hb dX5_drawImplied_80 rfl (lv_at hl 0 rfl) ?_
              refine lv_iload_n hx hb dX5_drawImplied_81 rfl (lv_at hl 1 rfl) ?_
              refine xsT_131 hx hb hK hP hD hS (vp_in_iff.mpr (by have h9 : x14.toInt = ((x10.toInt * 10) + x13.toInt) := tx14; omega)) dX5_drawImplied_82 (fun H locs hP hD hS => ?_)
              have hI := xInv_c hI (k := 131) (j := (x14 : Int32).toNatClampNeg) (x := y1_1) (show (y1_1 : Int32).toInt = -9 ∨ (0 ≤ (y1_1 : Int32).toInt ∧ (y1_1 : Int32).toInt ≤ 199) from by omega)
              have hfc := fr_c hfc (k := 131) (j := (x14 : Int32).toNatClampNeg) (x := y1_1) (by decide +kernel)
              refine lv_aload_n hx hb dX5_drawImplied_83 rfl (lv_at hl 2 rfl) ?_
              refine xgT_R_leads hx hb hts (fun _ h => List.mem_cons_of_mem _ (List.mem_append_left _ (List.mem_append_left _ (List.mem_append_right _ h)))) hown hK hP (hts (.fieldLink RX5 9 "TalePlay$Roads" "leads" "[I") (List.mem_cons_of_mem _ (List.mem_append_left _ (List.mem_append_left _ (List.mem_append_left _ (List.mem_append_right _ (List.mem_of_getElem? (i := 5) rfl))))))) dX5_drawImplied_84 ?_
              refine lv_iload_n hx hb dX5_drawImplied_87 rfl (lv_at hl 0 rfl) ?_
              refine lv_aload_n hx hb dX5_drawImplied_88 rfl (lv_at hl 2 rfl) ?_
              refine xgT_R_book hx hb hts (fun _ h => List.mem_cons_of_mem _ (List.mem_append_left _ (List.mem_append_left _ (List.mem_append_right _ h)))) hown hK hP (hts (.fieldLink RX5 43 "TalePlay$Roads" "book" "LTalePlay$Book;") (List.mem_cons_of_mem _ (List.mem_append_left _ (List.mem_append_left _ (List.mem_append_left _ (List.mem_append_left _ (List.mem_of_getElem? (i := 0) rfl))))))) dX5_drawImplied_89 ?_
              refine xgT_B_as hx hb hts (fun _ h => List.mem_cons_of_mem _ (List.mem_append_left _ (List.mem_append_right _ h))) hown hK hP (hts (.fieldLink RX5 82 "TalePlay$Book" "as" "[I") (List.mem_cons_of_mem _ (List.mem_append_left _ (List.mem_append_left _ (List.mem_append_left _ (List.mem_append_right _ (List.mem_of_getElem? (i := 6) rfl))))))) dX5_drawImplied_92 ?_
              refine lv_iload_n hx hb dX5_drawImplied_95 rfl (lv_at hl 1 rfl) ?_
              refine xlT_114 hx hb hK hP (vp_in_iff.mpr (by have h9 : y1_1.toInt = y1_1.toInt := rfl; omega)) dX5_drawImplied_96 (fun x18 ex18 => ?_)
              have rx18 : 0 ≤ x18.toInt ∧ x18.toInt ≤ 29 := by rw [ex18]; exact hI.2 114 _
              have gx18 : (c 114 (y1_1 : Int32).toNatClampNeg).toInt = x18.toInt := by rw [show x18 = (updA c1 131 (x14 : Int32).toNatClampNeg y1_1) 114 (y1_1 : Int32).toNatClampNeg from ex18, show (updA c1 131 (x14 : Int32).toNatClampNeg y1_1) 114 = c 114 from hfc 114 (by decide +kernel)]
              refine xsT_129 hx hb hK hP hD hS (vp_in_iff.mpr (by have h9 : x14.toInt = ((x10.toInt * 10) + x13.toInt) := tx14; omega)) dX5_drawImplied_97 (fun H locs hP hD hS => ?_)
              have hI := xInv_c hI (k := 129) (j := (x14 : Int32).toNatClampNeg) (x := x18) (show (x18 : Int32).toInt = -9 ∨ (0 ≤ (x18 : Int32).toInt ∧ (x18 : Int32).toInt ≤ 29) from by omega)
              have hfc := fr_c hfc (k := 129) (j := (x14 : Int32).toNatClampNeg) (x := x18) (by decide +kernel)
              refine lv_aload_n hx hb dX5_drawImplied_98 rfl (lv_at hl 2 rfl) ?_
              refine xgT_R_implied hx hb hts (fun _ h => List.mem_cons_of_mem _ (List.mem_append_left _ (List.mem_append_left _ (List.mem_append_right _ h)))) hown hK hP (hts (.fieldLink RX5 21 "TalePlay$Roads" "implied" "[I") (List.mem_cons_of_mem _ (List.mem_append_left _ (List.mem_append_left _ (List.mem_append_left _ (List.mem_append_right _ (List.mem_of_getElem? (i := 7) rfl))))))) dX5_drawImplied_99 ?_
              refine lv_iload_n hx hb dX5_drawImplied_102 rfl (lv_at hl 0 rfl) ?_
              refine lv_iconst (v := 1) hx hb dX5_drawImplied_103 (by decide +kernel) ?_
              refine xsT_132 hx hb hK hP hD hS (vp_in_iff.mpr (by have h9 : x14.toInt = ((x10.toInt * 10) + x13.toInt) := tx14; omega)) dX5_drawImplied_104 (fun H locs hP hD hS => ?_)
              have hI := xInv_c hI (k := 132) (j := (x14 : Int32).toNatClampNeg) (x := 1) (show 0 ≤ (1 : Int32).toInt ∧ (1 : Int32).toInt ≤ 1 from by decide +kernel)
              have hfc := fr_c hfc (k := 132) (j := (x14 : Int32).toNatClampNeg) (x := 1) (by decide +kernel)
              obtain ⟨x19, ex19⟩ : ∃ y : Int32, y = y1_1 + 1 := ⟨_, rfl⟩
              have tx19 := ti_add (a := y1_1.toInt) (b := 1) ex19 rfl (by decide +kernel) (by omega) (by omega)
              refine lv_iinc (v := x19) (lv' := [(1, .int x19), (2, .int x14), (0, .ref (a 128))]) hx hb dX5_drawImplied_105 hl (k := 1) rfl (by rw [ex19]; rfl) (by decide +kernel) rfl (fun ls hl => ?_)
              refine lv_goto (tgt := 2) hx hb dX5_drawImplied_108 (by decide +kernel) ?_
              exact ih1 i1 q1 (updA (updA (updA c1 131 (x14 : Int32).toNatClampNeg y1_1) 129 (x14 : Int32).toNatClampNeg x18) 132 (x14 : Int32).toNatClampNeg 1) d1 x19 hI (fr_w hfi (by decide +kernel)) (fr_w hfc (by decide +kernel)) (show 0 ≤ x19.toInt ∧ x19.toInt ≤ 200 ∧ x19.toInt ≤ (i 124).toInt from by have h50 : x19.toInt = (y1_1.toInt + 1) := tx19; have h51 : x14.toInt = ((x10.toInt * 10) + x13.toInt) := tx14; omega) (show D2 (zX (c 106) (c 108) (i 111).toInt) (c 113) (c 114) (c 115) (c 116) (c 117) x19.toInt.toNat (c 131) (c 129) ((updA (updA (updA c1 131 (x14 : Int32).toNatClampNeg y1_1) 129 (x14 : Int32).toNatClampNeg x18) 132 (x14 : Int32).toNatClampNeg 1) 131) ((updA (updA (updA c1 131 (x14 : Int32).toNatClampNeg y1_1) 129 (x14 : Int32).toNatClampNeg x18) 132 (x14 : Int32).toNatClampNeg 1) 129) ((updA (updA (updA c1 131 (x14 : Int32).toNatClampNeg y1_1) 129 (x14 : Int32).toNatClampNeg x18) 132 (x14 : Int32).toNatClampNeg 1) 132) from D2_s hz1_0 (by omega) (by omega) (by omega) (by omega) (by rw [gx12]; omega) (by omega) (by omega) (Int32.toInt_inj.mp gx18.symm) tx19) (by have h50 : x19.toInt = (y1_1.toInt + 1) := tx19; have h51 : x14.toInt = ((x10.toInt * 10) + x13.toInt) := tx14; omega) _ _ _ hP hD hS (lv_sub hl [0, 2] rfl)
  exact lp1 _ i q c d (0 : Int32) hI (fr_w hfi (by decide +kernel)) (fr_w hfc (by decide +kernel)) (show 0 ≤ (0 : Int32).toInt ∧ (0 : Int32).toInt ≤ 200 ∧ (0 : Int32).toInt ≤ (i 124).toInt from by have h50 : (0 : Int32).toInt = 0 := (by decide +kernel); omega) (show D2 (zX (c 106) (c 108) (i 111).toInt) (c 113) (c 114) (c 115) (c 116) (c 117) (0 : Int32).toInt.toNat (c 131) (c 129) (c 131) (c 129) (c 132) from D2_0 (by decide +kernel) hs_V) (Nat.lt_succ_self _) _ _ _ hP hD hS (lv_sub hl [0, 1] rfl)

def wm_X5_drawThroughDoors_e : List Cond := .code yX5_drawThroughDoors cX5_drawThroughDoors 4 none :: (([.fieldLink RX5 15 "TalePlay$Roads" "doors" "[I", .fieldLink RX5 24 "TalePlay$Roads" "firstSides" "[I", .fieldLink RX5 9 "TalePlay$Roads" "leads" "[I", .fieldLink RX5 27 "TalePlay$Roads" "secondSides" "[I"] : List Cond) ++ wsX50)
set_option maxHeartbeats 4000000 in
set_option maxRecDepth 100000 in
theorem x_X5_drawThroughDoors_e (l : Launch) (D : va_G) (sz : Nat) (sk : Value) (a : Nat → Nat) (t : Nat → ClassId) (i : Nat → Int32) (q : Int64) (c : Nat → Nat → Int32) (d : Nat → Nat → Int64) (hI : xInv i c) : Met l yX5_drawThroughDoors wm_X5_drawThroughDoors_e ({ frames := 0, cells := 0, slots := 0, locals := 0 }) (va_Pc [.ref (a 128)] (yB (a 186) D sz (xwT sk a t i q c d) (xtT t))) (va_Qv (fun (u : MS) => True ∧ xInv u.1 u.2.2.1 ∧ (∀ k, k ∉ ([] : List Nat) → u.1 k = i k) ∧ (∀ k, k ∉ ([129] : List Nat) → u.2.2.1 k = c k) ∧ (D3 300 (c 129) (c 130) (c 133) (c 134) (u.2.2.1 129))) (oC D (va_A (xwT sk a t i q c d) sz) (fun u : MS => xwT sk a t u.1 u.2.1 u.2.2.1 u.2.2.2) (fun _ => [])) (va_A (xwT sk a t i q c d) sz)) 0 0 (va_A (xwT sk a t i q c d) sz) := by
  refine Met.ofW (cc := cX5_drawThroughDoors) (maxL := 4) (ret := none) (by decide +kernel) rfl ?_
  intro p e s m args below meth cd s₁ B hml hv
  obtain ⟨rfl, ⟨hsz, hP, hK, hD0⟩, hN, hZ, hBW⟩ := hv
  have hx := B.exec
  have hb := B.bytes
  have hr := B.returns
  have hts := atoms_spec (ws := wm_X5_drawThroughDoors_e) B.pre
  have hown : s.vm.findClass RX5 = some m.cls := findClass_of_methodNamed B.named
  have hlocks := B.notSynchronized
  subst hsz
  have hD := hD0.self (sz := s.heap.size)
  have hZ := xZ_A hZ hP hBW
  generalize hAe : va_A (xwT sk a t i q c d) s.heap.size = A at hD hZ ⊢
  have hA : ∀ q : Nat, s.heap.size ≤ q → A q := fun q h => by rw [← hAe]; exact Or.inr h
  have hS : va_S A s.heap s.heap [] := va_S.rf
  have hfi : ∀ k, k ∉ ([] : List Nat) → i k = i k := fun _ _ => rfl
  have hfc : ∀ k, k ∉ ([] : List Nat) → c k = c k := fun _ _ => rfl
  have hl := lv_entry ([.ref (a 128)]) (n := 4) (Nat.le_of_ble_eq_true rfl)
  rw [lg_entry_eq]
  generalize (lg_sl ([.ref (a 128)]) ++ List.replicate (4 - (lg_sl ([.ref (a 128)])).length) Slot.unset).toArray = ls at hl ⊢
  have hl : lv_has ls 4 [(0, .ref (a 128))] := hl
  have hI0 := hI
  refine lv_iconst (v := 0) hx hb dX5_drawThroughDoors_0 (by decide +kernel) ?_
  refine lv_istore_n (lv' := [(1, .int 0), (0, .ref (a 128))]) hx hb dX5_drawThroughDoors_1 rfl hl (by decide +kernel) rfl (fun ls hl => ?_)
  have lp1 : ∀ (fu : Nat) (i1 : Nat → Int32) (q1 : Int64) (c1 : Nat → Nat → Int32) (d1 : Nat → Nat → Int64) (y1_1 : Int32), xInv i1 c1 → (∀ k, k ∉ ([] : List Nat) → i1 k = i k) → (∀ k, k ∉ ([129] : List Nat) → c1 k = c k) → (0 ≤ y1_1.toInt ∧ y1_1.toInt ≤ 300) → (D3 y1_1.toInt.toNat (c 129) (c 130) (c 133) (c 134) (c1 129)) → (300 - y1_1.toInt).toNat < fu → ∀ (H : Heap) (locs : List Loc) (ls : Array Slot), va_P D vwCl (xwT sk a t i1 q1 c1 d1) H → va_D A (xwT sk a t i1 q1 c1 d1) → va_S A s.heap H locs → lv_has ls 4 [(1, .int y1_1), (0, .ref (a 128))] → W p l e (headSpec wm_X5_drawThroughDoors_e ({ frames := 0, cells := 0, slots := 0, locals := 0 })).room s m ([.ref (a 128)] : List Value).toArray below meth cd H locs 0 0 (MQ below (va_Qv (fun (u : MS) => True ∧ xInv u.1 u.2.2.1 ∧ (∀ k, k ∉ ([] : List Nat) → u.1 k = i k) ∧ (∀ k, k ∉ ([129] : List Nat) → u.2.2.1 k = c k) ∧ (D3 300 (c 129) (c 130) (c 133) (c 134) (u.2.2.1 129))) (oC D A (fun u : MS => xwT sk a t u.1 u.2.1 u.2.2.1 u.2.2.2) (fun _ => [])) A) ([.ref (a 128)] : List Value).toArray s 0 0 A) (F0 m 2 ls []) := by
    intro fu
    induction fu with
    | zero => intro i1 q1 c1 d1 y1_1 hI hfi hfc hy1_1 hz1_0 hm; exact absurd hm (Nat.not_lt_zero _)
    | succ fu ih =>
      intro i1 q1 c1 d1 y1_1 hI hfi hfc hy1_1 hz1_0 hm H locs ls hP hD hS hl
      have ih1 := ih
      refine lv_iload_n hx hb dX5_drawThroughDoors_2 rfl (lv_at hl 0 rfl) ?_
      refine lv_aload_n hx hb dX5_drawThroughDoors_3 rfl (lv_at hl 1 rfl) ?_
      refine xgT_R_doors hx hb hts (fun _ h => List.mem_cons_of_mem _ (List.mem_append_right _ h)) hown hK hP (hts (.fieldLink RX5 15 "TalePlay$Roads" "doors" "[I") (List.mem_cons_of_mem _ (List.mem_append_left _ (List.mem_of_getElem? (i := 0) rfl)))) dX5_drawThroughDoors_4 ?_
      refine xnT_130 hx hb hK hP dX5_drawThroughDoors_7 ?_
      refine lv_icmp_ge (tgt := 74) hx hb dX5_drawThroughDoors_8 (by decide +kernel) (fun c2 => ?_) (fun c2 => ?_)
      · have f2 := (ti_le (a := 300) (b := y1_1.toInt) (by decide +kernel) rfl).mp c2
        exact rw_vret (i1, q1, c1, d1) hx hb hr hlocks hS (hK.sub (tys' := []) [] rfl) hP hD dX5_drawThroughDoors_74 ⟨trivial, hI, fr_w hfi (by decide +kernel), fr_w hfc (by decide +kernel), (show D3 300 (c 129) (c 130) (c 133) (c 134) (c1 129) from by have h9 := hz1_0; rw [show y1_1.toInt.toNat = 300 by omega] at h9; exact h9)⟩
      · have f2 := mt (ti_le (a := 300) (b := y1_1.toInt) (by decide +kernel) rfl).mpr c2
        refine lv_aload_n hx hb dX5_drawThroughDoors_11 rfl (lv_at hl 1 rfl) ?_
        refine xgT_R_doors hx hb hts (fun _ h => List.mem_cons_of_mem _ (List.mem_append_right _ h)) hown hK hP (hts (.fieldLink RX5 15 "TalePlay$Roads" "doors" "[I") (List.mem_cons_of_mem _ (List.mem_append_left _ (List.mem_of_getElem? (i := 0) rfl)))) dX5_drawThroughDoors_12 ?_
        refine lv_iload_n hx hb dX5_drawThroughDoors_15 rfl (lv_at hl 0 rfl) ?_
        refine xlT_130 hx hb hK hP (vp_in_iff.mpr (by have h9 : y1_1.toInt = y1_1.toInt := rfl; omega)) dX5_drawThroughDoors_16 (fun x3 ex3 => ?_)
        have rx3 : x3.toInt = -9 ∨ (0 ≤ x3.toInt ∧ x3.toInt ≤ 29) := by rw [ex3]; exact hI.2 130 _
        have gx3 : (c 130 (y1_1 : Int32).toNatClampNeg).toInt = x3.toInt := by rw [show x3 = c1 130 (y1_1 : Int32).toNatClampNeg from ex3, show c1 130 = c 130 from hfc 130 (by decide +kernel)]
        refine lv_istore_n (lv' := [(2, .int x3), (1, .int y1_1), (0, .ref (a 128))]) hx hb dX5_drawThroughDoors_17 rfl hl (by decide +kernel) rfl (fun ls hl => ?_)
        refine lv_iload_n hx hb dX5_drawThroughDoors_18 rfl (lv_at hl 0 rfl) ?_
        refine lv_bipush (v := (-9)) hx hb dX5_drawThroughDoors_19 (by decide +kernel) ?_
        refine lv_icmp_eq (tgt := 68) hx hb dX5_drawThroughDoors_21 (by decide +kernel) (fun c4 => ?_) (fun c4 => ?_)
        · have f4 := (ti_eq (a := x3.toInt) (b := (-9)) rfl (by decide +kernel)).mp c4
          obtain ⟨x5, ex5⟩ : ∃ y : Int32, y = y1_1 + 1 := ⟨_, rfl⟩
          have tx5 := ti_add (a := y1_1.toInt) (b := 1) ex5 rfl (by decide +kernel) (by omega) (by omega)
          refine lv_iinc (v := x5) (lv' := [(1, .int x5), (2, .int x3), (0, .ref (a 128))]) hx hb dX5_drawThroughDoors_68 hl (k := 1) rfl (by rw [ex5]; rfl) (by decide +kernel) rfl (fun ls hl => ?_)
          refine lv_goto (tgt := 2) hx hb dX5_drawThroughDoors_71 (by decide +kernel) ?_
          exact ih1 i1 q1 c1 d1 x5 hI (fr_w hfi (by decide +kernel)) (fr_w hfc (by decide +kernel)) (show 0 ≤ x5.toInt ∧ x5.toInt ≤ 300 from by have h50 : x5.toInt = (y1_1.toInt + 1) := tx5; omega) (show D3 x5.toInt.toNat (c 129) (c 130) (c 133) (c 134) (c1 129) from D3_n hz1_0 (by omega) (by omega) tx5) (by have h50 : x5.toInt = (y1_1.toInt + 1) := tx5; omega) _ _ _ hP hD hS (lv_sub hl [0, 2] rfl)
        · have f4 := mt (ti_eq (a := x3.toInt) (b := (-9)) rfl (by decide +kernel)).mpr c4
          refine lv_aload_n hx hb dX5_drawThroughDoors_24 rfl (lv_at hl 2 rfl) ?_
          refine xgT_R_firstSides hx hb hts (fun _ h => List.mem_cons_of_mem _ (List.mem_append_right _ h)) hown hK hP (hts (.fieldLink RX5 24 "TalePlay$Roads" "firstSides" "[I") (List.mem_cons_of_mem _ (List.mem_append_left _ (List.mem_of_getElem? (i := 1) rfl)))) dX5_drawThroughDoors_25 ?_
          refine lv_iload_n hx hb dX5_drawThroughDoors_28 rfl (lv_at hl 0 rfl) ?_
          refine xlT_133 hx hb hK hP (vp_in_iff.mpr (by have h9 : x3.toInt = x3.toInt := rfl; omega)) dX5_drawThroughDoors_29 (fun x6 ex6 => ?_)
          have rx6 : x6.toInt = -9 ∨ (0 ≤ x6.toInt ∧ x6.toInt ≤ 29) := by rw [ex6]; exact hI.2 133 _
          have gx6 : (c 133 (x3 : Int32).toNatClampNeg).toInt = x6.toInt := by rw [show x6 = c1 133 (x3 : Int32).toNatClampNeg from ex6, show c1 133 = c 133 from hfc 133 (by decide +kernel)]
          refine lv_iload_n hx hb dX5_drawThroughDoors_30 rfl (lv_at hl 1 rfl) ?_
          refine lv_bipush (v := 10) hx hb dX5_drawThroughDoors_31 (by decide +kernel) ?_
          refine lv_idiv hx hb dX5_drawThroughDoors_33 (by decide +kernel) ?_
          refine lv_topi (fun x7 ex7 => ?_)
          have hdv := idiv10 (by omega) ex7
          refine lv_icmp_ne (tgt := 41) hx hb dX5_drawThroughDoors_34 (by decide +kernel) (fun c8 => ?_) (fun c8 => ?_)
          · have f8 := mt (ti_eq (a := x6.toInt) (b := x7.toInt) rfl rfl).mpr c8
            refine lv_iconst (v := 0) hx hb dX5_drawThroughDoors_41 (by decide +kernel) ?_
            refine lv_istore_n (lv' := [(3, .int 0), (2, .int x3), (1, .int y1_1), (0, .ref (a 128))]) hx hb dX5_drawThroughDoors_42 rfl hl (by decide +kernel) rfl (fun ls hl => ?_)
            refine lv_aload_n hx hb dX5_drawThroughDoors_43 rfl (lv_at hl 3 rfl) ?_
            refine xgT_R_leads hx hb hts (fun _ h => List.mem_cons_of_mem _ (List.mem_append_right _ h)) hown hK hP (hts (.fieldLink RX5 9 "TalePlay$Roads" "leads" "[I") (List.mem_cons_of_mem _ (List.mem_append_left _ (List.mem_of_getElem? (i := 2) rfl)))) dX5_drawThroughDoors_44 ?_
            refine lv_iload_n hx hb dX5_drawThroughDoors_47 rfl (lv_at hl 2 rfl) ?_
            refine lv_iload_n hx hb dX5_drawThroughDoors_48 rfl (lv_at hl 0 rfl) ?_
            refine lv_if_eq (tgt := 61) hx hb dX5_drawThroughDoors_49 (by decide +kernel) (fun _ => ?_) (fun q9 => absurd (by decide +kernel) q9)
            refine lv_aload_n hx hb dX5_drawThroughDoors_61 rfl (lv_at hl 3 rfl) ?_
            refine xgT_R_firstSides hx hb hts (fun _ h => List.mem_cons_of_mem _ (List.mem_append_right _ h)) hown hK hP (hts (.fieldLink RX5 24 "TalePlay$Roads" "firstSides" "[I") (List.mem_cons_of_mem _ (List.mem_append_left _ (List.mem_of_getElem? (i := 1) rfl)))) dX5_drawThroughDoors_62 ?_
            refine lv_iload_n hx hb dX5_drawThroughDoors_65 rfl (lv_at hl 1 rfl) ?_
            refine xlT_133 hx hb hK hP (vp_in_iff.mpr (by have h9 : x3.toInt = x3.toInt := rfl; omega)) dX5_drawThroughDoors_66 (fun x9 ex9 => ?_)
            have rx9 : x9.toInt = -9 ∨ (0 ≤ x9.toInt ∧ x9.toInt ≤ 29) := by rw [ex9]; exact hI.2 133 _
            have gx9 : (c 133 (x3 : Int32).toNatClampNeg).toInt = x9.toInt := by rw [show x9 = c1 133 (x3 : Int32).toNatClampNeg from ex9, show c1 133 = c 133 from hfc 133 (by decide +kernel)]
            refine xsT_129 hx hb hK hP hD hS (vp_in_iff.mpr (by have h9 : y1_1.toInt = y1_1.toInt := rfl; omega)) dX5_drawThroughDoors_67 (fun H locs hP hD hS => ?_)
            have hI := xInv_c hI (k := 129) (j := (y1_1 : Int32).toNatClampNeg) (x := x9) (show (x9 : Int32).toInt = -9 ∨ (0 ≤ (x9 : Int32).toInt ∧ (x9 : Int32).toInt ≤ 29) from by omega)
            have hfc := fr_c hfc (k := 129) (j := (y1_1 : Int32).toNatClampNeg) (x := x9) (by decide +kernel)
            obtain ⟨x10, ex10⟩ : ∃ y : Int32, y = y1_1 + 1 := ⟨_, rfl⟩
            have tx10 := ti_add (a := y1_1.toInt) (b := 1) ex10 rfl (by decide +kernel) (by omega) (by omega)
            refine lv_iinc (v := x10) (lv' := [(1, .int x10), (3, .int 0), (2, .int x3), (0, .ref (a 128))]) hx hb dX5_drawThroughDoors_68 hl (k := 2) rfl (by rw [ex10]; rfl) (by decide +kernel) rfl (fun ls hl => ?_)
            refine lv_goto (tgt := 2) hx hb dX5_drawThroughDoors_71 (by decide +kernel) ?_
            exact ih1 i1 q1 (updA c1 129 (y1_1 : Int32).toNatClampNeg x9) d1 x10 hI (fr_w hfi (by decide +kernel)) (fr_w hfc (by decide +kernel)) (show 0 ≤ x10.toInt ∧ x10.toInt ≤ 300 from by have h50 : x10.toInt = (y1_1.toInt + 1) := tx10; have h51 : (0 : Int32).toInt = 0 := (by decide +kernel); omega) (show D3 x10.toInt.toNat (c 129) (c 130) (c 133) (c 134) ((updA c1 129 (y1_1 : Int32).toNatClampNeg x9) 129) from D3_s hz1_0 (by omega) (thr_f (Int32.toInt_inj.mp gx3.symm) (by omega) (by omega) (by omega)) tx10) (by have h50 : x10.toInt = (y1_1.toInt + 1) := tx10; have h51 : (0 : Int32).toInt = 0 := (by decide +kernel); omega) _ _ _ hP hD hS (lv_sub hl [0, 3] rfl)
          · have f8 := (ti_eq (a := x6.toInt) (b := x7.toInt) rfl rfl).mp c8
            refine lv_iconst (v := 1) hx hb dX5_drawThroughDoors_37 (by decide +kernel) ?_
            refine lv_goto (tgt := 42) hx hb dX5_drawThroughDoors_38 (by decide +kernel) ?_
            refine lv_istore_n (lv' := [(3, .int 1), (2, .int x3), (1, .int y1_1), (0, .ref (a 128))]) hx hb dX5_drawThroughDoors_42 rfl hl (by decide +kernel) rfl (fun ls hl => ?_)
            refine lv_aload_n hx hb dX5_drawThroughDoors_43 rfl (lv_at hl 3 rfl) ?_
            refine xgT_R_leads hx hb hts (fun _ h => List.mem_cons_of_mem _ (List.mem_append_right _ h)) hown hK hP (hts (.fieldLink RX5 9 "TalePlay$Roads" "leads" "[I") (List.mem_cons_of_mem _ (List.mem_append_left _ (List.mem_of_getElem? (i := 2) rfl)))) dX5_drawThroughDoors_44 ?_
            refine lv_iload_n hx hb dX5_drawThroughDoors_47 rfl (lv_at hl 2 rfl) ?_
            refine lv_iload_n hx hb dX5_drawThroughDoors_48 rfl (lv_at hl 0 rfl) ?_
            refine lv_if_eq (tgt := 61) hx hb dX5_drawThroughDoors_49 (by decide +kernel) (fun q9 => absurd q9 (by decide +kernel)) (fun _ => ?_)
            refine lv_aload_n hx hb dX5_drawThroughDoors_52 rfl (lv_at hl 3 rfl) ?_
            refine xgT_R_secondSides hx hb hts (fun _ h => List.mem_cons_of_mem _ (List.mem_append_right _ h)) hown hK hP (hts (.fieldLink RX5 27 "TalePlay$Roads" "secondSides" "[I") (List.mem_cons_of_mem _ (List.mem_append_left _ (List.mem_of_getElem? (i := 3) rfl)))) dX5_drawThroughDoors_53 ?_
            refine lv_iload_n hx hb dX5_drawThroughDoors_56 rfl (lv_at hl 1 rfl) ?_
            refine xlT_134 hx hb hK hP (vp_in_iff.mpr (by have h9 : x3.toInt = x3.toInt := rfl; omega)) dX5_drawThroughDoors_57 (fun x11 ex11 => ?_)
            have rx11 : x11.toInt = -9 ∨ (0 ≤ x11.toInt ∧ x11.toInt ≤ 29) := by rw [ex11]; exact hI.2 134 _
            have gx11 : (c 134 (x3 : Int32).toNatClampNeg).toInt = x11.toInt := by rw [show x11 = c1 134 (x3 : Int32).toNatClampNeg from ex11, show c1 134 = c 134 from hfc 134 (by decide +kernel)]
            refine lv_goto (tgt := 67) hx hb dX5_drawThroughDoors_58 (by decide +kernel) ?_
            refine xsT_129 hx hb hK hP hD hS (vp_in_iff.mpr (by have h9 : y1_1.toInt = y1_1.toInt := rfl; omega)) dX5_drawThroughDoors_67 (fun H locs hP hD hS => ?_)
            have hI := xInv_c hI (k := 129) (j := (y1_1 : Int32).toNatClampNeg) (x := x11) (show (x11 : Int32).toInt = -9 ∨ (0 ≤ (x11 : Int32).toInt ∧ (x11 : Int32).toInt ≤ 29) from by omega)
            have hfc := fr_c hfc (k := 129) (j := (y1_1 : Int32).toNatClampNeg) (x := x11) (by decide +kernel)
            obtain ⟨x12, ex12⟩ : ∃ y : Int32, y = y1_1 + 1 := ⟨_, rfl⟩
            have tx12 := ti_add (a := y1_1.toInt) (b := 1) ex12 rfl (by decide +kernel) (by omega) (by omega)
            refine lv_iinc (v := x12) (lv' := [(1, .int x12), (3, .int 1), (2, .int x3), (0, .ref (a 128))]) hx hb dX5_drawThroughDoors_68 hl (k := 2) rfl (by rw [ex12]; rfl) (by decide +kernel) rfl (fun ls hl => ?_)
            refine lv_goto (tgt := 2) hx hb dX5_drawThroughDoors_71 (by decide +kernel) ?_
            exact ih1 i1 q1 (updA c1 129 (y1_1 : Int32).toNatClampNeg x11) d1 x12 hI (fr_w hfi (by decide +kernel)) (fr_w hfc (by decide +kernel)) (show 0 ≤ x12.toInt ∧ x12.toInt ≤ 300 from by have h50 : x12.toInt = (y1_1.toInt + 1) := tx12; have h51 : (1 : Int32).toInt = 1 := (by decide +kernel); omega) (show D3 x12.toInt.toNat (c 129) (c 130) (c 133) (c 134) ((updA c1 129 (y1_1 : Int32).toNatClampNeg x11) 129) from D3_s hz1_0 (by omega) (thr_f (Int32.toInt_inj.mp gx3.symm) (by omega) (by omega) (by omega)) tx12) (by have h50 : x12.toInt = (y1_1.toInt + 1) := tx12; have h51 : (1 : Int32).toInt = 1 := (by decide +kernel); omega) _ _ _ hP hD hS (lv_sub hl [0, 3] rfl)
  exact lp1 _ i q c d (0 : Int32) hI (fr_w hfi (by decide +kernel)) (fr_w hfc (by decide +kernel)) (show 0 ≤ (0 : Int32).toInt ∧ (0 : Int32).toInt ≤ 300 from by decide +kernel) (show D3 (0 : Int32).toInt.toNat (c 129) (c 130) (c 133) (c 134) (c 129) from D3_0 (by decide +kernel)) (Nat.lt_succ_self _) _ _ _ hP hD hS (lv_sub hl [0, 1] rfl)

def wm_X5_wipe_e : List Cond := .code yX5_wipe cX5_wipe 1 none :: (([.fieldLink RX5 9 "TalePlay$Roads" "leads" "[I", .methodLink RX5 50 yJ7_fill_53178, .static yJ7_fill_53178, .initialized RJ7, .code yJ7_fill_53178 cJ7_fill_53178 4 none, .fieldLink RX5 15 "TalePlay$Roads" "doors" "[I", .fieldLink RX5 18 "TalePlay$Roads" "bys" "[I", .fieldLink RX5 21 "TalePlay$Roads" "implied" "[I", .fieldLink RX5 24 "TalePlay$Roads" "firstSides" "[I", .fieldLink RX5 27 "TalePlay$Roads" "secondSides" "[I"] : List Cond) ++ wsX50)
set_option maxRecDepth 20000 in
theorem gm_X5_wipe_e_J7_fill_53178_50 : GoodIn wm_X5_wipe_e (va_wsS RX5 50 yJ7_fill_53178 wm_J7_fill_53178) := goodIn_w (List.forall_mem_append.mpr ⟨List.forall_mem_cons.mpr ⟨List.mem_cons_of_mem _ (List.mem_append_left _ (List.mem_of_getElem? (i := 1) rfl)), List.forall_mem_cons.mpr ⟨List.mem_cons_of_mem _ (List.mem_append_left _ (List.mem_of_getElem? (i := 2) rfl)), List.forall_mem_cons.mpr ⟨List.mem_cons_of_mem _ (List.mem_append_left _ (List.mem_of_getElem? (i := 3) rfl)), (fun _ h => absurd h List.not_mem_nil)⟩⟩⟩, List.forall_mem_cons.mpr ⟨List.mem_cons_of_mem _ (List.mem_append_left _ (List.mem_of_getElem? (i := 4) rfl)), (fun _ h => absurd h List.not_mem_nil)⟩⟩) (by decide +kernel)
set_option maxHeartbeats 4000000 in
set_option maxRecDepth 100000 in
theorem x_X5_wipe_e (l : Launch) (D : va_G) (sz : Nat) (sk : Value) (a : Nat → Nat) (t : Nat → ClassId) (i : Nat → Int32) (q : Int64) (c : Nat → Nat → Int32) (d : Nat → Nat → Int64) (hI : xInv i c) : Met l yX5_wipe wm_X5_wipe_e ({ frames := 1, cells := 0, slots := 0, locals := 23 }) (va_Pc [.ref (a 128)] (yB (a 186) D sz (xwT sk a t i q c d) (xtT t))) (va_Qv (fun (u : MS) => True ∧ xInv u.1 u.2.2.1 ∧ (∀ k, k ∉ ([] : List Nat) → u.1 k = i k) ∧ (∀ k, k ∉ ([129, 130, 131, 132, 133, 134] : List Nat) → u.2.2.1 k = c k) ∧ (WpD (u.2.2.1 131) (u.2.2.1 129) (u.2.2.1 130) (u.2.2.1 133) (u.2.2.1 134)) ∧ (Zr (u.2.2.1 132))) (oC D (va_A (xwT sk a t i q c d) sz) (fun u : MS => xwT sk a t u.1 u.2.1 u.2.2.1 u.2.2.2) (fun _ => [])) (va_A (xwT sk a t i q c d) sz)) 0 0 (va_A (xwT sk a t i q c d) sz) := by
  refine Met.ofW (cc := cX5_wipe) (maxL := 1) (ret := none) (by decide +kernel) rfl ?_
  intro p e s m args below meth cd s₁ B hml hv
  obtain ⟨rfl, ⟨hsz, hP, hK, hD0⟩, hN, hZ, hBW⟩ := hv
  have hx := B.exec
  have hb := B.bytes
  have hr := B.returns
  have hts := atoms_spec (ws := wm_X5_wipe_e) B.pre
  have hown : s.vm.findClass RX5 = some m.cls := findClass_of_methodNamed B.named
  have hlocks := B.notSynchronized
  subst hsz
  have hD := hD0.self (sz := s.heap.size)
  have hZ := xZ_A hZ hP hBW
  generalize hAe : va_A (xwT sk a t i q c d) s.heap.size = A at hD hZ ⊢
  have hA : ∀ q : Nat, s.heap.size ≤ q → A q := fun q h => by rw [← hAe]; exact Or.inr h
  have hS : va_S A s.heap s.heap [] := va_S.rf
  have hfi : ∀ k, k ∉ ([] : List Nat) → i k = i k := fun _ _ => rfl
  have hfc : ∀ k, k ∉ ([] : List Nat) → c k = c k := fun _ _ => rfl
  have hl := lv_entry ([.ref (a 128)]) (n := 1) (Nat.le_of_ble_eq_true rfl)
  rw [lg_entry_eq]
  generalize (lg_sl ([.ref (a 128)]) ++ List.replicate (1 - (lg_sl ([.ref (a 128)])).length) Slot.unset).toArray = ls at hl ⊢
  have hl : lv_has ls 1 [(0, .ref (a 128))] := hl
  refine lv_aload_n hx hb dX5_wipe_0 rfl (lv_at hl 0 rfl) ?_
  refine xgT_R_leads hx hb hts (fun _ h => List.mem_cons_of_mem _ (List.mem_append_right _ h)) hown hK hP (hts (.fieldLink RX5 9 "TalePlay$Roads" "leads" "[I") (List.mem_cons_of_mem _ (List.mem_append_left _ (List.mem_of_getElem? (i := 0) rfl)))) dX5_wipe_1 ?_
  refine lv_bipush (v := (-9)) hx hb dX5_wipe_4 (by decide +kernel) ?_
  have hPc := hP.sub (ws' := [(a 129, .inl (t 129, 300, .inl (c 129)))]) [22] rfl
  have hKc := hK.sub (tys' := [(t 129, .int)]) [17] rfl
  have hDc := hD.sub (ws' := [(a 129, .inl (t 129, 300, .inl (c 129)))]) [22] (by decide +kernel) rfl
  refine rw_callv (wr := ((xwT sk a t i q c d)).eraseIdx 22) (va_runS (As := [.ref (a 129), .int (-9)]) (rest := []) ⟨hx, hb, hml, hown, hts⟩ (c_fill2 l D s.heap.size (a 129) (t 129) 300 (c 129) ((-9) : Int32) (by decide +kernel)) (va_cwS 2 hts gm_X5_wipe_e_J7_fill_53178_50 rfl rfl rfl (by decide +kernel) ⟨Nat.le_of_ble_eq_true rfl, Nat.le_of_ble_eq_true rfl⟩) (pB_S hKc hPc hDc) rfl rfl hl.1 rfl (lv_room (Nat.le_of_ble_eq_true rfl)) dX5_wipe_6 ⟨Nat.le_of_ble_eq_true rfl, Nat.le_of_ble_eq_true rfl⟩) hS hA hK hP hD [22] [0, 1, 2, 3, 4, 5, 6, 7, 8, 9, 10, 11, 12, 13, 14, 15, 16, 17, 18, 19, 20, 21, 23, 24, 25, 26, 27, 28, 29, 30, 31, 32, 33, 34, 35, 36, 37, 38, 39, 40, 41, 42, 43, 44, 45, 46, 47, 48, 49, 50] rfl rfl (by decide +kernel) (by decide +kernel) (fun u1 H locs hw1 hK2 hP hD hS => ?_)
  have hP : va_P D vwCl (xwT sk a t i q (updF c 129 (fun _ => ((-9) : Int32))) d) H := hP.sub [0, 1, 2, 3, 4, 5, 6, 7, 8, 9, 10, 11, 12, 13, 14, 15, 16, 17, 18, 19, 20, 21, 50, 22, 23, 24, 25, 26, 27, 28, 29, 30, 31, 32, 33, 34, 35, 36, 37, 38, 39, 40, 41, 42, 43, 44, 45, 46, 47, 48, 49] rfl
  have hD : va_D A (xwT sk a t i q (updF c 129 (fun _ => ((-9) : Int32))) d) := hD.sub [0, 1, 2, 3, 4, 5, 6, 7, 8, 9, 10, 11, 12, 13, 14, 15, 16, 17, 18, 19, 20, 21, 50, 22, 23, 24, 25, 26, 27, 28, 29, 30, 31, 32, 33, 34, 35, 36, 37, 38, 39, 40, 41, 42, 43, 44, 45, 46, 47, 48, 49] (by decide +kernel) rfl
  have hI := xInv_f hI (k := 129) (f := (fun _ => ((-9) : Int32))) (fun j => show ((-9) : Int32).toInt = -9 ∨ (0 ≤ ((-9) : Int32).toInt ∧ ((-9) : Int32).toInt ≤ 29) from by have h9 : ((-9) : Int32).toInt = -9 := (by decide +kernel); omega)
  have hfc : ∀ k, k ∉ ([129] : List Nat) → (updF c 129 (fun _ => ((-9) : Int32))) k = c k := fr_f hfc (by decide +kernel) (by decide +kernel)
  refine lv_aload_n hx hb dX5_wipe_9 rfl (lv_at hl 0 rfl) ?_
  refine xgT_R_doors hx hb hts (fun _ h => List.mem_cons_of_mem _ (List.mem_append_right _ h)) hown hK hP (hts (.fieldLink RX5 15 "TalePlay$Roads" "doors" "[I") (List.mem_cons_of_mem _ (List.mem_append_left _ (List.mem_of_getElem? (i := 5) rfl)))) dX5_wipe_10 ?_
  refine lv_bipush (v := (-9)) hx hb dX5_wipe_13 (by decide +kernel) ?_
  have hPc := hP.sub (ws' := [(a 130, .inl (t 130, 300, .inl ((updF c 129 (fun _ => ((-9) : Int32))) 130)))]) [23] rfl
  have hKc := hK.sub (tys' := [(t 130, .int)]) [18] rfl
  have hDc := hD.sub (ws' := [(a 130, .inl (t 130, 300, .inl ((updF c 129 (fun _ => ((-9) : Int32))) 130)))]) [23] (by decide +kernel) rfl
  refine rw_callv (wr := ((xwT sk a t i q (updF c 129 (fun _ => ((-9) : Int32))) d)).eraseIdx 23) (va_runS (As := [.ref (a 130), .int (-9)]) (rest := []) ⟨hx, hb, hml, hown, hts⟩ (c_fill2 l D H.size (a 130) (t 130) 300 ((updF c 129 (fun _ => ((-9) : Int32))) 130) ((-9) : Int32) (by decide +kernel)) (va_cwS 2 hts gm_X5_wipe_e_J7_fill_53178_50 rfl rfl rfl (by decide +kernel) ⟨Nat.le_of_ble_eq_true rfl, Nat.le_of_ble_eq_true rfl⟩) (pB_S hKc hPc hDc) rfl rfl hl.1 rfl (lv_room (Nat.le_of_ble_eq_true rfl)) dX5_wipe_15 ⟨Nat.le_of_ble_eq_true rfl, Nat.le_of_ble_eq_true rfl⟩) hS hA hK hP hD [23] [0, 1, 2, 3, 4, 5, 6, 7, 8, 9, 10, 11, 12, 13, 14, 15, 16, 17, 18, 19, 20, 21, 22, 24, 25, 26, 27, 28, 29, 30, 31, 32, 33, 34, 35, 36, 37, 38, 39, 40, 41, 42, 43, 44, 45, 46, 47, 48, 49, 50] rfl rfl (by decide +kernel) (by decide +kernel) (fun u2 H locs hw2 hK2 hP hD hS => ?_)
  have hP : va_P D vwCl (xwT sk a t i q (updF (updF c 129 (fun _ => ((-9) : Int32))) 130 (fun _ => ((-9) : Int32))) d) H := hP.sub [0, 1, 2, 3, 4, 5, 6, 7, 8, 9, 10, 11, 12, 13, 14, 15, 16, 17, 18, 19, 20, 21, 22, 50, 23, 24, 25, 26, 27, 28, 29, 30, 31, 32, 33, 34, 35, 36, 37, 38, 39, 40, 41, 42, 43, 44, 45, 46, 47, 48, 49] rfl
  have hD : va_D A (xwT sk a t i q (updF (updF c 129 (fun _ => ((-9) : Int32))) 130 (fun _ => ((-9) : Int32))) d) := hD.sub [0, 1, 2, 3, 4, 5, 6, 7, 8, 9, 10, 11, 12, 13, 14, 15, 16, 17, 18, 19, 20, 21, 22, 50, 23, 24, 25, 26, 27, 28, 29, 30, 31, 32, 33, 34, 35, 36, 37, 38, 39, 40, 41, 42, 43, 44, 45, 46, 47, 48, 49] (by decide +kernel) rfl
  have hI := xInv_f hI (k := 130) (f := (fun _ => ((-9) : Int32))) (fun j => show ((-9) : Int32).toInt = -9 ∨ (0 ≤ ((-9) : Int32).toInt ∧ ((-9) : Int32).toInt ≤ 29) from by have h9 : ((-9) : Int32).toInt = -9 := (by decide +kernel); omega)
  have hfc : ∀ k, k ∉ ([129, 130] : List Nat) → (updF (updF c 129 (fun _ => ((-9) : Int32))) 130 (fun _ => ((-9) : Int32))) k = c k := fr_f hfc (by decide +kernel) (by decide +kernel)
  refine lv_aload_n hx hb dX5_wipe_18 rfl (lv_at hl 0 rfl) ?_
  refine xgT_R_bys hx hb hts (fun _ h => List.mem_cons_of_mem _ (List.mem_append_right _ h)) hown hK hP (hts (.fieldLink RX5 18 "TalePlay$Roads" "bys" "[I") (List.mem_cons_of_mem _ (List.mem_append_left _ (List.mem_of_getElem? (i := 6) rfl)))) dX5_wipe_19 ?_
  refine lv_bipush (v := (-9)) hx hb dX5_wipe_22 (by decide +kernel) ?_
  have hPc := hP.sub (ws' := [(a 131, .inl (t 131, 300, .inl ((updF (updF c 129 (fun _ => ((-9) : Int32))) 130 (fun _ => ((-9) : Int32))) 131)))]) [24] rfl
  have hKc := hK.sub (tys' := [(t 131, .int)]) [19] rfl
  have hDc := hD.sub (ws' := [(a 131, .inl (t 131, 300, .inl ((updF (updF c 129 (fun _ => ((-9) : Int32))) 130 (fun _ => ((-9) : Int32))) 131)))]) [24] (by decide +kernel) rfl
  refine rw_callv (wr := ((xwT sk a t i q (updF (updF c 129 (fun _ => ((-9) : Int32))) 130 (fun _ => ((-9) : Int32))) d)).eraseIdx 24) (va_runS (As := [.ref (a 131), .int (-9)]) (rest := []) ⟨hx, hb, hml, hown, hts⟩ (c_fill2 l D H.size (a 131) (t 131) 300 ((updF (updF c 129 (fun _ => ((-9) : Int32))) 130 (fun _ => ((-9) : Int32))) 131) ((-9) : Int32) (by decide +kernel)) (va_cwS 2 hts gm_X5_wipe_e_J7_fill_53178_50 rfl rfl rfl (by decide +kernel) ⟨Nat.le_of_ble_eq_true rfl, Nat.le_of_ble_eq_true rfl⟩) (pB_S hKc hPc hDc) rfl rfl hl.1 rfl (lv_room (Nat.le_of_ble_eq_true rfl)) dX5_wipe_24 ⟨Nat.le_of_ble_eq_true rfl, Nat.le_of_ble_eq_true rfl⟩) hS hA hK hP hD [24] [0, 1, 2, 3, 4, 5, 6, 7, 8, 9, 10, 11, 12, 13, 14, 15, 16, 17, 18, 19, 20, 21, 22, 23, 25, 26, 27, 28, 29, 30, 31, 32, 33, 34, 35, 36, 37, 38, 39, 40, 41, 42, 43, 44, 45, 46, 47, 48, 49, 50] rfl rfl (by decide +kernel) (by decide +kernel) (fun u3 H locs hw3 hK2 hP hD hS => ?_)
  have hP : va_P D vwCl (xwT sk a t i q (updF (updF (updF c 129 (fun _ => ((-9) : Int32))) 130 (fun _ => ((-9) : Int32))) 131 (fun _ => ((-9) : Int32))) d) H := hP.sub [0, 1, 2, 3, 4, 5, 6, 7, 8, 9, 10, 11, 12, 13, 14, 15, 16, 17, 18, 19, 20, 21, 22, 23, 50, 24, 25, 26, 27, 28, 29, 30, 31, 32, 33, 34, 35, 36, 37, 38, 39, 40, 41, 42, 43, 44, 45, 46, 47, 48, 49] rfl
  have hD : va_D A (xwT sk a t i q (updF (updF (updF c 129 (fun _ => ((-9) : Int32))) 130 (fun _ => ((-9) : Int32))) 131 (fun _ => ((-9) : Int32))) d) := hD.sub [0, 1, 2, 3, 4, 5, 6, 7, 8, 9, 10, 11, 12, 13, 14, 15, 16, 17, 18, 19, 20, 21, 22, 23, 50, 24, 25, 26, 27, 28, 29, 30, 31, 32, 33, 34, 35, 36, 37, 38, 39, 40, 41, 42, 43, 44, 45, 46, 47, 48, 49] (by decide +kernel) rfl
  have hI := xInv_f hI (k := 131) (f := (fun _ => ((-9) : Int32))) (fun j => show ((-9) : Int32).toInt = -9 ∨ (0 ≤ ((-9) : Int32).toInt ∧ ((-9) : Int32).toInt ≤ 199) from by have h9 : ((-9) : Int32).toInt = -9 := (by decide +kernel); omega)
  have hfc : ∀ k, k ∉ ([129, 130, 131] : List Nat) → (updF (updF (updF c 129 (fun _ => ((-9) : Int32))) 130 (fun _ => ((-9) : Int32))) 131 (fun _ => ((-9) : Int32))) k = c k := fr_f hfc (by decide +kernel) (by decide +kernel)
  refine lv_aload_n hx hb dX5_wipe_27 rfl (lv_at hl 0 rfl) ?_
  refine xgT_R_implied hx hb hts (fun _ h => List.mem_cons_of_mem _ (List.mem_append_right _ h)) hown hK hP (hts (.fieldLink RX5 21 "TalePlay$Roads" "implied" "[I") (List.mem_cons_of_mem _ (List.mem_append_left _ (List.mem_of_getElem? (i := 7) rfl)))) dX5_wipe_28 ?_
  refine lv_iconst (v := 0) hx hb dX5_wipe_31 (by decide +kernel) ?_
  have hPc := hP.sub (ws' := [(a 132, .inl (t 132, 300, .inl ((updF (updF (updF c 129 (fun _ => ((-9) : Int32))) 130 (fun _ => ((-9) : Int32))) 131 (fun _ => ((-9) : Int32))) 132)))]) [25] rfl
  have hKc := hK.sub (tys' := [(t 132, .int)]) [20] rfl
  have hDc := hD.sub (ws' := [(a 132, .inl (t 132, 300, .inl ((updF (updF (updF c 129 (fun _ => ((-9) : Int32))) 130 (fun _ => ((-9) : Int32))) 131 (fun _ => ((-9) : Int32))) 132)))]) [25] (by decide +kernel) rfl
  refine rw_callv (wr := ((xwT sk a t i q (updF (updF (updF c 129 (fun _ => ((-9) : Int32))) 130 (fun _ => ((-9) : Int32))) 131 (fun _ => ((-9) : Int32))) d)).eraseIdx 25) (va_runS (As := [.ref (a 132), .int 0]) (rest := []) ⟨hx, hb, hml, hown, hts⟩ (c_fill2 l D H.size (a 132) (t 132) 300 ((updF (updF (updF c 129 (fun _ => ((-9) : Int32))) 130 (fun _ => ((-9) : Int32))) 131 (fun _ => ((-9) : Int32))) 132) (0 : Int32) (by decide +kernel)) (va_cwS 2 hts gm_X5_wipe_e_J7_fill_53178_50 rfl rfl rfl (by decide +kernel) ⟨Nat.le_of_ble_eq_true rfl, Nat.le_of_ble_eq_true rfl⟩) (pB_S hKc hPc hDc) rfl rfl hl.1 rfl (lv_room (Nat.le_of_ble_eq_true rfl)) dX5_wipe_32 ⟨Nat.le_of_ble_eq_true rfl, Nat.le_of_ble_eq_true rfl⟩) hS hA hK hP hD [25] [0, 1, 2, 3, 4, 5, 6, 7, 8, 9, 10, 11, 12, 13, 14, 15, 16, 17, 18, 19, 20, 21, 22, 23, 24, 26, 27, 28, 29, 30, 31, 32, 33, 34, 35, 36, 37, 38, 39, 40, 41, 42, 43, 44, 45, 46, 47, 48, 49, 50] rfl rfl (by decide +kernel) (by decide +kernel) (fun u4 H locs hw4 hK2 hP hD hS => ?_)
  have hP : va_P D vwCl (xwT sk a t i q (updF (updF (updF (updF c 129 (fun _ => ((-9) : Int32))) 130 (fun _ => ((-9) : Int32))) 131 (fun _ => ((-9) : Int32))) 132 (fun _ => (0 : Int32))) d) H := hP.sub [0, 1, 2, 3, 4, 5, 6, 7, 8, 9, 10, 11, 12, 13, 14, 15, 16, 17, 18, 19, 20, 21, 22, 23, 24, 50, 25, 26, 27, 28, 29, 30, 31, 32, 33, 34, 35, 36, 37, 38, 39, 40, 41, 42, 43, 44, 45, 46, 47, 48, 49] rfl
  have hD : va_D A (xwT sk a t i q (updF (updF (updF (updF c 129 (fun _ => ((-9) : Int32))) 130 (fun _ => ((-9) : Int32))) 131 (fun _ => ((-9) : Int32))) 132 (fun _ => (0 : Int32))) d) := hD.sub [0, 1, 2, 3, 4, 5, 6, 7, 8, 9, 10, 11, 12, 13, 14, 15, 16, 17, 18, 19, 20, 21, 22, 23, 24, 50, 25, 26, 27, 28, 29, 30, 31, 32, 33, 34, 35, 36, 37, 38, 39, 40, 41, 42, 43, 44, 45, 46, 47, 48, 49] (by decide +kernel) rfl
  have hI := xInv_f hI (k := 132) (f := (fun _ => (0 : Int32))) (fun j => show 0 ≤ (0 : Int32).toInt ∧ (0 : Int32).toInt ≤ 1 from by have h9 : (0 : Int32).toInt = 0 := (by decide +kernel); omega)
  have hfc : ∀ k, k ∉ ([129, 130, 131, 132] : List Nat) → (updF (updF (updF (updF c 129 (fun _ => ((-9) : Int32))) 130 (fun _ => ((-9) : Int32))) 131 (fun _ => ((-9) : Int32))) 132 (fun _ => (0 : Int32))) k = c k := fr_f hfc (by decide +kernel) (by decide +kernel)
  refine lv_aload_n hx hb dX5_wipe_35 rfl (lv_at hl 0 rfl) ?_
  refine xgT_R_firstSides hx hb hts (fun _ h => List.mem_cons_of_mem _ (List.mem_append_right _ h)) hown hK hP (hts (.fieldLink RX5 24 "TalePlay$Roads" "firstSides" "[I") (List.mem_cons_of_mem _ (List.mem_append_left _ (List.mem_of_getElem? (i := 8) rfl)))) dX5_wipe_36 ?_
  refine lv_bipush (v := (-9)) hx hb dX5_wipe_39 (by decide +kernel) ?_
  have hPc := hP.sub (ws' := [(a 133, .inl (t 133, 30, .inl ((updF (updF (updF (updF c 129 (fun _ => ((-9) : Int32))) 130 (fun _ => ((-9) : Int32))) 131 (fun _ => ((-9) : Int32))) 132 (fun _ => (0 : Int32))) 133)))]) [26] rfl
  have hKc := hK.sub (tys' := [(t 133, .int)]) [21] rfl
  have hDc := hD.sub (ws' := [(a 133, .inl (t 133, 30, .inl ((updF (updF (updF (updF c 129 (fun _ => ((-9) : Int32))) 130 (fun _ => ((-9) : Int32))) 131 (fun _ => ((-9) : Int32))) 132 (fun _ => (0 : Int32))) 133)))]) [26] (by decide +kernel) rfl
  refine rw_callv (wr := ((xwT sk a t i q (updF (updF (updF (updF c 129 (fun _ => ((-9) : Int32))) 130 (fun _ => ((-9) : Int32))) 131 (fun _ => ((-9) : Int32))) 132 (fun _ => (0 : Int32))) d)).eraseIdx 26) (va_runS (As := [.ref (a 133), .int (-9)]) (rest := []) ⟨hx, hb, hml, hown, hts⟩ (c_fill2 l D H.size (a 133) (t 133) 30 ((updF (updF (updF (updF c 129 (fun _ => ((-9) : Int32))) 130 (fun _ => ((-9) : Int32))) 131 (fun _ => ((-9) : Int32))) 132 (fun _ => (0 : Int32))) 133) ((-9) : Int32) (by decide +kernel)) (va_cwS 2 hts gm_X5_wipe_e_J7_fill_53178_50 rfl rfl rfl (by decide +kernel) ⟨Nat.le_of_ble_eq_true rfl, Nat.le_of_ble_eq_true rfl⟩) (pB_S hKc hPc hDc) rfl rfl hl.1 rfl (lv_room (Nat.le_of_ble_eq_true rfl)) dX5_wipe_41 ⟨Nat.le_of_ble_eq_true rfl, Nat.le_of_ble_eq_true rfl⟩) hS hA hK hP hD [26] [0, 1, 2, 3, 4, 5, 6, 7, 8, 9, 10, 11, 12, 13, 14, 15, 16, 17, 18, 19, 20, 21, 22, 23, 24, 25, 27, 28, 29, 30, 31, 32, 33, 34, 35, 36, 37, 38, 39, 40, 41, 42, 43, 44, 45, 46, 47, 48, 49, 50] rfl rfl (by decide +kernel) (by decide +kernel) (fun u5 H locs hw5 hK2 hP hD hS => ?_)
  have hP : va_P D vwCl (xwT sk a t i q (updF (updF (updF (updF (updF c 129 (fun _ => ((-9) : Int32))) 130 (fun _ => ((-9) : Int32))) 131 (fun _ => ((-9) : Int32))) 132 (fun _ => (0 : Int32))) 133 (fun _ => ((-9) : Int32))) d) H := hP.sub [0, 1, 2, 3, 4, 5, 6, 7, 8, 9, 10, 11, 12, 13, 14, 15, 16, 17, 18, 19, 20, 21, 22, 23, 24, 25, 50, 26, 27, 28, 29, 30, 31, 32, 33, 34, 35, 36, 37, 38, 39, 40, 41, 42, 43, 44, 45, 46, 47, 48, 49] rfl
  have hD : va_D A (xwT sk a t i q (updF (updF (updF (updF (updF c 129 (fun _ => ((-9) : Int32))) 130 (fun _ => ((-9) : Int32))) 131 (fun _ => ((-9) : Int32))) 132 (fun _ => (0 : Int32))) 133 (fun _ => ((-9) : Int32))) d) := hD.sub [0, 1, 2, 3, 4, 5, 6, 7, 8, 9, 10, 11, 12, 13, 14, 15, 16, 17, 18, 19, 20, 21, 22, 23, 24, 25, 50, 26, 27, 28, 29, 30, 31, 32, 33, 34, 35, 36, 37, 38, 39, 40, 41, 42, 43, 44, 45, 46, 47, 48, 49] (by decide +kernel) rfl
  have hI := xInv_f hI (k := 133) (f := (fun _ => ((-9) : Int32))) (fun j => show ((-9) : Int32).toInt = -9 ∨ (0 ≤ ((-9) : Int32).toInt ∧ ((-9) : Int32).toInt ≤ 29) from by have h9 : ((-9) : Int32).toInt = -9 := (by decide +kernel); omega)
  have hfc : ∀ k, k ∉ ([129, 130, 131, 132, 133] : List Nat) → (updF (updF (updF (updF (updF c 129 (fun _ => ((-9) : Int32))) 130 (fun _ => ((-9) : Int32))) 131 (fun _ => ((-9) : Int32))) 132 (fun _ => (0 : Int32))) 133 (fun _ => ((-9) : Int32))) k = c k := fr_f hfc (by decide +kernel) (by decide +kernel)
  refine lv_aload_n hx hb dX5_wipe_44 rfl (lv_at hl 0 rfl) ?_
  refine xgT_R_secondSides hx hb hts (fun _ h => List.mem_cons_of_mem _ (List.mem_append_right _ h)) hown hK hP (hts (.fieldLink RX5 27 "TalePlay$Roads" "secondSides" "[I") (List.mem_cons_of_mem _ (List.mem_append_left _ (List.mem_of_getElem? (i := 9) rfl)))) dX5_wipe_45 ?_
  refine lv_bipush (v := (-9)) hx hb dX5_wipe_48 (by decide +kernel) ?_
  have hPc := hP.sub (ws' := [(a 134, .inl (t 134, 30, .inl ((updF (updF (updF (updF (updF c 129 (fun _ => ((-9) : Int32))) 130 (fun _ => ((-9) : Int32))) 131 (fun _ => ((-9) : Int32))) 132 (fun _ => (0 : Int32))) 133 (fun _ => ((-9) : Int32))) 134)))]) [27] rfl
  have hKc := hK.sub (tys' := [(t 134, .int)]) [22] rfl
  have hDc := hD.sub (ws' := [(a 134, .inl (t 134, 30, .inl ((updF (updF (updF (updF (updF c 129 (fun _ => ((-9) : Int32))) 130 (fun _ => ((-9) : Int32))) 131 (fun _ => ((-9) : Int32))) 132 (fun _ => (0 : Int32))) 133 (fun _ => ((-9) : Int32))) 134)))]) [27] (by decide +kernel) rfl
  refine rw_callv (wr := ((xwT sk a t i q (updF (updF (updF (updF (updF c 129 (fun _ => ((-9) : Int32))) 130 (fun _ => ((-9) : Int32))) 131 (fun _ => ((-9) : Int32))) 132 (fun _ => (0 : Int32))) 133 (fun _ => ((-9) : Int32))) d)).eraseIdx 27) (va_runS (As := [.ref (a 134), .int (-9)]) (rest := []) ⟨hx, hb, hml, hown, hts⟩ (c_fill2 l D H.size (a 134) (t 134) 30 ((updF (updF (updF (updF (updF c 129 (fun _ => ((-9) : Int32))) 130 (fun _ => ((-9) : Int32))) 131 (fun _ => ((-9) : Int32))) 132 (fun _ => (0 : Int32))) 133 (fun _ => ((-9) : Int32))) 134) ((-9) : Int32) (by decide +kernel)) (va_cwS 2 hts gm_X5_wipe_e_J7_fill_53178_50 rfl rfl rfl (by decide +kernel) ⟨Nat.le_of_ble_eq_true rfl, Nat.le_of_ble_eq_true rfl⟩) (pB_S hKc hPc hDc) rfl rfl hl.1 rfl (lv_room (Nat.le_of_ble_eq_true rfl)) dX5_wipe_50 ⟨Nat.le_of_ble_eq_true rfl, Nat.le_of_ble_eq_true rfl⟩) hS hA hK hP hD [27] [0, 1, 2, 3, 4, 5, 6, 7, 8, 9, 10, 11, 12, 13, 14, 15, 16, 17, 18, 19, 20, 21, 22, 23, 24, 25, 26, 28, 29, 30, 31, 32, 33, 34, 35, 36, 37, 38, 39, 40, 41, 42, 43, 44, 45, 46, 47, 48, 49, 50] rfl rfl (by decide +kernel) (by decide +kernel) (fun u6 H locs hw6 hK2 hP hD hS => ?_)
  have hP : va_P D vwCl (xwT sk a t i q (updF (updF (updF (updF (updF (updF c 129 (fun _ => ((-9) : Int32))) 130 (fun _ => ((-9) : Int32))) 131 (fun _ => ((-9) : Int32))) 132 (fun _ => (0 : Int32))) 133 (fun _ => ((-9) : Int32))) 134 (fun _ => ((-9) : Int32))) d) H := hP.sub [0, 1, 2, 3, 4, 5, 6, 7, 8, 9, 10, 11, 12, 13, 14, 15, 16, 17, 18, 19, 20, 21, 22, 23, 24, 25, 26, 50, 27, 28, 29, 30, 31, 32, 33, 34, 35, 36, 37, 38, 39, 40, 41, 42, 43, 44, 45, 46, 47, 48, 49] rfl
  have hD : va_D A (xwT sk a t i q (updF (updF (updF (updF (updF (updF c 129 (fun _ => ((-9) : Int32))) 130 (fun _ => ((-9) : Int32))) 131 (fun _ => ((-9) : Int32))) 132 (fun _ => (0 : Int32))) 133 (fun _ => ((-9) : Int32))) 134 (fun _ => ((-9) : Int32))) d) := hD.sub [0, 1, 2, 3, 4, 5, 6, 7, 8, 9, 10, 11, 12, 13, 14, 15, 16, 17, 18, 19, 20, 21, 22, 23, 24, 25, 26, 50, 27, 28, 29, 30, 31, 32, 33, 34, 35, 36, 37, 38, 39, 40, 41, 42, 43, 44, 45, 46, 47, 48, 49] (by decide +kernel) rfl
  have hI := xInv_f hI (k := 134) (f := (fun _ => ((-9) : Int32))) (fun j => show ((-9) : Int32).toInt = -9 ∨ (0 ≤ ((-9) : Int32).toInt ∧ ((-9) : Int32).toInt ≤ 29) from by have h9 : ((-9) : Int32).toInt = -9 := (by decide +kernel); omega)
  have hfc : ∀ k, k ∉ ([129, 130, 131, 132, 133, 134] : List Nat) → (updF (updF (updF (updF (updF (updF c 129 (fun _ => ((-9) : Int32))) 130 (fun _ => ((-9) : Int32))) 131 (fun _ => ((-9) : Int32))) 132 (fun _ => (0 : Int32))) 133 (fun _ => ((-9) : Int32))) 134 (fun _ => ((-9) : Int32))) k = c k := fr_f hfc (by decide +kernel) (by decide +kernel)
  exact rw_vret (i, q, (updF (updF (updF (updF (updF (updF c 129 (fun _ => ((-9) : Int32))) 130 (fun _ => ((-9) : Int32))) 131 (fun _ => ((-9) : Int32))) 132 (fun _ => (0 : Int32))) 133 (fun _ => ((-9) : Int32))) 134 (fun _ => ((-9) : Int32))), d) hx hb hr hlocks hS (hK.sub (tys' := []) [] rfl) hP hD dX5_wipe_53 ⟨trivial, hI, fr_w hfi (by decide +kernel), fr_w hfc (by decide +kernel), (show WpD ((updF (updF (updF (updF (updF (updF c 129 (fun _ => ((-9) : Int32))) 130 (fun _ => ((-9) : Int32))) 131 (fun _ => ((-9) : Int32))) 132 (fun _ => (0 : Int32))) 133 (fun _ => ((-9) : Int32))) 134 (fun _ => ((-9) : Int32))) 131) ((updF (updF (updF (updF (updF (updF c 129 (fun _ => ((-9) : Int32))) 130 (fun _ => ((-9) : Int32))) 131 (fun _ => ((-9) : Int32))) 132 (fun _ => (0 : Int32))) 133 (fun _ => ((-9) : Int32))) 134 (fun _ => ((-9) : Int32))) 129) ((updF (updF (updF (updF (updF (updF c 129 (fun _ => ((-9) : Int32))) 130 (fun _ => ((-9) : Int32))) 131 (fun _ => ((-9) : Int32))) 132 (fun _ => (0 : Int32))) 133 (fun _ => ((-9) : Int32))) 134 (fun _ => ((-9) : Int32))) 130) ((updF (updF (updF (updF (updF (updF c 129 (fun _ => ((-9) : Int32))) 130 (fun _ => ((-9) : Int32))) 131 (fun _ => ((-9) : Int32))) 132 (fun _ => (0 : Int32))) 133 (fun _ => ((-9) : Int32))) 134 (fun _ => ((-9) : Int32))) 133) ((updF (updF (updF (updF (updF (updF c 129 (fun _ => ((-9) : Int32))) 130 (fun _ => ((-9) : Int32))) 131 (fun _ => ((-9) : Int32))) 132 (fun _ => (0 : Int32))) 133 (fun _ => ((-9) : Int32))) 134 (fun _ => ((-9) : Int32))) 134) from fun _ => ⟨(show ((-9) : Int32).toInt = -9 from by decide), (show ((-9) : Int32).toInt = -9 from by decide), (show ((-9) : Int32).toInt = -9 from by decide), (show ((-9) : Int32).toInt = -9 from by decide), (show ((-9) : Int32).toInt = -9 from by decide)⟩), (show Zr ((updF (updF (updF (updF (updF (updF c 129 (fun _ => ((-9) : Int32))) 130 (fun _ => ((-9) : Int32))) 131 (fun _ => ((-9) : Int32))) 132 (fun _ => (0 : Int32))) 133 (fun _ => ((-9) : Int32))) 134 (fun _ => ((-9) : Int32))) 132) from fun _ => (show (0 : Int32).toInt = 0 from by decide))⟩

