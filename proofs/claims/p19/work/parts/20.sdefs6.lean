/-! acts, and states that are kept -/
/-- rows of old places: those before row T as they were, row T up to m as F, A -/
def RW (w v w0 v0 F A : Nat → Int32) (T : Nat) (m : Int) : Prop := (∀ j, (j < 30 * T ∨ 30 * T + 30 ≤ j) → w j = w0 j ∧ v j = v0 j) ∧ ∀ j : Nat, (j : Int) < m → w (30 * T + j) = F j ∧ v (30 * T + j) = A j
theorem RW_0 {w v F A : Nat → Int32} {T : Nat} {x : Int32} (h : x.toInt = 0) : RW w v w v F A T x.toInt := ⟨fun _ _ => ⟨rfl, rfl⟩, fun j hj => by omega⟩
theorem RW_a {w v w0 v0 F A : Nat → Int32} {T x y a b p q : Int32} (h : RW w v w0 v0 F A T.toInt.toNat x.toInt) (hT : 0 ≤ T.toInt) (h0 : 0 ≤ x.toInt ∧ x.toInt < 30) (hy : y.toInt = x.toInt + 1) (ha : a.toInt = 30 * T.toInt + x.toInt) (hb : b.toInt = 30 * T.toInt + x.toInt) (ep : p = F x.toNatClampNeg) (eq : q = A x.toNatClampNeg) : RW (upd w a.toNatClampNeg p) (upd v b.toNatClampNeg q) w0 v0 F A T.toInt.toNat y.toInt := by
  show RW (upd w a.toInt.toNat p) (upd v b.toInt.toNat q) w0 v0 F A T.toInt.toNat y.toInt
  have ep : p = F x.toInt.toNat := ep
  have eq : q = A x.toInt.toNat := eq
  constructor
  · intro j hj
    rw [pk_un (show ¬ j = a.toInt.toNat by omega), pk_un (show ¬ j = b.toInt.toNat by omega)]
    exact h.1 j hj
  · intro j hj
    by_cases e : j = x.toInt.toNat
    · rw [show 30 * T.toInt.toNat + j = a.toInt.toNat by omega, pk_us, show a.toInt.toNat = b.toInt.toNat by omega, pk_us, e]
      exact ⟨ep, eq⟩
    · rw [pk_un (show ¬ 30 * T.toInt.toNat + j = a.toInt.toNat by omega), pk_un (show ¬ 30 * T.toInt.toNat + j = b.toInt.toNat by omega)]
      exact h.2 j (by omega)
/-- the turn is kept, then the places change -/
theorem TJ_act {pa ko F A w v w0 v0 F2 A2 : Nat → Int32} {N p : Int} {T : Int32} {t2 : Int} (h : TJ pa ko F A w0 v0 N p T.toInt) (hp : ¬ p = -9) (hN : N ≤ 30) (hT : 0 ≤ T.toInt) (ht : t2 = T.toInt + 1) (hR : RW w v w0 v0 F A T.toInt.toNat 30) (h2 : TI N (fun z => Kd pa ko z 0) p F2 A2) : TJ pa ko F2 A2 w v N p t2 := by
  intro q
  refine ⟨(h q).1, h2, fun t htt => ?_⟩
  by_cases e : t = T.toInt.toNat
  · refine TI_ext (h q).2.1 (fun j hj => ?_)
    rw [e]
    exact hR.2 j (by omega)
  · refine TI_ext ((h q).2.2 t (by omega)) (fun j hj => ?_)
    exact hR.1 (30 * t + j) (Or.inl (by omega))
/-- places given back out of row T -/
def GB (F A w v : Nat → Int32) (T : Nat) (m : Int) : Prop := ∀ j : Nat, (j : Int) < m → F j = w (30 * T + j) ∧ A j = v (30 * T + j)
theorem GB_0 {F A w v : Nat → Int32} {T : Nat} {x : Int32} (h : x.toInt = 0) : GB F A w v T x.toInt := fun j hj => by omega
theorem GB_a {F A w v : Nat → Int32} {T x y a b p q : Int32} (h : GB F A w v T.toInt.toNat x.toInt) (hT : 0 ≤ T.toInt) (h0 : 0 ≤ x.toInt) (hy : y.toInt = x.toInt + 1) (ha : a.toInt = 30 * T.toInt + x.toInt) (hb : b.toInt = 30 * T.toInt + x.toInt) (ep : p = w a.toNatClampNeg) (eq : q = v b.toNatClampNeg) : GB (upd F x.toNatClampNeg p) (upd A x.toNatClampNeg q) w v T.toInt.toNat y.toInt := by
  show GB (upd F x.toInt.toNat p) (upd A x.toInt.toNat q) w v T.toInt.toNat y.toInt
  have ep : p = w a.toInt.toNat := ep
  have eq : q = v b.toInt.toNat := eq
  intro j hj
  by_cases e : j = x.toInt.toNat
  · rw [e, pk_us, pk_us, show 30 * T.toInt.toNat + x.toInt.toNat = a.toInt.toNat by omega]
    exact ⟨ep, by rw [eq, show a.toInt.toNat = b.toInt.toNat by omega]⟩
  · rw [pk_un e, pk_un e]; exact h j (by omega)
theorem TJ_back {pa ko F A w v F2 A2 : Nat → Int32} {N p T : Int} {x t : Int32} (h : TJ pa ko F A w v N p T) (hN : N ≤ 30) (ht : t.toInt = T - 1) (h0 : 0 ≤ t.toInt) (hG : GB F2 A2 w v t.toInt.toNat x.toInt) (hx : 30 ≤ x.toInt) {t2 : Int} (ht2 : t2 = t.toInt) : TJ pa ko F2 A2 w v N p t2 := by
  intro q
  refine ⟨(h q).1, ?_, fun t3 h3 => (h q).2.2 t3 (by omega)⟩
  exact TI_ext ((h q).2.2 t.toInt.toNat (by omega)) (fun j hj => hG j (by omega))

