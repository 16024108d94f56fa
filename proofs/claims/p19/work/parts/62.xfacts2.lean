/-! facts of tales -/
theorem cl_e {x y : Int32} (h : x.toInt = y.toInt) : x.toNatClampNeg = y.toNatClampNeg := by show x.toInt.toNat = y.toInt.toNat; rw [h]
/-- the sort of an object, if it is one -/
def SO (so ko : Nat → Int32) (n w r : Int) : Prop := (0 ≤ w ∧ w < n ∧ r = (so (ko w.toNat).toNatClampNeg).toInt) ∨ (¬ (0 ≤ w ∧ w < n) ∧ r = -9)
theorem SO_u {so ko : Nat → Int32} {n w r r2 : Int} (h : SO so ko n w r) (h2 : SO so ko n w r2) : r = r2 := by
  rcases h with ⟨a, b, e⟩ | ⟨a, e⟩ <;> rcases h2 with ⟨a2, b2, e2⟩ | ⟨a2, e2⟩
  · rw [e, e2]
  · exact absurd ⟨a, b⟩ a2
  · exact absurd ⟨a2, b2⟩ a
  · rw [e, e2]
theorem SO_y {so ko : Nat → Int32} {n : Int} {w x y : Int32} (h0 : 0 ≤ w.toInt) (h1 : w.toInt < n) (ex : x = ko w.toNatClampNeg) (ey : y = so x.toNatClampNeg) : SO so ko n w.toInt y.toInt := Or.inl ⟨h0, h1, by rw [ey, ex]; rfl⟩
theorem SO_n {so ko : Nat → Int32} {n w : Int} (h : ¬ (0 ≤ w ∧ w < n)) : SO so ko n w (-9) := Or.inr ⟨h, rfl⟩
/-- a row of cells filled one by one: what is said of one of them -/
theorem Im_st {f : Nat → Int32} {x y w v : Int32} (h : Im (w.toInt < x.toInt) (¬ (f w.toNatClampNeg).toInt % 256 = 255)) (hx : 0 ≤ x.toInt) (hw : 0 ≤ w.toInt) (ey : y.toInt = x.toInt + 1) (hv : w.toInt = x.toInt → ¬ v.toInt % 256 = 255) : Im (w.toInt < y.toInt) (¬ (upd f x.toNatClampNeg v w.toNatClampNeg).toInt % 256 = 255) := by
  intro hl
  by_cases e : w.toInt = x.toInt
  · rw [cl_e e, pk_us]; exact hv e
  · rw [pk_un (fun q => e (by have h1 : w.toInt.toNat = x.toInt.toNat := q; omega))]
    exact h (by omega)
theorem PJ_0 {th pl tp tu : Int32} {cs sb fc : Nat → Int32} (h : th.toInt = 0) : PJ th pl tp tu cs sb fc := fun q => by omega
theorem PJ_en {th tu th2 tu2 pl tp : Int32} {cs sb fc : Nat → Int32} (h : PJ th pl tp tu cs sb fc) (e : xEn th tu th2 tu2) : PJ th2 pl tp tu2 cs sb fc := by
  rcases e with e | ⟨e1, e2⟩
  · exact PJ_0 e
  · rw [e1, e2]; exact h
theorem PJ_st {th pl tu : Int32} {cs sb fc : Nat → Int32} (h0 : 0 ≤ pl.toInt ∧ pl.toInt ≤ 29) (h1 : ¬ (cs pl.toNatClampNeg).toInt % 256 = 255) (h2 : tu.toInt = 0) : PJ th pl pl tu cs sb fc := fun _ => ⟨h0.1, h0.2, rfl, h1, fun j hj => by omega⟩
theorem PJ_do {th pl tp tu tu2 sj fm ou : Int32} {cs sb fc : Nat → Int32} (h : PJ th pl tp tu cs sb fc) (h1 : th.toInt = 1) (h0 : 0 ≤ tu.toInt) (e2 : tu2.toInt = tu.toInt + 1) (hs : 0 ≤ sj.toInt) (ef : fm = cs sj.toNatClampNeg) (ho : sj = pl → ¬ ou.toInt % 256 = 255) : PJ th pl tp tu2 (upd cs sj.toNatClampNeg ou) (upd sb tu.toNatClampNeg sj) (upd fc tu.toNatClampNeg fm) := by
  intro _
  obtain ⟨p1, p2, p3, p4, p5⟩ := h h1
  refine ⟨p1, p2, p3, ?_, fun j hj hsj => ?_⟩
  · by_cases e : sj = pl
    · rw [e, pk_us]; exact ho e
    · rw [pk_un (fun q => e (Int32.toInt_inj.mp (by have q : pl.toInt.toNat = sj.toInt.toNat := q; omega)))]; exact p4
  · by_cases e : j = tu.toNatClampNeg
    · subst e
      rw [pk_us] at hsj ⊢
      rw [ef, hsj]; exact p4
    · rw [pk_un e] at hsj ⊢
      exact p5 j (by have q : ¬ j = tu.toInt.toNat := e; omega) hsj
theorem PJ_un {th pl tp tu tu2 x y : Int32} {cs sb fc : Nat → Int32} (h : PJ th pl tp tu cs sb fc) (h0 : 1 ≤ tu.toInt) (e2 : tu2.toInt = tu.toInt - 1) (ex : x = sb tu2.toNatClampNeg) (ey : y = fc tu2.toNatClampNeg) (hx : 0 ≤ x.toInt) : PJ th pl tp tu2 (upd cs x.toNatClampNeg y) sb fc := by
  intro h1
  obtain ⟨p1, p2, p3, p4, p5⟩ := h h1
  refine ⟨p1, p2, p3, ?_, fun j hj hsj => p5 j (by omega) hsj⟩
  have hl : ((tu2.toNatClampNeg : Nat) : Int) < tu.toInt := by
    show ((tu2.toInt.toNat : Nat) : Int) < tu.toInt
    omega
  by_cases e : x = pl
  · rw [e, pk_us, ey]; exact p5 _ hl (by rw [← ex]; exact e)
  · rw [pk_un (fun q => e (Int32.toInt_inj.mp (by have q : pl.toInt.toNat = x.toInt.toNat := q; omega)))]; exact p4

