theorem upR {P : Int → Prop} {f : Nat → Int32} {k : Nat} {x : Int32} (h : ∀ j, P (f j).toInt) (hx : P x.toInt) : ∀ j, P (upd f k x j).toInt := fun j => by
  by_cases e : j = k
  · subst e; rw [pk_us]; exact hx
  · rw [pk_un e]; exact h j

theorem xR_0 (k : Nat) (h : ¬ k = 110) : xR k (0 : Int32).toInt := by
  unfold xR
  split <;> first | trivial | decide | (exact absurd rfl h)
theorem xIB : xInv iBX (fun _ _ => 0) := by
  refine ⟨fun k => ?_, fun k j => xE_0 k j⟩
  by_cases e : k = 110
  · subst e
    exact (show 6 ≤ (6 : Int32).toInt ∧ (6 : Int32).toInt ≤ 24 from by decide)
  · have z : iBX k = 0 := if_neg e
    rw [z]; exact xR_0 k e
theorem fpX_r : ∀ j, (fun v : Int => v = -9 ∨ (0 ≤ v ∧ v ≤ 23)) (fpX j).toInt := (upR (P := (fun v : Int => v = -9 ∨ (0 ≤ v ∧ v ≤ 23))) (f := (upd (upd (upd (upd (upd (fun _ => 0) (0 : Int32).toNatClampNeg (-9)) (1 : Int32).toNatClampNeg (-9)) (2 : Int32).toNatClampNeg 1) (3 : Int32).toNatClampNeg 1) (4 : Int32).toNatClampNeg 1)) (k := (5 : Int32).toNatClampNeg) (x := 1) (upR (P := (fun v : Int => v = -9 ∨ (0 ≤ v ∧ v ≤ 23))) (f := (upd (upd (upd (upd (fun _ => 0) (0 : Int32).toNatClampNeg (-9)) (1 : Int32).toNatClampNeg (-9)) (2 : Int32).toNatClampNeg 1) (3 : Int32).toNatClampNeg 1)) (k := (4 : Int32).toNatClampNeg) (x := 1) (upR (P := (fun v : Int => v = -9 ∨ (0 ≤ v ∧ v ≤ 23))) (f := (upd (upd (upd (fun _ => 0) (0 : Int32).toNatClampNeg (-9)) (1 : Int32).toNatClampNeg (-9)) (2 : Int32).toNatClampNeg 1)) (k := (3 : Int32).toNatClampNeg) (x := 1) (upR (P := (fun v : Int => v = -9 ∨ (0 ≤ v ∧ v ≤ 23))) (f := (upd (upd (fun _ => 0) (0 : Int32).toNatClampNeg (-9)) (1 : Int32).toNatClampNeg (-9))) (k := (2 : Int32).toNatClampNeg) (x := 1) (upR (P := (fun v : Int => v = -9 ∨ (0 ≤ v ∧ v ≤ 23))) (f := (upd (fun _ => 0) (0 : Int32).toNatClampNeg (-9))) (k := (1 : Int32).toNatClampNeg) (x := (-9)) (upR (P := (fun v : Int => v = -9 ∨ (0 ≤ v ∧ v ≤ 23))) (f := (fun _ => 0)) (k := (0 : Int32).toNatClampNeg) (x := (-9)) (fun _ => (show (0 : Int32).toInt = -9 ∨ (0 ≤ (0 : Int32).toInt ∧ (0 : Int32).toInt ≤ 23) from by decide)) (show ((-9) : Int32).toInt = -9 ∨ (0 ≤ ((-9) : Int32).toInt ∧ ((-9) : Int32).toInt ≤ 23) from by decide)) (show ((-9) : Int32).toInt = -9 ∨ (0 ≤ ((-9) : Int32).toInt ∧ ((-9) : Int32).toInt ≤ 23) from by decide)) (show (1 : Int32).toInt = -9 ∨ (0 ≤ (1 : Int32).toInt ∧ (1 : Int32).toInt ≤ 23) from by decide)) (show (1 : Int32).toInt = -9 ∨ (0 ≤ (1 : Int32).toInt ∧ (1 : Int32).toInt ≤ 23) from by decide)) (show (1 : Int32).toInt = -9 ∨ (0 ≤ (1 : Int32).toInt ∧ (1 : Int32).toInt ≤ 23) from by decide)) (show (1 : Int32).toInt = -9 ∨ (0 ≤ (1 : Int32).toInt ∧ (1 : Int32).toInt ≤ 23) from by decide))
theorem fsX_r : ∀ j, (fun v : Int => 0 ≤ v ∧ v ≤ 5) (fsX j).toInt := (upR (P := (fun v : Int => 0 ≤ v ∧ v ≤ 5)) (f := (upd (upd (upd (upd (upd (fun _ => 0) (0 : Int32).toNatClampNeg 0) (1 : Int32).toNatClampNeg 1) (2 : Int32).toNatClampNeg 2) (3 : Int32).toNatClampNeg 3) (4 : Int32).toNatClampNeg 4)) (k := (5 : Int32).toNatClampNeg) (x := 5) (upR (P := (fun v : Int => 0 ≤ v ∧ v ≤ 5)) (f := (upd (upd (upd (upd (fun _ => 0) (0 : Int32).toNatClampNeg 0) (1 : Int32).toNatClampNeg 1) (2 : Int32).toNatClampNeg 2) (3 : Int32).toNatClampNeg 3)) (k := (4 : Int32).toNatClampNeg) (x := 4) (upR (P := (fun v : Int => 0 ≤ v ∧ v ≤ 5)) (f := (upd (upd (upd (fun _ => 0) (0 : Int32).toNatClampNeg 0) (1 : Int32).toNatClampNeg 1) (2 : Int32).toNatClampNeg 2)) (k := (3 : Int32).toNatClampNeg) (x := 3) (upR (P := (fun v : Int => 0 ≤ v ∧ v ≤ 5)) (f := (upd (upd (fun _ => 0) (0 : Int32).toNatClampNeg 0) (1 : Int32).toNatClampNeg 1)) (k := (2 : Int32).toNatClampNeg) (x := 2) (upR (P := (fun v : Int => 0 ≤ v ∧ v ≤ 5)) (f := (upd (fun _ => 0) (0 : Int32).toNatClampNeg 0)) (k := (1 : Int32).toNatClampNeg) (x := 1) (upR (P := (fun v : Int => 0 ≤ v ∧ v ≤ 5)) (f := (fun _ => 0)) (k := (0 : Int32).toNatClampNeg) (x := 0) (fun _ => (show 0 ≤ (0 : Int32).toInt ∧ (0 : Int32).toInt ≤ 5 from by decide)) (show 0 ≤ (0 : Int32).toInt ∧ (0 : Int32).toInt ≤ 5 from by decide)) (show 0 ≤ (1 : Int32).toInt ∧ (1 : Int32).toInt ≤ 5 from by decide)) (show 0 ≤ (2 : Int32).toInt ∧ (2 : Int32).toInt ≤ 5 from by decide)) (show 0 ≤ (3 : Int32).toInt ∧ (3 : Int32).toInt ≤ 5 from by decide)) (show 0 ≤ (4 : Int32).toInt ∧ (4 : Int32).toInt ≤ 5 from by decide)) (show 0 ≤ (5 : Int32).toInt ∧ (5 : Int32).toInt ≤ 5 from by decide))
theorem xI0 : xInv i0X c0X := (xInv_f (xInv_f (xInv_f (xInv_f (xInv_f (xInv_f (xInv_f (xInv_f (xInv_f (xInv_f (xInv_f (xInv_f (xInv_f (xInv_f (xInv_f (xInv_f (xInv_i (xInv_i xIB (k := 147) (v := (-9)) (show ((-9) : Int32).toInt = -9 ∨ (0 ≤ ((-9) : Int32).toInt ∧ ((-9) : Int32).toInt ≤ 29) from by decide)) (k := 156) (v := (-9)) (show ((-9) : Int32).toInt = -9 ∨ (0 ≤ ((-9) : Int32).toInt ∧ ((-9) : Int32).toInt ≤ 29) from by decide)) (k := 107) (f := (fun _ => -9)) (fun j => (show ((-9) : Int32).toInt = -9 ∨ (0 ≤ ((-9) : Int32).toInt ∧ ((-9) : Int32).toInt ≤ 1) from by decide))) (k := 118) (f := (fun _ => -9)) (fun j => (show ((-9) : Int32).toInt = -9 ∨ (0 ≤ ((-9) : Int32).toInt ∧ ((-9) : Int32).toInt ≤ 199) from by decide))) (k := 119) (f := (fun _ => -9)) (fun j => (show ((-9) : Int32).toInt = -9 ∨ (0 ≤ ((-9) : Int32).toInt ∧ ((-9) : Int32).toInt ≤ 199) from by decide))) (k := 120) (f := (fun _ => -9)) (fun j => (show ((-9) : Int32).toInt = -9 ∨ (0 ≤ ((-9) : Int32).toInt ∧ ((-9) : Int32).toInt ≤ 199) from by decide))) (k := 121) (f := (fun _ => -9)) (fun j => (show ((-9) : Int32).toInt = -9 ∨ (0 ≤ ((-9) : Int32).toInt ∧ ((-9) : Int32).toInt ≤ 199) from by decide))) (k := 129) (f := (fun _ => -9)) (fun j => (show ((-9) : Int32).toInt = -9 ∨ (0 ≤ ((-9) : Int32).toInt ∧ ((-9) : Int32).toInt ≤ 29) from by decide))) (k := 130) (f := (fun _ => -9)) (fun j => (show ((-9) : Int32).toInt = -9 ∨ (0 ≤ ((-9) : Int32).toInt ∧ ((-9) : Int32).toInt ≤ 29) from by decide))) (k := 131) (f := (fun _ => -9)) (fun j => (show ((-9) : Int32).toInt = -9 ∨ (0 ≤ ((-9) : Int32).toInt ∧ ((-9) : Int32).toInt ≤ 199) from by decide))) (k := 133) (f := (fun _ => -9)) (fun j => (show ((-9) : Int32).toInt = -9 ∨ (0 ≤ ((-9) : Int32).toInt ∧ ((-9) : Int32).toInt ≤ 29) from by decide))) (k := 134) (f := (fun _ => -9)) (fun j => (show ((-9) : Int32).toInt = -9 ∨ (0 ≤ ((-9) : Int32).toInt ∧ ((-9) : Int32).toInt ≤ 29) from by decide))) (k := 158) (f := (fun _ => -9)) (fun j => (show ((-9) : Int32).toInt = -9 ∨ (0 ≤ ((-9) : Int32).toInt ∧ ((-9) : Int32).toInt ≤ 3) from by decide))) (k := 164) (f := (fun _ => -9)) (fun j => (show ((-9) : Int32).toInt = -9 ∨ (0 ≤ ((-9) : Int32).toInt ∧ ((-9) : Int32).toInt ≤ 29) from by decide))) (k := 127) (f := (fun _ => 255)) (fun j => (show 0 ≤ ((255) : Int32).toInt ∧ ((255) : Int32).toInt ≤ 16383 ∧ (((255) : Int32).toInt % 256 = 255 ∨ (((255) : Int32).toInt % 8 ≤ 4 ∧ ((255) : Int32).toInt / 8 % 32 ≤ 29)) from by decide))) (k := 150) (f := (fun _ => 255)) (fun j => (show 0 ≤ ((255) : Int32).toInt ∧ ((255) : Int32).toInt ≤ 16383 ∧ (((255) : Int32).toInt % 256 = 255 ∨ (((255) : Int32).toInt % 8 ≤ 4 ∧ ((255) : Int32).toInt / 8 % 32 ≤ 29)) from by decide))) (k := 105) (f := fpX) (fpX_r)) (k := 106) (f := fsX) (fsX_r))
theorem mInv_f {i : Nat → Int32} {c : Nat → Nat → Int32} (h : mInv i c) {k : Nat} {f : Nat → Int32} (hx : ∀ j, mE k j (f j).toInt) : mInv i (updF c k f) := by
  refine ⟨h.1, fun k2 j2 => ?_⟩
  unfold updF
  by_cases e : k2 = k
  · subst e; rw [if_pos rfl]; exact hx j2
  · rw [if_neg e]; exact h.2 k2 j2
theorem mE_0 (k j : Nat) (h : ¬ k = 3) : mE k j (0 : Int32).toInt := by
  have z : (0 : Int32).toInt = 0 := by decide
  rw [z]
  unfold mE
  split <;> first | trivial | (exact absurd rfl h) | omega
theorem mR_0 (k : Nat) (h : ¬ k = 2) : mR k (0 : Int32).toInt := by
  unfold mR
  split <;> first | trivial | decide | (exact absurd rfl h)
theorem fpM_r (j : Nat) : mE 3 j (fpM j).toInt := by
  show (((j : Nat) : Int) ≤ 1 ∧ (fpM j).toInt = -9) ∨ (2 ≤ ((j : Nat) : Int) ∧ ((j : Nat) : Int) ≤ 5 ∧ (fpM j).toInt = 1) ∨ (6 ≤ ((j : Nat) : Int) ∧ 0 ≤ (fpM j).toInt ∧ (fpM j).toInt ≤ 23 ∧ (fpM j).toInt < ((j : Nat) : Int))
  rcases (show j = 0 ∨ j = 1 ∨ j = 2 ∨ j = 3 ∨ j = 4 ∨ j = 5 ∨ 6 ≤ j by omega) with h | h | h | h | h | h | h
  iterate 6 (first | (subst h; decide) | skip)
  all_goals first | (subst h; decide) | skip
  have z : fpM j = 0 := by
    unfold fpM
    rw [pk_un (fun q => by rw [q] at h; exact absurd h (by decide +kernel)), pk_un (fun q => by rw [q] at h; exact absurd h (by decide +kernel)), pk_un (fun q => by rw [q] at h; exact absurd h (by decide +kernel)), pk_un (fun q => by rw [q] at h; exact absurd h (by decide +kernel)), pk_un (fun q => by rw [q] at h; exact absurd h (by decide +kernel)), pk_un (fun q => by rw [q] at h; exact absurd h (by decide +kernel))]
  rw [z, show (0 : Int32).toInt = 0 from by decide]
  omega
theorem mIB : mInv iBM cBM := by
  refine ⟨fun k => ?_, fun k j => ?_⟩
  · by_cases e : k = 2
    · subst e
      exact (show 6 ≤ (6 : Int32).toInt ∧ (6 : Int32).toInt ≤ 24 from by decide)
    · have z : iBM k = 0 := if_neg e
      rw [z]; exact mR_0 k e
  · by_cases e : k = 3
    · subst e; exact fpM_r j
    · have z : cBM k j = 0 := by
        show (if k = 3 then fpM else fun _ => 0) j = 0
        rw [if_neg e]
      rw [z]; exact mE_0 k j e
theorem fdM_r (j : Nat) : mE 4 j (fdM j).toInt := by
  show (fdM j).toInt = -9 ∨ (0 ≤ (fdM j).toInt ∧ (fdM j).toInt ≤ 1)
  unfold fdM
  by_cases e : j < 144
  · rw [if_pos e]; decide
  · rw [if_neg e]; decide
theorem mI0 : mInv i0M c0M := mInv_f (mInv_i (mInv_i mIB (k := 22) (v := (-9)) (show ((-9) : Int32).toInt = -9 ∨ (0 ≤ ((-9) : Int32).toInt ∧ ((-9) : Int32).toInt ≤ 29) from by decide)) (k := 57) (v := (-9)) (show ((-9) : Int32).toInt = -9 ∨ (0 ≤ ((-9) : Int32).toInt ∧ ((-9) : Int32).toInt ≤ 300) from by decide)) (k := 4) (f := fdM) fdM_r
theorem SJ0 : SJ (c0M 3) (c0M 6) (c0M 9) (c0M 10) (c0M 11) (c0M 13) (i0M 2).toInt (i0M 5).toInt (i0M 8).toInt := by
  have z5 : (i0M 5).toInt = 0 := by decide
  have z8 : (i0M 8).toInt = 0 := by decide
  have hmi : ∀ s, 0 ≤ (c0M 11 s).toInt ∧ (c0M 11 s).toInt ≤ 29 := fun s => mI0.2 11 s
  refine ⟨fun o ho => by omega, fun s hs => by omega, fun s s2 hs => by omega, Acy_of (fP_Sp hmi) (fun _ => 0) (fun x h0 h1 hn => absurd (fP_no ?_) hn)⟩
  rw [z8]
  unfold pL
  by_cases h9 : fsF (mP (c0M 9) (c0M 10) (c0M 13) x) (0 : Int).toNat = -9
  · exact h9
  · have h8 := fsF_r rfl h9
    omega
theorem LI0 : LI i0X c0X i0M c0M := ⟨xI0, fun j h => absurd (show (0 : Int32).toInt = 6 from h) (by decide +kernel), PJ_0 (by decide +kernel), by decide, mI0, SJ0, TJ_no (by decide +kernel), ⟨⟨by decide, by decide, by decide, fun j hj => (show (-9 : Int32) = fdM j from (if_pos hj).symm)⟩, rfl, rfl, SoR_0 (K6_of mI0) (by decide +kernel) (fun k hk => by rcases (show k = 0 ∨ k = 1 ∨ k = 2 ∨ k = 3 ∨ k = 4 ∨ k = 5 by omega) with rfl | rfl | rfl | rfl | rfl | rfl <;> decide), ⟨rfl, rfl, rfl, rfl, rfl, by decide, IX_0 (by decide +kernel) (fun k => ⟨(show (-9 : Int32).toInt = -9 from by decide), (show (-9 : Int32).toInt = -9 from by decide), (show (-9 : Int32).toInt = -9 from by decide), (show (-9 : Int32).toInt = -9 from by decide), (show (255 : Int32).toInt = 255 from by decide)⟩)⟩, DR_0 (by decide +kernel), RDS_0 (by decide +kernel) (fun k => ⟨(show (-9 : Int32).toInt = -9 from by decide), (show (-9 : Int32).toInt = -9 from by decide), (show (-9 : Int32).toInt = -9 from by decide), (show (0 : Int32).toInt = 0 from by decide), (show (-9 : Int32).toInt = -9 from by decide), (show (-9 : Int32).toInt = -9 from by decide)⟩)⟩⟩


