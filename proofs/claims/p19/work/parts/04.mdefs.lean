/-! The reference: one object of 69 fields (its numbers i, its long q), 45 arrays (numbers c, longs d) at the addresses a, of the array classes t -/
def mF (a : Nat → Nat) (i : Nat → Int32) (q : Int64) : List Value := [.int (i 0), .ref (a 1), .int (i 2), .ref (a 3), .ref (a 4), .int (i 5), .ref (a 6), .ref (a 7), .int (i 8), .ref (a 9), .ref (a 10), .ref (a 11), .ref (a 12), .ref (a 13), .ref (a 14), .int (i 15), .int (i 16), .int (i 17), .int (i 18), .int (i 19), .ref (a 20), .ref (a 21), .int (i 22), .ref (a 23), .ref (a 24), .ref (a 25), .ref (a 26), .int (i 27), .ref (a 28), .ref (a 29), .ref (a 30), .ref (a 31), .ref (a 32), .int (i 33), .ref (a 34), .int (i 35), .int (i 36), .long q, .ref (a 38), .ref (a 39), .int (i 40), .int (i 41), .int (i 42), .ref (a 43), .ref (a 44), .ref (a 45), .ref (a 46), .ref (a 47), .ref (a 48), .ref (a 49), .int (i 50), .ref (a 51), .ref (a 52), .ref (a 53), .ref (a 54), .ref (a 55), .ref (a 56), .int (i 57), .int (i 58), .int (i 59), .ref (a 60), .ref (a 61), .ref (a 62), .ref (a 63), .int (i 64), .ref (a 65), .ref (a 66), .ref (a 67), .ref (a 68)]
def mW (o : Nat) (a : Nat → Nat) (t : Nat → ClassId) (i : Nat → Int32) (q : Int64) (c : Nat → Nat → Int32) (d : Nat → Nat → Int64) : va_W := [(o, .inr (12, mF a i q)), (a 1, .inl (t 1, 7, .inl (c 1))), (a 3, .inl (t 3, 24, .inl (c 3))), (a 4, .inl (t 4, 144, .inl (c 4))), (a 6, .inl (t 6, 30, .inl (c 6))), (a 7, .inl (t 7, 30, .inl (c 7))), (a 9, .inl (t 9, 200, .inl (c 9))), (a 10, .inl (t 10, 200, .inl (c 10))), (a 11, .inl (t 11, 200, .inl (c 11))), (a 12, .inl (t 12, 200, .inl (c 12))), (a 13, .inl (t 13, 200, .inl (c 13))), (a 14, .inl (t 14, 200, .inl (c 14))), (a 20, .inl (t 20, 30, .inl (c 20))), (a 21, .inl (t 21, 30, .inl (c 21))), (a 23, .inl (t 23, 30, .inl (c 23))), (a 24, .inl (t 24, 30, .inl (c 24))), (a 25, .inl (t 25, 30, .inl (c 25))), (a 26, .inl (t 26, 30, .inl (c 26))), (a 28, .inl (t 28, 300, .inl (c 28))), (a 29, .inl (t 29, 3000, .inl (c 29))), (a 30, .inl (t 30, 3000, .inl (c 30))), (a 31, .inl (t 31, 3000, .inl (c 31))), (a 32, .inl (t 32, 3000, .inl (c 32))), (a 34, .inl (t 34, 100, .inl (c 34))), (a 38, .inl (t 38, 30, .inl (c 38))), (a 39, .inl (t 39, 30, .inl (c 39))), (a 43, .inl (t 43, 30, .inl (c 43))), (a 44, .inl (t 44, 30, .inl (c 44))), (a 45, .inl (t 45, 30, .inl (c 45))), (a 46, .inl (t 46, 30, .inl (c 46))), (a 47, .inl (t 47, 30, .inl (c 47))), (a 48, .inl (t 48, 30, .inl (c 48))), (a 49, .inl (t 49, 30, .inl (c 49))), (a 51, .inl (t 51, 9030, .inl (c 51))), (a 52, .inl (t 52, 9030, .inl (c 52))), (a 53, .inl (t 53, 9030, .inl (c 53))), (a 54, .inl (t 54, 300, .inl (c 54))), (a 55, .inl (t 55, 900, .inl (c 55))), (a 56, .inl (t 56, 900, .inl (c 56))), (a 60, .inl (t 60, 30, .inl (c 60))), (a 61, .inl (t 61, 30, .inl (c 61))), (a 62, .inl (t 62, 360, .inr (.inl (d 62)))), (a 63, .inl (t 63, 30, .inl (c 63))), (a 65, .inl (t 65, 10, .inl (c 65))), (a 66, .inl (t 66, 10, .inl (c 66))), (a 67, .inl (t 67, 120, .inl (c 67))), (a 68, .inl (t 68, 12, .inr (.inl (d 68))))]
def mT (t : Nat → ClassId) : List (ClassId × FieldType) := [(t 1, .int), (t 3, .int), (t 4, .int), (t 6, .int), (t 7, .int), (t 9, .int), (t 10, .int), (t 11, .int), (t 12, .int), (t 13, .boolean), (t 14, .int), (t 20, .int), (t 21, .int), (t 23, .int), (t 24, .int), (t 25, .boolean), (t 26, .boolean), (t 28, .int), (t 29, .int), (t 30, .int), (t 31, .boolean), (t 32, .boolean), (t 34, .int), (t 38, .int), (t 39, .int), (t 43, .boolean), (t 44, .boolean), (t 45, .boolean), (t 46, .boolean), (t 47, .boolean), (t 48, .boolean), (t 49, .boolean), (t 51, .byte), (t 52, .byte), (t 53, .byte), (t 54, .int), (t 55, .int), (t 56, .int), (t 60, .int), (t 61, .int), (t 62, .long), (t 63, .boolean), (t 65, .int), (t 66, .int), (t 67, .int), (t 68, .long)]
abbrev MS : Type := (Nat → Int32) × Int64 × (Nat → Nat → Int32) × (Nat → Nat → Int64)
def updA (c : Nat → Nat → Int32) (k j : Nat) (x : Int32) : Nat → Nat → Int32 := fun k2 => if k2 = k then upd (c k) j x else c k2
def updD (d : Nat → Nat → Int64) (k j : Nat) (x : Int64) : Nat → Nat → Int64 := fun k2 => if k2 = k then vp_updL (d k) j x else d k2
/-- the range of a field -/
def mR (k : Nat) (v : Int) : Prop := match k with
  | 0 => 0 ≤ v ∧ v ≤ 6
  | 2 => 6 ≤ v ∧ v ≤ 24
  | 5 => 0 ≤ v ∧ v ≤ 30
  | 8 => 0 ≤ v ∧ v ≤ 200
  | 15 => 0 ≤ v ∧ v ≤ 200
  | 16 => v = -9 ∨ (0 ≤ v ∧ v ≤ 29)
  | 17 => v = -9 ∨ (0 ≤ v ∧ v ≤ 29)
  | 18 => v = -9 ∨ (0 ≤ v ∧ v ≤ 199)
  | 19 => 0 ≤ v ∧ v ≤ 1
  | 22 => v = -9 ∨ (0 ≤ v ∧ v ≤ 29)
  | 27 => 0 ≤ v ∧ v ≤ 100
  | 33 => 0 ≤ v ∧ v ≤ 1
  | 35 => 0 ≤ v ∧ v ≤ 100
  | 36 => 0 ≤ v ∧ v ≤ 1
  | 40 => 0 ≤ v ∧ v ≤ 29
  | 41 => 0 ≤ v ∧ v ≤ 29
  | 42 => 0 ≤ v ∧ v ≤ 1
  | 50 => 0 ≤ v ∧ v ≤ 300
  | 57 => v = -9 ∨ (0 ≤ v ∧ v ≤ 300)
  | 58 => 0 ≤ v ∧ v ≤ 29
  | 59 => 0 ≤ v ∧ v ≤ 29
  | 64 => 0 ≤ v ∧ v ≤ 10
  | _ => True
/-- the range of an array's elements -/
def mE (k j : Nat) (v : Int) : Prop := match k with
  | 3 => (((j : Nat) : Int) ≤ 1 ∧ v = -9) ∨ (2 ≤ ((j : Nat) : Int) ∧ ((j : Nat) : Int) ≤ 5 ∧ v = 1) ∨ (6 ≤ ((j : Nat) : Int) ∧ 0 ≤ v ∧ v ≤ 23 ∧ v < ((j : Nat) : Int))
  | 4 => v = -9 ∨ (0 ≤ v ∧ v ≤ 1)
  | 6 => 0 ≤ v ∧ v ≤ 23
  | 7 => 0 ≤ v ∧ v ≤ 99
  | 9 => 0 ≤ v ∧ v ≤ 7
  | 10 => 0 ≤ v ∧ v ≤ 29
  | 11 => 0 ≤ v ∧ v ≤ 29
  | 12 => 0 ≤ v ∧ v ≤ 9
  | 13 => 0 ≤ v ∧ v ≤ 1
  | 14 => 0 ≤ v ∧ v ≤ 199
  | 20 => v = -9 ∨ (0 ≤ v ∧ v ≤ 29)
  | 21 => 0 ≤ v ∧ v ≤ 29
  | 23 => v = -9 ∨ (0 ≤ v ∧ v ≤ 4)
  | 24 => v = -9 ∨ (0 ≤ v ∧ v ≤ 29)
  | 25 => 0 ≤ v ∧ v ≤ 1
  | 26 => 0 ≤ v ∧ v ≤ 1
  | 28 => 0 ≤ v ∧ v ≤ 29
  | 29 => v = -9 ∨ (0 ≤ v ∧ v ≤ 4)
  | 30 => v = -9 ∨ (0 ≤ v ∧ v ≤ 29)
  | 31 => 0 ≤ v ∧ v ≤ 1
  | 32 => 0 ≤ v ∧ v ≤ 1
  | 34 => 0 ≤ v ∧ v ≤ 5
  | 38 => 0 ≤ v ∧ v ≤ 29
  | 39 => 0 ≤ v ∧ v ≤ 31
  | 43 => 0 ≤ v ∧ v ≤ 1
  | 44 => 0 ≤ v ∧ v ≤ 1
  | 45 => 0 ≤ v ∧ v ≤ 1
  | 46 => 0 ≤ v ∧ v ≤ 1
  | 47 => 0 ≤ v ∧ v ≤ 1
  | 48 => 0 ≤ v ∧ v ≤ 1
  | 49 => 0 ≤ v ∧ v ≤ 1
  | 51 => v = -9 ∨ (0 ≤ v ∧ v ≤ 4)
  | 52 => v = -9 ∨ (0 ≤ v ∧ v ≤ 29)
  | 53 => 0 ≤ v ∧ v ≤ 3
  | 54 => v = -9 ∨ (0 ≤ v ∧ v ≤ 299 ∧ (v = 0 ∨ v < ((j : Nat) : Int)))
  | 55 => 0 ≤ v ∧ v ≤ 29
  | 56 => 0 ≤ v ∧ v ≤ 29
  | 60 => 0 ≤ v ∧ v ≤ 3
  | 61 => 0 ≤ v ∧ v ≤ 12
  | 63 => 0 ≤ v ∧ v ≤ 1
  | 65 => 0 ≤ v ∧ v ≤ 5
  | 66 => 0 ≤ v ∧ v ≤ 12
  | 67 => v = -9 ∨ (0 ≤ v ∧ v ≤ 29)
  | _ => True
def mInv (i : Nat → Int32) (c : Nat → Nat → Int32) : Prop := (∀ k, mR k (i k).toInt) ∧ ∀ k j, mE k j (c k j).toInt
theorem mInv_i {i : Nat → Int32} {c : Nat → Nat → Int32} (h : mInv i c) {k : Nat} {v : Int32} (hv : mR k v.toInt) : mInv (upd i k v) c := by
  refine ⟨fun j => ?_, h.2⟩
  by_cases e : j = k
  · subst e; rw [pk_us]; exact hv
  · rw [pk_un e]; exact h.1 j
theorem mInv_c {i : Nat → Int32} {c : Nat → Nat → Int32} (h : mInv i c) {k j : Nat} {x : Int32} (hx : mE k j x.toInt) : mInv i (updA c k j x) := by
  refine ⟨h.1, fun k2 j2 => ?_⟩
  unfold updA
  by_cases e : k2 = k
  · subst e
    rw [if_pos rfl]
    by_cases e2 : j2 = j
    · subst e2; rw [pk_us]; exact hx
    · rw [pk_un e2]; exact h.2 k2 j2
  · rw [if_neg e]; exact h.2 k2 j2
/-- what stays -/
theorem fr_i {i0 i : Nat → Int32} {M : List Nat} (h : ∀ k, k ∉ M → i k = i0 k) {k : Nat} {v : Int32} (hk : k ∈ M) : ∀ j, j ∉ M → upd i k v j = i0 j := fun j hj => by
  rw [pk_un (fun e => hj (by rw [e]; exact hk))]
  exact h j hj
theorem fr_c {c0 c : Nat → Nat → Int32} {M : List Nat} (h : ∀ k, k ∉ M → c k = c0 k) {k j : Nat} {x : Int32} (hk : k ∈ M) : ∀ k2, k2 ∉ M → updA c k j x k2 = c0 k2 := fun k2 h2 => by
  unfold updA
  rw [if_neg (fun e => h2 (by rw [e]; exact hk))]
  exact h k2 h2
theorem fr_w {α : Type} {f0 f : Nat → α} {M M2 : List Nat} (h : ∀ k, k ∉ M → f k = f0 k) (hs : ∀ k, k ∈ M → k ∈ M2) : ∀ k, k ∉ M2 → f k = f0 k := fun k hk => h k (fun q => hk (hs k q))
theorem fr_z {α : Type} {f0 f f1 : Nat → α} {M M1 M2 : List Nat} (h : ∀ k, k ∉ M → f k = f0 k) (h1 : ∀ k, k ∉ M1 → f1 k = f k) (hs : ∀ k, k ∈ M → k ∈ M2) (hs1 : ∀ k, k ∈ M1 → k ∈ M2) : ∀ k, k ∉ M2 → f1 k = f0 k := fun k hk => (h1 k (fun q => hk (hs1 k q))).trans (h k (fun q => hk (hs k q)))
theorem fr_iz {i0 i : Nat → Int32} {M M2 : List Nat} (h : ∀ k, k ∉ M → i k = i0 k) {k : Nat} {v : Int32} (hs : ∀ k, k ∈ M → k ∈ M2) (hk : k ∈ M2) : ∀ j, j ∉ M2 → upd i k v j = i0 j := fr_i (fr_w h hs) hk
theorem fr_cz {c0 c : Nat → Nat → Int32} {M M2 : List Nat} (h : ∀ k, k ∉ M → c k = c0 k) {k j : Nat} {x : Int32} (hs : ∀ k, k ∈ M → k ∈ M2) (hk : k ∈ M2) : ∀ k2, k2 ∉ M2 → updA c k j x k2 = c0 k2 := fr_c (fr_w h hs) hk
theorem cl_nn {x : Int32} (h : 0 ≤ x.toInt) : ((x.toNatClampNeg : Nat) : Int) = x.toInt := by
  show ((x.toInt.toNat : Nat) : Int) = x.toInt
  omega

