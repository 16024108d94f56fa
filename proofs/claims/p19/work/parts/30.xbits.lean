/-! numbers by bits -/
theorem x_n {x : Int32} (h : 0 ≤ x.toInt) : x = nI x.toInt.toNat := Int32.toInt_inj.mp (by
  have q := Int32.toInt_lt x
  rw [nI_toInt (by omega)]
  omega)
def bq (x : Int32) (i : Nat) : Bool := x.toBitVec.getLsbD i
theorem bq_ext {x y : Int32} (h : ∀ i, i < 32 → bq x i = bq y i) : x = y := Int32.toBitVec_inj.mp (BitVec.eq_of_getLsbD_eq (fun i hi => h i hi))
theorem bq_n (m i : Nat) : bq (nI m) i = (decide (i < 32) && m.testBit i) := by
  unfold bq
  show (BitVec.ofNat 32 m).getLsbD i = _
  rw [BitVec.getLsbD_ofNat]
theorem bq_and (x y : Int32) (i : Nat) : bq (x &&& y) i = (bq x i && bq y i) := by unfold bq; rw [Int32.toBitVec_and, BitVec.getLsbD_and]
theorem bq_or (x y : Int32) (i : Nat) : bq (x ||| y) i = (bq x i || bq y i) := by unfold bq; rw [Int32.toBitVec_or, BitVec.getLsbD_or]
theorem sq_l : ∀ n, n < 32 → ((nI n &&& 31).toBitVec.smod 32).toNat = n := by decide +kernel
theorem and_n (a b : Nat) : nI a &&& nI b = nI (a &&& b) := bq_ext (fun i hi => by rw [bq_and, bq_n, bq_n, bq_n, Nat.testBit_and]; simp [hi])
theorem or_n (a b : Nat) : nI a ||| nI b = nI (a ||| b) := bq_ext (fun i hi => by rw [bq_or, bq_n, bq_n, bq_n, Nat.testBit_or]; simp [hi])
/-- x & (2^k - 1) -/
theorem and_m {x m r : Int32} (k : Nat) (hx : 0 ≤ x.toInt) (e : r = x &&& m) (hm : m = nI (2 ^ k - 1)) (hk : k < 31) : r.toInt = x.toInt % (2 ^ k : Nat) := by
  have q := Int32.toInt_lt x
  have p : x.toInt.toNat % 2 ^ k ≤ x.toInt.toNat := Nat.mod_le _ _
  rw [e, hm]
  rw [show x &&& nI (2 ^ k - 1) = nI (x.toInt.toNat % 2 ^ k) by
    conv => lhs; rw [x_n hx]
    rw [and_n, Nat.and_two_pow_sub_one_eq_mod]]
  rw [nI_toInt (by omega)]
  rw [Int.natCast_emod]
  rw [show ((x.toInt.toNat : Nat) : Int) = x.toInt by omega]
theorem shr_n {n j : Nat} (hn : n < 2 ^ 31) (hj : j < 32) : nI n >>> (nI j &&& 31) = nI (n / 2 ^ j) := bq_ext (fun i hi => by
  have hb : ∀ w, 31 ≤ w → n.testBit w = false := fun w hw => Nat.testBit_lt_two_pow (Nat.lt_of_lt_of_le hn (Nat.pow_le_pow_right (by omega) hw))
  unfold bq
  rw [Int32.toBitVec_shiftRight]
  show ((nI n).toBitVec.sshiftRight ((nI j &&& 31).toBitVec.smod 32).toNat).getLsbD i = _
  rw [sq_l j hj, BitVec.getLsbD_sshiftRight, BitVec.msb_eq_getLsbD_last]
  show (_ : Bool) = bq (nI (n / 2 ^ j)) i
  rw [bq_n, Nat.testBit_div_two_pow]
  have e1 : ∀ w, (nI n).toBitVec.getLsbD w = (decide (w < 32) && n.testBit w) := fun w => bq_n n w
  rw [e1, e1, hb 31 (by omega)]
  by_cases c : j + i < 32
  · simp [hi, c, Nat.add_comm]
  · rw [hb (i + j) (by omega)]
    simp [c])
theorem shl_n {n j : Nat} (hj : j < 32) : nI n <<< (nI j &&& 31) = nI (2 ^ j * n) := bq_ext (fun i hi => by
  unfold bq
  rw [Int32.toBitVec_shiftLeft]
  show ((nI n).toBitVec <<< ((nI j &&& 31).toBitVec.smod 32)).getLsbD i = _
  show ((nI n).toBitVec <<< ((nI j &&& 31).toBitVec.smod 32).toNat).getLsbD i = _
  rw [sq_l j hj, BitVec.getLsbD_shiftLeft]
  show (_ : Bool) = bq (nI (2 ^ j * n)) i
  rw [bq_n, Nat.testBit_two_pow_mul]
  have e1 : ∀ w, (nI n).toBitVec.getLsbD w = (decide (w < 32) && n.testBit w) := fun w => bq_n n w
  rw [e1]
  by_cases c : i < j
  · simp [c, hi, show ¬ j ≤ i by omega]
  · simp [c, hi, show j ≤ i by omega, show i - j < 32 by omega])
/-- cell & 7, cell >> 3 & 31 -/
theorem and7 {x r : Int32} (hx : 0 ≤ x.toInt) (e : r = x &&& 7) : r.toInt = x.toInt % 8 := and_m 3 hx e (by decide +kernel) (by omega)
theorem and31 {x r : Int32} (hx : 0 ≤ x.toInt) (e : r = x &&& 31) : r.toInt = x.toInt % 32 := and_m 5 hx e (by decide +kernel) (by omega)
theorem and1023 {x r : Int32} (hx : 0 ≤ x.toInt) (e : r = x &&& 1023) : r.toInt = x.toInt % 1024 := and_m 10 hx e (by decide +kernel) (by omega)
theorem shr3 {x r : Int32} (hx : 0 ≤ x.toInt) (e : r = x >>> (3 &&& 31)) : r.toInt = x.toInt / 8 := by
  have q := Int32.toInt_lt x
  have w : x >>> ((3 : Int32) &&& 31) = nI (x.toInt.toNat / 2 ^ 3) := by
    conv => lhs; rw [x_n hx]
    exact shr_n (j := 3) (by omega) (by omega)
  rw [e, w, nI_toInt (by omega)]
  omega
/-- where something is put: the low eight bits -/
theorem put8 {c h f a b x y r : Int32} (hc : 0 ≤ c.toInt ∧ c.toInt ≤ 16383) (hh : 0 ≤ h.toInt ∧ h.toInt ≤ 31) (hf : 0 ≤ f.toInt ∧ f.toInt ≤ 7) (ea : a = c &&& (-256)) (eb : b = h <<< (3 &&& 31)) (ex : x = a ||| b) (er : r = x ||| f) : r.toInt = c.toInt / 256 * 256 + h.toInt * 8 + f.toInt := by
  have e1 : c &&& (-256) = nI (2 ^ 8 * (c.toInt.toNat / 2 ^ 8)) := by
    conv => lhs; rw [x_n hc.1]
    refine bq_ext (fun i hi => ?_)
    rw [bq_and, bq_n, bq_n, Nat.testBit_two_pow_mul, Nat.testBit_div_two_pow]
    have m : ∀ i, i < 32 → bq (-256) i = decide (8 ≤ i) := by decide +kernel
    rw [m i hi]
    by_cases k : 8 ≤ i
    · simp [hi, k, show i - 8 + 8 = i by omega]
    · simp [k]
  have e2 : h <<< ((3 : Int32) &&& 31) = nI (2 ^ 3 * h.toInt.toNat) := by
    conv => lhs; rw [x_n hh.1]
    exact shl_n (j := 3) (by omega)
  have e3 : 2 ^ 8 * (c.toInt.toNat / 2 ^ 8) ||| 2 ^ 3 * h.toInt.toNat = 2 ^ 8 * (c.toInt.toNat / 2 ^ 8) + 2 ^ 3 * h.toInt.toNat := (Nat.two_pow_add_eq_or_of_lt (by omega) _).symm
  have e4 : 2 ^ 8 * (c.toInt.toNat / 2 ^ 8) + 2 ^ 3 * h.toInt.toNat = 2 ^ 3 * (2 ^ 5 * (c.toInt.toNat / 2 ^ 8) + h.toInt.toNat) := by omega
  have e5 : 2 ^ 3 * (2 ^ 5 * (c.toInt.toNat / 2 ^ 8) + h.toInt.toNat) ||| f.toInt.toNat = 2 ^ 3 * (2 ^ 5 * (c.toInt.toNat / 2 ^ 8) + h.toInt.toNat) + f.toInt.toNat := (Nat.two_pow_add_eq_or_of_lt (by omega) _).symm
  rw [er, ex, ea, eb, e1, e2, or_n, e3, e4]
  conv => lhs; rw [x_n hf.1]
  rw [or_n, e5, nI_toInt (by omega)]
  omega
theorem xor1 {x r : Int32} (h : 0 ≤ x.toInt ∧ x.toInt ≤ 9) (e : r = x ^^^ 1) : 0 ≤ r.toInt ∧ r.toInt ≤ 9 := by
  have q : x = 0 ∨ x = 1 ∨ x = 2 ∨ x = 3 ∨ x = 4 ∨ x = 5 ∨ x = 6 ∨ x = 7 ∨ x = 8 ∨ x = 9 := by
    have z := x_n h.1
    rcases (show x.toInt.toNat = 0 ∨ x.toInt.toNat = 1 ∨ x.toInt.toNat = 2 ∨ x.toInt.toNat = 3 ∨ x.toInt.toNat = 4 ∨ x.toInt.toNat = 5 ∨ x.toInt.toNat = 6 ∨ x.toInt.toNat = 7 ∨ x.toInt.toNat = 8 ∨ x.toInt.toNat = 9 by omega) with w | w | w | w | w | w | w | w | w | w <;> rw [w] at z <;> rw [z] <;> decide
  rw [e]
  rcases q with q | q | q | q | q | q | q | q | q | q <;> rw [q] <;> decide

