/-! facts of the search -/
/-- every kept state has its player placed -/
def KJ (kp : Nat → Int32) (n : Int) (p : Int32) : Prop := ∀ s : Nat, (s : Int) < n → ¬ (kp (s * 30 + p.toNatClampNeg)).toInt % 256 = 255
def PS (cs : Nat → Int32) (p : Int32) : Prop := ¬ (cs p.toNatClampNeg).toInt % 256 = 255
theorem KJ_0 {kp : Nat → Int32} {n : Int} {p : Int32} (h : n = 0) : KJ kp n p := fun s hs => by omega
theorem KJ_k {kp cs : Nat → Int32} {st st2 dp p z tt : Int32} (h : KJ kp st.toInt p) (hp : 0 ≤ p.toInt ∧ p.toInt ≤ 29) (hs : 0 ≤ st.toInt) (e2 : st2.toInt = st.toInt + 1) (ed : dp.toInt = st.toInt * 30) (ez : z.toInt = 0) (et : tt.toInt = 30) (hc : PS cs p) : KJ (va_cpy cs kp z.toNatClampNeg dp.toNatClampNeg tt.toNatClampNeg) st2.toInt p := by
  intro s hl
  have e1 : p.toNatClampNeg = p.toInt.toNat := rfl
  have e3 : dp.toNatClampNeg = dp.toInt.toNat := rfl
  have e4 : z.toNatClampNeg = z.toInt.toNat := rfl
  have e5 : tt.toNatClampNeg = tt.toInt.toNat := rfl
  unfold va_cpy
  by_cases q : (s : Int) = st.toInt
  · rw [if_pos (by omega), show z.toNatClampNeg + (s * 30 + p.toNatClampNeg - dp.toNatClampNeg) = p.toNatClampNeg by omega]
    exact hc
  · rw [if_neg (by omega)]
    exact h s (by omega)
theorem PS_k {kp cs : Nat → Int32} {n : Int} {s p sp z tt : Int32} (h : KJ kp n p) (hp : 0 ≤ p.toInt ∧ p.toInt ≤ 29) (hs : 0 ≤ s.toInt) (hn : s.toInt < n) (es : sp.toInt = s.toInt * 30) (ez : z.toInt = 0) (et : tt.toInt = 30) : PS (va_cpy kp cs sp.toNatClampNeg z.toNatClampNeg tt.toNatClampNeg) p := by
  have e1 : p.toNatClampNeg = p.toInt.toNat := rfl
  have e3 : sp.toNatClampNeg = sp.toInt.toNat := rfl
  have e4 : z.toNatClampNeg = z.toInt.toNat := rfl
  have e5 : tt.toNatClampNeg = tt.toInt.toNat := rfl
  unfold PS va_cpy
  rw [if_pos (by omega), show sp.toNatClampNeg + (p.toNatClampNeg - z.toNatClampNeg) = s.toInt.toNat * 30 + p.toNatClampNeg by omega]
  exact h s.toInt.toNat (by omega)
theorem PS_c {cs ds : Nat → Int32} {p z z2 tt : Int32} (h : PS cs p) (hp : 0 ≤ p.toInt ∧ p.toInt ≤ 29) (ez : z.toInt = 0) (ez2 : z2.toInt = 0) (et : tt.toInt = 30) : PS (va_cpy cs ds z.toNatClampNeg z2.toNatClampNeg tt.toNatClampNeg) p := by
  have e1 : p.toNatClampNeg = p.toInt.toNat := rfl
  have e3 : z.toNatClampNeg = z.toInt.toNat := rfl
  have e4 : z2.toNatClampNeg = z2.toInt.toNat := rfl
  have e5 : tt.toNatClampNeg = tt.toInt.toNat := rfl
  unfold PS va_cpy
  rw [if_pos (by omega), show z.toNatClampNeg + (p.toNatClampNeg - z2.toNatClampNeg) = p.toNatClampNeg by omega]
  exact h
theorem PS_u {cs : Nat → Int32} {p s x : Int32} (h : PS cs p) (hp : 0 ≤ p.toInt) (hs : 0 ≤ s.toInt) (hx : s.toInt = p.toInt → ¬ x.toInt % 256 = 255) : PS (upd cs s.toNatClampNeg x) p := by
  unfold PS
  by_cases e : s.toInt = p.toInt
  · rw [cl_e e, pk_us]; exact hx e
  · rw [pk_un (fun q => e (by have q : p.toInt.toNat = s.toInt.toNat := q; omega))]; exact h
theorem upd_bk {f : Nat → Int32} {j : Nat} {x y : Int32} (h : y = f j) : upd (upd f j x) j y = f := by
  funext k
  by_cases e : k = j
  · subst e; rw [pk_us]; exact h
  · rw [pk_un e, pk_un e]
theorem ushr22 {x v : Int32} (h : (x.toUInt32 >>> ((22 : Int32).toUInt32 &&& Int32.toUInt32 31)).toInt32 = v) : 0 ≤ v.toInt ∧ v.toInt ≤ 1023 := by
  rw [show ((22 : Int32).toUInt32 &&& Int32.toUInt32 31) = 22 from by decide] at h
  have e : (x.toUInt32 >>> 22).toNat < 1024 := by
    rw [UInt32.toNat_shiftRight]
    have q := UInt32.toNat_lt x.toUInt32
    show x.toUInt32.toNat >>> 22 < 1024
    rw [Nat.shiftRight_eq_div_pow]
    omega
  have e2 : v.toInt = ((x.toUInt32 >>> 22).toNat : Int) := by
    rw [← h]
    show (x.toUInt32 >>> 22).toBitVec.toInt = _
    rw [BitVec.toInt_eq_toNat_of_lt]
    · rfl
    · show 2 * (x.toUInt32 >>> 22).toNat < 2 ^ 32
      omega
  omega
def updG (d : Nat → Nat → Int64) (k : Nat) (f : Nat → Int64) : Nat → Nat → Int64 := fun k2 => if k2 = k then f else d k2

