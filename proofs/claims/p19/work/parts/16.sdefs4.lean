/-! a walk through the map: no room comes twice -/
def WQ (far ln : Nat → Int32) (n : Int) : Prop := n ≤ (cnt (fun j => decide (¬ (far j).toInt = -9)) 30 : Nat) ∧ ∀ j : Nat, (j : Int) < n → ¬ (far (ln j).toInt.toNat).toInt = -9 ∧ (far (ln j).toInt.toNat).toInt ≤ (j : Int)
theorem WQ_k {far ln : Nat → Int32} {n : Int} {k xl xf : Int32} (h : WQ far ln n) (h0 : 0 ≤ k.toInt) (hk : k.toInt < n) (el : xl = ln k.toNatClampNeg) (ef : xf = far xl.toNatClampNeg) : ¬ xf.toInt = -9 ∧ xf.toInt ≤ k.toInt := by
  have e : ((k.toNatClampNeg : Nat) : Int) = k.toInt := cl_nn h0
  have q := h.2 k.toNatClampNeg (by omega)
  rw [← el, e] at q
  rw [ef]
  exact q
theorem WQ_n {far ln : Nat → Int32} {n : Int} {v xa : Int32} (h : WQ far ln n) (hv : 0 ≤ v.toInt ∧ v.toInt ≤ 29) (ea : xa = far v.toNatClampNeg) (ha : xa.toInt = -9) : n ≤ 29 := by
  have q := cnt_free (P := fun j => decide (¬ (far j).toInt = -9)) (n := 30) (j := v.toInt.toNat) (by omega) (by
    intro w
    have w := of_decide_eq_true w
    rw [ea] at ha
    exact w ha)
  have := h.1
  omega
theorem WQ_a {far ln : Nat → Int32} {m v f xa : Int32} (h : WQ far ln m.toInt) (hm : 0 ≤ m.toInt) (hv : 0 ≤ v.toInt ∧ v.toInt ≤ 29) (ea : xa = far v.toNatClampNeg) (ha : xa.toInt = -9) (hf : 0 ≤ f.toInt ∧ f.toInt ≤ m.toInt) : WQ (upd far v.toNatClampNeg f) (upd ln m.toNatClampNeg v) (m.toInt + 1) := by
  rw [ea] at ha
  have ha : (far v.toInt.toNat).toInt = -9 := ha
  show WQ (upd far v.toInt.toNat f) (upd ln m.toInt.toNat v) (m.toInt + 1)
  constructor
  · have q := cnt_lt (P := fun j => decide (¬ (far j).toInt = -9)) (Q := fun j => decide (¬ ((upd far v.toInt.toNat f) j).toInt = -9)) (n := 30) (j := v.toInt.toNat) (fun j hj w => by
      have w := of_decide_eq_true w
      refine decide_eq_true ?_
      by_cases e : j = v.toInt.toNat
      · rw [e, pk_us]; omega
      · rw [pk_un e]; exact w) (by omega) (fun w => (of_decide_eq_true w) ha) (decide_eq_true (by rw [pk_us]; omega))
    have := h.1
    omega
  · intro j hj
    by_cases e : j = m.toInt.toNat
    · rw [e, pk_us, pk_us]; omega
    · rw [pk_un e]
      have q := h.2 j (by omega)
      have e2 : ¬ (ln j).toInt.toNat = v.toInt.toNat := fun w => q.1 (by rw [w]; exact ha)
      rw [pk_un e2]; exact q
theorem WQ_0 {far ln : Nat → Int32} {a : Int32} (ha : 0 ≤ a.toInt ∧ a.toInt ≤ 29) : WQ (upd far a.toNatClampNeg 0) (upd ln (0 : Int32).toNatClampNeg a) (1 : Int32).toInt := by
  have e1 : (1 : Int32).toInt = 1 := by decide
  have e0 : (0 : Int32).toInt = 0 := by decide
  rw [e1]
  show WQ (upd far a.toInt.toNat 0) (upd ln (0 : Int32).toInt.toNat a) 1
  constructor
  · have q := cnt_lt (P := fun _ => false) (Q := fun j => decide (¬ ((upd far a.toInt.toNat 0) j).toInt = -9)) (n := 30) (j := a.toInt.toNat) (fun j hj w => by cases w) (by omega) (by decide +kernel) (decide_eq_true (by rw [pk_us]; decide))
    omega
  · intro j hj
    have e : j = (0 : Int32).toInt.toNat := by rw [e0]; omega
    rw [e, pk_us, pk_us, e0]
    omega
/-! bulks: the pile -/
noncomputable def gM (fo le sa F : Nat → Int32) (n p x : Int) : Int := if p = -9 then (if pL fo le sa n x = -9 then -9 else (fo (pL fo le sa n x).toNat).toInt) else (F x.toNat).toInt
noncomputable def gA (fo le mi sa A : Nat → Int32) (n p x : Int) : Int := if p = -9 then (if pL fo le sa n x = -9 then -9 else (mi (pL fo le sa n x).toNat).toInt) else (A x.toNat).toInt
/-- where an object lies now -/
noncomputable def gF (fo le mi sa F A : Nat → Int32) (n N p x : Int) : Int := if p = -9 then fP fo le mi sa n x else nF N F A x
theorem gF_of {fo le mi sa F A : Nat → Int32} {n N p x : Int} (hx : 0 ≤ x ∧ x < N ∧ x ≤ 29) (h : ¬ gM fo le sa F n p x = -9) : gF fo le mi sa F A n N p x = gA fo le mi sa A n p x := by
  unfold gF gA
  unfold gM at h
  by_cases q : p = -9
  · rw [if_pos q] at h
    rw [if_pos q, if_pos q]
    by_cases w : pL fo le sa n x = -9
    · rw [if_pos w] at h; exact absurd rfl h
    · rw [if_neg w]
      unfold fP
      rw [if_pos ⟨hx.1, hx.2.2, w⟩]
  · rw [if_neg q] at h
    rw [if_neg q, if_neg q]
    unfold nF
    rw [if_pos ⟨hx.1, hx.2.1, h⟩]
theorem gF_acy {pa ko fo le mi sa F A wF wA : Nat → Int32} {kn N n p tn : Int} (hS : SJ pa ko fo le mi sa kn N n) (hJ : TJ pa ko F A wF wA N p tn) : Acy (gF fo le mi sa F A n N p) := by
  by_cases q : p = -9
  · have e : gF fo le mi sa F A n N p = fP fo le mi sa n := by funext x; unfold gF; rw [if_pos q]
    rw [e]; exact hS.2.2.2
  · have e : gF fo le mi sa F A n N p = nF N F A := by funext x; unfold gF; rw [if_neg q]
    rw [e]; exact (hJ q).2.1.2.2.2.1
def PQ (rk : Int → Nat) (pi : Nat → Int32) (d : Int) : Prop := ∀ j : Nat, (j : Int) ≤ d → (j : Int) ≤ (rk (pi j).toInt : Nat)
def NQ (nx : Nat → Int32) (N d : Int) : Prop := ∀ j : Nat, (j : Int) ≤ d → 0 ≤ (nx j).toInt ∧ (nx j).toInt ≤ N
def Rs (nx : Nat → Int32) : Nat → Nat
  | 0 => 31 - (nx 0).toInt.toNat
  | d + 1 => 32 * Rs nx d + (31 - (nx (d + 1)).toInt.toNat)
def Ms (nx : Nat → Int32) (d : Int) : Nat := if d < 0 then 0 else 32 ^ (29 - d.toNat) * Rs nx d.toNat
theorem Rs_lo {nx : Nat → Int32} {j : Nat} {y : Int32} : ∀ d, d < j → Rs (upd nx j y) d = Rs nx d := by
  intro d
  induction d with
  | zero => intro h; unfold Rs; rw [pk_un (show ¬ 0 = j by omega)]
  | succ d ih => intro h; unfold Rs; rw [ih (by omega), pk_un (show ¬ d + 1 = j by omega)]
theorem Rs_at {nx : Nat → Int32} {d : Nat} {y : Int32} (h0 : 0 ≤ (nx d).toInt) (h1 : (nx d).toInt < y.toInt) (h2 : y.toInt ≤ 31) : Rs (upd nx d y) d + 1 ≤ Rs nx d := by
  cases d with
  | zero => unfold Rs; rw [pk_us]; omega
  | succ d => unfold Rs; rw [Rs_lo d (by omega), pk_us]; omega
/-- one deeper -/
theorem Ms_in {nx : Nat → Int32} {d : Nat} {y : Int32} (h0 : 0 ≤ (nx d).toInt) (h1 : (nx d).toInt < y.toInt) (h2 : y.toInt ≤ 31) (hd : d + 1 ≤ 29) : Ms (upd (upd nx d y) (d + 1) 0) ((d + 1 : Nat) : Int) < Ms nx (d : Int) := by
  unfold Ms
  rw [if_neg (by omega), if_neg (by omega)]
  rw [show ((d + 1 : Nat) : Int).toNat = d + 1 by omega, show ((d : Nat) : Int).toNat = d by omega]
  have e : Rs (upd (upd nx d y) (d + 1) 0) (d + 1) = 32 * Rs (upd nx d y) d + 31 := by
    show 32 * Rs (upd (upd nx d y) (d + 1) 0) d + (31 - ((upd (upd nx d y) (d + 1) 0) (d + 1)).toInt.toNat) = _
    rw [Rs_lo d (by omega), pk_us]
    rfl
  rw [e]
  have a := Rs_at (y := y) h0 h1 h2
  have p : 32 ^ (29 - d) = 32 ^ (29 - (d + 1)) * 32 := by
    rw [← Nat.pow_succ, show (29 - (d + 1)).succ = 29 - d by omega]
  rw [p, Nat.mul_assoc]
  exact Nat.mul_lt_mul_of_pos_left (by omega) (Nat.pow_pos (by omega))
/-- one up -/
theorem Ms_out {nx : Nat → Int32} {d : Nat} {y : Int32} (h0 : 0 ≤ (nx d).toInt ∧ (nx d).toInt ≤ 30) (hd : d ≤ 29) : Ms (upd nx d y) ((d : Int) - 1) < Ms nx (d : Int) := by
  unfold Ms
  rw [if_neg (show ¬ ((d : Int) < 0) by omega), show ((d : Nat) : Int).toNat = d by omega]
  cases d with
  | zero =>
    rw [if_pos (by omega)]
    refine Nat.mul_pos (Nat.pow_pos (by omega)) ?_
    unfold Rs; omega
  | succ d =>
    rw [if_neg (by omega), show ((d + 1 : Nat) : Int) - 1 = (d : Int) by omega, show ((d : Nat) : Int).toNat = d by omega, Rs_lo d (by omega)]
    have p : 32 ^ (29 - d) = 32 ^ (29 - (d + 1)) * 32 := by
      rw [← Nat.pow_succ, show (29 - (d + 1)).succ = 29 - d by omega]
    rw [p, Nat.mul_assoc]
    refine Nat.mul_lt_mul_of_pos_left ?_ (Nat.pow_pos (by omega))
    show 32 * Rs nx d < 32 * Rs nx d + (31 - (nx (d + 1)).toInt.toNat)
    omega
theorem PQ_in {rk : Int → Nat} {pi : Nat → Int32} {d e x : Int32} (h : PQ rk pi d.toInt) (h0 : 0 ≤ d.toInt) (he : e.toInt = d.toInt + 1) (hx : e.toInt ≤ ((rk x.toInt : Nat) : Int)) : PQ rk (upd pi e.toNatClampNeg x) e.toInt := by
  show PQ rk (upd pi e.toInt.toNat x) e.toInt
  intro j hj
  by_cases q : j = e.toInt.toNat
  · rw [q, pk_us]; omega
  · rw [pk_un q]; exact h j (by omega)
theorem PQ_out {rk : Int → Nat} {pi : Nat → Int32} {d e : Int32} (h : PQ rk pi d.toInt) (he : e.toInt = d.toInt - 1) : PQ rk pi e.toInt := fun j hj => h j (by omega)
theorem NQ_in {nx : Nat → Int32} {N : Int} {d e y : Int32} (h : NQ nx N d.toInt) (h0 : 0 ≤ d.toInt) (he : e.toInt = d.toInt + 1) (hy : 0 ≤ y.toInt ∧ y.toInt ≤ N) : NQ (upd (upd nx d.toNatClampNeg y) e.toNatClampNeg 0) N e.toInt := by
  show NQ (upd (upd nx d.toInt.toNat y) e.toInt.toNat 0) N e.toInt
  intro j hj
  by_cases q : j = e.toInt.toNat
  · rw [q, pk_us]
    have z : (0 : Int32).toInt = 0 := by decide
    rw [z]; omega
  · rw [pk_un q]
    by_cases q2 : j = d.toInt.toNat
    · rw [q2, pk_us]; exact hy
    · rw [pk_un q2]; exact h j (by omega)
theorem NQ_out {nx : Nat → Int32} {N : Int} {d e y : Int32} (h : NQ nx N d.toInt) (h0 : 0 ≤ d.toInt) (he : e.toInt = d.toInt - 1) : NQ (upd nx d.toNatClampNeg y) N e.toInt := by
  show NQ (upd nx d.toInt.toNat y) N e.toInt
  intro j hj
  rw [pk_un (show ¬ j = d.toInt.toNat by omega)]; exact h j (by omega)
theorem NQ_0 {nx : Nat → Int32} {N : Int} (hN : 0 ≤ N) : NQ (upd nx (0 : Int32).toNatClampNeg 0) N (0 : Int32).toInt := by
  have z : (0 : Int32).toInt = 0 := by decide
  show NQ (upd nx (0 : Int32).toInt.toNat 0) N (0 : Int32).toInt
  intro j hj
  rw [show j = (0 : Int32).toInt.toNat by omega, pk_us, z]; omega
theorem Ms_i {nx : Nat → Int32} {N : Int} {d e y v : Int32} (h : NQ nx N d.toInt) (h0 : 0 ≤ d.toInt) (he : e.toInt = d.toInt + 1) (h29 : e.toInt ≤ 29) (ev : v = nx d.toNatClampNeg) (h1 : v.toInt < y.toInt) (h2 : y.toInt ≤ 31) : Ms (upd (upd nx d.toNatClampNeg y) e.toNatClampNeg 0) e.toInt < Ms nx d.toInt := by
  have ed : ((d.toInt.toNat : Nat) : Int) = d.toInt := by omega
  have q := h d.toInt.toNat (by omega)
  have ev : v = nx d.toInt.toNat := ev
  have w := Ms_in (nx := nx) (d := d.toInt.toNat) (y := y) q.1 (by rw [← ev]; exact h1) h2 (by omega)
  show Ms (upd (upd nx d.toInt.toNat y) e.toInt.toNat 0) e.toInt < Ms nx d.toInt
  rw [show e.toInt.toNat = d.toInt.toNat + 1 by omega, show e.toInt = ((d.toInt.toNat + 1 : Nat) : Int) by omega]
  rw [ed] at w
  exact w
theorem Ms_o {nx : Nat → Int32} {N : Int} {d e y : Int32} (h : NQ nx N d.toInt) (hN : N ≤ 30) (h0 : 0 ≤ d.toInt) (h29 : d.toInt ≤ 29) (he : e.toInt = d.toInt - 1) : Ms (upd nx d.toNatClampNeg y) e.toInt < Ms nx d.toInt := by
  have ed : ((d.toInt.toNat : Nat) : Int) = d.toInt := by omega
  have q := h d.toInt.toNat (by omega)
  have w := Ms_out (nx := nx) (d := d.toInt.toNat) (y := y) (by omega) (by omega)
  show Ms (upd nx d.toInt.toNat y) e.toInt < Ms nx d.toInt
  rw [ed] at w
  rw [he]
  exact w

