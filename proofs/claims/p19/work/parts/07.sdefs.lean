/-! sentences, tales -/
def mP (fo le sa : Nat → Int32) (o : Int) (s : Nat) : Prop := (sa s).toInt = 1 ∧ (fo s).toInt < 5 ∧ (le s).toInt = o
/-- the sentence that places o -/
noncomputable def pL (fo le sa : Nat → Int32) (n o : Int) : Int := fsF (mP fo le sa o) n.toNat
/-- where the sentences lay an object -/
noncomputable def fP (fo le mi sa : Nat → Int32) (n x : Int) : Int := if 0 ≤ x ∧ x ≤ 29 ∧ ¬ pL fo le sa n x = -9 then (mi (pL fo le sa n x).toNat).toInt else -9
/-- where a tale lays an object -/
def nF (N : Int) (F A : Nat → Int32) (x : Int) : Int := if 0 ≤ x ∧ x < N ∧ ¬ (F x.toNat).toInt = -9 then (A x.toNat).toInt else -9
/-- a tale's places -/
def TI (N : Int) (Rm : Int → Prop) (p : Int) (F A : Nat → Int32) : Prop :=
  (0 ≤ p ∧ p < N ∧ ¬ Rm p) ∧ (∀ x : Int, 0 ≤ x → x < N → ¬ (F x.toNat).toInt = -9 → 0 ≤ (A x.toNat).toInt ∧ (A x.toNat).toInt < N) ∧ (∀ x : Int, 0 ≤ x → x < N → Rm x → (F x.toNat).toInt = -9) ∧ Acy (nF N F A) ∧ ∃ r, 0 ≤ r ∧ r < N ∧ Rm r ∧ Ch (nF N F A) p r
theorem nF_at {N : Int} {F A : Nat → Int32} {x f y : Int32} (h : 0 ≤ x.toInt ∧ x.toInt < N) (ef : f = F x.toNatClampNeg) (hf : ¬ f.toInt = -9) (e : y = A x.toNatClampNeg) : nF N F A x.toInt = y.toInt := by
  have q : ¬ (F x.toInt.toNat).toInt = -9 := by rw [ef] at hf; exact hf
  unfold nF
  rw [if_pos ⟨h.1, h.2, q⟩, e]
  rfl
theorem nF_no {N : Int} {F A : Nat → Int32} {x f : Int32} (ef : f = F x.toNatClampNeg) (hf : f.toInt = -9) : nF N F A x.toInt = -9 := by
  have q : (F x.toInt.toNat).toInt = -9 := by rw [ef] at hf; exact hf
  unfold nF
  rw [if_neg (fun h => h.2.2 q)]
theorem nF_Sp {N : Int} {F A : Nat → Int32} (hN : N ≤ 30) (h : ∀ x : Int, 0 ≤ x → x < N → ¬ (F x.toNat).toInt = -9 → 0 ≤ (A x.toNat).toInt ∧ (A x.toNat).toInt < N) : Sp (nF N F A) := by
  refine ⟨if_neg (by omega), fun x => ?_⟩
  unfold nF
  by_cases q : 0 ≤ x ∧ x < N ∧ ¬ (F x.toNat).toInt = -9
  · rw [if_pos q]
    have := h x q.1 q.2.1 q.2.2
    omega
  · rw [if_neg q]; exact Or.inl rfl
theorem TI_ext {N : Int} {Rm : Int → Prop} {p : Int} {F A F2 A2 : Nat → Int32} (h : TI N Rm p F A) (e : ∀ j : Nat, (j : Int) < N → F2 j = F j ∧ A2 j = A j) : TI N Rm p F2 A2 := by
  have en : nF N F2 A2 = nF N F A := by
    funext x
    unfold nF
    by_cases q : 0 ≤ x ∧ x < N
    · rw [(e x.toNat (by omega)).1, (e x.toNat (by omega)).2]
    · rw [if_neg (fun z => q ⟨z.1, z.2.1⟩), if_neg (fun z => q ⟨z.1, z.2.1⟩)]
  obtain ⟨h1, h2, h3, h4, h5⟩ := h
  refine ⟨h1, fun x a b d => ?_, fun x a b d => ?_, by rw [en]; exact h4, by rw [en]; exact h5⟩
  · rw [(e x.toNat (by omega)).1] at d
    rw [(e x.toNat (by omega)).2]
    exact h2 x a b d
  · rw [(e x.toNat (by omega)).1]
    exact h3 x a b d
theorem nF_lay {N : Int} {F A : Nat → Int32} {z : Nat} {f w : Int32} (hz : (z : Int) < N) (hf : ¬ f.toInt = -9) : nF N (upd F z f) (upd A z w) = rp (nF N F A) (z : Int) w.toInt := by
  funext x
  by_cases e : x = (z : Int)
  · rw [e, rp_s]
    unfold nF
    rw [show ((z : Int)).toNat = z by omega, pk_us, pk_us, if_pos ⟨by omega, hz, hf⟩]
  · rw [rp_n e]
    unfold nF
    by_cases q : 0 ≤ x ∧ x < N
    · rw [pk_un (show ¬ x.toNat = z by omega), pk_un (show ¬ x.toNat = z by omega)]
    · rw [if_neg (fun y => q ⟨y.1, y.2.1⟩), if_neg (fun y => q ⟨y.1, y.2.1⟩)]
/-- something is laid elsewhere -/
theorem TI_lay {N : Int} {Rm : Int → Prop} {p : Int} {F A : Nat → Int32} {z : Nat} {f w : Int32} (hN : N ≤ 30) (h : TI N Rm p F A) (hz : (z : Int) < N) (hr : ¬ Rm (z : Int)) (hf : ¬ f.toInt = -9) (hw : 0 ≤ w.toInt ∧ w.toInt < N) (hn : ¬ Ch (nF N F A) w.toInt (z : Int)) (hp : ∃ r, 0 ≤ r ∧ r < N ∧ Rm r ∧ Ch (rp (nF N F A) (z : Int) w.toInt) p r) : TI N Rm p (upd F z f) (upd A z w) := by
  obtain ⟨h1, h2, h3, h4, h5⟩ := h
  refine ⟨h1, fun x a b d => ?_, fun x a b d => ?_, ?_, ?_⟩
  · by_cases e : x.toNat = z
    · rw [e, pk_us]; exact hw
    · rw [pk_un e] at d ⊢; exact h2 x a b d
  · have e : ¬ x.toNat = z := fun e => hr (by rw [show (z : Int) = x by omega]; exact d)
    rw [pk_un e]; exact h3 x a b d
  · rw [nF_lay hz hf]
    exact Acy_rp (nF_Sp hN h2) h4 (by omega) (by omega) hn
  · rw [nF_lay hz hf]; exact hp
/-- what p holds is not above p -/
theorem Ch_held {f : Int → Int} (hs : Sp f) (hA : Acy f) {x p : Int} (hp : 0 ≤ p) (hp2 : p ≤ 29) (h : f x = p) (hx : ¬ x = -9) : ¬ Ch f p x := by
  intro hc
  rcases Ch_st.mp hc with q | q
  · rw [← q] at h
    have := Acy_no hs hA hp hp2
    rw [h] at this
    exact this Ch_rf
  · exact Acy_no hs hA hp hp2 (Ch_tr q (Ch_up (by rw [h]; exact Ch_rf)))
/-- the way of p leads to a room: it is placed -/
theorem TI_p {N : Int} {Rm : Int → Prop} {p : Int} {F A : Nat → Int32} (h : TI N Rm p F A) : ¬ (F p.toNat).toInt = -9 := by
  obtain ⟨h1, h2, h3, h4, r, r0, r1, r2, r3⟩ := h
  intro e
  rcases Ch_st.mp r3 with q | q
  · exact h1.2.2 (by rw [q]; exact r2)
  · have n : nF N F A p = -9 := if_neg (fun z => z.2.2 e)
    rw [n] at q
    have := Ch_nd (f := nF N F A) (if_neg (by omega)) q
    omega
/-! exits -/
def oP (fo le mi sa : Nat → Int32) (door r : Int) (s : Nat) : Prop := (sa s).toInt = 1 ∧ (fo s).toInt = 5 ∧ (mi s).toInt = door ∧ ¬ (le s).toInt = r
def bP (fo le ri sa : Nat → Int32) (r d : Int) (s : Nat) : Prop := (sa s).toInt = 1 ∧ (fo s).toInt = 5 ∧ (le s).toInt = r ∧ (ri s).toInt = d
def qP (fo mi ri sa : Nat → Int32) (r d : Int) (s : Nat) : Prop := (sa s).toInt = 1 ∧ (fo s).toInt = 5 ∧ (mi s).toInt = r ∧ (ri s).toInt = d
def opp (d : Int) : Int := if d % 2 = 0 then d + 1 else d - 1
noncomputable def oS (fo le mi sa : Nat → Int32) (n door r : Int) : Int := if fsF (oP fo le mi sa door r) n.toNat = -9 then -9 else (le (fsF (oP fo le mi sa door r) n.toNat).toNat).toInt
/-- the exit of room r in direction d leads to v -/
def LdR (pa ko fo le mi ri sa : Nat → Int32) (n r d v : Int) : Prop :=
  (¬ lsF (bP fo le ri sa r d) n.toNat = -9 ∧ Kd pa ko (mi (lsF (bP fo le ri sa r d) n.toNat).toNat).toInt 2 ∧ v = oS fo le mi sa n (mi (lsF (bP fo le ri sa r d) n.toNat).toNat).toInt r)
  ∨ (¬ lsF (bP fo le ri sa r d) n.toNat = -9 ∧ ¬ Kd pa ko (mi (lsF (bP fo le ri sa r d) n.toNat).toNat).toInt 2 ∧ v = (mi (lsF (bP fo le ri sa r d) n.toNat).toNat).toInt)
  ∨ (lsF (bP fo le ri sa r d) n.toNat = -9 ∧ ¬ fsF (qP fo mi ri sa r (opp d)) n.toNat = -9 ∧ v = (le (fsF (qP fo mi ri sa r (opp d)) n.toNat).toNat).toInt)
  ∨ (lsF (bP fo le ri sa r d) n.toNat = -9 ∧ fsF (qP fo mi ri sa r (opp d)) n.toNat = -9 ∧ v = -9)
theorem LdR_u {pa ko fo le mi ri sa : Nat → Int32} {n r d v v2 : Int} (h : LdR pa ko fo le mi ri sa n r d v) (h2 : LdR pa ko fo le mi ri sa n r d v2) : v = v2 := by
  rcases h with ⟨a, b, e⟩ | ⟨a, b, e⟩ | ⟨a, b, e⟩ | ⟨a, b, e⟩ <;> rcases h2 with ⟨a2, b2, e2⟩ | ⟨a2, b2, e2⟩ | ⟨a2, b2, e2⟩ | ⟨a2, b2, e2⟩ <;> first | (rw [e, e2]; done) | exact absurd a a2 | exact absurd a2 a | exact absurd b b2 | exact absurd b2 b
theorem lst_y {P : Nat → Prop} {x : Int32} (h0 : 0 ≤ x.toInt) (hp : P x.toNatClampNeg) : lst P (x.toInt.toNat + 1) x.toInt :=
  Or.inr ⟨x.toNatClampNeg, by show x.toInt = ((x.toInt.toNat : Nat) : Int); omega, by show x.toInt.toNat < x.toInt.toNat + 1; omega, hp, fun s2 h2 h3 => by have q : x.toInt.toNat < s2 := h2; omega⟩
theorem lst_n {P : Nat → Prop} {x : Int32} {r : Int} (h : lst P x.toInt.toNat r) (hp : ¬ P x.toNatClampNeg) : lst P (x.toInt.toNat + 1) r := by
  rcases h with ⟨h, a⟩ | ⟨s, h, a, b, d⟩
  · refine Or.inl ⟨h, fun s hs => ?_⟩
    by_cases e : s = x.toInt.toNat
    · rw [e]; exact hp
    · exact a s (by omega)
  · refine Or.inr ⟨s, h, by omega, b, fun s2 h2 h3 => ?_⟩
    by_cases e : s2 = x.toInt.toNat
    · rw [e]; exact hp
    · exact d s2 h2 (by omega)
theorem fst_y {P : Nat → Prop} {x : Int32} {r : Int} (h : fst P x.toInt.toNat r) (hr : r = -9) (h0 : 0 ≤ x.toInt) (hp : P x.toNatClampNeg) : fst P (x.toInt.toNat + 1) x.toInt := by
  rcases h with ⟨h, a⟩ | ⟨s, h, a, b, d⟩
  · exact Or.inr ⟨x.toNatClampNeg, by show x.toInt = ((x.toInt.toNat : Nat) : Int); omega, by show x.toInt.toNat < x.toInt.toNat + 1; omega, hp, fun s2 h2 => a s2 h2⟩
  · omega
theorem fst_n {P : Nat → Prop} {x : Int32} {r : Int} (h : fst P x.toInt.toNat r) (hp : ¬ P x.toNatClampNeg ∨ ¬ r = -9) : fst P (x.toInt.toNat + 1) r := by
  rcases h with ⟨h, a⟩ | ⟨s, h, a, b, d⟩
  · refine Or.inl ⟨h, fun s hs => ?_⟩
    by_cases e : s = x.toInt.toNat
    · rw [e]; exact hp.resolve_right (fun q => q h)
    · exact a s (by omega)
  · exact Or.inr ⟨s, h, by omega, b, d⟩
theorem lst_0 {P : Nat → Prop} {x r : Int32} (h : x.toInt = 0) (hr : r.toInt = -9) : lst P x.toInt.toNat r.toInt := Or.inl ⟨hr, fun s hs => by rw [h] at hs; exact absurd hs (Nat.not_lt_zero s)⟩
theorem fst_0 {P : Nat → Prop} {x r : Int32} (h : x.toInt = 0) (hr : r.toInt = -9) : fst P x.toInt.toNat r.toInt := Or.inl ⟨hr, fun s hs => by rw [h] at hs; exact absurd hs (Nat.not_lt_zero s)⟩
theorem lst_g {P : Nat → Prop} {x y : Int32} {r : Int} (h : lst P (x.toInt.toNat + 1) r) (h0 : 0 ≤ x.toInt) (hy : y.toInt = x.toInt + 1) : lst P y.toInt.toNat r := by
  rw [show y.toInt.toNat = x.toInt.toNat + 1 by omega]; exact h
theorem fst_g {P : Nat → Prop} {x y : Int32} {r : Int} (h : fst P (x.toInt.toNat + 1) r) (h0 : 0 ≤ x.toInt) (hy : y.toInt = x.toInt + 1) : fst P y.toInt.toNat r := by
  rw [show y.toInt.toNat = x.toInt.toNat + 1 by omega]; exact h
theorem lst_f {P : Nat → Prop} {x : Int32} {r n : Int} (h : lst P x.toInt.toNat r) (hn : x.toInt = n) : lsF P n.toNat = r := by rw [hn] at h; exact (lsF_e h).symm
theorem fst_f {P : Nat → Prop} {x : Int32} {r n : Int} (h : fst P x.toInt.toNat r) (hn : x.toInt = n) : fsF P n.toNat = r := by rw [hn] at h; exact (fsF_e h).symm
theorem rem2 {x d : Int32} (e : x = d - d / 2 * 2) (h : 0 ≤ d.toInt ∧ d.toInt ≤ 9) : x.toInt = d.toInt % 2 := by
  have q : d = 0 ∨ d = 1 ∨ d = 2 ∨ d = 3 ∨ d = 4 ∨ d = 5 ∨ d = 6 ∨ d = 7 ∨ d = 8 ∨ d = 9 := by
    rcases (show d.toInt = 0 ∨ d.toInt = 1 ∨ d.toInt = 2 ∨ d.toInt = 3 ∨ d.toInt = 4 ∨ d.toInt = 5 ∨ d.toInt = 6 ∨ d.toInt = 7 ∨ d.toInt = 8 ∨ d.toInt = 9 by omega) with q | q | q | q | q | q | q | q | q | q
    · exact Or.inl ((ti_eq (b := 0) rfl (by decide +kernel)).mpr q)
    · exact Or.inr (Or.inl ((ti_eq (b := 1) rfl (by decide +kernel)).mpr q))
    · exact Or.inr (Or.inr (Or.inl ((ti_eq (b := 2) rfl (by decide +kernel)).mpr q)))
    · exact Or.inr (Or.inr (Or.inr (Or.inl ((ti_eq (b := 3) rfl (by decide +kernel)).mpr q))))
    · exact Or.inr (Or.inr (Or.inr (Or.inr (Or.inl ((ti_eq (b := 4) rfl (by decide +kernel)).mpr q)))))
    · exact Or.inr (Or.inr (Or.inr (Or.inr (Or.inr (Or.inl ((ti_eq (b := 5) rfl (by decide +kernel)).mpr q))))))
    · exact Or.inr (Or.inr (Or.inr (Or.inr (Or.inr (Or.inr (Or.inl ((ti_eq (b := 6) rfl (by decide +kernel)).mpr q)))))))
    · exact Or.inr (Or.inr (Or.inr (Or.inr (Or.inr (Or.inr (Or.inr (Or.inl ((ti_eq (b := 7) rfl (by decide +kernel)).mpr q))))))))
    · exact Or.inr (Or.inr (Or.inr (Or.inr (Or.inr (Or.inr (Or.inr (Or.inr (Or.inl ((ti_eq (b := 8) rfl (by decide +kernel)).mpr q)))))))))
    · exact Or.inr (Or.inr (Or.inr (Or.inr (Or.inr (Or.inr (Or.inr (Or.inr (Or.inr ((ti_eq (b := 9) rfl (by decide +kernel)).mpr q)))))))))
  rw [e]
  rcases q with q | q | q | q | q | q | q | q | q | q <;> rw [q] <;> decide
theorem opp_e {d : Int} (h : d % 2 = 0) : opp d = d + 1 := if_pos h
theorem opp_o {d : Int} (h : ¬ d % 2 = 0) : opp d = d - 1 := if_neg h
/-- what holds of all sentences -/
def SI (pa ko fo le mi : Nat → Int32) (N n : Int) : Prop := ∀ s : Nat, (s : Int) < n → (le s).toInt < N ∧ (¬ (fo s).toInt = 6 → (mi s).toInt < N) ∧ ((fo s).toInt < 5 → ¬ Kd pa ko (le s).toInt 0) ∧ ((fo s).toInt = 5 → Kd pa ko (le s).toInt 0 ∧ (Kd pa ko (mi s).toInt 0 ∨ Kd pa ko (mi s).toInt 2))
theorem lsF_r {P : Nat → Prop} {n : Int} (h0 : ¬ lsF P n.toNat = -9) : (((lsF P n.toNat).toNat : Nat) : Int) < n ∧ P (lsF P n.toNat).toNat := by
  rcases lsF_s P n.toNat with ⟨q, _⟩ | ⟨s, q, a, b, _⟩
  · exact absurd q h0
  · have e : (lsF P n.toNat).toNat = s := by omega
    rw [e]
    exact ⟨by omega, b⟩
theorem fsF_q {P : Nat → Prop} {n : Int} (h0 : ¬ fsF P n.toNat = -9) : (((fsF P n.toNat).toNat : Nat) : Int) < n ∧ P (fsF P n.toNat).toNat := by
  rcases fsF_s P n.toNat with ⟨q, _⟩ | ⟨s, q, a, b, _⟩
  · exact absurd q h0
  · have e : (fsF P n.toNat).toNat = s := by omega
    rw [e]
    exact ⟨by omega, b⟩
/-- exits lead to rooms -/
theorem LdR_r {pa ko fo le mi ri sa : Nat → Int32} {N n r d v : Int} (h : LdR pa ko fo le mi ri sa n r d v) (hs : SI pa ko fo le mi N n) (hv : ¬ v = -9) : v < N ∧ Kd pa ko v 0 := by
  rcases h with ⟨a, b, e⟩ | ⟨a, b, e⟩ | ⟨a, b, e⟩ | ⟨a, b, e⟩
  · unfold oS at e
    by_cases q : fsF (oP fo le mi sa (mi (lsF (bP fo le ri sa r d) n.toNat).toNat).toInt r) n.toNat = -9
    · rw [if_pos q] at e; exact absurd e hv
    · rw [if_neg q] at e
      have w := fsF_q q
      have z := hs _ w.1
      rw [e]
      exact ⟨z.1, (z.2.2.2 w.2.2.1).1⟩
  · have w := lsF_r a
    have z := hs _ w.1
    rw [e]
    refine ⟨z.2.1 (by have := w.2.2.1; omega), ?_⟩
    exact (z.2.2.2 w.2.2.1).2.resolve_right b
  · have w := fsF_q b
    have z := hs _ w.1
    rw [e]
    exact ⟨z.1, (z.2.2.2 w.2.2.1).1⟩
  · exact absurd e hv

