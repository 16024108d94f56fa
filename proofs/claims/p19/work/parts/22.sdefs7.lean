/-! the search, and the begin of a tale -/
def SQ (pa ko w v : Nat → Int32) (N p m : Int) : Prop := ∀ s : Nat, ((s : Int) < m ∨ s = 300) → TI N (fun z => Kd pa ko z 0) p (fun o => w (30 * s + o)) (fun o => v (30 * s + o))
theorem gF_acyT {pa ko fo le mi sa F A : Nat → Int32} {N n p : Int} (hT : TI N (fun z => Kd pa ko z 0) p F A) : Acy (gF fo le mi sa F A n N p) := by
  have e : gF fo le mi sa F A n N p = nF N F A := by
    funext x
    unfold gF
    rw [if_neg (show ¬ p = -9 by have := hT.1; omega)]
  rw [e]; exact hT.2.2.2.1
theorem nF_ext {N : Int} {F A F2 A2 : Nat → Int32} (e : ∀ j : Nat, (j : Int) < N → F2 j = F j ∧ A2 j = A j) : nF N F2 A2 = nF N F A := by
  funext x
  unfold nF
  by_cases q : 0 ≤ x ∧ x < N
  · rw [(e x.toNat (by omega)).1, (e x.toNat (by omega)).2]
  · rw [if_neg (fun z => q ⟨z.1, z.2.1⟩), if_neg (fun z => q ⟨z.1, z.2.1⟩)]
/-- a state more is kept -/
theorem SQ_a {pa ko w v w0 v0 F A : Nat → Int32} {N p : Int} {T : Int32} {m : Int} (h : SQ pa ko w0 v0 N p T.toInt) (hT : TI N (fun z => Kd pa ko z 0) p F A) (h0 : 0 ≤ T.toInt ∧ T.toInt < 300) (hN : N ≤ 30) (hR : RW w v w0 v0 F A T.toInt.toNat N) (hm : m = T.toInt + 1) : SQ pa ko w v N p m := by
  intro s hs
  by_cases e : s = T.toInt.toNat
  · refine TI_ext hT (fun j hj => ?_)
    rw [e]
    exact hR.2 j hj
  · refine TI_ext (h s (by omega)) (fun j hj => ?_)
    exact hR.1 (30 * s + j) (by omega)
/-- rows stay -/
def SR (w v w0 v0 : Nat → Int32) (T : Nat) : Prop := ∀ j, j < 30 → w (30 * T + j) = w0 (30 * T + j) ∧ v (30 * T + j) = v0 (30 * T + j)
theorem SR_r {w v : Nat → Int32} {T : Nat} : SR w v w v T := fun _ _ => ⟨rfl, rfl⟩
theorem SR_w {w v w0 v0 F A : Nat → Int32} {T S : Nat} {m : Int} (h : RW w v w0 v0 F A S m) (ht : T < S) : SR w v w0 v0 T := fun j hj => h.1 (30 * T + j) (Or.inl (by omega))
/-- given back: the places are as before -/
theorem GB_e {F A F2 A2 w v w2 v2 : Nat → Int32} {T : Nat} {N : Int} (h : GB F A w v T N) (h2 : GB F2 A2 w2 v2 T N) (hr : SR w2 v2 w v T) (hN : N ≤ 30) : ∀ j : Nat, (j : Int) < N → F2 j = F j ∧ A2 j = A j := fun j hj => by
  have a := h j hj
  have b := h2 j hj
  have d := hr j (by omega)
  exact ⟨by rw [b.1, d.1, a.1], by rw [b.2, d.2, a.2]⟩
theorem RQ_f {re dr : Nat → Int32} {f g : Int → Int} {p M : Int} (e : g = f) (h : RQ re dr f p M) : RQ re dr g p M := by rw [e]; exact h
/-- how many steps the play has -/
def cF (fr : Nat → Int32) : Nat → Int → Nat
  | 0, _ => 0
  | n + 1, k => if k ≤ 0 then 0 else 1 + cF fr n (fr k.toNat).toInt
theorem cF_s {fr : Nat → Int32} (hl : ∀ j : Nat, (fr j).toInt ≤ 0 ∨ (fr j).toInt < (j : Int)) : ∀ (n m : Nat) (k : Int), k ≤ (n : Int) → k ≤ (m : Int) → cF fr n k = cF fr m k := by
  intro n
  induction n with
  | zero =>
    intro m k hn hm
    cases m with
    | zero => rfl
    | succ m => show 0 = (if k ≤ 0 then 0 else 1 + cF fr m (fr k.toNat).toInt); rw [if_pos (by omega)]
  | succ n ih =>
    intro m k hn hm
    cases m with
    | zero => show (if k ≤ 0 then 0 else 1 + cF fr n (fr k.toNat).toInt) = 0; rw [if_pos (by omega)]
    | succ m =>
      show (if k ≤ 0 then 0 else 1 + cF fr n (fr k.toNat).toInt) = (if k ≤ 0 then 0 else 1 + cF fr m (fr k.toNat).toInt)
      by_cases q : k ≤ 0
      · rw [if_pos q, if_pos q]
      · have w := hl k.toNat
        rw [if_neg q, if_neg q, ih m (fr k.toNat).toInt (by omega) (by omega)]
theorem cF_le {fr : Nat → Int32} (hl : ∀ j : Nat, (fr j).toInt ≤ 0 ∨ (fr j).toInt < (j : Int)) : ∀ (n : Nat) (k : Int), cF fr n k ≤ k.toNat := by
  intro n
  induction n with
  | zero => intro k; exact Nat.zero_le _
  | succ n ih =>
    intro k
    show (if k ≤ 0 then 0 else 1 + cF fr n (fr k.toNat).toInt) ≤ k.toNat
    by_cases q : k ≤ 0
    · rw [if_pos q]; omega
    · have w := hl k.toNat
      have z := ih (fr k.toNat).toInt
      rw [if_neg q]; omega
def cl (fr : Nat → Int32) (k : Int) : Nat := cF fr 300 k
theorem cl_0 {fr : Nat → Int32} {k : Int} (h : k ≤ 0) : cl fr k = 0 := if_pos h
theorem cl_s {fr : Nat → Int32} (hl : ∀ j : Nat, (fr j).toInt ≤ 0 ∨ (fr j).toInt < (j : Int)) {k y : Int32} (h : 0 < k.toInt) (h2 : k.toInt ≤ 299) (e : y = fr k.toNatClampNeg) : cl fr k.toInt = 1 + cl fr y.toInt := by
  have e : y = fr k.toInt.toNat := e
  have w := hl k.toInt.toNat
  show (if k.toInt ≤ 0 then 0 else 1 + cF fr 299 (fr k.toInt.toNat).toInt) = 1 + cF fr 300 y.toInt
  rw [if_neg (by omega), ← e, cF_s hl 299 300 y.toInt (by rw [e]; omega) (by rw [e]; omega)]
theorem mI_fr {i : Nat → Int32} {c : Nat → Nat → Int32} (hI : mInv i c) (j : Nat) : (c 54 j).toInt ≤ 0 ∨ (c 54 j).toInt < (j : Int) := by
  have q : (c 54 j).toInt = -9 ∨ (0 ≤ (c 54 j).toInt ∧ (c 54 j).toInt ≤ 299 ∧ ((c 54 j).toInt = 0 ∨ (c 54 j).toInt < (j : Int))) := hI.2 54 j
  omega
/-- the places as the sentences have them -/
def BG (fo le mi sa F A : Nat → Int32) (n m : Int) : Prop := ∀ x : Int, 0 ≤ x → x < m → (pL fo le sa n x = -9 ∧ (F x.toNat).toInt = -9 ∧ (A x.toNat).toInt = -9) ∨ (¬ pL fo le sa n x = -9 ∧ (F x.toNat).toInt = (fo (pL fo le sa n x).toNat).toInt ∧ (A x.toNat).toInt = (mi (pL fo le sa n x).toNat).toInt)
theorem BG_0 {fo le mi sa F A : Nat → Int32} {n : Int} {x : Int32} (h : x.toInt = 0) : BG fo le mi sa F A n x.toInt := fun y a b => by omega
theorem BG_a {fo le mi sa F A : Nat → Int32} {n : Int} {x y f a : Int32} (h : BG fo le mi sa F A n x.toInt) (h0 : 0 ≤ x.toInt) (hy : y.toInt = x.toInt + 1) (hv : (pL fo le sa n x.toInt = -9 ∧ f.toInt = -9 ∧ a.toInt = -9) ∨ (¬ pL fo le sa n x.toInt = -9 ∧ f.toInt = (fo (pL fo le sa n x.toInt).toNat).toInt ∧ a.toInt = (mi (pL fo le sa n x.toInt).toNat).toInt)) : BG fo le mi sa (upd F x.toNatClampNeg f) (upd A x.toNatClampNeg a) n y.toInt := by
  show BG fo le mi sa (upd F x.toInt.toNat f) (upd A x.toInt.toNat a) n y.toInt
  intro w p q
  by_cases e : w = x.toInt
  · rw [e, pk_us, pk_us]; exact hv
  · have z : ¬ w.toNat = x.toInt.toNat := by omega
    rw [pk_un z, pk_un z]
    exact h w p (by omega)
theorem Ch_ext {f g : Int → Int} {N : Int} (e : ∀ x, 0 ≤ x → x < N → g x = f x) (hf : f (-9) = -9) (hr : ∀ x, 0 ≤ x → x < N → f x = -9 ∨ (0 ≤ f x ∧ f x < N)) {x t : Int} (hx : 0 ≤ x ∧ x < N) (ht : ¬ t = -9) (h : Ch f x t) : Ch g x t := by
  obtain ⟨n, h⟩ := h
  induction n generalizing x with
  | zero => exact ⟨0, h⟩
  | succ n ih =>
    have q : itr f n (f x) = t := h
    rcases hr x hx.1 hx.2 with z | z
    · rw [z] at q
      exact absurd (Ch_nd hf ⟨n, q⟩) ht
    · exact Ch_up (by rw [e x hx.1 hx.2]; exact ih z q)
theorem TI_begin {pa ko fo le mi sa F A : Nat → Int32} {kn N n : Int} {p u : Int} (h6 : K6 pa) (hS : SJ pa ko fo le mi sa kn N n) (hN : N ≤ 30) (hfo : ∀ s, 0 ≤ (fo s).toInt) (hmi : ∀ s, 0 ≤ (mi s).toInt) (hB : BG fo le mi sa F A n N) (hp : 0 ≤ p ∧ p < N) (h5 : Kd pa ko p 5) (hu : 0 ≤ u ∧ u < N) (hk : Kd pa ko u 0) (hc : Ch (fP fo le mi sa n) p u) : TI N (fun z => Kd pa ko z 0) p F A := by
  have key : ∀ x, 0 ≤ x → x < N → ¬ pL fo le sa n x = -9 → (((pL fo le sa n x).toNat : Nat) : Int) < n ∧ mP fo le sa x (pL fo le sa n x).toNat := fun x a b q => fsF_q (P := mP fo le sa x) (n := n) q
  have en : ∀ x, 0 ≤ x → x < N → nF N F A x = fP fo le mi sa n x := fun x a b => by
    unfold nF fP
    rcases hB x a b with ⟨q, f, g⟩ | ⟨q, f, g⟩
    · rw [if_neg (fun z => z.2.2 f), if_neg (fun z => z.2.2 q)]
    · have w := hfo (pL fo le sa n x).toNat
      rw [if_pos ⟨a, b, by omega⟩, if_pos ⟨a, by omega, q⟩, g]
  have lt : ∀ x, 0 ≤ x → x < N → ¬ pL fo le sa n x = -9 → (mi (pL fo le sa n x).toNat).toInt < N := fun x a b q => by
    have w := key x a b q
    have z := hS.2.1 _ w.1
    exact z.2.1 (by have := w.2.2.1; omega)
  have h1 := Kd_10 h6 (Kd_a1 h6 (by omega) h5)
  refine ⟨⟨hp.1, hp.2, h1⟩, fun x a b q => ?_, fun x a b q => ?_, ?_, u, hu.1, hu.2, hk, ?_⟩
  · rcases hB x a b with ⟨k, f, g⟩ | ⟨k, f, g⟩
    · exact absurd f q
    · rw [g]; exact ⟨hmi _, lt x a b k⟩
  · rcases hB x a b with ⟨k, f, g⟩ | ⟨k, f, g⟩
    · exact f
    · have w := key x a b k
      have z := hS.2.1 _ w.1
      have y := z.2.2.1 w.2.2.1
      rw [w.2.2.2] at y
      exact absurd q y
  · refine Acy_le hS.2.2.2 (fun x a b => ?_)
    by_cases z : x < N
    · exact Or.inr (en x a z)
    · exact Or.inl (if_neg (fun y => z y.2.1))
  · refine Ch_ext en fP_9 (fun x a b => ?_) hp (by omega) hc
    unfold fP
    by_cases z : 0 ≤ x ∧ x ≤ 29 ∧ ¬ pL fo le sa n x = -9
    · rw [if_pos z]; exact Or.inr ⟨hmi _, lt x a b z.2.2⟩
    · rw [if_neg z]; exact Or.inl rfl
theorem SQ_1 {pa ko w v w1 v1 w0 v0 F A : Nat → Int32} {N p : Int} {T S : Nat} (hT : TI N (fun z => Kd pa ko z 0) p F A) (h1 : RW w1 v1 w0 v0 F A T N) (h2 : RW w v w1 v1 F A S N) (eT : T = 300) (eS : S = 0) (hN : N ≤ 30) : SQ pa ko w v N p 1 := by
  subst eT eS
  intro s hs
  refine TI_ext hT (fun j hj => ?_)
  by_cases e : s = 0
  · rw [e]; exact h2.2 j hj
  · have e2 : s = 300 := by omega
    rw [e2]
    have a := h2.1 (30 * 300 + j) (by omega)
    have b := h1.2 j hj
    exact ⟨by rw [a.1, b.1], by rw [a.2, b.2]⟩

