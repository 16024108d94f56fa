/-! roads: what is drawn -/
def zX (so ko : Nat → Int32) (N x : Int) : Int := if 0 ≤ x ∧ x < N then (so (ko x.toNat).toNatClampNeg).toInt else -9
theorem SO_z {so ko : Nat → Int32} {N w r : Int} (h : SO so ko N w r) : r = zX so ko N w := by
  unfold zX
  rcases h with ⟨a, b, d⟩ | ⟨a, b⟩
  · rw [if_pos ⟨a, b⟩]; exact d
  · rw [if_neg a]; exact b
def Ek (F A C S : Nat → Int32) (k : Int) (s : Nat) : Prop := (S s).toInt = 1 ∧ (F s).toInt = 5 ∧ (A s).toInt * 10 + (C s).toInt = k
def Er (Z : Int → Int) (F A B C S : Nat → Int32) (k : Int) (s : Nat) : Prop := Ek F A C S k s ∧ Z (B s).toInt = 0
def Ed (Z : Int → Int) (F A B C S : Nat → Int32) (k : Int) (s : Nat) : Prop := Ek F A C S k s ∧ ¬ Z (B s).toInt = 0
def Dt (Z : Int → Int) (F B S : Nat → Int32) (t : Int) (s : Nat) : Prop := (S s).toInt = 1 ∧ (F s).toInt = 5 ∧ ¬ Z (B s).toInt = 0 ∧ (B s).toInt = t
def Iq (Z : Int → Int) (F B C S : Nat → Int32) (k : Int) (s : Nat) : Prop := (S s).toInt = 1 ∧ (F s).toInt = 5 ∧ Z (B s).toInt = 0 ∧ (B s).toInt * 10 + opp (C s).toInt = k
def vI (B : Nat → Int32) (r : Int) : Int := if r = -9 then -9 else (B r.toNat).toInt
theorem vI_n {B : Nat → Int32} : vI B (-9) = -9 := if_pos rfl
theorem vI_y {B : Nat → Int32} {s : Nat} : vI B (s : Int) = (B s).toInt := by unfold vI; rw [if_neg (by omega), show ((s : Int)).toNat = s by omega]
def DA (Z : Int → Int) (F A B C S : Nat → Int32) (x : Nat) (bw ld dr : Nat → Int32) (k : Nat) : Prop := lst (Ek F A C S k) x (bw k).toInt ∧ (∃ r, lst (Er Z F A B C S k) x r ∧ (ld k).toInt = vI B r) ∧ ∃ r, lst (Ed Z F A B C S k) x r ∧ (dr k).toInt = vI B r
def DB (Z : Int → Int) (F A B S : Nat → Int32) (x : Nat) (f1 f2 : Nat → Int32) (t : Nat) : Prop := ∃ r1 r2, fst (Dt Z F B S t) x r1 ∧ lst (Dt Z F B S t) x r2 ∧ (f1 t).toInt = vI A r1 ∧ (f2 t).toInt = if r1 = r2 then -9 else vI A r2
def D1 (Z : Int → Int) (F A B C S : Nat → Int32) (x : Nat) (bw ld dr f1 f2 : Nat → Int32) : Prop := (∀ k : Nat, k < 300 → DA Z F A B C S x bw ld dr k) ∧ ∀ t : Nat, t < 30 → DB Z F A B S x f1 f2 t
theorem lsN {P : Nat → Prop} {x : Nat} {r : Int} (h : lst P x r) (hp : ¬ P x) : lst P (x + 1) r := by
  rcases h with ⟨h, a⟩ | ⟨s, h, a, b, d⟩
  · refine Or.inl ⟨h, fun s hs => ?_⟩
    by_cases e : s = x
    · rw [e]; exact hp
    · exact a s (by omega)
  · refine Or.inr ⟨s, h, by omega, b, fun s2 h2 h3 => ?_⟩
    by_cases e : s2 = x
    · rw [e]; exact hp
    · exact d s2 h2 (by omega)
theorem lsY {P : Nat → Prop} {x : Nat} (hp : P x) : lst P (x + 1) (x : Int) := Or.inr ⟨x, rfl, by omega, hp, fun s2 h2 h3 => by omega⟩
theorem fsN {P : Nat → Prop} {x : Nat} {r : Int} (h : fst P x r) (hp : ¬ P x ∨ ¬ r = -9) : fst P (x + 1) r := by
  rcases h with ⟨h, a⟩ | ⟨s, h, a, b, d⟩
  · refine Or.inl ⟨h, fun s hs => ?_⟩
    by_cases e : s = x
    · rw [e]; exact hp.resolve_right (fun q => q h)
    · exact a s (by omega)
  · exact Or.inr ⟨s, h, by omega, b, d⟩
theorem fsY {P : Nat → Prop} {x : Nat} {r : Int} (h : fst P x r) (hr : r = -9) (hp : P x) : fst P (x + 1) (x : Int) := by
  rcases h with ⟨h, a⟩ | ⟨s, h, a, b, d⟩
  · exact Or.inr ⟨x, rfl, by omega, hp, a⟩
  · omega
theorem ls0 {P : Nat → Prop} : lst P 0 (-9) := Or.inl ⟨rfl, fun s hs => absurd hs (Nat.not_lt_zero s)⟩
theorem fs0 {P : Nat → Prop} : fst P 0 (-9) := Or.inl ⟨rfl, fun s hs => absurd hs (Nat.not_lt_zero s)⟩
def WpD (bw ld dr f1 f2 : Nat → Int32) : Prop := ∀ k, (bw k).toInt = -9 ∧ (ld k).toInt = -9 ∧ (dr k).toInt = -9 ∧ (f1 k).toInt = -9 ∧ (f2 k).toInt = -9
theorem D1_0 {Z : Int → Int} {F A B C S bw ld dr f1 f2 : Nat → Int32} {x : Int32} (hx : x.toInt = 0) (h : WpD bw ld dr f1 f2) : D1 Z F A B C S x.toInt.toNat bw ld dr f1 f2 := by
  rw [hx]
  refine ⟨fun k _ => ⟨by rw [(h k).1]; exact ls0, ⟨-9, ls0, by rw [(h k).2.1, vI_n]⟩, ⟨-9, ls0, by rw [(h k).2.2.1, vI_n]⟩⟩, fun t _ => ⟨-9, -9, fs0, ls0, by rw [(h t).2.2.2.1, vI_n], by rw [(h t).2.2.2.2, if_pos rfl]⟩⟩
theorem DA_n {Z : Int → Int} {F A B C S bw ld dr : Nat → Int32} {x k : Nat} (h : DA Z F A B C S x bw ld dr k) (hp : ¬ Ek F A C S k x) : DA Z F A B C S (x + 1) bw ld dr k := by
  obtain ⟨h1, ⟨r, h2, h3⟩, ⟨q, h4, h5⟩⟩ := h
  exact ⟨lsN h1 hp, ⟨r, lsN h2 (fun z => hp z.1), h3⟩, ⟨q, lsN h4 (fun z => hp z.1), h5⟩⟩
theorem DB_n {Z : Int → Int} {F A B S f1 f2 : Nat → Int32} {x t : Nat} (h : DB Z F A B S x f1 f2 t) (hp : ¬ Dt Z F B S t x) : DB Z F A B S (x + 1) f1 f2 t := by
  obtain ⟨r1, r2, h1, h2, h3, h4⟩ := h
  exact ⟨r1, r2, fsN h1 (Or.inl hp), lsN h2 hp, h3, h4⟩
theorem D1_n {Z : Int → Int} {F A B C S bw ld dr f1 f2 : Nat → Int32} {x y : Int32} (h : D1 Z F A B C S x.toInt.toNat bw ld dr f1 f2) (hx : 0 ≤ x.toInt) (hp : ¬ ((S x.toNatClampNeg).toInt = 1 ∧ (F x.toNatClampNeg).toInt = 5)) (hy : y.toInt = x.toInt + 1) : D1 Z F A B C S y.toInt.toNat bw ld dr f1 f2 := by
  rw [show y.toInt.toNat = x.toInt.toNat + 1 by omega]
  exact ⟨fun k hk => DA_n (h.1 k hk) (fun q => hp ⟨q.1, q.2.1⟩), fun t ht => DB_n (h.2 t ht) (fun q => hp ⟨q.1, q.2.1⟩)⟩
/-- what drawTarget does -/
def TgR (Z : Int → Int) (ld dr f1 f2 ld' dr' f1' f2' : Nat → Int32) (k w t : Int32) : Prop :=
  (Z t.toInt = 0 ∧ ld' = upd ld k.toNatClampNeg t ∧ dr' = dr ∧ f1' = f1 ∧ f2' = f2) ∨ (¬ Z t.toInt = 0 ∧ ld' = ld ∧ dr' = upd dr k.toNatClampNeg t ∧ (((f1 t.toNatClampNeg).toInt = -9 ∧ f1' = upd f1 t.toNatClampNeg w ∧ f2' = f2) ∨ (¬ (f1 t.toNatClampNeg).toInt = -9 ∧ f1' = f1 ∧ f2' = upd f2 t.toNatClampNeg w)))
theorem D1_g {Z : Int → Int} {F A B C S bw ld dr f1 f2 ld' dr' f1' f2' : Nat → Int32} {x y k w t : Int32} (h : D1 Z F A B C S x.toInt.toNat bw ld dr f1 f2) (hx : 0 ≤ x.toInt) (hS : (S x.toNatClampNeg).toInt = 1) (hF : (F x.toNatClampNeg).toInt = 5) (hk : k.toInt = (A x.toNatClampNeg).toInt * 10 + (C x.toNatClampNeg).toInt) (hk0 : 0 ≤ k.toInt) (hw : w = A x.toNatClampNeg) (ht : t = B x.toNatClampNeg) (ht0 : 0 ≤ t.toInt) (hA : ∀ s, 0 ≤ (A s).toInt) (hT : TgR Z ld dr f1 f2 ld' dr' f1' f2' k w t) (hy : y.toInt = x.toInt + 1) : D1 Z F A B C S y.toInt.toNat (upd bw k.toNatClampNeg x) ld' dr' f1' f2' := by
  rw [show y.toInt.toNat = x.toInt.toNat + 1 by omega]
  have ex : x.toNatClampNeg = x.toInt.toNat := rfl
  have ek : k.toNatClampNeg = k.toInt.toNat := rfl
  have et : t.toNatClampNeg = t.toInt.toNat := rfl
  rw [ex] at hS hF hk hw ht
  have xc : ((x.toInt.toNat : Nat) : Int) = x.toInt := by omega
  have tB : (B x.toInt.toNat).toInt = t.toInt := by rw [ht]
  have wA : (A x.toInt.toNat).toInt = w.toInt := by rw [hw]
  refine ⟨fun j hj => ?_, fun j hj => ?_⟩
  · by_cases q : j = k.toNatClampNeg
    · have P : Ek F A C S j x.toInt.toNat := ⟨hS, hF, by omega⟩
      obtain ⟨h1, ⟨r, h2, h3⟩, ⟨z, h4, h5⟩⟩ := h.1 j hj
      have b1 : lst (Ek F A C S j) (x.toInt.toNat + 1) (upd bw k.toNatClampNeg x j).toInt := by
        rw [q, pk_us, ← q, ← xc]; exact lsY P
      rcases hT with ⟨a, e1, e2, e3, e4⟩ | ⟨a, e1, e2, e3⟩
      · refine ⟨b1, ⟨((x.toInt.toNat : Nat) : Int), lsY ⟨P, by rw [tB]; exact a⟩, by rw [e1, q, pk_us, vI_y, tB]⟩, ⟨z, lsN h4 (fun y => y.2 (by rw [tB]; exact a)), by rw [e2]; exact h5⟩⟩
      · refine ⟨b1, ⟨r, lsN h2 (fun y => a (by rw [← tB]; exact y.2)), by rw [e1]; exact h3⟩, ⟨((x.toInt.toNat : Nat) : Int), lsY ⟨P, by rw [tB]; exact a⟩, by rw [e2, q, pk_us, vI_y, tB]⟩⟩
    · have nP : ¬ Ek F A C S j x.toInt.toNat := fun y => q (by have := y.2.2; omega)
      have g := DA_n (h.1 j hj) nP
      obtain ⟨h1, h2, h3⟩ := g
      refine ⟨by rw [pk_un q]; exact h1, ?_, ?_⟩
      · rcases hT with ⟨a, e1, e2, e3, e4⟩ | ⟨a, e1, e2, e3⟩
        · rw [e1, pk_un q]; exact h2
        · rw [e1]; exact h2
      · rcases hT with ⟨a, e1, e2, e3, e4⟩ | ⟨a, e1, e2, e3⟩
        · rw [e2]; exact h3
        · rw [e2, pk_un q]; exact h3
  · rcases hT with ⟨a, e1, e2, e3, e4⟩ | ⟨a, e1, e2, e3⟩
    · rw [e3, e4]
      exact DB_n (h.2 j hj) (fun y => y.2.2.1 (by rw [tB]; exact a))
    · by_cases q : j = t.toNatClampNeg
      · have P : Dt Z F B S j x.toInt.toNat := ⟨hS, hF, by rw [tB]; exact a, by rw [tB]; omega⟩
        obtain ⟨r1, r2, h1, h2, h3, h4⟩ := h.2 j hj
        rcases e3 with ⟨c, e3, e4⟩ | ⟨c, e3, e4⟩
        · have r9 : r1 = -9 := by
            rw [← q, h3] at c
            rcases h1 with y | ⟨s, y, _⟩
            · exact y.1
            · rw [y, vI_y] at c; have := hA s; omega
          have r8 : r2 = -9 := by
            rcases h2 with y | ⟨s, y, y2, y3, _⟩
            · exact y.1
            · rcases h1 with v | ⟨s', v, _⟩
              · exact absurd y3 (v.2 s y2)
              · omega
          refine ⟨((x.toInt.toNat : Nat) : Int), ((x.toInt.toNat : Nat) : Int), fsY h1 r9 P, lsY P, by rw [e3, q, pk_us, vI_y, wA], ?_⟩
          rw [e4, if_pos rfl, h4, if_pos (by omega)]
        · have r9 : ¬ r1 = -9 := fun y => by
            rw [← q, h3, y, vI_n] at c; exact c rfl
          refine ⟨r1, ((x.toInt.toNat : Nat) : Int), fsN h1 (Or.inr r9), lsY P, by rw [e3]; exact h3, ?_⟩
          have ne : ¬ r1 = ((x.toInt.toNat : Nat) : Int) := by
            rcases h1 with y | ⟨s, y, y2, _⟩
            · exact absurd y.1 r9
            · omega
          rw [e4, q, pk_us, if_neg ne, vI_y, wA]
      · have nP : ¬ Dt Z F B S j x.toInt.toNat := fun y => q (by have := y.2.2.2; omega)
        obtain ⟨r1, r2, h1, h2, h3, h4⟩ := DB_n (h.2 j hj) nP
        refine ⟨r1, r2, h1, h2, ?_, ?_⟩
        · rcases e3 with ⟨c, e3, e4⟩ | ⟨c, e3, e4⟩
          · rw [e3, pk_un q]; exact h3
          · rw [e3]; exact h3
        · rcases e3 with ⟨c, e3, e4⟩ | ⟨c, e3, e4⟩
          · rw [e4]; exact h4
          · rw [e4, pk_un q]; exact h4
/-- what is implied -/
def DI (Z : Int → Int) (F A B C S : Nat → Int32) (x : Nat) (b1 l1 bw ld im : Nat → Int32) (k : Nat) : Prop := ∃ q, fst (Iq Z F B C S k) x q ∧ ((¬ (b1 k).toInt = -9 ∧ bw k = b1 k ∧ ld k = l1 k ∧ (im k).toInt = 0) ∨ ((b1 k).toInt = -9 ∧ q = -9 ∧ (bw k).toInt = -9 ∧ ld k = l1 k ∧ (im k).toInt = 0) ∨ ((b1 k).toInt = -9 ∧ ¬ q = -9 ∧ (bw k).toInt = q ∧ (ld k).toInt = vI A q ∧ (im k).toInt = 1))
def D2 (Z : Int → Int) (F A B C S : Nat → Int32) (x : Nat) (b1 l1 bw ld im : Nat → Int32) : Prop := ∀ k : Nat, k < 300 → DI Z F A B C S x b1 l1 bw ld im k
theorem D2_0 {Z : Int → Int} {F A B C S b1 l1 im : Nat → Int32} {x : Int32} (hx : x.toInt = 0) (h : ∀ k, (im k).toInt = 0) : D2 Z F A B C S x.toInt.toNat b1 l1 b1 l1 im := by
  rw [hx]
  intro k _
  refine ⟨-9, fs0, ?_⟩
  by_cases q : (b1 k).toInt = -9
  · exact Or.inr (Or.inl ⟨q, rfl, q, rfl, h k⟩)
  · exact Or.inl ⟨q, rfl, rfl, h k⟩
theorem DI_n {Z : Int → Int} {F A B C S b1 l1 bw ld im : Nat → Int32} {x k : Nat} (h : DI Z F A B C S x b1 l1 bw ld im k) (hp : ¬ Iq Z F B C S k x) : DI Z F A B C S (x + 1) b1 l1 bw ld im k := by
  obtain ⟨q, h1, h2⟩ := h
  exact ⟨q, fsN h1 (Or.inl hp), h2⟩
theorem D2_n {Z : Int → Int} {F A B C S b1 l1 bw ld im : Nat → Int32} {x y : Int32} (h : D2 Z F A B C S x.toInt.toNat b1 l1 bw ld im) (hx : 0 ≤ x.toInt) (hp : ¬ ((S x.toNatClampNeg).toInt = 1 ∧ (F x.toNatClampNeg).toInt = 5 ∧ Z (B x.toNatClampNeg).toInt = 0)) (hy : y.toInt = x.toInt + 1) : D2 Z F A B C S y.toInt.toNat b1 l1 bw ld im := by
  rw [show y.toInt.toNat = x.toInt.toNat + 1 by omega]
  exact fun k hk => DI_n (h k hk) (fun q => hp ⟨q.1, q.2.1, q.2.2.1⟩)
theorem D2_k {Z : Int → Int} {F A B C S b1 l1 bw ld im : Nat → Int32} {x y k : Int32} (h : D2 Z F A B C S x.toInt.toNat b1 l1 bw ld im) (hx : 0 ≤ x.toInt) (hS : (S x.toNatClampNeg).toInt = 1) (hF : (F x.toNatClampNeg).toInt = 5) (hZ : Z (B x.toNatClampNeg).toInt = 0) (hk : k.toInt = (B x.toNatClampNeg).toInt * 10 + opp (C x.toNatClampNeg).toInt) (hb : ¬ (bw k.toNatClampNeg).toInt = -9) (hy : y.toInt = x.toInt + 1) : D2 Z F A B C S y.toInt.toNat b1 l1 bw ld im := by
  rw [show y.toInt.toNat = x.toInt.toNat + 1 by omega]
  have ek : k.toNatClampNeg = k.toInt.toNat := rfl
  intro j hj
  have g := h j hj
  by_cases q : j = k.toNatClampNeg
  · obtain ⟨z, h1, h2⟩ := g
    rw [← q] at hb
    rcases h2 with a | a | a
    · have P : fst (Iq Z F B C S j) x.toInt.toNat z := h1
      by_cases z9 : z = -9
      · by_cases p : Iq Z F B C S j x.toInt.toNat
        · exact ⟨_, fsY h1 z9 p, Or.inl a⟩
        · exact ⟨z, fsN h1 (Or.inl p), Or.inl a⟩
      · exact ⟨z, fsN h1 (Or.inr z9), Or.inl a⟩
    · exact absurd a.2.2.1 hb
    · exact ⟨z, fsN h1 (Or.inr a.2.1), Or.inr (Or.inr a)⟩
  · refine DI_n g (fun p => q ?_)
    have e := p.2.2.2
    have ex : x.toNatClampNeg = x.toInt.toNat := rfl
    rw [ex] at hk
    omega
theorem D2_s {Z : Int → Int} {F A B C S b1 l1 bw ld im : Nat → Int32} {x y k w : Int32} (h : D2 Z F A B C S x.toInt.toNat b1 l1 bw ld im) (hx : 0 ≤ x.toInt) (hS : (S x.toNatClampNeg).toInt = 1) (hF : (F x.toNatClampNeg).toInt = 5) (hZ : Z (B x.toNatClampNeg).toInt = 0) (hk : k.toInt = (B x.toNatClampNeg).toInt * 10 + opp (C x.toNatClampNeg).toInt) (hk0 : 0 ≤ k.toInt) (hb : (bw k.toNatClampNeg).toInt = -9) (hw : w = A x.toNatClampNeg) (hy : y.toInt = x.toInt + 1) : D2 Z F A B C S y.toInt.toNat b1 l1 (upd bw k.toNatClampNeg x) (upd ld k.toNatClampNeg w) (upd im k.toNatClampNeg 1) := by
  rw [show y.toInt.toNat = x.toInt.toNat + 1 by omega]
  have ek : k.toNatClampNeg = k.toInt.toNat := rfl
  have ex : x.toNatClampNeg = x.toInt.toNat := rfl
  rw [ex] at hS hF hZ hk hw
  intro j hj
  have g := h j hj
  by_cases q : j = k.toNatClampNeg
  · have P : Iq Z F B C S j x.toInt.toNat := ⟨hS, hF, hZ, by omega⟩
    obtain ⟨z, h1, h2⟩ := g
    rw [← q] at hb
    have z9 : (b1 j).toInt = -9 ∧ z = -9 := by
      rcases h2 with a | a | a
      · rw [a.2.1] at hb; exact absurd hb a.1
      · exact ⟨a.1, a.2.1⟩
      · have := a.2.2.1; omega
    refine ⟨_, fsY h1 z9.2 P, Or.inr (Or.inr ⟨z9.1, by omega, ?_, ?_, ?_⟩)⟩
    · rw [q, pk_us]; omega
    · rw [q, pk_us, vI_y, hw]
    · rw [q, pk_us]; decide
  · have g2 := DI_n g (fun p => q (by have e := p.2.2.2; omega))
    obtain ⟨z, h1, h2⟩ := g2
    exact ⟨z, h1, by rw [pk_un q, pk_un q, pk_un q]; exact h2⟩
/-- through doors -/
def thr (l0 dr f1 f2 : Nat → Int32) (k : Nat) : Int := if (dr k).toInt = -9 then (l0 k).toInt else if (f1 (dr k).toNatClampNeg).toInt = (k : Int) / 10 then (f2 (dr k).toNatClampNeg).toInt else (f1 (dr k).toNatClampNeg).toInt
def D3 (x : Nat) (l0 dr f1 f2 ld : Nat → Int32) : Prop := ∀ k : Nat, k < 300 → (k < x → (ld k).toInt = thr l0 dr f1 f2 k) ∧ (¬ k < x → ld k = l0 k)
theorem D3_0 {l0 dr f1 f2 : Nat → Int32} {x : Int32} (hx : x.toInt = 0) : D3 x.toInt.toNat l0 dr f1 f2 l0 := by
  rw [hx]
  exact fun k _ => ⟨fun q => absurd q (Nat.not_lt_zero k), fun _ => rfl⟩
theorem D3_n {l0 dr f1 f2 ld : Nat → Int32} {x y : Int32} (h : D3 x.toInt.toNat l0 dr f1 f2 ld) (hx : 0 ≤ x.toInt ∧ x.toInt < 300) (hd : (dr x.toNatClampNeg).toInt = -9) (hy : y.toInt = x.toInt + 1) : D3 y.toInt.toNat l0 dr f1 f2 ld := by
  rw [show y.toInt.toNat = x.toInt.toNat + 1 by omega]
  have ex : x.toNatClampNeg = x.toInt.toNat := rfl
  rw [ex] at hd
  intro k hk
  refine ⟨fun q => ?_, fun q => (h k hk).2 (by omega)⟩
  by_cases z : k = x.toInt.toNat
  · subst z
    rw [(h _ hk).2 (by omega)]
    unfold thr
    rw [if_pos hd]
  · exact (h k hk).1 (by omega)
theorem D3_s {l0 dr f1 f2 ld : Nat → Int32} {x y v : Int32} (h : D3 x.toInt.toNat l0 dr f1 f2 ld) (hx : 0 ≤ x.toInt ∧ x.toInt < 300) (hv : v.toInt = thr l0 dr f1 f2 x.toNatClampNeg) (hy : y.toInt = x.toInt + 1) : D3 y.toInt.toNat l0 dr f1 f2 (upd ld x.toNatClampNeg v) := by
  rw [show y.toInt.toNat = x.toInt.toNat + 1 by omega]
  have ex : x.toNatClampNeg = x.toInt.toNat := rfl
  rw [ex] at hv ⊢
  intro k hk
  by_cases z : k = x.toInt.toNat
  · subst z
    rw [pk_us]
    exact ⟨fun _ => hv, fun q => by omega⟩
  · rw [pk_un z]
    exact ⟨fun q => (h k hk).1 (by omega), fun q => (h k hk).2 (by omega)⟩
theorem thr_f {l0 dr f1 f2 : Nat → Int32} {x d v : Int32} (ed : d = dr x.toNatClampNeg) (hd : ¬ d.toInt = -9) (h0 : 0 ≤ x.toInt) (h : ((f1 d.toNatClampNeg).toInt = x.toInt / 10 ∧ v.toInt = (f2 d.toNatClampNeg).toInt) ∨ (¬ (f1 d.toNatClampNeg).toInt = x.toInt / 10 ∧ v.toInt = (f1 d.toNatClampNeg).toInt)) : v.toInt = thr l0 dr f1 f2 x.toNatClampNeg := by
  have ex : ((x.toNatClampNeg : Nat) : Int) = x.toInt := cl_nn h0
  unfold thr
  rw [← ed, if_neg hd, ex]
  rcases h with ⟨a, b⟩ | ⟨a, b⟩
  · rw [if_pos a, b]
  · rw [if_neg a, b]
/-- all of it -/
def RDS (Z : Int → Int) (F A B C S : Nat → Int32) (n : Nat) (ld dr bw im f1 f2 : Nat → Int32) : Prop := ∃ b1 l1 l2 : Nat → Int32, D1 Z F A B C S n b1 l1 dr f1 f2 ∧ D2 Z F A B C S n b1 l1 bw l2 im ∧ D3 300 l2 dr f1 f2 ld
theorem xor1o {x r : Int32} (h : 0 ≤ x.toInt ∧ x.toInt ≤ 9) (e : r = x ^^^ 1) : r.toInt = opp x.toInt := by
  have q : x = 0 ∨ x = 1 ∨ x = 2 ∨ x = 3 ∨ x = 4 ∨ x = 5 ∨ x = 6 ∨ x = 7 ∨ x = 8 ∨ x = 9 := by
    have w : ∀ y : Int32, y.toInt = x.toInt → x = y := fun y z => (Int32.toInt_inj.mp z).symm
    rcases (show x.toInt = 0 ∨ x.toInt = 1 ∨ x.toInt = 2 ∨ x.toInt = 3 ∨ x.toInt = 4 ∨ x.toInt = 5 ∨ x.toInt = 6 ∨ x.toInt = 7 ∨ x.toInt = 8 ∨ x.toInt = 9 by omega) with q | q | q | q | q | q | q | q | q | q
    · exact Or.inl (w 0 (by rw [q]; decide))
    · exact Or.inr (Or.inl (w 1 (by rw [q]; decide)))
    · exact Or.inr (Or.inr (Or.inl (w 2 (by rw [q]; decide))))
    · exact Or.inr (Or.inr (Or.inr (Or.inl (w 3 (by rw [q]; decide)))))
    · exact Or.inr (Or.inr (Or.inr (Or.inr (Or.inl (w 4 (by rw [q]; decide))))))
    · exact Or.inr (Or.inr (Or.inr (Or.inr (Or.inr (Or.inl (w 5 (by rw [q]; decide)))))))
    · exact Or.inr (Or.inr (Or.inr (Or.inr (Or.inr (Or.inr (Or.inl (w 6 (by rw [q]; decide))))))))
    · exact Or.inr (Or.inr (Or.inr (Or.inr (Or.inr (Or.inr (Or.inr (Or.inl (w 7 (by rw [q]; decide)))))))))
    · exact Or.inr (Or.inr (Or.inr (Or.inr (Or.inr (Or.inr (Or.inr (Or.inr (Or.inl (w 8 (by rw [q]; decide))))))))))
    · exact Or.inr (Or.inr (Or.inr (Or.inr (Or.inr (Or.inr (Or.inr (Or.inr (Or.inr (w 9 (by rw [q]; decide))))))))))
  rw [e]
  rcases q with q | q | q | q | q | q | q | q | q | q <;> rw [q] <;> decide
theorem idiv10 {x r : Int32} (h : 0 ≤ x.toInt ∧ x.toInt ≤ 299) (e : r = x / 10) : r.toInt = x.toInt / 10 := by
  rw [e, Int32.toInt_div]
  rw [show (10 : Int32).toInt = 10 by decide, Int.tdiv_eq_ediv_of_nonneg h.1]
  exact Int.bmod_eq_of_le (by omega) (by omega)
/-- an exit, as the reference finds it -/
def FeM (pa ko F A B C S : Nat → Int32) (n r d ld dr bw im : Int) : Prop :=
  (¬ lsF (bP F A C S r d) n.toNat = -9 ∧ bw = lsF (bP F A C S r d) n.toNat ∧ im = 0 ∧ ((kS pa ko (B (lsF (bP F A C S r d) n.toNat).toNat).toInt = 2 ∧ dr = (B (lsF (bP F A C S r d) n.toNat).toNat).toInt ∧ ld = oS F A B S n (B (lsF (bP F A C S r d) n.toNat).toNat).toInt r) ∨ (¬ kS pa ko (B (lsF (bP F A C S r d) n.toNat).toNat).toInt = 2 ∧ dr = -9 ∧ ld = (B (lsF (bP F A C S r d) n.toNat).toNat).toInt)))
  ∨ (lsF (bP F A C S r d) n.toNat = -9 ∧ dr = -9 ∧ ((¬ fsF (qP F B C S r (opp d)) n.toNat = -9 ∧ bw = fsF (qP F B C S r (opp d)) n.toNat ∧ im = 1 ∧ ld = (A (fsF (qP F B C S r (opp d)) n.toNat).toNat).toInt) ∨ (fsF (qP F B C S r (opp d)) n.toNat = -9 ∧ bw = -9 ∧ im = 0 ∧ ld = -9)))
/-- what a sentence said does to the roads -/
def RdQ (Q : Prop) (Z : Int → Int) (F' A' B' C' S' ld dr bw im f1 f2 ld' dr' bw' im' f1' f2' : Nat → Int32) (n' f : Int) : Prop := (¬ (Q ∧ f = 5) ∧ ld' = ld ∧ dr' = dr ∧ bw' = bw ∧ im' = im ∧ f1' = f1 ∧ f2' = f2) ∨ (Q ∧ f = 5 ∧ RDS Z F' A' B' C' S' n'.toNat ld' dr' bw' im' f1' f2')
/-- exit() -/
def ExR (N r d w s v : Int) (P : Int → Int → Int → Int → Prop) : Prop := (¬ (0 ≤ r ∧ r < N ∧ 0 ≤ d ∧ d ≤ 9 ∧ 0 ≤ w ∧ w ≤ 3) ∧ v = -1) ∨ ((0 ≤ r ∧ r < N ∧ 0 ≤ d ∧ d ≤ 9 ∧ 0 ≤ w ∧ w ≤ 3) ∧ ¬ s = 0 ∧ v = -3) ∨ ((0 ≤ r ∧ r < N ∧ 0 ≤ d ∧ d ≤ 9 ∧ 0 ≤ w ∧ w ≤ 3) ∧ s = 0 ∧ ∃ ld dr bw im, P ld dr bw im ∧ ((bw = -9 ∧ v = -9) ∨ (¬ bw = -9 ∧ ((w = 0 ∧ v = ld) ∨ (w = 1 ∧ v = dr) ∨ (w = 2 ∧ v = bw) ∨ (w = 3 ∧ v = im)))))
def Zr (a : Nat → Int32) : Prop := ∀ k, (a k).toInt = 0
def RdW (Z : Int → Int) (F A B C S ld dr bw im f1 f2 ld' dr' bw' im' f1' f2' : Nat → Int32) (n f : Int) : Prop := (¬ f = 5 ∧ ld' = ld ∧ dr' = dr ∧ bw' = bw ∧ im' = im ∧ f1' = f1 ∧ f2' = f2) ∨ (f = 5 ∧ RDS Z F A B C S n.toNat ld' dr' bw' im' f1' f2')
