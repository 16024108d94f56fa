theorem FtS_0 {Z : Int → Int} {F A B : Nat → Int32} {n : Int} (hn : n = 0) : FtS Z F A B n := fun s hs => by omega
theorem FtS_z {Z Z2 : Int → Int} {F A B : Nat → Int32} {n : Int} (h : FtS Z F A B n) (e : ∀ s : Nat, (s : Int) < n → (F s).toInt < 5 → Z2 (A s).toInt = Z (A s).toInt ∧ Z2 (B s).toInt = Z (B s).toInt) : FtS Z2 F A B n := fun s h1 h2 => by
  have w := h s h1 h2
  have q := e s h1 h2
  rw [q.1, q.2]
  exact w
theorem Ft_h {f z b y : Int} (h : Fit f z b y) (hf : f < 5) (h0 : 0 ≤ f) : ¬ z = 2 ∧ (f = 1 → y = 4) ∧ (z = 5 → f ≤ 1) := by
  unfold Fit at h
  obtain ⟨h1, h2⟩ := h
  have hl : (f ≤ 1 ∧ (z = 1 ∨ 3 ≤ z)) ∨ ((2 ≤ f ∧ f ≤ 4) ∧ (z = 1 ∨ 3 ≤ z) ∧ ¬ z = 5) := by
    clear h2
    unfold FtL at h1
    rcases h1 with h1 | h1 | h1 | h1
    · exact Or.inl h1
    · exfalso; omega
    · exfalso; have := h1.1; omega
    · exact Or.inr ⟨by have := h1.1; omega, h1.2⟩
  have hr : f = 1 → y = 4 := fun q => by
    clear h1 hl
    unfold FtR at h2
    rcases h2 with h2 | h2 | h2 | h2 | h2 | h2 | h2 | h2 <;> omega
  clear h1 h2
  exact ⟨by omega, hr, by omega⟩
theorem FtS_say {Z : Int → Int} {F A B C S F' A' B' C' S' pb eb fb kb ce : Nat → Int32} {n n' f a b c l : Int32} {N z y l2 : Int} (h : FtS Z F A B n.toInt) (hn : 0 ≤ n.toInt) (h1 : SyW (AcX F A B C S pb eb fb kb ce n.toInt N z y f.toInt a.toInt b.toInt c.toInt l2) F A B C S F' A' B' C' S' n n' f a b l) (hz : WF f.toInt a.toInt b.toInt c.toInt N → z = Z a.toInt) (hy : WF f.toInt a.toInt b.toInt c.toInt N → ¬ f.toInt = 6 → y = Z b.toInt) : FtS Z F' A' B' n'.toInt := by
  rcases h1 with ⟨_, e1, e2, e3, _, _, e6⟩ | ⟨q, e1, e2, e3, _, _, e6⟩
  · rw [e1, e2, e3, e6]; exact h
  · intro s hs
    have e := cl_nn (x := n) hn
    rw [e1, e2, e3]
    by_cases w : s = n.toNatClampNeg
    · rw [w, pk_us, pk_us, pk_us]
      intro f5
      have q1 := q.1
      rw [← hz q1, ← hy q1 (by omega)]
      unfold WF at q1
      exact Ft_h q.2.1 f5 (by omega)
    · rw [pk_un w, pk_un w, pk_un w]
      exact h s (by omega)
/-! the beginning -/
theorem Sc_g {N n : Int} {Z : Int → Int} {Qf : Int → Int → Prop} {ce0 ce2 F A B C S pb eb fb kb cb nf na O L : Nat → Int32} {Q0 Q1 : Int → Prop} (hI : IX F A B C S n pb eb fb kb cb) (hr : RR F A B C pb eb fb kb) (hN : N ≤ 30) (hFt : FtS Z F A B n) (hSI : ∀ s : Nat, (s : Int) < n → (F s).toInt < 5 → (B s).toInt < N ∧ ¬ Z (A s).toInt = 0) (hC : StC ce0 ce2 cb Qf N) (hG : BG F A B S nf na n N) (hO : BO O Q0 N) (hL : BO L Q1 N) (h0 : ∀ x : Int, 0 ≤ x → x < N → (Qf x 0 ↔ Q0 x) ∧ (Qf x 1 ↔ Q1 x)) : ScR N Z Qf ce2 nf na O L := by
  intro o ho
  have o0 : (0 : Int) ≤ (o : Int) := by omega
  have u : ((o : Nat) : Int).toNat = o := by omega
  refine ⟨?_, ?_, ?_, fun k k2 k5 => ?_⟩
  · have c := ((hC o).1 ho).1
    have g := hG (o : Int) o0 ho
    rw [IX_pL hI hr o0 (by omega), u] at g
    rcases g with ⟨g1, g2, g3⟩ | ⟨g1, g2, g3⟩
    · have p := hI.2.2.2.2.1 o (by omega)
      have e : (pb o).toNatClampNeg = (pb o).toInt.toNat := rfl
      rw [e] at p
      exact Or.inl ⟨g2, g3, by omega⟩
    · have x : 0 ≤ (pb o).toInt := by have r := (hr.2.1 o).1; omega
      have px := (hI.1 o (pb o).toInt.toNat (by omega)).mpr (by omega)
      have ft := hFt _ px.1 px.2.2.1
      have si := hSI _ px.1 px.2.2.1
      have R := hr.1 (pb o).toInt.toNat
      have p5 := px.2.2.1
      rw [px.2.2.2] at ft si
      have p := hI.2.2.2.2.1 o (by omega)
      have e : (pb o).toNatClampNeg = (pb o).toInt.toNat := rfl
      rw [e] at p
      refine Or.inr ⟨?_, ?_⟩
      · unfold PlOk
        rw [g2, g3]
        clear p c
        exact ⟨R.1, by omega, R.2.2.2.2.1, si.1, ft.1, si.2, ft.2.1, ft.2.2⟩
      · rw [g2, g3]
        clear ft si px
        omega
  · have hO' := hO (o : Int) o0 ho
    rw [u] at hO'
    exact (((hC o).1 ho).2 0 (by decide +kernel) (by decide +kernel)).trans ((⟨fun w => w.2, fun w => ⟨by decide, w⟩⟩ : ((0 : Int) < 6 ∧ Qf (o : Int) 0) ↔ Qf (o : Int) 0).trans ((h0 (o : Int) o0 ho).1.trans hO'.symm))
  · have hL' := hL (o : Int) o0 ho
    rw [u] at hL'
    exact (((hC o).1 ho).2 1 (by decide +kernel) (by decide +kernel)).trans ((⟨fun w => w.2, fun w => ⟨by decide, w⟩⟩ : ((1 : Int) < 6 ∧ Qf (o : Int) 1) ↔ Qf (o : Int) 1).trans ((h0 (o : Int) o0 ho).2.trans hL'.symm))
  · exact (((hC o).1 ho).2 k (by omega) k5).trans ⟨fun w => w.2, fun w => ⟨by omega, w⟩⟩
theorem TL_g {N : Int} {Z : Int → Int} {Qf : Int → Int → Prop} {LK : Prop} {th pl tu w : Int32} {ce0 ce2 cb sb fc : Nat → Int32} {p tu2 w2 : Int32} {nf na O L W1 W2 W3 W4 : Nat → Int32} (h : Abs ce0 N) (hC : StC ce0 ce2 cb Qf N) (hS : ScR N Z Qf ce2 nf na O L) (hw : 0 ≤ w.toInt ∧ w.toInt < N) (h5 : Z w.toInt = 5) (e1 : th.toInt = 1) (e2 : pl = w) (e3 : tu.toInt = 0) (e4 : p = w2) (e5 : tu2.toInt = 0) (ew : w2.toInt = w.toInt) (hk : LK) : TL N Z Qf LK th pl tu ce2 sb fc p tu2 nf na O L W1 W2 W3 W4 := by
  have e : p = w := by rw [e4]; exact Int32.toInt_inj.mp ew
  refine ⟨fun o ho => ?_, by omega, Or.inr ⟨e1, by rw [e2, e], by rw [e]; exact hw, by rw [e]; exact h5, hS, Un_0 (by omega), hk⟩⟩
  rw [(hC o).2 (by omega)]
  exact h o ho
/-! where the flags are told otherwise, and alike -/
theorem Sc_q {N : Int} {Z : Int → Int} {Qf Qf2 : Int → Int → Prop} {ce F A O L : Nat → Int32} (h : ScR N Z Qf ce F A O L) (e : ∀ x k : Int, 0 ≤ x → x < N → 2 ≤ k → k ≤ 5 → (Qf x k ↔ Qf2 x k)) : ScR N Z Qf2 ce F A O L := fun o ho => by
  have w := h o ho
  exact ⟨w.1, w.2.1, w.2.2.1, fun k k2 k5 => (w.2.2.2 k k2 k5).trans (e (o : Int) k (by omega) ho k2 k5)⟩
theorem TL_q {N : Int} {Z : Int → Int} {Qf Qf2 : Int → Int → Prop} {LK LK2 : Prop} {th pl tu : Int32} {ce sb fc : Nat → Int32} {p tu2 : Int32} {F A O L W1 W2 W3 W4 : Nat → Int32} (h : TL N Z Qf LK th pl tu ce sb fc p tu2 F A O L W1 W2 W3 W4) (e : ∀ x k : Int, 0 ≤ x → x < N → 2 ≤ k → k ≤ 5 → (Qf x k ↔ Qf2 x k)) (hk : LK → LK2) : TL N Z Qf2 LK2 th pl tu ce sb fc p tu2 F A O L W1 W2 W3 W4 := by
  obtain ⟨a, b, c⟩ := h
  refine ⟨a, b, ?_⟩
  rcases c with c | ⟨c1, c2, c3, c4, c5, ⟨cs, c6, c7⟩, c8⟩
  · exact Or.inl c
  · refine Or.inr ⟨c1, c2, c3, c4, Sc_q c5 e, ⟨cs, c6, fun j hj => ?_⟩, hk c8⟩
    have w := c7 j hj
    exact ⟨w.1, w.2.1, Sc_q w.2.2 e⟩
theorem zX_kf {so so2 ko : Nat → Int32} {k kn : Int32} {N : Int} (h : KS so so2 k kn) (hk : KI ko N kn.toInt) (h0 : ∀ j, 0 ≤ (ko j).toInt) : zX so2 ko N = zX so ko N := by
  funext x
  by_cases q : 0 ≤ x ∧ x < N
  · exact zX_k h hk h0 x q.1 q.2
  · unfold zX; rw [if_neg q, if_neg q]
theorem stL_k {pa pa2 st : Nat → Int32} {f : Int} {k1 kn : Int32} (h : KU pa pa2 k1 kn) (hd : PD pa) (h0 : 0 ≤ kn.toInt) : ∀ (m : Nat) (k : Int), k < kn.toInt → stL pa2 st f m k = stL pa st f m k := by
  intro m
  induction m with
  | zero => intro k _; rfl
  | succ m ih =>
    intro k hk
    show (if _ then _ else _) = (if _ then _ else _)
    by_cases q : 0 ≤ k ∧ k ≤ 23
    · rw [if_pos q, if_pos q]
      have e : pa2 k.toNat = pa k.toNat := by
        rcases h with h | h
        · rw [h.2]
        · have w := cl_nn (x := kn) h0
          rw [h.2.2.2, pk_un (by omega)]
      have e2 : kF pa2 k = kF pa k := by unfold kF; rw [if_pos q, if_pos q, e]
      have e3 : kF pa k < kn.toInt := by
        unfold kF; rw [if_pos q]
        have w := hd k.toNat
        omega
      rw [e2, ih _ e3]
    · rw [if_neg q, if_neg q]
/-- kind() leaves what is said of objects -/
theorem Qf_k {so so2 ko pa pa2 st fb C : Nat → Int32} {k1 kn : Int32} {N : Int} (h1 : KU pa pa2 k1 kn) (h2 : KS so so2 k1 kn) (hd : PD pa) (hk : KI ko N kn.toInt) (h0 : ∀ j, 0 ≤ (ko j).toInt) (hn : 0 ≤ kn.toInt) : ∀ x k : Int, 0 ≤ x → x < N → 2 ≤ k → k ≤ 5 → ((Can ((zX so ko N) x) k ∧ sgX fb C x k (sfV pa ko st (so (ko x.toNat).toNatClampNeg).toInt k x) = 1) ↔ (Can ((zX so2 ko N) x) k ∧ sgX fb C x k (sfV pa2 ko st (so2 (ko x.toNat).toNatClampNeg).toInt k x) = 1)) := by
  intro x k x0 x1 _ _
  have e : (so2 (ko x.toNat).toNatClampNeg).toInt = (so (ko x.toNat).toNatClampNeg).toInt := by
    have w := zX_k h2 hk h0 x x0 x1
    rw [zX_e ⟨x0, x1⟩, zX_e ⟨x0, x1⟩] at w
    exact w
  have e2 : sfV pa2 ko st (so2 (ko x.toNat).toNatClampNeg).toInt k x = sfV pa ko st (so (ko x.toNat).toNatClampNeg).toInt k x := by
    unfold sfV
    rw [stL_k h1 hd hn 24 _ (hk x.toNat (by omega)), e]
  rw [zX_kf h2 hk h0, e2]
/-! the ends of tales -/
theorem TL_n {Q Q2 : Prop} {N N2 : Int} {Z Z2 : Int → Int} {Qf Qf2 : Int → Int → Prop} {LK LK2 : Prop} {th pl tu th2 tu3 : Int32} {ce sb fc : Nat → Int32} {p tu2 p2 tu4 : Int32} {F A O L W1 W2 W3 W4 : Nat → Int32} (h : TL N Z Qf LK th pl tu ce sb fc p tu2 F A O L W1 W2 W3 W4) (e1 : EnW Q th tu th2 tu3) (e2 : EnM Q2 p tu2 p2 tu4) (eQ : Q ↔ Q2) (hN : N ≤ N2) (hs : ¬ Q → TL N Z Qf LK th pl tu ce sb fc p tu2 F A O L W1 W2 W3 W4 → TL N2 Z2 Qf2 LK2 th pl tu ce sb fc p tu2 F A O L W1 W2 W3 W4) : TL N2 Z2 Qf2 LK2 th2 pl tu3 ce sb fc p2 tu4 F A O L W1 W2 W3 W4 := by
  rcases e1 with ⟨a, b, c⟩ | ⟨a, b, c⟩
  · rcases e2 with ⟨a2, b2, c2⟩ | ⟨a2, _⟩
    · rw [b, c, b2, c2]; exact hs a h
    · exact absurd (eQ.mpr a2) a
  · rcases e2 with ⟨a2, _⟩ | ⟨a2, b2, c2⟩
    · exact absurd (eQ.mp a) a2
    · exact TL_e h hN (by omega) c b2 c2
theorem TL_0 {N : Int} {Z : Int → Int} {Qf : Int → Int → Prop} {LK : Prop} {th pl tu : Int32} {ce sb fc : Nat → Int32} {p tu2 : Int32} {F A O L W1 W2 W3 W4 : Nat → Int32} (h : ∀ o, (ce o).toInt % 256 = 255) (h1 : ¬ th.toInt = 1) (h2 : tu.toInt = 0) (h3 : p.toInt = -9) (h4 : tu2.toInt = 0) : TL N Z Qf LK th pl tu ce sb fc p tu2 F A O L W1 W2 W3 W4 := ⟨fun o _ => h o, by omega, Or.inl ⟨h1, h3, h2⟩⟩
/-- seek() gives back what it took -/
theorem TL_s {N : Int} {Z : Int → Int} {Qf : Int → Int → Prop} {LK : Prop} {th pl tu : Int32} {ce sb fc : Nat → Int32} {p tu2 : Int32} {F A O L F2 A2 O2 L2 W1 W2 W3 W4 : Nat → Int32} (h : TL N Z Qf LK th pl tu ce sb fc p tu2 F A O L W1 W2 W3 W4) (e : ∀ o : Nat, (o : Int) < N → F2 o = F o ∧ A2 o = A o ∧ O2 o = O o ∧ L2 o = L o) : TL N Z Qf LK th pl tu ce sb fc p tu2 F2 A2 O2 L2 W1 W2 W3 W4 := by
  obtain ⟨a, b, c⟩ := h
  refine ⟨a, b, ?_⟩
  rcases c with c | ⟨c1, c2, c3, c4, c5, c6, c8⟩
  · exact Or.inl c
  · exact Or.inr ⟨c1, c2, c3, c4, Sc_x c5 e, c6, c8⟩
/-! what the law's cases ask -/
theorem SAB_of {jm : Nat → Int32} {em : Nat → Nat → Int32} {F A B C S pb eb fb kb ce : Nat → Int32} {n : Int32} {kn N N2 : Int} (h : SN F A B C S n pb eb fb kb ce (em 9) (em 10) (em 11) (em 12) (em 13) (jm 8)) (hs : SJ (em 3) (em 6) (em 9) (em 10) (em 11) (em 13) kn N2 (jm 8).toInt) (eN : N = N2) : ∀ s : Nat, (s : Int) < n.toInt → (F s).toInt < 5 → (A s).toInt < N ∧ (B s).toInt < N := fun s h1 h5 => by
  obtain ⟨e1, e2, e3, _, _, e6, _⟩ := h
  have w := hs.2.1 s (by omega)
  rw [← e1, ← e2, ← e3] at w
  exact ⟨by have := w.1; omega, by have := w.2.1 (by omega); omega⟩
theorem FtS_k {Z Z2 : Int → Int} {F A B C pb eb fb kb : Nat → Int32} {n N : Int} (h : FtS Z F A B n) (hr : RR F A B C pb eb fb kb) (hs : ∀ s : Nat, (s : Int) < n → (F s).toInt < 5 → (A s).toInt < N ∧ (B s).toInt < N) (e : ∀ b, 0 ≤ b → b < N → Z2 b = Z b) : FtS Z2 F A B n := FtS_z h (fun s h1 h2 => by
  have w := hs s h1 h2
  have u := hr.1 s
  exact ⟨e _ (by omega) w.1, e _ (by omega) w.2⟩)
theorem SI_of {jm : Nat → Int32} {em : Nat → Nat → Int32} {Z : Int → Int} {F A B C S pb eb fb kb ce : Nat → Int32} {n : Int32} {kn N N2 : Int} (hM : mInv jm em) (h : SN F A B C S n pb eb fb kb ce (em 9) (em 10) (em 11) (em 12) (em 13) (jm 8)) (hr : RR F A B C pb eb fb kb) (hs : SJ (em 3) (em 6) (em 9) (em 10) (em 11) (em 13) kn N2 (jm 8).toInt) (eN : N = N2) (hz : ∀ t, 0 ≤ t → t < N → Z t = kS (em 3) (em 6) t) : ∀ s : Nat, (s : Int) < n.toInt → (F s).toInt < 5 → (B s).toInt < N ∧ ¬ Z (A s).toInt = 0 := fun s h1 h5 => by
  obtain ⟨e1, e2, e3, _, _, e6, _⟩ := h
  have w := hs.2.1 s (by omega)
  rw [← e1, ← e2, ← e3] at w
  have u := hr.1 s
  refine ⟨by have := w.2.1 (by omega); omega, ?_⟩
  rw [hz _ (by omega) (by have := w.1; omega)]
  exact fun q => w.2.2.1 h5 ((kS_k hM (by omega) (by omega)).mpr q)
theorem CeL_of {F A B C S pb eb fb kb ce : Nat → Int32} {n : Int} (h : IX F A B C S n pb eb fb kb ce) (hr : RR F A B C pb eb fb kb) : CeL ce := fun o ho => by
  have p := h.2.2.2.2.1 o ho
  have R := hr.1 (pb o).toNatClampNeg
  omega
theorem Ac_q {F A B C S pb eb fb kb ce F2 A2 B2 C2 S2 : Nat → Int32} {n n2 N N2 f a b c f2 a2 b2 c2 : Int32} {z y z2 y2 : Int} (h : SN F A B C S n pb eb fb kb ce F2 A2 B2 C2 S2 n2) (hr : RR F A B C pb eb fb kb) (hN : N.toInt ≤ 30) (eN : N.toInt = N2.toInt)
    (hz : WF f.toInt a.toInt b.toInt c.toInt N.toInt → z = z2) (hy : WF f.toInt a.toInt b.toInt c.toInt N.toInt → ¬ f.toInt = 6 → y = y2) (ef : f2.toInt = f.toInt) (ea : a2.toInt = a.toInt) (eb0 : b2.toInt = b.toInt) (ec : c2.toInt = c.toInt) : AcX F A B C S pb eb fb kb ce n.toInt N.toInt z y f.toInt a.toInt b.toInt c.toInt (lI f c).toInt ↔ AcM F2 A2 B2 C2 S2 n2.toInt N2.toInt z2 y2 f2.toInt a2.toInt b2.toInt c2.toInt (lI f2 c2).toInt := by
  obtain ⟨e1, e2, e3, e4, e5, e6, hI⟩ := h
  have f1 := Int32.toInt_inj.mp ef
  have a1 := Int32.toInt_inj.mp ea
  have b1 := Int32.toInt_inj.mp eb0
  have c1 := Int32.toInt_inj.mp ec
  have n1 := Int32.toInt_inj.mp e6
  subst e1 e2 e3 e4 e5 f1 a1 b1 c1 n1
  rw [← eN]
  have l1 : f2.toInt = 5 ∨ f2.toInt = 6 → (lI f2 c2).toInt = c2.toInt := fun q => by rw [lI_y q]
  have l0 : ¬ (f2.toInt = 5 ∨ f2.toInt = 6) → (lI f2 c2).toInt = 0 := fun q => by rw [lI_n q]; decide
  exact Ac_e hI hr hN l1 l0 hz hy
theorem NoD_of {N n : Int} {Z : Int → Int} {Qf : Int → Int → Prop} {LK : Prop} {th pl tu : Int32} {ce sb fc fo le sa : Nat → Int32} {p tu2 : Int32} {F A O L W1 W2 W3 W4 : Nat → Int32} (h : TL N Z Qf LK th pl tu ce sb fc p tu2 F A O L W1 W2 W3 W4) : ¬ p.toInt = -9 → NoD Z (gM fo le sa F n p.toInt) N := fun hp x x0 x1 hx => by
  have c := h.2.2.resolve_left (fun q => hp q.2.1)
  rw [gM_t hp] at hx
  have w := (c.2.2.2.2.1 x.toNat (by omega)).1
  rw [show ((x.toNat : Nat) : Int) = x by omega] at w
  rcases w with w | w
  · exact absurd w.1 hx
  · exact w.1.2.2.2.2.1
/-! acts, back, begin: all they leave -/
theorem TLb_e {N : Int} {Z : Int → Int} {Qf : Int → Int → Prop} {LK LK2 : Prop} {th pl tu tu3 : Int32} {ce sb fc ce2 : Nat → Int32} {p p2 tu2 tu4 : Int32} {F A O L W1 W2 W3 W4 F2 A2 O2 L2 : Nat → Int32} {SX SM : Prop} (h : TL N Z Qf LK th pl tu ce sb fc p tu2 F A O L W1 W2 W3 W4) (hN : N ≤ 30) (ht : 0 ≤ tu.toInt)
    (h1 : AsR (th.toInt = 1 ∧ ¬ tu.toInt = 0) ((ce2 = upd ce (sb (tu.toInt - 1).toNat).toNatClampNeg (fc (tu.toInt - 1).toNat) ∧ tu3.toInt = tu.toInt - 1) ∧ LK2) SX) (h2 : AsR (¬ p.toInt = -9 ∧ ¬ tu2.toInt = 0) (GB F2 A2 W1 W2 (tu2.toInt - 1).toNat 30 ∧ GB O2 L2 W3 W4 (tu2.toInt - 1).toNat 30 ∧ tu4.toInt = tu2.toInt - 1 ∧ p2 = p) SM) (hs : SX → SM → TL N Z Qf LK2 th pl tu3 ce2 sb fc p2 tu4 F2 A2 O2 L2 W1 W2 W3 W4) : TL N Z Qf LK2 th pl tu3 ce2 sb fc p2 tu4 F2 A2 O2 L2 W1 W2 W3 W4 := by
  have b := h.2.1
  have c := h.2.2
  have hp : th.toInt = 1 ↔ ¬ p.toInt = -9 := by
    rcases c with c | c
    · exact ⟨fun q => absurd q c.1, fun q => absurd c.2.1 q⟩
    · exact ⟨fun _ => by have := c.2.2.1; omega, fun _ => c.1⟩
  unfold AsR at h1 h2
  rcases h1 with ⟨a1, s1⟩ | ⟨a1, ⟨e1, e4⟩, hk⟩
  · rcases h2 with ⟨a2, s2⟩ | ⟨a2, _⟩
    · exact hs s1 s2
    · exact absurd ⟨hp.mpr a2.1, by have := a2.2; omega⟩ a1
  · rcases h2 with ⟨a2, s2⟩ | ⟨a2, g1, g2, e5, e6⟩
    · exact absurd ⟨hp.mp a1.1, by have := a1.2; omega⟩ a2
    · rw [e6]
      exact TL_b h a1.1 hN (by have := a1.2; omega) e1 e4 hk g1 g2 e5
theorem Un_q {F A B C S pb eb fb kb ce F2 A2 B2 C2 S2 : Nat → Int32} {n n2 s s2 : Int32} (h : SN F A B C S n pb eb fb kb ce F2 A2 B2 C2 S2 n2) (es : s2.toInt = s.toInt) : UnQ S n s ↔ UnQ S2 n2 s2 := by
  obtain ⟨_, _, _, _, e5, e6, _⟩ := h
  have s1 := Int32.toInt_inj.mp es
  have n1 := Int32.toInt_inj.mp e6
  subst e5 s1 n1
  exact Iff.rfl
theorem TLg_e {N : Int} {Z : Int → Int} {Qf : Int → Int → Prop} {LK LK2 : Prop} {th pl tu th2 pl2 tu3 w w2 r r2 : Int32} {ce ce2 cb sb fc : Nat → Int32} {p tu2 p2 tu4 : Int32} {F A O L F2 A2 O2 L2 W1 W2 W3 W4 : Nat → Int32} {SX SM P1 P2 P3 : Prop} (h : TL N Z Qf LK th pl tu ce sb fc p tu2 F A O L W1 W2 W3 W4) (er : r = r2)
    (h1 : AsR (0 ≤ r.toInt) (StC ce ce2 cb Qf N ∧ LK2 ∧ th2.toInt = 1 ∧ pl2 = w ∧ tu3.toInt = 0) SX) (h2 : AsR (0 ≤ r2.toInt) (P1 ∧ P2 ∧ P3 ∧ p2 = w2 ∧ tu4.toInt = 0) SM) (hw : 0 ≤ r.toInt → (0 ≤ w.toInt ∧ w.toInt < N) ∧ Z w.toInt = 5) (ew : w2.toInt = w.toInt) (hS : StC ce ce2 cb Qf N → P1 → P2 → P3 → ScR N Z Qf ce2 F2 A2 O2 L2) (hs : SX → SM → TL N Z Qf LK2 th2 pl2 tu3 ce2 sb fc p2 tu4 F2 A2 O2 L2 W1 W2 W3 W4) : TL N Z Qf LK2 th2 pl2 tu3 ce2 sb fc p2 tu4 F2 A2 O2 L2 W1 W2 W3 W4 := by
  subst er
  rcases h1 with ⟨a1, s1⟩ | ⟨a1, b1, b2, b3, b4, b5⟩
  · rcases h2 with ⟨_, s2⟩ | ⟨a2, _⟩
    · exact hs s1 s2
    · exact absurd a2 a1
  · rcases h2 with ⟨a2, _⟩ | ⟨_, c1, c2, c3, c4, c5⟩
    · exact absurd a1 a2
    · exact TL_g h.1 b1 (hS b1 c1 c2 c3) (hw a1).1 (hw a1).2 b3 b4 b5 c4 c5 ew b2
theorem Bg_w {N w s r : Int} {P : Int → Prop} (h : BgR N w s r P) (hr : 0 ≤ r) : (0 ≤ w ∧ w < N) ∧ s = 5 := by
  unfold BgR at h
  rcases h with h | h | h
  · exfalso; omega
  · exfalso; omega
  · exact ⟨h.1, h.2.1⟩
/-- where a player who may go gets to is the same -/
theorem Ld_e {N p x z : Int} {so ko pa ko2 F A B C S pb eb fb kb cb ld dr bw im f1 f2 ce nf na nO nL : Nat → Int32} {Qf : Int → Int → Prop} {n : Int} (hS : ScR N (zX so ko N) Qf ce nf na nO nL) (ha : Abs ce N) (hN : N ≤ 30) (hp : 0 ≤ p ∧ p < N) (hx : 0 ≤ x ∧ x ≤ 9) (h : RDS (zX so ko N) F A B C S n.toNat ld dr bw im f1 f2) (hI : IX F A B C S n pb eb fb kb cb) (hr : RR F A B C pb eb fb kb) (hD : DR (zX so ko N) F A B S n N) (hz : ∀ t, 0 ≤ t → t < N → zX so ko N t = kS pa ko2 t) (hB : ∀ s : Nat, (s : Int) < n → (F s).toInt = 5 → (B s).toInt < N ∧ (kS pa ko2 (B s).toInt = 0 ∨ kS pa ko2 (B s).toInt = 2)) (b : ByR (zX so ko N) (hF ce) (fX ce) p) (hf : ∃ dr2 bw2 im2 : Int, FeM pa ko2 F A B C S n (na p.toNat).toInt x z dr2 bw2 im2) : z = (ld ((nF N nf na) p * 10 + x).toNat).toInt := by
  rw [Sc_h hS ha hN, Sc_f hS ha hN] at b
  obtain ⟨d2, b2, i2, hf⟩ := hf
  have e0 : (nf p.toNat).toInt = 0 := by have w := b.1; unfold fMn at w; rw [if_pos hp] at w; exact w
  have e1 : nF N nf na p = (na p.toNat).toInt := by unfold nF; rw [if_pos ⟨hp.1, hp.2, by omega⟩]
  have e2 := b.2
  rw [e1] at e2 ⊢
  have e3 : 0 ≤ (na p.toNat).toInt ∧ (na p.toNat).toInt < N := by
    by_cases q : 0 ≤ (na p.toNat).toInt ∧ (na p.toNat).toInt < N
    · exact q
    · unfold zX at e2; rw [if_neg q] at e2; omega
  exact (FeM_u hf (RD_fe h hI hr hD hz hB hN e3 (by rw [← hz _ e3.1 e3.2]; exact e2) hx)).1

