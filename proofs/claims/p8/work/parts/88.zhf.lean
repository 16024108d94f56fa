theorem goV_c {bw : Prop} {ld dr ld2 dr2 : Int} {op op2 : Int → Prop} (h : bw → ld = ld2 ∧ dr = dr2) (ho : bw → ¬ dr = -9 → (op dr ↔ op2 dr)) : goV bw ld dr op = goV bw ld2 dr2 op2 := by
  unfold goV
  refine iV_e Iff.rfl (fun q => ?_)
  have b := Classical.not_not.mp q
  rw [← (h b).1, ← (h b).2]
  refine iV_d (fun _ => ?_)
  refine iV_e ?_ (fun _ => rfl)
  constructor
  · rintro ⟨x, y⟩; exact ⟨x, fun z => y ((ho b x).mpr z)⟩
  · rintro ⟨x, y⟩; exact ⟨x, fun z => y ((ho b x).mp z)⟩
/-! what an act does is alike -/
theorem Gd {N v p x y ld : Int} {Z f fm : Int → Int} (h : ∀ o : Int, 0 ≤ o → o < N → fm o = -9 ∨ PlOk N Z o (fm o) (f o)) (hp : 0 ≤ p ∧ p < N) (hp5 : Z p = 5) (hpp : ¬ fm p = -9) (ha : IsA v x y N) (hv : v ≤ 4 ∨ (9 ≤ v ∧ v ≤ 11)) (g0 : v = 0 → 0 ≤ ld ∧ ld < N) (g1 : v = 1 → (Z x = 1 ∨ 3 ≤ Z x) ∧ ¬ Z x = 5) (g2 : v = 2 ∨ v = 3 ∨ v = 4 ∨ v = 9 → fm x = 2) (g4 : v = 4 → Z y = 4) (g10 : v = 10 → Z x = 3 ∨ Z x = 4) (g11 : v = 11 → fm (f p) = 0 ∨ fm (f p) = 1) : PlOk N Z (if v = 0 ∨ 10 ≤ v then p else x) (plF v Z fm f p x) (plH v f p ld x y) := by
  have G0 : Im (v = 0) (0 ≤ ld ∧ ld < N) := g0
  have G1 : Im (v = 1) ((Z x = 1 ∨ 3 ≤ Z x) ∧ ¬ Z x = 5) := g1
  have G2 : Im (v = 2 ∨ v = 3 ∨ v = 4 ∨ v = 9) (fm x = 2) := g2
  have G4 : Im (v = 4) (Z y = 4) := g4
  have G10 : Im (v = 10) (Z x = 3 ∨ Z x = 4) := g10
  have G11 : Im (v = 11) (fm (f p) = 0 ∨ fm (f p) = 1) := g11
  obtain ⟨a1, a2, a3, a4, a5⟩ := ha
  have A4 : Im (1 ≤ v ∧ v ≤ 10) (0 ≤ x ∧ x < N) := a4
  have A5 : Im (v = 3 ∨ v = 4 ∨ v = 7 ∨ v = 8) (0 ≤ y ∧ y < N) := a5
  clear g0 g1 g2 g4 g10 g11 a3 a4 a5
  have hP := (h p hp.1 hp.2).resolve_left hpp
  have hP2 : 0 ≤ f p ∧ f p < N ∧ ¬ Z p = 2 ∧ ¬ Z p = 0 ∧ 0 ≤ fm p ∧ fm p ≤ 4 ∧ fm p ≤ 1 ∧ (fm p = 1 → Z (f p) = 4) := ⟨hP.2.2.1, hP.2.2.2.1, hP.2.2.2.2.1, hP.2.2.2.2.2.1, hP.1, hP.2.1, hP.2.2.2.2.2.2.2 hp5, hP.2.2.2.2.2.2.1⟩
  have hX : Im (v = 2 ∨ v = 3 ∨ v = 4 ∨ v = 9) (¬ Z x = 2 ∧ ¬ Z x = 0 ∧ ¬ Z x = 5) := fun q => by
    have e := G2 q
    have x0 := A4 (by omega)
    have w := (h x x0.1 x0.2).resolve_left (by omega)
    refine ⟨w.2.2.2.2.1, w.2.2.2.2.2.1, fun u => ?_⟩
    have := w.2.2.2.2.2.2.2 u
    omega
  rcases (show v = 0 ∨ v = 1 ∨ v = 2 ∨ v = 3 ∨ v = 4 ∨ v = 9 ∨ v = 10 ∨ v = 11 by omega) with q | q | q | q | q | q | q | q
  · subst q
    have w := G0 rfl
    have e1 : plF 0 Z fm f p x = 0 := rfl
    have e2 : plH 0 f p ld x y = ld := rfl
    have e3 : (if (0 : Int) = 0 ∨ 10 ≤ (0 : Int) then p else x) = p := rfl
    rw [e1, e2, e3]
    unfold PlOk
    exact ⟨by decide, by decide, w.1, w.2, hP2.2.2.1, hP2.2.2.2.1, fun u => absurd u (by decide +kernel), fun _ => by decide⟩
  · subst q
    have w := G1 rfl
    have e1 : plF 1 Z fm f p x = 2 := rfl
    have e2 : plH 1 f p ld x y = p := rfl
    have e3 : (if (1 : Int) = 0 ∨ 10 ≤ (1 : Int) then p else x) = x := rfl
    rw [e1, e2, e3]
    unfold PlOk
    exact ⟨by decide, by decide, hp.1, hp.2, by omega, by omega, fun u => absurd u (by decide +kernel), fun u => absurd u w.2⟩
  · subst q
    have w := hX (by omega)
    have e1 : plF 2 Z fm f p x = fm p := rfl
    have e2 : plH 2 f p ld x y = f p := rfl
    have e3 : (if (2 : Int) = 0 ∨ 10 ≤ (2 : Int) then p else x) = x := rfl
    rw [e1, e2, e3]
    unfold PlOk
    exact ⟨hP2.2.2.2.2.1, hP2.2.2.2.2.2.1, hP2.1, hP2.2.1, w.1, w.2.1, hP2.2.2.2.2.2.2.2, fun u => absurd u w.2.2⟩
  · subst q
    have w := hX (by omega)
    have y0 := A5 (by omega)
    have e1 : plF 3 Z fm f p x = 0 := rfl
    have e2 : plH 3 f p ld x y = y := rfl
    have e3 : (if (3 : Int) = 0 ∨ 10 ≤ (3 : Int) then p else x) = x := rfl
    rw [e1, e2, e3]
    unfold PlOk
    exact ⟨by decide, by decide, y0.1, y0.2, w.1, w.2.1, fun u => absurd u (by decide +kernel), fun u => absurd u w.2.2⟩
  · subst q
    have w := hX (by omega)
    have y0 := A5 (by omega)
    have e1 : plF 4 Z fm f p x = 1 := rfl
    have e2 : plH 4 f p ld x y = y := rfl
    have e3 : (if (4 : Int) = 0 ∨ 10 ≤ (4 : Int) then p else x) = x := rfl
    rw [e1, e2, e3]
    unfold PlOk
    exact ⟨by decide, by decide, y0.1, y0.2, w.1, w.2.1, fun _ => G4 rfl, fun u => absurd u w.2.2⟩
  · subst q
    have w := hX (by omega)
    have e1 : plF 9 Z fm f p x = 3 := rfl
    have e2 : plH 9 f p ld x y = p := rfl
    have e3 : (if (9 : Int) = 0 ∨ 10 ≤ (9 : Int) then p else x) = x := rfl
    rw [e1, e2, e3]
    unfold PlOk
    exact ⟨by decide, by decide, hp.1, hp.2, w.1, w.2.1, fun u => absurd u (by decide +kernel), fun u => absurd u w.2.2⟩
  · subst q
    have w := G10 rfl
    have x0 := A4 (by omega)
    have e2 : plH 10 f p ld x y = x := rfl
    have e3 : (if (10 : Int) = 0 ∨ 10 ≤ (10 : Int) then p else x) = p := rfl
    by_cases e : Z x = 3
    · have e1 : plF 10 Z fm f p x = 0 := if_pos e
      rw [e1, e2, e3]
      unfold PlOk
      exact ⟨by decide, by decide, x0.1, x0.2, hP2.2.2.1, hP2.2.2.2.1, fun u => absurd u (by decide +kernel), fun _ => by decide⟩
    · have e1 : plF 10 Z fm f p x = 1 := if_neg e
      rw [e1, e2, e3]
      unfold PlOk
      exact ⟨by decide, by decide, x0.1, x0.2, hP2.2.2.1, hP2.2.2.2.1, fun _ => by omega, fun _ => by decide⟩
  · subst q
    have w := G11 rfl
    have u := (h (f p) hP2.1 hP2.2.1).resolve_left (by omega)
    have e1 : plF 11 Z fm f p x = fm (f p) := rfl
    have e2 : plH 11 f p ld x y = f (f p) := rfl
    have e3 : (if (11 : Int) = 0 ∨ 10 ≤ (11 : Int) then p else x) = p := rfl
    rw [e1, e2, e3]
    unfold PlOk
    exact ⟨u.1, u.2.1, u.2.2.1, u.2.2.2.1, hP2.2.2.1, hP2.2.2.2.1, u.2.2.2.2.2.2.1, fun _ => by omega⟩
theorem AcR_h {v f g : Int} {F A O L F2 A2 O2 L2 : Nat → Int32} {sj x : Int32} {H : Int → Prop} (h : AcR v F A O L F2 A2 O2 L2 sj x f H) (e : ∀ z, H z → z = g) : AcR v F A O L F2 A2 O2 L2 sj x f (fun z => z = g) := by
  unfold AcR at h ⊢
  rcases h with ⟨a, ⟨f9, h9, b, c, d⟩, k⟩ | h | h | h
  · exact Or.inl ⟨a, ⟨f9, h9, b, e _ c, d⟩, k⟩
  · exact Or.inr (Or.inl h)
  · exact Or.inr (Or.inr (Or.inl h))
  · exact Or.inr (Or.inr (Or.inr h))
theorem Sc_x {N : Int} {Z : Int → Int} {Qf : Int → Int → Prop} {ce F A O L F2 A2 O2 L2 : Nat → Int32} (h : ScR N Z Qf ce F A O L) (e : ∀ o : Nat, (o : Int) < N → F2 o = F o ∧ A2 o = A o ∧ O2 o = O o ∧ L2 o = L o) : ScR N Z Qf ce F2 A2 O2 L2 := fun o ho => by
  have q := e o ho
  rw [q.1, q.2.1, q.2.2.1, q.2.2.2]
  exact h o ho
theorem Sc_a {N v f g : Int} {Z : Int → Int} {Qf : Int → Int → Prop} {ce F A O L F2 A2 O2 L2 : Nat → Int32} {sj x2 ou : Int32} (h : ScR N Z Qf ce F A O L) (hce : ∀ o, 0 ≤ (ce o).toInt) (hN : N ≤ 30) (hs : 0 ≤ sj.toInt ∧ sj.toInt < N) (ho : OuR v (ce sj.toNatClampNeg) ou f g) (ha : AcR v F A O L F2 A2 O2 L2 sj x2 f (fun z => z = g)) (hx : 5 ≤ v ∧ v ≤ 8 → x2 = sj) (hg : v ≤ 4 ∨ (9 ≤ v ∧ v ≤ 11) → PlOk N Z sj.toInt f g) : ScR N Z Qf (upd ce sj.toNatClampNeg ou) F2 A2 O2 L2 := by
  intro o hlt
  have hs0 := cl_nn (x := sj) hs.1
  by_cases e : o = sj.toNatClampNeg
  · subst e
    have w := h sj.toNatClampNeg hlt
    rw [pk_us]
    rcases ho with ⟨v1, ho⟩ | ⟨v1, hm, hB⟩ | ⟨v1, hm, hB⟩ | ⟨v1, ho⟩
    · rcases ha with ⟨_, ⟨f9, h9, b, c, d1, d2⟩, k1, k2⟩ | ⟨v2, _⟩ | ⟨v2, _⟩ | ⟨v2, _⟩
      · have p := hg v1
        have p2 := p
        unfold PlOk at p2
        have c9 : h9.toInt = g := c
        rw [d1, d2, k1, k2, pk_us, pk_us, b, c9, hs0]
        refine ⟨Or.inr ⟨p, by omega⟩, ?_, ?_, fun k q1 q2 => ?_⟩
        · rw [pl_hb (hce _) (by omega) (by omega) ho (by omega)]; exact w.2.1
        · rw [pl_hb (hce _) (by omega) (by omega) ho (by omega)]; exact w.2.2.1
        · rw [pl_hb (hce _) (by omega) (by omega) ho (by omega)]
          have u := w.2.2.2 k q1 q2
          rw [hs0] at u
          exact u
      · exfalso; omega
      · exfalso; omega
      · exfalso; omega
    · rcases ha with ⟨v2, _⟩ | ⟨_, d1, d2, ⟨z, hz, k1⟩, k2⟩ | ⟨v2, _⟩ | ⟨v2, _⟩
      · exfalso; omega
      · rw [d1, d2, k1, k2, hx (by omega), pk_us, hm]
        refine ⟨w.1, ?_, ?_, fun k q1 q2 => ?_⟩
        · rw [hB 0 (by omega) (by omega)]
          constructor
          · rintro (u | u)
            · rcases hz with y | y
              · exact y.1
              · exact absurd u.2 y.2
            · exact absurd rfl u.1
          · intro u
            rcases hz with y | y
            · exact Or.inl ⟨rfl, y.2⟩
            · omega
        · rw [hB 1 (by omega) (by omega), ← w.2.2.1]
          exact ⟨fun u => u.elim (fun y => absurd y.1 (by decide +kernel)) (fun y => y.2), fun u => Or.inr ⟨by decide, u⟩⟩
        · rw [hB k (by omega) q2, ← w.2.2.2 k q1 q2]
          exact ⟨fun u => u.elim (fun y => absurd y.1 (by omega)) (fun y => y.2), fun u => Or.inr ⟨by omega, u⟩⟩
      · exfalso; omega
      · exfalso; omega
    · rcases ha with ⟨v2, _⟩ | ⟨v2, _⟩ | ⟨_, d1, d2, k1, z, hz, k2⟩ | ⟨v2, _⟩
      · exfalso; omega
      · exfalso; omega
      · rw [d1, d2, k1, k2, hx (by omega), pk_us, hm]
        refine ⟨w.1, ?_, ?_, fun k q1 q2 => ?_⟩
        · rw [hB 0 (by omega) (by omega), ← w.2.1]
          exact ⟨fun u => u.elim (fun y => absurd y.1 (by decide +kernel)) (fun y => y.2), fun u => Or.inr ⟨by decide, u⟩⟩
        · rw [hB 1 (by omega) (by omega)]
          constructor
          · rintro (u | u)
            · rcases hz with y | y
              · exact y.1
              · exact absurd u.2 y.2
            · exact absurd rfl u.1
          · intro u
            rcases hz with y | y
            · exact Or.inl ⟨rfl, y.2⟩
            · omega
        · rw [hB k (by omega) q2, ← w.2.2.2 k q1 q2]
          exact ⟨fun u => u.elim (fun y => absurd y.1 (by omega)) (fun y => y.2), fun u => Or.inr ⟨by omega, u⟩⟩
      · exfalso; omega
    · rcases ha with ⟨v2, _⟩ | ⟨v2, _⟩ | ⟨v2, _⟩ | ⟨_, d1, d2, k1, k2⟩
      · exfalso; omega
      · exfalso; omega
      · exfalso; omega
      · rw [d1, d2, k1, k2, ho]; exact w
  · rw [pk_un e]
    have w := h o hlt
    rcases ha with ⟨_, ⟨f9, h9, b, c, d1, d2⟩, k1, k2⟩ | ⟨v2, d1, d2, ⟨z, hz, k1⟩, k2⟩ | ⟨v2, d1, d2, k1, z, hz, k2⟩ | ⟨_, d1, d2, k1, k2⟩
    · rw [d1, d2, k1, k2, pk_un e, pk_un e]; exact w
    · rw [d1, d2, k1, k2, hx (by omega), pk_un e]; exact w
    · rw [d1, d2, k1, k2, hx (by omega), pk_un e]; exact w
    · rw [d1, d2, k1, k2]; exact w
theorem Abs_u {ce : Nat → Int32} {N : Int} {j v : Int32} (h : Abs ce N) (h0 : 0 ≤ j.toInt) (h1 : j.toInt < N) : Abs (upd ce j.toNatClampNeg v) N := by
  intro o ho
  have e := cl_nn (x := j) h0
  rw [pk_un (by omega)]
  exact h o ho
/-! what is undone -/
def UdR (N : Int) (Z : Int → Int) (Qf : Int → Int → Prop) (tu : Nat) (ce sb fc W1 W2 W3 W4 : Nat → Int32) : Prop := ∃ cs : Nat → Nat → Int32, cs tu = ce ∧ ∀ j : Nat, j < tu → cs j = upd (cs (j + 1)) (sb j).toNatClampNeg (fc j) ∧ (0 ≤ (sb j).toInt ∧ (sb j).toInt < N) ∧ ScR N Z Qf (cs j) (fun o => W1 (30 * j + o)) (fun o => W2 (30 * j + o)) (fun o => W3 (30 * j + o)) (fun o => W4 (30 * j + o))
theorem Un_0 {N : Int} {Z : Int → Int} {Qf : Int → Int → Prop} {tu : Nat} {ce sb fc W1 W2 W3 W4 : Nat → Int32} (h : tu = 0) : UdR N Z Qf tu ce sb fc W1 W2 W3 W4 := ⟨fun _ => ce, rfl, fun j hj => by omega⟩
def csN (T : Nat) (cs : Nat → Nat → Int32) (x : Nat → Int32) (j : Nat) : Nat → Int32 := if j ≤ T then cs j else x
theorem csN_l {T : Nat} {cs : Nat → Nat → Int32} {x : Nat → Int32} {j : Nat} (h : j ≤ T) : csN T cs x j = cs j := if_pos h
theorem csN_g {T : Nat} {cs : Nat → Nat → Int32} {x : Nat → Int32} {j : Nat} (h : ¬ j ≤ T) : csN T cs x j = x := if_neg h
theorem Un_s {N : Int} {Z : Int → Int} {Qf : Int → Int → Prop} {T : Nat} {ce sb fc W1 W2 W3 W4 F A O L V1 V2 V3 V4 : Nat → Int32} {sj ou tu : Int32} (h : UdR N Z Qf T ce sb fc W1 W2 W3 W4) (hS : ScR N Z Qf ce F A O L) (hj : 0 ≤ sj.toInt ∧ sj.toInt < N) (hN : N ≤ 30) (hT : tu.toNatClampNeg = T) (r1 : RW V1 V2 W1 W2 F A T 30) (r2 : RW V3 V4 W3 W4 O L T 30) : UdR N Z Qf (T + 1) (upd ce sj.toNatClampNeg ou) (upd sb tu.toNatClampNeg sj) (upd fc tu.toNatClampNeg (ce sj.toNatClampNeg)) V1 V2 V3 V4 := by
  obtain ⟨cs, e, h⟩ := h
  refine ⟨csN T cs (upd ce sj.toNatClampNeg ou), csN_g (by omega), fun j hj2 => ?_⟩
  rw [hT]
  by_cases q : j = T
  · subst q
    rw [csN_l (Nat.le_refl j), csN_g (by omega), pk_us, pk_us, e]
    refine ⟨?_, hj, Sc_x hS (fun o ho => ?_)⟩
    · funext o
      by_cases w : o = sj.toNatClampNeg
      · rw [w, pk_us]
      · rw [pk_un w, pk_un w]
    · have a := r1.2 o (by omega)
      have b := r2.2 o (by omega)
      exact ⟨a.1, a.2, b.1, b.2⟩
  · have w := h j (by omega)
    rw [csN_l (by omega), csN_l (by omega), pk_un q, pk_un q]
    refine ⟨w.1, w.2.1, Sc_x w.2.2 (fun o ho => ?_)⟩
    have a := r1.1 (30 * j + o) (by omega)
    have b := r2.1 (30 * j + o) (by omega)
    exact ⟨a.1, a.2, b.1, b.2⟩
theorem Un_b {N : Int} {Z : Int → Int} {Qf : Int → Int → Prop} {T : Nat} {ce sb fc W1 W2 W3 W4 F A O L : Nat → Int32} (h : UdR N Z Qf (T + 1) ce sb fc W1 W2 W3 W4) (g1 : GB F A W1 W2 T 30) (g2 : GB O L W3 W4 T 30) (hN : N ≤ 30) : UdR N Z Qf T (upd ce (sb T).toNatClampNeg (fc T)) sb fc W1 W2 W3 W4 ∧ ScR N Z Qf (upd ce (sb T).toNatClampNeg (fc T)) F A O L ∧ 0 ≤ (sb T).toInt ∧ (sb T).toInt < N := by
  obtain ⟨cs, e, h⟩ := h
  have w := h T (by omega)
  rw [e] at w
  refine ⟨⟨cs, w.1, fun j hj => h j (by omega)⟩, ?_, w.2.1⟩
  rw [← w.1]
  refine Sc_x w.2.2 (fun o ho => ?_)
  have a := g1 o (by omega)
  have b := g2 o (by omega)
  exact ⟨a.1, a.2, b.1, b.2⟩
/-- the tale: as both sides keep it -/
def TL (N : Int) (Z : Int → Int) (Qf : Int → Int → Prop) (LK : Prop) (th pl tu : Int32) (ce sb fc : Nat → Int32) (p tu2 : Int32) (F A O L W1 W2 W3 W4 : Nat → Int32) : Prop := Abs ce N ∧ tu.toInt = tu2.toInt ∧ ((¬ th.toInt = 1 ∧ p.toInt = -9 ∧ tu.toInt = 0) ∨ (th.toInt = 1 ∧ pl = p ∧ (0 ≤ p.toInt ∧ p.toInt < N) ∧ Z p.toInt = 5 ∧ ScR N Z Qf ce F A O L ∧ UdR N Z Qf tu.toInt.toNat ce sb fc W1 W2 W3 W4 ∧ LK))
theorem TL_e {N N2 : Int} {Z Z2 : Int → Int} {Qf Qf2 : Int → Int → Prop} {LK LK2 : Prop} {th pl tu th2 tu3 : Int32} {ce sb fc : Nat → Int32} {p tu2 p2 tu4 : Int32} {F A O L W1 W2 W3 W4 : Nat → Int32} (h : TL N Z Qf LK th pl tu ce sb fc p tu2 F A O L W1 W2 W3 W4) (hN : N ≤ N2) (h1 : ¬ th2.toInt = 1) (h2 : tu3.toInt = 0) (h3 : p2.toInt = -9) (h4 : tu4.toInt = 0) : TL N2 Z2 Qf2 LK2 th2 pl tu3 ce sb fc p2 tu4 F A O L W1 W2 W3 W4 := ⟨fun o ho => h.1 o (by omega), by omega, Or.inl ⟨h1, h3, h2⟩⟩
theorem TL_a {N v f g : Int} {Z : Int → Int} {Qf : Int → Int → Prop} {LK LK2 : Prop} {th pl tu tu3 sj x2 ou : Int32} {ce sb fc ce2 sb2 fc2 : Nat → Int32} {p tu2 tu4 : Int32} {F A O L W1 W2 W3 W4 F2 A2 O2 L2 V1 V2 V3 V4 : Nat → Int32} (h : TL N Z Qf LK th pl tu ce sb fc p tu2 F A O L W1 W2 W3 W4) (h1 : th.toInt = 1) (hce : ∀ o, 0 ≤ (ce o).toInt) (hN : N ≤ 30) (ht : 0 ≤ tu.toInt) (hs : 0 ≤ sj.toInt ∧ sj.toInt < N) (ho : OuR v (ce sj.toNatClampNeg) ou f g) (e1 : ce2 = upd ce sj.toNatClampNeg ou) (e2 : sb2 = upd sb tu.toNatClampNeg sj) (e3 : fc2 = upd fc tu.toNatClampNeg (ce sj.toNatClampNeg)) (e4 : tu3.toInt = tu.toInt + 1) (hk : LK2) (ha : AcR v F A O L F2 A2 O2 L2 sj x2 f (fun z => z = g)) (hx : 5 ≤ v ∧ v ≤ 8 → x2 = sj) (hg : v ≤ 4 ∨ (9 ≤ v ∧ v ≤ 11) → PlOk N Z sj.toInt f g) (r1 : RW V1 V2 W1 W2 F A tu2.toInt.toNat 30) (r2 : RW V3 V4 W3 W4 O L tu2.toInt.toNat 30) (e5 : tu4.toInt = tu2.toInt + 1) : TL N Z Qf LK2 th pl tu3 ce2 sb2 fc2 p tu4 F2 A2 O2 L2 V1 V2 V3 V4 := by
  obtain ⟨a, b, c⟩ := h
  have c := c.resolve_left (fun q => q.1 h1)
  subst e1 e2 e3
  rw [← b] at r1 r2
  refine ⟨Abs_u a hs.1 hs.2, by omega, Or.inr ⟨h1, c.2.1, c.2.2.1, c.2.2.2.1, Sc_a c.2.2.2.2.1 hce hN hs ho ha hx hg, ?_, hk⟩⟩
  rw [show tu3.toInt.toNat = tu.toInt.toNat + 1 by omega]
  exact Un_s c.2.2.2.2.2.1 c.2.2.2.2.1 hs hN rfl r1 r2
theorem TL_b {N : Int} {Z : Int → Int} {Qf : Int → Int → Prop} {LK LK2 : Prop} {th pl tu tu3 : Int32} {ce sb fc ce2 : Nat → Int32} {p tu2 tu4 : Int32} {F A O L W1 W2 W3 W4 F2 A2 O2 L2 : Nat → Int32} (h : TL N Z Qf LK th pl tu ce sb fc p tu2 F A O L W1 W2 W3 W4) (h1 : th.toInt = 1) (hN : N ≤ 30) (ht : 1 ≤ tu.toInt) (e1 : ce2 = upd ce (sb (tu.toInt - 1).toNat).toNatClampNeg (fc (tu.toInt - 1).toNat)) (e4 : tu3.toInt = tu.toInt - 1) (hk : LK2) (g1 : GB F2 A2 W1 W2 (tu2.toInt - 1).toNat 30) (g2 : GB O2 L2 W3 W4 (tu2.toInt - 1).toNat 30) (e5 : tu4.toInt = tu2.toInt - 1) : TL N Z Qf LK2 th pl tu3 ce2 sb fc p tu4 F2 A2 O2 L2 W1 W2 W3 W4 := by
  obtain ⟨a, b, c⟩ := h
  have c := c.resolve_left (fun q => q.1 h1)
  subst e1
  rw [← b] at g1 g2
  have u := c.2.2.2.2.2.1
  rw [show tu.toInt.toNat = (tu.toInt - 1).toNat + 1 by omega] at u
  have w := Un_b u g1 g2 hN
  refine ⟨Abs_u a w.2.2.1 w.2.2.2, by omega, Or.inr ⟨h1, c.2.1, c.2.2.1, c.2.2.2.1, w.2.1, ?_, hk⟩⟩
  rw [show tu3.toInt.toNat = (tu.toInt - 1).toNat by omega]
  exact w.1
/-! reasons, all of them -/
theorem wyV_c {v tk hd pi po tu wr en lv tk2 pi2 po2 tu2 wr2 en2 lv2 : Int} (h1 : v = 1 → tk = tk2) (h3 : v = 3 → pi = pi2) (h4 : v = 4 → po = po2) (h5 : 5 ≤ v ∧ v ≤ 8 → tu = tu2) (h9 : v = 9 → wr = wr2) (h10 : v = 10 → en = en2) (h11 : v = 11 → lv = lv2) : wyV v tk hd pi po tu wr en lv = wyV v tk2 hd pi2 po2 tu2 wr2 en2 lv2 := by
  unfold wyV
  by_cases q1 : v = 1
  · rw [if_pos q1, if_pos q1]; exact h1 q1
  rw [if_neg q1, if_neg q1]
  by_cases q2 : v = 2
  · rw [if_pos q2, if_pos q2]
  rw [if_neg q2, if_neg q2]
  by_cases q3 : v = 3
  · rw [if_pos q3, if_pos q3]; exact h3 q3
  rw [if_neg q3, if_neg q3]
  by_cases q4 : v = 4
  · rw [if_pos q4, if_pos q4]; exact h4 q4
  rw [if_neg q4, if_neg q4]
  by_cases q5 : 5 ≤ v ∧ v ≤ 8
  · rw [if_pos q5, if_pos q5]; exact h5 q5
  rw [if_neg q5, if_neg q5]
  by_cases q9 : v = 9
  · rw [if_pos q9, if_pos q9]; exact h9 q9
  rw [if_neg q9, if_neg q9]
  by_cases q10 : v = 10
  · rw [if_pos q10, if_pos q10]; exact h10 q10
  rw [if_neg q10, if_neg q10]
  by_cases q11 : v = 11
  · rw [if_pos q11, if_pos q11]; exact h11 q11
  rw [if_neg q11, if_neg q11]
theorem cnt_ce {P Q : Nat → Bool} : ∀ n : Nat, (∀ x, x < n → (P x = true ↔ Q x = true)) → cnt P n = cnt Q n := by
  intro n
  induction n with
  | zero => intro _; rfl
  | succ n ih =>
    intro e
    show cnt P n + (if P n = true then 1 else 0) = cnt Q n + (if Q n = true then 1 else 0)
    rw [ih (fun x hx => e x (by omega))]
    have w := e n (by omega)
    by_cases q : P n = true
    · rw [if_pos q, if_pos (w.mp q)]
    · rw [if_neg q, if_neg (fun z => q (w.mpr z))]

