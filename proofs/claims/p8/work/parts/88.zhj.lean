theorem TLact {N N2 : Int} {Z : Int → Int} {Qf : Int → Int → Prop} {LK LK2 : Prop} {th pl ap tu tu3 w w2 x1 y1 r r2 : Int32} {v v2 : Int} {ce sb fc ce2 sb2 fc2 ld : Nat → Int32} {p p2 tu2 tu4 : Int32} {F A O L W1 W2 W3 W4 F2 A2 O2 L2 V1 V2 V3 V4 : Nat → Int32} {Rm : Int → Prop} {P9 : Int → Prop} {SX SM : Prop}
    (h : TL N Z Qf LK th pl tu ce sb fc p tu2 F A O L W1 W2 W3 W4) (hPJ : PJ th pl ap tu ce sb fc) (hce : ∀ o, 0 ≤ (ce o).toInt) (hN : N ≤ 30) (eN : N = N2) (ht : 0 ≤ tu.toInt ∧ tu.toInt ≤ 100) (ev : v2 = v) (ex : x1.toInt = w.toInt) (ey : y1.toInt = w2.toInt) (er : r = r2)
    (hg : r.toInt = 0 → IsA v w.toInt w2.toInt N ∧ th.toInt = 1 ∧ (v = 1 → ¬ (¬ ((Z w.toInt = 1 ∨ 3 ≤ Z w.toInt) ∧ ¬ Z w.toInt = 5) ∨ bT ce 3 w.toInt ∨ fX ce w.toInt = 4)) ∧ (v = 2 ∨ v = 3 ∨ v = 4 ∨ v = 9 → Hd (hF ce) (fX ce) ap.toInt w.toInt) ∧ (v = 4 → ((1 : Int) = 0 ∧ Z w2.toInt = 3) ∨ (¬ (1 : Int) = 0 ∧ Z w2.toInt = 4)) ∧ (v = 10 → Z w.toInt = 3 ∨ Z w.toInt = 4) ∧ (v = 11 → fX ce (hF ce ap.toInt) = 0 ∨ fX ce (hF ce ap.toInt) = 1) ∧ (v = 0 → ByR Z (hF ce) (fX ce) ap.toInt))
    (h1 : AsR (IsA v w.toInt w2.toInt N ∧ tu.toInt ≤ 99 ∧ th.toInt = 1 ∧ r.toInt = 0) ((∃ ou : Int32, OuR v (ce (sbI v ap w).toNatClampNeg) ou (plF v Z (fX ce) (hF ce) ap.toInt w.toInt) (plH v (hF ce) ap.toInt (ld ((hF ce) ap.toInt * 10 + w.toInt).toNat).toInt w.toInt w2.toInt) ∧ ce2 = upd ce (sbI v ap w).toNatClampNeg ou ∧ sb2 = upd sb tu.toNatClampNeg (sbI v ap w) ∧ fc2 = upd fc tu.toNatClampNeg (ce (sbI v ap w).toNatClampNeg) ∧ tu3.toInt = tu.toInt + 1) ∧ LK2) SX)
    (h2 : AsR (IsA v2 x1.toInt y1.toInt N2 ∧ ¬ p.toInt = -9 ∧ ¬ tu2.toInt = 100 ∧ r2.toInt = 0) (AcR v2 F A O L F2 A2 O2 L2 (sbI v2 p x1) x1 (plF v2 Z (fMn N2 F) (nF N2 F A) p.toInt x1.toInt) (fun z : Int => (v2 = 0 ∧ P9 z) ∨ (¬ v2 = 0 ∧ z = plH v2 (nF N2 F A) p.toInt 0 x1.toInt y1.toInt)) ∧ RW V1 V2 W1 W2 F A tu2.toInt.toNat 30 ∧ RW V3 V4 W3 W4 O L tu2.toInt.toNat 30 ∧ tu4.toInt = tu2.toInt + 1 ∧ p2 = p) SM)
    (hP9 : v = 0 → th.toInt = 1 → IsA v w.toInt w2.toInt N → ByR Z (hF ce) (fX ce) p.toInt → ∀ z, P9 z → z = (ld ((nF N F A) p.toInt * 10 + w.toInt).toNat).toInt) (hTI : ¬ p2.toInt = -9 → TI N Rm p2.toInt F2 A2) (hs : SX → SM → TL N Z Qf LK2 th pl tu3 ce2 sb2 fc2 p2 tu4 F2 A2 O2 L2 V1 V2 V3 V4) : TL N Z Qf LK2 th pl tu3 ce2 sb2 fc2 p2 tu4 F2 A2 O2 L2 V1 V2 V3 V4 := by
  subst eN er
  have b := h.2.1
  have c := h.2.2
  have hp : th.toInt = 1 ↔ ¬ p.toInt = -9 := by
    rcases c with c | c
    · exact ⟨fun q => absurd q c.1, fun q => absurd c.2.1 q⟩
    · exact ⟨fun _ => by have := c.2.2.1; omega, fun _ => c.1⟩
  have eA : IsA v2 x1.toInt y1.toInt N ↔ IsA v w.toInt w2.toInt N := by rw [ev, ex, ey]
  rcases h1 with ⟨a1, s1⟩ | ⟨⟨a1, a2, a3, a4⟩, ⟨ou, o1, o2, o3, o4, o5⟩, hk⟩
  · rcases h2 with ⟨_, s2⟩ | ⟨⟨d1, d2, d3, d4⟩, _⟩
    · exact hs s1 s2
    · exact absurd ⟨eA.mp d1, by omega, hp.mpr d2, d4⟩ a1
  · rcases h2 with ⟨d, _⟩ | ⟨_, c1, c2, c3, c4, c5⟩
    · exact absurd ⟨eA.mpr a1, hp.mp a3, by omega, a4⟩ d
    · obtain ⟨_, _, g1, g2, g4, g10, g11, g0⟩ := hg a4
      have hpl := c.resolve_left (fun q => q.1 a3)
      have eap : ap = p := (hPJ a3).2.2.1.trans hpl.2.1
      rw [c5] at hTI ⊢
      exact TLa_e h hPJ a3 hce hN ht.1 a1 ev ex ey g1 g2 g4 g10 g11 o1 o2 o3 o4 o5 hk c1 (fun q z y => hP9 q a3 a1 (by rw [← eap]; exact g0 q) z y) (hTI (hp.mp a3)) c2 c3 c4
/-- begin(), told with the reference's rows -/
theorem Sc_gm {jm : Nat → Int32} {em : Nat → Nat → Int32} {so ko pa st F A B C S pb eb fb kb cb ce0 ce2 nf na O L : Nat → Int32} {n : Int32} {N kn : Int} (hM : mInv jm em) (hSN : SN F A B C S n pb eb fb kb cb (em 9) (em 10) (em 11) (em 12) (em 13) (jm 8)) (hr : RR F A B C pb eb fb kb) (hN : N ≤ 30) (eN : N = (jm 5).toInt) (hFt : FtS (zX so ko N) F A B n.toInt) (hs : SJ (em 3) (em 6) (em 9) (em 10) (em 11) (em 13) kn (jm 5).toInt (jm 8).toInt) (hz : ∀ t : Int, 0 ≤ t → t < N → zX so ko N t = kS (em 3) (em 6) t) (ePA : pa = em 3) (eKO : ko = em 6) (est : ∀ j : Nat, j < 144 → st j = em 4 j)
    (hC : StC ce0 ce2 cb (fun o f : Int => Can ((zX so ko N) o) f ∧ sgX fb C o f (sfV pa ko st (so (ko o.toNat).toNatClampNeg).toInt f o) = 1) N) (hG : BG (em 9) (em 10) (em 11) (em 13) nf na (jm 8).toInt (jm 5).toInt) (hO : BO O (fun x : Int => ((zM (em 3) (em 6) (jm 5).toInt) x = 2 ∨ (zM (em 3) (em 6) (jm 5).toInt) x = 3) ∧ SgM (em 9) (em 10) (em 11) (em 12) (em 13) (jm 8).toInt x 0 (sfV (em 3) (em 6) (em 4) (kS (em 3) (em 6) x) 0 x) 1) (jm 5).toInt) (hL : BO L (fun x : Int => ((zM (em 3) (em 6) (jm 5).toInt) x = 2 ∨ (zM (em 3) (em 6) (jm 5).toInt) x = 3) ∧ SgM (em 9) (em 10) (em 11) (em 12) (em 13) (jm 8).toInt x 1 (sfV (em 3) (em 6) (em 4) (kS (em 3) (em 6) x) 1 x) 1) (jm 5).toInt) : ScR N (zX so ko N) (fun o f : Int => Can ((zX so ko N) o) f ∧ sgX fb C o f (sfV pa ko st (so (ko o.toNat).toNatClampNeg).toInt f o) = 1) ce2 nf na O L := by
  have hSI := SI_of (Z := zX so ko N) hM hSN hr hs eN hz
  have eZ := zXM hz
  obtain ⟨e1, e2, e3, e4, e5, e6, hI⟩ := hSN
  subst e1 e2 e3 e4 e5 ePA eKO
  rw [e6] at hI hFt hSI
  rw [← eN] at hG hO hL
  have q : ∀ x f : Int, 0 ≤ x → x < N → 0 ≤ f → f ≤ 1 → ((Can ((zX so (em 6) N) x) f ∧ sgX fb (em 12) x f (sfV (em 3) (em 6) st (so ((em 6) x.toNat).toNatClampNeg).toInt f x) = 1) ↔ (((zM (em 3) (em 6) N) x = 2 ∨ (zM (em 3) (em 6) N) x = 3) ∧ SgM (em 9) (em 10) (em 11) (em 12) (em 13) (jm 8).toInt x f (sfV (em 3) (em 6) (em 4) (kS (em 3) (em 6) x) f x) 1)) := fun x f x0 x1 f0 f1 => by
    have f5 : f ≤ 5 := by omega
    rw [Sx_e hI hr ⟨x0, by omega⟩ ⟨f0, f5⟩ (sfV_c (pa := em 3) (ko := em 6) (o := x) ⟨f0, f5⟩ est ((zX_e ⟨x0, x1⟩).symm.trans (hz x x0 x1))), ← eZ]
    exact and_congr (by unfold Can; omega) Iff.rfl
  exact Sc_g hI hr hN hFt hSI hC hG hO hL (fun x x0 x1 => ⟨q x 0 x0 x1 (by omega) (by omega), q x 1 x0 x1 (by omega) (by omega)⟩)
/-- where going leads, told with the reference's rows -/
theorem Ld_m {jm : Nat → Int32} {em : Nat → Nat → Int32} {so ko F A B C S pb eb fb kb cb ld dr bw im f1 f2 ce nf na nO nL : Nat → Int32} {Qf : Int → Int → Prop} {n : Int32} {N N2 kn p x x2 z : Int} (hM : mInv jm em) (hN : N ≤ 30) (eN : N = N2) (hSN : SN F A B C S n pb eb fb kb cb (em 9) (em 10) (em 11) (em 12) (em 13) (jm 8)) (hr : RR F A B C pb eb fb kb) (hD : DR (zX so ko N) F A B S n.toInt N) (hRD : RDS (zX so ko N) F A B C S n.toInt.toNat ld dr bw im f1 f2) (hs : SJ (em 3) (em 6) (em 9) (em 10) (em 11) (em 13) kn N2 (jm 8).toInt) (hz : ∀ t : Int, 0 ≤ t → t < N → zX so ko N t = kS (em 3) (em 6) t) (hS : ScR N (zX so ko N) Qf ce nf na nO nL) (ha : Abs ce N) (hp : 0 ≤ p ∧ p < N) (hx : 0 ≤ x ∧ x ≤ 9) (ex : x2 = x) (b : ByR (zX so ko N) (hF ce) (fX ce) p) (hf : ∃ dr2 bw2 im2 : Int, FeM (em 3) (em 6) (em 9) (em 10) (em 11) (em 12) (em 13) (jm 8).toInt (na p.toNat).toInt x2 z dr2 bw2 im2) : z = (ld ((nF N nf na) p * 10 + x).toNat).toInt := by
  obtain ⟨e1, e2, e3, e4, e5, e6, hI⟩ := hSN
  subst e1 e2 e3 e4 e5 ex eN
  rw [e6] at hI hD hRD
  have hB : ∀ t : Nat, (t : Int) < (jm 8).toInt → (em 9 t).toInt = 5 → (em 11 t).toInt < N ∧ (kS (em 3) (em 6) (em 11 t).toInt = 0 ∨ kS (em 3) (em 6) (em 11 t).toInt = 2) := fun t t1 t2 => by
    have w := hs.2.1 t t1
    refine ⟨w.2.1 (by omega), ?_⟩
    rcases (w.2.2.2 t2).2 with u | u
    · exact Or.inl ((kS_k hM (by omega) (by omega)).mp u)
    · exact Or.inr ((kS_k hM (by omega) (by omega)).mp u)
  exact Ld_e hS ha hN hp hx hRD hI hr hD hz hB b hf
/-! what light(), now(), turn(), back() tell is alike -/
