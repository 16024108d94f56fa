/-! what light(), now(), turn(), back() tell is alike -/
theorem TL_i {N : Int} {Z : Int → Int} {Qf : Int → Int → Prop} {LK : Prop} {th pl tu : Int32} {ce sb fc : Nat → Int32} {p tu2 : Int32} {F A O L W1 W2 W3 W4 : Nat → Int32} (h : TL N Z Qf LK th pl tu ce sb fc p tu2 F A O L W1 W2 W3 W4) : ((th.toInt = 1 ∧ ¬ p.toInt = -9 ∧ pl.toInt = p.toInt) ∨ (¬ th.toInt = 1 ∧ p.toInt = -9)) ∧ tu.toInt = tu2.toInt := by
  refine ⟨?_, h.2.1⟩
  rcases h.2.2 with q | q
  · exact Or.inr ⟨q.1, q.2.1⟩
  · exact Or.inl ⟨q.1, by have := q.2.2.1; omega, by rw [q.2.1]⟩
theorem Sm_q {a b : Int32} {P Q : Prop} (h : Sm a P) (h2 : Sm b Q) (e : P ↔ Q) : a.toInt = b.toInt := by
  rcases h with h | h <;> rcases h2 with h2 | h2
  · omega
  · exact absurd (e.mp h.2) h2.2
  · exact absurd (e.mpr h2.2) h.2
  · omega
theorem Lk_q {Z f fm : Int → Int} {op gl lt op2 gl2 lt2 : Int → Prop} {sd sd2 : Int → Int → Prop} {p N : Int} {sn rc sn2 rc2 : Nat → Int32} {br br2 : Int32} (h1 : LkR Z f fm op gl lt sd p N sn rc br) (h2 : LkR Z f fm op2 gl2 lt2 sd2 p N sn2 rc2 br2) (h : ∀ x, Z x = 3 → (op x ↔ op2 x) ∧ (gl x ↔ gl2 x)) (hs : ∀ s x, ¬ s = -9 → Z x = 2 → (sd s x ↔ sd2 s x)) (hl : ∀ x, 0 ≤ x → x < N → (lt x ↔ lt2 x)) (hZ : ∀ x, Z x = 0 → 0 ≤ x ∧ x < N) : (∀ x : Int, 0 ≤ x → x < N → (sn x.toNat).toInt = (sn2 x.toNat).toInt ∧ (rc x.toNat).toInt = (rc2 x.toNat).toInt) ∧ br.toInt = br2.toInt := by
  have eB := BrM_c (f := f) (p := p) (N := N) h hs hl hZ
  refine ⟨fun x x0 x1 => ?_, Sm_q h1.1 h2.1 eB⟩
  have a := h1.2 x.toNat (by omega)
  have b := h2.2 x.toNat (by omega)
  rw [show ((x.toNat : Nat) : Int) = x by omega] at a b
  have eS : SnP Z f fm op gl lt sd p N x ↔ SnP Z f fm op2 gl2 lt2 sd2 p N x := by
    unfold SnP
    rw [propext eB, propext (V1_c (f := f) (p := p) (o := x) (l := (1 : Int) ≤ 0) h hs)]
  have eR : RcP Z f fm op gl lt sd p N x ↔ RcP Z f fm op2 gl2 lt2 sd2 p N x := by
    unfold RcP
    rw [propext eS, propext (V1_c (f := f) (p := p) (o := x) (l := (1 : Int) ≤ 1) h hs)]
  exact ⟨Sm_q a.1 b.1 eS, Sm_q a.2 b.2 eR⟩
/-- looks are alike, told with the reference's rows -/
theorem Lk_a {jm : Nat → Int32} {em : Nat → Nat → Int32} {so ko pa st F A B C S pb eb fb kb cb ld dr bw im f1 f2 ce sb fc sn rc : Nat → Int32} {gl lt bx rm dd sn2 rc2 : Nat → Int32} {n th pl tu br br2 : Int32} {N kn : Int} (hM : mInv jm em) (hN : N ≤ 30) (eN : N = (jm 5).toInt) (hSN : SN F A B C S n pb eb fb kb cb (em 9) (em 10) (em 11) (em 12) (em 13) (jm 8)) (hr : RR F A B C pb eb fb kb) (hD : DR (zX so ko N) F A B S n.toInt N) (hRD : RDS (zX so ko N) F A B C S n.toInt.toNat ld dr bw im f1 f2) (hs : SJ (em 3) (em 6) (em 9) (em 10) (em 11) (em 13) kn (jm 5).toInt (jm 8).toInt) (hz : ∀ t : Int, 0 ≤ t → t < N → zX so ko N t = kS (em 3) (em 6) t) (ePA : pa = em 3) (eKO : ko = em 6) (est : ∀ j : Nat, j < 144 → st j = em 4 j)
    (hT : TL N (zX so ko N) (fun o f : Int => Can ((zX so ko N) o) f ∧ sgX fb C o f (sfV pa ko st (so (ko o.toNat).toNatClampNeg).toInt f o) = 1) (LkR (zX so ko N) (hF ce) (fX ce) (bT ce 0) (bT ce 5) (bT ce 2) (sD f1 f2) pl.toInt N sn rc br) th pl tu ce sb fc (jm 22) (jm 27) (em 23) (em 24) (em 25) (em 26) (em 29) (em 30) (em 31) (em 32)) (h1 : th.toInt = 1) (hK : LkK (em 3) (em 6) (jm 5).toInt lt gl bx rm dd (fun z : Int => SgM (em 9) (em 10) (em 11) (em 12) (em 13) (jm 8).toInt z 2 (sfV (em 3) (em 6) (em 4) (kS (em 3) (em 6) z) 2 z) 1) (fun z : Int => SgM (em 9) (em 10) (em 11) (em 12) (em 13) (jm 8).toInt z 5 (sfV (em 3) (em 6) (em 4) (kS (em 3) (em 6) z) 5 z) 1) (jm 5).toInt) (hL : LkR (zM (em 3) (em 6) (jm 5).toInt) (nF (jm 5).toInt (em 23) (em 24)) (fMn (jm 5).toInt (em 23)) (bM (em 25)) (bM gl) (bM lt) (sdM (zM (em 3) (em 6) (jm 5).toInt) (em 9) (em 10) (em 11) (em 13) (jm 8).toInt) (jm 22).toInt (jm 5).toInt sn2 rc2 br2) : (∀ x : Int, 0 ≤ x → x < N → (sn x.toNat).toInt = (sn2 x.toNat).toInt ∧ (rc x.toNat).toInt = (rc2 x.toNat).toInt) ∧ br.toInt = br2.toInt := by
  subst ePA eKO
  obtain ⟨e1, e2, e3, e4, e5, e6, hI⟩ := hSN
  subst e1 e2 e3 e4 e5
  rw [e6] at hI hD hRD
  rw [← eN] at hK hL hs
  have eZ := zXM hz
  obtain ⟨hAb, htu, hT⟩ := hT
  obtain ⟨_, epl, hp, hp5, hSc, _, hLk⟩ := hT.resolve_left (fun q => q.1 h1)
  rw [epl] at hLk
  rw [← eZ] at hL
  have hq : ∀ z k, 0 ≤ z → z < N → 2 ≤ k → k ≤ 5 → ((Can ((zX so (em 6) N) z) k ∧ sgX fb (em 12) z k (sfV (em 3) (em 6) st (so ((em 6) z.toNat).toNatClampNeg).toInt k z) = 1) ↔ (Can ((zX so (em 6) N) z) k ∧ SgM (em 9) (em 10) (em 11) (em 12) (em 13) (jm 8).toInt z k (sfV (em 3) (em 6) (em 4) (kS (em 3) (em 6) z) k z) 1)) := fun z k z0 z1 k2 k5 => by
    rw [Sx_e hI hr ⟨z0, by omega⟩ ⟨by omega, k5⟩ (sfV_c (pa := em 3) (ko := em 6) (o := z) ⟨by omega, k5⟩ est ((zX_e ⟨z0, z1⟩).symm.trans (hz z z0 z1)))]
  have hA : ∀ t : Nat, (t : Int) < (jm 8).toInt → (em 9 t).toInt = 5 → (zX so (em 6) N) (em 10 t).toInt = 0 := fun t t1 t2 => by
    have w := hs.2.1 t t1
    have u := hr.1 t
    rw [hz _ (by omega) w.1]
    exact (kS_k hM (by omega) (by omega)).mp (w.2.2.2 t2).1
  have hin : ∀ z k, (zX so (em 6) N) z = k → 0 ≤ k → 0 ≤ z ∧ z < N := fun z k q1 q2 => by
    by_cases q : 0 ≤ z ∧ z < N
    · exact q
    · unfold zX at q1; rw [if_neg q] at q1; omega
  have eH := Sc_h hSc hAb hN
  have eF := Sc_f hSc hAb hN
  rw [eH, eF] at hLk
  refine Lk_q hLk hL (fun x q => ?_) (fun s x s9 q => ?_) (fun x x0 x1 => ?_) (fun x q => hin x 0 q (by omega))
  · have xr := hin x 3 q (by omega)
    have b := Sc_b hSc xr.1 xr.2
    have k := hK x xr.1 xr.2
    refine ⟨b.1, ?_⟩
    rw [b.2.2 5 (by omega) (by omega)]
    refine (hq x 5 xr.1 xr.2 (by omega) (by omega)).trans ?_
    show _ ↔ (gl x.toNat).toInt = 1
    rw [k.2.1, ← eZ]
    exact ⟨fun u => ⟨q, u.2⟩, fun u => ⟨Or.inr (Or.inr (Or.inr (Or.inr ⟨by omega, q⟩))), u.2⟩⟩
  · exact Sd_e hRD hD hA hN (hin x 2 q (by omega)) q s9
  · have b := Sc_b hSc x0 x1
    have k := hK x x0 x1
    rw [b.2.2 2 (by omega) (by omega)]
    refine (hq x 2 x0 x1 (by omega) (by omega)).trans ?_
    show _ ↔ (lt x.toNat).toInt = 1
    rw [k.1]
    exact ⟨fun u => u.2, fun u => ⟨Or.inr (Or.inl rfl), u⟩⟩
theorem Lg_e {jm : Nat → Int32} {em : Nat → Nat → Int32} {so ko pa st F A B C S pb eb fb kb cb ld dr bw im f1 f2 ce sb fc sn rc : Nat → Int32} {gl lt bx rm dd sn2 rc2 : Nat → Int32} {n th pl tu br br2 r r2 : Int32} {N kn : Int} (hM : mInv jm em) (hN : N ≤ 30) (eN : N = (jm 5).toInt) (hSN : SN F A B C S n pb eb fb kb cb (em 9) (em 10) (em 11) (em 12) (em 13) (jm 8)) (hr : RR F A B C pb eb fb kb) (hD : DR (zX so ko N) F A B S n.toInt N) (hRD : RDS (zX so ko N) F A B C S n.toInt.toNat ld dr bw im f1 f2) (hs : SJ (em 3) (em 6) (em 9) (em 10) (em 11) (em 13) kn (jm 5).toInt (jm 8).toInt) (hz : ∀ t : Int, 0 ≤ t → t < N → zX so ko N t = kS (em 3) (em 6) t) (ePA : pa = em 3) (eKO : ko = em 6) (est : ∀ j : Nat, j < 144 → st j = em 4 j)
    (hT : TL N (zX so ko N) (fun o f : Int => Can ((zX so ko N) o) f ∧ sgX fb C o f (sfV pa ko st (so (ko o.toNat).toNatClampNeg).toInt f o) = 1) (LkR (zX so ko N) (hF ce) (fX ce) (bT ce 0) (bT ce 5) (bT ce 2) (sD f1 f2) pl.toInt N sn rc br) th pl tu ce sb fc (jm 22) (jm 27) (em 23) (em 24) (em 25) (em 26) (em 29) (em 30) (em 31) (em 32)) (hx : (¬ th.toInt = 1 ∧ r.toInt = -5) ∨ (th.toInt = 1 ∧ r.toInt = br.toInt)) (hm : ((jm 22).toInt = -9 ∧ r2.toInt = -5) ∨ (¬ (jm 22).toInt = -9 ∧ (LkK (em 3) (em 6) (jm 5).toInt lt gl bx rm dd (fun z : Int => SgM (em 9) (em 10) (em 11) (em 12) (em 13) (jm 8).toInt z 2 (sfV (em 3) (em 6) (em 4) (kS (em 3) (em 6) z) 2 z) 1) (fun z : Int => SgM (em 9) (em 10) (em 11) (em 12) (em 13) (jm 8).toInt z 5 (sfV (em 3) (em 6) (em 4) (kS (em 3) (em 6) z) 5 z) 1) (jm 5).toInt) ∧ (LkR (zM (em 3) (em 6) (jm 5).toInt) (nF (jm 5).toInt (em 23) (em 24)) (fMn (jm 5).toInt (em 23)) (bM (em 25)) (bM gl) (bM lt) (sdM (zM (em 3) (em 6) (jm 5).toInt) (em 9) (em 10) (em 11) (em 13) (jm 8).toInt) (jm 22).toInt (jm 5).toInt sn2 rc2 br2) ∧ r2.toInt = br2.toInt)) : r = r2 := by
  apply Int32.toInt_inj.mp
  have hi := TL_i hT
  rcases hx with ⟨a, b⟩ | ⟨a, b⟩
  · rcases hm with ⟨c, d⟩ | ⟨c, _⟩
    · omega
    · exfalso; omega
  · rcases hm with ⟨c, d⟩ | ⟨c, hK, hL, d⟩
    · exfalso; omega
    · have w := (Lk_a hM hN eN hSN hr hD hRD hs hz ePA eKO est hT a hK hL).2
      omega
theorem Sc_at {N : Int} {Z : Int → Int} {Qf : Int → Int → Prop} {ce F A O L : Nat → Int32} (h : ScR N Z Qf ce F A O L) {o : Int} (h0 : 0 ≤ o) (h1 : o < N) : nF N F A o = (A o.toNat).toInt ∧ fMn N F o = (F o.toNat).toInt := by
  have w := (h o.toNat (by omega)).1
  refine ⟨?_, ?_⟩
  · unfold nF
    by_cases e : (F o.toNat).toInt = -9
    · rw [if_neg (fun z => z.2.2 e)]
      rcases w with w | w
      · exact w.2.1.symm
      · exfalso; have u := w.1; unfold PlOk at u; omega
    · rw [if_pos ⟨h0, h1, e⟩]
  · unfold fMn; rw [if_pos ⟨h0, h1⟩]
theorem Sc_r {N : Int} {Z : Int → Int} {Qf : Int → Int → Prop} {ce F A O L : Nat → Int32} (h : ScR N Z Qf ce F A O L) {o : Int} (h0 : 0 ≤ o) (h1 : o < N) (hz : Z o = 0) : nF N F A o = -9 := by
  have w := (h o.toNat (by omega)).1
  rw [show ((o.toNat : Nat) : Int) = o by omega] at w
  unfold nF
  rcases w with w | w
  · rw [if_neg (fun z => z.2.2 w.1)]
  · exfalso; exact w.1.2.2.2.2.2.1 hz
/-- what is told of an object -/
theorem Tw_e {jm : Nat → Int32} {em : Nat → Nat → Int32} {so ko pa st F A B C S pb eb fb kb cb ld dr bw im f1 f2 ce sb fc sn rc : Nat → Int32} {gl lt bx rm dd sn2 rc2 : Nat → Int32} {n th pl tu br br2 : Int32} {N kn o s r r2 : Int} (hM : mInv jm em) (hN : N ≤ 30) (eN : N = (jm 5).toInt) (hSN : SN F A B C S n pb eb fb kb cb (em 9) (em 10) (em 11) (em 12) (em 13) (jm 8)) (hr : RR F A B C pb eb fb kb) (hD : DR (zX so ko N) F A B S n.toInt N) (hRD : RDS (zX so ko N) F A B C S n.toInt.toNat ld dr bw im f1 f2) (hs : SJ (em 3) (em 6) (em 9) (em 10) (em 11) (em 13) kn (jm 5).toInt (jm 8).toInt) (hz : ∀ t : Int, 0 ≤ t → t < N → zX so ko N t = kS (em 3) (em 6) t) (ePA : pa = em 3) (eKO : ko = em 6) (est : ∀ j : Nat, j < 144 → st j = em 4 j)
    (hT : TL N (zX so ko N) (fun o f : Int => Can ((zX so ko N) o) f ∧ sgX fb C o f (sfV pa ko st (so (ko o.toNat).toNatClampNeg).toInt f o) = 1) (LkR (zX so ko N) (hF ce) (fX ce) (bT ce 0) (bT ce 5) (bT ce 2) (sD f1 f2) pl.toInt N sn rc br) th pl tu ce sb fc (jm 22) (jm 27) (em 23) (em 24) (em 25) (em 26) (em 29) (em 30) (em 31) (em 32)) (h1 : th.toInt = 1) (hK : LkK (em 3) (em 6) (jm 5).toInt lt gl bx rm dd (fun z : Int => SgM (em 9) (em 10) (em 11) (em 12) (em 13) (jm 8).toInt z 2 (sfV (em 3) (em 6) (em 4) (kS (em 3) (em 6) z) 2 z) 1) (fun z : Int => SgM (em 9) (em 10) (em 11) (em 12) (em 13) (jm 8).toInt z 5 (sfV (em 3) (em 6) (em 4) (kS (em 3) (em 6) z) 5 z) 1) (jm 5).toInt) (hL : LkR (zM (em 3) (em 6) (jm 5).toInt) (nF (jm 5).toInt (em 23) (em 24)) (fMn (jm 5).toInt (em 23)) (bM (em 25)) (bM gl) (bM lt) (sdM (zM (em 3) (em 6) (jm 5).toInt) (em 9) (em 10) (em 11) (em 13) (jm 8).toInt) (jm 22).toInt (jm 5).toInt sn2 rc2 br2) (h0 : 0 ≤ o ∧ o < N) (hx : NwR s r (fX ce o) (hF ce o) (zX so ko N o = 2 ∨ zX so ko N o = 3) (bT ce 0 o) (bT ce 1 o) (sn o.toNat).toInt (rc o.toNat).toInt (fun z => RmS (hF ce) (RmX so ko N) o z)) (hm : NwR s r2 (em 23 o.toNat).toInt (em 24 o.toNat).toInt (zM (em 3) (em 6) (jm 5).toInt o = 2 ∨ zM (em 3) (em 6) (jm 5).toInt o = 3) (bM (em 25) o) (bM (em 26) o) (sn2 o.toNat).toInt (rc2 o.toNat).toInt (fun z => RmS (nF (jm 5).toInt (em 23) (em 24)) (RmM (em 3) (em 6) (jm 5).toInt) o z)) : r = r2 := by
  have w := (Lk_a hM hN eN hSN hr hD hRD hs hz ePA eKO est hT h1 hK hL).1 o h0.1 h0.2
  have eZ := zXM hz
  obtain ⟨hAb, htu, hT⟩ := hT
  obtain ⟨_, epl, hp, hp5, hSc, _, hLk⟩ := hT.resolve_left (fun q => q.1 h1)
  have eH := Sc_h hSc hAb hN
  have eF := Sc_f hSc hAb hN
  have a := Sc_at hSc h0.1 h0.2
  have b := Sc_b hSc h0.1 h0.2
  rw [← eN] at hm
  rcases hx with ⟨s1, e1⟩ | ⟨s1, e1⟩
  · rcases hm with ⟨_, e2⟩ | ⟨s2, _⟩
    · rw [e1, e2, eH, eF, a.1, a.2, w.1, w.2, propext b.1, propext b.2.1, eZ]
    · exfalso; omega
  · rcases hm with ⟨s2, _⟩ | ⟨_, e2⟩
    · exfalso; omega
    · have eR : RmX so ko N = RmM (em 3) (em 6) N := by
        funext t
        apply propext
        unfold RmX RmM
        constructor
        · rintro ⟨x, y, d⟩; exact ⟨x, y, by rw [← hz t x y, zX_e ⟨x, y⟩]; exact d⟩
        · rintro ⟨x, y, d⟩; exact ⟨x, y, by rw [← zX_e ⟨x, y⟩, hz t x y]; exact d⟩
      have e1 : RmS (hF ce) (RmX so ko N) o r := e1
      rw [eH, eR] at e1
      have n9 : nF N (em 23) (em 24) (-9) = -9 := if_neg (by omega)
      refine RmS_u (f := nF N (em 23) (em 24)) (Rm := RmM (em 3) (em 6) N) n9 (fun t ht => Sc_r hSc ht.1 ht.2.1 ?_) e1 e2
      rw [hz t ht.1 ht.2.1]
      exact ht.2.2
theorem Nw_e {jm : Nat → Int32} {em : Nat → Nat → Int32} {so ko pa st F A B C S pb eb fb kb cb ld dr bw im f1 f2 ce sb fc sn rc : Nat → Int32} {gl lt bx rm dd sn2 rc2 : Nat → Int32} {n th pl tu br br2 r r2 : Int32} {N kn o s o2 s2 : Int} (hM : mInv jm em) (hN : N ≤ 30) (eN : N = (jm 5).toInt) (hSN : SN F A B C S n pb eb fb kb cb (em 9) (em 10) (em 11) (em 12) (em 13) (jm 8)) (hr : RR F A B C pb eb fb kb) (hD : DR (zX so ko N) F A B S n.toInt N) (hRD : RDS (zX so ko N) F A B C S n.toInt.toNat ld dr bw im f1 f2) (hs : SJ (em 3) (em 6) (em 9) (em 10) (em 11) (em 13) kn (jm 5).toInt (jm 8).toInt) (hz : ∀ t : Int, 0 ≤ t → t < N → zX so ko N t = kS (em 3) (em 6) t) (ePA : pa = em 3) (eKO : ko = em 6) (est : ∀ j : Nat, j < 144 → st j = em 4 j)
    (hT : TL N (zX so ko N) (fun o f : Int => Can ((zX so ko N) o) f ∧ sgX fb C o f (sfV pa ko st (so (ko o.toNat).toNatClampNeg).toInt f o) = 1) (LkR (zX so ko N) (hF ce) (fX ce) (bT ce 0) (bT ce 5) (bT ce 2) (sD f1 f2) pl.toInt N sn rc br) th pl tu ce sb fc (jm 22) (jm 27) (em 23) (em 24) (em 25) (em 26) (em 29) (em 30) (em 31) (em 32)) (eo : o2 = o) (es : s2 = s) (hx : (¬ (0 ≤ o ∧ o < N ∧ 0 ≤ s ∧ s ≤ 6) ∧ r.toInt = -1) ∨ ((0 ≤ o ∧ o < N ∧ 0 ≤ s ∧ s ≤ 6) ∧ ¬ th.toInt = 1 ∧ r.toInt = -5) ∨ ((0 ≤ o ∧ o < N ∧ 0 ≤ s ∧ s ≤ 6) ∧ th.toInt = 1 ∧ NwR s r.toInt (fX ce o) (hF ce o) (zX so ko N o = 2 ∨ zX so ko N o = 3) (bT ce 0 o) (bT ce 1 o) (sn o.toNat).toInt (rc o.toNat).toInt (fun z => RmS (hF ce) (RmX so ko N) o z)))
    (hm : (¬ (0 ≤ o2 ∧ o2 < (jm 5).toInt ∧ 0 ≤ s2 ∧ s2 ≤ 6) ∧ r2.toInt = -1) ∨ ((0 ≤ o2 ∧ o2 < (jm 5).toInt ∧ 0 ≤ s2 ∧ s2 ≤ 6) ∧ (jm 22).toInt = -9 ∧ r2.toInt = -5) ∨ ((0 ≤ o2 ∧ o2 < (jm 5).toInt ∧ 0 ≤ s2 ∧ s2 ≤ 6) ∧ ¬ (jm 22).toInt = -9 ∧ (LkK (em 3) (em 6) (jm 5).toInt lt gl bx rm dd (fun z : Int => SgM (em 9) (em 10) (em 11) (em 12) (em 13) (jm 8).toInt z 2 (sfV (em 3) (em 6) (em 4) (kS (em 3) (em 6) z) 2 z) 1) (fun z : Int => SgM (em 9) (em 10) (em 11) (em 12) (em 13) (jm 8).toInt z 5 (sfV (em 3) (em 6) (em 4) (kS (em 3) (em 6) z) 5 z) 1) (jm 5).toInt) ∧ (LkR (zM (em 3) (em 6) (jm 5).toInt) (nF (jm 5).toInt (em 23) (em 24)) (fMn (jm 5).toInt (em 23)) (bM (em 25)) (bM gl) (bM lt) (sdM (zM (em 3) (em 6) (jm 5).toInt) (em 9) (em 10) (em 11) (em 13) (jm 8).toInt) (jm 22).toInt (jm 5).toInt sn2 rc2 br2) ∧ NwR s2 r2.toInt (em 23 o2.toNat).toInt (em 24 o2.toNat).toInt (zM (em 3) (em 6) (jm 5).toInt o2 = 2 ∨ zM (em 3) (em 6) (jm 5).toInt o2 = 3) (bM (em 25) o2) (bM (em 26) o2) (sn2 o2.toNat).toInt (rc2 o2.toNat).toInt (fun z => RmS (nF (jm 5).toInt (em 23) (em 24)) (RmM (em 3) (em 6) (jm 5).toInt) o2 z))) : r = r2 := by
  apply Int32.toInt_inj.mp
  subst eo es
  have hi := TL_i hT
  rcases hx with ⟨a, b⟩ | ⟨a, a2, b⟩ | ⟨a, a2, b⟩
  · rcases hm with ⟨c, d⟩ | ⟨c, _⟩ | ⟨c, _⟩
    · omega
    · exfalso; omega
    · exfalso; omega
  · rcases hm with ⟨c, d⟩ | ⟨c, c2, d⟩ | ⟨c, c2, _⟩
    · exfalso; omega
    · omega
    · exfalso; omega
  · rcases hm with ⟨c, d⟩ | ⟨c, c2, d⟩ | ⟨c, c2, hK, hL, d⟩
    · exfalso; omega
    · exfalso; omega
    · exact Tw_e hM hN eN hSN hr hD hRD hs hz ePA eKO est hT a2 hK hL ⟨a.1, a.2.1⟩ b d
/-- a tale's ways up end -/
theorem TL_A {N N2 : Int} {Z : Int → Int} {Qf : Int → Int → Prop} {LK : Prop} {th pl tu : Int32} {pa ko ce sb fc : Nat → Int32} {p tu2 : Int32} {F A O L W1 W2 W3 W4 : Nat → Int32} {tn : Int} (h : TL N Z Qf LK th pl tu ce sb fc p tu2 F A O L W1 W2 W3 W4) (hJ : TJ pa ko F A W1 W2 N2 p.toInt tn) (eN : N = N2) (hN : N ≤ 30) : th.toInt = 1 → Acy (hF ce) := fun h1 => by
  subst eN
  have c := h.2.2.resolve_left (fun q => q.1 h1)
  rw [Sc_h c.2.2.2.2.1 h.1 hN]
  exact (hJ (by have := c.2.2.1; omega)).2.1.2.2.2.1
/-! turns -/
def DdR (tu : Int) (dd tr : Nat → Int32) : Prop := ∀ j : Nat, (j : Int) < tu → (dd j).toInt = (tr (3 * j)).toInt * 1024 + (tr (3 * j + 1)).toInt * 32 + (tr (3 * j + 2)).toInt ∧ 0 ≤ (tr (3 * j)).toInt ∧ 0 ≤ (tr (3 * j + 1)).toInt ∧ (tr (3 * j + 1)).toInt ≤ 31 ∧ 0 ≤ (tr (3 * j + 2)).toInt ∧ (tr (3 * j + 2)).toInt ≤ 31
theorem DdR_0 {tu : Int} {dd tr : Nat → Int32} (h : tu = 0) : DdR tu dd tr := fun j hj => by omega
theorem DdR_l {tu tu2 : Int} {dd tr : Nat → Int32} (h : DdR tu dd tr) (e : tu2 ≤ tu) : DdR tu2 dd tr := fun j hj => h j (by omega)
theorem DdR_a {dd dd2 tr tr2 : Nat → Int32} {tu tu3 tv : Int32} {v x y v2 x2 y2 N : Int} (h : DdR tu.toInt dd tr) (ht : 0 ≤ tu.toInt) (et : tu.toInt = tv.toInt) (ev : v2 = v) (ex : x2 = x) (ey : y2 = y) (hA : IsA v x y N) (hN : N ≤ 30) (h1 : DdX v x y tu dd dd2) (h2 : TrX v2 x2 y2 tv.toInt tr tr2) (e3 : tu3.toInt = tu.toInt + 1) : DdR tu3.toInt dd2 tr2 := by
  subst ev ex ey
  obtain ⟨e, a1, a2⟩ := h1
  obtain ⟨a, b, e9, b1, b2, b3, b4⟩ := h2
  unfold IsA at hA
  obtain ⟨i1, i2, i3, i4, i5⟩ := hA
  have hx : 0 ≤ iV (v2 ≤ 10) x2 0 ∧ iV (v2 ≤ 10) x2 0 ≤ 31 := by
    by_cases q : v2 ≤ 10
    · rw [iV_y q]
      by_cases q0 : v2 = 0
      · have := i3 q0; omega
      · have := i4 (by omega); omega
    · rw [iV_n q]; omega
  have hy : 0 ≤ iV (hyQ v2) y2 0 ∧ iV (hyQ v2) y2 0 ≤ 31 := by
    by_cases q : hyQ v2
    · rw [iV_y q]; have := i5 q; omega
    · rw [iV_n q]; omega
  have et2 : tu.toNatClampNeg = tu.toInt.toNat := rfl
  intro j hj
  rw [a2, b4]
  by_cases q : (j : Int) = tu.toInt
  · rw [show j = tu.toNatClampNeg by omega, pk_us, a1]
    rw [pk_un (show ¬ 3 * tu.toNatClampNeg = (3 * tv.toInt + 2).toNat by omega), pk_un (show ¬ 3 * tu.toNatClampNeg = (3 * tv.toInt + 1).toNat by omega), show 3 * tu.toNatClampNeg = (3 * tv.toInt).toNat by omega, pk_us]
    rw [show (3 * tv.toInt).toNat + 1 = (3 * tv.toInt + 1).toNat by omega, pk_un (show ¬ (3 * tv.toInt + 1).toNat = (3 * tv.toInt + 2).toNat by omega), pk_us]
    rw [show (3 * tv.toInt).toNat + 2 = (3 * tv.toInt + 2).toNat by omega, pk_us]
    rw [b1, b2, b3]
    unfold ddV
    omega
  · rw [pk_un (show ¬ j = tu.toNatClampNeg by omega)]
    rw [pk_un (show ¬ 3 * j = (3 * tv.toInt + 2).toNat by omega), pk_un (show ¬ 3 * j = (3 * tv.toInt + 1).toNat by omega), pk_un (show ¬ 3 * j = (3 * tv.toInt).toNat by omega)]
    rw [pk_un (show ¬ 3 * j + 1 = (3 * tv.toInt + 2).toNat by omega), pk_un (show ¬ 3 * j + 1 = (3 * tv.toInt + 1).toNat by omega), pk_un (show ¬ 3 * j + 1 = (3 * tv.toInt).toNat by omega)]
    rw [pk_un (show ¬ 3 * j + 2 = (3 * tv.toInt + 2).toNat by omega), pk_un (show ¬ 3 * j + 2 = (3 * tv.toInt + 1).toNat by omega), pk_un (show ¬ 3 * j + 2 = (3 * tv.toInt).toNat by omega)]
    exact h j (by omega)
theorem Tu_e {th tu p tu2 r r2 : Int32} {dd tr : Nat → Int32} {w s w2 s2 : Int} (hi : ((th.toInt = 1 ∧ ¬ p.toInt = -9) ∨ (¬ th.toInt = 1 ∧ p.toInt = -9)) ∧ tu.toInt = tu2.toInt) (hD : DdR tu.toInt dd tr) (ew : w2 = w) (es : s2 = s)
    (hx : (¬ (0 ≤ s ∧ s ≤ 2 ∧ 0 ≤ w) ∧ r.toInt = -1) ∨ ((0 ≤ s ∧ s ≤ 2 ∧ 0 ≤ w) ∧ ¬ th.toInt = 1 ∧ r.toInt = -5) ∨ ((0 ≤ s ∧ s ≤ 2 ∧ 0 ≤ w) ∧ th.toInt = 1 ∧ tu.toInt ≤ w ∧ r.toInt = -1) ∨ ((0 ≤ s ∧ s ≤ 2 ∧ 0 ≤ w) ∧ th.toInt = 1 ∧ w < tu.toInt ∧ r.toInt = dpV s (dd w.toNat).toInt))
    (hm : (¬ (0 ≤ s2 ∧ s2 ≤ 2 ∧ 0 ≤ w2) ∧ r2.toInt = -1) ∨ ((0 ≤ s2 ∧ s2 ≤ 2 ∧ 0 ≤ w2) ∧ p.toInt = -9 ∧ r2.toInt = -5) ∨ ((0 ≤ s2 ∧ s2 ≤ 2 ∧ 0 ≤ w2) ∧ ¬ p.toInt = -9 ∧ tu2.toInt ≤ w2 ∧ r2.toInt = -1) ∨ ((0 ≤ s2 ∧ s2 ≤ 2 ∧ 0 ≤ w2) ∧ ¬ p.toInt = -9 ∧ w2 < tu2.toInt ∧ r2.toInt = (tr (3 * w2 + s2).toNat).toInt)) : r = r2 := by
  apply Int32.toInt_inj.mp
  subst ew es
  rcases hx with ⟨a, b⟩ | ⟨a, a2, b⟩ | ⟨a, a2, a3, b⟩ | ⟨a, a2, a3, b⟩
  · rcases hm with h | h | h | h
    · omega
    all_goals (exfalso; omega)
  · rcases hm with h | h | h | h
    · exfalso; omega
    · omega
    all_goals (exfalso; omega)
  · rcases hm with h | h | h | h
    · exfalso; omega
    · exfalso; omega
    · omega
    · exfalso; omega
  · rcases hm with h | h | h | ⟨h1, h2, h3, h4⟩
    · exfalso; omega
    · exfalso; omega
    · exfalso; omega
    · have d := hD w2.toNat (by omega)
      rw [b, h4]
      unfold dpV
      by_cases q0 : s2 = 0
      · rw [if_pos q0, show (3 * w2 + s2).toNat = 3 * w2.toNat by omega]; omega
      · rw [if_neg q0]
        by_cases q1 : s2 = 1
        · rw [if_pos q1, show (3 * w2 + s2).toNat = 3 * w2.toNat + 1 by omega]; omega
        · rw [if_neg q1, show (3 * w2 + s2).toNat = 3 * w2.toNat + 2 by omega]; omega
