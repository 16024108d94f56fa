theorem WxM_g {pa ste ko sz q9 q10 q11 q12 q13 F A O L : CeT} {N n p v9 x9 y9 : Int} {r : Int32} (h : WxM pa ste ko sz q9 q10 q11 q12 q13 N n p v9 x9 y9 F A O L r) (hr : r.toInt = 0) : (v9 = 1 → ¬ zM pa ko N x9 = 2) ∧ (v9 = 2 ∨ v9 = 3 ∨ v9 = 4 ∨ v9 = 9 → fMn N F x9 = 2) := by
  obtain ⟨lt, gls, bx, rm, dd, sn, rc, br, _, _, hW⟩ := h
  rcases hW with ⟨e, _⟩ | ⟨_, e⟩
  · exact ⟨fun q => by omega, fun q => by omega⟩
  · rw [hr] at e
    have e := e.symm
    have key : ∀ b, iV (¬ Hd (nF N F A) (fMn N F) p x9) 11 b = 0 → fMn N F x9 = 2 := fun b u => (Classical.not_not.mp (iV_z u (by decide +kernel)).1).2
    unfold wyV at e
    refine ⟨fun q => ?_, fun q => ?_⟩
    · rw [if_pos q] at e
      unfold takeV at e
      have w := (iV_z (iV_z (iV_z (iV_z e (by decide +kernel)).2 (by decide +kernel)).2 (by decide +kernel)).2 (by decide +kernel)).1
      intro z
      exact w (Or.inl (fun u => by omega))
    · by_cases q2 : v9 = 2
      · rw [if_neg (show ¬ v9 = 1 by omega), if_pos q2] at e
        exact key _ e
      · by_cases q3 : v9 = 3
        · rw [if_neg (show ¬ v9 = 1 by omega), if_neg q2, if_pos q3] at e
          exact key _ e
        · by_cases q4 : v9 = 4
          · rw [if_neg (show ¬ v9 = 1 by omega), if_neg q2, if_neg q3, if_pos q4] at e
            exact key _ e
          · rw [if_neg (show ¬ v9 = 1 by omega), if_neg q2, if_neg q3, if_neg q4, if_neg (show ¬ (5 ≤ v9 ∧ v9 ≤ 8) by omega), if_pos (show v9 = 9 by omega)] at e
            unfold wearV at e
            exact key _ e
def SiM (pa ste ko sz q9 q10 q11 q12 q13 : CeT) (N n p gx gy : Int) (R : RlT) (ok : OkT) (nx : NxT) (sm : SmT) (gl : GlT) : Prop := SiH R ok nx sm gl N gx gy (fun F A => TI N (fun z => Kd pa ko z 0) p F A) (fun v x y F A O L r => WxM pa ste ko sz q9 q10 q11 q12 q13 N n p v x y F A O L r) (fun v x y F A O L F2 A2 O2 L2 => AxM pa ko q9 q10 q11 q12 q13 N n p v x y F A O L F2 A2 O2 L2)
/-- an act that may not be -/
theorem TrM_0 {pa ste ko sz q9 q10 q11 q12 q13 a b d fr ac F A O L : CeT} {N n p gx gy v x y : Int} {st r : Int32} {s : Nat} (ht : TrA N v x y) (hs : (s : Int) < st.toInt) (g1 : GB F A a b s N) (g2 : GS O L d s N) (hT : TI N (fun z => Kd pa ko z 0) p F A) (hX : WxM pa ste ko sz q9 q10 q11 q12 q13 N n p v x y F A O L r) (hr : ¬ r.toInt = 0) : SsM (SiM pa ste ko sz q9 q10 q11 q12 q13 N n p gx gy) N a b d fr ac st a b d fr ac st 0 (fun ok nx sm gl B => stB ok nx sm gl s v x y B) := fun R ok nx sm gl hS B hB hf => by
  have hS : SiH R ok nx sm gl N gx gy _ _ _ := hS
  have h1 := hB.1
  have hR := (hB.2 s (by omega)).1 _ _ _ _ g1 g2
  have ho : ¬ ok (B.1 s) v x y := fun w => hr ((hS.1 v x y ht _ _ _ _ _ _ hR hT hX).mpr w)
  show RpM R N a b d fr ac st (stB ok nx sm gl s v x y B) ∧ FdM 0 (stB ok nx sm gl s v x y B)
  rw [stB_o ho]
  exact ⟨hB, Or.inl ⟨rfl, hf⟩⟩
/-- an act whose end is a state already -/
theorem TrM_1 {pa ste ko sz q9 q10 q11 q12 q13 a b d fr ac F A O L F2 A2 O2 L2 : CeT} {N n p gx gy v x y : Int} {st r : Int32} {s : Nat} (ht : TrA N v x y) (hs : (s : Int) < st.toInt) (g1 : GB F A a b s N) (g2 : GS O L d s N) (hT : TI N (fun z => Kd pa ko z 0) p F A) (hX : WxM pa ste ko sz q9 q10 q11 q12 q13 N n p v x y F A O L r) (hr : r.toInt = 0) (hT2 : TI N (fun z => Kd pa ko z 0) p F2 A2) (hC : AxM pa ko q9 q10 q11 q12 q13 N n p v x y F A O L F2 A2 O2 L2) (hd : ∀ j, 0 ≤ (d j).toInt ∧ (d j).toInt ≤ 3) (hO : ∀ j, 0 ≤ (O2 j).toInt ∧ (O2 j).toInt ≤ 1) (hL : ∀ j, 0 ≤ (L2 j).toInt ∧ (L2 j).toInt ≤ 1) (hex : ∃ k : Nat, (k : Int) < st.toInt ∧ IsS N a b d k F2 A2 O2 L2) : SsM (SiM pa ste ko sz q9 q10 q11 q12 q13 N n p gx gy) N a b d fr ac st a b d fr ac st 0 (fun ok nx sm gl B => stB ok nx sm gl s v x y B) := fun R ok nx sm gl hS B hB hf => by
  have hS : SiH R ok nx sm gl N gx gy _ _ _ := hS
  have h1 := hB.1
  have hR := (hB.2 s (by omega)).1 _ _ _ _ g1 g2
  have ho : ok (B.1 s) v x y := (hS.1 v x y ht _ _ _ _ _ _ hR hT hX).mp hr
  have hz := hS.2.1 v x y ht _ _ _ _ _ _ _ _ _ hR hT hT2 ho hC
  have hm := (SmB_M hS hB hz hd hO hL).mpr hex
  show RpM R N a b d fr ac st (stB ok nx sm gl s v x y B) ∧ FdM 0 (stB ok nx sm gl s v x y B)
  rw [show stB ok nx sm gl s v x y B = B from pI_y (Or.inr (Or.inr hm))]
  exact ⟨hB, Or.inl ⟨rfl, hf⟩⟩
/-- an act with a new end -/
theorem TrM_2 {pa ste ko sz q9 q10 q11 q12 q13 a b d fr ac F A O L F2 A2 O2 L2 a2 b2 d2 : CeT} {N n p gx gy v x y g : Int} {st st2 r sp i0 i1 i2 iv ix iy : Int32} {s : Nat} (ht : TrA N v x y) (hs : (s : Int) < st.toInt) (g1 : GB F A a b s N) (g2 : GS O L d s N) (hT : TI N (fun z => Kd pa ko z 0) p F A) (hX : WxM pa ste ko sz q9 q10 q11 q12 q13 N n p v x y F A O L r) (hr : r.toInt = 0) (hT2 : TI N (fun z => Kd pa ko z 0) p F2 A2) (hC : AxM pa ko q9 q10 q11 q12 q13 N n p v x y F A O L F2 A2 O2 L2) (hd : ∀ j, 0 ≤ (d j).toInt ∧ (d j).toInt ≤ 3) (hO : ∀ j, 0 ≤ (O2 j).toInt ∧ (O2 j).toInt ≤ 1) (hL : ∀ j, 0 ≤ (L2 j).toInt ∧ (L2 j).toInt ≤ 1) (hne : ¬ ∃ k : Nat, (k : Int) < st.toInt ∧ IsS N a b d k F2 A2 O2 L2)
    (h3 : st.toInt < 300) (hN : N ≤ 30) (rw1 : RW a2 b2 a b F2 A2 st.toInt.toNat N) (rs : RS d2 d O2 L2 st.toInt.toNat N) (e2 : st2.toInt = st.toInt + 1) (es : sp.toInt = (s : Int)) (e3 : i0.toInt = 3 * st.toInt) (e4 : i1.toInt = 3 * st.toInt + 1) (e5 : i2.toInt = 3 * st.toInt + 2) (ev : iv.toInt = v) (ex : ix.toInt = x) (ey : iy.toInt = y) (hg : (g = 1 ∧ ¬ (F2 gx.toNat).toInt = -9 ∧ (A2 gx.toNat).toInt = gy) ∨ (g = 0 ∧ ¬ (¬ (F2 gx.toNat).toInt = -9 ∧ (A2 gx.toNat).toInt = gy))) :
    SsM (SiM pa ste ko sz q9 q10 q11 q12 q13 N n p gx gy) N a b d fr ac st a2 b2 d2 (upd fr st.toNatClampNeg sp) (upd (upd (upd ac i0.toNatClampNeg iv) i1.toNatClampNeg ix) i2.toNatClampNeg iy) st2 g (fun ok nx sm gl B => stB ok nx sm gl s v x y B) := fun R ok nx sm gl hS B hB hf => by
  have hS : SiH R ok nx sm gl N gx gy _ _ _ := hS
  have h1 := hB.1
  have hR := (hB.2 s (by omega)).1 _ _ _ _ g1 g2
  have ho : ok (B.1 s) v x y := (hS.1 v x y ht _ _ _ _ _ _ hR hT hX).mp hr
  have hz := hS.2.1 v x y ht _ _ _ _ _ _ _ _ _ hR hT hT2 ho hC
  have hm : ¬ SmB sm B (nx (B.1 s) v x y) := fun w => hne ((SmB_M hS hB hz hd hO hL).mp w)
  have hE : ¬ EnB B := fun w => w.elim (fun w => w hf) (fun w => by omega)
  show RpM R N a2 b2 d2 _ _ st2 (stB ok nx sm gl s v x y B) ∧ FdM g (stB ok nx sm gl s v x y B)
  rw [show stB ok nx sm gl s v x y B = kpB gl (nx (B.1 s) v x y) (s : Int) (v, x, y) B from pI_n (fun w => w.elim hE (fun w => w.elim (fun w => w ho) hm))]
  have c4 : st.toNatClampNeg = st.toInt.toNat := rfl
  have c5 : i0.toNatClampNeg = i0.toInt.toNat := rfl
  have c6 : i1.toNatClampNeg = i1.toInt.toNat := rfl
  have c7 : i2.toNatClampNeg = i2.toInt.toNat := rfl
  have hn : B.2.2.2.1 = st.toInt.toNat := by omega
  refine ⟨⟨?_, fun k hk => ⟨fun F3 A3 O3 L3 k1 k2 => ?_, fun k0 => ?_⟩⟩, ?_⟩
  · show st2.toInt = ((B.2.2.2.1 + 1 : Nat) : Int)
    omega
  · have hk : k < B.2.2.2.1 + 1 := hk
    show R (if k = B.2.2.2.1 then nx (B.1 s) v x y else B.1 k) F3 A3 O3 L3
    by_cases e : k = B.2.2.2.1
    · rw [if_pos e]
      refine hS.2.2.2.2 _ _ _ _ _ _ _ _ _ hz (fun o ho9 => ?_)
      have w1 := k1 o ho9
      have w2 := k2 o ho9
      have u1 := rw1.2 o ho9
      have u2 := rs.2 o ho9
      rw [e, hn] at w1 w2
      have x1 := hO o
      have x2 := hL o
      exact ⟨w1.1.trans u1.1, w1.2.trans u1.2, Int32.toInt_inj.mp (by omega), Int32.toInt_inj.mp (by omega)⟩
    · rw [if_neg e]
      refine (hB.2 k (by omega)).1 _ _ _ _ (fun o ho9 => ?_) (fun o ho9 => ?_)
      · have w := k1 o ho9
        have u := rw1.1 (30 * k + o) (Or.inl (by omega))
        exact ⟨w.1.trans u.1, w.2.trans u.2⟩
      · have w := k2 o ho9
        have u := rs.1 (30 * k + o) (Or.inl (by omega))
        rw [u] at w
        exact w
  · have hk : k < B.2.2.2.1 + 1 := hk
    show (upd fr st.toNatClampNeg sp k).toInt = (if k = B.2.2.2.1 then (s : Int) else B.2.1 k) ∧ (upd (upd (upd ac i0.toNatClampNeg iv) i1.toNatClampNeg ix) i2.toNatClampNeg iy (3 * k)).toInt = (if k = B.2.2.2.1 then (v, x, y) else B.2.2.1 k).1 ∧ (upd (upd (upd ac i0.toNatClampNeg iv) i1.toNatClampNeg ix) i2.toNatClampNeg iy (3 * k + 1)).toInt = (if k = B.2.2.2.1 then (v, x, y) else B.2.2.1 k).2.1 ∧ (upd (upd (upd ac i0.toNatClampNeg iv) i1.toNatClampNeg ix) i2.toNatClampNeg iy (3 * k + 2)).toInt = (if k = B.2.2.2.1 then (v, x, y) else B.2.2.1 k).2.2
    by_cases e : k = B.2.2.2.1
    · rw [if_pos e, if_pos e]
      refine ⟨?_, ?_, ?_, ?_⟩
      · rw [show k = st.toNatClampNeg by omega, pk_us]; exact es
      · rw [pk_un (show ¬ 3 * k = i2.toNatClampNeg by omega), pk_un (show ¬ 3 * k = i1.toNatClampNeg by omega), show 3 * k = i0.toNatClampNeg by omega, pk_us]; exact ev
      · rw [pk_un (show ¬ 3 * k + 1 = i2.toNatClampNeg by omega), show 3 * k + 1 = i1.toNatClampNeg by omega, pk_us]; exact ex
      · rw [show 3 * k + 2 = i2.toNatClampNeg by omega, pk_us]; exact ey
    · rw [if_neg e, if_neg e, pk_un (show ¬ k = st.toNatClampNeg by omega), pk_un (show ¬ 3 * k = i2.toNatClampNeg by omega), pk_un (show ¬ 3 * k = i1.toNatClampNeg by omega), pk_un (show ¬ 3 * k = i0.toNatClampNeg by omega), pk_un (show ¬ 3 * k + 1 = i2.toNatClampNeg by omega), pk_un (show ¬ 3 * k + 1 = i1.toNatClampNeg by omega), pk_un (show ¬ 3 * k + 1 = i0.toNatClampNeg by omega), pk_un (show ¬ 3 * k + 2 = i2.toNatClampNeg by omega), pk_un (show ¬ 3 * k + 2 = i1.toNatClampNeg by omega), pk_un (show ¬ 3 * k + 2 = i0.toNatClampNeg by omega)]
      exact (hB.2 k (by omega)).2 k0
  · have eg := hS.2.2.2.1 _ _ _ _ _ hz
    rcases hg with ⟨e, q⟩ | ⟨e, q⟩
    · refine Or.inr ⟨e, ?_, Nat.succ_pos _⟩
      show pI (gl _) (B.2.2.2.1 : Int) B.2.2.2.2 = ((B.2.2.2.1 + 1 : Nat) : Int) - 1
      rw [pI_y (eg.mpr q)]
      omega
    · refine Or.inl ⟨e, ?_⟩
      show pI (gl _) (B.2.2.2.1 : Int) B.2.2.2.2 = -9
      rw [pI_n (fun w => q (eg.mp w))]
      exact hf
/-- the search begins -/
theorem SkM_0 {pa ste ko sz q9 q10 q11 q12 q13 a b d a0 b0 d0 fr ac F A O L sr : CeT} {N n p gx gy ans sm9 : Int} {st : Int32} {m : Nat} (hm : m = 0) (rw1 : RW a b a0 b0 F A 0 N) (rs : RS d d0 O L 0 N) (e1 : st.toInt = 1) (hO : ∀ j, 0 ≤ (O j).toInt ∧ (O j).toInt ≤ 1) (hL : ∀ j, 0 ≤ (L j).toInt ∧ (L j).toInt ≤ 1) (hg : ((¬ (F gx.toNat).toInt = -9 ∧ (A gx.toNat).toInt = gy) ∧ FoM fr ac ans 0 sm9 sr) ∨ (¬ (¬ (F gx.toNat).toInt = -9 ∧ (A gx.toNat).toInt = gy) ∧ ans = -9 ∧ sm9 = -9)) : SkM (SiM pa ste ko sz q9 q10 q11 q12 q13 N n p gx gy) N F A O L a b d fr ac st m ans sm9 sr := fun R ok nx sm gl hS z hz => by
  have hS : SiH R ok nx sm gl N gx gy _ _ _ := hS
  subst hm
  show RpM R N a b d fr ac st (b0B gl z) ∧ ((ans = -9 ∧ sm9 = -9 ∧ (b0B gl z).2.2.2.2 = -9) ∨ (¬ (b0B gl z).2.2.2.2 = -9 ∧ FoM fr ac ans (b0B gl z).2.2.2.2.toNat sm9 sr))
  have eg := hS.2.2.2.1 _ _ _ _ _ hz
  have ef : (b0B gl z).2.2.2.2 = pI (gl z) 0 (-9) := rfl
  refine ⟨⟨e1, fun k hk => ?_⟩, ?_⟩
  · have hk : k < 1 := hk
    have k0 : k = 0 := by omega
    subst k0
    refine ⟨fun F3 A3 O3 L3 k1 k2 => ?_, fun w => by omega⟩
    show R z F3 A3 O3 L3
    refine hS.2.2.2.2 _ _ _ _ _ _ _ _ _ hz (fun o ho9 => ?_)
    have w1 := k1 o ho9
    have w2 := k2 o ho9
    have u1 := rw1.2 o ho9
    have u2 := rs.2 o ho9
    have x1 := hO o
    have x2 := hL o
    exact ⟨w1.1.trans u1.1, w1.2.trans u1.2, Int32.toInt_inj.mp (by omega), Int32.toInt_inj.mp (by omega)⟩
  · rcases hg with ⟨q, w⟩ | ⟨q, w⟩
    · rw [ef, pI_y (eg.mpr q)]
      exact Or.inr ⟨by decide, w⟩
    · rw [ef, pI_n (fun u => q (eg.mp u))]
      exact Or.inl ⟨w.1, w.2, rfl⟩
def NwE (N : Int) (a b d : CeT) (st : Int) (F A O L : CeT) (f : Int) : Prop := (f = 1 ∧ ¬ ∃ k : Nat, (k : Int) < st ∧ IsS N a b d k F A O L) ∨ (f = 0 ∧ ∃ k : Nat, (k : Int) < st ∧ IsS N a b d k F A O L)
theorem NwK_e {N : Int} {a b d : CeT} {st : Int} {F A O L : CeT} {f x : Int} (h : NwK N a b d st F A O L f x) (hx : st ≤ x ∨ f = 0) : NwE N a b d st F A O L f := by
  rcases h with ⟨q, w⟩ | w
  · refine Or.inl ⟨q, fun ⟨k, k1, k2⟩ => w k (by omega) k2⟩
  · exact Or.inr w
theorem NwE_1 {N : Int} {a b d : CeT} {st : Int} {F A O L : CeT} {f : Int} (h : NwE N a b d st F A O L f) (hf : ¬ f = 0) : ¬ ∃ k : Nat, (k : Int) < st ∧ IsS N a b d k F A O L := by
  rcases h with ⟨_, w⟩ | ⟨w, _⟩
  · exact w
  · exact absurd w hf
theorem NwE_0 {N : Int} {a b d : CeT} {st : Int} {F A O L : CeT} {f : Int} (h : NwE N a b d st F A O L f) (hf : f = 0) : ∃ k : Nat, (k : Int) < st ∧ IsS N a b d k F A O L := by
  rcases h with ⟨w, _⟩ | ⟨_, w⟩
  · omega
  · exact w
theorem NdS_0 {pa ko a b a0 b0 F A : CeT} {N : Int} {st : Int32} (hF : NdF pa ko F N) (hR : RW a b a0 b0 F A 0 N) (hs : st.toInt = 1) : NdS pa ko a N st.toInt := fun k hk x hx h9 => by
  have h9 : ¬ (a (30 * k + x)).toInt = -9 := h9
  have k0 : k = 0 := by omega
  subst k0
  rw [(hR.2 x hx).1] at h9
  exact hF x hx h9

