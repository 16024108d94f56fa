/-! tales: looking around, and what acts need -/
def Cc (pa ko bx rm dr : Nat → Int32) (N : Int) : Prop := ∀ x : Int, 0 ≤ x → x < N → ((rm x.toNat).toInt = 0 → ¬ Kd pa ko x 0) ∧ ((bx x.toNat).toInt = 1 → Kd pa ko x 3) ∧ ((dr x.toNat).toInt = 1 → Kd pa ko x 2)
theorem Cc_0 {pa ko bx rm dr : Nat → Int32} {x : Int32} (h : x.toInt = 0) : Cc pa ko bx rm dr x.toInt := fun y a b => by omega
theorem sm_0f {r : Int32} {P : Prop} (h : Sm r P) (c : r.toInt = 0) : ¬ P := by
  rcases h with h | h
  · omega
  · exact h.2
theorem Cc_a {pa ko bx rm dr : Nat → Int32} {x y rb rr rd : Int32} (h : Cc pa ko bx rm dr x.toInt) (h0 : 0 ≤ x.toInt) (hy : y.toInt = x.toInt + 1) (s3 : Sm rb (Kd pa ko x.toInt 3)) (s0 : Sm rr (Kd pa ko x.toInt 0)) (s2 : Sm rd (Kd pa ko x.toInt 2)) : Cc pa ko (upd bx x.toNatClampNeg rb) (upd rm x.toNatClampNeg rr) (upd dr x.toNatClampNeg rd) y.toInt := by
  show Cc pa ko (upd bx x.toInt.toNat rb) (upd rm x.toInt.toNat rr) (upd dr x.toInt.toNat rd) y.toInt
  intro w a b
  by_cases e : w = x.toInt
  · rw [e, pk_us, pk_us, pk_us]
    exact ⟨fun q => sm_0f s0 q, fun q => sm_1t s3 q, fun q => sm_1t s2 q⟩
  · have z : ¬ w.toNat = x.toInt.toNat := by omega
    rw [pk_un z, pk_un z, pk_un z]
    exact h w a (by omega)
theorem T_st {N : Int} {F A : Nat → Int32} (hT2 : ∀ x : Int, 0 ≤ x → x < N → ¬ (F x.toNat).toInt = -9 → 0 ≤ (A x.toNat).toInt ∧ (A x.toNat).toInt < N) {y xf xa : Int32} (h : 0 ≤ y.toInt ∧ y.toInt < N) (ef : xf = F y.toNatClampNeg) (hf : ¬ xf.toInt = -9) (ea : xa = A y.toNatClampNeg) : nF N F A y.toInt = xa.toInt ∧ 0 ≤ xa.toInt ∧ xa.toInt < N := by
  refine ⟨nF_at h ef hf ea, ?_⟩
  have h9 : 0 ≤ (A y.toNatClampNeg).toInt ∧ (A y.toNatClampNeg).toInt < N := hT2 y.toInt h.1 h.2 (by rw [ef] at hf; exact hf)
  rw [← ea] at h9
  exact h9
theorem nF_ne {N : Int} {F A : Nat → Int32} {x : Int} (h : ¬ nF N F A x = -9) : 0 ≤ x ∧ x < N ∧ ¬ (F x.toNat).toInt = -9 := by
  unfold nF at h
  by_cases q : 0 ≤ x ∧ x < N ∧ ¬ (F x.toNat).toInt = -9
  · exact q
  · rw [if_neg q] at h; exact absurd rfl h
/-- what is reached lies on a way that meets the player's, or is a door, or is the player -/
def RQ (re dr : Nat → Int32) (f : Int → Int) (p M : Int) : Prop := ∀ x : Int, 0 ≤ x → x < M → (re x.toNat).toInt = 1 → x = p ∨ (dr x.toNat).toInt = 1 ∨ ∃ h, 0 ≤ h ∧ Ch f x h ∧ Ch f p h
theorem RQ_0 {re dr : Nat → Int32} {f : Int → Int} {p : Int} {x : Int32} (h : x.toInt = 0) : RQ re dr f p x.toInt := fun y a b => by omega
theorem RQ_a {re dr : Nat → Int32} {f : Int → Int} {p : Int} {x y z : Int32} {h : Int} (hR : RQ re dr f p x.toInt) (h0 : 0 ≤ x.toInt) (hy : y.toInt = x.toInt + 1) (hz : z.toInt = 1 → x.toInt = p ∨ (dr x.toNatClampNeg).toInt = 1 ∨ Ch f x.toInt h) (hh : 0 ≤ h ∧ Ch f p h) : RQ (upd re x.toNatClampNeg z) dr f p y.toInt := by
  show RQ (upd re x.toInt.toNat z) dr f p y.toInt
  intro w a b q
  by_cases e : w = x.toInt
  · rw [e, pk_us] at q
    rcases hz q with k | k | k
    · exact Or.inl (by rw [e]; exact k)
    · exact Or.inr (Or.inl (by rw [e]; exact k))
    · exact Or.inr (Or.inr ⟨h, hh.1, by rw [e]; exact k, hh.2⟩)
  · rw [pk_un (show ¬ w.toNat = x.toInt.toNat by omega)] at q
    exact hR w a (by omega) q
/-- what an act needs, so that it can be done -/
def AC (pa ko fo le mi ri sa F A re : Nat → Int32) (n N p v x y : Int) : Prop :=
  (v = 0 → ∃ w, LdR pa ko fo le mi ri sa n (A p.toNat).toInt x w ∧ ¬ w = -9)
  ∧ (v = 1 → ¬ x = p ∧ ¬ Ch (nF N F A) (nF N F A p) x ∧ Kd pa ko x 1)
  ∧ (v = 2 ∨ v = 3 ∨ v = 4 ∨ v = 9 → (F x.toNat).toInt = 2 ∧ (A x.toNat).toInt = p)
  ∧ (v = 3 ∨ v = 4 → ¬ x = y ∧ ¬ Ch (nF N F A) (nF N F A y) x)
  ∧ (v = 10 → (Kd pa ko x 3 ∨ Kd pa ko x 4) ∧ ¬ Ch (nF N F A) (nF N F A x) p ∧ (re x.toNat).toInt = 1)
  ∧ (v = 11 → ¬ (F (A p.toNat).toInt.toNat).toInt = -9)
section AT
variable {N : Int} {pa ko : Nat → Int32} {p : Int} {F A : Nat → Int32}
/-- taken: into the player's hand -/
theorem TI_take {x f w : Int32} (hN : N ≤ 30) (h6 : K6 pa) (h : TI N (fun z => Kd pa ko z 0) p F A) (hx : 0 ≤ x.toInt ∧ x.toInt < N) (hk : Kd pa ko x.toInt 1) (hn : ¬ x.toInt = p) (hc : ¬ Ch (nF N F A) (nF N F A p) x.toInt) (hf : ¬ f.toInt = -9) (hw : w.toInt = p) : TI N (fun z => Kd pa ko z 0) p (upd F x.toNatClampNeg f) (upd A x.toNatClampNeg w) := by
  have e : ((x.toNatClampNeg : Nat) : Int) = x.toInt := cl_nn hx.1
  have hp := h.1
  have hc2 : ¬ Ch (nF N F A) p x.toInt := fun q => hc ((Ch_nx (fun z => hn z.symm)).mp q)
  obtain ⟨r, r0, r1, r2, r3⟩ := h.2.2.2.2
  refine TI_lay hN h (by rw [e]; exact hx.2) (by rw [e]; exact Kd_10 h6 hk) hf (by rw [hw]; exact ⟨hp.1, hp.2.1⟩) (by rw [e, hw]; exact hc2) ⟨r, r0, r1, r2, ?_⟩
  rw [e]
  exact Ch_rp hc2 r3
/-- what the player holds goes elsewhere -/
theorem TI_held {x f w : Int32} (hN : N ≤ 30) (h : TI N (fun z => Kd pa ko z 0) p F A) (hx : 0 ≤ x.toInt ∧ x.toInt < N) (hF : ¬ (F x.toNatClampNeg).toInt = -9) (hA : (A x.toNatClampNeg).toInt = p) (hf : ¬ f.toInt = -9) (hw : 0 ≤ w.toInt ∧ w.toInt < N) (hc : ¬ Ch (nF N F A) w.toInt x.toInt) : TI N (fun z => Kd pa ko z 0) p (upd F x.toNatClampNeg f) (upd A x.toNatClampNeg w) := by
  have e : ((x.toNatClampNeg : Nat) : Int) = x.toInt := cl_nn hx.1
  have hp := h.1
  have hsp := nF_Sp hN h.2.1
  have hxp : nF N F A x.toInt = p := by rw [← hA]; exact nF_at hx rfl hF rfl
  have hc2 := Ch_held hsp h.2.2.2.1 hp.1 (by omega) hxp (by omega)
  obtain ⟨r, r0, r1, r2, r3⟩ := h.2.2.2.2
  refine TI_lay hN h (by rw [e]; exact hx.2) (by rw [e]; exact fun q => hF (h.2.2.1 x.toInt hx.1 hx.2 q)) hf hw (by rw [e]; exact hc) ⟨r, r0, r1, r2, ?_⟩
  rw [e]
  exact Ch_rp hc2 r3
/-- the player goes to a room -/
theorem TI_go {x f w : Int32} (hN : N ≤ 30) (h : TI N (fun z => Kd pa ko z 0) p F A) (hx : x.toInt = p) (hf : ¬ f.toInt = -9) (hw : 0 ≤ w.toInt ∧ w.toInt < N) (hk : Kd pa ko w.toInt 0) : TI N (fun z => Kd pa ko z 0) p (upd F x.toNatClampNeg f) (upd A x.toNatClampNeg w) := by
  have hp := h.1
  have e : ((x.toNatClampNeg : Nat) : Int) = p := by rw [cl_nn (by omega)]; exact hx
  have hsp := nF_Sp hN h.2.1
  have hwn : nF N F A w.toInt = -9 := if_neg (fun q => q.2.2 (h.2.2.1 w.toInt hw.1 hw.2 hk))
  have hne : ¬ w.toInt = p := fun q => hp.2.2 (by rw [← q]; exact hk)
  refine TI_lay hN h (by omega) (by rw [e]; exact hp.2.2) hf hw (fun q => ?_) ⟨w.toInt, hw.1, hw.2, hk, ?_⟩
  · rw [e] at q
    have q := (Ch_nx hne).mp q
    rw [hwn] at q
    have := Ch_nd hsp.1 q
    omega
  · rw [e]
    exact Ch_up (by rw [rp_s]; exact Ch_rf)
/-- the player enters -/
theorem TI_enter {x f w : Int32} (hN : N ≤ 30) (h6 : K6 pa) (h : TI N (fun z => Kd pa ko z 0) p F A) (hx : x.toInt = p) (hf : ¬ f.toInt = -9) (hw : 0 ≤ w.toInt ∧ w.toInt < N) (hne : ¬ w.toInt = p) (hc : ¬ Ch (nF N F A) (nF N F A w.toInt) p) (hm : ∃ m, 0 ≤ m ∧ Ch (nF N F A) w.toInt m ∧ Ch (nF N F A) p m) : TI N (fun z => Kd pa ko z 0) p (upd F x.toNatClampNeg f) (upd A x.toNatClampNeg w) := by
  have hp := h.1
  have e : ((x.toNatClampNeg : Nat) : Int) = p := by rw [cl_nn (by omega)]; exact hx
  have hsp := nF_Sp hN h.2.1
  have hc2 : ¬ Ch (nF N F A) w.toInt p := fun q => hc ((Ch_nx hne).mp q)
  obtain ⟨r, r0, r1, r2, r3⟩ := h.2.2.2.2
  obtain ⟨m, m0, m1, m2⟩ := hm
  have hrn : nF N F A r = -9 := if_neg (fun q => q.2.2 (h.2.2.1 r r0 r1 r2))
  have hmr : Ch (nF N F A) m r := by
    rcases Ch_ln m2 r3 with q | q
    · exact q
    · rcases Ch_st.mp q with z | z
      · rw [z]; exact Ch_rf
      · rw [hrn] at z
        have := Ch_nd hsp.1 z
        omega
  refine TI_lay hN h (by omega) (by rw [e]; exact hp.2.2) hf hw (by rw [e]; exact hc2) ⟨r, r0, r1, r2, ?_⟩
  rw [e]
  exact Ch_up (by rw [rp_s]; exact Ch_rp hc2 (Ch_tr m1 hmr))
/-- the player leaves what is around -/
theorem TI_leave {x f w at_ : Int32} (hN : N ≤ 30) (h : TI N (fun z => Kd pa ko z 0) p F A) (hx : x.toInt = p) (ha : at_ = A x.toNatClampNeg) (hF : ¬ (F at_.toNatClampNeg).toInt = -9) (ef : f = F at_.toNatClampNeg) (ew : w = A at_.toNatClampNeg) : TI N (fun z => Kd pa ko z 0) p (upd F x.toNatClampNeg f) (upd A x.toNatClampNeg w) := by
  have hp := h.1
  have e : ((x.toNatClampNeg : Nat) : Int) = p := by rw [cl_nn (by omega)]; exact hx
  have hsp := nF_Sp hN h.2.1
  have hpl := TI_p h
  have hpF : ¬ (F x.toNatClampNeg).toInt = -9 := by show ¬ (F x.toInt.toNat).toInt = -9; rw [hx]; exact hpl
  have q1 := T_st h.2.1 (y := x) (by rw [hx]; exact ⟨hp.1, hp.2.1⟩) rfl hpF ha
  rw [hx] at q1
  have q2 := T_st h.2.1 (y := at_) ⟨q1.2.1, q1.2.2⟩ rfl hF ew
  have hno := Acy_no hsp h.2.2.2.1 hp.1 (by omega)
  have hc : ¬ Ch (nF N F A) w.toInt p := fun q => hno (by rw [q1.1]; exact Ch_up (by rw [q2.1]; exact q))
  obtain ⟨r, r0, r1, r2, r3⟩ := h.2.2.2.2
  have k1 := (Ch_nx (fun z => hp.2.2 (by rw [z]; exact r2))).mp r3
  rw [q1.1] at k1
  have k2 := (Ch_nx (fun z => hF (by have := h.2.2.1 r r0 r1 r2; rw [← z] at this; exact this))).mp k1
  rw [q2.1] at k2
  refine TI_lay hN h (by omega) (by rw [e]; exact hp.2.2) (by rw [ef]; exact hF) ⟨q2.2.1, q2.2.2⟩ (by rw [e]; exact hc) ⟨r, r0, r1, r2, ?_⟩
  rw [e]
  exact Ch_up (by rw [rp_s]; exact Ch_rp hc k2)
/-- dropped where the player is: no ring -/
theorem TI_drop {x w : Int32} (hN : N ≤ 30) (h : TI N (fun z => Kd pa ko z 0) p F A) (hx : 0 ≤ x.toInt ∧ x.toInt < N) (hF : ¬ (F x.toNatClampNeg).toInt = -9) (hA : (A x.toNatClampNeg).toInt = p) (hw : nF N F A p = w.toInt) : ¬ Ch (nF N F A) w.toInt x.toInt := by
  have hp := h.1
  have hsp := nF_Sp hN h.2.1
  have hxp : nF N F A x.toInt = p := by rw [← hA]; exact nF_at hx rfl hF rfl
  intro q
  rw [← hw] at q
  exact Acy_no hsp h.2.2.2.1 hp.1 (by omega) (Ch_tr q (Ch_up (by rw [hxp]; exact Ch_rf)))
end AT

