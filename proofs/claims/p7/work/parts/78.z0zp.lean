/-! what is told last, and the items of lines -/
def QbR (r : Int) (Q q v : Int64) : Prop := (r = 1 ∧ Q = v) ∨ (¬ r = 1 ∧ Q = q)
def mB (z : Int) (a b : Int32) : Int32 := if z = 2 then a else b
theorem mB_of {z : Int} {a b r : Int32} (h0 : ¬ z = 2 → r = b) (h1 : z = 2 → r = a) : r = mB z a b := by
  unfold mB
  by_cases q : z = 2
  · rw [if_pos q]; exact h1 q
  · rw [if_neg q]; exact h0 q
def shQ (b a : Int32) : Int64 := 1000 * b.toInt64 / a.toInt64
def shL (b : Int32) (a : Int64) : Int64 := 1000 * b.toInt64 / a
def flV (b : Int32) : Int32 := if 2139095040 < (b &&& 2147483647).toInt then 2143289344 else b
def cutV (s : Int) (v : Int64) : Int64 := if s = 0 then v.toInt32.toInt8.toInt32.toInt64 else if s = 1 then v.toInt32.toInt64 else if s = 2 then (flV v.toInt32).toInt64 else v
theorem flV_y {b y : Int32} (e : y = b &&& 2147483647) (h : 2139095040 < y.toInt) : (2143289344 : Int32) = flV b := by
  unfold flV; rw [if_pos (by rw [← e]; exact h)]
theorem flV_n {b y : Int32} (e : y = b &&& 2147483647) (h : ¬ 2139095040 < y.toInt) : b = flV b := by
  unfold flV; rw [if_neg (by rw [← e]; exact h)]
theorem cut_0 {s : Int} {v : Int64} {x y : Int32} (h : s = 0) (e1 : x = v.toInt32) (e2 : y = x.toInt8.toInt32) : y.toInt64 = cutV s v := by
  unfold cutV; rw [if_pos h, e2, e1]
theorem cut_1 {s : Int} {v : Int64} {x : Int32} (h : s = 1) (e1 : x = v.toInt32) : x.toInt64 = cutV s v := by
  unfold cutV; rw [if_neg (by omega), if_pos h, e1]
theorem cut_2 {s : Int} {v : Int64} {x y : Int32} (h : s = 2) (e1 : x = v.toInt32) (e2 : y = flV x) : y.toInt64 = cutV s v := by
  unfold cutV; rw [if_neg (by omega), if_neg (by omega), if_pos h, e2, e1]
theorem cut_3 {s : Int} {v : Int64} (h0 : ¬ s = 0) (h1 : ¬ s = 1) (h2 : ¬ s = 2) : v = cutV s v := by
  unfold cutV; rw [if_neg h0, if_neg h1, if_neg h2]
def PuR (r : Int) (D d : Nat → Int64) (k : Nat) (v : Int64) : Prop := (r = 1 ∧ D = vp_updL d k v) ∨ (¬ r = 1 ∧ D = d)
def LzK (f g : Nat → Int64) (w k : Int) : Prop := ∀ j : Nat, g j = if 12 * w ≤ (j : Int) ∧ (j : Int) < 12 * w + k then 0 else f j
theorem LzK_0 {f : Nat → Int64} {w : Int} : LzK f f w 0 := fun j => by rw [if_neg (by omega)]
theorem LzK_s {f g : Nat → Int64} {w : Int} {x y z : Int32} {v : Int64} (h : LzK f g w x.toInt) (h0 : 0 ≤ w) (hx : 0 ≤ x.toInt) (ey : y.toInt = x.toInt + 1) (ez : z.toInt = 12 * w + x.toInt) (hv : v = 0) : LzK f (vp_updL g z.toNatClampNeg v) w y.toInt := by
  intro j
  have e : z.toNatClampNeg = z.toInt.toNat := rfl
  by_cases q : j = z.toNatClampNeg
  · rw [show vp_updL g z.toNatClampNeg v j = v from if_pos q, if_pos (by omega), hv]
  · rw [show vp_updL g z.toNatClampNeg v j = g j from if_neg q, h j]
    by_cases p : 12 * w ≤ (j : Int) ∧ (j : Int) < 12 * w + x.toInt
    · rw [if_pos p, if_pos (by omega)]
    · rw [if_neg p, if_neg (by omega)]
def LzR (B : Prop) (f g : Nat → Int64) (w : Int) : Prop := (B ∧ g = f) ∨ (¬ B ∧ LzK f g w 12)
def cpF (f : Nat → Int64) (sp dp n : Nat) : Nat → Int64 := fun k => if dp ≤ k ∧ k < dp + n then f (sp + (k - dp)) else f k
def CpR (r : Int) (D d : Nat → Int64) (sp dp n : Nat) : Prop := (r = 1 ∧ D = cpF d sp dp n) ∨ (¬ r = 1 ∧ D = d)
def HeK (f g : Nat → Int64) (sp : Nat) (k : Int) : Prop := ∀ j : Nat, (j : Int) < k → g j = f (sp + j)
theorem HeK_s {f g : Nat → Int64} {sp : Nat} {x y z u : Int32} {v : Int64} (h : HeK f g sp x.toInt) (hx : 0 ≤ x.toInt) (ey : y.toInt = x.toInt + 1) (ez : z.toInt = x.toInt) (eu : u.toInt.toNat = sp + x.toInt.toNat) (hv : v = f u.toNatClampNeg) : HeK f (vp_updL g z.toNatClampNeg v) sp y.toInt := by
  intro j hj
  have e : z.toNatClampNeg = z.toInt.toNat := rfl
  by_cases q : j = z.toNatClampNeg
  · rw [show vp_updL g z.toNatClampNeg v j = v from if_pos q, hv, show u.toNatClampNeg = sp + j from by have e2 : u.toNatClampNeg = u.toInt.toNat := rfl; omega]
  · rw [show vp_updL g z.toNatClampNeg v j = g j from if_neg q]; exact h j (by omega)
def CpK (f g : Nat → Int64) (sp dp : Nat) (k : Int) : Prop := ∀ j : Nat, g j = if dp ≤ j ∧ (j : Int) < (dp : Int) + k then f (sp + (j - dp)) else f j
theorem CpK_0 {f : Nat → Int64} {sp dp : Nat} : CpK f f sp dp 0 := fun j => by rw [if_neg (by omega)]
theorem CpK_s {f g hd : Nat → Int64} {sp dp : Nat} {n : Int} {x y z u : Int32} {v : Int64} (h : CpK f g sp dp x.toInt) (hh : HeK f hd sp n) (hn : x.toInt < n) (hx : 0 ≤ x.toInt) (ey : y.toInt = x.toInt + 1) (ez : z.toInt.toNat = dp + x.toInt.toNat) (eu : u.toInt = x.toInt) (hv : v = hd u.toNatClampNeg) : CpK f (vp_updL g z.toNatClampNeg v) sp dp y.toInt := by
  intro j
  have e : z.toNatClampNeg = z.toInt.toNat := rfl
  have e2 : u.toNatClampNeg = u.toInt.toNat := rfl
  by_cases q : j = z.toNatClampNeg
  · rw [show vp_updL g z.toNatClampNeg v j = v from if_pos q, if_pos (by omega), hv, hh u.toNatClampNeg (by omega), show sp + u.toNatClampNeg = sp + (j - dp) from by omega]
  · rw [show vp_updL g z.toNatClampNeg v j = g j from if_neg q, h j]
    by_cases p : dp ≤ j ∧ (j : Int) < (dp : Int) + x.toInt
    · rw [if_pos p, if_pos (by omega)]
    · rw [if_neg p, if_neg (by omega)]
theorem CpK_e {f g : Nat → Int64} {sp dp : Nat} {k : Int} (h : CpK f g sp dp k) (hk : 0 ≤ k) : g = cpF f sp dp k.toNat := by
  funext j
  rw [h j]
  unfold cpF
  by_cases p : dp ≤ j ∧ (j : Int) < (dp : Int) + k
  · rw [if_pos p, if_pos (by omega)]
  · rw [if_neg p, if_neg (by omega)]

def wm_X6_lies_eBP : List Cond := .code yX6_lies cX6_lies 4 (some .boolean) :: (([.fieldLink RX6 9 "TalePlay$Scene" "cells" "[I"] : List Cond) ++ wsX60)
set_option maxHeartbeats 4000000 in
set_option maxRecDepth 100000 in
theorem x_X6_lies_eBP (l : Launch) (D : va_G) (sz : Nat) (sk : Value) (a : Nat → Nat) (t : Nat → ClassId) (i : Nat → Int32) (q : Int64) (c : Nat → Nat → Int32) (d : Nat → Nat → Int64) (w : Int32) (f : Int32) (w2 : Int32) (hI : xInv i c) (hw : 0 ≤ w.toInt ∧ w.toInt ≤ 29) (hf : 0 ≤ f.toInt ∧ f.toInt ≤ 7) (hw2 : 0 ≤ w2.toInt ∧ w2.toInt ≤ 31) : Met l yX6_lies wm_X6_lies_eBP ({ frames := 0, cells := 0, slots := 0, locals := 0 }) (va_Pc [.ref (a 126), .int w, .int f, .int w2] (yA (a 186) D sz (xwP0 sk a t i q c d) (xtP0 t))) (va_Qi (fun (r : Int32) (_ : Unit) => ((0 ≤ r.toInt ∧ r.toInt ≤ 1) ∧ (Sm r ((c 127 w.toInt.toNat).toInt % 256 = w2.toInt * 8 + f.toInt)))) oA (ro sz)) 0 0 (ro sz) := by
  refine Met.ofW (cc := cX6_lies) (maxL := 4) (ret := (some .boolean)) (by decide +kernel) rfl ?_
  intro p e s m args below meth cd s₁ B hml hv
  obtain ⟨rfl, ⟨hsz, hP, hK⟩, hN, hZ⟩ := hv
  have hx := B.exec
  have hb := B.bytes
  have hr := B.returns
  have hts := atoms_spec (ws := wm_X6_lies_eBP) B.pre
  have hown : s.vm.findClass RX6 = some m.cls := findClass_of_methodNamed B.named
  have hlocks := B.notSynchronized
  subst hsz
  have hA : ∀ q : Nat, s.heap.size ≤ q → ro s.heap.size q := fun _ h => h
  have hS : va_S (ro s.heap.size) s.heap s.heap [] := va_S.rf
  have hl := lv_entry ([.ref (a 126), .int w, .int f, .int w2]) (n := 4) (Nat.le_of_ble_eq_true rfl)
  rw [lg_entry_eq]
  generalize (lg_sl ([.ref (a 126), .int w, .int f, .int w2]) ++ List.replicate (4 - (lg_sl ([.ref (a 126), .int w, .int f, .int w2])).length) Slot.unset).toArray = ls at hl ⊢
  have hl : lv_has ls 4 [(0, .ref (a 126)), (1, .int w), (2, .int f), (3, .int w2)] := hl
  refine lv_aload_n hx hb dX6_lies_0 rfl (lv_at hl 0 rfl) ?_
  refine xgP0_BP_cells hx hb hts (fun _ h => List.mem_cons_of_mem _ (List.mem_append_right _ h)) hown hK hP (hts (.fieldLink RX6 9 "TalePlay$Scene" "cells" "[I") (List.mem_cons_of_mem _ (List.mem_append_left _ (List.mem_of_getElem? (i := 0) rfl)))) dX6_lies_1 ?_
  refine lv_iload_n hx hb dX6_lies_4 rfl (lv_at hl 1 rfl) ?_
  refine xlP0_127 hx hb hK hP (vp_in_iff.mpr (by have h9 : w.toInt = w.toInt := rfl; omega)) dX6_lies_5 (fun x1 ex1 => ?_)
  have rx1 : 0 ≤ x1.toInt ∧ x1.toInt ≤ 16383 ∧ (x1.toInt % 256 = 255 ∨ (x1.toInt % 8 ≤ 4 ∧ x1.toInt / 8 % 32 ≤ 29)) := by rw [ex1]; exact hI.2 127 _
  have gx1 : (c 127 (w : Int32).toNatClampNeg).toInt = x1.toInt := (congrArg Int32.toInt ex1).symm
  refine lv_sipush (v := 255) hx hb dX6_lies_6 (by decide +kernel) ?_
  refine lv_iand hx hb dX6_lies_9 ?_
  refine lv_topi (fun x2 ex2 => ?_)
  have bx2 := and255 (by omega) ex2
  refine lv_iload_n hx hb dX6_lies_10 rfl (lv_at hl 3 rfl) ?_
  refine lv_iconst (v := 3) hx hb dX6_lies_11 (by decide +kernel) ?_
  refine lv_ishl hx hb dX6_lies_12 ?_
  refine lv_topi (fun x3 ex3 => ?_)
  refine lv_iload_n hx hb dX6_lies_13 rfl (lv_at hl 2 rfl) ?_
  refine lv_ior hx hb dX6_lies_14 ?_
  refine lv_topi (fun x4 ex4 => ?_)
  have bx4 := lies_c (h := w2) (f := f) (by omega) (by omega) ex3 ex4
  refine lv_icmp_ne (tgt := 22) hx hb dX6_lies_15 (by decide +kernel) (fun c5 => ?_) (fun c5 => ?_)
  · have f5 := mt (ti_eq (a := (x1.toInt % 256)) (b := (w2.toInt * 8 + f.toInt)) bx2 bx4).mpr c5
    refine lv_iconst (v := 0) hx hb dX6_lies_22 (by decide +kernel) ?_
    exact ro_zret hx hb hr hlocks hS rfl dX6_lies_23 ⟨(show 0 ≤ (0 : Int32).toInt ∧ (0 : Int32).toInt ≤ 1 from by have h9 : (0 : Int32).toInt = 0 := (by decide +kernel); omega), (show Sm (0 : Int32) ((c 127 w.toInt.toNat).toInt % 256 = w2.toInt * 8 + f.toInt) from sm_0 (by have h9 : (c 127 w.toInt.toNat).toInt = x1.toInt := gx1; omega))⟩
  · have f5 := (ti_eq (a := (x1.toInt % 256)) (b := (w2.toInt * 8 + f.toInt)) bx2 bx4).mp c5
    refine lv_iconst (v := 1) hx hb dX6_lies_18 (by decide +kernel) ?_
    refine lv_goto (tgt := 23) hx hb dX6_lies_19 (by decide +kernel) ?_
    exact ro_zret hx hb hr hlocks hS rfl dX6_lies_23 ⟨(show 0 ≤ (1 : Int32).toInt ∧ (1 : Int32).toInt ≤ 1 from by have h9 : (1 : Int32).toInt = 1 := (by decide +kernel); omega), (show Sm (1 : Int32) ((c 127 w.toInt.toNat).toInt % 256 = w2.toInt * 8 + f.toInt) from sm_1 (by have h9 : (c 127 w.toInt.toNat).toInt = x1.toInt := gx1; omega))⟩

