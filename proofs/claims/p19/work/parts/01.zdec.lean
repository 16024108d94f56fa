/-! one instruction, read byte by byte -/
def bL (c : ByteArray) : List Nat := c.data.toList.map UInt8.toNat
theorem u1_d {c : ByteArray} {p k j b : Nat} {l : List Nat} (h : ((bL c).drop k).take 18 = l) (hp : p = k + j) (hb : l[j]? = some b) : (Jvm.ClassFile.Reader.u1 : Jvm.ClassFile.Decoder Nat) c p = .ok (b, p + 1) := by
  subst h hp
  rw [List.getElem?_take] at hb
  by_cases q18 : j < 18
  case neg => rw [if_neg q18] at hb; cases hb
  rw [if_pos q18, List.getElem?_drop] at hb
  unfold bL at hb
  rw [List.getElem?_map] at hb
  obtain ⟨x, hx, hxb⟩ : ∃ x, c.data.toList[k + j]? = some x ∧ x.toNat = b := by
    cases hq : c.data.toList[k + j]? with
    | none => rw [hq] at hb; cases hb
    | some x => rw [hq] at hb; exact ⟨x, rfl, Option.some.inj hb⟩
  have hl : k + j < c.data.toList.length := by
    by_cases q : k + j < c.data.toList.length
    · exact q
    · rw [List.getElem?_eq_none (by omega)] at hx; cases hx
  have hs : k + j < c.size := by
    show k + j < c.data.size
    rw [← Array.length_toList]
    exact hl
  rw [List.getElem?_eq_getElem hl] at hx
  have hx := Option.some.inj hx
  have e : (Jvm.ClassFile.Reader.u1 : Jvm.ClassFile.Decoder Nat) c (k + j) = .ok ((c[k + j]'hs).toNat, k + j + 1) := by
    unfold Jvm.ClassFile.Reader.u1
    show (dite (k + j < c.size) (fun h => (do set (k + j + 1); pure (c[k + j]'h).toNat : Jvm.ClassFile.Decoder Nat)) (fun _ => throw (Jvm.ClassFile.HasTruncated.truncated (k + j)))) c (k + j) = _
    rw [dif_pos hs]
    rfl
  have e2 : (c[k + j]'hs) = x := by
    rw [← hx]
    rfl
  rw [e, e2, hxb]
theorem u1_0 {c : ByteArray} {p k b0 : Nat} {r : List Nat} (h : ((bL c).drop k).take 18 = b0 :: r) (hp : p = k + 0) : (Jvm.ClassFile.Reader.u1 : Jvm.ClassFile.Decoder Nat) c p = .ok (b0, p + 1) := u1_d h hp rfl
theorem u1_1 {c : ByteArray} {p k b0 b1 : Nat} {r : List Nat} (h : ((bL c).drop k).take 18 = b0 :: b1 :: r) (hp : p = k + 1) : (Jvm.ClassFile.Reader.u1 : Jvm.ClassFile.Decoder Nat) c p = .ok (b1, p + 1) := u1_d h hp rfl
theorem u1_2 {c : ByteArray} {p k b0 b1 b2 : Nat} {r : List Nat} (h : ((bL c).drop k).take 18 = b0 :: b1 :: b2 :: r) (hp : p = k + 2) : (Jvm.ClassFile.Reader.u1 : Jvm.ClassFile.Decoder Nat) c p = .ok (b2, p + 1) := u1_d h hp rfl
theorem u1_3 {c : ByteArray} {p k b0 b1 b2 b3 : Nat} {r : List Nat} (h : ((bL c).drop k).take 18 = b0 :: b1 :: b2 :: b3 :: r) (hp : p = k + 3) : (Jvm.ClassFile.Reader.u1 : Jvm.ClassFile.Decoder Nat) c p = .ok (b3, p + 1) := u1_d h hp rfl
theorem u1_4 {c : ByteArray} {p k b0 b1 b2 b3 b4 : Nat} {r : List Nat} (h : ((bL c).drop k).take 18 = b0 :: b1 :: b2 :: b3 :: b4 :: r) (hp : p = k + 4) : (Jvm.ClassFile.Reader.u1 : Jvm.ClassFile.Decoder Nat) c p = .ok (b4, p + 1) := u1_d h hp rfl
theorem u1_5 {c : ByteArray} {p k b0 b1 b2 b3 b4 b5 : Nat} {r : List Nat} (h : ((bL c).drop k).take 18 = b0 :: b1 :: b2 :: b3 :: b4 :: b5 :: r) (hp : p = k + 5) : (Jvm.ClassFile.Reader.u1 : Jvm.ClassFile.Decoder Nat) c p = .ok (b5, p + 1) := u1_d h hp rfl
theorem u1_6 {c : ByteArray} {p k b0 b1 b2 b3 b4 b5 b6 : Nat} {r : List Nat} (h : ((bL c).drop k).take 18 = b0 :: b1 :: b2 :: b3 :: b4 :: b5 :: b6 :: r) (hp : p = k + 6) : (Jvm.ClassFile.Reader.u1 : Jvm.ClassFile.Decoder Nat) c p = .ok (b6, p + 1) := u1_d h hp rfl
theorem u1_7 {c : ByteArray} {p k b0 b1 b2 b3 b4 b5 b6 b7 : Nat} {r : List Nat} (h : ((bL c).drop k).take 18 = b0 :: b1 :: b2 :: b3 :: b4 :: b5 :: b6 :: b7 :: r) (hp : p = k + 7) : (Jvm.ClassFile.Reader.u1 : Jvm.ClassFile.Decoder Nat) c p = .ok (b7, p + 1) := u1_d h hp rfl
theorem u1_8 {c : ByteArray} {p k b0 b1 b2 b3 b4 b5 b6 b7 b8 : Nat} {r : List Nat} (h : ((bL c).drop k).take 18 = b0 :: b1 :: b2 :: b3 :: b4 :: b5 :: b6 :: b7 :: b8 :: r) (hp : p = k + 8) : (Jvm.ClassFile.Reader.u1 : Jvm.ClassFile.Decoder Nat) c p = .ok (b8, p + 1) := u1_d h hp rfl
theorem u1_9 {c : ByteArray} {p k b0 b1 b2 b3 b4 b5 b6 b7 b8 b9 : Nat} {r : List Nat} (h : ((bL c).drop k).take 18 = b0 :: b1 :: b2 :: b3 :: b4 :: b5 :: b6 :: b7 :: b8 :: b9 :: r) (hp : p = k + 9) : (Jvm.ClassFile.Reader.u1 : Jvm.ClassFile.Decoder Nat) c p = .ok (b9, p + 1) := u1_d h hp rfl
theorem u1_10 {c : ByteArray} {p k b0 b1 b2 b3 b4 b5 b6 b7 b8 b9 b10 : Nat} {r : List Nat} (h : ((bL c).drop k).take 18 = b0 :: b1 :: b2 :: b3 :: b4 :: b5 :: b6 :: b7 :: b8 :: b9 :: b10 :: r) (hp : p = k + 10) : (Jvm.ClassFile.Reader.u1 : Jvm.ClassFile.Decoder Nat) c p = .ok (b10, p + 1) := u1_d h hp rfl
theorem u1_11 {c : ByteArray} {p k b0 b1 b2 b3 b4 b5 b6 b7 b8 b9 b10 b11 : Nat} {r : List Nat} (h : ((bL c).drop k).take 18 = b0 :: b1 :: b2 :: b3 :: b4 :: b5 :: b6 :: b7 :: b8 :: b9 :: b10 :: b11 :: r) (hp : p = k + 11) : (Jvm.ClassFile.Reader.u1 : Jvm.ClassFile.Decoder Nat) c p = .ok (b11, p + 1) := u1_d h hp rfl
theorem u1_12 {c : ByteArray} {p k b0 b1 b2 b3 b4 b5 b6 b7 b8 b9 b10 b11 b12 : Nat} {r : List Nat} (h : ((bL c).drop k).take 18 = b0 :: b1 :: b2 :: b3 :: b4 :: b5 :: b6 :: b7 :: b8 :: b9 :: b10 :: b11 :: b12 :: r) (hp : p = k + 12) : (Jvm.ClassFile.Reader.u1 : Jvm.ClassFile.Decoder Nat) c p = .ok (b12, p + 1) := u1_d h hp rfl
theorem u1_13 {c : ByteArray} {p k b0 b1 b2 b3 b4 b5 b6 b7 b8 b9 b10 b11 b12 b13 : Nat} {r : List Nat} (h : ((bL c).drop k).take 18 = b0 :: b1 :: b2 :: b3 :: b4 :: b5 :: b6 :: b7 :: b8 :: b9 :: b10 :: b11 :: b12 :: b13 :: r) (hp : p = k + 13) : (Jvm.ClassFile.Reader.u1 : Jvm.ClassFile.Decoder Nat) c p = .ok (b13, p + 1) := u1_d h hp rfl
theorem u1_14 {c : ByteArray} {p k b0 b1 b2 b3 b4 b5 b6 b7 b8 b9 b10 b11 b12 b13 b14 : Nat} {r : List Nat} (h : ((bL c).drop k).take 18 = b0 :: b1 :: b2 :: b3 :: b4 :: b5 :: b6 :: b7 :: b8 :: b9 :: b10 :: b11 :: b12 :: b13 :: b14 :: r) (hp : p = k + 14) : (Jvm.ClassFile.Reader.u1 : Jvm.ClassFile.Decoder Nat) c p = .ok (b14, p + 1) := u1_d h hp rfl
theorem u1_15 {c : ByteArray} {p k b0 b1 b2 b3 b4 b5 b6 b7 b8 b9 b10 b11 b12 b13 b14 b15 : Nat} {r : List Nat} (h : ((bL c).drop k).take 18 = b0 :: b1 :: b2 :: b3 :: b4 :: b5 :: b6 :: b7 :: b8 :: b9 :: b10 :: b11 :: b12 :: b13 :: b14 :: b15 :: r) (hp : p = k + 15) : (Jvm.ClassFile.Reader.u1 : Jvm.ClassFile.Decoder Nat) c p = .ok (b15, p + 1) := u1_d h hp rfl
theorem u1_16 {c : ByteArray} {p k b0 b1 b2 b3 b4 b5 b6 b7 b8 b9 b10 b11 b12 b13 b14 b15 b16 : Nat} {r : List Nat} (h : ((bL c).drop k).take 18 = b0 :: b1 :: b2 :: b3 :: b4 :: b5 :: b6 :: b7 :: b8 :: b9 :: b10 :: b11 :: b12 :: b13 :: b14 :: b15 :: b16 :: r) (hp : p = k + 16) : (Jvm.ClassFile.Reader.u1 : Jvm.ClassFile.Decoder Nat) c p = .ok (b16, p + 1) := u1_d h hp rfl
theorem u1_17 {c : ByteArray} {p k b0 b1 b2 b3 b4 b5 b6 b7 b8 b9 b10 b11 b12 b13 b14 b15 b16 b17 : Nat} {r : List Nat} (h : ((bL c).drop k).take 18 = b0 :: b1 :: b2 :: b3 :: b4 :: b5 :: b6 :: b7 :: b8 :: b9 :: b10 :: b11 :: b12 :: b13 :: b14 :: b15 :: b16 :: b17 :: r) (hp : p = k + 17) : (Jvm.ClassFile.Reader.u1 : Jvm.ClassFile.Decoder Nat) c p = .ok (b17, p + 1) := u1_d h hp rfl
theorem bk_ok {α β : Type} {x : α} {g : α → Except Jvm.ClassFile.DecodeError β} : Except.bind (.ok x) g = g x := rfl
theorem s1_d {c : ByteArray} {s t b : Nat} {v : Int} (e : (Jvm.ClassFile.Reader.u1 : Jvm.ClassFile.Decoder Nat) c s = .ok (b, t)) (hv : Jvm.ClassFile.Reader.signed 8 b = v) : (Jvm.ClassFile.Reader.s1 : Jvm.ClassFile.Decoder Int) c s = .ok (v, t) := by
  subst hv
  show Except.bind ((Jvm.ClassFile.Reader.u1 : Jvm.ClassFile.Decoder Nat) c s) _ = _
  rw [e]
  rfl
theorem u2_d {c : ByteArray} {s t u a b v : Nat} (e : (Jvm.ClassFile.Reader.u1 : Jvm.ClassFile.Decoder Nat) c s = .ok (a, t)) (e2 : (Jvm.ClassFile.Reader.u1 : Jvm.ClassFile.Decoder Nat) c t = .ok (b, u)) (hv : a * 256 + b = v) : (Jvm.ClassFile.Reader.u2 : Jvm.ClassFile.Decoder Nat) c s = .ok (v, u) := by
  subst hv
  show Except.bind ((Jvm.ClassFile.Reader.u1 : Jvm.ClassFile.Decoder Nat) c s) _ = _
  rw [e, bk_ok]
  show Except.bind ((Jvm.ClassFile.Reader.u1 : Jvm.ClassFile.Decoder Nat) c t) _ = _
  rw [e2]
  rfl
theorem s2_d {c : ByteArray} {s u a : Nat} {v : Int} (e : (Jvm.ClassFile.Reader.u2 : Jvm.ClassFile.Decoder Nat) c s = .ok (a, u)) (hv : Jvm.ClassFile.Reader.signed 16 a = v) : (Jvm.ClassFile.Reader.s2 : Jvm.ClassFile.Decoder Int) c s = .ok (v, u) := by
  subst hv
  show Except.bind ((Jvm.ClassFile.Reader.u2 : Jvm.ClassFile.Decoder Nat) c s) _ = _
  rw [e]
  rfl
theorem o_1 {c : ByteArray} {p s n : Nat} (e : (Jvm.ClassFile.Reader.u1 : Jvm.ClassFile.Decoder Nat) c p = .ok (1, s)) (hn : s - p = n) : decode c p = .ok (.aconst_null, n) := by
  subst hn
  show Except.bind (Except.bind ((Jvm.ClassFile.Reader.u1 : Jvm.ClassFile.Decoder Nat) c p) _) _ = _
  rw [e]
  rfl
theorem o_2 {c : ByteArray} {p s n : Nat} (e : (Jvm.ClassFile.Reader.u1 : Jvm.ClassFile.Decoder Nat) c p = .ok (2, s)) (hn : s - p = n) : decode c p = .ok (.iconst (-1), n) := by
  subst hn
  show Except.bind (Except.bind ((Jvm.ClassFile.Reader.u1 : Jvm.ClassFile.Decoder Nat) c p) _) _ = _
  rw [e]
  rfl
theorem o_3 {c : ByteArray} {p s n : Nat} (e : (Jvm.ClassFile.Reader.u1 : Jvm.ClassFile.Decoder Nat) c p = .ok (3, s)) (hn : s - p = n) : decode c p = .ok (.iconst 0, n) := by
  subst hn
  show Except.bind (Except.bind ((Jvm.ClassFile.Reader.u1 : Jvm.ClassFile.Decoder Nat) c p) _) _ = _
  rw [e]
  rfl
theorem o_4 {c : ByteArray} {p s n : Nat} (e : (Jvm.ClassFile.Reader.u1 : Jvm.ClassFile.Decoder Nat) c p = .ok (4, s)) (hn : s - p = n) : decode c p = .ok (.iconst 1, n) := by
  subst hn
  show Except.bind (Except.bind ((Jvm.ClassFile.Reader.u1 : Jvm.ClassFile.Decoder Nat) c p) _) _ = _
  rw [e]
  rfl
theorem o_5 {c : ByteArray} {p s n : Nat} (e : (Jvm.ClassFile.Reader.u1 : Jvm.ClassFile.Decoder Nat) c p = .ok (5, s)) (hn : s - p = n) : decode c p = .ok (.iconst 2, n) := by
  subst hn
  show Except.bind (Except.bind ((Jvm.ClassFile.Reader.u1 : Jvm.ClassFile.Decoder Nat) c p) _) _ = _
  rw [e]
  rfl
theorem o_6 {c : ByteArray} {p s n : Nat} (e : (Jvm.ClassFile.Reader.u1 : Jvm.ClassFile.Decoder Nat) c p = .ok (6, s)) (hn : s - p = n) : decode c p = .ok (.iconst 3, n) := by
  subst hn
  show Except.bind (Except.bind ((Jvm.ClassFile.Reader.u1 : Jvm.ClassFile.Decoder Nat) c p) _) _ = _
  rw [e]
  rfl
theorem o_7 {c : ByteArray} {p s n : Nat} (e : (Jvm.ClassFile.Reader.u1 : Jvm.ClassFile.Decoder Nat) c p = .ok (7, s)) (hn : s - p = n) : decode c p = .ok (.iconst 4, n) := by
  subst hn
  show Except.bind (Except.bind ((Jvm.ClassFile.Reader.u1 : Jvm.ClassFile.Decoder Nat) c p) _) _ = _
  rw [e]
  rfl
theorem o_8 {c : ByteArray} {p s n : Nat} (e : (Jvm.ClassFile.Reader.u1 : Jvm.ClassFile.Decoder Nat) c p = .ok (8, s)) (hn : s - p = n) : decode c p = .ok (.iconst 5, n) := by
  subst hn
  show Except.bind (Except.bind ((Jvm.ClassFile.Reader.u1 : Jvm.ClassFile.Decoder Nat) c p) _) _ = _
  rw [e]
  rfl
theorem o_9 {c : ByteArray} {p s n : Nat} (e : (Jvm.ClassFile.Reader.u1 : Jvm.ClassFile.Decoder Nat) c p = .ok (9, s)) (hn : s - p = n) : decode c p = .ok (.lconst 0, n) := by
  subst hn
  show Except.bind (Except.bind ((Jvm.ClassFile.Reader.u1 : Jvm.ClassFile.Decoder Nat) c p) _) _ = _
  rw [e]
  rfl
theorem o_10 {c : ByteArray} {p s n : Nat} (e : (Jvm.ClassFile.Reader.u1 : Jvm.ClassFile.Decoder Nat) c p = .ok (10, s)) (hn : s - p = n) : decode c p = .ok (.lconst 1, n) := by
  subst hn
  show Except.bind (Except.bind ((Jvm.ClassFile.Reader.u1 : Jvm.ClassFile.Decoder Nat) c p) _) _ = _
  rw [e]
  rfl
theorem o_26 {c : ByteArray} {p s n : Nat} (e : (Jvm.ClassFile.Reader.u1 : Jvm.ClassFile.Decoder Nat) c p = .ok (26, s)) (hn : s - p = n) : decode c p = .ok (.iload_n 0, n) := by
  subst hn
  show Except.bind (Except.bind ((Jvm.ClassFile.Reader.u1 : Jvm.ClassFile.Decoder Nat) c p) _) _ = _
  rw [e]
  rfl
theorem o_27 {c : ByteArray} {p s n : Nat} (e : (Jvm.ClassFile.Reader.u1 : Jvm.ClassFile.Decoder Nat) c p = .ok (27, s)) (hn : s - p = n) : decode c p = .ok (.iload_n 1, n) := by
  subst hn
  show Except.bind (Except.bind ((Jvm.ClassFile.Reader.u1 : Jvm.ClassFile.Decoder Nat) c p) _) _ = _
  rw [e]
  rfl
theorem o_28 {c : ByteArray} {p s n : Nat} (e : (Jvm.ClassFile.Reader.u1 : Jvm.ClassFile.Decoder Nat) c p = .ok (28, s)) (hn : s - p = n) : decode c p = .ok (.iload_n 2, n) := by
  subst hn
  show Except.bind (Except.bind ((Jvm.ClassFile.Reader.u1 : Jvm.ClassFile.Decoder Nat) c p) _) _ = _
  rw [e]
  rfl
theorem o_29 {c : ByteArray} {p s n : Nat} (e : (Jvm.ClassFile.Reader.u1 : Jvm.ClassFile.Decoder Nat) c p = .ok (29, s)) (hn : s - p = n) : decode c p = .ok (.iload_n 3, n) := by
  subst hn
  show Except.bind (Except.bind ((Jvm.ClassFile.Reader.u1 : Jvm.ClassFile.Decoder Nat) c p) _) _ = _
  rw [e]
  rfl
theorem o_30 {c : ByteArray} {p s n : Nat} (e : (Jvm.ClassFile.Reader.u1 : Jvm.ClassFile.Decoder Nat) c p = .ok (30, s)) (hn : s - p = n) : decode c p = .ok (.lload_n 0, n) := by
  subst hn
  show Except.bind (Except.bind ((Jvm.ClassFile.Reader.u1 : Jvm.ClassFile.Decoder Nat) c p) _) _ = _
  rw [e]
  rfl
theorem o_31 {c : ByteArray} {p s n : Nat} (e : (Jvm.ClassFile.Reader.u1 : Jvm.ClassFile.Decoder Nat) c p = .ok (31, s)) (hn : s - p = n) : decode c p = .ok (.lload_n 1, n) := by
  subst hn
  show Except.bind (Except.bind ((Jvm.ClassFile.Reader.u1 : Jvm.ClassFile.Decoder Nat) c p) _) _ = _
  rw [e]
  rfl
theorem o_32 {c : ByteArray} {p s n : Nat} (e : (Jvm.ClassFile.Reader.u1 : Jvm.ClassFile.Decoder Nat) c p = .ok (32, s)) (hn : s - p = n) : decode c p = .ok (.lload_n 2, n) := by
  subst hn
  show Except.bind (Except.bind ((Jvm.ClassFile.Reader.u1 : Jvm.ClassFile.Decoder Nat) c p) _) _ = _
  rw [e]
  rfl
theorem o_33 {c : ByteArray} {p s n : Nat} (e : (Jvm.ClassFile.Reader.u1 : Jvm.ClassFile.Decoder Nat) c p = .ok (33, s)) (hn : s - p = n) : decode c p = .ok (.lload_n 3, n) := by
  subst hn
  show Except.bind (Except.bind ((Jvm.ClassFile.Reader.u1 : Jvm.ClassFile.Decoder Nat) c p) _) _ = _
  rw [e]
  rfl
theorem o_42 {c : ByteArray} {p s n : Nat} (e : (Jvm.ClassFile.Reader.u1 : Jvm.ClassFile.Decoder Nat) c p = .ok (42, s)) (hn : s - p = n) : decode c p = .ok (.aload_n 0, n) := by
  subst hn
  show Except.bind (Except.bind ((Jvm.ClassFile.Reader.u1 : Jvm.ClassFile.Decoder Nat) c p) _) _ = _
  rw [e]
  rfl
theorem o_43 {c : ByteArray} {p s n : Nat} (e : (Jvm.ClassFile.Reader.u1 : Jvm.ClassFile.Decoder Nat) c p = .ok (43, s)) (hn : s - p = n) : decode c p = .ok (.aload_n 1, n) := by
  subst hn
  show Except.bind (Except.bind ((Jvm.ClassFile.Reader.u1 : Jvm.ClassFile.Decoder Nat) c p) _) _ = _
  rw [e]
  rfl
theorem o_44 {c : ByteArray} {p s n : Nat} (e : (Jvm.ClassFile.Reader.u1 : Jvm.ClassFile.Decoder Nat) c p = .ok (44, s)) (hn : s - p = n) : decode c p = .ok (.aload_n 2, n) := by
  subst hn
  show Except.bind (Except.bind ((Jvm.ClassFile.Reader.u1 : Jvm.ClassFile.Decoder Nat) c p) _) _ = _
  rw [e]
  rfl
theorem o_45 {c : ByteArray} {p s n : Nat} (e : (Jvm.ClassFile.Reader.u1 : Jvm.ClassFile.Decoder Nat) c p = .ok (45, s)) (hn : s - p = n) : decode c p = .ok (.aload_n 3, n) := by
  subst hn
  show Except.bind (Except.bind ((Jvm.ClassFile.Reader.u1 : Jvm.ClassFile.Decoder Nat) c p) _) _ = _
  rw [e]
  rfl
theorem o_46 {c : ByteArray} {p s n : Nat} (e : (Jvm.ClassFile.Reader.u1 : Jvm.ClassFile.Decoder Nat) c p = .ok (46, s)) (hn : s - p = n) : decode c p = .ok (.iaload, n) := by
  subst hn
  show Except.bind (Except.bind ((Jvm.ClassFile.Reader.u1 : Jvm.ClassFile.Decoder Nat) c p) _) _ = _
  rw [e]
  rfl
theorem o_47 {c : ByteArray} {p s n : Nat} (e : (Jvm.ClassFile.Reader.u1 : Jvm.ClassFile.Decoder Nat) c p = .ok (47, s)) (hn : s - p = n) : decode c p = .ok (.laload, n) := by
  subst hn
  show Except.bind (Except.bind ((Jvm.ClassFile.Reader.u1 : Jvm.ClassFile.Decoder Nat) c p) _) _ = _
  rw [e]
  rfl
theorem o_51 {c : ByteArray} {p s n : Nat} (e : (Jvm.ClassFile.Reader.u1 : Jvm.ClassFile.Decoder Nat) c p = .ok (51, s)) (hn : s - p = n) : decode c p = .ok (.baload, n) := by
  subst hn
  show Except.bind (Except.bind ((Jvm.ClassFile.Reader.u1 : Jvm.ClassFile.Decoder Nat) c p) _) _ = _
  rw [e]
  rfl
theorem o_60 {c : ByteArray} {p s n : Nat} (e : (Jvm.ClassFile.Reader.u1 : Jvm.ClassFile.Decoder Nat) c p = .ok (60, s)) (hn : s - p = n) : decode c p = .ok (.istore_n 1, n) := by
  subst hn
  show Except.bind (Except.bind ((Jvm.ClassFile.Reader.u1 : Jvm.ClassFile.Decoder Nat) c p) _) _ = _
  rw [e]
  rfl
theorem o_61 {c : ByteArray} {p s n : Nat} (e : (Jvm.ClassFile.Reader.u1 : Jvm.ClassFile.Decoder Nat) c p = .ok (61, s)) (hn : s - p = n) : decode c p = .ok (.istore_n 2, n) := by
  subst hn
  show Except.bind (Except.bind ((Jvm.ClassFile.Reader.u1 : Jvm.ClassFile.Decoder Nat) c p) _) _ = _
  rw [e]
  rfl
theorem o_62 {c : ByteArray} {p s n : Nat} (e : (Jvm.ClassFile.Reader.u1 : Jvm.ClassFile.Decoder Nat) c p = .ok (62, s)) (hn : s - p = n) : decode c p = .ok (.istore_n 3, n) := by
  subst hn
  show Except.bind (Except.bind ((Jvm.ClassFile.Reader.u1 : Jvm.ClassFile.Decoder Nat) c p) _) _ = _
  rw [e]
  rfl
theorem o_64 {c : ByteArray} {p s n : Nat} (e : (Jvm.ClassFile.Reader.u1 : Jvm.ClassFile.Decoder Nat) c p = .ok (64, s)) (hn : s - p = n) : decode c p = .ok (.lstore_n 1, n) := by
  subst hn
  show Except.bind (Except.bind ((Jvm.ClassFile.Reader.u1 : Jvm.ClassFile.Decoder Nat) c p) _) _ = _
  rw [e]
  rfl
theorem o_66 {c : ByteArray} {p s n : Nat} (e : (Jvm.ClassFile.Reader.u1 : Jvm.ClassFile.Decoder Nat) c p = .ok (66, s)) (hn : s - p = n) : decode c p = .ok (.lstore_n 3, n) := by
  subst hn
  show Except.bind (Except.bind ((Jvm.ClassFile.Reader.u1 : Jvm.ClassFile.Decoder Nat) c p) _) _ = _
  rw [e]
  rfl
theorem o_76 {c : ByteArray} {p s n : Nat} (e : (Jvm.ClassFile.Reader.u1 : Jvm.ClassFile.Decoder Nat) c p = .ok (76, s)) (hn : s - p = n) : decode c p = .ok (.astore_n 1, n) := by
  subst hn
  show Except.bind (Except.bind ((Jvm.ClassFile.Reader.u1 : Jvm.ClassFile.Decoder Nat) c p) _) _ = _
  rw [e]
  rfl
theorem o_77 {c : ByteArray} {p s n : Nat} (e : (Jvm.ClassFile.Reader.u1 : Jvm.ClassFile.Decoder Nat) c p = .ok (77, s)) (hn : s - p = n) : decode c p = .ok (.astore_n 2, n) := by
  subst hn
  show Except.bind (Except.bind ((Jvm.ClassFile.Reader.u1 : Jvm.ClassFile.Decoder Nat) c p) _) _ = _
  rw [e]
  rfl
theorem o_79 {c : ByteArray} {p s n : Nat} (e : (Jvm.ClassFile.Reader.u1 : Jvm.ClassFile.Decoder Nat) c p = .ok (79, s)) (hn : s - p = n) : decode c p = .ok (.iastore, n) := by
  subst hn
  show Except.bind (Except.bind ((Jvm.ClassFile.Reader.u1 : Jvm.ClassFile.Decoder Nat) c p) _) _ = _
  rw [e]
  rfl
theorem o_80 {c : ByteArray} {p s n : Nat} (e : (Jvm.ClassFile.Reader.u1 : Jvm.ClassFile.Decoder Nat) c p = .ok (80, s)) (hn : s - p = n) : decode c p = .ok (.lastore, n) := by
  subst hn
  show Except.bind (Except.bind ((Jvm.ClassFile.Reader.u1 : Jvm.ClassFile.Decoder Nat) c p) _) _ = _
  rw [e]
  rfl
theorem o_84 {c : ByteArray} {p s n : Nat} (e : (Jvm.ClassFile.Reader.u1 : Jvm.ClassFile.Decoder Nat) c p = .ok (84, s)) (hn : s - p = n) : decode c p = .ok (.bastore, n) := by
  subst hn
  show Except.bind (Except.bind ((Jvm.ClassFile.Reader.u1 : Jvm.ClassFile.Decoder Nat) c p) _) _ = _
  rw [e]
  rfl
theorem o_87 {c : ByteArray} {p s n : Nat} (e : (Jvm.ClassFile.Reader.u1 : Jvm.ClassFile.Decoder Nat) c p = .ok (87, s)) (hn : s - p = n) : decode c p = .ok (.pop, n) := by
  subst hn
  show Except.bind (Except.bind ((Jvm.ClassFile.Reader.u1 : Jvm.ClassFile.Decoder Nat) c p) _) _ = _
  rw [e]
  rfl
theorem o_88 {c : ByteArray} {p s n : Nat} (e : (Jvm.ClassFile.Reader.u1 : Jvm.ClassFile.Decoder Nat) c p = .ok (88, s)) (hn : s - p = n) : decode c p = .ok (.pop2, n) := by
  subst hn
  show Except.bind (Except.bind ((Jvm.ClassFile.Reader.u1 : Jvm.ClassFile.Decoder Nat) c p) _) _ = _
  rw [e]
  rfl
theorem o_89 {c : ByteArray} {p s n : Nat} (e : (Jvm.ClassFile.Reader.u1 : Jvm.ClassFile.Decoder Nat) c p = .ok (89, s)) (hn : s - p = n) : decode c p = .ok (.dup, n) := by
  subst hn
  show Except.bind (Except.bind ((Jvm.ClassFile.Reader.u1 : Jvm.ClassFile.Decoder Nat) c p) _) _ = _
  rw [e]
  rfl
theorem o_90 {c : ByteArray} {p s n : Nat} (e : (Jvm.ClassFile.Reader.u1 : Jvm.ClassFile.Decoder Nat) c p = .ok (90, s)) (hn : s - p = n) : decode c p = .ok (.dup_x1, n) := by
  subst hn
  show Except.bind (Except.bind ((Jvm.ClassFile.Reader.u1 : Jvm.ClassFile.Decoder Nat) c p) _) _ = _
  rw [e]
  rfl
theorem o_92 {c : ByteArray} {p s n : Nat} (e : (Jvm.ClassFile.Reader.u1 : Jvm.ClassFile.Decoder Nat) c p = .ok (92, s)) (hn : s - p = n) : decode c p = .ok (.dup2, n) := by
  subst hn
  show Except.bind (Except.bind ((Jvm.ClassFile.Reader.u1 : Jvm.ClassFile.Decoder Nat) c p) _) _ = _
  rw [e]
  rfl
theorem o_96 {c : ByteArray} {p s n : Nat} (e : (Jvm.ClassFile.Reader.u1 : Jvm.ClassFile.Decoder Nat) c p = .ok (96, s)) (hn : s - p = n) : decode c p = .ok (.iadd, n) := by
  subst hn
  show Except.bind (Except.bind ((Jvm.ClassFile.Reader.u1 : Jvm.ClassFile.Decoder Nat) c p) _) _ = _
  rw [e]
  rfl
theorem o_97 {c : ByteArray} {p s n : Nat} (e : (Jvm.ClassFile.Reader.u1 : Jvm.ClassFile.Decoder Nat) c p = .ok (97, s)) (hn : s - p = n) : decode c p = .ok (.ladd, n) := by
  subst hn
  show Except.bind (Except.bind ((Jvm.ClassFile.Reader.u1 : Jvm.ClassFile.Decoder Nat) c p) _) _ = _
  rw [e]
  rfl
theorem o_100 {c : ByteArray} {p s n : Nat} (e : (Jvm.ClassFile.Reader.u1 : Jvm.ClassFile.Decoder Nat) c p = .ok (100, s)) (hn : s - p = n) : decode c p = .ok (.isub, n) := by
  subst hn
  show Except.bind (Except.bind ((Jvm.ClassFile.Reader.u1 : Jvm.ClassFile.Decoder Nat) c p) _) _ = _
  rw [e]
  rfl
theorem o_104 {c : ByteArray} {p s n : Nat} (e : (Jvm.ClassFile.Reader.u1 : Jvm.ClassFile.Decoder Nat) c p = .ok (104, s)) (hn : s - p = n) : decode c p = .ok (.imul, n) := by
  subst hn
  show Except.bind (Except.bind ((Jvm.ClassFile.Reader.u1 : Jvm.ClassFile.Decoder Nat) c p) _) _ = _
  rw [e]
  rfl
theorem o_105 {c : ByteArray} {p s n : Nat} (e : (Jvm.ClassFile.Reader.u1 : Jvm.ClassFile.Decoder Nat) c p = .ok (105, s)) (hn : s - p = n) : decode c p = .ok (.lmul, n) := by
  subst hn
  show Except.bind (Except.bind ((Jvm.ClassFile.Reader.u1 : Jvm.ClassFile.Decoder Nat) c p) _) _ = _
  rw [e]
  rfl
theorem o_108 {c : ByteArray} {p s n : Nat} (e : (Jvm.ClassFile.Reader.u1 : Jvm.ClassFile.Decoder Nat) c p = .ok (108, s)) (hn : s - p = n) : decode c p = .ok (.idiv, n) := by
  subst hn
  show Except.bind (Except.bind ((Jvm.ClassFile.Reader.u1 : Jvm.ClassFile.Decoder Nat) c p) _) _ = _
  rw [e]
  rfl
theorem o_109 {c : ByteArray} {p s n : Nat} (e : (Jvm.ClassFile.Reader.u1 : Jvm.ClassFile.Decoder Nat) c p = .ok (109, s)) (hn : s - p = n) : decode c p = .ok (.ldiv, n) := by
  subst hn
  show Except.bind (Except.bind ((Jvm.ClassFile.Reader.u1 : Jvm.ClassFile.Decoder Nat) c p) _) _ = _
  rw [e]
  rfl
theorem o_112 {c : ByteArray} {p s n : Nat} (e : (Jvm.ClassFile.Reader.u1 : Jvm.ClassFile.Decoder Nat) c p = .ok (112, s)) (hn : s - p = n) : decode c p = .ok (.irem, n) := by
  subst hn
  show Except.bind (Except.bind ((Jvm.ClassFile.Reader.u1 : Jvm.ClassFile.Decoder Nat) c p) _) _ = _
  rw [e]
  rfl
theorem o_120 {c : ByteArray} {p s n : Nat} (e : (Jvm.ClassFile.Reader.u1 : Jvm.ClassFile.Decoder Nat) c p = .ok (120, s)) (hn : s - p = n) : decode c p = .ok (.ishl, n) := by
  subst hn
  show Except.bind (Except.bind ((Jvm.ClassFile.Reader.u1 : Jvm.ClassFile.Decoder Nat) c p) _) _ = _
  rw [e]
  rfl
theorem o_121 {c : ByteArray} {p s n : Nat} (e : (Jvm.ClassFile.Reader.u1 : Jvm.ClassFile.Decoder Nat) c p = .ok (121, s)) (hn : s - p = n) : decode c p = .ok (.lshl, n) := by
  subst hn
  show Except.bind (Except.bind ((Jvm.ClassFile.Reader.u1 : Jvm.ClassFile.Decoder Nat) c p) _) _ = _
  rw [e]
  rfl
theorem o_122 {c : ByteArray} {p s n : Nat} (e : (Jvm.ClassFile.Reader.u1 : Jvm.ClassFile.Decoder Nat) c p = .ok (122, s)) (hn : s - p = n) : decode c p = .ok (.ishr, n) := by
  subst hn
  show Except.bind (Except.bind ((Jvm.ClassFile.Reader.u1 : Jvm.ClassFile.Decoder Nat) c p) _) _ = _
  rw [e]
  rfl
theorem o_124 {c : ByteArray} {p s n : Nat} (e : (Jvm.ClassFile.Reader.u1 : Jvm.ClassFile.Decoder Nat) c p = .ok (124, s)) (hn : s - p = n) : decode c p = .ok (.iushr, n) := by
  subst hn
  show Except.bind (Except.bind ((Jvm.ClassFile.Reader.u1 : Jvm.ClassFile.Decoder Nat) c p) _) _ = _
  rw [e]
  rfl
theorem o_126 {c : ByteArray} {p s n : Nat} (e : (Jvm.ClassFile.Reader.u1 : Jvm.ClassFile.Decoder Nat) c p = .ok (126, s)) (hn : s - p = n) : decode c p = .ok (.iand, n) := by
  subst hn
  show Except.bind (Except.bind ((Jvm.ClassFile.Reader.u1 : Jvm.ClassFile.Decoder Nat) c p) _) _ = _
  rw [e]
  rfl
theorem o_127 {c : ByteArray} {p s n : Nat} (e : (Jvm.ClassFile.Reader.u1 : Jvm.ClassFile.Decoder Nat) c p = .ok (127, s)) (hn : s - p = n) : decode c p = .ok (.land, n) := by
  subst hn
  show Except.bind (Except.bind ((Jvm.ClassFile.Reader.u1 : Jvm.ClassFile.Decoder Nat) c p) _) _ = _
  rw [e]
  rfl
theorem o_128 {c : ByteArray} {p s n : Nat} (e : (Jvm.ClassFile.Reader.u1 : Jvm.ClassFile.Decoder Nat) c p = .ok (128, s)) (hn : s - p = n) : decode c p = .ok (.ior, n) := by
  subst hn
  show Except.bind (Except.bind ((Jvm.ClassFile.Reader.u1 : Jvm.ClassFile.Decoder Nat) c p) _) _ = _
  rw [e]
  rfl
theorem o_129 {c : ByteArray} {p s n : Nat} (e : (Jvm.ClassFile.Reader.u1 : Jvm.ClassFile.Decoder Nat) c p = .ok (129, s)) (hn : s - p = n) : decode c p = .ok (.lor, n) := by
  subst hn
  show Except.bind (Except.bind ((Jvm.ClassFile.Reader.u1 : Jvm.ClassFile.Decoder Nat) c p) _) _ = _
  rw [e]
  rfl
theorem o_130 {c : ByteArray} {p s n : Nat} (e : (Jvm.ClassFile.Reader.u1 : Jvm.ClassFile.Decoder Nat) c p = .ok (130, s)) (hn : s - p = n) : decode c p = .ok (.ixor, n) := by
  subst hn
  show Except.bind (Except.bind ((Jvm.ClassFile.Reader.u1 : Jvm.ClassFile.Decoder Nat) c p) _) _ = _
  rw [e]
  rfl
theorem o_133 {c : ByteArray} {p s n : Nat} (e : (Jvm.ClassFile.Reader.u1 : Jvm.ClassFile.Decoder Nat) c p = .ok (133, s)) (hn : s - p = n) : decode c p = .ok (.i2l, n) := by
  subst hn
  show Except.bind (Except.bind ((Jvm.ClassFile.Reader.u1 : Jvm.ClassFile.Decoder Nat) c p) _) _ = _
  rw [e]
  rfl
theorem o_136 {c : ByteArray} {p s n : Nat} (e : (Jvm.ClassFile.Reader.u1 : Jvm.ClassFile.Decoder Nat) c p = .ok (136, s)) (hn : s - p = n) : decode c p = .ok (.l2i, n) := by
  subst hn
  show Except.bind (Except.bind ((Jvm.ClassFile.Reader.u1 : Jvm.ClassFile.Decoder Nat) c p) _) _ = _
  rw [e]
  rfl
theorem o_145 {c : ByteArray} {p s n : Nat} (e : (Jvm.ClassFile.Reader.u1 : Jvm.ClassFile.Decoder Nat) c p = .ok (145, s)) (hn : s - p = n) : decode c p = .ok (.i2b, n) := by
  subst hn
  show Except.bind (Except.bind ((Jvm.ClassFile.Reader.u1 : Jvm.ClassFile.Decoder Nat) c p) _) _ = _
  rw [e]
  rfl
theorem o_148 {c : ByteArray} {p s n : Nat} (e : (Jvm.ClassFile.Reader.u1 : Jvm.ClassFile.Decoder Nat) c p = .ok (148, s)) (hn : s - p = n) : decode c p = .ok (.lcmp, n) := by
  subst hn
  show Except.bind (Except.bind ((Jvm.ClassFile.Reader.u1 : Jvm.ClassFile.Decoder Nat) c p) _) _ = _
  rw [e]
  rfl
theorem o_172 {c : ByteArray} {p s n : Nat} (e : (Jvm.ClassFile.Reader.u1 : Jvm.ClassFile.Decoder Nat) c p = .ok (172, s)) (hn : s - p = n) : decode c p = .ok (.ireturn, n) := by
  subst hn
  show Except.bind (Except.bind ((Jvm.ClassFile.Reader.u1 : Jvm.ClassFile.Decoder Nat) c p) _) _ = _
  rw [e]
  rfl
theorem o_173 {c : ByteArray} {p s n : Nat} (e : (Jvm.ClassFile.Reader.u1 : Jvm.ClassFile.Decoder Nat) c p = .ok (173, s)) (hn : s - p = n) : decode c p = .ok (.lreturn, n) := by
  subst hn
  show Except.bind (Except.bind ((Jvm.ClassFile.Reader.u1 : Jvm.ClassFile.Decoder Nat) c p) _) _ = _
  rw [e]
  rfl
theorem o_176 {c : ByteArray} {p s n : Nat} (e : (Jvm.ClassFile.Reader.u1 : Jvm.ClassFile.Decoder Nat) c p = .ok (176, s)) (hn : s - p = n) : decode c p = .ok (.areturn, n) := by
  subst hn
  show Except.bind (Except.bind ((Jvm.ClassFile.Reader.u1 : Jvm.ClassFile.Decoder Nat) c p) _) _ = _
  rw [e]
  rfl
theorem o_177 {c : ByteArray} {p s n : Nat} (e : (Jvm.ClassFile.Reader.u1 : Jvm.ClassFile.Decoder Nat) c p = .ok (177, s)) (hn : s - p = n) : decode c p = .ok (.return_, n) := by
  subst hn
  show Except.bind (Except.bind ((Jvm.ClassFile.Reader.u1 : Jvm.ClassFile.Decoder Nat) c p) _) _ = _
  rw [e]
  rfl
theorem o_190 {c : ByteArray} {p s n : Nat} (e : (Jvm.ClassFile.Reader.u1 : Jvm.ClassFile.Decoder Nat) c p = .ok (190, s)) (hn : s - p = n) : decode c p = .ok (.arraylength, n) := by
  subst hn
  show Except.bind (Except.bind ((Jvm.ClassFile.Reader.u1 : Jvm.ClassFile.Decoder Nat) c p) _) _ = _
  rw [e]
  rfl
theorem o_21 {c : ByteArray} {p s u n : Nat} {v : Nat} (e : (Jvm.ClassFile.Reader.u1 : Jvm.ClassFile.Decoder Nat) c p = .ok (21, s)) (e1 : (Jvm.ClassFile.Reader.u1 : Jvm.ClassFile.Decoder Nat) c s = .ok (v, u)) (hn : u - p = n) : decode c p = .ok (.iload v, n) := by
  subst hn
  show Except.bind (Except.bind ((Jvm.ClassFile.Reader.u1 : Jvm.ClassFile.Decoder Nat) c p) _) _ = _
  rw [e, bk_ok]
  show Except.bind (Except.bind ((Jvm.ClassFile.Reader.u1 : Jvm.ClassFile.Decoder Nat) c s) _) _ = _
  rw [e1]
  rfl
theorem o_22 {c : ByteArray} {p s u n : Nat} {v : Nat} (e : (Jvm.ClassFile.Reader.u1 : Jvm.ClassFile.Decoder Nat) c p = .ok (22, s)) (e1 : (Jvm.ClassFile.Reader.u1 : Jvm.ClassFile.Decoder Nat) c s = .ok (v, u)) (hn : u - p = n) : decode c p = .ok (.lload v, n) := by
  subst hn
  show Except.bind (Except.bind ((Jvm.ClassFile.Reader.u1 : Jvm.ClassFile.Decoder Nat) c p) _) _ = _
  rw [e, bk_ok]
  show Except.bind (Except.bind ((Jvm.ClassFile.Reader.u1 : Jvm.ClassFile.Decoder Nat) c s) _) _ = _
  rw [e1]
  rfl
theorem o_25 {c : ByteArray} {p s u n : Nat} {v : Nat} (e : (Jvm.ClassFile.Reader.u1 : Jvm.ClassFile.Decoder Nat) c p = .ok (25, s)) (e1 : (Jvm.ClassFile.Reader.u1 : Jvm.ClassFile.Decoder Nat) c s = .ok (v, u)) (hn : u - p = n) : decode c p = .ok (.aload v, n) := by
  subst hn
  show Except.bind (Except.bind ((Jvm.ClassFile.Reader.u1 : Jvm.ClassFile.Decoder Nat) c p) _) _ = _
  rw [e, bk_ok]
  show Except.bind (Except.bind ((Jvm.ClassFile.Reader.u1 : Jvm.ClassFile.Decoder Nat) c s) _) _ = _
  rw [e1]
  rfl
theorem o_54 {c : ByteArray} {p s u n : Nat} {v : Nat} (e : (Jvm.ClassFile.Reader.u1 : Jvm.ClassFile.Decoder Nat) c p = .ok (54, s)) (e1 : (Jvm.ClassFile.Reader.u1 : Jvm.ClassFile.Decoder Nat) c s = .ok (v, u)) (hn : u - p = n) : decode c p = .ok (.istore v, n) := by
  subst hn
  show Except.bind (Except.bind ((Jvm.ClassFile.Reader.u1 : Jvm.ClassFile.Decoder Nat) c p) _) _ = _
  rw [e, bk_ok]
  show Except.bind (Except.bind ((Jvm.ClassFile.Reader.u1 : Jvm.ClassFile.Decoder Nat) c s) _) _ = _
  rw [e1]
  rfl
theorem o_55 {c : ByteArray} {p s u n : Nat} {v : Nat} (e : (Jvm.ClassFile.Reader.u1 : Jvm.ClassFile.Decoder Nat) c p = .ok (55, s)) (e1 : (Jvm.ClassFile.Reader.u1 : Jvm.ClassFile.Decoder Nat) c s = .ok (v, u)) (hn : u - p = n) : decode c p = .ok (.lstore v, n) := by
  subst hn
  show Except.bind (Except.bind ((Jvm.ClassFile.Reader.u1 : Jvm.ClassFile.Decoder Nat) c p) _) _ = _
  rw [e, bk_ok]
  show Except.bind (Except.bind ((Jvm.ClassFile.Reader.u1 : Jvm.ClassFile.Decoder Nat) c s) _) _ = _
  rw [e1]
  rfl
theorem o_18 {c : ByteArray} {p s u n : Nat} {v : Nat} (e : (Jvm.ClassFile.Reader.u1 : Jvm.ClassFile.Decoder Nat) c p = .ok (18, s)) (e1 : (Jvm.ClassFile.Reader.u1 : Jvm.ClassFile.Decoder Nat) c s = .ok (v, u)) (hn : u - p = n) : decode c p = .ok (.ldc v, n) := by
  subst hn
  show Except.bind (Except.bind ((Jvm.ClassFile.Reader.u1 : Jvm.ClassFile.Decoder Nat) c p) _) _ = _
  rw [e, bk_ok]
  show Except.bind (Except.bind ((Jvm.ClassFile.Reader.u1 : Jvm.ClassFile.Decoder Nat) c s) _) _ = _
  rw [e1]
  rfl
theorem o_16 {c : ByteArray} {p s u n : Nat} {v : Int} (e : (Jvm.ClassFile.Reader.u1 : Jvm.ClassFile.Decoder Nat) c p = .ok (16, s)) (e1 : (Jvm.ClassFile.Reader.s1 : Jvm.ClassFile.Decoder Int) c s = .ok (v, u)) (hn : u - p = n) : decode c p = .ok (.bipush v, n) := by
  subst hn
  show Except.bind (Except.bind ((Jvm.ClassFile.Reader.u1 : Jvm.ClassFile.Decoder Nat) c p) _) _ = _
  rw [e, bk_ok]
  show Except.bind (Except.bind ((Jvm.ClassFile.Reader.s1 : Jvm.ClassFile.Decoder Int) c s) _) _ = _
  rw [e1]
  rfl
theorem o_17 {c : ByteArray} {p s u n : Nat} {v : Int} (e : (Jvm.ClassFile.Reader.u1 : Jvm.ClassFile.Decoder Nat) c p = .ok (17, s)) (e1 : (Jvm.ClassFile.Reader.s2 : Jvm.ClassFile.Decoder Int) c s = .ok (v, u)) (hn : u - p = n) : decode c p = .ok (.sipush v, n) := by
  subst hn
  show Except.bind (Except.bind ((Jvm.ClassFile.Reader.u1 : Jvm.ClassFile.Decoder Nat) c p) _) _ = _
  rw [e, bk_ok]
  show Except.bind (Except.bind ((Jvm.ClassFile.Reader.s2 : Jvm.ClassFile.Decoder Int) c s) _) _ = _
  rw [e1]
  rfl
theorem o_19 {c : ByteArray} {p s u n : Nat} {v : Nat} (e : (Jvm.ClassFile.Reader.u1 : Jvm.ClassFile.Decoder Nat) c p = .ok (19, s)) (e1 : (Jvm.ClassFile.Reader.u2 : Jvm.ClassFile.Decoder Nat) c s = .ok (v, u)) (hn : u - p = n) : decode c p = .ok (.ldc_w v, n) := by
  subst hn
  show Except.bind (Except.bind ((Jvm.ClassFile.Reader.u1 : Jvm.ClassFile.Decoder Nat) c p) _) _ = _
  rw [e, bk_ok]
  show Except.bind (Except.bind ((Jvm.ClassFile.Reader.u2 : Jvm.ClassFile.Decoder Nat) c s) _) _ = _
  rw [e1]
  rfl
theorem o_20 {c : ByteArray} {p s u n : Nat} {v : Nat} (e : (Jvm.ClassFile.Reader.u1 : Jvm.ClassFile.Decoder Nat) c p = .ok (20, s)) (e1 : (Jvm.ClassFile.Reader.u2 : Jvm.ClassFile.Decoder Nat) c s = .ok (v, u)) (hn : u - p = n) : decode c p = .ok (.ldc2_w v, n) := by
  subst hn
  show Except.bind (Except.bind ((Jvm.ClassFile.Reader.u1 : Jvm.ClassFile.Decoder Nat) c p) _) _ = _
  rw [e, bk_ok]
  show Except.bind (Except.bind ((Jvm.ClassFile.Reader.u2 : Jvm.ClassFile.Decoder Nat) c s) _) _ = _
  rw [e1]
  rfl
theorem o_178 {c : ByteArray} {p s u n : Nat} {v : Nat} (e : (Jvm.ClassFile.Reader.u1 : Jvm.ClassFile.Decoder Nat) c p = .ok (178, s)) (e1 : (Jvm.ClassFile.Reader.u2 : Jvm.ClassFile.Decoder Nat) c s = .ok (v, u)) (hn : u - p = n) : decode c p = .ok (.getstatic v, n) := by
  subst hn
  show Except.bind (Except.bind ((Jvm.ClassFile.Reader.u1 : Jvm.ClassFile.Decoder Nat) c p) _) _ = _
  rw [e, bk_ok]
  show Except.bind (Except.bind ((Jvm.ClassFile.Reader.u2 : Jvm.ClassFile.Decoder Nat) c s) _) _ = _
  rw [e1]
  rfl
theorem o_180 {c : ByteArray} {p s u n : Nat} {v : Nat} (e : (Jvm.ClassFile.Reader.u1 : Jvm.ClassFile.Decoder Nat) c p = .ok (180, s)) (e1 : (Jvm.ClassFile.Reader.u2 : Jvm.ClassFile.Decoder Nat) c s = .ok (v, u)) (hn : u - p = n) : decode c p = .ok (.getfield v, n) := by
  subst hn
  show Except.bind (Except.bind ((Jvm.ClassFile.Reader.u1 : Jvm.ClassFile.Decoder Nat) c p) _) _ = _
  rw [e, bk_ok]
  show Except.bind (Except.bind ((Jvm.ClassFile.Reader.u2 : Jvm.ClassFile.Decoder Nat) c s) _) _ = _
  rw [e1]
  rfl
theorem o_181 {c : ByteArray} {p s u n : Nat} {v : Nat} (e : (Jvm.ClassFile.Reader.u1 : Jvm.ClassFile.Decoder Nat) c p = .ok (181, s)) (e1 : (Jvm.ClassFile.Reader.u2 : Jvm.ClassFile.Decoder Nat) c s = .ok (v, u)) (hn : u - p = n) : decode c p = .ok (.putfield v, n) := by
  subst hn
  show Except.bind (Except.bind ((Jvm.ClassFile.Reader.u1 : Jvm.ClassFile.Decoder Nat) c p) _) _ = _
  rw [e, bk_ok]
  show Except.bind (Except.bind ((Jvm.ClassFile.Reader.u2 : Jvm.ClassFile.Decoder Nat) c s) _) _ = _
  rw [e1]
  rfl
theorem o_182 {c : ByteArray} {p s u n : Nat} {v : Nat} (e : (Jvm.ClassFile.Reader.u1 : Jvm.ClassFile.Decoder Nat) c p = .ok (182, s)) (e1 : (Jvm.ClassFile.Reader.u2 : Jvm.ClassFile.Decoder Nat) c s = .ok (v, u)) (hn : u - p = n) : decode c p = .ok (.invokevirtual v, n) := by
  subst hn
  show Except.bind (Except.bind ((Jvm.ClassFile.Reader.u1 : Jvm.ClassFile.Decoder Nat) c p) _) _ = _
  rw [e, bk_ok]
  show Except.bind (Except.bind ((Jvm.ClassFile.Reader.u2 : Jvm.ClassFile.Decoder Nat) c s) _) _ = _
  rw [e1]
  rfl
theorem o_183 {c : ByteArray} {p s u n : Nat} {v : Nat} (e : (Jvm.ClassFile.Reader.u1 : Jvm.ClassFile.Decoder Nat) c p = .ok (183, s)) (e1 : (Jvm.ClassFile.Reader.u2 : Jvm.ClassFile.Decoder Nat) c s = .ok (v, u)) (hn : u - p = n) : decode c p = .ok (.invokespecial v, n) := by
  subst hn
  show Except.bind (Except.bind ((Jvm.ClassFile.Reader.u1 : Jvm.ClassFile.Decoder Nat) c p) _) _ = _
  rw [e, bk_ok]
  show Except.bind (Except.bind ((Jvm.ClassFile.Reader.u2 : Jvm.ClassFile.Decoder Nat) c s) _) _ = _
  rw [e1]
  rfl
theorem o_184 {c : ByteArray} {p s u n : Nat} {v : Nat} (e : (Jvm.ClassFile.Reader.u1 : Jvm.ClassFile.Decoder Nat) c p = .ok (184, s)) (e1 : (Jvm.ClassFile.Reader.u2 : Jvm.ClassFile.Decoder Nat) c s = .ok (v, u)) (hn : u - p = n) : decode c p = .ok (.invokestatic v, n) := by
  subst hn
  show Except.bind (Except.bind ((Jvm.ClassFile.Reader.u1 : Jvm.ClassFile.Decoder Nat) c p) _) _ = _
  rw [e, bk_ok]
  show Except.bind (Except.bind ((Jvm.ClassFile.Reader.u2 : Jvm.ClassFile.Decoder Nat) c s) _) _ = _
  rw [e1]
  rfl
theorem o_187 {c : ByteArray} {p s u n : Nat} {v : Nat} (e : (Jvm.ClassFile.Reader.u1 : Jvm.ClassFile.Decoder Nat) c p = .ok (187, s)) (e1 : (Jvm.ClassFile.Reader.u2 : Jvm.ClassFile.Decoder Nat) c s = .ok (v, u)) (hn : u - p = n) : decode c p = .ok (.new v, n) := by
  subst hn
  show Except.bind (Except.bind ((Jvm.ClassFile.Reader.u1 : Jvm.ClassFile.Decoder Nat) c p) _) _ = _
  rw [e, bk_ok]
  show Except.bind (Except.bind ((Jvm.ClassFile.Reader.u2 : Jvm.ClassFile.Decoder Nat) c s) _) _ = _
  rw [e1]
  rfl
theorem o_153 {c : ByteArray} {p s u n : Nat} {v : Int} (e : (Jvm.ClassFile.Reader.u1 : Jvm.ClassFile.Decoder Nat) c p = .ok (153, s)) (e1 : (Jvm.ClassFile.Reader.s2 : Jvm.ClassFile.Decoder Int) c s = .ok (v, u)) (hn : u - p = n) : decode c p = .ok (.ifCond .eq v, n) := by
  subst hn
  show Except.bind (Except.bind ((Jvm.ClassFile.Reader.u1 : Jvm.ClassFile.Decoder Nat) c p) _) _ = _
  rw [e, bk_ok]
  show Except.bind (Except.bind ((Jvm.ClassFile.Reader.s2 : Jvm.ClassFile.Decoder Int) c s) _) _ = _
  rw [e1]
  rfl
theorem o_159 {c : ByteArray} {p s u n : Nat} {v : Int} (e : (Jvm.ClassFile.Reader.u1 : Jvm.ClassFile.Decoder Nat) c p = .ok (159, s)) (e1 : (Jvm.ClassFile.Reader.s2 : Jvm.ClassFile.Decoder Int) c s = .ok (v, u)) (hn : u - p = n) : decode c p = .ok (.if_icmp .eq v, n) := by
  subst hn
  show Except.bind (Except.bind ((Jvm.ClassFile.Reader.u1 : Jvm.ClassFile.Decoder Nat) c p) _) _ = _
  rw [e, bk_ok]
  show Except.bind (Except.bind ((Jvm.ClassFile.Reader.s2 : Jvm.ClassFile.Decoder Int) c s) _) _ = _
  rw [e1]
  rfl
theorem o_154 {c : ByteArray} {p s u n : Nat} {v : Int} (e : (Jvm.ClassFile.Reader.u1 : Jvm.ClassFile.Decoder Nat) c p = .ok (154, s)) (e1 : (Jvm.ClassFile.Reader.s2 : Jvm.ClassFile.Decoder Int) c s = .ok (v, u)) (hn : u - p = n) : decode c p = .ok (.ifCond .ne v, n) := by
  subst hn
  show Except.bind (Except.bind ((Jvm.ClassFile.Reader.u1 : Jvm.ClassFile.Decoder Nat) c p) _) _ = _
  rw [e, bk_ok]
  show Except.bind (Except.bind ((Jvm.ClassFile.Reader.s2 : Jvm.ClassFile.Decoder Int) c s) _) _ = _
  rw [e1]
  rfl
theorem o_160 {c : ByteArray} {p s u n : Nat} {v : Int} (e : (Jvm.ClassFile.Reader.u1 : Jvm.ClassFile.Decoder Nat) c p = .ok (160, s)) (e1 : (Jvm.ClassFile.Reader.s2 : Jvm.ClassFile.Decoder Int) c s = .ok (v, u)) (hn : u - p = n) : decode c p = .ok (.if_icmp .ne v, n) := by
  subst hn
  show Except.bind (Except.bind ((Jvm.ClassFile.Reader.u1 : Jvm.ClassFile.Decoder Nat) c p) _) _ = _
  rw [e, bk_ok]
  show Except.bind (Except.bind ((Jvm.ClassFile.Reader.s2 : Jvm.ClassFile.Decoder Int) c s) _) _ = _
  rw [e1]
  rfl
theorem o_155 {c : ByteArray} {p s u n : Nat} {v : Int} (e : (Jvm.ClassFile.Reader.u1 : Jvm.ClassFile.Decoder Nat) c p = .ok (155, s)) (e1 : (Jvm.ClassFile.Reader.s2 : Jvm.ClassFile.Decoder Int) c s = .ok (v, u)) (hn : u - p = n) : decode c p = .ok (.ifCond .lt v, n) := by
  subst hn
  show Except.bind (Except.bind ((Jvm.ClassFile.Reader.u1 : Jvm.ClassFile.Decoder Nat) c p) _) _ = _
  rw [e, bk_ok]
  show Except.bind (Except.bind ((Jvm.ClassFile.Reader.s2 : Jvm.ClassFile.Decoder Int) c s) _) _ = _
  rw [e1]
  rfl
theorem o_161 {c : ByteArray} {p s u n : Nat} {v : Int} (e : (Jvm.ClassFile.Reader.u1 : Jvm.ClassFile.Decoder Nat) c p = .ok (161, s)) (e1 : (Jvm.ClassFile.Reader.s2 : Jvm.ClassFile.Decoder Int) c s = .ok (v, u)) (hn : u - p = n) : decode c p = .ok (.if_icmp .lt v, n) := by
  subst hn
  show Except.bind (Except.bind ((Jvm.ClassFile.Reader.u1 : Jvm.ClassFile.Decoder Nat) c p) _) _ = _
  rw [e, bk_ok]
  show Except.bind (Except.bind ((Jvm.ClassFile.Reader.s2 : Jvm.ClassFile.Decoder Int) c s) _) _ = _
  rw [e1]
  rfl
theorem o_156 {c : ByteArray} {p s u n : Nat} {v : Int} (e : (Jvm.ClassFile.Reader.u1 : Jvm.ClassFile.Decoder Nat) c p = .ok (156, s)) (e1 : (Jvm.ClassFile.Reader.s2 : Jvm.ClassFile.Decoder Int) c s = .ok (v, u)) (hn : u - p = n) : decode c p = .ok (.ifCond .ge v, n) := by
  subst hn
  show Except.bind (Except.bind ((Jvm.ClassFile.Reader.u1 : Jvm.ClassFile.Decoder Nat) c p) _) _ = _
  rw [e, bk_ok]
  show Except.bind (Except.bind ((Jvm.ClassFile.Reader.s2 : Jvm.ClassFile.Decoder Int) c s) _) _ = _
  rw [e1]
  rfl
theorem o_162 {c : ByteArray} {p s u n : Nat} {v : Int} (e : (Jvm.ClassFile.Reader.u1 : Jvm.ClassFile.Decoder Nat) c p = .ok (162, s)) (e1 : (Jvm.ClassFile.Reader.s2 : Jvm.ClassFile.Decoder Int) c s = .ok (v, u)) (hn : u - p = n) : decode c p = .ok (.if_icmp .ge v, n) := by
  subst hn
  show Except.bind (Except.bind ((Jvm.ClassFile.Reader.u1 : Jvm.ClassFile.Decoder Nat) c p) _) _ = _
  rw [e, bk_ok]
  show Except.bind (Except.bind ((Jvm.ClassFile.Reader.s2 : Jvm.ClassFile.Decoder Int) c s) _) _ = _
  rw [e1]
  rfl
theorem o_157 {c : ByteArray} {p s u n : Nat} {v : Int} (e : (Jvm.ClassFile.Reader.u1 : Jvm.ClassFile.Decoder Nat) c p = .ok (157, s)) (e1 : (Jvm.ClassFile.Reader.s2 : Jvm.ClassFile.Decoder Int) c s = .ok (v, u)) (hn : u - p = n) : decode c p = .ok (.ifCond .gt v, n) := by
  subst hn
  show Except.bind (Except.bind ((Jvm.ClassFile.Reader.u1 : Jvm.ClassFile.Decoder Nat) c p) _) _ = _
  rw [e, bk_ok]
  show Except.bind (Except.bind ((Jvm.ClassFile.Reader.s2 : Jvm.ClassFile.Decoder Int) c s) _) _ = _
  rw [e1]
  rfl
theorem o_163 {c : ByteArray} {p s u n : Nat} {v : Int} (e : (Jvm.ClassFile.Reader.u1 : Jvm.ClassFile.Decoder Nat) c p = .ok (163, s)) (e1 : (Jvm.ClassFile.Reader.s2 : Jvm.ClassFile.Decoder Int) c s = .ok (v, u)) (hn : u - p = n) : decode c p = .ok (.if_icmp .gt v, n) := by
  subst hn
  show Except.bind (Except.bind ((Jvm.ClassFile.Reader.u1 : Jvm.ClassFile.Decoder Nat) c p) _) _ = _
  rw [e, bk_ok]
  show Except.bind (Except.bind ((Jvm.ClassFile.Reader.s2 : Jvm.ClassFile.Decoder Int) c s) _) _ = _
  rw [e1]
  rfl
theorem o_158 {c : ByteArray} {p s u n : Nat} {v : Int} (e : (Jvm.ClassFile.Reader.u1 : Jvm.ClassFile.Decoder Nat) c p = .ok (158, s)) (e1 : (Jvm.ClassFile.Reader.s2 : Jvm.ClassFile.Decoder Int) c s = .ok (v, u)) (hn : u - p = n) : decode c p = .ok (.ifCond .le v, n) := by
  subst hn
  show Except.bind (Except.bind ((Jvm.ClassFile.Reader.u1 : Jvm.ClassFile.Decoder Nat) c p) _) _ = _
  rw [e, bk_ok]
  show Except.bind (Except.bind ((Jvm.ClassFile.Reader.s2 : Jvm.ClassFile.Decoder Int) c s) _) _ = _
  rw [e1]
  rfl
theorem o_164 {c : ByteArray} {p s u n : Nat} {v : Int} (e : (Jvm.ClassFile.Reader.u1 : Jvm.ClassFile.Decoder Nat) c p = .ok (164, s)) (e1 : (Jvm.ClassFile.Reader.s2 : Jvm.ClassFile.Decoder Int) c s = .ok (v, u)) (hn : u - p = n) : decode c p = .ok (.if_icmp .le v, n) := by
  subst hn
  show Except.bind (Except.bind ((Jvm.ClassFile.Reader.u1 : Jvm.ClassFile.Decoder Nat) c p) _) _ = _
  rw [e, bk_ok]
  show Except.bind (Except.bind ((Jvm.ClassFile.Reader.s2 : Jvm.ClassFile.Decoder Int) c s) _) _ = _
  rw [e1]
  rfl
theorem o_167 {c : ByteArray} {p s u n : Nat} {v : Int} (e : (Jvm.ClassFile.Reader.u1 : Jvm.ClassFile.Decoder Nat) c p = .ok (167, s)) (e1 : (Jvm.ClassFile.Reader.s2 : Jvm.ClassFile.Decoder Int) c s = .ok (v, u)) (hn : u - p = n) : decode c p = .ok (.goto v, n) := by
  subst hn
  show Except.bind (Except.bind ((Jvm.ClassFile.Reader.u1 : Jvm.ClassFile.Decoder Nat) c p) _) _ = _
  rw [e, bk_ok]
  show Except.bind (Except.bind ((Jvm.ClassFile.Reader.s2 : Jvm.ClassFile.Decoder Int) c s) _) _ = _
  rw [e1]
  rfl
theorem o_198 {c : ByteArray} {p s u n : Nat} {v : Int} (e : (Jvm.ClassFile.Reader.u1 : Jvm.ClassFile.Decoder Nat) c p = .ok (198, s)) (e1 : (Jvm.ClassFile.Reader.s2 : Jvm.ClassFile.Decoder Int) c s = .ok (v, u)) (hn : u - p = n) : decode c p = .ok (.ifnull v, n) := by
  subst hn
  show Except.bind (Except.bind ((Jvm.ClassFile.Reader.u1 : Jvm.ClassFile.Decoder Nat) c p) _) _ = _
  rw [e, bk_ok]
  show Except.bind (Except.bind ((Jvm.ClassFile.Reader.s2 : Jvm.ClassFile.Decoder Int) c s) _) _ = _
  rw [e1]
  rfl
theorem o_199 {c : ByteArray} {p s u n : Nat} {v : Int} (e : (Jvm.ClassFile.Reader.u1 : Jvm.ClassFile.Decoder Nat) c p = .ok (199, s)) (e1 : (Jvm.ClassFile.Reader.s2 : Jvm.ClassFile.Decoder Int) c s = .ok (v, u)) (hn : u - p = n) : decode c p = .ok (.ifnonnull v, n) := by
  subst hn
  show Except.bind (Except.bind ((Jvm.ClassFile.Reader.u1 : Jvm.ClassFile.Decoder Nat) c p) _) _ = _
  rw [e, bk_ok]
  show Except.bind (Except.bind ((Jvm.ClassFile.Reader.s2 : Jvm.ClassFile.Decoder Int) c s) _) _ = _
  rw [e1]
  rfl
theorem o_132 {c : ByteArray} {p s t u n a : Nat} {v : Int} (e : (Jvm.ClassFile.Reader.u1 : Jvm.ClassFile.Decoder Nat) c p = .ok (132, s)) (e1 : (Jvm.ClassFile.Reader.u1 : Jvm.ClassFile.Decoder Nat) c s = .ok (a, t)) (e2 : (Jvm.ClassFile.Reader.s1 : Jvm.ClassFile.Decoder Int) c t = .ok (v, u)) (hn : u - p = n) : decode c p = .ok (.iinc a v, n) := by
  subst hn
  show Except.bind (Except.bind ((Jvm.ClassFile.Reader.u1 : Jvm.ClassFile.Decoder Nat) c p) _) _ = _
  rw [e, bk_ok]
  show Except.bind (Except.bind ((Jvm.ClassFile.Reader.u1 : Jvm.ClassFile.Decoder Nat) c s) _) _ = _
  rw [e1, bk_ok]
  show Except.bind (Except.bind ((Jvm.ClassFile.Reader.s1 : Jvm.ClassFile.Decoder Int) c t) _) _ = _
  rw [e2]
  rfl
theorem o_188_4 {c : ByteArray} {p s u n : Nat} (e : (Jvm.ClassFile.Reader.u1 : Jvm.ClassFile.Decoder Nat) c p = .ok (188, s)) (e1 : (Jvm.ClassFile.Reader.u1 : Jvm.ClassFile.Decoder Nat) c s = .ok (4, u)) (hn : u - p = n) : decode c p = .ok (.newarray .boolean, n) := by
  subst hn
  show Except.bind (Except.bind ((Jvm.ClassFile.Reader.u1 : Jvm.ClassFile.Decoder Nat) c p) _) _ = _
  rw [e, bk_ok]
  show Except.bind (Except.bind ((Jvm.ClassFile.Reader.u1 : Jvm.ClassFile.Decoder Nat) c s) _) _ = _
  rw [e1]
  rfl
theorem o_188_8 {c : ByteArray} {p s u n : Nat} (e : (Jvm.ClassFile.Reader.u1 : Jvm.ClassFile.Decoder Nat) c p = .ok (188, s)) (e1 : (Jvm.ClassFile.Reader.u1 : Jvm.ClassFile.Decoder Nat) c s = .ok (8, u)) (hn : u - p = n) : decode c p = .ok (.newarray .byte, n) := by
  subst hn
  show Except.bind (Except.bind ((Jvm.ClassFile.Reader.u1 : Jvm.ClassFile.Decoder Nat) c p) _) _ = _
  rw [e, bk_ok]
  show Except.bind (Except.bind ((Jvm.ClassFile.Reader.u1 : Jvm.ClassFile.Decoder Nat) c s) _) _ = _
  rw [e1]
  rfl
theorem o_188_10 {c : ByteArray} {p s u n : Nat} (e : (Jvm.ClassFile.Reader.u1 : Jvm.ClassFile.Decoder Nat) c p = .ok (188, s)) (e1 : (Jvm.ClassFile.Reader.u1 : Jvm.ClassFile.Decoder Nat) c s = .ok (10, u)) (hn : u - p = n) : decode c p = .ok (.newarray .int, n) := by
  subst hn
  show Except.bind (Except.bind ((Jvm.ClassFile.Reader.u1 : Jvm.ClassFile.Decoder Nat) c p) _) _ = _
  rw [e, bk_ok]
  show Except.bind (Except.bind ((Jvm.ClassFile.Reader.u1 : Jvm.ClassFile.Decoder Nat) c s) _) _ = _
  rw [e1]
  rfl
theorem o_188_11 {c : ByteArray} {p s u n : Nat} (e : (Jvm.ClassFile.Reader.u1 : Jvm.ClassFile.Decoder Nat) c p = .ok (188, s)) (e1 : (Jvm.ClassFile.Reader.u1 : Jvm.ClassFile.Decoder Nat) c s = .ok (11, u)) (hn : u - p = n) : decode c p = .ok (.newarray .long, n) := by
  subst hn
  show Except.bind (Except.bind ((Jvm.ClassFile.Reader.u1 : Jvm.ClassFile.Decoder Nat) c p) _) _ = _
  rw [e, bk_ok]
  show Except.bind (Except.bind ((Jvm.ClassFile.Reader.u1 : Jvm.ClassFile.Decoder Nat) c s) _) _ = _
  rw [e1]
  rfl

