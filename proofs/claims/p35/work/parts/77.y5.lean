def i0S : Nat → Int32 := fun k => if k = 173 then -9 else if k = 185 then -9 else 0
def c0S : Nat → Nat → Int32 := fun k => if k = 179 then (fun _ => 255) else fun _ => 0
theorem i0S_r (k : Nat) (h : 166 ≤ k) : xR k (i0S k).toInt := by
  unfold xR
  split <;> first | trivial | (exfalso; omega) | decide
theorem xE_0 (k j : Nat) : xE k j (0 : Int32).toInt := by
  unfold xE
  split <;> first | trivial | decide
theorem c0S_r (k j : Nat) (h : 166 ≤ k) : xE k j (c0S k j).toInt := by
  by_cases e : k = 179
  · subst e
    exact (show 0 ≤ (255 : Int32).toInt ∧ (255 : Int32).toInt ≤ 16383 ∧ ((255 : Int32).toInt % 256 = 255 ∨ ((255 : Int32).toInt % 8 ≤ 4 ∧ (255 : Int32).toInt / 8 % 32 ≤ 29)) from by decide)
  · have z : c0S k j = 0 := by
      show (if k = 179 then (fun _ => 255) else fun _ => 0 : Nat → Int32) j = 0
      rw [if_neg e]
    rw [z]; exact xE_0 k j
theorem xInv_S {i : Nat → Int32} {c : Nat → Nat → Int32} (hI : xInv i c) : xInv (fun k => if k < 166 then i k else i0S k) (fun k => if k < 166 then c k else c0S k) := by
  refine ⟨fun k => ?_, fun k j => ?_⟩
  · by_cases h : k < 166
    · show xR k (if k < 166 then i k else i0S k).toInt
      rw [if_pos h]; exact hI.1 k
    · show xR k (if k < 166 then i k else i0S k).toInt
      rw [if_neg h]; exact i0S_r k (by omega)
  · by_cases h : k < 166
    · show xE k j ((if k < 166 then c k else c0S k) j).toInt
      rw [if_pos h]; exact hI.2 k j
    · show xE k j ((if k < 166 then c k else c0S k) j).toInt
      rw [if_neg h]; exact c0S_r k j (by omega)
theorem xwT_e {sk : Value} {a : Nat → Nat} {t : Nat → ClassId} {i i2 : Nat → Int32} {q : Int64} {c c2 : Nat → Nat → Int32} {d : Nat → Nat → Int64} (hi : ∀ k, k < 166 → i2 k = i k) (hc : ∀ k, k < 166 → c2 k = c k) : xwT sk a t i q c d = xwT sk a t i2 q c2 d := by
  unfold xwT
  rw [hi 102 (by decide +kernel), hi 110 (by decide +kernel), hi 111 (by decide +kernel), hi 123 (by decide +kernel), hi 124 (by decide +kernel), hi 125 (by decide +kernel), hi 140 (by decide +kernel), hi 141 (by decide +kernel), hi 146 (by decide +kernel), hi 147 (by decide +kernel), hi 148 (by decide +kernel), hi 154 (by decide +kernel), hi 156 (by decide +kernel), hi 165 (by decide +kernel), hc 101 (by decide +kernel), hc 105 (by decide +kernel), hc 106 (by decide +kernel), hc 107 (by decide +kernel), hc 108 (by decide +kernel), hc 109 (by decide +kernel), hc 113 (by decide +kernel), hc 114 (by decide +kernel), hc 115 (by decide +kernel), hc 116 (by decide +kernel), hc 117 (by decide +kernel), hc 118 (by decide +kernel), hc 119 (by decide +kernel), hc 120 (by decide +kernel), hc 121 (by decide +kernel), hc 122 (by decide +kernel), hc 127 (by decide +kernel), hc 129 (by decide +kernel), hc 130 (by decide +kernel), hc 131 (by decide +kernel), hc 132 (by decide +kernel), hc 133 (by decide +kernel), hc 134 (by decide +kernel), hc 135 (by decide +kernel), hc 136 (by decide +kernel), hc 137 (by decide +kernel), hc 139 (by decide +kernel), hc 143 (by decide +kernel), hc 144 (by decide +kernel), hc 145 (by decide +kernel), hc 150 (by decide +kernel), hc 152 (by decide +kernel), hc 153 (by decide +kernel), hc 158 (by decide +kernel), hc 159 (by decide +kernel), hc 162 (by decide +kernel), hc 163 (by decide +kernel), hc 164 (by decide +kernel)]
