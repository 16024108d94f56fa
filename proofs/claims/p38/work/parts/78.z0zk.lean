/-! words of light(), now(), turn() -/
theorem fl_e {r z : Int32} (h : r = if (¬ z.toInt = 0) then 1 else 0) (hz : 0 ≤ z.toInt ∧ z.toInt ≤ 1) : r.toInt = z.toInt := by
  by_cases q : z.toInt = 0
  · rw [if_neg (fun w => w q)] at h; rw [h, q]; decide
  · rw [if_pos q] at h; rw [h, show (1 : Int32).toInt = 1 from by decide]; omega
theorem fl_iv {r z : Int32} {P : Prop} (h : r = if (¬ z.toInt = 0) then 1 else 0) (hz : Sm z P) : r.toInt = iV P 1 0 := by
  rcases hz with ⟨a, b⟩ | ⟨a, b⟩
  · rw [if_pos (by omega)] at h; rw [h, iV_y b]; decide
  · rw [if_neg (by omega)] at h; rw [h, iV_n b]; decide
noncomputable def nwV (s fm at_ : Int) (sh op lk : Prop) (sn rc : Int) : Int := if s = 0 then fm else if s = 1 then at_ else if s = 2 then iV sh (iV op 1 0) (-9) else if s = 3 then iV sh (iV lk 1 0) (-9) else if s = 4 then sn else rc
def NwR (s r fm at_ : Int) (sh op lk : Prop) (sn rc : Int) (RM : Int → Prop) : Prop := (s ≤ 5 ∧ r = nwV s fm at_ sh op lk sn rc) ∨ (6 ≤ s ∧ RM r)
