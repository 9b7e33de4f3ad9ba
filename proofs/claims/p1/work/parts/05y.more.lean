theorem z_ge_pred {x a b : Int32} (hab : a.toInt = b.toInt + 1) : a ≤ x ↔ ¬ x ≤ b := by
  simp only [zi_le]
  omega
theorem zas1 {v : Int32} (h : v = -1) : (-1 : Int32) = if ((-1) ≤ v ∧ v ≤ 0) then -1 else -2 := by
  subst h
  decide
theorem zas2 {v : Int32} (h : 0 ≤ v) (h2 : v ≤ 0) : (-1 : Int32) = if ((-1) ≤ v ∧ v ≤ 0) then -1 else -2 := (if_pos ⟨Int32.le_trans (by decide) h, h2⟩).symm
theorem zas3 {v : Int32} (h0 : ¬ v = -1) (h : ¬ 0 ≤ v) : (-2 : Int32) = if ((-1) ≤ v ∧ v ≤ 0) then -1 else -2 := (if_neg (fun q => by
  have q1 := q.1
  simp only [zi_le, zi_eq, zi_n0, zi_nm1] at h0 h q1
  omega)).symm
theorem zas4 {v : Int32} (h : ¬ v ≤ 0) : (-2 : Int32) = if ((-1) ≤ v ∧ v ≤ 0) then -1 else -2 := (if_neg (fun q => h q.2)).symm
