theorem gof_0 {p : Int} {q Qn rule : Nat} : gof p q Qn 0 rule = false := by unfold gof; simp
theorem gof_T {p : Int} {q st rule : Nat} (h : p = 0) : p.natAbs * st / q + b01 (gof p q (p.natAbs * st / q) (p.natAbs * st % q) rule) = 0 := by
  subst h
  simp [gof_0, b01]
