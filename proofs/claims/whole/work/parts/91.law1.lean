theorem ka_value {S : St} {p0 : Int} {p1 : Int} {p2 : Int32} : (sp_value S p0 p1 p2).1 = 0 ∨ ((sp_value S p0 p1 p2).1 = 1 ∧ (sp_value S p0 p1 p2).2.2 = S) ∨ ((sp_value S p0 p1 p2).1 = 2 ∧ (sp_value S p0 p1 p2).2.2 = S) := by
  unfold sp_value
  repeat' split
  all_goals first | (rw [kp_0]; exact Or.inl rfl) | (simp; done)
theorem ka_add {S : St} {p0 : Int32} {p1 : Int32} {p2 : Bool} : (sp_add S p0 p1 p2).1 = 0 ∨ ((sp_add S p0 p1 p2).1 = 1 ∧ (sp_add S p0 p1 p2).2.2 = S) := by
  unfold sp_add
  repeat' split
  all_goals first | (rw [kp_0]; exact Or.inl rfl) | (simp; done)
theorem ka_times {S : St} {p0 : Int32} {p1 : Int32} : (sp_times S p0 p1).1 = 0 ∨ ((sp_times S p0 p1).1 = 1 ∧ (sp_times S p0 p1).2.2 = S) := by
  unfold sp_times
  repeat' split
  all_goals first | (rw [kp_0]; exact Or.inl rfl) | (simp; done)
theorem ka_over {S : St} {p0 : Int32} {p1 : Int32} : (sp_over S p0 p1).1 = 0 ∨ ((sp_over S p0 p1).1 = 1 ∧ (sp_over S p0 p1).2.2 = S) ∨ ((sp_over S p0 p1).1 = 2 ∧ (sp_over S p0 p1).2.2 = S) := by
  unfold sp_over
  repeat' split
  all_goals first | (rw [kp_0]; exact Or.inl rfl) | (simp; done)
theorem ka_order {S : St} {p0 : Int32} {p1 : Int32} : (sp_order S p0 p1).1 = 0 ∨ ((sp_order S p0 p1).1 = 1 ∧ (sp_order S p0 p1).2.2 = S) := by
  unfold sp_order
  repeat' split
  all_goals first | (rw [kp_0]; exact Or.inl rfl) | (simp; done)
theorem ka_round {S : St} {p0 : Int32} {p1 : Int32} {p2 : Int32} : (sp_round S p0 p1 p2).1 = 0 ∨ ((sp_round S p0 p1 p2).1 = 1 ∧ (sp_round S p0 p1 p2).2.2 = S) ∨ ((sp_round S p0 p1 p2).1 = 2 ∧ (sp_round S p0 p1 p2).2.2 = S) := by
  unfold sp_round
  repeat' split
  all_goals first | (rw [kp_0]; exact Or.inl rfl) | (simp; done)
theorem ka_prism {S : St} {p0 : Int32} {p1 : Int32} {p2 : Int32} {p3 : Int32} : (sp_prism S p0 p1 p2 p3).1 = 0 ∨ ((sp_prism S p0 p1 p2 p3).1 = 1 ∧ (sp_prism S p0 p1 p2 p3).2.2 = S) := by
  unfold sp_prism
  repeat' split
  all_goals first | (rw [kp_0]; exact Or.inl rfl) | (simp; done)
theorem ka_told {S : St} {p0 : Int32} {p1 : Int32} : (sp_told S p0 p1).1 = 0 ∨ ((sp_told S p0 p1).1 = 1 ∧ (sp_told S p0 p1).2.2 = S) ∨ ((sp_told S p0 p1).1 = 2 ∧ (sp_told S p0 p1).2.2 = S) := by
  unfold sp_told
  repeat' split
  all_goals first | (rw [kp_0]; exact Or.inl rfl) | (simp; done)
theorem ka_digit {S : St} {p0 : Int32} {p1 : Int32} {p2 : Int32} : (sp_digit S p0 p1 p2).1 = 0 ∨ ((sp_digit S p0 p1 p2).1 = 1 ∧ (sp_digit S p0 p1 p2).2.2 = S) ∨ ((sp_digit S p0 p1 p2).1 = 2 ∧ (sp_digit S p0 p1 p2).2.2 = S) := by
  unfold sp_digit
  repeat' split
  all_goals first | (rw [kp_0]; exact Or.inl rfl) | (simp; done)
theorem ka_corner {S : St} {p0 : Int32} {p1 : Int32} {p2 : Int32} : (sp_corner S p0 p1 p2).1 = 0 ∨ ((sp_corner S p0 p1 p2).1 = 1 ∧ (sp_corner S p0 p1 p2).2.2 = S) := by
  unfold sp_corner
  repeat' split
  all_goals first | (rw [kp_0]; exact Or.inl rfl) | (simp; done)
theorem ka_at {S : St} {p0 : Int32} {p1 : Int32} : (sp_at S p0 p1).1 = 0 ∨ ((sp_at S p0 p1).1 = 1 ∧ (sp_at S p0 p1).2.2 = S) := by
  unfold sp_at
  repeat' split
  all_goals first | (rw [kp_0]; exact Or.inl rfl) | (simp; done)
theorem ka_area {S : St} {p0 : Int32} : (sp_area S p0).1 = 0 ∨ ((sp_area S p0).1 = 1 ∧ (sp_area S p0).2.2 = S) := by
  unfold sp_area
  repeat' split
  all_goals first | (rw [kp_0]; exact Or.inl rfl) | (simp; done)
theorem ka_weight {S : St} {p0 : Int32} : (sp_weight S p0).1 = 0 ∨ ((sp_weight S p0).1 = 1 ∧ (sp_weight S p0).2.2 = S) := by
  unfold sp_weight
  repeat' split
  all_goals first | (rw [kp_0]; exact Or.inl rfl) | (simp; done)
theorem ka_share {S : St} {p0 : Int} {p1 : Int32} : (sp_share S p0 p1).1 = 0 ∨ ((sp_share S p0 p1).1 = 1 ∧ (sp_share S p0 p1).2.2 = S) ∨ ((sp_share S p0 p1).1 = 2 ∧ (sp_share S p0 p1).2.2 = S) := by
  unfold sp_share
  repeat' split
  all_goals first | (rw [kp_0]; exact Or.inl rfl) | (simp; done)
theorem no_of {x y : String} {lo : Nat} {s : State} {args : Array Value} (hZ : gZ lo s) (h : (x, y) ∈ gNo) : (Cond.not (.castable x y)).before args s = true := by
  obtain ⟨⟨-, -, -, -, -, -, -, -, -, -, hN⟩, -⟩ := hZ
  obtain ⟨c, t, h1, h2, h3⟩ := hN _ h
  simp [Cond.before, Cond.holds, Cond.value, h1, h2, h3]
