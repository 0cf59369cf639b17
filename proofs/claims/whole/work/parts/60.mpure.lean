/-! ===== the reference's long division: pure facts ===== -/
theorem mk_fit {M v U q g new c : Nat} (hv0 : 0 < v) (hq : q = U / v) (hg1 : q ≤ g) (hg2 : g ≤ q + 1) (hvM : v ≤ M) (hnew : new < M) (h : new + g * v = U + c * M) : (c = 0 → g = q ∧ new = U % v) ∧ (c ≠ 0 → c = 1 ∧ g = q + 1 ∧ new + v = U % v + M) := by
  have hdm := Nat.div_add_mod U v
  have hml := Nat.mod_lt U hv0
  rw [← hq] at hdm
  generalize hr : U % v = r at *
  have hqv : v * q = q * v := Nat.mul_comm _ _
  rcases Nat.lt_or_ge q g with hlt | hge
  · have e : g = q + 1 := by omega
    subst e
    rw [Nat.add_mul, Nat.one_mul] at h
    refine ⟨fun hc => ?_, fun hc => ?_⟩
    · subst hc
      rw [Nat.zero_mul] at h
      omega
    · have h1 : c < 2 := by
        rcases Nat.lt_or_ge c 2 with z | z
        · exact z
        · have := Nat.mul_le_mul_right M z
          omega
      have h2 : c = 1 := by omega
      subst h2
      rw [Nat.one_mul] at h
      exact ⟨rfl, rfl, by omega⟩
  · have e : g = q := by omega
    subst e
    refine ⟨fun hc => ?_, fun hc => ?_⟩
    · subst hc
      rw [Nat.zero_mul] at h
      exact ⟨rfl, by omega⟩
    · have := Nat.mul_le_mul_right M (show 1 ≤ c by omega)
      rw [Nat.one_mul] at this
      omega
/-- the sum that puts back -/
theorem mk_back {M v r new res c : Nat} (hr : r < v) (hvM : v ≤ M) (h : new + v = r + M) (hres : res < M) (h2 : res + c * M = new + v) : res = r := by
  rcases Nat.lt_or_ge c 1 with z | z
  · have : c = 0 := by omega
    subst this
    omega
  · rcases Nat.lt_or_ge c 2 with z2 | z2
    · have : c = 1 := by omega
      subst this
      omega
    · have := Nat.mul_le_mul_right M z2
      omega
/-- floor and truncation -/
theorem fl_1 {v : Int} (h : v.tmod 1000000000 < 0) : v.tdiv 1000000000 - 1 = v / 1000000000 := by
  have h1 := Int.tmod_add_mul_tdiv v 1000000000
  have h2 : -1000000000 < v.tmod 1000000000 := Int.lt_tmod_of_pos v (by decide)
  omega
theorem fl_0 {v : Int} (h : 0 ≤ v.tmod 1000000000) : v.tdiv 1000000000 = v / 1000000000 := by
  have h1 := Int.tmod_add_mul_tdiv v 1000000000
  have h2 : v.tmod 1000000000 < 1000000000 := Int.tmod_lt_of_pos v (by decide)
  omega
