/-! ===== LONG DIVISION (Knuth, D): pure facts. P is the base to the power n - 2 ===== -/
theorem kd_scale {t s : Nat} (h1 : 1 ≤ t) (ht : t < 1000000000) (hs : s = 1000000000 / (t + 1)) : 1 ≤ s ∧ s * (t + 1) ≤ 1000000000 ∧ 500000000 ≤ t * s := by
  have e1 : s * (t + 1) ≤ 1000000000 := by rw [hs]; exact Nat.div_mul_le_self _ _
  have e2 : 1 ≤ s := by rw [hs]; exact Nat.div_pos (by omega) (by omega)
  have e3 : 1000000000 < (s + 1) * (t + 1) := by
    have := Nat.div_add_mod 1000000000 (t + 1)
    have h2 := Nat.mod_lt 1000000000 (show 0 < t + 1 by omega)
    rw [← hs] at this
    rw [Nat.add_mul, Nat.mul_comm s]
    omega
  refine ⟨e2, e1, ?_⟩
  obtain ⟨a, rfl⟩ : ∃ a, t = a + 1 := ⟨t - 1, by omega⟩
  obtain ⟨b, rfl⟩ : ∃ b, s = b + 1 := ⟨s - 1, by omega⟩
  have e4 : (a + 1) * (b + 1) = a * b + a + b + 1 := by grind
  have e5 : (b + 1 + 1) * (a + 1 + 1) = a * b + 2 * a + 2 * b + 4 := by grind
  rw [e5] at e3
  rw [e4]
  generalize a * b = p at *
  omega
section KD
variable {P v U q top nxt vl u0 u1 u2 ul : Nat}
theorem kd_lt (hU : U < 1000000000 * v) (hq : q = U / v) : q < 1000000000 := by
  rw [hq]
  rcases Nat.eq_zero_or_pos v with h | h
  · subst h; simp
  · exact (Nat.div_lt_iff_lt_mul h).mpr hU
theorem kd_u0 (hv : v = (top * 1000000000 + nxt) * P + vl) (hvl : vl < P) (hn : nxt < 1000000000) (hUv : U = ((u0 * 1000000000 + u1) * 1000000000 + u2) * P + ul) (hU : U < 1000000000 * v) : u0 ≤ top := by
  rcases Nat.lt_or_ge top u0 with h | h
  · exfalso
    have h1 : (top * 1000000000 + nxt + 1) * P ≤ ((top + 1) * 1000000000) * P := Nat.mul_le_mul_right _ (by omega)
    have h2 : ((top + 1) * 1000000000 * 1000000000) * P ≤ ((u0 * 1000000000 + u1) * 1000000000 + u2) * P := Nat.mul_le_mul_right _ (by omega)
    have h3 : ((top + 1) * 1000000000 * 1000000000) * P = 1000000000 * (((top + 1) * 1000000000) * P) := by grind
    have h4 : (top * 1000000000 + nxt + 1) * P = (top * 1000000000 + nxt) * P + P := by rw [Nat.add_mul _ 1 P, Nat.one_mul]
    omega
  · exact h
theorem kd_first (hv : v = (top * 1000000000 + nxt) * P + vl) (hv0 : 0 < v) (ht : 0 < top) (h1 : u1 < 1000000000) (h2 : u2 < 1000000000) (hul : ul < P) (hUv : U = ((u0 * 1000000000 + u1) * 1000000000 + u2) * P + ul) (hq : q = U / v) : q ≤ (u0 * 1000000000 + u1) / top := by
  rw [Nat.le_div_iff_mul_le ht]
  rcases Nat.lt_or_ge (u0 * 1000000000 + u1) (q * top) with h | h
  · exfalso
    have g1 : q * v ≤ U := by rw [hq]; exact Nat.div_mul_le_self _ _
    have g2 : ((u0 * 1000000000 + u1 + 1) * 1000000000) * P ≤ ((q * top) * 1000000000) * P := Nat.mul_le_mul_right _ (Nat.mul_le_mul_right _ h)
    have g3 : q * v = ((q * top) * 1000000000) * P + (q * nxt * P + q * vl) := by rw [hv]; grind
    have g4 : ((u0 * 1000000000 + u1) * 1000000000 + u2 + 1) * P ≤ ((u0 * 1000000000 + u1 + 1) * 1000000000) * P := Nat.mul_le_mul_right _ (by omega)
    have g5 : ((u0 * 1000000000 + u1) * 1000000000 + u2 + 1) * P = ((u0 * 1000000000 + u1) * 1000000000 + u2) * P + P := by rw [Nat.add_mul _ 1 P, Nat.one_mul]
    omega
  · exact h
theorem kd_two (hv : v = (top * 1000000000 + nxt) * P + vl) (hv0 : 0 < v) (hP : 0 < P) (hvl : vl < P) (hn : nxt < 1000000000) (ht : 500000000 ≤ top) (htB : top < 1000000000) (h1 : u1 < 1000000000) (h0 : u0 ≤ top) (hUv : U = ((u0 * 1000000000 + u1) * 1000000000 + u2) * P + ul) (hq : q = U / v) : (u0 * 1000000000 + u1) / top ≤ q + 2 := by
  generalize hg : (u0 * 1000000000 + u1) / top = g
  have g0 : g * top ≤ u0 * 1000000000 + u1 := by rw [← hg]; exact Nat.div_mul_le_self _ _
  have gle : g ≤ 1000000001 := by
    rcases Nat.lt_or_ge 1000000001 g with h | h
    · exfalso
      have a1 : 1000000002 * top ≤ g * top := Nat.mul_le_mul_right _ h
      have a2 : u0 * 1000000000 ≤ top * 1000000000 := Nat.mul_le_mul_right _ h0
      omega
    · exact h
  rcases Nat.lt_or_ge (q + 2) g with h | h
  · exfalso
    have b1 : U < (q + 1) * v := by
      have := Nat.div_add_mod U v
      have m := Nat.mod_lt U hv0
      rw [← hq] at this
      rw [Nat.add_mul, Nat.one_mul, Nat.mul_comm q]
      omega
    have b2 : (q + 1) * v ≤ (g - 2) * v := Nat.mul_le_mul_right _ (by omega)
    have b3 : v ≤ ((top + 1) * 1000000000) * P := by
      have h3 : (top * 1000000000 + nxt + 1) * P ≤ ((top + 1) * 1000000000) * P := Nat.mul_le_mul_right _ (by omega)
      have h4 : (top * 1000000000 + nxt + 1) * P = (top * 1000000000 + nxt) * P + P := by rw [Nat.add_mul _ 1 P, Nat.one_mul]
      omega
    have b4 : (g - 2) * v ≤ (g - 2) * (((top + 1) * 1000000000) * P) := Nat.mul_le_mul_left _ b3
    have b5 : (g * top * 1000000000) * P ≤ ((u0 * 1000000000 + u1) * 1000000000 + u2) * P := Nat.mul_le_mul_right _ (by omega)
    have b6 : (g - 2) * (((top + 1) * 1000000000) * P) = ((g - 2) * (top + 1)) * (1000000000 * P) := by grind
    have b7 : (g * top * 1000000000) * P = (g * top) * (1000000000 * P) := by grind
    have b8 : (g * top) * (1000000000 * P) < ((g - 2) * (top + 1)) * (1000000000 * P) := by omega
    have b9 : g * top < (g - 2) * (top + 1) := Nat.lt_of_mul_lt_mul_right b8
    obtain ⟨k, rfl⟩ : ∃ k, g = k + 2 := ⟨g - 2, by omega⟩
    have c1 : (k + 2) * top = k * top + 2 * top := by grind
    have c2 : (k + 2 - 2) * (top + 1) = k * top + k := by rw [Nat.add_sub_cancel]; grind
    rw [c1, c2] at b9
    omega
  · exact h
/-- too many -/
theorem kd_dec {g rest : Nat} (hv : v = (top * 1000000000 + nxt) * P + vl) (hv0 : 0 < v) (hul : ul < P) (hUv : U = ((u0 * 1000000000 + u1) * 1000000000 + u2) * P + ul) (hq : q = U / v) (hl : u0 * 1000000000 + u1 = g * top + rest) (h : rest * 1000000000 + u2 < g * nxt) : q < g := by
  rw [hq]
  refine (Nat.div_lt_iff_lt_mul hv0).mpr ?_
  have h1 : (u0 * 1000000000 + u1) * 1000000000 + u2 + 1 ≤ g * top * 1000000000 + g * nxt := by rw [hl]; omega
  have h2 := Nat.mul_le_mul_right P h1
  have h3 : (g * top * 1000000000 + g * nxt) * P = g * ((top * 1000000000 + nxt) * P) := by grind
  have h5 : ((u0 * 1000000000 + u1) * 1000000000 + u2 + 1) * P = ((u0 * 1000000000 + u1) * 1000000000 + u2) * P + P := by rw [Nat.add_mul _ 1 P, Nat.one_mul]
  have h6 : g * v = g * ((top * 1000000000 + nxt) * P) + g * vl := by rw [hv, Nat.mul_add]
  omega
/-- right, or one too many -/
theorem kd_ok {g rest : Nat} (hv : v = (top * 1000000000 + nxt) * P + vl) (hv0 : 0 < v) (hvl : vl < P) (ht : 500000000 ≤ top) (hUv : U = ((u0 * 1000000000 + u1) * 1000000000 + u2) * P + ul) (hq : q = U / v) (hl : u0 * 1000000000 + u1 = g * top + rest) (hg : g < 1000000000) (h : g * nxt ≤ rest * 1000000000 + u2) : g ≤ q + 1 := by
  rcases Nat.eq_zero_or_pos g with hz | hz
  · omega
  · obtain ⟨k, rfl⟩ : ∃ k, g = k + 1 := ⟨g - 1, by omega⟩
    have key : k ≤ q := by
      rw [hq, Nat.le_div_iff_mul_le hv0]
      have h1 : (k + 1) * (top * 1000000000 + nxt) ≤ (u0 * 1000000000 + u1) * 1000000000 + u2 := by
        rw [hl]
        have : (k + 1) * (top * 1000000000 + nxt) = (k + 1) * top * 1000000000 + (k + 1) * nxt := by grind
        rw [this]
        omega
      have h2 := Nat.mul_le_mul_right P h1
      have h3 : k * v ≤ k * ((top * 1000000000 + nxt + 1) * P) := Nat.mul_le_mul_left _ (by
        have h4 : (top * 1000000000 + nxt + 1) * P = (top * 1000000000 + nxt) * P + P := by rw [Nat.add_mul _ 1 P, Nat.one_mul]
        omega)
      have h5 : k * (top * 1000000000 + nxt + 1) ≤ (k + 1) * (top * 1000000000 + nxt) := by
        have : (k + 1) * (top * 1000000000 + nxt) = k * (top * 1000000000 + nxt) + (top * 1000000000 + nxt) := by grind
        have h7 : k * (top * 1000000000 + nxt + 1) = k * (top * 1000000000 + nxt) + k := by grind
        omega
      have h6 := Nat.mul_le_mul_right P h5
      have h8 : k * ((top * 1000000000 + nxt + 1) * P) = k * (top * 1000000000 + nxt + 1) * P := by rw [Nat.mul_assoc]
      omega
    omega
/-- a rest beyond the base: the test would pass -/
theorem kd_rest {g rest : Nat} (hn : nxt < 1000000000) (h1 : u1 < 1000000000) (h0 : u0 ≤ top) (hl : u0 * 1000000000 + u1 = g * top + rest) (h : 1000000000 ≤ rest) : g < 1000000000 ∧ g * nxt ≤ rest * 1000000000 + u2 := by
  have hg : g < 1000000000 := by
    rcases Nat.lt_or_ge g 1000000000 with q | q
    · exact q
    · exfalso
      have a1 : 1000000000 * top ≤ g * top := Nat.mul_le_mul_right _ q
      have a2 : u0 * 1000000000 ≤ top * 1000000000 := Nat.mul_le_mul_right _ h0
      omega
  refine ⟨hg, ?_⟩
  have a1 : g * nxt ≤ 1000000000 * 1000000000 := Nat.mul_le_mul (by omega) (by omega)
  have a2 : 1000000000 * 1000000000 ≤ rest * 1000000000 := Nat.mul_le_mul_right _ h
  omega
end KD
/-- what a subtraction leaves: n limbs, with M the base to the power n -/
theorem kd_fit {M v U q g ut ulow new carry : Nat} (hM : v ≤ M) (hv0 : 0 < v) (hq : q = U / v) (hg1 : q ≤ g) (hg2 : g ≤ q + 1) (hU : U = ut * M + ulow) (hnew : new < M) (h : new + g * v = ulow + carry * M) : (carry ≤ ut → g = q ∧ new = U % v) ∧ (ut < carry → g = q + 1 ∧ new + v = U % v + M) := by
  have hd := Nat.div_add_mod U v
  have hm := Nat.mod_lt U hv0
  rw [← hq] at hd
  have e1 : new + g * v + ut * M = U + carry * M := by omega
  rcases (show g = q ∨ g = q + 1 by omega) with rfl | rfl
  · have e2 : new + ut * M = U % v + carry * M := by
      rw [Nat.mul_comm v] at hd
      omega
    have : ut = carry := by
      rcases Nat.lt_trichotomy ut carry with z | z | z
      · have := Nat.mul_le_mul_right M z
        rw [Nat.succ_mul] at this
        omega
      · exact z
      · have := Nat.mul_le_mul_right M z
        rw [Nat.succ_mul] at this
        omega
    subst this
    exact ⟨fun _ => ⟨rfl, by omega⟩, fun z => absurd z (Nat.lt_irrefl _)⟩
  · have e2 : new + v + ut * M = U % v + carry * M := by
      rw [Nat.add_mul, Nat.one_mul] at e1
      rw [Nat.mul_comm v] at hd
      omega
    have : carry = ut + 1 := by
      rcases Nat.lt_trichotomy carry (ut + 1) with z | z | z
      · have := Nat.mul_le_mul_right M (show carry ≤ ut by omega)
        omega
      · exact z
      · have := Nat.mul_le_mul_right M (show ut + 2 ≤ carry by omega)
        rw [Nat.add_mul] at this
        omega
    subst this
    refine ⟨fun z => absurd z (by omega), fun _ => ⟨rfl, ?_⟩⟩
    rw [Nat.add_mul, Nat.one_mul] at e2
    omega
