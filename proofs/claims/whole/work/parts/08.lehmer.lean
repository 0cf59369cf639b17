/-! ===== THE COMMON DIVISOR BY LEHMER'S WAY: pure facts ===== -/
theorem lh_q {A B S X1 Y1 X2 Y2 q : Int} (hS : 0 < S) (h1 : A ≤ X1 * S) (h2 : Y1 * S ≤ B) (h3 : X2 * S ≤ A) (h4 : B ≤ Y2 * S) (hY1 : 0 < Y1) (hY2 : 0 < Y2) (hAB : B ≤ A) (hq1 : q = X1.tdiv Y1) (hq2 : q = X2.tdiv Y2) : 1 ≤ q ∧ q * B ≤ A ∧ A < (q + 1) * B := by
  have hYX : Y1 * S ≤ X1 * S := by omega
  have hYX : Y1 ≤ X1 := Int.le_of_mul_le_mul_right hYX hS
  have hX1 : 0 ≤ X1 := by omega
  have e1 : q = X1 / Y1 := by rw [hq1, Int.tdiv_eq_ediv_of_nonneg hX1]
  have hq : 1 ≤ q := by rw [e1]; exact (Int.le_ediv_iff_mul_le hY1).mpr (by omega)
  have hX2 : 0 ≤ X2 := by
    rcases Int.lt_or_le X2 0 with h | h
    · exfalso
      have : X2.tdiv Y2 = -((-X2).tdiv Y2) := by rw [Int.neg_tdiv]; omega
      have h5 : 0 ≤ (-X2).tdiv Y2 := Int.tdiv_nonneg (by omega) (by omega)
      omega
    · exact h
  have e2 : q = X2 / Y2 := by rw [hq2, Int.tdiv_eq_ediv_of_nonneg hX2]
  have g1 : X1 < (q + 1) * Y1 := by
    have := Int.lt_ediv_add_one_mul_self X1 hY1
    rw [← e1] at this
    exact this
  have g2 : q * Y2 ≤ X2 := by rw [e2]; exact Int.ediv_mul_le X2 (by omega)
  refine ⟨hq, ?_, ?_⟩
  · have a1 : q * B ≤ q * (Y2 * S) := Int.mul_le_mul_of_nonneg_left h4 (by omega)
    have a2 : (q * Y2) * S ≤ X2 * S := Int.mul_le_mul_of_nonneg_right g2 (by omega)
    rw [Int.mul_assoc] at a2
    omega
  · have a1 : (q + 1) * (Y1 * S) ≤ (q + 1) * B := Int.mul_le_mul_of_nonneg_left h2 (by omega)
    have a2 : X1 * S < ((q + 1) * Y1) * S := Int.mul_lt_mul_of_pos_right g1 hS
    rw [Int.mul_assoc] at a2
    omega
/-- the signs of the factors: they alternate -/
def lh_sg (a b c d : Int) : Prop := (0 ≤ a ∧ b ≤ 0 ∧ c ≤ 0 ∧ 0 ≤ d) ∨ (a ≤ 0 ∧ 0 ≤ b ∧ 0 ≤ c ∧ d ≤ 0)
def lh_bd (a : Int) : Prop := -2000000000 ≤ a ∧ a ≤ 2000000000
/-- big and small are A and B; their leading digits x0 and y0, at the scale S; so many steps have been done -/
def lh_I (A B S x0 y0 : Nat) (a b c d x y : Int) : Prop := ∃ M N : Nat, (M : Int) = a * A + b * B ∧ (N : Int) = c * A + d * B ∧ N ≤ M ∧ M ≤ A ∧ Nat.gcd M N = Nat.gcd A B ∧ x = a * x0 + b * y0 ∧ y = c * x0 + d * y0 ∧ lh_sg a b c d ∧ lh_bd a ∧ lh_bd b ∧ lh_bd c ∧ lh_bd d ∧ M * N ≤ A * B ∧ (b = 0 ∨ 2 * (M * N) ≤ A * B)
theorem lh_0 {A B S x0 y0 : Nat} (h : B ≤ A) : lh_I A B S x0 y0 1 0 0 1 x0 y0 :=
  ⟨A, B, by omega, by omega, h, Nat.le_refl _, rfl, by omega, by omega, Or.inl ⟨by omega, by omega, by omega, by omega⟩, ⟨by omega, by omega⟩, ⟨by omega, by omega⟩, ⟨by omega, by omega⟩, ⟨by omega, by omega⟩, Nat.le_refl _, Or.inl rfl⟩
/-- where a number lies by its leading digits -/
theorem lh_in {S α β : Int} {a b : Int} (hS : 0 < S) (hα : 0 ≤ α) (hα2 : α ≤ S) (hβ : 0 ≤ β) (hβ2 : β ≤ S) : (0 ≤ a → b ≤ 0 → b * S ≤ a * α + b * β ∧ a * α + b * β ≤ a * S) := by
  intro ha hb
  have h1 : 0 ≤ a * α := Int.mul_nonneg ha hα
  have h2 : a * α ≤ a * S := Int.mul_le_mul_of_nonneg_left hα2 ha
  have h3 : b * β ≤ 0 := Int.mul_nonpos_of_nonpos_of_nonneg hb hβ
  have h4 : b * S ≤ b * β := Int.mul_le_mul_of_nonpos_left hb hβ2
  omega
theorem lh_at {A B S x0 y0 : Nat} {a b x : Int} {M : Nat} (hS : 0 < S) (hA : x0 * S ≤ A) (hA2 : A ≤ (x0 + 1) * S) (hB : y0 * S ≤ B) (hB2 : B ≤ (y0 + 1) * S) (hM : (M : Int) = a * A + b * B) (hx : x = a * x0 + b * y0) : (0 ≤ a → b ≤ 0 → (x + b) * S ≤ M ∧ (M : Int) ≤ (x + a) * S) ∧ (a ≤ 0 → 0 ≤ b → (x + a) * S ≤ M ∧ (M : Int) ≤ (x + b) * S) := by
  obtain ⟨α, hα⟩ : ∃ α : Nat, A = x0 * S + α := ⟨A - x0 * S, by omega⟩
  obtain ⟨β, hβ⟩ : ∃ β : Nat, B = y0 * S + β := ⟨B - y0 * S, by omega⟩
  rw [Nat.add_mul, Nat.one_mul] at hA2 hB2
  have e : (M : Int) = x * S + (a * α + b * β) := by
    rw [hM, hx, hα, hβ]
    push_cast
    grind
  have s1 : (0 : Int) < S := by omega
  have s2 : (α : Int) ≤ S := by omega
  have s3 : (β : Int) ≤ S := by omega
  refine ⟨fun h1 h2 => ?_, fun h1 h2 => ?_⟩
  · obtain ⟨g1, g2⟩ := lh_in (a := a) (b := b) s1 (Int.natCast_nonneg α) s2 (Int.natCast_nonneg β) s3 h1 h2
    rw [Int.add_mul, Int.add_mul, e]
    omega
  · obtain ⟨g1, g2⟩ := lh_in (a := b) (b := a) s1 (Int.natCast_nonneg β) s3 (Int.natCast_nonneg α) s2 h2 h1
    rw [Int.add_mul, Int.add_mul, e]
    omega
/-- Euclid's step, as the factors do it -/
theorem lh_step {A B S x0 y0 : Nat} {a b c d x y q : Int} (hS : 0 < S) (hA : x0 * S ≤ A) (hA2 : A ≤ (x0 + 1) * S) (hB : y0 * S ≤ B) (hB2 : B ≤ (y0 + 1) * S) (h : lh_I A B S x0 y0 a b c d x y) (hc : 0 < y + c) (hd : 0 < y + d) (hq1 : q = (x + a).tdiv (y + c)) (hq2 : q = (x + b).tdiv (y + d)) (hbc : lh_bd (a - q * c)) (hbd : lh_bd (b - q * d)) : lh_I A B S x0 y0 c d (a - q * c) (b - q * d) y (x - q * y) := by
  obtain ⟨M, N, hM, hN, hNM, hMA, hg, hx, hy, hsg, ba, bb, bc, bd, t3, hms⟩ := h
  have kM := lh_at hS hA hA2 hB hB2 hM hx
  have kN := lh_at hS hA hA2 hB hB2 hN hy
  have s1 : (0 : Int) < S := by omega
  have key : 1 ≤ q ∧ q * N ≤ M ∧ (M : Int) < (q + 1) * N := by
    rcases hsg with ⟨g1, g2, g3, g4⟩ | ⟨g1, g2, g3, g4⟩
    · exact lh_q s1 (kM.1 g1 g2).2 (kN.2 g3 g4).1 (kM.1 g1 g2).1 (kN.2 g3 g4).2 hc hd (by omega) hq1 hq2
    · exact lh_q s1 (kM.2 g1 g2).2 (kN.1 g3 g4).1 (kM.2 g1 g2).1 (kN.1 g3 g4).2 hd hc (by omega) hq2 hq1
  obtain ⟨q1, q2, q3⟩ := key
  obtain ⟨n, rfl⟩ : ∃ n : Nat, q = n := ⟨q.toNat, by omega⟩
  have r1 : n * N ≤ M := by exact_mod_cast q2
  have r2 : M < (n + 1) * N := by exact_mod_cast q3
  have hdiv : M / N = n := Nat.div_eq_of_lt_le r1 r2
  have hmod : M % N = M - n * N := by
    have := Nat.div_add_mod M N
    rw [hdiv, Nat.mul_comm] at this
    omega
  have hN0 : 0 < N := by
    rcases Nat.eq_zero_or_pos N with z | z
    · subst z; simp at r2
    · exact z
  have hlt := Nat.mod_lt M hN0
  have t1 : N + M % N ≤ M := by
    rw [hmod]
    have : 1 * N ≤ n * N := Nat.mul_le_mul_right _ (by omega)
    omega
  have t2 : 2 * (N * (M % N)) ≤ M * N := by
    have : N * (2 * (M % N)) ≤ N * M := Nat.mul_le_mul_left _ (by omega)
    have e1 : N * (2 * (M % N)) = 2 * (N * (M % N)) := by grind
    rw [Nat.mul_comm M N]
    omega
  refine ⟨N, M % N, hN, ?_, Nat.le_of_lt hlt, by omega, ?_, hy, ?_, ?_, bc, bd, hbc, hbd, by omega, Or.inr (by omega)⟩
  · rw [hmod, Int.natCast_sub r1]
    push_cast
    rw [hM, hN]
    grind
  · rw [← hg, Nat.gcd_comm M N, Nat.gcd_rec N M, Nat.gcd_comm]
  · rw [hx, hy]
    grind
  · rcases hsg with ⟨g1, g2, g3, g4⟩ | ⟨g1, g2, g3, g4⟩
    · have t1 : (n : Int) * c ≤ 0 := Int.mul_nonpos_of_nonneg_of_nonpos (by omega) g3
      have t2 : 0 ≤ (n : Int) * d := Int.mul_nonneg (by omega) g4
      exact Or.inr ⟨g3, g4, by omega, by omega⟩
    · have t1 : 0 ≤ (n : Int) * c := Int.mul_nonneg (by omega) g3
      have t2 : (n : Int) * d ≤ 0 := Int.mul_nonpos_of_nonneg_of_nonpos (by omega) g4
      exact Or.inl ⟨g3, g4, by omega, by omega⟩
