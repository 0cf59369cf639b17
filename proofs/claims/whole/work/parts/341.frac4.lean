/-! ===== orders of fractions, roundings ===== -/
theorem cmp_sg {p1 p2 : Int} {q1 q2 : Nat} (h1 : 0 < q1) (h2 : 0 < q2) (hne : ¬ sgI p1 = sgI p2) : (sgI p2 ≤ sgI p1 → nI 1 = sgI (p1 * q2 - p2 * q1)) ∧ (¬ sgI p2 ≤ sgI p1 → (-1 : Int32) = sgI (p1 * q2 - p2 * q1)) := by
  have a1 : (0 : Int) < q1 := by omega
  have a2 : (0 : Int) < q2 := by omega
  rcases sgI_c p1 with ⟨c1, e1⟩ | ⟨c1, e1⟩ | ⟨c1, e1⟩ <;> rcases sgI_c p2 with ⟨c2, e2⟩ | ⟨c2, e2⟩ | ⟨c2, e2⟩
  · exact absurd (e1.trans e2.symm) hne
  · subst c2
    have := Int.mul_neg_of_neg_of_pos c1 a2
    rw [e1, e2]
    exact ⟨fun z => absurd z (by decide), fun _ => (sgI_neg (by omega)).symm⟩
  · have b1 := Int.mul_neg_of_neg_of_pos c1 a2
    have b2 := Int.mul_pos c2 a1
    rw [e1, e2]
    exact ⟨fun z => absurd z (by decide), fun _ => (sgI_neg (by omega)).symm⟩
  · subst c1
    have := Int.mul_neg_of_neg_of_pos c2 a1
    rw [e1, e2]
    exact ⟨fun _ => (sgI_pos (by omega)).symm, fun z => absurd (by decide) z⟩
  · exact absurd (e1.trans e2.symm) hne
  · subst c1
    have := Int.mul_pos c2 a1
    rw [e1, e2]
    exact ⟨fun z => absurd z (by decide), fun _ => (sgI_neg (by omega)).symm⟩
  · have b1 := Int.mul_pos c1 a2
    have b2 := Int.mul_neg_of_neg_of_pos c2 a1
    rw [e1, e2]
    exact ⟨fun _ => (sgI_pos (by omega)).symm, fun z => absurd (by decide) z⟩
  · subst c2
    have := Int.mul_pos c1 a2
    rw [e1, e2]
    exact ⟨fun _ => (sgI_pos (by omega)).symm, fun z => absurd (by decide) z⟩
  · exact absurd (e1.trans e2.symm) hne
theorem cmp_eq {p1 p2 : Int} {q1 q2 : Nat} (he : sgI p1 = sgI p2) : (p1 < 0 → (p1.natAbs * q2 < p2.natAbs * q1 → sgI (p1 * q2 - p2 * q1) = 1) ∧ (p2.natAbs * q1 < p1.natAbs * q2 → sgI (p1 * q2 - p2 * q1) = -1)) ∧ (¬ p1 < 0 → (p1.natAbs * q2 < p2.natAbs * q1 → sgI (p1 * q2 - p2 * q1) = -1) ∧ (p2.natAbs * q1 < p1.natAbs * q2 → sgI (p1 * q2 - p2 * q1) = 1)) ∧ (p1.natAbs * q2 = p2.natAbs * q1 → sgI (p1 * q2 - p2 * q1) = 0) := by
  have hs : (p1 < 0 ∧ p2 < 0) ∨ (0 ≤ p1 ∧ 0 ≤ p2) := by
    rcases sgI_c p1 with ⟨c1, e1⟩ | ⟨c1, e1⟩ | ⟨c1, e1⟩ <;> rcases sgI_c p2 with ⟨c2, e2⟩ | ⟨c2, e2⟩ | ⟨c2, e2⟩ <;> first
      | exact Or.inl ⟨c1, c2⟩
      | exact Or.inr ⟨by omega, by omega⟩
      | (rw [e1, e2] at he; exact absurd he (by decide))
  rcases hs with ⟨h1, h2⟩ | ⟨h1, h2⟩
  · obtain ⟨m, rfl⟩ : ∃ m : Nat, p1 = -(m : Int) := ⟨p1.natAbs, by omega⟩
    obtain ⟨n, rfl⟩ : ∃ n : Nat, p2 = -(n : Int) := ⟨p2.natAbs, by omega⟩
    have e1 : (-(m : Int)).natAbs = m := by omega
    have e2 : (-(n : Int)).natAbs = n := by omega
    rw [e1, e2]
    have e3 : -(m : Int) * q2 - -(n : Int) * q1 = ((n * q1 : Nat) : Int) - ((m * q2 : Nat) : Int) := by push_cast; grind
    rw [e3]
    refine ⟨fun _ => ⟨fun z => sgI_pos (by omega), fun z => sgI_neg (by omega)⟩, fun z => absurd h1 z, fun z => ?_⟩
    rw [z, Int.sub_self]; rfl
  · obtain ⟨m, rfl⟩ : ∃ m : Nat, p1 = (m : Int) := ⟨p1.natAbs, by omega⟩
    obtain ⟨n, rfl⟩ : ∃ n : Nat, p2 = (n : Int) := ⟨p2.natAbs, by omega⟩
    rw [Int.natAbs_natCast, Int.natAbs_natCast, ← Int.natCast_mul, ← Int.natCast_mul]
    refine ⟨fun z => absurd z (by omega), fun _ => ⟨fun z => sgI_neg (by omega), fun z => sgI_pos (by omega)⟩, fun z => ?_⟩
    rw [z, Int.sub_self]; rfl
/-- whether a rounding goes further, away from 0 -/
def gof (p : Int) (q Qn Rm rule : Nat) : Bool := if Rm = 0 then false else if rule = 0 then decide (p < 0) else if rule = 1 then decide (0 < p) else if Rm + Rm ≠ q then decide (q < Rm + Rm) else if rule = 2 then decide (0 < p) else decide (Qn % 2 = 1)
def b01 (b : Bool) : Nat := if b then 1 else 0
theorem b01_t : b01 true = 1 := rfl
theorem b01_f : b01 false = 0 := rfl
theorem sgn_abs {p : Int} {T : Nat} (h : p = 0 → T = 0) : (p.sign * (T : Int)).natAbs = T := by
  rcases Int.lt_trichotomy p 0 with q | q | q
  · rw [Int.sign_eq_neg_one_of_neg q]; omega
  · rw [h q]; simp
  · rw [Int.sign_eq_one_of_pos q]; omega
theorem sgn_sg {p : Int} {T : Nat} : (T = 0 → sgI (p.sign * (T : Int)) = 0) ∧ (T ≠ 0 → sgI (p.sign * (T : Int)) = sgI p) := by
  refine ⟨fun h => by rw [h]; simp [sgI_0], fun h => ?_⟩
  rw [sgI_mulp (by omega)]
  rcases Int.lt_trichotomy p 0 with q | q | q
  · rw [Int.sign_eq_neg_one_of_neg q, sgI_neg q]; decide
  · rw [q]; rfl
  · rw [Int.sign_eq_one_of_pos q, sgI_pos q]; decide
theorem sgn_mul {x y : Int} (hy : y ≠ 0) : (x * y.sign).natAbs = x.natAbs := by
  rw [Int.natAbs_mul]
  rcases Int.lt_trichotomy y 0 with q | q | q
  · rw [Int.sign_eq_neg_one_of_neg q]; simp
  · exact absurd q hy
  · rw [Int.sign_eq_one_of_pos q]; simp
theorem sgn_of {x y : Int} : sgI (x * y.sign) = sgI (x * y) := by
  rw [← sgI_mul, ← sgI_mul]
  congr 1
  rcases Int.lt_trichotomy y 0 with q | q | q
  · rw [Int.sign_eq_neg_one_of_neg q, sgI_neg q]; decide
  · rw [q]; rfl
  · rw [Int.sign_eq_one_of_pos q, sgI_pos q]; decide
theorem lb_long {x : Int} (h1 : -9223372036854775808 ≤ x) (h2 : x < 9223372036854775808) : x.natAbs < 1000000000 ^ 3 := by
  have : (1000000000 : Nat) ^ 3 = 1000000000000000000000000000 := by decide
  omega
