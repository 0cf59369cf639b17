/-! ===== Euclid's rounds; floor division ===== -/
def efs : Nat → Nat → Nat → Nat
  | 0, x, _ => x
  | n + 1, x, y => if y = 0 then x else efs n y (x % y)
theorem efs_0 (x y : Nat) : efs 0 x y = x := rfl
theorem efs_z (n x : Nat) : efs n x 0 = x := by cases n <;> simp [efs]
theorem efs_s {n x y : Nat} (h : y ≠ 0) : efs (n + 1) x y = efs n y (x % y) := by
  simp only [efs]
  rw [if_neg h]
def fb : Nat → Nat
  | 0 => 0
  | 1 => 1
  | n + 2 => fb n + fb (n + 1)
theorem fb_ss (n : Nat) : fb (n + 2) = fb n + fb (n + 1) := rfl
theorem fb_up : ∀ n, fb n ≤ fb (n + 1)
  | 0 => by decide
  | n + 1 => by rw [fb_ss]; omega
theorem fb_10 (n : Nat) : 89 * fb n ≤ fb (n + 10) := by
  have h := fb_up n
  have a1 := fb_ss n
  have a2 := fb_ss (n + 1)
  have a3 := fb_ss (n + 2)
  have a4 := fb_ss (n + 3)
  have a5 := fb_ss (n + 4)
  have a6 := fb_ss (n + 5)
  have a7 := fb_ss (n + 6)
  have a8 := fb_ss (n + 7)
  have a9 := fb_ss (n + 8)
  simp only [Nat.add_assoc, Nat.reduceAdd] at *
  omega
theorem fb_101 : 1000000000000000000 ≤ fb 101 := by
  have b1 : 89 ≤ fb 11 := by decide
  have h1 := fb_10 11
  have h2 := fb_10 21
  have h3 := fb_10 31
  have h4 := fb_10 41
  have h5 := fb_10 51
  have h6 := fb_10 61
  have h7 := fb_10 71
  have h8 := fb_10 81
  have h9 := fb_10 91
  simp only [Nat.reduceAdd] at *
  omega
theorem efs_gcd : ∀ (n x y : Nat), y < fb (n + 1) → efs n x y = Nat.gcd x y
  | 0, x, y, h => by
    have : y = 0 := by have e1 : fb (0 + 1) = 1 := rfl; omega
    subst this
    rw [efs_z, Nat.gcd_zero_right]
  | 1, x, y, h => by
    have : y = 0 := by have e1 : fb (1 + 1) = 1 := rfl; omega
    subst this
    rw [efs_z, Nat.gcd_zero_right]
  | n + 2, x, y, h => by
    by_cases hy : y = 0
    · subst hy
      rw [efs_z, Nat.gcd_zero_right]
    · rw [efs_s hy]
      have hg : Nat.gcd x y = Nat.gcd y (x % y) := by rw [Nat.gcd_comm x y, Nat.gcd_rec y x, Nat.gcd_comm]
      have hlt := Nat.mod_lt x (show 0 < y by omega)
      by_cases hr : x % y < fb (n + 1 + 1)
      · rw [efs_gcd (n + 1) y (x % y) hr, hg]
      · have hr0 : x % y ≠ 0 := by
          intro e
          rw [e] at hr
          have := fb_up (n + 1)
          have : 0 < fb (n + 1 + 1) := by
            have k : ∀ j, 0 < fb (j + 1) := by
              intro j
              induction j with
              | zero => decide
              | succ j ih => have := fb_up (j + 1); omega
            exact k (n + 1)
          omega
        rw [efs_s hr0]
        have h2 : y % (x % y) < fb (n + 1) := by
          have e1 : y % (x % y) ≤ y - x % y := by
            have d1 := Nat.div_add_mod y (x % y)
            have d2 : 1 ≤ y / (x % y) := Nat.div_pos (by omega) (by omega)
            have d3 : x % y * 1 ≤ x % y * (y / (x % y)) := Nat.mul_le_mul_left _ d2
            omega
          have e2 := fb_ss (n + 1)
          simp only [Nat.add_assoc, Nat.reduceAdd] at *
          omega
        rw [efs_gcd n (x % y) (y % (x % y)) h2, hg]
        rw [Nat.gcd_comm y (x % y), Nat.gcd_rec (x % y) y, Nat.gcd_comm]
theorem lI_tdiv {a b : Int} (ha1 : -9223372036854775808 ≤ a) (ha2 : a < 9223372036854775808) (hb1 : -9223372036854775808 ≤ b) (hb2 : b < 9223372036854775808) : lI a / lI b = lI (a.tdiv b) := by
  have e1 : Int64.maxValue.toInt = 9223372036854775807 := by decide
  have e2 : Int64.minValue.toInt = -9223372036854775808 := by decide
  exact (Int64.ofInt_tdiv (by omega) (by omega) (by omega) (by omega)).symm
theorem xor_neg (x : Int64) : x ^^^ lN 1000000000 < lN 0 ↔ x < lN 0 := by
  rw [Int64.lt_iff_toBitVec_slt, Int64.lt_iff_toBitVec_slt, Int64.toBitVec_xor]
  show (x.toBitVec ^^^ (lN 1000000000).toBitVec).slt 0#64 = true ↔ x.toBitVec.slt 0#64 = true
  rw [BitVec.slt_zero_eq_msb, BitVec.slt_zero_eq_msb, BitVec.msb_xor]
  have : (lN 1000000000).toBitVec.msb = false := by decide
  rw [this, Bool.xor_false]
/-- truncated division by the base, and the floor -/
theorem td_q (a : Int) : ∃ q : Int, a.tdiv 1000000000 = q ∧ (0 ≤ a → q = a / 1000000000) ∧ (a < 0 → q = -((-a) / 1000000000)) := by
  refine ⟨a.tdiv 1000000000, rfl, fun h => Int.tdiv_eq_ediv_of_nonneg h, fun h => ?_⟩
  have : a.tdiv 1000000000 = -((-a).tdiv 1000000000) := by rw [Int.neg_tdiv, Int.neg_neg]
  rw [this, Int.tdiv_eq_ediv_of_nonneg (by omega)]
