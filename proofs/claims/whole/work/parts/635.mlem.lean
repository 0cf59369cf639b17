theorem lt_pow3 {v : Nat} (h : v < 9223372036854775808) : v < 1000000000 ^ 3 := by
  have e : (1000000000 : Nat) ^ 3 = 1000000000000000000000000000 := by decide
  omega
theorem lt_pow2 {v : Nat} (h : v ≤ 1000000000) : v < 1000000000 ^ 2 := by
  have e : (1000000000 : Nat) ^ 2 = 1000000000000000000 := by decide
  omega
