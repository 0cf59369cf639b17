/-! ===== level 2: opening a number; bounds ===== -/
theorem w2_N {cA : Nat → ClassId} {X : Nat × Nat} {ad V : Nat → Nat} {G : gT} {B : Nat × Nat} (hW : w2 cA X ad V (G, B)) {t : Nat} (ht : t < 19) : ∃ (κ a z : Nat) (f : Nat → Int32), G (ad t) = some (t, .inr (4, [.ref a, .int (nI z)])) ∧ G a = some (t, .inl (cA 0, κ, .inl f)) ∧ z ≤ κ ∧ isD f z (V t) ∧ κ ≤ 3000 := by
  obtain ⟨k, h1, -, -⟩ := hW
  obtain ⟨⟨a, z, f, q1, q2, q3, q4⟩, q5⟩ := h1 t ht
  exact ⟨k t, a, z, f, q1, q2, q3, q4, q5⟩
theorem lb_mul {a b i j : Nat} (ha : a < 1000000000 ^ i) (hb : b < 1000000000 ^ j) : a * b < 1000000000 ^ (i + j) := by
  rw [Nat.pow_add]
  rcases Nat.eq_zero_or_pos b with h | h
  · subst h
    exact Nat.mul_pos (pB_pos i) (pB_pos j)
  · exact Nat.lt_of_lt_of_le (Nat.mul_lt_mul_of_pos_right ha h) (Nat.mul_le_mul_left _ (Nat.le_of_lt hb))
theorem lb_up {a i j : Nat} (ha : a < 1000000000 ^ i) (h : i ≤ j) : a < 1000000000 ^ j := Nat.lt_of_lt_of_le ha (Nat.pow_le_pow_right (by decide) h)
theorem lb_add {a b i j : Nat} (ha : a < 1000000000 ^ i) (hb : b < 1000000000 ^ j) : a + b < 1000000000 ^ (i + j + 1) := by
  have h1 := lb_up ha (show i ≤ i + j by omega)
  have h2 := lb_up hb (show j ≤ i + j by omega)
  rw [pB_s]
  omega
theorem lb_gcd {a b i : Nat} (ha : a < 1000000000 ^ i) (hb : b < 1000000000 ^ i) : Nat.gcd a b < 1000000000 ^ i := by
  rcases Nat.eq_zero_or_pos a with h | h
  · subst h
    rw [Nat.gcd_zero_left]
    exact hb
  · exact Nat.lt_of_le_of_lt (Nat.gcd_le_left b h) ha
theorem two_B (k : Nat) : 1000000000 ^ k ≤ 2 ^ (30 * k) := by
  rw [Nat.pow_mul]
  exact Nat.pow_le_pow_left (by decide) k
theorem lb_two {a b k n : Nat} (ha : a < 1000000000 ^ k) (hb : b < 1000000000 ^ k) (hn : 60 * k ≤ n) : a * b < 2 ^ n := by
  have h1 := lb_mul ha hb
  have h2 := two_B (k + k)
  have h3 : 2 ^ (30 * (k + k)) ≤ 2 ^ n := Nat.pow_le_pow_right (by decide) (by omega)
  omega
theorem half_lt {p q n : Nat} (h : q < 2 ^ (n + 1)) (hp : 2 * p ≤ q) : p < 2 ^ n := by
  rw [Nat.pow_succ] at h
  omega
theorem prod_0 {a b : Nat} (h : a * b < 2 ^ 0) (hb : b ≤ a) : b = 0 := by
  rcases Nat.eq_zero_or_pos b with q | q
  · exact q
  · have : 0 < a * b := Nat.mul_pos (by omega) q
    simp at h
    omega
theorem euc_half {a b : Nat} (hb : 0 < b) (h : b ≤ a) : 2 * (b * (a % b)) ≤ a * b := by
  have h1 := Nat.mod_lt a hb
  have h2 := Nat.div_add_mod a b
  have h3 : 1 ≤ a / b := Nat.div_pos h hb
  have h4 : b * 1 ≤ b * (a / b) := Nat.mul_le_mul_left _ h3
  have h5 : b * (2 * (a % b)) ≤ b * a := Nat.mul_le_mul_left _ (by omega)
  have e1 : b * (2 * (a % b)) = 2 * (b * (a % b)) := by grind
  rw [Nat.mul_comm a b]
  omega
theorem gcd_step (a b : Nat) : Nat.gcd b (a % b) = Nat.gcd a b := by rw [Nat.gcd_comm a b, Nat.gcd_rec b a, Nat.gcd_comm]
theorem isD_2 {f : Nat → Int32} {z v : Nat} (h : isD f z v) (hz : z ≤ 2) : v < 1000000000 * 1000000000 := by
  have h1 := isD_lt h
  have h2 : 1000000000 ^ z ≤ 1000000000 ^ 2 := Nat.pow_le_pow_right (by decide) hz
  omega
theorem isD_3 {f : Nat → Int32} {z v : Nat} (h : isD f z v) (hz : 2 < z) : 1000000000 ^ 2 ≤ v := by
  have h1 := isD_ge h (by omega)
  have h2 : 1000000000 ^ 2 ≤ 1000000000 ^ (z - 1) := Nat.pow_le_pow_right (by decide) (by omega)
  omega
