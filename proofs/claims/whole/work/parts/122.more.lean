/-! ===== more pure facts on limbs ===== -/
theorem dv_set {f : Nat → Int32} {i x : Nat} (hx : x < 2 ^ 31) : ∀ {n : Nat}, i < n → dv (df (upd f i (nI x))) n + df f i * 1000000000 ^ i = dv (df f) n + x * 1000000000 ^ i
  | 0, h => absurd h (Nat.not_lt_zero _)
  | n + 1, h => by
    by_cases e : i = n
    · subst e
      rw [dv_upd_s hx, dv_s]
      omega
    · have ih := dv_set (f := f) hx (show i < n by omega)
      rw [dv_s, dv_s, df_un (fun q => e q.symm)]
      omega
theorem st_prd {i j c0 x y q r c1 S S0 Y : Nat} (h : S + c0 * 1000000000 ^ (i + j) = S0 + x * Y * 1000000000 ^ i) (e : x * y + q + c0 = r + c1 * 1000000000) : (S + r * 1000000000 ^ (i + j)) + c1 * 1000000000 ^ (i + j + 1) = (S0 + q * 1000000000 ^ (i + j)) + x * (Y + y * 1000000000 ^ j) * 1000000000 ^ i := by
  rw [pB_s]
  rw [Nat.pow_add] at *
  generalize 1000000000 ^ i = P at *
  generalize 1000000000 ^ j = R at *
  have e2 : (x * y + q + c0) * (P * R) = (r + c1 * 1000000000) * (P * R) := by rw [e]
  grind
theorem st_red {v w d m A A2 r q r2 P : Nat} (e1 : A2 + d * P = A + q * P) (K : v + (w + d * P) * m = A * m + r * (1000000000 * P) + (w + d * P)) (L : r * 1000000000 + d = q * m + r2) : v + w * m = A2 * m + r2 * P + w := by
  have f1 : (A2 + d * P) * m = (A + q * P) * m := by rw [e1]
  have f2 : (r * 1000000000 + d) * P = (q * m + r2) * P := by rw [L]
  grind
theorem rd_q {r d m : Nat} (hr : r < m) (hd : d < 1000000000) : (r * 1000000000 + d) / m < 1000000000 := by
  rw [Nat.div_lt_iff_lt_mul (by omega)]
  have : (r + 1) * 1000000000 ≤ m * 1000000000 := Nat.mul_le_mul_right _ hr
  omega
theorem qr_of {v Q m r : Nat} (h : v = Q * m + r) (hr : r < m) : Q = v / m ∧ r = v % m := by
  have h1 : v / m = Q := Nat.div_eq_of_lt_le (by omega) (by rw [Nat.add_mul]; omega)
  have h2 := Nat.div_add_mod v m
  rw [h1, Nat.mul_comm] at h2
  exact ⟨h1.symm, by omega⟩
theorem lim_ext {f : Nat → Int32} {n k : Nat} (h : lim f n) (hz : ∀ j, n ≤ j → j < k → f j = nI 0) : lim f k := fun i hi => by
  by_cases e : i < n
  · exact h i e
  · have h0 := hz i (by omega) hi
    unfold df
    rw [h0]
    exact ⟨rfl, by decide⟩
theorem dv_ext {f : Nat → Int32} {n k : Nat} (hn : n ≤ k) (hz : ∀ j, n ≤ j → j < k → f j = nI 0) : dv (df f) k = dv (df f) n := by
  obtain ⟨m, rfl⟩ : ∃ m, k = n + m := ⟨k - n, by omega⟩
  exact dv_zero (fun i h1 h2 => by unfold df; rw [hz i h1 h2]; rfl)
