/-! ===== decimal digits of a number in limbs ===== -/
theorem pB_ten (n : Nat) : 1000000000 ^ n = 10 ^ (9 * n) := by rw [Nat.pow_mul]
/-- v has K digits -/
def isK (v K : Nat) : Prop := (v = 0 ∧ K = 1) ∨ (0 < v ∧ 1 ≤ K ∧ 10 ^ (K - 1) ≤ v ∧ v < 10 ^ K)
theorem isK_uniq {v K K2 : Nat} (h : isK v K) (h2 : isK v K2) : K = K2 := by
  rcases h with ⟨a, b⟩ | ⟨a, b, c, d⟩ <;> rcases h2 with ⟨a2, b2⟩ | ⟨a2, b2, c2, d2⟩
  · omega
  · omega
  · omega
  · rcases Nat.lt_trichotomy K K2 with q | q | q
    · have : 10 ^ K ≤ 10 ^ (K2 - 1) := Nat.pow_le_pow_right (by decide) (by omega)
      omega
    · exact q
    · have : 10 ^ K2 ≤ 10 ^ (K - 1) := Nat.pow_le_pow_right (by decide) (by omega)
      omega
theorem isK_of {f : Nat → Int32} {z v D : Nat} (hD : isD f z v) (hz : 0 < z) (h1 : 1 ≤ D) (hlt : df f (z - 1) < 10 ^ D) (hge : D = 1 ∨ 10 ^ (D - 1) ≤ df f (z - 1)) : isK v ((z - 1) * 9 + D) := by
  obtain ⟨k, rfl⟩ : ∃ k, z = k + 1 := ⟨z - 1, by omega⟩
  rw [Nat.add_sub_cancel] at *
  have hv : dv (df f) k + df f k * 1000000000 ^ k = v := hD.2.2
  have hlow := dv_lt (lim_dok (lim_le hD.1 (Nat.le_succ k)))
  have hd : df f k ≠ 0 := by
    rcases hD.2.1 with q | q
    · omega
    · simpa using q
  have e1 : 10 ^ (k * 9 + D) = 10 ^ D * 1000000000 ^ k := by rw [pB_ten, Nat.mul_comm k 9, Nat.add_comm, Nat.pow_add]
  have e2 : 10 ^ (k * 9 + D - 1) = 10 ^ (D - 1) * 1000000000 ^ k := by rw [pB_ten, Nat.mul_comm k 9, show 9 * k + D - 1 = D - 1 + 9 * k by omega, Nat.pow_add]
  have hP := pB_pos k
  refine Or.inr ⟨?_, by omega, ?_, ?_⟩
  · have : 1 * 1000000000 ^ k ≤ df f k * 1000000000 ^ k := Nat.mul_le_mul_right _ (by omega)
    omega
  · rw [e2]
    have h3 : 10 ^ (D - 1) ≤ df f k := by
      rcases hge with q | q
      · subst q; simp; omega
      · exact q
    have := Nat.mul_le_mul_right (1000000000 ^ k) h3
    omega
  · rw [e1]
    have := Nat.mul_le_mul_right (1000000000 ^ k) (show df f k + 1 ≤ 10 ^ D from hlt)
    rw [Nat.add_mul] at this
    omega
theorem dv_low {d : Nat → Nat} {n : Nat} (h : dok d n) (hn : 0 < n) : dv d n % 1000000000 = d 0 := by
  obtain ⟨k, rfl⟩ : ∃ k, n = 1 + k := ⟨n - 1, by omega⟩
  have h0 := h 0 (by omega)
  rw [dv_split, show dv d 1 = d 0 by simp [dv]]
  rw [Nat.pow_one]
  omega
theorem dv_dig {d : Nat → Nat} {n q : Nat} (h : dok d n) (hq : q < n) : dv d n / 1000000000 ^ q % 1000000000 = d q := by
  obtain ⟨k, rfl⟩ : ∃ k, n = q + k := ⟨n - q, by omega⟩
  have hl := dv_lt (dok_le h (show q ≤ q + k by omega))
  rw [dv_split, Nat.add_comm, Nat.mul_add_div (pB_pos q), Nat.div_eq_of_lt hl, Nat.add_zero, dv_low (d := dsh d q) (fun i hi => h (q + i) (by omega)) (by omega)]
  rfl
theorem dx_dig {f : Nat → Int32} {z v q : Nat} (h : isD f z v) : dx f z q = v / 1000000000 ^ q % 1000000000 := by
  by_cases e : q < z
  · rw [dx_in e, ← h.2.2, dv_dig (lim_dok h.1) e]
  · rw [dx_out (by omega)]
    have h1 := isD_lt h
    have h2 : 1000000000 ^ z ≤ 1000000000 ^ q := Nat.pow_le_pow_right (by decide) (by omega)
    rw [Nat.div_eq_of_lt (by omega)]
theorem dec_of {a s : Nat} (hs : s < 9) : a / 10 ^ s % 10 = a % 1000000000 / 10 ^ s % 10 := by
  rcases (show s = 0 ∨ s = 1 ∨ s = 2 ∨ s = 3 ∨ s = 4 ∨ s = 5 ∨ s = 6 ∨ s = 7 ∨ s = 8 by omega) with q | q | q | q | q | q | q | q | q <;> subst q <;> simp only [Nat.reducePow] <;> omega
theorem dec_at {f : Nat → Int32} {z v i : Nat} (h : isD f z v) : dx f z (i / 9) / 10 ^ (i % 9) % 10 = v / 10 ^ i % 10 := by
  have hi : 9 * (i / 9) + i % 9 = i := Nat.div_add_mod i 9
  rw [dx_dig h, ← dec_of (Nat.mod_lt i (by decide)), Nat.div_div_eq_div_mul, pB_ten, ← Nat.pow_add, hi]
theorem lead_of {W td : Nat} (hW : W < 1000000000 * 1000000000 * 1000000000) (h1 : 1 ≤ td) (h9 : td ≤ 9) : (W / 1000000000 / 1000000000 % 1000000000 * 1000000000 + W / 1000000000 % 1000000000) * 10 ^ (9 - td) + W % 1000000000 / 10 ^ td = W / 10 ^ td := by
  rcases (show td = 1 ∨ td = 2 ∨ td = 3 ∨ td = 4 ∨ td = 5 ∨ td = 6 ∨ td = 7 ∨ td = 8 ∨ td = 9 by omega) with q | q | q | q | q | q | q | q | q <;> subst q <;> simp only [Nat.reducePow, Nat.reduceSub] <;> omega
theorem lead_at {f : Nat → Int32} {z v k td : Nat} (h : isD f z v) (hv : v < 1000000000 ^ (k + 3)) (h1 : 1 ≤ td) (h9 : td ≤ 9) : (dx f z (k + 2) * 1000000000 + dx f z (k + 1)) * 10 ^ (9 - td) + dx f z k / 10 ^ td = v / (1000000000 ^ k * 10 ^ td) := by
  rw [dx_dig h, dx_dig h, dx_dig h, ← Nat.div_div_eq_div_mul]
  have e1 : v / 1000000000 ^ (k + 1) = v / 1000000000 ^ k / 1000000000 := by rw [Nat.pow_succ, ← Nat.div_div_eq_div_mul]
  have e2 : v / 1000000000 ^ (k + 2) = v / 1000000000 ^ k / 1000000000 / 1000000000 := by rw [Nat.pow_succ, ← Nat.div_div_eq_div_mul, e1]
  rw [e1, e2]
  refine lead_of ?_ h1 h9
  rw [Nat.div_lt_iff_lt_mul (pB_pos k)]
  have e3 : 1000000000 ^ (k + 3) = 1000000000 * 1000000000 * 1000000000 * 1000000000 ^ k := by rw [Nat.pow_add]; grind
  omega
