/-! ===== the scaled division ===== -/
theorem sd_lt {f : Nat → Int32} {md v s : Nat} (h : isD f (md + 2) v) (hs : s * (df f (md + 1) + 1) ≤ 1000000000) (h0 : 0 < s) : v * s < 1000000000 ^ (md + 2) := by
  have e := h.2.2
  rw [dv_s] at e
  have h1 : dv (df f) (md + 1) < 1000000000 ^ (md + 1) := dv_lt (lim_dok (lim_le h.1 (by omega)))
  rw [pB_s (md + 1)]
  generalize 1000000000 ^ (md + 1) = P at *
  have h2 : v < (df f (md + 1) + 1) * P := by rw [Nat.add_mul]; omega
  have h3 : v * s < (df f (md + 1) + 1) * P * s := Nat.mul_lt_mul_of_pos_right h2 h0
  have h4 : s * (df f (md + 1) + 1) * P ≤ 1000000000 * P := Nat.mul_le_mul_right _ hs
  have h5 : (df f (md + 1) + 1) * P * s = s * (df f (md + 1) + 1) * P := by grind
  omega
theorem sd_top {f g : Nat → Int32} {md z v s : Nat} (h : isD f (md + 2) v) (h1 : 500000000 ≤ df f (md + 1) * s) (hg : isD g z (v * s)) (hz : v * s < 1000000000 ^ (md + 2)) : z = md + 2 ∧ 500000000 ≤ df g (md + 1) := by
  have hz1 := isD_size hg hz
  have e := h.2.2
  rw [dv_s] at e
  have hge : 500000000 * 1000000000 ^ (md + 1) ≤ v * s := by
    have q1 : df f (md + 1) * 1000000000 ^ (md + 1) ≤ v := by omega
    have q2 := Nat.mul_le_mul_right s q1
    have q3 := Nat.mul_le_mul_right (1000000000 ^ (md + 1)) h1
    have q4 : df f (md + 1) * 1000000000 ^ (md + 1) * s = df f (md + 1) * s * 1000000000 ^ (md + 1) := by grind
    omega
  have hP := pB_pos (md + 1)
  have hz2 : z = md + 2 := by
    rcases Nat.lt_or_ge z (md + 2) with q | q
    · have q1 := isD_lt hg
      have q2 : 1000000000 ^ z ≤ 1000000000 ^ (md + 1) := Nat.pow_le_pow_right (by decide) (by omega)
      omega
    · omega
  subst hz2
  refine ⟨rfl, ?_⟩
  have e2 := hg.2.2
  rw [dv_s] at e2
  have h3 : dv (df g) (md + 1) < 1000000000 ^ (md + 1) := dv_lt (lim_dok (lim_le hg.1 (by omega)))
  rcases Nat.lt_or_ge (df g (md + 1)) 500000000 with q | q
  · exfalso
    have q1 := Nat.mul_le_mul_right (1000000000 ^ (md + 1)) (show df g (md + 1) + 1 ≤ 500000000 by omega)
    rw [Nat.add_mul] at q1
    omega
  · exact q
theorem sd_R0 {g : Nat → Int32} {md sh v1 v2 s : Nat} (e : dv (df g) (sh + md + 3) = v1 * s) (h1 : v1 < 1000000000 ^ (sh + md + 2)) (h2 : 1000000000 ^ (md + 1) ≤ v2) (h0 : 0 < s) : dv (dsh (df g) (sh + 1)) (md + 2) < v2 * s := by
  have e1 := dv_split (df g) (sh + 1) (md + 2)
  rw [show sh + 1 + (md + 2) = sh + md + 3 by omega, e] at e1
  rw [show sh + md + 2 = (sh + 1) + (md + 1) by omega, Nat.pow_add] at h1
  have h3 := Nat.mul_lt_mul_of_pos_right h1 h0
  have h4 := Nat.mul_le_mul_right s h2
  have hP := pB_pos (sh + 1)
  generalize 1000000000 ^ (sh + 1) = P at *
  generalize 1000000000 ^ (md + 1) = R at *
  generalize dv (dsh (df g) (sh + 1)) (md + 2) = W at *
  have h5 : P * W < P * (R * s) := by
    have : P * R * s = P * (R * s) := Nat.mul_assoc _ _ _
    omega
  have := Nat.lt_of_mul_lt_mul_left h5
  omega
theorem sd_qr {a b s : Nat} (hs : 0 < s) : a * s / (b * s) = a / b ∧ a * s % (b * s) / s = a % b := by
  refine ⟨Nat.mul_div_mul_right _ _ hs, ?_⟩
  rw [Nat.mul_mod_mul_right]
  exact Nat.mul_div_cancel _ hs
theorem lN_natAbs {x : Nat} (h : x < 2 ^ 63) : (lN x).toInt.natAbs = x := by
  rw [lN_lI, lI_toInt (by omega) (by omega)]
  exact Int.natAbs_natCast x
