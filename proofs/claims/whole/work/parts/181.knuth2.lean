/-! ===== long division: windows of limbs ===== -/
theorem kd_step {L g t r : Nat} (h : L = g * t + r) (hg : 1 ≤ g) : L = (g - 1) * t + (r + t) := by
  obtain ⟨k, rfl⟩ : ∃ k, g = k + 1 := ⟨g - 1, by omega⟩
  rw [Nat.add_sub_cancel, h, Nat.add_mul]
  omega
theorem kd_v {d : Nat → Nat} (m : Nat) : dv d (m + 2) = (d (m + 1) * 1000000000 + d m) * 1000000000 ^ m + dv d m := by
  rw [dv_s, dv_s, pB_s]
  grind
theorem kd_u {d : Nat → Nat} (i m : Nat) : dv (dsh d i) (m + 3) = ((d (i + m + 2) * 1000000000 + d (i + m + 1)) * 1000000000 + d (i + m)) * 1000000000 ^ m + dv (dsh d i) m := by
  rw [dv_s, dv_s, dv_s, pB_s, pB_s]
  have a1 : dsh d i m = d (i + m) := rfl
  have a2 : dsh d i (m + 1) = d (i + m + 1) := rfl
  have a3 : dsh d i (m + 2) = d (i + m + 2) := rfl
  rw [a1, a2, a3]
  grind
theorem dsh_s {d : Nat → Nat} (i k : Nat) : dv (dsh d i) (k + 1) = d i + 1000000000 * dv (dsh d (i + 1)) k := by
  have h := dv_split (dsh d i) 1 k
  rw [Nat.add_comm 1 k] at h
  rw [h, show dv (dsh d i) 1 = d i by simp [dv, dsh], Nat.pow_one]
  congr 2
  exact dv_congr (fun x _ => by show d (i + (1 + x)) = d (i + 1 + x); congr 1; omega)
theorem dsh_congr {d e : Nat → Nat} {i k : Nat} (h : ∀ x, i ≤ x → x < i + k → d x = e x) : dv (dsh d i) k = dv (dsh e i) k := dv_congr (fun x hx => h (i + x) (by omega) (by omega))
theorem dsh_upd {f : Nat → Int32} {i k x : Nat} (hx : x < 2 ^ 31) : dv (dsh (df (upd f (i + k) (nI x))) i) (k + 1) = dv (dsh (df f) i) k + x * 1000000000 ^ k := by
  rw [dv_s]
  have e1 : dv (dsh (df (upd f (i + k) (nI x))) i) k = dv (dsh (df f) i) k := dv_congr (fun y hy => df_un (by omega))
  have e2 : dsh (df (upd f (i + k) (nI x))) i k = x := df_us hx
  rw [e1, e2]
/-- one limb of a subtraction of g times the divisor -/
theorem st_sub {j c0 d g r w c1 : Nat} {S V W : Nat} (h : S + g * V = W + c0 * 1000000000 ^ j) (e : r + (d * g + c0) = w + c1 * 1000000000) : (S + r * 1000000000 ^ j) + g * (V + d * 1000000000 ^ j) = (W + w * 1000000000 ^ j) + c1 * 1000000000 ^ (j + 1) := by
  rw [pB_s]
  generalize 1000000000 ^ j = P at *
  have e2 : (r + (d * g + c0)) * P = (w + c1 * 1000000000) * P := by rw [e]
  grind
theorem st_div {u Q v P R low d U qd R2 : Nat} (hu : u = Q * v * (1000000000 * P) + R * (1000000000 * P) + (low + d * P)) (hU : U = d + 1000000000 * R) (hd : v * qd + R2 = U) : u = (qd + 1000000000 * Q) * v * P + R2 * P + low := by
  have e : (v * qd + R2) * P = (d + 1000000000 * R) * P := by rw [hd, hU]
  grind
theorem dsh_0 (d : Nat → Nat) (k : Nat) : dv (dsh d 0) k = dv d k := dv_congr (fun x _ => by show d (0 + x) = d x; rw [Nat.zero_add])
theorem nI_m1 {g : Nat} (h : 1 ≤ g) : nI g + Int32.ofInt (-1) = nI (g - 1) := by
  obtain ⟨k, rfl⟩ : ∃ k, g = k + 1 := ⟨g - 1, by omega⟩
  exact pk_m1 k
