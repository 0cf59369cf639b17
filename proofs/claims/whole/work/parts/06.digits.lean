/-! ===== NUMBERS IN LIMBS OF NINE DIGITS: pure facts ===== -/
def dv (d : Nat → Nat) : Nat → Nat
  | 0 => 0
  | n + 1 => dv d n + d n * 1000000000 ^ n
theorem dv_0 (d : Nat → Nat) : dv d 0 = 0 := rfl
theorem dv_s (d : Nat → Nat) (n : Nat) : dv d (n + 1) = dv d n + d n * 1000000000 ^ n := rfl
theorem pB_s (n : Nat) : 1000000000 ^ (n + 1) = 1000000000 * 1000000000 ^ n := by rw [Nat.pow_succ, Nat.mul_comm]
theorem pB_pos (n : Nat) : 0 < 1000000000 ^ n := Nat.pow_pos (by decide)
/-- the limbs are limbs -/
def dok (d : Nat → Nat) (n : Nat) : Prop := ∀ i, i < n → d i < 1000000000
theorem dok_s {d : Nat → Nat} {n : Nat} (h : dok d n) (h1 : d n < 1000000000) : dok d (n + 1) := fun i hi => by
  by_cases e : i = n
  · subst e; exact h1
  · exact h i (by omega)
theorem dok_le {d : Nat → Nat} {n k : Nat} (h : dok d n) (hk : k ≤ n) : dok d k := fun i hi => h i (by omega)
theorem dv_congr {d e : Nat → Nat} : ∀ {n : Nat}, (∀ i, i < n → d i = e i) → dv d n = dv e n
  | 0, _ => rfl
  | n + 1, h => by rw [dv_s, dv_s, dv_congr (fun i hi => h i (by omega)), h n (by omega)]
theorem dv_lt {d : Nat → Nat} : ∀ {n : Nat}, dok d n → dv d n < 1000000000 ^ n
  | 0, _ => by rw [dv_0]; exact pB_pos 0
  | n + 1, h => by
    have h1 := dv_lt (dok_le h (Nat.le_succ n))
    have h2 : d n * 1000000000 ^ n ≤ 999999999 * 1000000000 ^ n := Nat.mul_le_mul_right _ (by have := h n (by omega); omega)
    rw [dv_s, pB_s]
    generalize 1000000000 ^ n = P at *
    omega
/-- limbs above are 0 -/
theorem dv_zero {d : Nat → Nat} {n : Nat} : ∀ {k : Nat}, (∀ i, n ≤ i → i < n + k → d i = 0) → dv d (n + k) = dv d n
  | 0, _ => rfl
  | k + 1, h => by
    show dv d (n + k + 1) = dv d n
    rw [dv_s, dv_zero (k := k) (fun i h1 h2 => h i h1 (by omega)), h (n + k) (by omega) (by omega)]
    simp
theorem dv_top {d : Nat → Nat} {n : Nat} (h : d n ≠ 0) : 1000000000 ^ n ≤ dv d (n + 1) := by
  rw [dv_s]
  have : 1 * 1000000000 ^ n ≤ d n * 1000000000 ^ n := Nat.mul_le_mul_right _ (by omega)
  omega
/-- the higher limbs -/
def dsh (d : Nat → Nat) (k : Nat) : Nat → Nat := fun i => d (k + i)
theorem dv_split (d : Nat → Nat) (n : Nat) : ∀ k : Nat, dv d (n + k) = dv d n + 1000000000 ^ n * dv (dsh d n) k
  | 0 => by rw [dv_0]; simp
  | k + 1 => by
    show dv d (n + k + 1) = _
    rw [dv_s, dv_split d n k, dv_s, Nat.pow_add, Nat.mul_add]
    show _ + d (n + k) * _ = _ + (_ + _ * (d (n + k) * _))
    rw [Nat.add_assoc, Nat.mul_left_comm]
/-- two numbers that differ first (from above) at limb i -/
theorem dv_cmp {d e : Nat → Nat} {n i : Nat} (hd : dok d n) (he : dok e n) (hi : i < n) (hup : ∀ j, i < j → j < n → d j = e j) (hlt : d i < e i) : dv d n < dv e n := by
  obtain ⟨k, rfl⟩ : ∃ k, n = i + 1 + k := ⟨n - (i + 1), by omega⟩
  rw [dv_split, dv_split e]
  have e1 : dv (dsh d (i + 1)) k = dv (dsh e (i + 1)) k := dv_congr (fun j hj => hup (i + 1 + j) (by omega) (by omega))
  rw [e1, dv_s, dv_s]
  have h1 := dv_lt (dok_le hd (show i ≤ i + 1 + k by omega))
  have h2 : (d i + 1) * 1000000000 ^ i ≤ e i * 1000000000 ^ i := Nat.mul_le_mul_right _ hlt
  rw [Nat.add_mul] at h2
  omega
/-- a number of fewer limbs is less -/
theorem dv_size {d e : Nat → Nat} {n k : Nat} (hd : dok d n) (hk : n < k) (ht : e (k - 1) ≠ 0) : dv d n < dv e k := by
  obtain ⟨j, rfl⟩ : ∃ j, k = j + 1 := ⟨k - 1, by omega⟩
  have h1 := dv_lt hd
  have h2 := dv_top (d := e) (n := j) (by simpa using ht)
  have h3 : 1000000000 ^ n ≤ 1000000000 ^ j := Nat.pow_le_pow_right (by decide) (by omega)
  omega
/-- its size is 0, or its top limb isn't -/
def dtop (d : Nat → Nat) (n : Nat) : Prop := n = 0 ∨ d (n - 1) ≠ 0
theorem dv_eq0 {d : Nat → Nat} {n : Nat} (h : dtop d n) (h0 : dv d n = 0) : n = 0 := by
  rcases h with h | h
  · exact h
  · rcases Nat.eq_zero_or_pos n with hz | hz
    · exact hz
    · obtain ⟨j, rfl⟩ : ∃ j, n = j + 1 := ⟨n - 1, by omega⟩
      have h2 := dv_top (d := d) (n := j) (by simpa using h)
      have := pB_pos j
      omega
theorem dv_ge {d : Nat → Nat} {n : Nat} (h : dtop d n) (hn : 0 < n) : 1000000000 ^ (n - 1) ≤ dv d n := by
  obtain ⟨j, rfl⟩ : ∃ j, n = j + 1 := ⟨n - 1, by omega⟩
  rcases h with h | h
  · omega
  · exact dv_top (by simpa using h)
/-- how many limbs a number has: bounds -/
theorem dv_size_le {d : Nat → Nat} {n k : Nat} (h : dtop d n) (hv : dv d n < 1000000000 ^ k) : n ≤ k := by
  rcases Nat.lt_or_ge k n with hlt | hge
  · have h1 := dv_ge h (by omega)
    have h2 : 1000000000 ^ k ≤ 1000000000 ^ (n - 1) := Nat.pow_le_pow_right (by decide) (by omega)
    omega
  · exact hge
/-- one step of a sum with a carry -/
theorem st_sum {i c x y r c' : Nat} {X Y S : Nat} (h : S + c * 1000000000 ^ i = X + Y) (e : x + y + c = r + c' * 1000000000) : (S + r * 1000000000 ^ i) + c' * 1000000000 ^ (i + 1) = (X + x * 1000000000 ^ i) + (Y + y * 1000000000 ^ i) := by
  rw [pB_s]
  generalize 1000000000 ^ i = P at *
  have e2 : (x + y + c) * P = (r + c' * 1000000000) * P := by rw [e]
  grind
/-- .. of a difference with a borrow -/
theorem st_dif {i b x y r b' : Nat} {X Y S : Nat} (h : S + Y = X + b * 1000000000 ^ i) (e : r + y + b = x + b' * 1000000000) : (S + r * 1000000000 ^ i) + (Y + y * 1000000000 ^ i) = (X + x * 1000000000 ^ i) + b' * 1000000000 ^ (i + 1) := by
  rw [pB_s]
  generalize 1000000000 ^ i = P at *
  have e2 : (r + y + b) * P = (x + b' * 1000000000) * P := by rw [e]
  grind
/-- .. of a product with one limb -/
theorem st_mul {i c x k r c' : Nat} {X S : Nat} (h : S + c * 1000000000 ^ i = X * k) (e : x * k + c = r + c' * 1000000000) : (S + r * 1000000000 ^ i) + c' * 1000000000 ^ (i + 1) = (X + x * 1000000000 ^ i) * k := by
  rw [pB_s]
  generalize 1000000000 ^ i = P at *
  have e2 : (x * k + c) * P = (r + c' * 1000000000) * P := by rw [e]
  grind
