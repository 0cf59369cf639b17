/-! ===== FRACTIONS AS RATIONALS ===== -/
theorem rt_num {P : Int} {Q : Nat} (h : 0 < Q) : frn P Q = (mkRat P Q).num := by
  rw [Rat.num_mkRat, if_neg (by omega)]
  unfold frn rdn
  have e : P = P.sign * (P.natAbs : Int) := (Int.sign_mul_natAbs P).symm
  obtain ⟨k, hk⟩ := Nat.gcd_dvd_left P.natAbs Q
  have g0 : 0 < Nat.gcd P.natAbs Q := Nat.gcd_pos_of_pos_right _ h
  rw [Nat.gcd_comm Q]
  generalize Nat.gcd P.natAbs Q = g at *
  have h1 : P.natAbs / g = k := by rw [hk, Nat.mul_div_cancel_left _ g0]
  rw [h1]
  have h2 : P = (g : Int) * (P.sign * (k : Int)) := by
    calc P = P.sign * (P.natAbs : Int) := e
      _ = P.sign * ((g * k : Nat) : Int) := by rw [← hk]
      _ = (g : Int) * (P.sign * (k : Int)) := by rw [Int.natCast_mul]; grind
  generalize P.sign * (k : Int) = z at *
  rw [h2, Int.mul_ediv_cancel_left _ (by omega)]
theorem rt_den {P : Int} {Q : Nat} (h : 0 < Q) : rdd P.natAbs Q = (mkRat P Q).den := by
  rw [Rat.den_mkRat, if_neg (by omega)]
  unfold rdd
  rw [Nat.gcd_comm]
theorem rt_cop (r : Rat) : Nat.Coprime r.num.natAbs r.den := r.reduced
theorem rt_pos (r : Rat) : 0 < r.den := Nat.pos_of_ne_zero r.den_nz
theorem rt_mk (r : Rat) : mkRat r.num r.den = r := Rat.mkRat_self r
theorem rt_add (a b : Rat) : mkRat (a.num * (b.den : Int) + b.num * (a.den : Int)) (a.den * b.den) = a + b := (Rat.add_def' a b).symm
theorem rt_sub (a b : Rat) : mkRat (a.num * (b.den : Int) + -b.num * (a.den : Int)) (a.den * b.den) = a - b := by
  rw [Rat.sub_def']
  congr 1
  grind
theorem rt_mul (a b : Rat) : mkRat (a.num * b.num) (a.den * b.den) = a * b := (Rat.mul_def' a b).symm
theorem rt_div (a b : Rat) (hb : b.num ≠ 0) : mkRat (a.num * (b.num.sign * (b.den : Int))) (a.den * b.num.natAbs) = a / b := by
  rw [Rat.div_def, Rat.mul_def', Rat.num_inv, Rat.den_inv, if_neg hb]
/-- bounds -/
def rb (r : Rat) (k : Nat) : Prop := r.num.natAbs < 1000000000 ^ k ∧ r.den < 1000000000 ^ k
theorem rt_le {P : Int} {Q : Nat} (h : 0 < Q) : (mkRat P Q).num.natAbs ≤ P.natAbs ∧ (mkRat P Q).den ≤ Q := by
  rw [← rt_num h, ← rt_den h]
  constructor
  · unfold frn rdn
    rw [Int.natAbs_mul]
    have : P.sign.natAbs ≤ 1 := by rcases Int.lt_trichotomy P 0 with z | z | z <;> simp [Int.sign_eq_neg_one_of_neg, Int.sign_eq_one_of_pos, z]
    have h2 : P.natAbs / Nat.gcd P.natAbs Q ≤ P.natAbs := Nat.div_le_self _ _
    calc P.sign.natAbs * (((P.natAbs / P.natAbs.gcd Q : Nat) : Int)).natAbs ≤ 1 * P.natAbs := Nat.mul_le_mul this (by rw [Int.natAbs_natCast]; exact h2)
      _ = P.natAbs := Nat.one_mul _
  · exact Nat.div_le_self _ _
theorem pw_pos (k : Nat) : 0 < 1000000000 ^ k := Nat.pow_pos (by decide)
theorem pw_mul {a b j k : Nat} (ha : a < 1000000000 ^ j) (hb : b < 1000000000 ^ k) : a * b < 1000000000 ^ (j + k) := by
  rw [Nat.pow_add]
  calc a * b ≤ a * 1000000000 ^ k := Nat.mul_le_mul_left _ (Nat.le_of_lt hb)
    _ < 1000000000 ^ j * 1000000000 ^ k := Nat.mul_lt_mul_of_pos_right ha (pw_pos k)
theorem pw_up {a j k : Nat} (ha : a < 1000000000 ^ j) (h : j ≤ k) : a < 1000000000 ^ k := Nat.lt_of_lt_of_le ha (Nat.pow_le_pow_right (by decide) h)
theorem rb_up {r : Rat} {j k : Nat} (h : rb r j) (hk : j ≤ k) : rb r k := ⟨pw_up h.1 hk, pw_up h.2 hk⟩
theorem rb_mk {P : Int} {Q k : Nat} (hQ : 0 < Q) (h1 : P.natAbs < 1000000000 ^ k) (h2 : Q < 1000000000 ^ k) : rb (mkRat P Q) k :=
  ⟨Nat.lt_of_le_of_lt (rt_le hQ).1 h1, Nat.lt_of_le_of_lt (rt_le hQ).2 h2⟩
theorem rb_mul {a b : Rat} {j k : Nat} (ha : rb a j) (hb : rb b k) : rb (a * b) (j + k) := by
  rw [← rt_mul]
  refine rb_mk (Nat.mul_pos (rt_pos a) (rt_pos b)) ?_ (pw_mul ha.2 hb.2)
  rw [Int.natAbs_mul]
  exact pw_mul ha.1 hb.1
theorem rb_div {a b : Rat} {j k : Nat} (ha : rb a j) (hb : rb b k) (h0 : b.num ≠ 0) : rb (a / b) (j + k) := by
  rw [← rt_div a b h0]
  refine rb_mk (Nat.mul_pos (rt_pos a) (by omega)) ?_ (pw_mul ha.2 hb.1)
  rw [Int.natAbs_mul, Int.natAbs_mul]
  have : b.num.sign.natAbs ≤ 1 := by rcases Int.lt_trichotomy b.num 0 with z | z | z <;> simp [Int.sign_eq_neg_one_of_neg, Int.sign_eq_one_of_pos, z]
  refine Nat.lt_of_le_of_lt (Nat.mul_le_mul_left _ (Nat.mul_le_mul this (Nat.le_refl _))) ?_
  rw [Nat.one_mul, Int.natAbs_natCast]
  exact pw_mul ha.1 hb.2
theorem rb_sum {P P' : Int} {Q j k : Nat} (hP : P.natAbs < 1000000000 ^ (j + k)) (hP' : P'.natAbs < 1000000000 ^ (j + k)) (hQ0 : 0 < Q) (hQ : Q < 1000000000 ^ (j + k)) : rb (mkRat (P + P') Q) (j + k + 1) := by
  refine rb_mk hQ0 ?_ (pw_up hQ (by omega))
  have h1 := Int.natAbs_add_le P P'
  have h2 : 1000000000 ^ (j + k + 1) = 1000000000 ^ (j + k) * 1000000000 := Nat.pow_succ _ _
  omega
theorem rb_add {a b : Rat} {j k : Nat} (ha : rb a j) (hb : rb b k) : rb (a + b) (j + k + 1) := by
  rw [← rt_add]
  refine rb_sum ?_ ?_ (Nat.mul_pos (rt_pos a) (rt_pos b)) (pw_mul ha.2 hb.2)
  · rw [Int.natAbs_mul]; exact pw_mul ha.1 hb.2
  · rw [Int.natAbs_mul, Nat.add_comm]; exact pw_mul hb.1 ha.2
theorem rb_sub {a b : Rat} {j k : Nat} (ha : rb a j) (hb : rb b k) : rb (a - b) (j + k + 1) := by
  rw [← rt_sub]
  refine rb_sum ?_ ?_ (Nat.mul_pos (rt_pos a) (rt_pos b)) (pw_mul ha.2 hb.2)
  · rw [Int.natAbs_mul]; exact pw_mul ha.1 hb.2
  · rw [Int.natAbs_mul, Nat.add_comm, Int.natAbs_neg]; exact pw_mul hb.1 ha.2
/-- the sign of a difference tells the order -/
theorem rt_cmp (a b : Rat) : sgI (a.num * (b.den : Int) - b.num * (a.den : Int)) = if a < b then -1 else if a = b then 0 else 1 := by
  unfold sgI
  have h1 : a < b ↔ a.num * (b.den : Int) - b.num * (a.den : Int) < 0 := by rw [Rat.lt_iff]; omega
  have h2 : a = b ↔ a.num * (b.den : Int) - b.num * (a.den : Int) = 0 := by
    constructor
    · intro h; subst h; omega
    · intro h
      have e := (Rat.mkRat_eq_iff (n₁ := a.num) (n₂ := b.num) a.den_nz b.den_nz).mpr (by omega)
      rwa [Rat.mkRat_self, Rat.mkRat_self] at e
  simp only [h1, h2]
