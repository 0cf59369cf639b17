/-! ===== FRACTIONS IN LOWEST TERMS: pure facts ===== -/
theorem fr_uniq {a b c d : Nat} (hb : 0 < b) (hd : 0 < d) (h1 : Nat.Coprime a b) (h2 : Nat.Coprime c d) (h : a * d = c * b) : a = c ∧ b = d := by
  have e1 : b ∣ d := Nat.Coprime.dvd_of_dvd_mul_left h1.symm ⟨c, by rw [h, Nat.mul_comm]⟩
  have e2 : d ∣ b := Nat.Coprime.dvd_of_dvd_mul_left h2.symm ⟨a, by rw [← h, Nat.mul_comm]⟩
  have e3 : b = d := Nat.dvd_antisymm e1 e2
  subst e3
  exact ⟨Nat.eq_of_mul_eq_mul_right hb h, rfl⟩
/-- lowest terms of n / d -/
def rdn (n d : Nat) : Nat := n / Nat.gcd n d
def rdd (n d : Nat) : Nat := d / Nat.gcd n d
theorem rd_cop {n d : Nat} (hd : 0 < d) : Nat.Coprime (rdn n d) (rdd n d) := Nat.coprime_div_gcd_div_gcd (Nat.gcd_pos_of_pos_right n hd)
theorem rdd_pos {n d : Nat} (hd : 0 < d) : 0 < rdd n d := Nat.div_pos (Nat.gcd_le_right n hd) (Nat.gcd_pos_of_pos_right n hd)
theorem rd_mul {n d : Nat} : rdn n d * d = n * rdd n d := by
  unfold rdn rdd
  obtain ⟨a, ha⟩ := Nat.gcd_dvd_left n d
  obtain ⟨b, hb⟩ := Nat.gcd_dvd_right n d
  rcases Nat.eq_zero_or_pos (Nat.gcd n d) with h | h
  · rw [h]; simp
  · have e1 : n / Nat.gcd n d = a := by rw [Nat.div_eq_iff_eq_mul_right h (Nat.gcd_dvd_left n d)]; exact ha
    have e2 : d / Nat.gcd n d = b := by rw [Nat.div_eq_iff_eq_mul_right h (Nat.gcd_dvd_right n d)]; exact hb
    rw [e1, e2]
    calc a * d = a * (Nat.gcd n d * b) := by rw [← hb]
      _ = (Nat.gcd n d * a) * b := by grind
      _ = n * b := by rw [← ha]
theorem rd_of {n d a b : Nat} (hd : 0 < d) (hb : 0 < b) (h1 : Nat.Coprime a b) (h : a * d = n * b) : a = rdn n d ∧ b = rdd n d := by
  refine fr_uniq hb (rdd_pos hd) h1 (rd_cop hd) ?_
  have h2 := rd_mul (n := n) (d := d)
  have h3 : (a * rdd n d) * d = (rdn n d * b) * d := by
    calc (a * rdd n d) * d = (a * d) * rdd n d := by grind
      _ = (n * b) * rdd n d := by rw [h]
      _ = (n * rdd n d) * b := by grind
      _ = (rdn n d * d) * b := by rw [h2]
      _ = (rdn n d * b) * d := by grind
  exact Nat.eq_of_mul_eq_mul_right hd h3
theorem fr_cop {N1 N2 : Int} {m w : Nat} (h1 : Nat.Coprime N1.natAbs m) (h2 : Nat.Coprime w m) : Nat.Coprime (N1 * w + N2 * m).natAbs m := by
  generalize hk : Nat.gcd (N1 * w + N2 * m).natAbs m = k
  show Nat.gcd _ _ = 1
  rw [hk]
  have k1 : k ∣ (N1 * w + N2 * m).natAbs := by rw [← hk]; exact Nat.gcd_dvd_left _ _
  have k2 : k ∣ m := by rw [← hk]; exact Nat.gcd_dvd_right _ _
  have k3 : (k : Int) ∣ N1 * w + N2 * m := Int.ofNat_dvd_left.mpr k1
  have k4 : (k : Int) ∣ N2 * m := Int.dvd_trans (Int.natCast_dvd_natCast.mpr k2) (Int.dvd_mul_left _ _)
  have k5 : (k : Int) ∣ N1 * w := by
    have := Int.dvd_sub k3 k4
    rwa [Int.add_sub_cancel] at this
  have k6 : k ∣ N1.natAbs * w := by
    have := Int.ofNat_dvd_left.mp k5
    rwa [Int.natAbs_mul, Int.natAbs_natCast] at this
  have c1 : Nat.Coprime k N1.natAbs := (Nat.Coprime.coprime_dvd_right k2 h1).symm
  have c2 : Nat.Coprime k w := (Nat.Coprime.coprime_dvd_right k2 h2).symm
  exact Nat.Coprime.eq_one_of_dvd (Nat.Coprime.mul_right c1 c2) k6
/-- the sum, with the common divisors taken out of the operands -/
theorem fr_sum {N1 N2 : Int} {d1 d2 g t g2 : Nat} (hd1 : 0 < d1) (hd2 : 0 < d2) (c1 : Nat.Coprime N1.natAbs d1) (c2 : Nat.Coprime N2.natAbs d2) (hg : g = Nat.gcd d1 d2) (ht : t = (N1 * (d2 / g : Nat) + N2 * (d1 / g : Nat)).natAbs) (hg2 : g2 = Nat.gcd t g) :
    t / g2 = rdn (N1 * d2 + N2 * d1).natAbs (d1 * d2) ∧ d1 / g * (d2 / g2) = rdd (N1 * d2 + N2 * d1).natAbs (d1 * d2) := by
  have g0 : 0 < g := by rw [hg]; exact Nat.gcd_pos_of_pos_left d2 hd1
  have g20 : 0 < g2 := by rw [hg2]; exact Nat.gcd_pos_of_pos_right t g0
  obtain ⟨a, ha⟩ : g ∣ d1 := by rw [hg]; exact Nat.gcd_dvd_left d1 d2
  obtain ⟨b, hb⟩ : g ∣ d2 := by rw [hg]; exact Nat.gcd_dvd_right d1 d2
  obtain ⟨w, hw⟩ : g2 ∣ g := by rw [hg2]; exact Nat.gcd_dvd_right t g
  obtain ⟨x, hx⟩ : g2 ∣ t := by rw [hg2]; exact Nat.gcd_dvd_left t g
  have ea : d1 / g = a := by rw [ha]; exact Nat.mul_div_cancel_left a g0
  have eb : d2 / g = b := by rw [hb]; exact Nat.mul_div_cancel_left b g0
  have ex : t / g2 = x := by rw [hx]; exact Nat.mul_div_cancel_left x g20
  have ew : g / g2 = w := by rw [hw]; exact Nat.mul_div_cancel_left w g20
  have ebw : d2 / g2 = w * b := by rw [hb, hw, Nat.mul_assoc]; exact Nat.mul_div_cancel_left (w * b) g20
  have cab : Nat.Coprime a b := by
    have := Nat.coprime_div_gcd_div_gcd (m := d1) (n := d2) (by rw [← hg]; exact g0)
    rwa [← hg, ea, eb] at this
  rw [ea, eb] at ht
  have ct1 : Nat.Coprime t a := by
    rw [ht]
    exact fr_cop (Nat.Coprime.coprime_dvd_right ⟨g, by rw [ha, Nat.mul_comm]⟩ c1) cab.symm
  have ct2 : Nat.Coprime t b := by
    rw [ht, Int.add_comm]
    exact fr_cop (Nat.Coprime.coprime_dvd_right ⟨g, by rw [hb, Nat.mul_comm]⟩ c2) cab
  have cx : x ∣ t := ⟨g2, by rw [hx, Nat.mul_comm]⟩
  have cxw : Nat.Coprime x w := by
    have := Nat.coprime_div_gcd_div_gcd (m := t) (n := g) (by rw [← hg2]; exact g20)
    rwa [← hg2, ex, ew] at this
  have cop : Nat.Coprime x (a * (w * b)) := Nat.Coprime.mul_right (Nat.Coprime.coprime_dvd_left cx ct1) (Nat.Coprime.mul_right cxw (Nat.Coprime.coprime_dvd_left cx ct2))
  rw [ex, ea, ebw]
  have w0 : 0 < w := by
    rcases Nat.eq_zero_or_pos w with z | z
    · rw [z] at hw; omega
    · exact z
  have a0 : 0 < a := by
    rcases Nat.eq_zero_or_pos a with z | z
    · rw [z] at ha; omega
    · exact z
  have b0 : 0 < b := by
    rcases Nat.eq_zero_or_pos b with z | z
    · rw [z] at hb; omega
    · exact z
  refine rd_of (Nat.mul_pos hd1 hd2) (Nat.mul_pos a0 (Nat.mul_pos w0 b0)) cop ?_
  have e5 : (N1 * d2 + N2 * d1).natAbs = g * t := by
    rw [ht, ← Int.natAbs_natCast g, ← Int.natAbs_mul, hb, ha]
    congr 1
    push_cast
    grind
  rw [e5, hx, ha, hb, hw]
  grind
/-- the product, with the common divisors taken out crosswise -/
theorem fr_mul {n1 d1 n2 d2 g1 g2 : Nat} (hd1 : 0 < d1) (hd2 : 0 < d2) (c1 : Nat.Coprime n1 d1) (c2 : Nat.Coprime n2 d2) (hg1 : g1 = Nat.gcd n1 d2) (hg2 : g2 = Nat.gcd n2 d1) :
    n1 / g1 * (n2 / g2) = rdn (n1 * n2) (d1 * d2) ∧ d1 / g2 * (d2 / g1) = rdd (n1 * n2) (d1 * d2) := by
  have p1 : 0 < g1 := by rw [hg1]; exact Nat.gcd_pos_of_pos_right n1 hd2
  have p2 : 0 < g2 := by rw [hg2]; exact Nat.gcd_pos_of_pos_right n2 hd1
  obtain ⟨a, ha⟩ : g1 ∣ n1 := by rw [hg1]; exact Nat.gcd_dvd_left n1 d2
  obtain ⟨b, hb⟩ : g1 ∣ d2 := by rw [hg1]; exact Nat.gcd_dvd_right n1 d2
  obtain ⟨x, hx⟩ : g2 ∣ n2 := by rw [hg2]; exact Nat.gcd_dvd_left n2 d1
  obtain ⟨y, hy⟩ : g2 ∣ d1 := by rw [hg2]; exact Nat.gcd_dvd_right n2 d1
  have ea : n1 / g1 = a := by rw [ha]; exact Nat.mul_div_cancel_left a p1
  have eb : d2 / g1 = b := by rw [hb]; exact Nat.mul_div_cancel_left b p1
  have ex : n2 / g2 = x := by rw [hx]; exact Nat.mul_div_cancel_left x p2
  have ey : d1 / g2 = y := by rw [hy]; exact Nat.mul_div_cancel_left y p2
  have k1 : Nat.Coprime a b := by
    have := Nat.coprime_div_gcd_div_gcd (m := n1) (n := d2) (by rw [← hg1]; exact p1)
    rwa [← hg1, ea, eb] at this
  have k2 : Nat.Coprime x y := by
    have := Nat.coprime_div_gcd_div_gcd (m := n2) (n := d1) (by rw [← hg2]; exact p2)
    rwa [← hg2, ex, ey] at this
  have k3 : Nat.Coprime a y := Nat.Coprime.coprime_dvd_left ⟨g1, by rw [ha, Nat.mul_comm]⟩ (Nat.Coprime.coprime_dvd_right ⟨g2, by rw [hy, Nat.mul_comm]⟩ c1)
  have k4 : Nat.Coprime x b := Nat.Coprime.coprime_dvd_left ⟨g2, by rw [hx, Nat.mul_comm]⟩ (Nat.Coprime.coprime_dvd_right ⟨g1, by rw [hb, Nat.mul_comm]⟩ c2)
  rw [ea, ex, ey, eb]
  have b0 : 0 < b := by
    rcases Nat.eq_zero_or_pos b with z | z
    · rw [z] at hb; omega
    · exact z
  have y0 : 0 < y := by
    rcases Nat.eq_zero_or_pos y with z | z
    · rw [z] at hy; omega
    · exact z
  refine rd_of (Nat.mul_pos hd1 hd2) (Nat.mul_pos y0 b0) (Nat.Coprime.mul_left (Nat.Coprime.mul_right k3 k1) (Nat.Coprime.mul_right k2 k4)) ?_
  rw [ha, hx, hy, hb]
  grind
