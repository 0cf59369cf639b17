/-! ===== Lehmer's factors: bounds ===== -/
theorem lh_qq {A B S x0 y0 : Nat} {a b c d x y q : Int} (hS : 0 < S) (hA : x0 * S ≤ A) (hA2 : A ≤ (x0 + 1) * S) (hB : y0 * S ≤ B) (hB2 : B ≤ (y0 + 1) * S) (h : lh_I A B S x0 y0 a b c d x y) (hc : 0 < y + c) (hd : 0 < y + d) (hq1 : q = (x + a).tdiv (y + c)) (hq2 : q = (x + b).tdiv (y + d)) : 1 ≤ q := by
  obtain ⟨M, N, hM, hN, hNM, hMA, hg, hx, hy, hsg, ba, bb, bc, bd, t3, hms⟩ := h
  have kM := lh_at hS hA hA2 hB hB2 hM hx
  have kN := lh_at hS hA hA2 hB hB2 hN hy
  have s1 : (0 : Int) < S := by omega
  rcases hsg with ⟨g1, g2, g3, g4⟩ | ⟨g1, g2, g3, g4⟩
  · exact (lh_q s1 (kM.1 g1 g2).2 (kN.2 g3 g4).1 (kM.1 g1 g2).1 (kN.2 g3 g4).2 hc hd (by omega) hq1 hq2).1
  · exact (lh_q s1 (kM.2 g1 g2).2 (kN.1 g3 g4).1 (kM.2 g1 g2).1 (kN.1 g3 g4).2 hd hc (by omega) hq2 hq1).1
theorem lh_pos {S : Nat} {z : Int} (hS : 0 < S) (h : 0 ≤ z * S) : 0 ≤ z := by
  rcases Int.lt_or_le z 0 with q | q
  · exfalso
    have : z * (S : Int) < 0 := Int.mul_neg_of_neg_of_pos q (by omega)
    omega
  · exact q
theorem lh_le {S x1 : Nat} {z : Int} (hS : 0 < S) (h : z * S ≤ (x1 : Int) * S) : z ≤ x1 := Int.le_of_mul_le_mul_right h (by omega)
theorem lh_nb {A B S x0 y0 : Nat} {a b c d x y : Int} (hS : 0 < S) (hA : x0 * S ≤ A) (hA2 : A ≤ (x0 + 1) * S) (hB : y0 * S ≤ B) (hB2 : B ≤ (y0 + 1) * S) (h : lh_I A B S x0 y0 a b c d x y) : (-2000000000 ≤ a ∧ a ≤ 2000000000) ∧ (-2000000000 ≤ b ∧ b ≤ 2000000000) ∧ (-2000000000 ≤ c ∧ c ≤ 2000000000) ∧ (-2000000000 ≤ d ∧ d ≤ 2000000000) ∧ (-2000000000 ≤ x ∧ x ≤ x0 + 2000000001) ∧ (-2000000000 ≤ y ∧ y ≤ x0 + 2000000001) := by
  obtain ⟨M, N, hM, hN, hNM, hMA, hg, hx, hy, hsg, ba, bb, bc, bd, t3, hms⟩ := h
  have kM := lh_at hS hA hA2 hB hB2 hM hx
  have kN := lh_at hS hA hA2 hB hB2 hN hy
  unfold lh_bd at *
  have hA3 : (A : Int) ≤ ((x0 + 1 : Nat) : Int) * (S : Int) := by exact_mod_cast hA2
  have key : ∀ (z : Int) (K : Nat), K ≤ A → z * S ≤ K → z ≤ x0 + 1 := fun z K h1 h2 => by
    have := lh_le (x1 := x0 + 1) hS (z := z) (by omega)
    omega
  have pos : ∀ (z : Int) (K : Nat), (K : Int) ≤ z * S → 0 ≤ z := fun z K h1 => lh_pos hS (by omega)
  rcases hsg with ⟨g1, g2, g3, g4⟩ | ⟨g1, g2, g3, g4⟩
  · have a1 := key _ M hMA (kM.1 g1 g2).1
    have a2 := pos _ M (kM.1 g1 g2).2
    have a3 := key _ N (by omega) (kN.2 g3 g4).1
    have a4 := pos _ N (kN.2 g3 g4).2
    omega
  · have a1 := key _ M hMA (kM.2 g1 g2).1
    have a2 := pos _ M (kM.2 g1 g2).2
    have a3 := key _ N (by omega) (kN.1 g3 g4).1
    have a4 := pos _ N (kN.1 g3 g4).2
    omega
theorem tdv_bd {n d : Int} (hd : 0 < d) : -n.natAbs ≤ n.tdiv d ∧ n.tdiv d ≤ n.natAbs := by
  have h := Int.natAbs_tdiv_le_natAbs n d
  omega
theorem pb_mul {q c : Int} (h0 : 0 ≤ q) (h1 : q ≤ 2000000000) (h2 : -2000000000 ≤ c) (h3 : c ≤ 2000000000) : -4000000000000000000 ≤ q * c ∧ q * c ≤ 4000000000000000000 := by
  have a1 : q * c ≤ q * 2000000000 := Int.mul_le_mul_of_nonneg_left h3 h0
  have a2 : q * (-2000000000) ≤ q * c := Int.mul_le_mul_of_nonneg_left h2 h0
  omega
theorem absL_lI {e : Int} (h1 : -9223372036854775808 < e) (h2 : e < 9223372036854775808) : absL (lI e) = lI (e.natAbs : Int) := by
  unfold absL
  by_cases h : e < 0
  · have : lI e < 0 := (lI_lt (b := 0) (by omega) (by omega) (by decide) (by decide)).mpr h
    rw [if_pos this]
    show -(Int64.ofInt e) = Int64.ofInt _
    rw [← Int64.ofInt_neg]
    congr 1
    omega
  · have : ¬ lI e < 0 := fun z => h ((lI_lt (b := 0) (by omega) (by omega) (by decide) (by decide)).mp z)
    rw [if_neg this]
    congr 1
    omega
theorem lead_lt {f : Nat → Int32} {k A td : Nat} (h : isD f (k + 3) A) (ht : df f (k + 2) < 10 ^ td) : A / (1000000000 ^ k * 10 ^ td) < 1000000000000000000 := by
  have e := h.2.2
  rw [dv_s] at e
  have h1 : dv (df f) (k + 2) < 1000000000 ^ (k + 2) := dv_lt (lim_dok (lim_le h.1 (by omega)))
  have hp : 0 < 1000000000 ^ k * 10 ^ td := Nat.mul_pos (pB_pos k) (Nat.pow_pos (by decide))
  rw [Nat.div_lt_iff_lt_mul hp]
  have h2 : A < (df f (k + 2) + 1) * 1000000000 ^ (k + 2) := by rw [Nat.add_mul]; omega
  have h3 : (df f (k + 2) + 1) * 1000000000 ^ (k + 2) ≤ 10 ^ td * 1000000000 ^ (k + 2) := Nat.mul_le_mul_right _ ht
  have h4 : 10 ^ td * 1000000000 ^ (k + 2) = 1000000000000000000 * (1000000000 ^ k * 10 ^ td) := by
    rw [pB_s, pB_s]
    generalize 1000000000 ^ k = P
    generalize 10 ^ td = Q
    grind
  omega
theorem lead_in {A S : Nat} (hS : 0 < S) : A / S * S ≤ A ∧ A ≤ (A / S + 1) * S := by
  have := Nat.div_mul_le_self A S
  rw [Nat.add_mul]
  have h3 := Nat.div_add_mod A S
  have h4 := Nat.mod_lt A hS
  rw [Nat.mul_comm] at h3
  omega
theorem w2_fr {cA : Nat → ClassId} {X : Nat × Nat} {ad V : Nat → Nat} {G G1 : gT} {B : Nat × Nat} {M : Nat → Prop} (hW : w2 cA X ad V (G, B)) (hf : gfr M G G1) (hM : ∀ t, t < 19 → ¬ M t) : w2 cA X ad V (G1, B) := by
  obtain ⟨k, h1, h2, h3⟩ := hW
  exact ⟨k, fun t ht => ⟨isN_fr (h1 t ht).1 hf (hM t ht), (h1 t ht).2⟩, h2, h3⟩
