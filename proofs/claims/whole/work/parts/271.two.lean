/-! ===== two numbers have turned; a step of the factors ===== -/
theorem w2_two {cA : Nat → ClassId} {X : Nat × Nat} {ad V κ : Nat → Nat} {G : gT} {B : Nat × Nat} {u : gT × Nat × Nat} {s t c1 c2 v1 v2 : Nat} (hκ : ∀ t, t < 19 → isN cA G (κ t) t (ad t) (V t) ∧ κ t ≤ 3000) (hb1 : B.1 + 57000 ≤ X.1 + ks κ 19) (hb2 : B.2 + 114000 ≤ X.2 + 2 * ks κ 19) (hs : s < 19) (ht : t < 19) (hne : ¬ s = t) (hf : gfr (fun x => x = s ∨ x = t) G u.1) (i1 : isN cA u.1 c1 s (ad s) v1) (i2 : isN cA u.1 c2 t (ad t) v2) (hc1 : c1 ≤ 3000) (hc2 : c2 ≤ 3000) (e1 : u.2.1 + κ s + κ t ≤ B.1 + c1 + c2) (e2 : u.2.2 + 2 * κ s + 2 * κ t ≤ B.2 + 2 * c1 + 2 * c2) : ∃ V1, w2s cA X ad (fun x => x = s ∨ x = t) G V V1 u ∧ V1 s = v1 ∧ V1 t = v2 := by
  refine ⟨va_up (va_up V s v1) t v2, ⟨⟨va_up (va_up κ s c1) t c2, fun x hx => ?_, ?_, ?_⟩, fun x hx => ?_, hf⟩, ?_, va_up_self _ _ _⟩
  · by_cases q0 : x = t
    · subst q0
      rw [va_up_self, va_up_self]
      exact ⟨i2, hc2⟩
    · rw [va_up_ne _ _ q0, va_up_ne _ _ q0]
      by_cases q1 : x = s
      · subst q1
        rw [va_up_self, va_up_self]
        exact ⟨i1, hc1⟩
      · rw [va_up_ne _ _ q1, va_up_ne _ _ q1]
        exact ⟨isN_fr (hκ x hx).1 hf (by omega), (hκ x hx).2⟩
  · have p1 := ks_up (κ := κ) (x := c1) hs
    have p2 := ks_up (κ := va_up κ s c1) (x := c2) ht
    rw [va_up_ne _ _ (fun e => hne e.symm)] at p2
    omega
  · have p1 := ks_up (κ := κ) (x := c1) hs
    have p2 := ks_up (κ := va_up κ s c1) (x := c2) ht
    rw [va_up_ne _ _ (fun e => hne e.symm)] at p2
    omega
  · rw [va_up_ne _ _ (fun e => hx (Or.inr e)), va_up_ne _ _ (fun e => hx (Or.inl e))]
  · rw [va_up_ne _ _ hne, va_up_self]
theorem fac_step {g f h : Nat → Int32} {i r : Nat} {a b c0 pb : Int} (hr : r < 2 ^ 31) (hv : ((dv (df g) i : Nat) : Int) + c0 * ((1000000000 ^ i : Nat) : Int) = a * ((dv (df f) i : Nat) : Int) + b * ((dv (df h) i : Nat) : Int)) (hp : pb = a * ((df f i : Nat) : Int) + b * ((df h i : Nat) : Int) + c0) (hq : pb = (r : Int) + pb / 1000000000 * 1000000000) : ((dv (df (upd g i (nI r))) (i + 1) : Nat) : Int) + pb / 1000000000 * ((1000000000 ^ (i + 1) : Nat) : Int) = a * ((dv (df f) (i + 1) : Nat) : Int) + b * ((dv (df h) (i + 1) : Nat) : Int) := by
  rw [dv_upd_s hr, dv_s, dv_s, pB_s]
  simp only [Int.natCast_add, Int.natCast_mul]
  generalize ((1000000000 ^ i : Nat) : Int) = P at *
  generalize pb / 1000000000 = q at *
  generalize ((dv (df g) i : Nat) : Int) = S at *
  generalize ((dv (df f) i : Nat) : Int) = X at *
  generalize ((dv (df h) i : Nat) : Int) = Y at *
  generalize ((df f i : Nat) : Int) = x at *
  generalize ((df h i : Nat) : Int) = y at *
  have e2 : (a * x + b * y + c0) * P = ((r : Int) + q * 1000000000) * P := by rw [← hp, ← hq]
  have e3 : ((1000000000 : Nat) : Int) = 1000000000 := rfl
  rw [e3]
  grind
theorem fac_end {D P M : Nat} {c0 : Int} (h : (D : Int) + c0 * (P : Int) = (M : Int)) (hD : D < P) (hM : M < P) : D = M := by
  rcases Int.lt_trichotomy c0 0 with q | q | q
  · have : c0 * (P : Int) ≤ (-1) * (P : Int) := Int.mul_le_mul_of_nonneg_right (by omega) (by omega)
    omega
  · subst q
    omega
  · have : 1 * (P : Int) ≤ c0 * (P : Int) := Int.mul_le_mul_of_nonneg_right (by omega) (by omega)
    omega
theorem fb_mul {a : Int} {x : Nat} (h1 : -2000000000 ≤ a) (h2 : a ≤ 2000000000) (hx : x < 1000000000) : -2000000000000000000 ≤ a * (x : Int) ∧ a * (x : Int) ≤ 2000000000000000000 := by
  have a1 : a * (x : Int) ≤ 2000000000 * (x : Int) := Int.mul_le_mul_of_nonneg_right h2 (by omega)
  have a2 : (-2000000000) * (x : Int) ≤ a * (x : Int) := Int.mul_le_mul_of_nonneg_right h1 (by omega)
  omega
theorem ks_2 {cA : Nat → ClassId} {ad V κ : Nat → Nat} {G : gT} (h : ∀ t, t < 19 → isN cA G (κ t) t (ad t) (V t) ∧ κ t ≤ 3000) : ks κ 19 + 6000 ≤ 57000 + κ 3 + κ 4 := by
  simp only [ks]
  have h0 := (h 0 (by decide)).2
  have h1 := (h 1 (by decide)).2
  have h2 := (h 2 (by decide)).2
  have h5 := (h 5 (by decide)).2
  have h6 := (h 6 (by decide)).2
  have h7 := (h 7 (by decide)).2
  have h8 := (h 8 (by decide)).2
  have h9 := (h 9 (by decide)).2
  have h10 := (h 10 (by decide)).2
  have h11 := (h 11 (by decide)).2
  have h12 := (h 12 (by decide)).2
  have h13 := (h 13 (by decide)).2
  have h14 := (h 14 (by decide)).2
  have h15 := (h 15 (by decide)).2
  have h16 := (h 16 (by decide)).2
  have h17 := (h 17 (by decide)).2
  have h18 := (h 18 (by decide)).2
  omega
