/-! ===== 900 digits ===== -/
def m900 : Nat := 10 ^ 900
theorem m900_B : m900 = 1000000000 ^ 100 := by
  unfold m900
  rw [show (900 : Nat) = 9 * 100 from rfl, Nat.pow_mul]
theorem isK_long {v K : Nat} (h : isK v K) : 900 < K ↔ m900 ≤ v := by
  unfold m900
  rcases h with ⟨h1, h2⟩ | ⟨h0, h1, h2, h3⟩
  · have : 0 < 10 ^ 900 := Nat.pow_pos (by decide)
    constructor
    · intro hk; omega
    · intro hv; omega
  · constructor
    · intro hk
      exact Nat.le_trans (Nat.pow_le_pow_right (by decide) (by omega)) h2
    · intro hv
      rcases Nat.lt_or_ge 900 K with q | q
      · exact q
      · exfalso
        have h4 : 10 ^ K ≤ 10 ^ 900 := Nat.pow_le_pow_right (by decide) q
        omega
theorem w2_twoM {cA : Nat → ClassId} {X : Nat × Nat} {ad V κ : Nat → Nat} {G : gT} {B : Nat × Nat} {M : Nat → Prop} {u : gT × Nat × Nat} {s t c1 c2 v1 v2 : Nat} (hκ : ∀ t, t < 19 → isN cA G (κ t) t (ad t) (V t) ∧ κ t ≤ 3000) (hb1 : B.1 + 57000 ≤ X.1 + ks κ 19) (hb2 : B.2 + 114000 ≤ X.2 + 2 * ks κ 19) (hs : s < 19) (ht : t < 19) (hne : ¬ s = t) (hf : gfr M G u.1) (hM : ∀ x, x < 19 → ¬ x = s → ¬ x = t → ¬ M x) (hMs : M s) (hMt : M t) (i1 : isN cA u.1 c1 s (ad s) v1) (i2 : isN cA u.1 c2 t (ad t) v2) (hc1 : c1 ≤ 3000) (hc2 : c2 ≤ 3000) (e1 : u.2.1 + κ s + κ t ≤ B.1 + c1 + c2) (e2 : u.2.2 + 2 * κ s + 2 * κ t ≤ B.2 + 2 * c1 + 2 * c2) : ∃ V1, w2s cA X ad M G V V1 u ∧ V1 s = v1 ∧ V1 t = v2 := by
  refine ⟨va_up (va_up V s v1) t v2, ⟨⟨va_up (va_up κ s c1) t c2, fun x hx => ?_, ?_, ?_⟩, fun x hx => ?_, hf⟩, ?_, va_up_self _ _ _⟩
  · by_cases q0 : x = t
    · subst q0
      rw [va_up_self, va_up_self]
      exact ⟨i2, hc2⟩
    · rw [va_up_ne _ _ q0, va_up_ne _ _ q0]
      by_cases q1 : x = s
      · subst q1
        rw [va_up_self, va_up_self]
        exact ⟨i1, hc1⟩
      · rw [va_up_ne _ _ q1, va_up_ne _ _ q1]
        exact ⟨isN_fr (hκ x hx).1 hf (hM x hx q1 q0), (hκ x hx).2⟩
  · have p1 := ks_up (κ := κ) (x := c1) hs
    have p2 := ks_up (κ := va_up κ s c1) (x := c2) ht
    rw [va_up_ne _ _ (fun e => hne e.symm)] at p2
    omega
  · have p1 := ks_up (κ := κ) (x := c1) hs
    have p2 := ks_up (κ := va_up κ s c1) (x := c2) ht
    rw [va_up_ne _ _ (fun e => hne e.symm)] at p2
    omega
  · rw [va_up_ne _ _ (show x ≠ t from fun e => hx (by rw [e]; exact hMt)), va_up_ne _ _ (show x ≠ s from fun e => hx (by rw [e]; exact hMs))]
  · rw [va_up_ne _ _ hne, va_up_self]
theorem ks_st {cA : Nat → ClassId} {ad V κ : Nat → Nat} {G : gT} {s t : Nat} (h : ∀ t, t < 19 → isN cA G (κ t) t (ad t) (V t) ∧ κ t ≤ 3000) (hs : s < 19) (ht : t < 19) (hne : ¬ s = t) : ks κ 19 + 6000 ≤ 57000 + κ s + κ t := by
  have h1 := ks_up (κ := κ) (x := 3000) hs
  have h2 := ks_cap (κ := va_up κ s 3000) (C := 3000) (m := 19) (n := t) (fun x hx => by
    by_cases e : x = s
    · subst e; rw [va_up_self]; exact Nat.le_refl _
    · rw [va_up_ne _ _ e]; exact (h x hx).2) ht
  rw [va_up_ne _ _ (fun e => hne e.symm)] at h2
  omega
theorem isK_lt {v K : Nat} (h : isK v K) (hv : v < 1000000000 ^ 1500) : K ≤ 13500 := by
  rcases h with ⟨h1, h2⟩ | ⟨h0, h1, h2, h3⟩
  · omega
  · rcases Nat.lt_or_ge 13500 K with q | q
    · exfalso
      have e : (1000000000 : Nat) ^ 1500 = 10 ^ 13500 := by rw [show (13500 : Nat) = 9 * 1500 from rfl, Nat.pow_mul]
      have h4 : 10 ^ 13500 ≤ 10 ^ (K - 1) := Nat.pow_le_pow_right (by decide) (by omega)
      rw [e] at hv
      omega
    · exact q
