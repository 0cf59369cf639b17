theorem cmp_ge {x : Int32} {a b : Nat} (h : (x = -1 ∧ a < b) ∨ (x = nI 0 ∧ a = b) ∨ (x = nI 1 ∧ b < a)) (c : 0 ≤ x) : b ≤ a := by
  rcases h with ⟨h1, h2⟩ | ⟨h1, h2⟩ | ⟨h1, h2⟩
  · subst h1; exact absurd c (by decide)
  · omega
  · omega
theorem cmp_lt {x : Int32} {a b : Nat} (h : (x = -1 ∧ a < b) ∨ (x = nI 0 ∧ a = b) ∨ (x = nI 1 ∧ b < a)) (c : ¬ 0 ≤ x) : a < b := by
  rcases h with ⟨h1, h2⟩ | ⟨h1, h2⟩ | ⟨h1, h2⟩
  · exact h2
  · subst h1; exact absurd (show (0 : Int32) ≤ nI 0 by decide) c
  · subst h1; exact absurd (show (0 : Int32) ≤ nI 1 by decide) c
theorem MR_eq {cA : Nat → ClassId} {A : Nat → Nat} {R R' : Nat → Nat} {G : gT} (h : MR cA A R G) (e : ∀ q, R q = R' q) : MR cA A R' G := by
  have : R = R' := funext e
  rw [← this]
  exact h
theorem isD_one {f : Nat → Int32} {z v : Nat} (h : isD f z v) (h0 : 0 < v) (h1 : v < 1000000000) : z = 1 ∧ f 0 = nI v := by
  have hz : z ≤ 1 := isD_size h (by rw [Nat.pow_one]; exact h1)
  have hz0 : z ≠ 0 := fun e => by have := (isD_z0 h).mp e; omega
  have e : z = 1 := by omega
  subst e
  refine ⟨rfl, ?_⟩
  have h2 : dv (df f) 1 = v := h.2.2
  rw [dv_s, dv_0, Nat.zero_add, Nat.pow_zero, Nat.mul_one] at h2
  rw [← h2]
  exact (h.1 0 (by decide)).1
theorem isD_1v {f : Nat → Int32} {v : Nat} (h : isD f 1 v) : v < 1000000000 := by
  have := isD_lt h
  rwa [Nat.pow_one] at this
/-- the registers other than r and 8 are as they were -/
def oth2 (r : Nat) (f f1 : Nat → Int32) : Prop := ∀ q, q ≠ r → q ≠ 8 → ∀ i, i < 4300 → sh f1 q i = sh f q i
theorem oth2_rf {r : Nat} {f : Nat → Int32} : oth2 r f f := fun _ _ _ _ _ => rfl
theorem oth2_tr {r : Nat} {f f1 f2 : Nat → Int32} (h : oth2 r f f1) (h2 : oth r f1 f2) : oth2 r f f2 := fun q h1 h8 i hi => (h2 q h1 i hi).trans (h q h1 h8 i hi)
theorem oth2_up {r k : Nat} {f f1 : Nat → Int32} {x : Int32} (h : oth2 r f f1) (hk : k < 4300) : oth2 r f (upd f1 (4300 * 8 + k) x) := fun q h1 h8 i hi => (sh_un h8 hk i hi).trans (h q h1 h8 i hi)
theorem RG_two {f f1 g g1 : Nat → Int32} {R : Nat → Nat} {r z v z8 v8 : Nat} (h : RG f g R) (hr8 : r ≠ 8) (ho : oth2 r f f1) (hg : g1 r = nI z) (hg8 : g1 8 = nI z8) (hgo : ∀ q, q ≠ r → q ≠ 8 → g1 q = g q) (hz : z ≤ 4300) (hz8 : z8 ≤ 4300) (hD : isD (sh f1 r) z v) (hD8 : isD (sh f1 8) z8 v8) : RG f1 g1 (fup (fup R 8 v8) r v) := by
  intro q hq
  by_cases e : q = r
  · subst e
    exact ⟨z, hg, hz, by rw [fup_s]; exact hD⟩
  · by_cases e8 : q = 8
    · subst e8
      exact ⟨z8, hg8, hz8, by rw [fup_n e, fup_s]; exact hD8⟩
    · obtain ⟨z1, h1, h2, h3⟩ := h q hq
      exact ⟨z1, (hgo q e e8).trans h1, h2, by rw [fup_n e, fup_n e8]; exact isD_congr h3 (fun i hi => ho q e e8 i (by omega))⟩
theorem sd_n {v s k : Nat} (h : v < 1000000000 ^ k) (hs : s ≤ 1000000000) : v * s < 1000000000 ^ (k + 1) := by
  have h1 : v * s ≤ v * 1000000000 := Nat.mul_le_mul_left _ hs
  have h2 : v * 1000000000 < 1000000000 ^ k * 1000000000 := Nat.mul_lt_mul_of_pos_right h (by decide)
  rw [Nat.pow_succ]
  omega
theorem rem_low {a d M x : Nat} (h : a + d * M = x) (hx : x < M) : a = x := by
  rcases Nat.eq_zero_or_pos d with e | e
  · subst e; omega
  · have := Nat.le_mul_of_pos_left M e
    omega
