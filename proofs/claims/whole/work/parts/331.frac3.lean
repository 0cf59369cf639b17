/-! ===== signs and sizes of sums and products ===== -/
theorem ab_add {a b : Int} (h : 0 ≤ a * b) : (a + b).natAbs = a.natAbs + b.natAbs ∧ (a ≠ 0 → sgI a = sgI (a + b)) := by
  rcases Int.lt_trichotomy a 0 with ha | ha | ha
  · rcases Int.lt_trichotomy b 0 with hb | hb | hb
    · exact ⟨by omega, fun _ => by rw [sgI_neg ha, sgI_neg (by omega)]⟩
    · exact ⟨by omega, fun _ => by rw [sgI_neg ha, sgI_neg (by omega)]⟩
    · exact absurd (Int.mul_neg_of_neg_of_pos ha hb) (by omega)
  · subst ha
    exact ⟨by omega, fun z => absurd rfl z⟩
  · rcases Int.lt_trichotomy b 0 with hb | hb | hb
    · exact absurd (Int.mul_neg_of_pos_of_neg ha hb) (by omega)
    · exact ⟨by omega, fun _ => by rw [sgI_pos ha, sgI_pos (by omega)]⟩
    · exact ⟨by omega, fun _ => by rw [sgI_pos ha, sgI_pos (by omega)]⟩
theorem ab_sub {a b : Int} (h : a * b < 0) : (b.natAbs ≤ a.natAbs → (a + b).natAbs = a.natAbs - b.natAbs) ∧ (a.natAbs < b.natAbs → (a + b).natAbs = b.natAbs - a.natAbs) ∧ (a.natAbs < b.natAbs → (-1) * sgI a = sgI (a + b)) ∧ (a.natAbs = b.natAbs → nI 0 * sgI a = sgI (a + b)) ∧ (b.natAbs < a.natAbs → nI 1 * sgI a = sgI (a + b)) := by
  rcases Int.lt_trichotomy a 0 with ha | ha | ha
  · have hb : 0 < b := by
      rcases Int.lt_or_le 0 b with q | q
      · exact q
      · exact absurd (Int.mul_nonneg_of_nonpos_of_nonpos (Int.le_of_lt ha) q) (by omega)
    refine ⟨fun _ => by omega, fun _ => by omega, fun _ => ?_, fun _ => ?_, fun _ => ?_⟩
    · rw [sgI_neg ha, sgI_pos (by omega)]; decide
    · rw [sgI_neg ha, show a + b = 0 by omega]; decide
    · rw [sgI_neg ha, sgI_neg (by omega)]; decide
  · subst ha
    rw [Int.zero_mul] at h
    exact absurd h (by decide)
  · have hb : b < 0 := by
      rcases Int.lt_or_le b 0 with q | q
      · exact q
      · exact absurd (Int.mul_nonneg (Int.le_of_lt ha) q) (by omega)
    refine ⟨fun _ => by omega, fun _ => by omega, fun _ => ?_, fun _ => ?_, fun _ => ?_⟩
    · rw [sgI_pos ha, sgI_neg (by omega)]; decide
    · rw [sgI_pos ha, show a + b = 0 by omega]; decide
    · rw [sgI_pos ha, sgI_pos (by omega)]; decide
theorem lb_sum {a b : Int} {k : Nat} (ha : a.natAbs < 1000000000 ^ k) (hb : b.natAbs < 1000000000 ^ k) : (a + b).natAbs < 1000000000 ^ (k + 1) := by
  rw [pB_s]
  omega
theorem nab_mul (p : Int) (k : Nat) : p.natAbs * k = (p * (k : Int)).natAbs := by rw [Int.natAbs_mul, Int.natAbs_natCast]
theorem rdn_le (n d : Nat) : rdn n d ≤ n := Nat.div_le_self _ _
theorem rdd_le (n d : Nat) : rdd n d ≤ d := Nat.div_le_self _ _
/-- a target's end -/
def fT (cA : Nat → ClassId) (X : Nat × Nat) (ad : Nat → Nat) (hd hc : Nat) (M : Nat → Prop) (G : gT) (V : Nat → Nat) (hf ta tb to : Nat) (p : Int) (q : Nat) (u : gT × Nat × Nat) : Prop := ∃ V1, w2s cA X ad M G V V1 u ∧ V1 ta = p.natAbs ∧ V1 tb = q ∧ u.1 hf = some (to, .inr (3, [.int (sgI p), .ref (ad ta), .ref (ad tb)])) ∧ cdO ad hd hc u.1
