/-! ===== LONGS AS INTEGERS ===== -/
def lI (z : Int) : Int64 := Int64.ofInt z
theorem lN_lI (n : Nat) : lN n = lI (n : Int) := (Int64.ofInt_eq_ofNat).symm
theorem lI_add (a b : Int) : lI a + lI b = lI (a + b) := (Int64.ofInt_add a b).symm
theorem lI_sub (a b : Int) : lI a - lI b = lI (a - b) := (Int64.ofInt_sub a b).symm
theorem lI_mul (a b : Int) : lI a * lI b = lI (a * b) := (Int64.ofInt_mul a b).symm
theorem lI_toInt {a : Int} (h1 : -9223372036854775808 ≤ a) (h2 : a < 9223372036854775808) : (lI a).toInt = a := Int64.toInt_ofInt_of_le (by simpa using h1) (by simpa using h2)
theorem lI_self (x : Int64) : x = lI x.toInt := (Int64.ofInt_toInt x).symm
theorem lI_i {e : Int} {n : Nat} (h : e = (n : Int)) : (lI e).toInt32 = nI n := by
  rw [h, ← lN_lI, lN_i]
section LI
variable {a b : Int}
theorem lI_lt (ha1 : -9223372036854775808 ≤ a) (ha2 : a < 9223372036854775808) (hb1 : -9223372036854775808 ≤ b) (hb2 : b < 9223372036854775808) : lI a < lI b ↔ a < b := by
  rw [Int64.lt_iff_toInt_lt, lI_toInt ha1 ha2, lI_toInt hb1 hb2]
theorem lI_eq (ha1 : -9223372036854775808 ≤ a) (ha2 : a < 9223372036854775808) (hb1 : -9223372036854775808 ≤ b) (hb2 : b < 9223372036854775808) : lI a = lI b ↔ a = b := by
  rw [← Int64.toInt_inj, lI_toInt ha1 ha2, lI_toInt hb1 hb2]
theorem lcI_lt (ha1 : -9223372036854775808 ≤ a) (ha2 : a < 9223372036854775808) (hb1 : -9223372036854775808 ≤ b) (hb2 : b < 9223372036854775808) : (lg_cmp (lI a) (lI b) < 0 → a < b) ∧ (¬ lg_cmp (lI a) (lI b) < 0 → a ≥ b) := by
  rw [lc_lt, lI_lt ha1 ha2 hb1 hb2]
  exact ⟨id, Int.not_lt.mp⟩
theorem lcI_gt (ha1 : -9223372036854775808 ≤ a) (ha2 : a < 9223372036854775808) (hb1 : -9223372036854775808 ≤ b) (hb2 : b < 9223372036854775808) : (0 < lg_cmp (lI a) (lI b) → a > b) ∧ (¬ 0 < lg_cmp (lI a) (lI b) → a ≤ b) := by
  rw [lc_gt, lI_lt hb1 hb2 ha1 ha2]
  exact ⟨id, Int.not_lt.mp⟩
theorem lcI_ge (ha1 : -9223372036854775808 ≤ a) (ha2 : a < 9223372036854775808) (hb1 : -9223372036854775808 ≤ b) (hb2 : b < 9223372036854775808) : (0 ≤ lg_cmp (lI a) (lI b) → a ≥ b) ∧ (¬ 0 ≤ lg_cmp (lI a) (lI b) → a < b) := by
  rw [lc_ge, lI_lt ha1 ha2 hb1 hb2]
  exact ⟨Int.not_lt.mp, Decidable.not_not.mp⟩
theorem lcI_le (ha1 : -9223372036854775808 ≤ a) (ha2 : a < 9223372036854775808) (hb1 : -9223372036854775808 ≤ b) (hb2 : b < 9223372036854775808) : (lg_cmp (lI a) (lI b) ≤ 0 → a ≤ b) ∧ (¬ lg_cmp (lI a) (lI b) ≤ 0 → a > b) := by
  rw [lc_le, lI_lt hb1 hb2 ha1 ha2]
  exact ⟨Int.not_lt.mp, Decidable.not_not.mp⟩
theorem lcI_eq (ha1 : -9223372036854775808 ≤ a) (ha2 : a < 9223372036854775808) (hb1 : -9223372036854775808 ≤ b) (hb2 : b < 9223372036854775808) : (lg_cmp (lI a) (lI b) = 0 → a = b) ∧ (¬ lg_cmp (lI a) (lI b) = 0 → a ≠ b) := by
  rw [lc_eq, lI_eq ha1 ha2 hb1 hb2]
  exact ⟨id, id⟩
theorem lcI_ne (ha1 : -9223372036854775808 ≤ a) (ha2 : a < 9223372036854775808) (hb1 : -9223372036854775808 ≤ b) (hb2 : b < 9223372036854775808) : (¬ lg_cmp (lI a) (lI b) = 0 → a ≠ b) ∧ (lg_cmp (lI a) (lI b) = 0 → a = b) := by
  rw [lc_eq, lI_eq ha1 ha2 hb1 hb2]
  exact ⟨id, id⟩
end LI
/-- .. and the limbs up to k are good, their number v -/
def nres2 (cA : Nat → ClassId) (G : gT) (B : Nat × Nat) (t h cap k v : Nat) (u : gT × Nat × Nat) : Prop := ∃ (a2 z2 : Nat) (f2 : Nat → Int32), u.1 h = some (t, .inr (4, [.ref a2, .int (nI z2)])) ∧ u.1 a2 = some (t, .inl (cA 0, gcap cap k, .inl f2)) ∧ z2 ≤ k ∧ isD f2 z2 v ∧ lim f2 k ∧ dv (df f2) k = v ∧ gfr (fun x => x = t) G u.1 ∧ u.2.1 + cap ≤ B.1 + gcap cap k ∧ u.2.2 + 2 * cap ≤ B.2 + 2 * gcap cap k
theorem lNN_add (p q : Nat) : lN p + lN q = lI ((p : Int) + (q : Int)) := by rw [lN_lI, lN_lI, lI_add]
theorem lNN_sub (p q : Nat) : lN p - lN q = lI ((p : Int) - (q : Int)) := by rw [lN_lI, lN_lI, lI_sub]
theorem lNN_mul (p q : Nat) : lN p * lN q = lI ((p : Int) * (q : Int)) := by rw [lN_lI, lN_lI, lI_mul]
theorem lIN_add (p : Int) (q : Nat) : lI p + lN q = lI (p + (q : Int)) := by rw [lN_lI, lI_add]
theorem lIN_sub (p : Int) (q : Nat) : lI p - lN q = lI (p - (q : Int)) := by rw [lN_lI, lI_sub]
theorem lIN_mul (p : Int) (q : Nat) : lI p * lN q = lI (p * (q : Int)) := by rw [lN_lI, lI_mul]
theorem lNI_add (p : Nat) (q : Int) : lN p + lI q = lI ((p : Int) + q) := by rw [lN_lI, lI_add]
theorem lNI_sub (p : Nat) (q : Int) : lN p - lI q = lI ((p : Int) - q) := by rw [lN_lI, lI_sub]
theorem lNI_mul (p : Nat) (q : Int) : lN p * lI q = lI ((p : Int) * q) := by rw [lN_lI, lI_mul]
theorem cmp_IN (a : Int) (b : Nat) : lg_cmp (lI a) (lN b) = lg_cmp (lI a) (lI (b : Int)) := by rw [lN_lI]
theorem cmp_NI (a : Nat) (b : Int) : lg_cmp (lN a) (lI b) = lg_cmp (lI (a : Int)) (lI b) := by rw [lN_lI]
theorem iv_0 {iv : Int32} (h : iv + nI 1 = nI 0) : iv = -1 := by
  have e : iv = nI 0 - nI 1 := by rw [← h]; exact (Int32.add_sub_cancel iv (nI 1)).symm
  rw [e]; decide
theorem iv_s {iv : Int32} {j : Nat} (h : iv + nI 1 = nI (j + 1)) : iv = nI j := by
  have e : iv = nI (j + 1) - nI 1 := by rw [← h]; exact (Int32.add_sub_cancel iv (nI 1)).symm
  rw [e]; exact (pk_sub (by omega)).trans (congrArg nI (by omega))
