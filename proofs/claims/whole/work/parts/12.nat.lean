/-! ===== NATURALS IN THE GHOST HEAP ===== -/
def gtys (cA : Nat → ClassId) : List (ClassId × FieldType) := [(cA 0, .int), (cA 1, .long), (cA 2, .object "MetreFractions$Value"), (cA 3, .object "MetreFractions$Row")]
/-- all cells whose tag is not of M stay -/
def gfr (M : Nat → Prop) (G G' : gT) : Prop := ∀ (q : Nat) (x : Nat × va_E), G q = some x → ¬ M x.1 → G' q = some x
theorem gfr_rf {M : Nat → Prop} {G : gT} : gfr M G G := fun _ _ h _ => h
theorem gfr_tr {M M' : Nat → Prop} {G G1 G2 : gT} (h1 : gfr M G G1) (h2 : gfr M' G1 G2) : gfr (fun t => M t ∨ M' t) G G2 := fun q x h hn => h2 q x (h1 q x h (fun z => hn (Or.inl z))) (fun z => hn (Or.inr z))
theorem gfr_mono {M M' : Nat → Prop} {G G1 : gT} (h : gfr M G G1) (hM : ∀ t, M t → M' t) : gfr M' G G1 := fun q x hq hn => h q x hq (fun z => hn (hM _ z))
theorem gfr_put {M : Nat → Prop} {G G1 G2 : gT} {a : Nat} {x : Nat × va_E} (h : gfr M G G1) (ha : G1 a = some x) (hM : M x.1) (ho : ∀ q, q ≠ a → G2 q = G1 q) : gfr M G G2 := fun q y hq hn => by
  have h1 := h q y hq hn
  by_cases e : q = a
  · subst e
    rw [ha] at h1
    cases h1
    exact absurd hM hn
  · rw [ho q e]; exact h1
theorem gfr_new {M : Nat → Prop} {G G1 G2 : gT} {a : Nat} (h : gfr M G G1) (ha : G1 a = none) (ho : ∀ q, q ≠ a → G2 q = G1 q) : gfr M G G2 := fun q y hq hn => by
  have h1 := h q y hq hn
  by_cases e : q = a
  · subst e
    rw [ha] at h1
    cases h1
  · rw [ho q e]; exact h1
/-- how long the limbs are behind grow(k) -/
def gcap (cap k : Nat) : Nat := if k ≤ cap then cap else max k (2 * cap)
theorem gcap_ge (cap k : Nat) : cap ≤ gcap cap k ∧ k ≤ gcap cap k := by
  unfold gcap
  split <;> omega
theorem gcap_le {cap k M : Nat} (h1 : cap ≤ M) (h2 : k ≤ M) : gcap cap k ≤ 2 * M := by
  unfold gcap
  split <;> omega
theorem gcap_no {cap k : Nat} (h : k ≤ cap) : gcap cap k = cap := if_pos h
theorem gcap_yes {cap k : Nat} (h : cap < k) : gcap cap k = max k (2 * cap) := if_neg (by omega)
/-! branches on numbers: what the two sides of a branch say -/
section NN
variable {a b : Nat}
theorem nn_lt (ha : a < 2 ^ 31) (hb : b < 2 ^ 31) : (nI a < nI b → a < b) ∧ (¬ nI a < nI b → a ≥ b) := ⟨(nI_ltI ha hb).mp, fun h => Nat.not_lt.mp fun z => h ((nI_ltI ha hb).mpr z)⟩
theorem nn_ge (ha : a < 2 ^ 31) (hb : b < 2 ^ 31) : (nI b ≤ nI a → a ≥ b) ∧ (¬ nI b ≤ nI a → a < b) := ⟨(nI_leI hb ha).mp, fun h => Nat.not_le.mp fun z => h ((nI_leI hb ha).mpr z)⟩
theorem nn_gt (ha : a < 2 ^ 31) (hb : b < 2 ^ 31) : (nI b < nI a → a > b) ∧ (¬ nI b < nI a → a ≤ b) := ⟨(nI_ltI hb ha).mp, fun h => Nat.not_lt.mp fun z => h ((nI_ltI hb ha).mpr z)⟩
theorem nn_le (ha : a < 2 ^ 31) (hb : b < 2 ^ 31) : (nI a ≤ nI b → a ≤ b) ∧ (¬ nI a ≤ nI b → a > b) := ⟨(nI_leI ha hb).mp, fun h => Nat.not_le.mp fun z => h ((nI_leI ha hb).mpr z)⟩
theorem nn_eq (ha : a < 2 ^ 31) (hb : b < 2 ^ 31) : (nI a = nI b → a = b) ∧ (¬ nI a = nI b → a ≠ b) := ⟨(nI_eq ha hb).mp, fun h z => h ((nI_eq ha hb).mpr z)⟩
theorem nn_ne (ha : a < 2 ^ 31) (hb : b < 2 ^ 31) : (¬ nI a = nI b → a ≠ b) ∧ (nI a = nI b → a = b) := ⟨fun h z => h ((nI_eq ha hb).mpr z), (nI_eq ha hb).mp⟩
theorem n0_lt (ha : a < 2 ^ 31) : (nI a < 0 → a < 0) ∧ (¬ nI a < 0 → a ≥ 0) := nn_lt (b := 0) ha (by decide)
theorem n0_ge (ha : a < 2 ^ 31) : (0 ≤ nI a → a ≥ 0) ∧ (¬ 0 ≤ nI a → a < 0) := nn_ge (b := 0) ha (by decide)
theorem n0_gt (ha : a < 2 ^ 31) : (0 < nI a → a > 0) ∧ (¬ 0 < nI a → a ≤ 0) := nn_gt (b := 0) ha (by decide)
theorem n0_le (ha : a < 2 ^ 31) : (nI a ≤ 0 → a ≤ 0) ∧ (¬ nI a ≤ 0 → a > 0) := nn_le (b := 0) ha (by decide)
theorem n0_eq (ha : a < 2 ^ 31) : (nI a = 0 → a = 0) ∧ (¬ nI a = 0 → a ≠ 0) := nn_eq (b := 0) ha (by decide)
theorem n0_ne (ha : a < 2 ^ 31) : (¬ nI a = 0 → a ≠ 0) ∧ (nI a = 0 → a = 0) := nn_ne (b := 0) ha (by decide)
theorem lc_lt (x y : Int64) : lg_cmp x y < 0 ↔ x < y := by
  unfold lg_cmp
  simp only [gt_iff_lt, Int64.lt_iff_toInt_lt, ← Int64.toInt_inj]
  split
  · constructor
    · intro h; exact absurd h (by decide)
    · intro h; omega
  · split
    · constructor
      · intro h; exact absurd h (by decide)
      · intro h; omega
    · constructor
      · intro h; omega
      · intro h; decide
theorem lc_gt (x y : Int64) : 0 < lg_cmp x y ↔ y < x := by
  unfold lg_cmp
  simp only [gt_iff_lt, Int64.lt_iff_toInt_lt, ← Int64.toInt_inj]
  split
  · constructor
    · intro h; assumption
    · intro h; decide
  · split
    · constructor
      · intro h; exact absurd h (by decide)
      · intro h; omega
    · constructor
      · intro h; exact absurd h (by decide)
      · intro h; omega
theorem lc_eq (x y : Int64) : lg_cmp x y = 0 ↔ x = y := by
  unfold lg_cmp
  simp only [gt_iff_lt, Int64.lt_iff_toInt_lt, ← Int64.toInt_inj]
  split
  · constructor
    · intro h; exact absurd h (by decide)
    · intro h; omega
  · split
    · constructor
      · intro h; assumption
      · intro h; rfl
    · constructor
      · intro h; exact absurd h (by decide)
      · intro h; omega
theorem lc_ge (x y : Int64) : 0 ≤ lg_cmp x y ↔ ¬ x < y := by
  rw [← lc_lt, Int32.not_lt]
theorem lc_le (x y : Int64) : lg_cmp x y ≤ 0 ↔ ¬ y < x := by
  rw [← lc_gt, Int32.not_lt]
theorem lcN_lt (ha : a < 2 ^ 63) (hb : b < 2 ^ 63) : (lg_cmp (lN a) (lN b) < 0 → a < b) ∧ (¬ lg_cmp (lN a) (lN b) < 0 → a ≥ b) := by
  rw [lc_lt, pk_lLT ha hb]
  exact ⟨id, Nat.not_lt.mp⟩
theorem lcN_gt (ha : a < 2 ^ 63) (hb : b < 2 ^ 63) : (0 < lg_cmp (lN a) (lN b) → a > b) ∧ (¬ 0 < lg_cmp (lN a) (lN b) → a ≤ b) := by
  rw [lc_gt, pk_lLT hb ha]
  exact ⟨id, Nat.not_lt.mp⟩
theorem lcN_ge (ha : a < 2 ^ 63) (hb : b < 2 ^ 63) : (0 ≤ lg_cmp (lN a) (lN b) → a ≥ b) ∧ (¬ 0 ≤ lg_cmp (lN a) (lN b) → a < b) := by
  rw [lc_ge, pk_lLT ha hb]
  exact ⟨Nat.not_lt.mp, Decidable.not_not.mp⟩
theorem lcN_le (ha : a < 2 ^ 63) (hb : b < 2 ^ 63) : (lg_cmp (lN a) (lN b) ≤ 0 → a ≤ b) ∧ (¬ lg_cmp (lN a) (lN b) ≤ 0 → a > b) := by
  rw [lc_le, pk_lLT hb ha]
  exact ⟨Nat.not_lt.mp, Decidable.not_not.mp⟩
theorem lcN_eq (ha : a < 2 ^ 63) (hb : b < 2 ^ 63) : (lg_cmp (lN a) (lN b) = 0 → a = b) ∧ (¬ lg_cmp (lN a) (lN b) = 0 → a ≠ b) := by
  rw [lc_eq, pk_lEQ ha hb]
  exact ⟨id, id⟩
theorem lcN_ne (ha : a < 2 ^ 63) (hb : b < 2 ^ 63) : (¬ lg_cmp (lN a) (lN b) = 0 → a ≠ b) ∧ (lg_cmp (lN a) (lN b) = 0 → a = b) := by
  rw [lc_eq, pk_lEQ ha hb]
  exact ⟨id, id⟩
end NN
theorem nI_cl0 : (nI 0).toNatClampNeg = 0 := by decide
/-- what limb(i) answers -/
theorem limb_dx {f : Nat → Int32} {z i : Nat} (h : lim f z) (hi : i < 2 ^ 31) : (if 0 ≤ (nI i).toInt ∧ (nI i).toInt < z then f (nI i).toInt.toNat else 0) = nI (dx f z i) := by
  rw [nI_toInt hi]
  by_cases e : i < z
  · rw [if_pos (by omega), dx_in e]
    exact (h i e).1
  · rw [if_neg (by omega), dx_out (by omega)]
    rfl
/-- the Natural at h (tag t, room cap before) now is v, in at most k limbs; all else stays; what was made is counted by the room -/
def nres (cA : Nat → ClassId) (G : gT) (B : Nat × Nat) (t h cap k v : Nat) (u : gT × Nat × Nat) : Prop := ∃ (a2 z2 : Nat) (f2 : Nat → Int32), u.1 h = some (t, .inr (4, [.ref a2, .int (nI z2)])) ∧ u.1 a2 = some (t, .inl (cA 0, gcap cap k, .inl f2)) ∧ z2 ≤ k ∧ isD f2 z2 v ∧ gfr (fun x => x = t) G u.1 ∧ u.2.1 + cap ≤ B.1 + gcap cap k ∧ u.2.2 + 2 * cap ≤ B.2 + 2 * gcap cap k
