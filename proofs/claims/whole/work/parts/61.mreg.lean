/-! ===== THE REFERENCE'S REGISTERS ===== -/
/-- the register r of the limbs f -/
def sh (f : Nat → Int32) (r : Nat) : Nat → Int32 := fun i => f (4300 * r + i)
theorem sh_us {f : Nat → Int32} {r k : Nat} {x : Int32} : sh (upd f (4300 * r + k) x) r = upd (sh f r) k x := by
  funext i
  unfold sh
  by_cases e : i = k
  · subst e; rw [pk_us, pk_us]
  · rw [pk_un (by omega), pk_un e]
theorem sh_un {f : Nat → Int32} {r q k : Nat} {x : Int32} (h : q ≠ r) (hk : k < 4300) : ∀ i, i < 4300 → sh (upd f (4300 * r + k) x) q i = sh f q i := by
  intro i hi
  unfold sh
  rw [pk_un]
  rcases Nat.lt_or_gt_of_ne h with z | z
  · have := Nat.mul_le_mul_left 4300 (show q + 1 ≤ r from z)
    omega
  · have := Nat.mul_le_mul_left 4300 (show r + 1 ≤ q from z)
    omega
/-- the registers other than r are as they were -/
def oth (r : Nat) (f f1 : Nat → Int32) : Prop := ∀ q, q ≠ r → ∀ i, i < 4300 → sh f1 q i = sh f q i
theorem oth_rf {r : Nat} {f : Nat → Int32} : oth r f f := fun _ _ _ _ => rfl
theorem oth_up {r k : Nat} {f f1 : Nat → Int32} {x : Int32} (h : oth r f f1) (hk : k < 4300) : oth r f (upd f1 (4300 * r + k) x) := fun q hq i hi => (sh_un hq hk i hi).trans (h q hq i hi)
theorem oth_tr {r : Nat} {f f1 f2 : Nat → Int32} (h : oth r f f1) (h2 : oth r f1 f2) : oth r f f2 := fun q hq i hi => (h2 q hq i hi).trans (h q hq i hi)
theorem oth_isD {r q z v : Nat} {f f1 : Nat → Int32} (h : oth r f f1) (hq : q ≠ r) (hz : z ≤ 4300) (hD : isD (sh f q) z v) : isD (sh f1 q) z v := isD_congr hD (fun i hi => h q hq i (by omega))
def RG (f g : Nat → Int32) (R : Nat → Nat) : Prop := ∀ r, r < 9 → ∃ z : Nat, g r = nI z ∧ z ≤ 4300 ∧ isD (sh f r) z (R r)
theorem RG_set {f f1 g : Nat → Int32} {R : Nat → Nat} {r z v : Nat} (h : RG f g R) (ho : oth r f f1) (hz : z ≤ 4300) (hD : isD (sh f1 r) z v) : RG f1 (upd g r (nI z)) (fup R r v) := by
  intro q hq
  by_cases e : q = r
  · subst e
    exact ⟨z, pk_us, hz, by rw [fup_s]; exact hD⟩
  · obtain ⟨z1, h1, h2, h3⟩ := h q hq
    exact ⟨z1, (pk_un e).trans h1, h2, by rw [fup_n e]; exact oth_isD ho e h2 h3⟩
/-- the size of r stands already -/
theorem RG_set' {f f1 g g1 : Nat → Int32} {R : Nat → Nat} {r z v : Nat} (h : RG f g R) (ho : oth r f f1) (hg : g1 r = nI z) (hgo : ∀ q, q ≠ r → g1 q = g q) (hz : z ≤ 4300) (hD : isD (sh f1 r) z v) : RG f1 g1 (fup R r v) := by
  intro q hq
  by_cases e : q = r
  · subst e
    exact ⟨z, hg, hz, by rw [fup_s]; exact hD⟩
  · obtain ⟨z1, h1, h2, h3⟩ := h q hq
    exact ⟨z1, (hgo q e).trans h1, h2, by rw [fup_n e]; exact oth_isD ho e h2 h3⟩
/-- the reference's object: its ints I, its arrays' addresses A -/
abbrev mfs (A : Nat → Nat) (I : Nat → Int32) : List Value := [.int (I 0), .int (I 1), .ref (A 2), .ref (A 3), .ref (A 4), .ref (A 5), .int (I 6), .int (I 7), .ref (A 8), .ref (A 9), .int (I 10), .ref (A 11), .ref (A 12), .ref (A 13), .int (I 14), .ref (A 15), .ref (A 16), .ref (A 17), .ref (A 18), .int (I 19), .int (I 20), .int (I 21)]
/-- the registers hold R -/
def MR (cA : Nat → ClassId) (A : Nat → Nat) (R : Nat → Nat) (G : gT) : Prop := ∃ f g : Nat → Int32, G (A 8) = some (75, .inl (cA 0, 38700, .inl f)) ∧ G (A 9) = some (76, .inl (cA 0, 9, .inl g)) ∧ RG f g R
theorem MR_fr {cA : Nat → ClassId} {A : Nat → Nat} {R : Nat → Nat} {G G1 : gT} {M : Nat → Prop} (h : MR cA A R G) (hf : gfr M G G1) (h1 : ¬ M 75) (h2 : ¬ M 76) : MR cA A R G1 := by
  obtain ⟨f, g, a1, a2, a3⟩ := h
  exact ⟨f, g, hf _ _ a1 h1, hf _ _ a2 h2, a3⟩
theorem set_st {lf D P : Nat} (h : 1000000000 * (lf / 1000000000) + lf % 1000000000 = lf) : D + lf % 1000000000 * P + lf / 1000000000 * (1000000000 * P) = D + lf * P := by
  generalize lf / 1000000000 = a at *
  generalize lf % 1000000000 = b at *
  rw [← h]
  grind
theorem dtop_of {f : Nat → Int32} {n : Nat} (h : lim f n) (hv : 1000000000 ^ (n - 1) ≤ dv (df f) n) : dtop (df f) n := by
  cases n with
  | zero => exact Or.inl rfl
  | succ n =>
    refine Or.inr fun z => ?_
    rw [Nat.add_sub_cancel] at *
    have h1 := dv_lt (lim_dok (lim_le h (Nat.le_succ n)))
    rw [dv_s, z, Nat.zero_mul, Nat.add_zero] at hv
    omega
theorem dx_eq {f f1 : Nat → Int32} {z j : Nat} (h : f1 j = f j) : dx f1 z j = dx f z j := by
  unfold dx df
  rw [h]
theorem lim_oth {r q z : Nat} {f f1 : Nat → Int32} (h : oth r f f1) (hq : q ≠ r) (hz : z ≤ 4300) (hl : lim (sh f q) z) : lim (sh f1 q) z := lim_congr hl (fun i hi => h q hq i (by omega))
theorem inc_m (n : Nat) : nI n + Int32.ofInt (-1) = iI ((n : Int) - 1) := by
  rw [nI_iI]
  exact iI_add _ (-1)
theorem sm_st {V low d P A m rest q rest2 : Nat} (h : V = low + d * P + 1000000000 * P * (A * m + rest)) (e : rest * 1000000000 + d = q * m + rest2) : V = low + P * ((q + 1000000000 * A) * m + rest2) := by
  have e2 : P * (rest * 1000000000 + d) = P * (q * m + rest2) := by rw [e]
  rw [h]
  grind
theorem sh0_dv {f : Nat → Int32} {z : Nat} (h : ∀ x, x < z → f x = nI 0) : lim f z ∧ ∀ k, k ≤ z → dv (df f) k = 0 := by
  refine ⟨fun i hi => ?_, fun k hk => ?_⟩
  · have e : df f i = 0 := by unfold df; rw [h i hi]; rfl
    rw [e, h i hi]
    exact ⟨rfl, by decide⟩
  · induction k with
    | zero => rfl
    | succ k ih =>
      have e : df f k = 0 := by unfold df; rw [h k (by omega)]; rfl
      rw [dv_s, ih (by omega), e]
      simp
