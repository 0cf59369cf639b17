theorem mi_if {p : Prop} [Decidable p] (i0 i1 i6 i7 i10 i14 i19 i20 i21 x : Int32) (A : Nat → Nat) : mfs A (if p then fup (mi i0 i1 i6 i7 i10 i14 i19 i20 i21) 6 x else mi i0 i1 i6 i7 i10 i14 i19 i20 i21) = mfs A (mi i0 i1 (if p then x else i6) i7 i10 i14 i19 i20 i21) := by split <;> rfl
theorem pw_add {a b k : Nat} (ha : a < 1000000000 ^ k) (hb : b < 1000000000 ^ k) : a + b < 1000000000 ^ (k + 1) := by
  rw [Nat.pow_succ]
  have := pw_pos k
  omega
theorem pw_sc {a c k : Nat} (ha : a < 1000000000 ^ k) (hc : c ≤ 1000000000) : a * c < 1000000000 ^ (k + 1) := by
  rw [Nat.pow_succ]
  exact Nat.lt_of_le_of_lt (Nat.mul_le_mul_left a hc) (Nat.mul_lt_mul_of_pos_right ha (by decide))
theorem dig_b2 {v k : Nat} (h : v < 1000000000 ^ k) (hk : k ≤ 4280) : ndig v < 1000000 := by
  rcases ndig_K v with ⟨_, h2⟩ | ⟨h1, h2, h3, h4⟩
  · omega
  · have h5 : v < 10 ^ (9 * k) := by
      rw [Nat.pow_mul]; exact h
    have h6 : 10 ^ (ndig v - 1) < 10 ^ (9 * k) := Nat.lt_of_le_of_lt h3 h5
    have h7 := (Nat.pow_lt_pow_iff_right (show 1 < 10 by decide)).mp h6
    omega
theorem cmp_ge2 {r : Int32} {a b : Nat} (h : (r = -1 ∧ a < b) ∨ (r = nI 0 ∧ a = b) ∨ (r = nI 1 ∧ b < a)) (hc : ¬ r < 0) : b ≤ a := by
  rcases h with ⟨e, h⟩ | ⟨e, h⟩ | ⟨e, h⟩
  · subst e; exact absurd (by decide) hc
  · omega
  · omega
theorem cmp_lt2 {r : Int32} {a b : Nat} (h : (r = -1 ∧ a < b) ∨ (r = nI 0 ∧ a = b) ∨ (r = nI 1 ∧ b < a)) (hc : r < 0) : a < b := by
  rcases h with ⟨e, h⟩ | ⟨e, h⟩ | ⟨e, h⟩
  · exact h
  · subst e; exact absurd hc (by decide)
  · subst e; exact absurd hc (by decide)
theorem cmp_i {r : Int32} {a b : Nat} (h : (r = -1 ∧ a < b) ∨ (r = nI 0 ∧ a = b) ∨ (r = nI 1 ∧ b < a)) : ∃ x : Int, r = iI x ∧ ((x = -1 ∧ a < b) ∨ (x = 0 ∧ a = b) ∨ (x = 1 ∧ b < a)) := by
  rcases h with ⟨e, h⟩ | ⟨e, h⟩ | ⟨e, h⟩
  · exact ⟨-1, e.trans (by decide), Or.inl ⟨rfl, h⟩⟩
  · exact ⟨0, e.trans (by decide), Or.inr (Or.inl ⟨rfl, h⟩)⟩
  · exact ⟨1, e.trans (by decide), Or.inr (Or.inr ⟨rfl, h⟩)⟩
theorem lI_nab {x : Int} (h : x < 0) : -(lI x) = lN x.natAbs := by
  rw [lN_lI, show ((x.natAbs : Nat) : Int) = -x by omega]
  exact (Int64.ofInt_neg x).symm
theorem lI_pab {x : Int} (h : 0 ≤ x) : lI x = lN x.natAbs := by rw [lN_lI, show ((x.natAbs : Nat) : Int) = x by omega]
theorem isD_inc {f : Nat → Int32} {z v : Nat} (h : isD f z v) (hz : 0 < z) (h9 : v % 1000000000 + 1 < 1000000000) : isD (upd f 0 (nI (df f 0 + 1))) z (v + 1) := by
  have hl := dv_low (lim_dok h.1) hz
  rw [h.2.2] at hl
  have hs := dv_set (f := f) (i := 0) (x := df f 0 + 1) (by omega) (n := z) hz
  rw [h.2.2, Nat.pow_zero, Nat.mul_one, Nat.mul_one] at hs
  refine ⟨lim_upd h.1 (by omega), ?_, by omega⟩
  rcases h.2.1 with e | e
  · omega
  · refine Or.inr ?_
    by_cases c : z - 1 = 0
    · rw [c, df_us (by omega)]; omega
    · rw [df_un c]; exact e
theorem sh_0 (f : Nat → Int32) (i : Nat) : sh f 0 i = f i := by show f (4300 * 0 + i) = f i; rw [Nat.mul_zero, Nat.zero_add]
theorem sh_1 (f : Nat → Int32) (i : Nat) : sh f 1 i = f (4300 + i) := rfl
theorem fg_upd {f : Nat → Int32} {i j : Nat} {y x : Int32} (h : j ≠ i) (e : f j = x) : upd f i y j = x := (pk_un h).trans e
/-- what keep leaves -/
theorem vc_old {sg un so sz sg1 un1 so1 sz1 : Nat → Int32} {n i : Nat} {r : Rat} {u : Int} (h : vc sg un so sz i r u) (hi : i < n) (h1 : ∀ q, q ≠ n → sg1 q = sg q) (h2 : ∀ q, q ≠ n → un1 q = un q) (h3 : ∀ q, q < 202 * n → so1 q = so q) (h4 : ∀ q, q < 2 * n → sz1 q = sz q) : vc sg1 un1 so1 sz1 i r u := by
  obtain ⟨a, b, ⟨z, c1, c2, c3⟩, ⟨y, d1, d2, d3⟩⟩ := h
  refine ⟨(h1 i (by omega)).trans a, (h2 i (by omega)).trans b, ⟨z, (h4 _ (by omega)).trans c1, c2, isD_congr c3 (fun k hk => h3 _ (by omega))⟩, ⟨y, (h4 _ (by omega)).trans d1, d2, isD_congr d3 (fun k hk => h3 _ (by omega))⟩⟩
theorem kp_lo {S : St} {r : Rat} {u : Int} (h : lng r) : kp S r u = (0, -4, S) := if_pos h
theorem kp_sh {S : St} {r : Rat} {u : Int} (h : ¬ lng r) : kp S r u = (0, (S.n : Int), S.sv (S.n + 1) (fup S.v S.n r) (fup S.un S.n u)) := if_neg h
theorem dig_lo {v : Nat} : 900 < ndig v ↔ m900 ≤ v := isK_long (ndig_K v)
