theorem r4_ : mkRat ((4 : Nat) : Int) 1 = 4 := by decide
theorem tp4_ {s : Int32} {n d : Nat} {r : Rat} (h : fq s n d r) : fq s (n * 4) d (r * 4) := by rw [← r4_]; exact fq_top h
theorem MB_clear {cA : Nat → ClassId} {A : Nat → Nat} {S : St} {G : gT} (h : MB cA A S G) : MB cA A (St.mk 0 S.v S.un 0 S.rc S.rp S.rh S.wn S.w) G := by
  obtain ⟨⟨a, b, c, d, e1, e2, e3, e4, e5⟩, ⟨a1, b1, c1, f1, f2, f3, f5⟩, h3⟩ := h
  exact ⟨⟨a, b, c, d, e1, e2, e3, e4, fun i h => absurd h (Nat.not_lt_zero i)⟩, ⟨a1, b1, c1, f1, f2, f3, fun i h => absurd h (Nat.not_lt_zero i)⟩, h3⟩
theorem MB_noW {cA : Nat → ClassId} {A : Nat → Nat} {S : St} {G : gT} (h : MB cA A S G) : MB cA A (S.sw 0 S.w) G := by
  obtain ⟨h1, h2, ⟨a1, b1, c1, f1, f2, f3, f5⟩⟩ := h
  exact ⟨h1, h2, ⟨a1, b1, c1, f1, f2, f3, fun i h => absurd h (Nat.not_lt_zero i)⟩⟩
theorem iI_l64 {x : Int} (h1 : 0 ≤ x) (h2 : x < 2147483648) : (iI x).toInt64 = lN x.toNat := by
  have e : iI x = nI x.toNat := by rw [nI_iI]; exact congrArg iI (by omega)
  rw [e]; exact nI_l (by omega)
theorem sp_row8 {S : St} (h : S.rn = 8) : sp_row S = (0, -3, S) := if_pos h
theorem sp_rowS {S : St} (h : ¬ S.rn = 8) : sp_row S = (0, (S.rn : Int), S.sr (S.rn + 1) (fup S.rc S.rn 0) S.rp S.rh) := if_neg h
theorem dx_b {f : Nat → Int32} {z i : Nat} (h : lim f z) : dx f z i < 1000000000 := by
  unfold dx
  split
  · rename_i hi; exact (h i hi).2
  · decide
theorem dig_900 {v : Nat} (h : ¬ m900 ≤ v) : ndig v ≤ 900 := Nat.le_of_not_lt fun z => h (dig_lo.mp z)
theorem nI1_ (n : Nat) : nI (n + 1) = iI ((n : Int) + 1) := nI_iI (n + 1)
