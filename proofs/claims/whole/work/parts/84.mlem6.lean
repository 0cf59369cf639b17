/-! ===== the lines, the strips, the roundings: pure ===== -/
theorem rt_tr {a b c : Rat} (h1 : a < b) (h2 : b < c) : a < c := Rat.not_le.mp fun q => absurd (Rat.le_trans (Rat.le_of_lt h2) q) (Rat.not_le.mpr h1)
theorem up_lt {S : St} {g : Nat} (h : WF S) (hg : g < S.rn) : ∀ {k j : Nat}, j < k → k < S.rc g → S.v (S.rp g j) < S.v (S.rp g k)
  | 0, j, h1, _ => absurd h1 (Nat.not_lt_zero j)
  | k + 1, j, h1, h2 => by
    have h3 := h.up g hg k h2
    rcases Nat.lt_or_ge j k with z | z
    · exact rt_tr (up_lt h hg z (by omega)) h3
    · have : j = k := by omega
      subst this; exact h3
theorem at_lo {f : Nat → Rat} {x : Rat} {n : Nat} (hn : 0 < n) (h : x < f 0) : fg f x n = some 0 := fg_some.mpr ⟨hn, Rat.le_of_lt h, fun i hi => absurd hi (Nat.not_lt_zero i)⟩
theorem st_atN {S : St} {r i : Nat} (hrn : S.rn ≤ 8) (hn : S.n ≤ 200) (hr : r < S.rn) (hi : i < S.n) (h0 : ¬ S.rc r = 0) (hu : ¬ S.un i ≠ S.un (S.rp r 0)) (h : fg (fun j => S.v (S.rp r j)) (S.v i) (S.rc r) = none) : sp_at S (nI r) (nI i) = (0, -5, S) := by
  rw [st_at hrn hn hr hi, if_neg h0, if_neg hu, h]
theorem st_atS {S : St} {r i j : Nat} (hrn : S.rn ≤ 8) (hn : S.n ≤ 200) (hr : r < S.rn) (hi : i < S.n) (h0 : ¬ S.rc r = 0) (hu : ¬ S.un i ≠ S.un (S.rp r 0)) (h : fg (fun j => S.v (S.rp r j)) (S.v i) (S.rc r) = some j) : sp_at S (nI r) (nI i) = if j = 0 ∧ S.v i ≠ S.v (S.rp r 0) then (0, -5, S) else if S.n = 200 then (0, -3, S) else kp S (hgt S r (S.v i) j) (S.un (S.rh r 0)) := by
  rw [st_at hrn hn hr hi, if_neg h0, if_neg hu, h]
theorem st_atA {S : St} {r i : Nat} (hrn : S.rn ≤ 8) (hn : S.n ≤ 200) (hr : r < S.rn) (hi : i < S.n) (h0 : ¬ S.rc r = 0) (hu : ¬ S.un i ≠ S.un (S.rp r 0)) (h1 : S.v (S.rp r 0) ≤ S.v i) (h2 : S.v i ≤ S.v (S.rp r (S.rc r - 1))) (h3 : S.n = 200) : sp_at S (nI r) (nI i) = (0, -3, S) := by
  cases hq : fg (fun j => S.v (S.rp r j)) (S.v i) (S.rc r) with
  | none =>
    have := fg_none.mp hq (S.rc r - 1) (by omega)
    exact absurd h2 (Rat.not_le.mpr this)
  | some j =>
    obtain ⟨q1, q2, q3⟩ := fg_some.mp hq
    rw [st_atS hrn hn hr hi h0 hu hq, if_neg (fun q => ?_), if_pos h3]
    obtain ⟨qa, qb⟩ := q
    subst qa
    exact qb (Rat.le_antisymm q2 h1)
theorem st_atE {S : St} {r i k : Nat} (hW : WF S) (hr : r < S.rn) (hi : i < S.n) (hk : k < S.rc r) (hu : ¬ S.un i ≠ S.un (S.rp r 0)) (he : S.v i = S.v (S.rp r k)) (h3 : ¬ S.n = 200) : sp_at S (nI r) (nI i) = kp S (S.v (S.rh r k)) (S.un (S.rh r k)) := by
  have hq : fg (fun j => S.v (S.rp r j)) (S.v i) (S.rc r) = some k := fg_some.mpr ⟨hk, by rw [he]; exact Rat.le_refl, fun j hj => by rw [he]; exact up_lt hW hr hj hk⟩
  rw [st_atS hW.rn hW.n hr hi (by omega) hu hq, if_neg (fun q => by obtain ⟨qa, qb⟩ := q; subst qa; exact qb he), if_neg h3, (hW.rp r hr k hk).2.2.2]
  unfold hgt
  rw [if_pos he]
theorem st_atM {S : St} {r i k : Nat} (hW : WF S) (hr : r < S.rn) (hi : i < S.n) (hk : k + 1 < S.rc r) (hu : ¬ S.un i ≠ S.un (S.rp r 0)) (h1 : S.v (S.rp r k) < S.v i) (h2 : S.v i < S.v (S.rp r (k + 1))) (h3 : ¬ S.n = 200) : sp_at S (nI r) (nI i) = kp S ((S.v i - S.v (S.rp r k)) * (S.v (S.rh r (k + 1)) - S.v (S.rh r k)) / (S.v (S.rp r (k + 1)) - S.v (S.rp r k)) + S.v (S.rh r k)) (S.un (S.rh r 0)) := by
  have hq : fg (fun j => S.v (S.rp r j)) (S.v i) (S.rc r) = some (k + 1) := fg_some.mpr ⟨hk, Rat.le_of_lt h2, fun j hj => by
    rcases Nat.lt_or_ge j k with z | z
    · exact rt_tr (up_lt hW hr z (by omega)) h1
    · have : j = k := by omega
      subst this; exact h1⟩
  rw [st_atS hW.rn hW.n hr hi (by omega) hu hq, if_neg (fun q => by omega), if_neg h3]
  unfold hgt
  rw [if_neg (fun e => by rw [e] at h2; exact absurd h2 Rat.lt_irrefl), Nat.add_sub_cancel]
  refine congrArg (fun y => kp S y _) ?_
  rw [Rat.div_def, Rat.div_def]
  grind
theorem df_nz {a b : Rat} (h : a < b) : (b - a).num ≠ 0 := fun e => by
  have e2 : b - a = 0 := Rat.num_eq_zero.mp e
  have e3 : b = a := by grind
  rw [e3] at h
  exact absurd h Rat.lt_irrefl
theorem ars_n {f : Nat → Rat} {k : Nat} (h : ars f k = none) : ∀ {n : Nat}, k ≤ n → ars f n = none
  | 0, hn => by
    have : k = 0 := by omega
    subst this; exact h
  | n + 1, hn => by
    rcases Nat.lt_or_ge n k with z | z
    · have : k = n + 1 := by omega
      subst this; exact h
    · show (match ars f n with | none => none | some s => _) = none
      rw [ars_n h z]
theorem ars_s {f : Nat → Rat} {k : Nat} {s : Rat} (h : ars f k = some s) : ars f (k + 1) = if lng (s + f k) then none else some (s + f k) := by
  show (match ars f k with | none => none | some s => _) = _
  rw [h]
theorem st_areaN {S : St} {r k : Nat} {s : Rat} (hrn : S.rn ≤ 8) (hr : r < S.rn) (h2 : ¬ S.rc r < 2) (hu : uok (S.un (S.rp r 0) + S.un (S.rh r 0))) (h3 : ¬ S.n = 200) (hk : k + 1 < S.rc r) (h : ars (strip S r) k = some s) (hl : lng (s + strip S r k)) : sp_area S (nI r) = (0, -4, S) := by
  rw [st_area hrn hr, if_neg h2, if_neg (Decidable.not_not.mpr hu), if_neg h3, ars_n (k := k + 1) (by rw [ars_s h, if_pos hl]) (by omega)]
theorem st_areaS {S : St} {r : Nat} {s : Rat} (hrn : S.rn ≤ 8) (hr : r < S.rn) (h2 : ¬ S.rc r < 2) (hu : uok (S.un (S.rp r 0) + S.un (S.rh r 0))) (h3 : ¬ S.n = 200) (h : ars (strip S r) (S.rc r - 1) = some s) : sp_area S (nI r) = kp S s (S.un (S.rp r 0) + S.un (S.rh r 0)) := by
  rw [st_area hrn hr, if_neg h2, if_neg (Decidable.not_not.mpr hu), if_neg h3, h]
theorem strip_e {S : St} {r k : Nat} {c : Rat} : (S.v (S.rp r (k + 1)) - S.v (S.rp r k)) * S.v (S.rh r (k + 1)) * mkRat 1 2 + ((S.v (S.rp r (k + 1)) - S.v (S.rp r k)) * S.v (S.rh r k) * mkRat 1 2 + c) = c + strip S r k := by
  unfold strip
  grind
theorem fc_0 {R : Nat → Nat} (h0 : R 0 = 0) (h1 : R 1 = 1) : fc (nI 0) (R 0) (R 1) 0 := ⟨rfl, h0, h1⟩
theorem gof_t {p : Int} {q Qn Rm rule : Nat} (hR : Rm ≠ 0) (h : rule = 0 ∧ p.sign < 0 ∨ rule = 1 ∧ 0 < p.sign ∨ rule = 2 ∧ (q < Rm * 2 ∨ Rm * 2 = q ∧ 0 < p.sign) ∨ rule ≠ 0 ∧ rule ≠ 1 ∧ rule ≠ 2 ∧ (q < Rm * 2 ∨ Rm * 2 = q ∧ Qn % 2 = 1)) : gof p q Qn Rm rule = true := by
  have hs1 : p < 0 ↔ p.sign < 0 := by
    rcases Int.lt_trichotomy p 0 with z | z | z
    · rw [Int.sign_eq_neg_one_of_neg z]; omega
    · rw [z]; decide
    · rw [Int.sign_eq_one_of_pos z]; omega
  have hs2 : 0 < p ↔ 0 < p.sign := by
    rcases Int.lt_trichotomy p 0 with z | z | z
    · rw [Int.sign_eq_neg_one_of_neg z]; omega
    · rw [z]; decide
    · rw [Int.sign_eq_one_of_pos z]; omega
  unfold gof
  rw [if_neg hR]
  split
  · exact decide_eq_true (by omega)
  split
  · exact decide_eq_true (by omega)
  split
  · exact decide_eq_true (by omega)
  split
  · exact decide_eq_true (by omega)
  · exact decide_eq_true (by omega)
theorem gof_f {p : Int} {q Qn Rm rule : Nat} (hR : Rm ≠ 0) (h : ¬ (rule = 0 ∧ p.sign < 0 ∨ rule = 1 ∧ 0 < p.sign ∨ rule = 2 ∧ (q < Rm * 2 ∨ Rm * 2 = q ∧ 0 < p.sign) ∨ rule ≠ 0 ∧ rule ≠ 1 ∧ rule ≠ 2 ∧ (q < Rm * 2 ∨ Rm * 2 = q ∧ Qn % 2 = 1))) : gof p q Qn Rm rule = false := by
  have hs1 : p < 0 ↔ p.sign < 0 := by
    rcases Int.lt_trichotomy p 0 with z | z | z
    · rw [Int.sign_eq_neg_one_of_neg z]; omega
    · rw [z]; decide
    · rw [Int.sign_eq_one_of_pos z]; omega
  have hs2 : 0 < p ↔ 0 < p.sign := by
    rcases Int.lt_trichotomy p 0 with z | z | z
    · rw [Int.sign_eq_neg_one_of_neg z]; omega
    · rw [z]; decide
    · rw [Int.sign_eq_one_of_pos z]; omega
  unfold gof
  rw [if_neg hR]
  split
  · exact decide_eq_false (by omega)
  split
  · exact decide_eq_false (by omega)
  split
  · exact decide_eq_false (by omega)
  split
  · exact decide_eq_false (by omega)
  · exact decide_eq_false (by omega)
theorem gof_z {p : Int} {q Qn Rm rule : Nat} (hR : Rm = 0) : gof p q Qn Rm rule = false := if_pos hR
theorem rn_fq {r : Rat} {rule st Qn Rm n : Nat} (hQ : Qn = r.num.natAbs * st / r.den) (hR : Rm = r.num.natAbs * st % r.den) (hst : 0 < st) (hn : n = Qn + b01 (gof r.num r.den Qn Rm rule)) : fq (iI r.num.sign) n st (rnd r rule st) := by
  refine ⟨hst, r.num.sign, rfl, sg3 _, ?_, fun e => ?_⟩
  · unfold rnd
    rw [← hQ, ← hR, hn]
  · have e2 := Int.sign_eq_zero_iff_zero.mp e
    have h0 : r.num.natAbs = 0 := by rw [e2]; rfl
    rw [h0, Nat.zero_mul, Nat.zero_mod] at hR
    rw [h0, Nat.zero_mul, Nat.zero_div] at hQ
    rw [hn, gof_z hR, hQ]; rfl
