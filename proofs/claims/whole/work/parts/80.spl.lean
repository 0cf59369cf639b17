/-! ===== what the calls mean, by cases ===== -/
theorem vn_ {S : St} {x : Int} (h1 : -2147483648 ≤ x) (h2 : x < 2147483648) (h : ¬ (0 ≤ x ∧ x < S.n)) : ¬ vi S (iI x) := fun q => h (by have := q.1; have := q.2; rw [iI_toInt h1 h2] at *; exact ⟨by assumption, by assumption⟩)
theorem rn_ {S : St} {x : Int} (h1 : -2147483648 ≤ x) (h2 : x < 2147483648) (h : ¬ (0 ≤ x ∧ x < S.rn)) : ¬ ri S (iI x) := fun q => h (by have := q.1; have := q.2; rw [iI_toInt h1 h2] at *; exact ⟨by assumption, by assumption⟩)
theorem vi_n {S : St} {i : Nat} (hn : S.n ≤ 200) (hi : i < S.n) : vi S (nI i) := by
  have e := ix_nI (i := i) (by omega)
  exact ⟨by rw [e]; omega, by rw [e]; omega⟩
theorem ri_n {S : St} {i : Nat} (hn : S.rn ≤ 8) (hi : i < S.rn) : ri S (nI i) := by
  have e := ix_nI (i := i) (by omega)
  exact ⟨by rw [e]; omega, by rw [e]; omega⟩
theorem ix_n {i : Nat} (h : i < 2147483648) : ix (nI i) = i := by show (nI i).toInt.toNat = i; rw [ix_nI h]; rfl
theorem st_value {S : St} {a b u : Int} (h1 : -2147483648 ≤ u) (h2 : u < 2147483648) : sp_value S a b (iI u) = if b = 0 then (1, 0, S) else if ¬ uok u then (2, 0, S) else if S.n = 200 then (0, -3, S) else kp S (mkRat (a * b.sign) b.natAbs) u := by unfold sp_value; rw [iI_toInt h1 h2]
theorem su_add {S : St} {x y : Int32} {l : Bool} (h : ¬ (vi S x ∧ vi S y)) : sp_add S x y l = (1, 0, S) := if_pos h
theorem st_add {S : St} {i j : Nat} {l : Bool} (hn : S.n ≤ 200) (hi : i < S.n) (hj : j < S.n) : sp_add S (nI i) (nI j) l = if S.un i ≠ S.un j then (0, -2, S) else if S.n = 200 then (0, -3, S) else kp S (if l then S.v i - S.v j else S.v i + S.v j) (S.un i) := by
  unfold sp_add; rw [if_neg (Decidable.not_not.mpr ⟨vi_n hn hi, vi_n hn hj⟩), ix_n (by omega), ix_n (by omega)]
theorem su_times {S : St} {x y : Int32} (h : ¬ (vi S x ∧ vi S y)) : sp_times S x y = (1, 0, S) := if_pos h
theorem st_times {S : St} {i j : Nat} (hn : S.n ≤ 200) (hi : i < S.n) (hj : j < S.n) : sp_times S (nI i) (nI j) = if ¬ uok (S.un i + S.un j) then (0, -2, S) else if S.n = 200 then (0, -3, S) else kp S (S.v i * S.v j) (S.un i + S.un j) := by
  unfold sp_times; rw [if_neg (Decidable.not_not.mpr ⟨vi_n hn hi, vi_n hn hj⟩), ix_n (by omega), ix_n (by omega)]
theorem su_over {S : St} {x y : Int32} (h : ¬ (vi S x ∧ vi S y)) : sp_over S x y = (1, 0, S) := if_pos h
theorem st_over {S : St} {i j : Nat} (hn : S.n ≤ 200) (hi : i < S.n) (hj : j < S.n) : sp_over S (nI i) (nI j) = if S.v j = 0 then (2, 0, S) else if ¬ uok (S.un i - S.un j) then (0, -2, S) else if S.n = 200 then (0, -3, S) else kp S (S.v i / S.v j) (S.un i - S.un j) := by
  unfold sp_over; rw [if_neg (Decidable.not_not.mpr ⟨vi_n hn hi, vi_n hn hj⟩), ix_n (by omega), ix_n (by omega)]
theorem su_order {S : St} {x y : Int32} (h : ¬ (vi S x ∧ vi S y)) : sp_order S x y = (1, 0, S) := if_pos h
theorem st_order {S : St} {i j : Nat} (hn : S.n ≤ 200) (hi : i < S.n) (hj : j < S.n) : sp_order S (nI i) (nI j) = if S.un i ≠ S.un j then (0, -2, S) else (0, rcmp (S.v i) (S.v j), S) := by
  unfold sp_order; rw [if_neg (Decidable.not_not.mpr ⟨vi_n hn hi, vi_n hn hj⟩), ix_n (by omega), ix_n (by omega)]
theorem su_round {S : St} {x r t : Int32} (h : ¬ vi S x) : sp_round S x r t = (1, 0, S) := if_pos h
theorem sv_round {S : St} {i : Nat} {r t : Int} (hn : S.n ≤ 200) (hi : i < S.n) (h1 : -2147483648 ≤ r) (h2 : r < 2147483648) (h3 : -2147483648 ≤ t) (h4 : t < 2147483648) (h : ¬ (0 ≤ r ∧ r ≤ 3 ∧ 1 ≤ t ∧ t ≤ 1000000000)) : sp_round S (nI i) (iI r) (iI t) = (2, 0, S) := by
  unfold sp_round; rw [if_neg (Decidable.not_not.mpr (vi_n hn hi)), iI_toInt h1 h2, iI_toInt h3 h4, if_pos h]
theorem st_round {S : St} {i r t : Nat} (hn : S.n ≤ 200) (hi : i < S.n) (h1 : r ≤ 3) (h3 : 1 ≤ t) (h4 : t ≤ 1000000000) : sp_round S (nI i) (nI r) (nI t) = if S.n = 200 then (0, -3, S) else kp S (rnd (S.v i) r t) (S.un i) := by
  unfold sp_round; rw [if_neg (Decidable.not_not.mpr (vi_n hn hi)), ix_nI (i := r) (by omega), ix_nI (i := t) (by omega), if_neg (Decidable.not_not.mpr ⟨by omega, by omega, by omega, by omega⟩), ix_n (by omega), ix_n (by omega), ix_n (by omega)]
theorem su_prism {S : St} {x y z t : Int32} (h : ¬ (vi S x ∧ vi S y ∧ vi S z ∧ vi S t)) : sp_prism S x y z t = (1, 0, S) := if_pos h
theorem st_prism {S : St} {i j k t : Nat} (hn : S.n ≤ 200) (hi : i < S.n) (hj : j < S.n) (hk : k < S.n) (ht : t < S.n) : sp_prism S (nI i) (nI j) (nI k) (nI t) = if ¬ (S.un i = S.un j ∧ S.un i = S.un k ∧ uok (S.un i + S.un t)) then (0, -2, S) else if S.n = 200 then (0, -3, S) else kp S ((S.v i + S.v j * 4 + S.v k) * S.v t * (mkRat 1 6)) (S.un i + S.un t) := by
  unfold sp_prism; rw [if_neg (Decidable.not_not.mpr ⟨vi_n hn hi, vi_n hn hj, vi_n hn hk, vi_n hn ht⟩), ix_n (by omega), ix_n (by omega), ix_n (by omega), ix_n (by omega)]
theorem su_told {S : St} {x y : Int32} (h : ¬ vi S x) : sp_told S x y = (1, 0, S) := if_pos h
theorem st_told {S : St} {i : Nat} {y : Int} (hn : S.n ≤ 200) (hi : i < S.n) (h1 : -2147483648 ≤ y) (h2 : y < 2147483648) : sp_told S (nI i) (iI y) = if ¬ (0 ≤ y ∧ y ≤ 3) then (2, 0, S) else (0, if y = 0 then (S.v i).num.sign else if y = 1 then (ndig (S.v i).num.natAbs : Int) else if y = 2 then (ndig (S.v i).den : Int) else S.un i, S) := by
  unfold sp_told; rw [if_neg (Decidable.not_not.mpr (vi_n hn hi)), ix_n (by omega), iI_toInt h1 h2]
theorem su_digit {S : St} {x y z : Int32} (h : ¬ (vi S x ∧ 0 ≤ z.toInt)) : sp_digit S x y z = (1, 0, S) := if_pos h
theorem st_digit {S : St} {i k : Nat} {y : Int} (hn : S.n ≤ 200) (hi : i < S.n) (h1 : -2147483648 ≤ y) (h2 : y < 2147483648) (hk : k < 2147483648) : sp_digit S (nI i) (iI y) (nI k) = if ¬ (y = 0 ∨ y = 1) then (2, 0, S) else if ¬ (k : Int) < (ndig (prt (S.v i) y) : Int) then (1, 0, S) else (0, ((prt (S.v i) y / 10 ^ k % 10 : Nat) : Int), S) := by
  unfold sp_digit; rw [if_neg (Decidable.not_not.mpr ⟨vi_n hn hi, by rw [ix_nI hk]; omega⟩), ix_n (by omega), iI_toInt h1 h2, ix_nI hk, ix_n hk]
theorem su_corner {S : St} {r x y : Int32} (h : ¬ (ri S r ∧ vi S x ∧ vi S y)) : sp_corner S r x y = (1, 0, S) := if_pos h
theorem st_corner {S : St} {r i j : Nat} (hrn : S.rn ≤ 8) (hn : S.n ≤ 200) (hr : r < S.rn) (hi : i < S.n) (hj : j < S.n) : sp_corner S (nI r) (nI i) (nI j) = if 0 < S.rc r ∧ (S.un i ≠ S.un (S.rp r 0) ∨ S.un j ≠ S.un (S.rh r 0)) then (0, -2, S) else if S.rc r = 16 then (0, -3, S) else if 0 < S.rc r ∧ S.v i ≤ S.v (S.rp r (S.rc r - 1)) then (0, -5, S)
  else (0, (S.rc r : Int) + 1, S.sr S.rn (fup S.rc r (S.rc r + 1)) (fup S.rp r (fup (S.rp r) (S.rc r) i)) (fup S.rh r (fup (S.rh r) (S.rc r) j))) := by
  unfold sp_corner; rw [if_neg (Decidable.not_not.mpr ⟨ri_n hrn hr, vi_n hn hi, vi_n hn hj⟩), ix_n (i := r) (by omega), ix_n (i := i) (by omega), ix_n (i := j) (by omega)]
theorem su_at {S : St} {r x : Int32} (h : ¬ (ri S r ∧ vi S x)) : sp_at S r x = (1, 0, S) := if_pos h
theorem st_at {S : St} {r i : Nat} (hrn : S.rn ≤ 8) (hn : S.n ≤ 200) (hr : r < S.rn) (hi : i < S.n) : sp_at S (nI r) (nI i) = if S.rc r = 0 then (0, -5, S) else if S.un i ≠ S.un (S.rp r 0) then (0, -2, S) else match fg (fun j => S.v (S.rp r j)) (S.v i) (S.rc r) with
  | none => (0, -5, S)
  | some j => if j = 0 ∧ S.v i ≠ S.v (S.rp r 0) then (0, -5, S) else if S.n = 200 then (0, -3, S) else kp S (hgt S r (S.v i) j) (S.un (S.rh r 0)) := by
  unfold sp_at; rw [if_neg (Decidable.not_not.mpr ⟨ri_n hrn hr, vi_n hn hi⟩), ix_n (i := r) (by omega), ix_n (i := i) (by omega)]; rfl
theorem su_area {S : St} {r : Int32} (h : ¬ ri S r) : sp_area S r = (1, 0, S) := if_pos h
theorem st_area {S : St} {r : Nat} (hrn : S.rn ≤ 8) (hr : r < S.rn) : sp_area S (nI r) = if S.rc r < 2 then (0, -5, S) else if ¬ uok (S.un (S.rp r 0) + S.un (S.rh r 0)) then (0, -2, S) else if S.n = 200 then (0, -3, S) else match ars (strip S r) (S.rc r - 1) with
  | none => (0, -4, S)
  | some s => kp S s (S.un (S.rp r 0) + S.un (S.rh r 0)) := by
  unfold sp_area; rw [if_neg (Decidable.not_not.mpr (ri_n hrn hr)), ix_n (i := r) (by omega)]; rfl
theorem st_weight {S : St} {x : Int} (h1 : -2147483648 ≤ x) (h2 : x < 2147483648) : sp_weight S (iI x) = if ¬ (1 ≤ x ∧ x ≤ 1000000000) then (1, 0, S) else if S.wn = 12 then (0, -3, S) else (0, (S.wn : Int) + 1, S.sw (S.wn + 1) (fup S.w S.wn x.toNat)) := by
  unfold sp_weight; rw [show ix (iI x) = x.toNat from congrArg Int.toNat (iI_toInt h1 h2), iI_toInt h1 h2]
theorem st_share {S : St} {W k : Int} (h1 : -2147483648 ≤ k) (h2 : k < 2147483648) : sp_share S W (iI k) = if ¬ (0 ≤ k ∧ k < S.wn) then (1, 0, S) else if ¬ (0 ≤ W ∧ W ≤ 1000000000000) then (2, 0, S) else (0, (shareOf S.w S.wn W.toNat k.toNat : Int), S) := by
  unfold sp_share; rw [show ix (iI k) = k.toNat from congrArg Int.toNat (iI_toInt h1 h2), iI_toInt h1 h2]
theorem sg0_v {r : Rat} : r.num.sign = 0 ↔ r = 0 := by rw [Int.sign_eq_zero_iff_zero, Rat.num_eq_zero]
theorem vl_fq {a b : Int} (hb : b ≠ 0) {s : Int32} {x : Int} (hs : s = iI x) (hx : a = 0 ∧ x = 0 ∨ a ≠ 0 ∧ x = a.sign * b.sign) : fq s a.natAbs b.natAbs (mkRat (a * b.sign) b.natAbs) := by
  have h3 := sg3 a
  have h4 := sg3 b
  refine ⟨by omega, x, hs, ?_, ?_, fun e => ?_⟩
  · rcases hx with ⟨_, h⟩ | ⟨_, h⟩
    · omega
    · rcases h3 with e | e | e <;> rcases h4 with f | f | f <;> rw [e, f] at h <;> omega
  · refine congrArg (fun y => mkRat y _) ?_
    rcases hx with ⟨h1, h2⟩ | ⟨h1, h2⟩
    · rw [h1, h2]; simp
    · rw [h2, Int.mul_comm a.sign, Int.mul_assoc, Int.sign_mul_natAbs, Int.mul_comm]
  · rcases hx with ⟨h1, h2⟩ | ⟨h1, h2⟩
    · rw [h1]; rfl
    · rw [h2] at e
      rcases Int.mul_eq_zero.mp e with z | z
      · exact absurd (Int.sign_eq_zero_iff_zero.mp z) h1
      · exact absurd (Int.sign_eq_zero_iff_zero.mp z) hb
theorem MW_k {cA : Nat → ClassId} {hm : Nat} {A : Nat → Nat} {S S' : St} {r : Rat} {u : Int} {m o k : Option Rat} {G : gT} (h : MW cA hm A S' 0 m o k G) : MW cA hm A S' (kp S r u).1 m o k G := by rw [kp_0]; exact h
theorem sg_01 {a b : Int} (ha : a ≠ 0) (hb : b ≠ 0) : (a < 0 → b < 0 → a.sign * b.sign = 1) ∧ (a < 0 → 0 ≤ b → a.sign * b.sign = -1) ∧ (0 ≤ a → b < 0 → a.sign * b.sign = -1) ∧ (0 ≤ a → 0 ≤ b → a.sign * b.sign = 1) := by
  refine ⟨fun h1 h2 => ?_, fun h1 h2 => ?_, fun h1 h2 => ?_, fun h1 h2 => ?_⟩
  · rw [Int.sign_eq_neg_one_of_neg h1, Int.sign_eq_neg_one_of_neg h2]; rfl
  · rw [Int.sign_eq_neg_one_of_neg h1, Int.sign_eq_one_of_pos (show 0 < b by omega)]; rfl
  · rw [Int.sign_eq_one_of_pos (show 0 < a by omega), Int.sign_eq_neg_one_of_neg h2]; rfl
  · rw [Int.sign_eq_one_of_pos (show 0 < a by omega), Int.sign_eq_one_of_pos (show 0 < b by omega)]; rfl
