/-! ===== WHAT THE CALLS DO, purely: one state for the class and for the reference ===== -/
def St : Type := Nat × (Nat → Rat) × (Nat → Int) × Nat × (Nat → Nat) × (Nat → Nat → Nat) × (Nat → Nat → Nat) × Nat × (Nat → Nat)
def St.mk (n : Nat) (v : Nat → Rat) (un : Nat → Int) (rn : Nat) (rc : Nat → Nat) (rp rh : Nat → Nat → Nat) (wn : Nat) (w : Nat → Nat) : St := (n, v, un, rn, rc, rp, rh, wn, w)
def St.n (S : St) : Nat := S.1
def St.v (S : St) : Nat → Rat := S.2.1
def St.un (S : St) : Nat → Int := S.2.2.1
def St.rn (S : St) : Nat := S.2.2.2.1
def St.rc (S : St) : Nat → Nat := S.2.2.2.2.1
def St.rp (S : St) : Nat → Nat → Nat := S.2.2.2.2.2.1
def St.rh (S : St) : Nat → Nat → Nat := S.2.2.2.2.2.2.1
def St.wn (S : St) : Nat := S.2.2.2.2.2.2.2.1
def St.w (S : St) : Nat → Nat := S.2.2.2.2.2.2.2.2
def St.sv (S : St) (n : Nat) (v : Nat → Rat) (un : Nat → Int) : St := St.mk n v un S.rn S.rc S.rp S.rh S.wn S.w
def St.sr (S : St) (rn : Nat) (rc : Nat → Nat) (rp rh : Nat → Nat → Nat) : St := St.mk S.n S.v S.un rn rc rp rh S.wn S.w
def St.sw (S : St) (wn : Nat) (w : Nat → Nat) : St := St.mk S.n S.v S.un S.rn S.rc S.rp S.rh wn w
def st0 : St := St.mk 0 (fun _ => 0) (fun _ => 0) 0 (fun _ => 0) (fun _ _ => 0) (fun _ _ => 0) 0 (fun _ => 0)
abbrev uok (u : Int) : Prop := -6 ≤ u ∧ u ≤ 6
abbrev lng (r : Rat) : Prop := m900 ≤ r.num.natAbs ∨ m900 ≤ r.den
def fup {α : Type} (f : Nat → α) (i : Nat) (x : α) : Nat → α := fun j => if j = i then x else f j
theorem fup_s {α : Type} {f : Nat → α} {i : Nat} {x : α} : fup f i x i = x := if_pos rfl
theorem fup_n {α : Type} {f : Nat → α} {i j : Nat} {x : α} (h : j ≠ i) : fup f i x j = f j := if_neg h
/-- what is known of a state between two calls -/
def WF (S : St) : Prop := (S.n ≤ 200) ∧
  (∀ i, i < S.n → ¬ lng (S.v i) ∧ uok (S.un i)) ∧
  (S.rn ≤ 8) ∧
  (∀ i, i < S.rn → S.rc i ≤ 16) ∧
  (∀ i, i < S.rn → ∀ j, j < S.rc i → S.rp i j < S.n ∧ S.rh i j < S.n ∧ S.un (S.rp i j) = S.un (S.rp i 0) ∧ S.un (S.rh i j) = S.un (S.rh i 0)) ∧
  (∀ i, i < S.rn → ∀ j, j + 1 < S.rc i → S.v (S.rp i j) < S.v (S.rp i (j + 1))) ∧
  (S.wn ≤ 12) ∧
  (∀ i, i < S.wn → 1 ≤ S.w i ∧ S.w i ≤ 1000000000)
theorem WF.n {S : St} (h : WF S) : S.n ≤ 200 := h.1
theorem WF.v {S : St} (h : WF S) : ∀ i, i < S.n → ¬ lng (S.v i) ∧ uok (S.un i) := h.2.1
theorem WF.rn {S : St} (h : WF S) : S.rn ≤ 8 := h.2.2.1
theorem WF.rc {S : St} (h : WF S) : ∀ i, i < S.rn → S.rc i ≤ 16 := h.2.2.2.1
theorem WF.rp {S : St} (h : WF S) : ∀ i, i < S.rn → ∀ j, j < S.rc i → S.rp i j < S.n ∧ S.rh i j < S.n ∧ S.un (S.rp i j) = S.un (S.rp i 0) ∧ S.un (S.rh i j) = S.un (S.rh i 0) := h.2.2.2.2.1
theorem WF.up {S : St} (h : WF S) : ∀ i, i < S.rn → ∀ j, j + 1 < S.rc i → S.v (S.rp i j) < S.v (S.rp i (j + 1)) := h.2.2.2.2.2.1
theorem WF.wn {S : St} (h : WF S) : S.wn ≤ 12 := h.2.2.2.2.2.2.1
theorem WF.w {S : St} (h : WF S) : ∀ i, i < S.wn → 1 ≤ S.w i ∧ S.w i ≤ 1000000000 := h.2.2.2.2.2.2.2
theorem st0_ok : WF st0 := ⟨by decide, fun i h => absurd h (Nat.not_lt_zero i), by decide, fun i h => absurd h (Nat.not_lt_zero i), fun i h => absurd h (Nat.not_lt_zero i), fun i h => absurd h (Nat.not_lt_zero i), by decide, fun i h => absurd h (Nat.not_lt_zero i)⟩
/-- an answer: 0 and the number, or the number of the thrown class; the state behind -/
abbrev An := Nat × Int × St
def kp (S : St) (r : Rat) (u : Int) : An := if lng r then (0, -4, S) else (0, (S.n : Int), S.sv (S.n + 1) (fup S.v S.n r) (fup S.un S.n u))
abbrev vi (S : St) (x : Int32) : Prop := 0 ≤ x.toInt ∧ x.toInt < S.n
abbrev ri (S : St) (x : Int32) : Prop := 0 ≤ x.toInt ∧ x.toInt < S.rn
abbrev ix (x : Int32) : Nat := x.toInt.toNat
def sp_value (S : St) (a b : Int) (u : Int32) : An := if b = 0 then (1, 0, S) else if ¬ uok u.toInt then (2, 0, S) else if S.n = 200 then (0, -3, S) else kp S (mkRat (a * b.sign) b.natAbs) u.toInt
def sp_add (S : St) (x y : Int32) (less : Bool) : An := if ¬ (vi S x ∧ vi S y) then (1, 0, S) else if S.un (ix x) ≠ S.un (ix y) then (0, -2, S) else if S.n = 200 then (0, -3, S) else kp S (if less then S.v (ix x) - S.v (ix y) else S.v (ix x) + S.v (ix y)) (S.un (ix x))
def sp_times (S : St) (x y : Int32) : An := if ¬ (vi S x ∧ vi S y) then (1, 0, S) else if ¬ uok (S.un (ix x) + S.un (ix y)) then (0, -2, S) else if S.n = 200 then (0, -3, S) else kp S (S.v (ix x) * S.v (ix y)) (S.un (ix x) + S.un (ix y))
def sp_over (S : St) (x y : Int32) : An := if ¬ (vi S x ∧ vi S y) then (1, 0, S) else if S.v (ix y) = 0 then (2, 0, S) else if ¬ uok (S.un (ix x) - S.un (ix y)) then (0, -2, S) else if S.n = 200 then (0, -3, S) else kp S (S.v (ix x) / S.v (ix y)) (S.un (ix x) - S.un (ix y))
def rcmp (a b : Rat) : Int := if a < b then -1 else if a = b then 0 else 1
def sp_order (S : St) (x y : Int32) : An := if ¬ (vi S x ∧ vi S y) then (1, 0, S) else if S.un (ix x) ≠ S.un (ix y) then (0, -2, S) else (0, rcmp (S.v (ix x)) (S.v (ix y)), S)
def rnd (r : Rat) (rule st : Nat) : Rat := mkRat (r.num.sign * (((r.num.natAbs * st / r.den + b01 (gof r.num r.den (r.num.natAbs * st / r.den) (r.num.natAbs * st % r.den) rule)) : Nat) : Int)) st
def sp_round (S : St) (x rule st : Int32) : An := if ¬ vi S x then (1, 0, S) else if ¬ (0 ≤ rule.toInt ∧ rule.toInt ≤ 3 ∧ 1 ≤ st.toInt ∧ st.toInt ≤ 1000000000) then (2, 0, S) else if S.n = 200 then (0, -3, S) else kp S (rnd (S.v (ix x)) (ix rule) (ix st)) (S.un (ix x))
def sp_prism (S : St) (a b c h : Int32) : An := if ¬ (vi S a ∧ vi S b ∧ vi S c ∧ vi S h) then (1, 0, S) else if ¬ (S.un (ix a) = S.un (ix b) ∧ S.un (ix a) = S.un (ix c) ∧ uok (S.un (ix a) + S.un (ix h))) then (0, -2, S) else if S.n = 200 then (0, -3, S) else kp S ((S.v (ix a) + S.v (ix b) * 4 + S.v (ix c)) * S.v (ix h) * (mkRat 1 6)) (S.un (ix a) + S.un (ix h))
def ndig (v : Nat) : Nat := if h : v < 10 then 1 else ndig (v / 10) + 1
def sp_told (S : St) (x what : Int32) : An := if ¬ vi S x then (1, 0, S) else if ¬ (0 ≤ what.toInt ∧ what.toInt ≤ 3) then (2, 0, S) else (0, if what.toInt = 0 then (S.v (ix x)).num.sign else if what.toInt = 1 then (ndig (S.v (ix x)).num.natAbs : Int) else if what.toInt = 2 then (ndig (S.v (ix x)).den : Int) else S.un (ix x), S)
def prt (r : Rat) (part : Int) : Nat := if part = 0 then r.num.natAbs else r.den
def sp_digit (S : St) (x part i : Int32) : An := if ¬ (vi S x ∧ 0 ≤ i.toInt) then (1, 0, S) else if ¬ (part.toInt = 0 ∨ part.toInt = 1) then (2, 0, S) else if ¬ i.toInt < (ndig (prt (S.v (ix x)) part.toInt) : Int) then (1, 0, S) else (0, ((prt (S.v (ix x)) part.toInt / 10 ^ ix i % 10 : Nat) : Int), S)
def sp_clear (S : St) : An := (0, (S.n : Int), St.mk 0 S.v S.un 0 S.rc S.rp S.rh S.wn S.w)
def sp_row (S : St) : An := if S.rn = 8 then (0, -3, S) else (0, (S.rn : Int), S.sr (S.rn + 1) (fup S.rc S.rn 0) S.rp S.rh)
def sp_corner (S : St) (r x y : Int32) : An := if ¬ (ri S r ∧ vi S x ∧ vi S y) then (1, 0, S) else if 0 < S.rc (ix r) ∧ (S.un (ix x) ≠ S.un (S.rp (ix r) 0) ∨ S.un (ix y) ≠ S.un (S.rh (ix r) 0)) then (0, -2, S) else if S.rc (ix r) = 16 then (0, -3, S) else if 0 < S.rc (ix r) ∧ S.v (ix x) ≤ S.v (S.rp (ix r) (S.rc (ix r) - 1)) then (0, -5, S)
  else (0, (S.rc (ix r) : Int) + 1, S.sr S.rn (fup S.rc (ix r) (S.rc (ix r) + 1)) (fup S.rp (ix r) (fup (S.rp (ix r)) (S.rc (ix r)) (ix x))) (fup S.rh (ix r) (fup (S.rh (ix r)) (S.rc (ix r)) (ix y))))
/-- the first place of the first n that is not before x -/
def fg (f : Nat → Rat) (x : Rat) : Nat → Option Nat
  | 0 => none
  | n + 1 => match fg f x n with
    | some j => some j
    | none => if x ≤ f n then some n else none
def hgt (S : St) (r : Nat) (x : Rat) (j : Nat) : Rat := if x = S.v (S.rp r j) then S.v (S.rh r j) else S.v (S.rh r (j - 1)) + (S.v (S.rh r j) - S.v (S.rh r (j - 1))) * ((x - S.v (S.rp r (j - 1))) / (S.v (S.rp r j) - S.v (S.rp r (j - 1))))
def sp_at (S : St) (r x : Int32) : An := if ¬ (ri S r ∧ vi S x) then (1, 0, S) else if S.rc (ix r) = 0 then (0, -5, S) else if S.un (ix x) ≠ S.un (S.rp (ix r) 0) then (0, -2, S) else match fg (fun j => S.v (S.rp (ix r) j)) (S.v (ix x)) (S.rc (ix r)) with
  | none => (0, -5, S)
  | some j => if j = 0 ∧ S.v (ix x) ≠ S.v (S.rp (ix r) 0) then (0, -5, S) else if S.n = 200 then (0, -3, S) else kp S (hgt S (ix r) (S.v (ix x)) j) (S.un (S.rh (ix r) 0))
def strip (S : St) (r k : Nat) : Rat := (S.v (S.rp r (k + 1)) - S.v (S.rp r k)) * (S.v (S.rh r (k + 1)) + S.v (S.rh r k)) * mkRat 1 2
/-- the strips' sum, as long as it is not too long -/
def ars (f : Nat → Rat) : Nat → Option Rat
  | 0 => some 0
  | k + 1 => match ars f k with
    | none => none
    | some s => if lng (s + f k) then none else some (s + f k)
def sp_area (S : St) (r : Int32) : An := if ¬ ri S r then (1, 0, S) else if S.rc (ix r) < 2 then (0, -5, S) else if ¬ uok (S.un (S.rp (ix r) 0) + S.un (S.rh (ix r) 0)) then (0, -2, S) else if S.n = 200 then (0, -3, S) else match ars (strip S (ix r)) (S.rc (ix r) - 1) with
  | none => (0, -4, S)
  | some s => kp S s (S.un (S.rp (ix r) 0) + S.un (S.rh (ix r) 0))
def sp_weight (S : St) (x : Int32) : An := if ¬ (1 ≤ x.toInt ∧ x.toInt ≤ 1000000000) then (1, 0, S) else if S.wn = 12 then (0, -3, S) else (0, (S.wn : Int) + 1, S.sw (S.wn + 1) (fup S.w S.wn (ix x)))
def sp_noWeights (S : St) : An := (0, (S.wn : Int), S.sw 0 S.w)
def tot (w : Nat → Nat) : Nat → Nat
  | 0 => 0
  | k + 1 => tot w k + w k
def cnt (p : Nat → Bool) : Nat → Nat
  | 0 => 0
  | k + 1 => cnt p k + if p k then 1 else 0
def shp (w : Nat → Nat) (n W i : Nat) : Nat := W * w i / tot w n
def shr (w : Nat → Nat) (n W i : Nat) : Nat := W * w i % tot w n
def ahead (f : Nat → Nat) (k i : Nat) : Bool := decide (f k < f i ∨ f i = f k ∧ i < k)
def shareOf (w : Nat → Nat) (n W k : Nat) : Nat := shp w n W k + if cnt (ahead (shr w n W) k) n < W - tot (shp w n W) n then 1 else 0
def sp_share (S : St) (W : Int) (k : Int32) : An := if ¬ (0 ≤ k.toInt ∧ k.toInt < S.wn) then (1, 0, S) else if ¬ (0 ≤ W ∧ W ≤ 1000000000000) then (2, 0, S) else (0, (shareOf S.w S.wn W.toNat (ix k) : Int), S)
/-! what is known stays known -/
theorem kp_ok {S : St} {r : Rat} {u : Int} (h : WF S) (hn : S.n ≠ 200) (hu : uok u) : WF (kp S r u).2.2 := by
  unfold kp
  split
  · exact h
  · rename_i hl
    have hlt := h.n
    refine ⟨by show S.n + 1 ≤ 200; omega, fun i hi => ?_, h.rn, h.rc, fun i hi j hj => ?_, fun i hi j hj => ?_, h.wn, h.w⟩
    · show ¬ lng (fup S.v S.n r i) ∧ uok (fup S.un S.n u i)
      by_cases e : i = S.n
      · rw [e, fup_s, fup_s]; exact ⟨hl, hu⟩
      · rw [fup_n e, fup_n e]
        have hi : i < S.n + 1 := hi
        exact h.v i (by omega)
    · obtain ⟨h1, h2, h3, h4⟩ := h.rp i hi j hj
      obtain ⟨h5, h6, -, -⟩ := h.rp i hi 0 (Nat.lt_of_le_of_lt (Nat.zero_le _) hj)
      refine ⟨Nat.lt_succ_of_lt h1, Nat.lt_succ_of_lt h2, ?_, ?_⟩
      · show fup S.un S.n u (S.rp i j) = fup S.un S.n u (S.rp i 0)
        rw [fup_n (by omega), fup_n (by omega)]; exact h3
      · show fup S.un S.n u (S.rh i j) = fup S.un S.n u (S.rh i 0)
        rw [fup_n (by omega), fup_n (by omega)]; exact h4
    · have h1 := (h.rp i hi j (Nat.lt_of_succ_lt hj)).1
      have h2 := (h.rp i hi (j + 1) hj).1
      show fup S.v S.n r (S.rp i j) < fup S.v S.n r (S.rp i (j + 1))
      rw [fup_n (by omega), fup_n (by omega)]; exact h.up i hi j hj
theorem value_ok {S : St} {a b : Int} {u : Int32} (h : WF S) : WF (sp_value S a b u).2.2 := by
  unfold sp_value
  split
  · exact h
  split
  · exact h
  split
  · exact h
  · rename_i _ h2 h3
    exact kp_ok h h3 (by simpa using h2)
theorem ix_lt {S : St} {x : Int32} (h : vi S x) : ix x < S.n := by have := h.1; have := h.2; show x.toInt.toNat < S.n; omega
theorem rx_lt {S : St} {x : Int32} (h : ri S x) : ix x < S.rn := by have := h.1; have := h.2; show x.toInt.toNat < S.rn; omega
theorem add_ok {S : St} {x y : Int32} {l : Bool} (h : WF S) : WF (sp_add S x y l).2.2 := by
  unfold sp_add
  split
  · exact h
  split
  · exact h
  split
  · exact h
  · rename_i h1 _ h3
    rw [Decidable.not_not] at h1
    exact kp_ok h h3 (h.v _ (ix_lt h1.1)).2
theorem times_ok {S : St} {x y : Int32} (h : WF S) : WF (sp_times S x y).2.2 := by
  unfold sp_times
  split
  · exact h
  split
  · exact h
  split
  · exact h
  · rename_i _ h2 h3
    exact kp_ok h h3 (by simpa using h2)
theorem over_ok {S : St} {x y : Int32} (h : WF S) : WF (sp_over S x y).2.2 := by
  unfold sp_over
  split
  · exact h
  split
  · exact h
  split
  · exact h
  split
  · exact h
  · rename_i _ _ h2 h3
    exact kp_ok h h3 (by simpa using h2)
theorem order_ok {S : St} {x y : Int32} (h : WF S) : WF (sp_order S x y).2.2 := by
  unfold sp_order
  split
  · exact h
  split
  · exact h
  · exact h
theorem round_ok {S : St} {x r s : Int32} (h : WF S) : WF (sp_round S x r s).2.2 := by
  unfold sp_round
  split
  · exact h
  split
  · exact h
  split
  · exact h
  · rename_i h1 _ h3
    rw [Decidable.not_not] at h1
    exact kp_ok h h3 (h.v _ (ix_lt h1)).2
theorem prism_ok {S : St} {a b c d : Int32} (h : WF S) : WF (sp_prism S a b c d).2.2 := by
  unfold sp_prism
  split
  · exact h
  split
  · exact h
  split
  · exact h
  · rename_i _ h2 h3
    rw [Decidable.not_not] at h2
    exact kp_ok h h3 h2.2.2
theorem told_ok {S : St} {x y : Int32} (h : WF S) : WF (sp_told S x y).2.2 := by
  unfold sp_told
  split
  · exact h
  split
  · exact h
  · exact h
theorem digit_ok {S : St} {x y z : Int32} (h : WF S) : WF (sp_digit S x y z).2.2 := by
  unfold sp_digit
  split
  · exact h
  split
  · exact h
  split
  · exact h
  · exact h
theorem clear_ok {S : St} (h : WF S) : WF (sp_clear S).2.2 :=
  ⟨Nat.zero_le _, fun i hi => absurd hi (Nat.not_lt_zero i), Nat.zero_le _, fun i hi => absurd hi (Nat.not_lt_zero i), fun i hi => absurd hi (Nat.not_lt_zero i), fun i hi => absurd hi (Nat.not_lt_zero i), h.wn, h.w⟩
theorem row_ok {S : St} (h : WF S) : WF (sp_row S).2.2 := by
  unfold sp_row
  split
  · exact h
  · rename_i h1
    have := h.rn
    refine ⟨h.n, h.v, by show S.rn + 1 ≤ 8; omega, fun i hi => ?_, fun i hi j hj => ?_, fun i hi j hj => ?_, h.wn, h.w⟩
    · show fup S.rc S.rn 0 i ≤ 16
      by_cases e : i = S.rn
      · rw [e, fup_s]; decide
      · rw [fup_n e]
        have hi : i < S.rn + 1 := hi
        exact h.rc i (by omega)
    · have hi : i < S.rn + 1 := hi
      have hj : j < fup S.rc S.rn 0 i := hj
      by_cases e : i = S.rn
      · rw [e, fup_s] at hj; omega
      · rw [fup_n e] at hj
        exact h.rp i (by omega) j hj
    · have hi : i < S.rn + 1 := hi
      have hj : j + 1 < fup S.rc S.rn 0 i := hj
      by_cases e : i = S.rn
      · rw [e, fup_s] at hj; omega
      · rw [fup_n e] at hj
        exact h.up i (by omega) j hj
theorem corner_ok {S : St} {r x y : Int32} (h : WF S) : WF (sp_corner S r x y).2.2 := by
  unfold sp_corner
  split
  · exact h
  split
  · exact h
  split
  · exact h
  split
  · exact h
  · rename_i h1 h2 h3 h4
    rw [Decidable.not_not] at h1
    obtain ⟨q1, q2, q3⟩ := h1
    have l1 := rx_lt q1
    have l2 := ix_lt q2
    have l3 := ix_lt q3
    have l4 := h.rc _ l1
    generalize ix r = R at *
    generalize ix x = X at *
    generalize ix y = Y at *
    refine ⟨h.n, h.v, h.rn, fun i hi => ?_, fun i hi j hj => ?_, fun i hi j hj => ?_, h.wn, h.w⟩
    · show fup S.rc R (S.rc R + 1) i ≤ 16
      by_cases e : i = R
      · rw [e, fup_s]; omega
      · rw [fup_n e]; exact h.rc i hi
    · have hj : j < fup S.rc R (S.rc R + 1) i := hj
      show fup S.rp R (fup (S.rp R) (S.rc R) X) i j < S.n ∧ fup S.rh R (fup (S.rh R) (S.rc R) Y) i j < S.n ∧ S.un (fup S.rp R (fup (S.rp R) (S.rc R) X) i j) = S.un (fup S.rp R (fup (S.rp R) (S.rc R) X) i 0) ∧ S.un (fup S.rh R (fup (S.rh R) (S.rc R) Y) i j) = S.un (fup S.rh R (fup (S.rh R) (S.rc R) Y) i 0)
      by_cases e : i = R
      · subst e
        rw [fup_s] at hj
        rw [fup_s, fup_s]
        by_cases z : S.rc i = 0
        · have : j = S.rc i := by omega
          subst this
          rw [z, fup_s, fup_s]
          exact ⟨l2, l3, rfl, rfl⟩
        · have hz : 0 < S.rc i := by omega
          have hu : S.un X = S.un (S.rp i 0) ∧ S.un Y = S.un (S.rh i 0) := by
            refine ⟨Decidable.byContradiction fun q => h2 ⟨hz, Or.inl q⟩, Decidable.byContradiction fun q => h2 ⟨hz, Or.inr q⟩⟩
          rw [fup_n (i := S.rc i) (j := 0) (x := X) (by omega), fup_n (i := S.rc i) (j := 0) (x := Y) (by omega)]
          by_cases ej : j = S.rc i
          · rw [ej, fup_s, fup_s]; exact ⟨l2, l3, hu.1, hu.2⟩
          · rw [fup_n ej, fup_n ej]; exact h.rp i hi j (by omega)
      · rw [fup_n e] at hj
        rw [fup_n e, fup_n e]; exact h.rp i hi j hj
    · have hj : j + 1 < fup S.rc R (S.rc R + 1) i := hj
      show S.v (fup S.rp R (fup (S.rp R) (S.rc R) X) i j) < S.v (fup S.rp R (fup (S.rp R) (S.rc R) X) i (j + 1))
      by_cases e : i = R
      · subst e
        rw [fup_s] at hj
        rw [fup_s, fup_n (by omega)]
        by_cases ej : j + 1 = S.rc i
        · rw [ej, fup_s]
          refine Rat.not_le.mp fun q => h4 ⟨by omega, ?_⟩
          rw [← ej]; exact q
        · rw [fup_n ej]; exact h.up i hi j (by omega)
      · rw [fup_n e] at hj
        rw [fup_n e]; exact h.up i hi j hj
theorem at_ok {S : St} {r x : Int32} (h : WF S) : WF (sp_at S r x).2.2 := by
  unfold sp_at
  split
  · exact h
  split
  · exact h
  split
  · exact h
  · rename_i h1 h2 h3
    rw [Decidable.not_not] at h1
    have l1 := rx_lt h1.1
    split
    · exact h
    · split
      · exact h
      split
      · exact h
      · rename_i h5
        exact kp_ok h h5 (h.v _ (h.rp _ l1 0 (by omega)).2.1).2
theorem area_ok {S : St} {r : Int32} (h : WF S) : WF (sp_area S r).2.2 := by
  unfold sp_area
  split
  · exact h
  split
  · exact h
  split
  · exact h
  split
  · exact h
  · rename_i _ _ h2 h3
    split
    · exact h
    · exact kp_ok h h3 (by simpa using h2)
theorem weight_ok {S : St} {x : Int32} (h : WF S) : WF (sp_weight S x).2.2 := by
  unfold sp_weight
  split
  · exact h
  split
  · exact h
  · rename_i h1 h2
    rw [Decidable.not_not] at h1
    have := h.wn
    refine ⟨h.n, h.v, h.rn, h.rc, h.rp, h.up, by show S.wn + 1 ≤ 12; omega, fun i hi => ?_⟩
    show 1 ≤ fup S.w S.wn (ix x) i ∧ fup S.w S.wn (ix x) i ≤ 1000000000
    have hi : i < S.wn + 1 := hi
    by_cases e : i = S.wn
    · rw [e, fup_s]; show 1 ≤ x.toInt.toNat ∧ x.toInt.toNat ≤ 1000000000; omega
    · rw [fup_n e]; exact h.w i (by omega)
theorem noWeights_ok {S : St} (h : WF S) : WF (sp_noWeights S).2.2 :=
  ⟨h.n, h.v, h.rn, h.rc, h.rp, h.up, Nat.zero_le _, fun i hi => absurd hi (Nat.not_lt_zero i)⟩
theorem share_ok {S : St} {W : Int} {k : Int32} (h : WF S) : WF (sp_share S W k).2.2 := by
  unfold sp_share
  split
  · exact h
  split
  · exact h
  · exact h
