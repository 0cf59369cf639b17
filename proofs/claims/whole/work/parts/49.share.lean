/-! ===== SHARES: pure facts ===== -/
theorem sh_split {W w t c : Nat} (ht : 0 < t) : W / t * w + W % t * (w / c) / t * c + (W % t * (w / c) % t * c + W % t * (w % c)) / t = W * w / t ∧ (W % t * (w / c) % t * c + W % t * (w % c)) % t = W * w % t := by
  have e1 : t * (W / t) + W % t = W := Nat.div_add_mod W t
  have e2 : c * (w / c) + w % c = w := Nat.div_add_mod w c
  generalize W / t = A at *
  generalize W % t = r at *
  generalize w / c = B at *
  generalize w % c = s at *
  have e3 : t * (r * B / t) + r * B % t = r * B := Nat.div_add_mod (r * B) t
  generalize r * B / t = C at *
  generalize r * B % t = D at *
  have e4 : W * w = (A * w + C * c) * t + (D * c + r * s) := by
    calc W * w = (t * A + r) * w := by rw [e1]
      _ = t * A * w + r * w := Nat.add_mul _ _ _
      _ = t * A * w + r * (c * B + s) := by rw [e2]
      _ = t * A * w + ((r * B) * c + r * s) := by grind
      _ = t * A * w + ((t * C + D) * c + r * s) := by rw [e3]
      _ = (A * w + C * c) * t + (D * c + r * s) := by grind
  rw [e4]
  constructor
  · rw [Nat.add_comm ((A * w + C * c) * t), Nat.add_mul_div_right _ _ ht, Nat.add_comm]
  · rw [Nat.mul_add_mod_self_right]
theorem tot_le {w : Nat → Nat} {i : Nat} : ∀ {n : Nat}, i < n → w i ≤ tot w n
  | 0, h => absurd h (Nat.not_lt_zero _)
  | n + 1, h => by
    show w i ≤ tot w n + w n
    by_cases e : i = n
    · subst e; omega
    · have := tot_le (w := w) (n := n) (show i < n by omega); omega
theorem tot_bd {w : Nat → Nat} {M : Nat} : ∀ {n : Nat}, (∀ i, i < n → w i ≤ M) → tot w n ≤ n * M
  | 0, _ => Nat.zero_le _
  | n + 1, h => by
    show tot w n + w n ≤ (n + 1) * M
    have := tot_bd (n := n) (fun i hi => h i (Nat.lt_succ_of_lt hi))
    have := h n (Nat.lt_succ_self n)
    rw [Nat.succ_mul]; omega
theorem tot_parts {w : Nat → Nat} {W t : Nat} : ∀ {n : Nat}, W * tot w n = t * tot (fun i => W * w i / t) n + tot (fun i => W * w i % t) n
  | 0 => by simp [tot]
  | n + 1 => by
    have h1 := tot_parts (w := w) (W := W) (t := t) (n := n)
    have h2 := Nat.div_add_mod (W * w n) t
    simp only [tot]
    rw [Nat.mul_add, Nat.mul_add]
    omega
theorem sh_left {w : Nat → Nat} {n W : Nat} (ht : 0 < tot w n) : tot (shp w n W) n ≤ W ∧ W - tot (shp w n W) n ≤ n := by
  have h1 := tot_parts (w := w) (W := W) (t := tot w n) (n := n)
  have h2 : tot (fun i => W * w i % tot w n) n ≤ n * tot w n := tot_bd (fun i _ => Nat.le_of_lt (Nat.mod_lt _ ht))
  have h3 : tot (shp w n W) n = tot (fun i => W * w i / tot w n) n := rfl
  rw [← h3] at h1
  generalize tot (shp w n W) n = P at *
  generalize tot (fun i => W * w i % tot w n) n = Rr at *
  generalize tot w n = t at *
  have h4 : t * P ≤ t * W := by rw [Nat.mul_comm t W]; omega
  have h5 : P ≤ W := Nat.le_of_mul_le_mul_left h4 ht
  refine ⟨h5, ?_⟩
  have h6 : t * (W - P) ≤ t * n := by
    rw [Nat.mul_sub]
    rw [Nat.mul_comm t W, Nat.mul_comm t n]
    omega
  exact Nat.le_of_mul_le_mul_left h6 ht
theorem cnt_le {p : Nat → Bool} : ∀ {n : Nat}, cnt p n ≤ n
  | 0 => Nat.le_refl _
  | n + 1 => by
    have := cnt_le (p := p) (n := n)
    show cnt p n + (if p n then 1 else 0) ≤ n + 1
    split <;> omega
theorem cnt_mono {p q : Nat → Bool} : ∀ {n : Nat}, (∀ i, i < n → p i = true → q i = true) → cnt p n ≤ cnt q n
  | 0, _ => Nat.le_refl _
  | n + 1, h => by
    have h1 := cnt_mono (n := n) (fun i hi => h i (Nat.lt_succ_of_lt hi))
    have h2 := h n (Nat.lt_succ_self n)
    show cnt p n + (if p n then 1 else 0) ≤ cnt q n + (if q n then 1 else 0)
    cases hp : p n
    · simp; omega
    · rw [h2 hp]; simp; omega
/-- q has one more -/
theorem cnt_lt {p q : Nat → Bool} {j : Nat} : ∀ {n : Nat}, (∀ i, i < n → p i = true → q i = true) → j < n → p j = false → q j = true → cnt p n < cnt q n
  | 0, _, h, _, _ => absurd h (Nat.not_lt_zero _)
  | n + 1, h, hj, h1, h2 => by
    show cnt p n + (if p n then 1 else 0) < cnt q n + (if q n then 1 else 0)
    have hm := cnt_mono (n := n) (fun i hi => h i (Nat.lt_succ_of_lt hi))
    by_cases e : j = n
    · subst e; rw [h1, h2]; simp; omega
    · have := cnt_lt (n := n) (fun i hi => h i (Nat.lt_succ_of_lt hi)) (show j < n by omega) h1 h2
      have h3 := h n (Nat.lt_succ_self n)
      cases hp : p n
      · simp; omega
      · rw [h3 hp]; simp; omega
theorem cnt_up {p : Nat → Bool} {j : Nat} : ∀ {n : Nat}, j < n → p j = false → cnt (fup p j true) n = cnt p n + 1
  | 0, h, _ => absurd h (Nat.not_lt_zero _)
  | n + 1, hj, h1 => by
    show cnt (fup p j true) n + (if fup p j true n then 1 else 0) = cnt p n + (if p n then 1 else 0) + 1
    by_cases e : j = n
    · subst e
      rw [fup_s, h1]
      have : ∀ m, m ≤ j → cnt (fup p j true) m = cnt p m := by
        intro m
        induction m with
        | zero => intro _; rfl
        | succ m ih =>
          intro hm
          show cnt (fup p j true) m + (if fup p j true m then 1 else 0) = cnt p m + (if p m then 1 else 0)
          rw [ih (by omega), fup_n (by omega)]
      rw [this j (Nat.le_refl _)]
      simp
    · rw [fup_n (by omega), cnt_up (n := n) (by omega) h1]
      omega
theorem cnt_ex {p : Nat → Bool} : ∀ {n : Nat}, cnt p n < n → ∃ i, i < n ∧ p i = false
  | 0, h => absurd h (Nat.not_lt_zero _)
  | n + 1, h => by
    have h : cnt p n + (if p n then 1 else 0) < n + 1 := h
    cases hp : p n
    · exact ⟨n, Nat.lt_succ_self n, hp⟩
    · rw [hp] at h
      obtain ⟨i, h1, h2⟩ := cnt_ex (p := p) (n := n) (by simp at h; omega)
      exact ⟨i, Nat.lt_succ_of_lt h1, h2⟩
/-- those that have got a unit, j of them, are ahead of those that have not -/
def chs (f : Nat → Nat) (n j : Nat) (ch : Nat → Bool) : Prop := cnt ch n = j ∧ ∀ i, i < n → ch i = true → ∀ k, k < n → ahead f i k = true → ch k = true
theorem chs_0 {f : Nat → Nat} {n : Nat} : chs f n 0 (fun _ => false) := by
  refine ⟨?_, fun _ _ h => absurd h Bool.false_ne_true⟩
  induction n with
  | zero => rfl
  | succ n ih => exact ih
theorem chs_end {f : Nat → Nat} {n j k : Nat} {ch : Nat → Bool} (h : chs f n j ch) (hk : k < n) : ch k = true ↔ cnt (ahead f k) n < j := by
  obtain ⟨h1, h2⟩ := h
  constructor
  · intro hc
    rw [← h1]
    refine cnt_lt (j := k) (fun i hi ha => h2 k hk hc i hi ha) hk ?_ hc
    simp [ahead]
  · intro hl
    cases hc : ch k with
    | true => rfl
    | false =>
      exfalso
      have : cnt ch n ≤ cnt (ahead f k) n := by
        refine cnt_mono fun i hi hci => ?_
        cases ha : ahead f k i with
        | true => rfl
        | false =>
          exfalso
          have h3 : ahead f i k = true := by
            simp only [ahead, decide_eq_true_eq, decide_eq_false_iff_not] at ha ⊢
            have : i ≠ k := fun e => by rw [e, hc] at hci; cases hci
            omega
          have := h2 i hi hci k hk h3
          rw [hc] at this; cases this
      omega
/-- one more: b is none of those, and no other of the rest is ahead of it -/
theorem chs_s {f : Nat → Nat} {n j b : Nat} {ch : Nat → Bool} (h : chs f n j ch) (hb : b < n) (h0 : ch b = false) (hmax : ∀ i, i < n → ch i = false → i ≠ b → ahead f b i = false) : chs f n (j + 1) (fup ch b true) := by
  obtain ⟨h1, h2⟩ := h
  refine ⟨by rw [cnt_up hb h0, h1], fun i hi hc k hk ha => ?_⟩
  by_cases ek : k = b
  · rw [ek, fup_s]
  · rw [fup_n ek]
    by_cases ei : i = b
    · subst ei
      cases hck : ch k with
      | true => rfl
      | false => rw [hmax k hk hck ek] at ha; cases ha
    · rw [fup_n ei] at hc
      exact h2 i hi hc k hk ha
/-- the reference's rests: those that have got one are -1 -/
def rst (f : Nat → Nat) (ch : Nat → Bool) (i : Nat) : Int := if ch i then -1 else (f i : Int)
theorem rst_best {f : Nat → Nat} {n j b : Nat} {ch : Nat → Bool} (h : chs f n j ch) (hj : j < n) (hb : b < n) (hmax : ∀ i, i < n → rst f ch i ≤ rst f ch b ∧ (rst f ch i = rst f ch b → b ≤ i)) : chs f n (j + 1) (fup ch b true) ∧ ch b = false := by
  obtain ⟨i0, q1, q2⟩ := cnt_ex (p := ch) (n := n) (by rw [h.1]; exact hj)
  have h0 : ch b = false := by
    cases hc : ch b with
    | false => rfl
    | true =>
      have := (hmax i0 q1).1
      simp only [rst, q2, hc] at this
      simp at this
      omega
  refine ⟨chs_s h hb h0 fun i hi hc hne => ?_, h0⟩
  have := hmax i hi
  simp only [rst, hc, h0] at this
  simp only [ahead, decide_eq_false_iff_not]
  simp at this
  omega
theorem rst_up {f : Nat → Nat} {ch : Nat → Bool} {b i : Nat} : rst f (fup ch b true) i = if i = b then -1 else rst f ch i := by
  unfold rst
  by_cases e : i = b
  · rw [e, fup_s]; simp
  · rw [fup_n e, if_neg e]
/-! digits -/
theorem ndig_K (v : Nat) : isK v (ndig v) := by
  induction v using Nat.strongRecOn with
  | _ v ih =>
    rw [ndig]
    split
    · rename_i h
      by_cases e : v = 0
      · exact Or.inl ⟨e, rfl⟩
      · exact Or.inr ⟨by omega, by omega, by simp; omega, by simpa using h⟩
    · rename_i h
      have h1 := ih (v / 10) (by omega)
      rcases h1 with ⟨a, b⟩ | ⟨a, b, c, d⟩
      · omega
      · generalize ndig (v / 10) = K at *
        refine Or.inr ⟨by omega, by omega, ?_, ?_⟩
        · obtain ⟨m, rfl⟩ : ∃ m, K = m + 1 := ⟨K - 1, by omega⟩
          simp only [Nat.add_sub_cancel] at c ⊢
          rw [Nat.pow_succ]; omega
        · rw [Nat.pow_succ]; omega
theorem ndig_of {v K : Nat} (h : isK v K) : K = ndig v := isK_uniq h (ndig_K v)
/-! the first place that is not before x -/
theorem fg_none {f : Nat → Rat} {x : Rat} : ∀ {n : Nat}, fg f x n = none ↔ ∀ j, j < n → f j < x
  | 0 => ⟨fun _ j h => absurd h (Nat.not_lt_zero _), fun _ => rfl⟩
  | n + 1 => by
    have ih := fg_none (f := f) (x := x) (n := n)
    cases hf : fg f x n with
    | some j =>
      simp only [fg, hf]
      refine ⟨fun h => (by cases h), fun h => ?_⟩
      have := ih.mpr (fun j hj => h j (Nat.lt_succ_of_lt hj))
      rw [hf] at this; cases this
    | none =>
      simp only [fg, hf]
      have h1 := ih.mp hf
      by_cases e : x ≤ f n
      · rw [if_pos e]
        refine ⟨fun h => (by cases h), fun h => absurd e ?_⟩
        exact Rat.not_le.mpr (h n (Nat.lt_succ_self n))
      · rw [if_neg e]
        refine ⟨fun _ j hj => ?_, fun _ => rfl⟩
        by_cases ej : j = n
        · rw [ej]; exact Rat.not_le.mp e
        · exact h1 j (by omega)
theorem fg_some {f : Nat → Rat} {x : Rat} : ∀ {n j : Nat}, fg f x n = some j ↔ j < n ∧ x ≤ f j ∧ ∀ i, i < j → f i < x
  | 0, j => ⟨fun h => (by cases h), fun h => absurd h.1 (Nat.not_lt_zero _)⟩
  | n + 1, j => by
    have ih := @fg_some f x n
    cases hf : fg f x n with
    | some k =>
      simp only [fg, hf]
      obtain ⟨a, b, c⟩ := (ih (j := k)).mp hf
      constructor
      · intro h; cases h; exact ⟨by omega, b, c⟩
      · rintro ⟨a2, b2, c2⟩
        congr 1
        rcases Nat.lt_trichotomy j k with q | q | q
        · exact absurd b2 (Rat.not_le.mpr (c j q))
        · exact q.symm
        · exact absurd b (Rat.not_le.mpr (c2 k q))
    | none =>
      simp only [fg, hf]
      have h1 := fg_none.mp hf
      by_cases e : x ≤ f n
      · rw [if_pos e]
        constructor
        · intro h; cases h; exact ⟨by omega, e, h1⟩
        · rintro ⟨a2, b2, c2⟩
          congr 1
          by_cases ej : j = n
          · exact ej.symm
          · exact absurd b2 (Rat.not_le.mpr (h1 j (by omega)))
      · rw [if_neg e]
        refine ⟨fun h => (by cases h), ?_⟩
        rintro ⟨a2, b2, c2⟩
        by_cases ej : j = n
        · subst ej; exact absurd b2 e
        · exact absurd b2 (Rat.not_le.mpr (h1 j (by omega)))
