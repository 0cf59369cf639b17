/-! ===== FRACTIONS: a numerator p (with its sign) and q > 0 ===== -/
def sgI (p : Int) : Int32 := if p < 0 then -1 else if p = 0 then 0 else 1
theorem sgI_neg {p : Int} (h : p < 0) : sgI p = -1 := by unfold sgI; rw [if_pos h]
theorem sgI_0 : sgI 0 = 0 := by decide
theorem sgI_pos {p : Int} (h : 0 < p) : sgI p = 1 := by
  unfold sgI
  rw [if_neg (by omega), if_neg (by omega)]
theorem sgI_c (p : Int) : (p < 0 ∧ sgI p = -1) ∨ (p = 0 ∧ sgI p = 0) ∨ (0 < p ∧ sgI p = 1) := by
  rcases Int.lt_trichotomy p 0 with h | h | h
  · exact Or.inl ⟨h, sgI_neg h⟩
  · exact Or.inr (Or.inl ⟨h, by rw [h]; exact sgI_0⟩)
  · exact Or.inr (Or.inr ⟨h, sgI_pos h⟩)
theorem sgI_opp (p : Int) : -(sgI p) = sgI (-p) := by
  rcases sgI_c p with ⟨h, e⟩ | ⟨h, e⟩ | ⟨h, e⟩
  · rw [e, sgI_pos (by omega)]; decide
  · rw [h]; decide
  · rw [e, sgI_neg (by omega)]
theorem sgI_mul (p q : Int) : sgI p * sgI q = sgI (p * q) := by
  rcases sgI_c p with ⟨h, e⟩ | ⟨h, e⟩ | ⟨h, e⟩
  · rcases sgI_c q with ⟨h2, e2⟩ | ⟨h2, e2⟩ | ⟨h2, e2⟩
    · rw [e, e2, sgI_pos (Int.mul_pos_of_neg_of_neg h h2)]; decide
    · rw [e, e2, h2, Int.mul_zero]; decide
    · rw [e, e2, sgI_neg (Int.mul_neg_of_neg_of_pos h h2)]; decide
  · rw [e, h, Int.zero_mul]
    rcases sgI_c q with ⟨h2, e2⟩ | ⟨h2, e2⟩ | ⟨h2, e2⟩ <;> rw [e2] <;> decide
  · rcases sgI_c q with ⟨h2, e2⟩ | ⟨h2, e2⟩ | ⟨h2, e2⟩
    · rw [e, e2, sgI_neg (Int.mul_neg_of_pos_of_neg h h2)]; decide
    · rw [e, e2, h2, Int.mul_zero]; decide
    · rw [e, e2, sgI_pos (Int.mul_pos h h2)]; decide
theorem sgI_mulp {p : Int} {k : Nat} (h : 0 < k) : sgI (p * (k : Int)) = sgI p := by
  rw [← sgI_mul, sgI_pos (p := (k : Int)) (by omega)]
  rcases sgI_c p with ⟨h2, e2⟩ | ⟨h2, e2⟩ | ⟨h2, e2⟩ <;> rw [e2] <;> decide
theorem sgI_eq0 {p : Int} : sgI p = 0 ↔ p = 0 := by
  rcases sgI_c p with ⟨h, e⟩ | ⟨h, e⟩ | ⟨h, e⟩
  · rw [e]; exact ⟨fun z => absurd z (by decide), fun z => by omega⟩
  · rw [e]; exact ⟨fun _ => h, fun _ => rfl⟩
  · rw [e]; exact ⟨fun z => absurd z (by decide), fun z => by omega⟩
theorem sgI_lt {p : Int} : sgI p < 0 ↔ p < 0 := by
  rcases sgI_c p with ⟨h, e⟩ | ⟨h, e⟩ | ⟨h, e⟩
  · rw [e]; exact ⟨fun _ => h, fun _ => by decide⟩
  · rw [e]; exact ⟨fun z => absurd z (by decide), fun z => by omega⟩
  · rw [e]; exact ⟨fun z => absurd z (by decide), fun z => by omega⟩
theorem sgI_gt {p : Int} : 0 < sgI p ↔ 0 < p := by
  rcases sgI_c p with ⟨h, e⟩ | ⟨h, e⟩ | ⟨h, e⟩
  · rw [e]; exact ⟨fun z => absurd z (by decide), fun z => by omega⟩
  · rw [e]; exact ⟨fun z => absurd z (by decide), fun z => by omega⟩
  · rw [e]; exact ⟨fun _ => h, fun _ => by decide⟩
/-- the numerator of n / d in lowest terms -/
def frn (n : Int) (d : Nat) : Int := n.sign * (rdn n.natAbs d : Int)
theorem rdn_pos {n d : Nat} (hn : 0 < n) : 0 < rdn n d := Nat.div_pos (Nat.gcd_le_left d hn) (Nat.gcd_pos_of_pos_left d hn)
theorem frn_abs (n : Int) (d : Nat) : (frn n d).natAbs = rdn n.natAbs d := by
  unfold frn
  rw [Int.natAbs_mul, Int.natAbs_natCast]
  rcases Int.lt_trichotomy n 0 with h | h | h
  · rw [Int.sign_eq_neg_one_of_neg h]; simp
  · subst h; simp [rdn]
  · rw [Int.sign_eq_one_of_pos h]; simp
theorem frn_sg (n : Int) (d : Nat) : sgI (frn n d) = sgI n := by
  unfold frn
  rcases Int.lt_trichotomy n 0 with h | h | h
  · have := rdn_pos (n := n.natAbs) (d := d) (by omega)
    rw [Int.sign_eq_neg_one_of_neg h, sgI_neg h, sgI_neg (by omega)]
  · subst h; simp
  · have := rdn_pos (n := n.natAbs) (d := d) (by omega)
    rw [Int.sign_eq_one_of_pos h, sgI_pos h, sgI_pos (by omega)]
/-- the object of the CommonDivisor -/
def cdO (ad : Nat → Nat) (hd hc : Nat) (G : gT) : Prop := ∃ ga gb gc gd : Int64, G hc = some (19, .inr (1, [.ref hd, .ref (ad 3), .ref (ad 4), .long ga, .long gb, .long gc, .long gd]))
/-- a Fraction that may be read -/
def rf (cA : Nat → ClassId) (G : gT) (P : Nat → Prop) (h : Nat) (p : Int) (q : Nat) : Prop := ∃ t ha hb : Nat, P t ∧ G h = some (t, .inr (3, [.int (sgI p), .ref ha, .ref hb])) ∧ rd cA G P ha p.natAbs ∧ rd cA G P hb q
theorem rf_fr {cA : Nat → ClassId} {G G1 : gT} {P M : Nat → Prop} {h q : Nat} {p : Int} (hr : rf cA G P h p q) (hf : gfr M G G1) (hM : ∀ t, P t → ¬ M t) : rf cA G1 P h p q := by
  obtain ⟨t, ha, hb, h1, h2, h3, h4⟩ := hr
  exact ⟨t, ha, hb, h1, hf _ _ h2 (hM t h1), rd_fr h3 hf hM, rd_fr h4 hf hM⟩
theorem rf_mono {cA : Nat → ClassId} {G : gT} {P P1 : Nat → Prop} {h q : Nat} {p : Int} (hr : rf cA G P h p q) (hM : ∀ t, P t → P1 t) : rf cA G P1 h p q := by
  obtain ⟨t, ha, hb, h1, h2, h3, h4⟩ := hr
  exact ⟨t, ha, hb, hM t h1, h2, rd_mono h3 hM, rd_mono h4 hM⟩
