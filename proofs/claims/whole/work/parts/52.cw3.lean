/-! ===== small rows for the class's own methods ===== -/
section C4
variable {cA : Nat → ClassId} {G G1 G2 : gT}
theorem isV_24 {h : Nat} {r : Rat} {z : Int} (hv : isV cA G h r z) (hf : gfr (fun x => x < 24) G G1) : isV cA G1 h r z := isV_fr hv hf (show ¬ (30 : Nat) < 24 by decide)
theorem kq_24 {h : Nat} {r : Rat} (hv : kq cA G h r) (hf : gfr (fun x => x < 24) G G1) : kq cA G1 h r := rf_fr hv hf (fun t ht => by subst ht; show ¬ (30 : Nat) < 24; decide)
theorem gfr_24 (h1 : gfr (fun x => x < 24) G G1) (h2 : gfr (fun x => x < 24) G1 G2) : gfr (fun x => x < 24) G G2 := gfr_mono (gfr_tr h1 h2) (fun x h => by rcases h with h | h <;> exact h)
end C4
theorem b01_le (b : Bool) : b01 b ≤ 1 := by cases b <;> decide
theorem b01_or {r : Int32} {q : Prop} [Decidable q] (h : (r = nI 0 ∧ ¬ q) ∨ (r = nI 1 ∧ q)) : r = nI (b01 (decide q)) := by
  rcases h with ⟨h1, h2⟩ | ⟨h1, h2⟩
  · rw [h1, decide_eq_false h2]; rfl
  · rw [h1, decide_eq_true h2]; rfl
theorem b01_0 {q : Prop} [Decidable q] (h : b01 (decide q) = 0) : ¬ q := fun z => by rw [decide_eq_true z] at h; exact absurd h (by decide)
theorem b01_1 {q : Prop} [Decidable q] (h : b01 (decide q) ≠ 0) : q := Decidable.byContradiction fun z => h (by rw [decide_eq_false z]; rfl)
theorem rcmp_bd (x y : Rat) : -1 ≤ rcmp x y ∧ rcmp x y ≤ 1 := by
  unfold rcmp
  split
  · omega
  split <;> omega
theorem rcmp_0 {x y : Rat} : rcmp x y = 0 ↔ x = y := by
  unfold rcmp
  split
  · rename_i h
    constructor
    · intro z; omega
    · intro z; subst z; exact absurd h Rat.lt_irrefl
  split
  · rename_i h; simp [h]
  · rename_i h; simp [h]
theorem rcmp_lt {x y : Rat} : rcmp x y < 0 ↔ x < y := by
  unfold rcmp
  split
  · rename_i h; simp [h]
  split
  · rename_i h1 h; simp [h1]
  · rename_i h1 h; simp [h1]
theorem rcmp_le {x y : Rat} : rcmp x y ≤ 0 ↔ x ≤ y := by
  have h1 := @rcmp_lt x y
  have h2 := @rcmp_0 x y
  constructor
  · intro h
    rcases Int.lt_or_eq_of_le h with z | z
    · exact Rat.le_of_lt (h1.mp z)
    · rw [h2.mp z]; exact Rat.le_refl
  · intro h
    rcases Rat.le_iff_lt_or_eq.mp h with z | z
    · exact Int.le_of_lt (h1.mpr z)
    · exact Int.le_of_eq (h2.mpr z)
theorem rb_if {p : Prop} [Decidable p] {x y : Rat} {k : Nat} (h1 : rb x k) (h2 : rb y k) : rb (if p then x else y) k := by split <;> assumption
theorem rb_ratio {x y : Int} (hx1 : -9223372036854775808 ≤ x) (hx2 : x < 9223372036854775808) (hy1 : -9223372036854775808 ≤ y) (hy2 : y < 9223372036854775808) (hy : y ≠ 0) : rb (mkRat (x * y.sign) y.natAbs) 3 := by
  have e : (1000000000 : Nat) ^ 3 = 1000000000000000000000000000 := by decide
  refine rb_mk (by omega) ?_ (by rw [e]; omega)
  rw [Int.natAbs_mul]
  have h1 : y.sign.natAbs = 1 := by rw [Int.natAbs_sign_of_ne_zero hy]
  rw [h1, e]
  omega
theorem rb_rnd {r : Rat} {k rule st : Nat} (h : rb r k) (h1 : 0 < st) (h2 : st ≤ 1000000000) : rb (rnd r rule st) (k + 3) := by
  unfold rnd
  generalize hT : (r.num.natAbs * st / r.den + b01 (gof r.num r.den (r.num.natAbs * st / r.den) (r.num.natAbs * st % r.den) rule)) = T
  have hd := rt_pos r
  have e3 : (1000000000 : Nat) ^ (k + 3) = 1000000000 ^ k * 1000000000000000000000000000 := by rw [Nat.pow_add]
  have hp := pw_pos k
  have hb1 := b01_le (gof r.num r.den (r.num.natAbs * st / r.den) (r.num.natAbs * st % r.den) rule)
  have hT1 : T ≤ r.num.natAbs * st + 1 := by
    have := Nat.div_le_self (r.num.natAbs * st) r.den
    omega
  have hT2 : r.num.natAbs * st ≤ 1000000000 ^ k * 1000000000 := Nat.mul_le_mul (Nat.le_of_lt h.1) h2
  refine rb_mk h1 ?_ ?_
  · rw [Int.natAbs_mul, Int.natAbs_natCast]
    have hs : r.num.sign.natAbs ≤ 1 := by rcases Int.lt_trichotomy r.num 0 with z | z | z <;> simp [Int.sign_eq_neg_one_of_neg, Int.sign_eq_one_of_pos, z]
    have := Nat.mul_le_mul_right T hs
    rw [Nat.one_mul] at this
    rw [e3]
    omega
  · rw [e3]
    omega
/-- the class's world, whatever the scratch fractions hold -/
def CW3 (cA : Nat → ClassId) (X : Nat × Nat) (a : AX) (S : St) (u : gT × Nat × Nat) : Prop := ∃ F V, CW cA X a S F V u
section C5
variable {cA : Nat → ClassId} {X X1 : Nat × Nat} {a : AX} {S : St} {F : Nat → Option Rat} {V : Nat → Nat} {G G1 : gT} {B : Nat × Nat}
theorem CW.up (hC : CW cA X a S F V (G, B)) (h1 : X.1 ≤ X1.1) (h2 : X.2 ≤ X1.2) : CW3 cA X1 a S (G, B) :=
  ⟨F, V, hC.move (M := fun _ => False) gfr_rf (fun _ z => z.elim) (by omega) (by omega)⟩
theorem kq_val {h q t : Nat} {r : Rat} {fs : List Value} (hk : kq cA G h r) (hq : G q = some (t, .inr (6, fs))) (hx : gex (fun x => x = q) G G1) : kq cA G1 h r := by
  have ne : ∀ {x : Nat} {y : Nat × va_E}, G x = some y → (∀ t fs, y ≠ (t, .inr (6, fs))) → G1 x = some y := fun {x y} h1 h2 => hx x y h1 (fun e => by
    subst e
    rw [h1] at hq
    exact h2 _ _ (Option.some.inj hq))
  obtain ⟨t1, ha, hb, e1, e2, ⟨t2, c2, e3, e4, a2, z2, f2, e5, e6, e7, e8⟩, ⟨t3, c3, e9, e10, a3, z3, f3, e11, e12, e13, e14⟩⟩ := hk
  exact ⟨t1, ha, hb, e1, ne e2 (fun _ _ z => by cases z), ⟨t2, c2, e3, e4, a2, z2, f2, ne e5 (fun _ _ z => by cases z), ne e6 (fun _ _ z => by cases z), e7, e8⟩, ⟨t3, c3, e9, e10, a3, z3, f3, ne e11 (fun _ _ z => by cases z), ne e12 (fun _ _ z => by cases z), e13, e14⟩⟩
end C5
theorem CW3_le {cA : Nat → ClassId} {X : Nat × Nat} {a : AX} {S : St} {G : gT} {B : Nat × Nat} (h : CW3 cA X a S (G, B)) : B.1 ≤ X.1 ∧ B.2 ≤ X.2 := by
  obtain ⟨F, V, hC⟩ := h
  exact w2_le hC.w
theorem nvi {S : St} {x : Int} (h1 : -2147483648 ≤ x) (h2 : x < 2147483648) (h : ¬ vi S (iI x)) : ¬ (0 ≤ x ∧ x < S.n) := fun q => h ⟨by rw [iI_toInt h1 h2]; exact q.1, by rw [iI_toInt h1 h2]; exact q.2⟩
theorem nri {S : St} {x : Int} (h1 : -2147483648 ≤ x) (h2 : x < 2147483648) (h : ¬ ri S (iI x)) : ¬ (0 ≤ x ∧ x < S.rn) := fun q => h ⟨by rw [iI_toInt h1 h2]; exact q.1, by rw [iI_toInt h1 h2]; exact q.2⟩
theorem kp_0 {S : St} {r : Rat} {u : Int} : (kp S r u).1 = 0 := by unfold kp; split <;> rfl
theorem sgI_z {p : Int} (h : sgI p = 0) : p = 0 := by
  unfold sgI at h
  split at h
  · exact absurd h (by decide)
  split at h
  · assumption
  · exact absurd h (by decide)
theorem sgI_sign (p : Int) : sgI p = iI p.sign := by
  unfold sgI
  rcases Int.lt_trichotomy p 0 with h | h | h
  · rw [if_pos h, Int.sign_eq_neg_one_of_neg h]; rfl
  · subst h; rfl
  · rw [if_neg (by omega), if_neg (by omega), Int.sign_eq_one_of_pos h]; rfl
theorem dig_bd {v : Nat} (h : v < 1000000000 ^ 100) : ndig v < 2147483648 := by
  have hK := ndig_K v
  have h2 : ¬ 900 < ndig v := fun z => by
    have := (isK_long hK).mp z
    rw [m900_B] at this
    omega
  omega
theorem tot_mono {f : Nat → Nat} {j : Nat} : ∀ {n : Nat}, j ≤ n → tot f j ≤ tot f n
  | 0, h => by
    have e : j = 0 := by omega
    subst e
    exact Nat.le_refl _
  | n + 1, h => by
    by_cases e : j = n + 1
    · subst e; exact Nat.le_refl _
    · have := tot_mono (f := f) (n := n) (show j ≤ n by omega)
      show tot f j ≤ tot f n + f n
      omega
theorem sh_cut {w : Nat → Nat} {n W j : Nat} : W * w j - W * w j / tot w n * tot w n = shr w n W j := by
  unfold shr
  have h := Nat.div_add_mod (W * w j) (tot w n)
  rw [Nat.mul_comm] at h
  omega
