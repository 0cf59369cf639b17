/-! ===== THE CLASS'S WORLD, TURNED BY THE OTHER CALLS ===== -/
section CY
variable {cA : Nat → ClassId} {X : Nat × Nat} {a : AX} {S : St} {F : Nat → Option Rat} {V V1 : Nat → Nat} {G G1 : gT} {B : Nat × Nat}
theorem CW.clearV (hC : CW cA X a S F V (G, B)) (hf : gfr (fun x => x = 31) G G1)
    (hob : G1 a.x = some (31, .inr (8, [.ref a.vs, .int (nI 0), .ref a.rs, .int (nI 0), .ref a.ws, .ref a.ca, .ref (a.fr 0), .ref (a.fr 1), .ref (a.fr 2), .ref (a.fr 3), .ref a.zr, .ref a.fo, .ref a.ha, .ref a.si]))) :
    CW cA X a (St.mk 0 S.v S.un 0 S.rc S.rp S.rh S.wn S.w) F V (G1, B) := by
  have hM : ∀ x, x < 31 → ¬ x = 31 := fun x hx => by omega
  refine ⟨hC.t_w hf hM, hob, hf _ _ hC.ca (show ¬ ((30 : Nat) = 31) by decide), hf _ _ hC.hd (show ¬ ((30 : Nat) = 31) by decide), hC.t_cd hf hM, hC.t_fr hf hM, CW.t_k hC.zr hf hM, CW.t_k hC.fo hf hM, CW.t_k hC.ha hf hM, CW.t_k hC.si hf hM, ?_, hC.t_rs hf (by decide), fun i hi => ?_, hf _ _ hC.we (show ¬ ((35 : Nat) = 31) by decide), hC.t_wa hf (by decide), hC.t_wb hf (by decide)⟩
  · obtain ⟨vf, h1, -⟩ := hC.t_vs hf hM (by decide)
    exact ⟨vf, h1, fun i hi => absurd hi (Nat.not_lt_zero i)⟩
  · obtain ⟨c, pf, hg, h1, h2, h3, -⟩ := hC.t_ro hf hM i hi (by omega) (by omega) (by omega)
    exact ⟨c, pf, hg, h1, h2, h3, fun q => absurd q (Nat.not_lt_zero i)⟩
theorem CW.rowV (hC : CW cA X a S F V (G, B)) (hr : S.rn < 8) (hf : gfr (fun x => x = 31 ∨ x = 40 + S.rn) G G1)
    (hob : G1 a.x = some (31, .inr (8, [.ref a.vs, .int (nI S.n), .ref a.rs, .int (nI (S.rn + 1)), .ref a.ws, .ref a.ca, .ref (a.fr 0), .ref (a.fr 1), .ref (a.fr 2), .ref (a.fr 3), .ref a.zr, .ref a.fo, .ref a.ha, .ref a.si])))
    (hro : G1 (a.ro S.rn) = some (40 + S.rn, .inr (5, [.ref (a.rp S.rn), .ref (a.rh S.rn), .int (nI 0)]))) :
    CW cA X a (S.sr (S.rn + 1) (fup S.rc S.rn 0) S.rp S.rh) F V (G1, B) := by
  have hM : ∀ x, x < 31 → ¬ (x = 31 ∨ x = 40 + S.rn) := fun x hx => by omega
  refine ⟨hC.t_w hf hM, hob, hf _ _ hC.ca (hM 30 (by decide)), hf _ _ hC.hd (hM 30 (by decide)), hC.t_cd hf hM, hC.t_fr hf hM, CW.t_k hC.zr hf hM, CW.t_k hC.fo hf hM, CW.t_k hC.ha hf hM, CW.t_k hC.si hf hM, hC.t_vs hf hM (by omega), hC.t_rs hf (by omega), fun i hi => ?_, hf _ _ hC.we (by show ¬ ((35 : Nat) = 31 ∨ (35 : Nat) = 40 + S.rn); omega), hC.t_wa hf (by omega), hC.t_wb hf (by omega)⟩
  by_cases e : i = S.rn
  · subst e
    obtain ⟨c, pf, hg, h1, h2, h3, -⟩ := hC.ro _ hi
    refine ⟨0, pf, hg, hro, hf _ _ h2 (by show ¬ (50 + S.rn = 31 ∨ 50 + S.rn = 40 + S.rn); omega), hf _ _ h3 (by show ¬ (60 + S.rn = 31 ∨ 60 + S.rn = 40 + S.rn); omega), fun _ => ⟨?_, fun j hj => absurd hj (Nat.not_lt_zero j)⟩⟩
    show 0 = fup S.rc S.rn 0 S.rn
    rw [fup_s]
  · obtain ⟨c, pf, hg, h1, h2, h3, h4⟩ := hC.t_ro hf hM i hi (by omega) (by omega) (by omega)
    refine ⟨c, pf, hg, h1, h2, h3, fun q => ?_⟩
    have q : i < S.rn + 1 := q
    obtain ⟨g1, g2⟩ := h4 (by omega)
    refine ⟨?_, g2⟩
    show c = fup S.rc S.rn 0 i
    rw [fup_n e]; exact g1
theorem CW.cornerV {r x y q k : Nat} {pf hg : Nat → Option Nat} (hC : CW cA X a S F V (G, B)) (hr : r < 8) (hrn : r < S.rn) (hf : gfr (fun x => x = 40 + r ∨ x = 50 + r ∨ x = 60 + r) G G1)
    (hold : ∀ j, j < S.rc r → ∃ h k : Nat, pf j = some h ∧ hg j = some k ∧ isV cA G h (S.v (S.rp r j)) (S.un (S.rp r j)) ∧ isV cA G k (S.v (S.rh r j)) (S.un (S.rh r j)))
    (hq : isV cA G q (S.v x) (S.un x)) (hk : isV cA G k (S.v y) (S.un y))
    (hro : G1 (a.ro r) = some (40 + r, .inr (5, [.ref (a.rp r), .ref (a.rh r), .int (nI (S.rc r + 1))])))
    (hrp : G1 (a.rp r) = some (50 + r, .inl (cA 2, 16, rfs (va_up pf (S.rc r) (some q))))) (hrh : G1 (a.rh r) = some (60 + r, .inl (cA 2, 16, rfs (va_up hg (S.rc r) (some k))))) :
    CW cA X a (S.sr S.rn (fup S.rc r (S.rc r + 1)) (fup S.rp r (fup (S.rp r) (S.rc r) x)) (fup S.rh r (fup (S.rh r) (S.rc r) y))) F V (G1, B) := by
  have hM : ∀ x, x < 31 → ¬ (x = 40 + r ∨ x = 50 + r ∨ x = 60 + r) := fun x hx => by omega
  have n30 : ¬ ((30 : Nat) = 40 + r ∨ (30 : Nat) = 50 + r ∨ (30 : Nat) = 60 + r) := by omega
  refine ⟨hC.t_w hf hM, hf _ _ hC.ob (by show ¬ ((31 : Nat) = 40 + r ∨ (31 : Nat) = 50 + r ∨ (31 : Nat) = 60 + r); omega), hf _ _ hC.ca n30, hf _ _ hC.hd n30, hC.t_cd hf hM, hC.t_fr hf hM, CW.t_k hC.zr hf hM, CW.t_k hC.fo hf hM, CW.t_k hC.ha hf hM, CW.t_k hC.si hf hM, hC.t_vs hf hM (by omega), hC.t_rs hf (by omega), fun i hi => ?_, hf _ _ hC.we (by show ¬ ((35 : Nat) = 40 + r ∨ (35 : Nat) = 50 + r ∨ (35 : Nat) = 60 + r); omega), hC.t_wa hf (by omega), hC.t_wb hf (by omega)⟩
  by_cases e : i = r
  · subst e
    refine ⟨_, _, _, hro, hrp, hrh, fun _ => ⟨?_, fun j hj => ?_⟩⟩
    · show S.rc i + 1 = fup S.rc i (S.rc i + 1) i
      rw [fup_s]
    · show ∃ h k9 : Nat, va_up pf (S.rc i) (some q) j = some h ∧ va_up hg (S.rc i) (some k) j = some k9 ∧ isV cA G1 h (S.v (fup S.rp i (fup (S.rp i) (S.rc i) x) i j)) (S.un (fup S.rp i (fup (S.rp i) (S.rc i) x) i j)) ∧ isV cA G1 k9 (S.v (fup S.rh i (fup (S.rh i) (S.rc i) y) i j)) (S.un (fup S.rh i (fup (S.rh i) (S.rc i) y) i j))
      rw [fup_s, fup_s]
      by_cases ej : j = S.rc i
      · subst ej
        rw [va_up_self, va_up_self, fup_s, fup_s]
        exact ⟨q, k, rfl, rfl, isV_fr hq hf n30, isV_fr hk hf n30⟩
      · rw [va_up_ne _ _ ej, va_up_ne _ _ ej, fup_n ej, fup_n ej]
        obtain ⟨h, k9, g1, g2, g3, g4⟩ := hold j (by omega)
        exact ⟨h, k9, g1, g2, isV_fr g3 hf n30, isV_fr g4 hf n30⟩
  · obtain ⟨c, pf', hg', h1, h2, h3, h4⟩ := hC.t_ro hf hM i hi (by omega) (by omega) (by omega)
    refine ⟨c, pf', hg', h1, h2, h3, fun q9 => ?_⟩
    obtain ⟨g1, g2⟩ := h4 q9
    refine ⟨?_, fun j hj => ?_⟩
    · show c = fup S.rc r (S.rc r + 1) i
      rw [fup_n e]; exact g1
    · show ∃ h k : Nat, pf' j = some h ∧ hg' j = some k ∧ isV cA G1 h (S.v (fup S.rp r (fup (S.rp r) (S.rc r) x) i j)) (S.un (fup S.rp r (fup (S.rp r) (S.rc r) x) i j)) ∧ isV cA G1 k (S.v (fup S.rh r (fup (S.rh r) (S.rc r) y) i j)) (S.un (fup S.rh r (fup (S.rh r) (S.rc r) y) i j))
      rw [fup_n e, fup_n e]
      exact g2 j hj
theorem CW.weightV {x : Nat} {ef : Nat → Int32} (hC : CW cA X a S F V (G, B)) (hf : gfr (fun x => x = 35 ∨ x = 36) G G1) (hold : ∀ i, i < S.wn → ef i = nI (S.w i))
    (hwe : G1 a.ws = some (35, .inr (7, [.ref a.we, .ref a.wc, .int (nI (S.wn + 1))]))) (hwa : G1 a.we = some (36, .inl (cA 0, 12, .inl (upd ef S.wn (nI x))))) :
    CW cA X a (S.sw (S.wn + 1) (fup S.w S.wn x)) F V (G1, B) := by
  have hM : ∀ x, x < 31 → ¬ (x = 35 ∨ x = 36) := fun x hx => by omega
  refine ⟨hC.t_w hf hM, hf _ _ hC.ob (show ¬ ((31 : Nat) = 35 ∨ (31 : Nat) = 36) by decide), hf _ _ hC.ca (show ¬ ((30 : Nat) = 35 ∨ (30 : Nat) = 36) by decide), hf _ _ hC.hd (show ¬ ((30 : Nat) = 35 ∨ (30 : Nat) = 36) by decide), hC.t_cd hf hM, hC.t_fr hf hM, CW.t_k hC.zr hf hM, CW.t_k hC.fo hf hM, CW.t_k hC.ha hf hM, CW.t_k hC.si hf hM, hC.t_vs hf hM (by decide), hC.t_rs hf (by decide), fun i hi => hC.t_ro hf hM i hi (by omega) (by omega) (by omega), hwe, ⟨_, hwa, fun i hi => ?_⟩, hC.t_wb hf (by decide)⟩
  have hi : i < S.wn + 1 := hi
  show upd ef S.wn (nI x) i = nI (fup S.w S.wn x i)
  by_cases e : i = S.wn
  · subst e
    rw [pk_us, fup_s]
  · rw [pk_un e, fup_n e]
    exact hold i (by omega)
theorem CW.noWeightsV (hC : CW cA X a S F V (G, B)) (hf : gfr (fun x => x = 35) G G1) (hwe : G1 a.ws = some (35, .inr (7, [.ref a.we, .ref a.wc, .int (nI 0)]))) :
    CW cA X a (S.sw 0 S.w) F V (G1, B) := by
  have hM : ∀ x, x < 31 → ¬ x = 35 := fun x hx => by omega
  refine ⟨hC.t_w hf hM, hf _ _ hC.ob (show ¬ ((31 : Nat) = 35) by decide), hf _ _ hC.ca (show ¬ ((30 : Nat) = 35) by decide), hf _ _ hC.hd (show ¬ ((30 : Nat) = 35) by decide), hC.t_cd hf hM, hC.t_fr hf hM, CW.t_k hC.zr hf hM, CW.t_k hC.fo hf hM, CW.t_k hC.ha hf hM, CW.t_k hC.si hf hM, hC.t_vs hf hM (by decide), hC.t_rs hf (by decide), fun i hi => hC.t_ro hf hM i hi (by omega) (by omega) (by omega), hwe, ?_, hC.t_wb hf (by decide)⟩
  obtain ⟨ef, h1, -⟩ := hC.t_wa hf (by decide)
  exact ⟨ef, h1, fun i hi => absurd hi (Nat.not_lt_zero i)⟩
theorem CW.shareV {cf : Nat → Int64} (hC : CW cA X a S F V (G, B)) (hf : gfr (fun x => x = 37) G G1) (hwb : G1 a.wc = some (37, .inl (cA 1, 12, .inr (.inl cf)))) : CW cA X a S F V (G1, B) := by
  have hM : ∀ x, x < 31 → ¬ x = 37 := fun x hx => by omega
  exact ⟨hC.t_w hf hM, hf _ _ hC.ob (show ¬ ((31 : Nat) = 37) by decide), hf _ _ hC.ca (show ¬ ((30 : Nat) = 37) by decide), hf _ _ hC.hd (show ¬ ((30 : Nat) = 37) by decide), hC.t_cd hf hM, hC.t_fr hf hM, CW.t_k hC.zr hf hM, CW.t_k hC.fo hf hM, CW.t_k hC.ha hf hM, CW.t_k hC.si hf hM, hC.t_vs hf hM (by decide), hC.t_rs hf (by decide), fun i hi => hC.t_ro hf hM i hi (by omega) (by omega) (by omega), hf _ _ hC.we (show ¬ ((35 : Nat) = 37) by decide), hC.t_wa hf (by decide), ⟨cf, hwb⟩⟩
end CY
/-- what cornerNotBefore answers -/
def cnb (S : St) (k : Nat) (x : Rat) : Int := match fg (fun j => S.v (S.rp k j)) x (S.rc k) with
  | none => -1
  | some j => if j = 0 ∧ x ≠ S.v (S.rp k 0) then -1 else (j : Int)
theorem cnb_bd (k : Nat) (x : Rat) (S : St) : -1 ≤ cnb S k x ∧ cnb S k x < (S.rc k : Int) + 1 := by
  unfold cnb
  split
  · omega
  · rename_i j hj
    have := (fg_some.mp hj).1
    split <;> omega
theorem sub_z {x y : Rat} (h : x - y = 0) : y = x := by
  have h2 := Rat.sub_add_cancel (a := x) (b := y)
  rw [h, Rat.zero_add] at h2
  exact h2
theorem cnb_of {S : St} {k j : Nat} {x : Rat} (h : cnb S k x = (j : Int)) : j < S.rc k ∧ (j = 0 → x = S.v (S.rp k 0)) := by
  unfold cnb at h
  split at h
  · omega
  · rename_i i hi
    have := (fg_some.mp hi).1
    split at h
    · omega
    · rename_i hn
      have e : i = j := by omega
      subst e
      exact ⟨this, fun z => Decidable.byContradiction fun q => hn ⟨z, q⟩⟩
theorem at_cnb {S : St} {k i : Nat} : (if S.rc k = 0 then ((0, -5, S) : An) else if S.un i ≠ S.un (S.rp k 0) then (0, -2, S) else match fg (fun j => S.v (S.rp k j)) (S.v i) (S.rc k) with
      | none => (0, -5, S)
      | some j => if j = 0 ∧ S.v i ≠ S.v (S.rp k 0) then (0, -5, S) else if S.n = 200 then (0, -3, S) else kp S (hgt S k (S.v i) j) (S.un (S.rh k 0))) =
    if S.rc k = 0 then (0, -5, S) else if S.un i ≠ S.un (S.rp k 0) then (0, -2, S) else if cnb S k (S.v i) < 0 then (0, -5, S) else if S.n = 200 then (0, -3, S) else kp S (hgt S k (S.v i) (cnb S k (S.v i)).toNat) (S.un (S.rh k 0)) := by
  split
  · rfl
  split
  · rfl
  · unfold cnb
    cases fg (fun j => S.v (S.rp k j)) (S.v i) (S.rc k) with
    | none => rfl
    | some j =>
      show (if j = 0 ∧ S.v i ≠ S.v (S.rp k 0) then ((0, -5, S) : An) else if S.n = 200 then (0, -3, S) else kp S (hgt S k (S.v i) j) (S.un (S.rh k 0))) = _
      by_cases z : j = 0 ∧ S.v i ≠ S.v (S.rp k 0)
      · simp only [if_pos z]; rfl
      · simp only [if_neg z]
        rw [if_neg (show ¬ (j : Int) < 0 by omega), Int.toNat_natCast]
theorem ars_none {f : Nat → Rat} {j : Nat} (h : ars f j = none) : ∀ {n : Nat}, j ≤ n → ars f n = none
  | 0, hj => by
    have : j = 0 := by omega
    subst this; exact h
  | n + 1, hj => by
    by_cases e : j = n + 1
    · subst e; exact h
    · have := ars_none h (n := n) (by omega)
      rw [ars, this]
theorem z_lng : ¬ lng 0 := by
  unfold lng
  rw [m900_B]
  intro h
  have := pw_pos 100
  have h1 : (1 : Nat) < 1000000000 ^ 100 := Nat.lt_of_lt_of_le (by decide) (Nat.pow_le_pow_right (n := 1000000000) (by decide) (show 1 ≤ 100 by decide))
  rcases h with h | h
  · have h : 1000000000 ^ 100 ≤ 0 := h
    omega
  · have h : 1000000000 ^ 100 ≤ 1 := h
    omega
