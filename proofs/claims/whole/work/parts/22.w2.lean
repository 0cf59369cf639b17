/-! ===== LEVEL 2: the working numbers by their tags 0 .. 18, their rooms, their values ===== -/
theorem gMet_mono {l : Launch} {y : MethodName} {ws : List Cond} {fr lc : Nat} {D : va_G} {cl : List vw_C} {tys : List (ClassId × FieldType)} {lo MC MS : Nat} {av : List Value} {G : gT} {B : Nat × Nat} {Qc Qd : Nat → Array Value → State → Outcome → State → Prop} (h : gMet l y ws fr lc D cl tys lo MC MS av G B Qc) (hi : ∀ ss a st o t, Qc ss a st o t → Qd ss a st o t) : gMet l y ws fr lc D cl tys lo MC MS av G B Qd := by
  intro sz ss p e h1 h2 h3 s m args below h4 h5 h6 h7
  obtain ⟨n, o, q1, q2, q3, q4, q5⟩ := h sz ss p e h1 h2 h3 s m args below h4 h5 h6 h7
  exact ⟨n, o, q1, q2, q3, hi _ _ _ _ _ q4, q5⟩
theorem gMet_v {l : Launch} {y : MethodName} {ws : List Cond} {fr lc : Nat} {D : va_G} {cl : List vw_C} {tys : List (ClassId × FieldType)} {lo MC MS : Nat} {av : List Value} {G : gT} {B : Nat × Nat} {P P' : gT × Nat × Nat → Prop} (h : gMet l y ws fr lc D cl tys lo MC MS av G B (gQv D cl lo P)) (hi : ∀ u, P u → P' u) : gMet l y ws fr lc D cl tys lo MC MS av G B (gQv D cl lo P') :=
  gMet_mono h (fun _ _ _ _ _ ⟨⟨u, q1, q2, q3⟩, q4⟩ => ⟨⟨u, q1, hi u q2, q3⟩, q4⟩)
theorem gMet_i {l : Launch} {y : MethodName} {ws : List Cond} {fr lc : Nat} {D : va_G} {cl : List vw_C} {tys : List (ClassId × FieldType)} {lo MC MS : Nat} {av : List Value} {G : gT} {B : Nat × Nat} {P P' : Int32 → gT × Nat × Nat → Prop} (h : gMet l y ws fr lc D cl tys lo MC MS av G B (gQi D cl lo P)) (hi : ∀ r u, P r u → P' r u) : gMet l y ws fr lc D cl tys lo MC MS av G B (gQi D cl lo P') :=
  gMet_mono h (fun _ _ _ _ _ ⟨⟨r, u, q1, q2, q3⟩, q4⟩ => ⟨⟨r, u, q1, hi r u q2, q3⟩, q4⟩)
theorem gMet_l {l : Launch} {y : MethodName} {ws : List Cond} {fr lc : Nat} {D : va_G} {cl : List vw_C} {tys : List (ClassId × FieldType)} {lo MC MS : Nat} {av : List Value} {G : gT} {B : Nat × Nat} {P P' : Int64 → gT × Nat × Nat → Prop} (h : gMet l y ws fr lc D cl tys lo MC MS av G B (gQl D cl lo P)) (hi : ∀ r u, P r u → P' r u) : gMet l y ws fr lc D cl tys lo MC MS av G B (gQl D cl lo P') :=
  gMet_mono h (fun _ _ _ _ _ ⟨⟨r, u, q1, q2, q3⟩, q4⟩ => ⟨⟨r, u, q1, hi r u q2, q3⟩, q4⟩)
theorem gMet_r {l : Launch} {y : MethodName} {ws : List Cond} {fr lc : Nat} {D : va_G} {cl : List vw_C} {tys : List (ClassId × FieldType)} {lo MC MS : Nat} {av : List Value} {G : gT} {B : Nat × Nat} {P P' : Nat → gT × Nat × Nat → Prop} (h : gMet l y ws fr lc D cl tys lo MC MS av G B (gQr D cl lo P)) (hi : ∀ r u, P r u → P' r u) : gMet l y ws fr lc D cl tys lo MC MS av G B (gQr D cl lo P') :=
  gMet_mono h (fun _ _ _ _ _ ⟨⟨u, r, q1, q2, q3, q5⟩, q4⟩ => ⟨⟨u, r, q1, q2, hi r u q3, q5⟩, q4⟩)
/-- the Natural at h, of the tag t, with room for κ limbs, is v -/
def isN (cA : Nat → ClassId) (G : gT) (κ t h v : Nat) : Prop := ∃ (a z : Nat) (f : Nat → Int32), G h = some (t, .inr (4, [.ref a, .int (nI z)])) ∧ G a = some (t, .inl (cA 0, κ, .inl f)) ∧ z ≤ κ ∧ isD f z v
/-- the working numbers, and what may still be made -/
def w2 (cA : Nat → ClassId) (X : Nat × Nat) (ad V : Nat → Nat) (u : gT × Nat × Nat) : Prop := ∃ κ : Nat → Nat, (∀ t, t < 19 → isN cA u.1 (κ t) t (ad t) (V t) ∧ κ t ≤ 3000) ∧ u.2.1 + 57000 ≤ X.1 + ks κ 19 ∧ u.2.2 + 114000 ≤ X.2 + 2 * ks κ 19
/-- .. only those of M have turned -/
def w2s (cA : Nat → ClassId) (X : Nat × Nat) (ad : Nat → Nat) (M : Nat → Prop) (G : gT) (V V1 : Nat → Nat) (u : gT × Nat × Nat) : Prop := w2 cA X ad V1 u ∧ (∀ x, ¬ M x → V1 x = V x) ∧ gfr M G u.1
/-- a number that may be read: its tag is of P -/
def rd (cA : Nat → ClassId) (G : gT) (P : Nat → Prop) (h v : Nat) : Prop := ∃ t κ : Nat, P t ∧ κ ≤ 3000 ∧ isN cA G κ t h v
section W2
variable {cA : Nat → ClassId} {X : Nat × Nat} {ad V V1 V2 : Nat → Nat} {G G1 G2 : gT} {B B1 : Nat × Nat} {u : gT × Nat × Nat} {M M1 P P1 : Nat → Prop} {κ : Nat → Nat}
theorem isN_fr {c t h v : Nat} (hn : isN cA G c t h v) (hf : gfr M G G1) (hM : ¬ M t) : isN cA G1 c t h v := by
  obtain ⟨a, z, f, h1, h2, h3, h4⟩ := hn
  exact ⟨a, z, f, hf _ _ h1 hM, hf _ _ h2 hM, h3, h4⟩
theorem rd_fr {h v : Nat} (hr : rd cA G P h v) (hf : gfr M G G1) (hM : ∀ t, P t → ¬ M t) : rd cA G1 P h v := by
  obtain ⟨t, c, h1, h2, h3⟩ := hr
  exact ⟨t, c, h1, h2, isN_fr h3 hf (hM t h1)⟩
theorem rd_mono {h v : Nat} (hr : rd cA G P h v) (hM : ∀ t, P t → P1 t) : rd cA G P1 h v := by
  obtain ⟨t, c, h1, h2, h3⟩ := hr
  exact ⟨t, c, hM t h1, h2, h3⟩
theorem rd_w2 {t v : Nat} (hW : w2 cA X ad V u) (ht : t < 19) (hP : P t) (hv : V t = v) : rd cA u.1 P (ad t) v := by
  obtain ⟨k, h1, -, -⟩ := hW
  exact ⟨t, k t, hP, (h1 t ht).2, hv ▸ (h1 t ht).1⟩
theorem rd_w2' {t v : Nat} (hW : w2 cA X ad V (G, B)) (ht : t < 19) (hP : P t) (hv : V t = v) : rd cA G P (ad t) v := rd_w2 hW ht hP hv
theorem w2s_rf (hW : w2 cA X ad V u) : w2s cA X ad M u.1 V V u := ⟨hW, fun _ _ => rfl, gfr_rf⟩
theorem w2s_tr {u1 : gT × Nat × Nat} (h1 : w2s cA X ad M G V V1 u1) (h2 : w2s cA X ad M1 u1.1 V1 V2 u) : w2s cA X ad (fun x => M x ∨ M1 x) G V V2 u :=
  ⟨h2.1, fun x hx => (h2.2.1 x (fun z => hx (Or.inr z))).trans (h1.2.1 x (fun z => hx (Or.inl z))), gfr_tr h1.2.2 h2.2.2⟩
theorem w2s_mono (h : w2s cA X ad M G V V1 u) (hM : ∀ x, M x → M1 x) : w2s cA X ad M1 G V V1 u := ⟨h.1, fun x hx => h.2.1 x (fun z => hx (hM x z)), gfr_mono h.2.2 hM⟩
theorem ks_cap {n C : Nat} : ∀ {m : Nat}, (∀ t, t < m → κ t ≤ C) → n < m → ks κ m + C ≤ m * C + κ n
  | 0, _, h => absurd h (Nat.not_lt_zero _)
  | m + 1, hc, hn => by
    rw [Nat.succ_mul]
    simp only [ks]
    have h0 := hc m (Nat.lt_succ_self m)
    by_cases e : n = m
    · subst e
      have : ∀ j, j ≤ n → ks κ j ≤ j * C := by
        intro j
        induction j with
        | zero => intro _; simp [ks]
        | succ j ih =>
          intro hj
          have := ih (by omega)
          have := hc j (by omega)
          rw [Nat.succ_mul]
          simp only [ks]
          omega
      have := this n (Nat.le_refl _)
      omega
    · have := ks_cap (m := m) (fun t ht => hc t (by omega)) (show n < m by omega)
      omega
theorem ks_1 (h : ∀ t, t < 19 → isN cA G (κ t) t (ad t) (V t) ∧ κ t ≤ 3000) {t : Nat} (ht : t < 19) : ks κ 19 + 3000 ≤ 57000 + κ t := ks_cap (C := 3000) (fun t ht => (h t ht).2) ht
theorem ks_3 (h : ∀ t, t < 19 → isN cA G (κ t) t (ad t) (V t) ∧ κ t ≤ 3000) : ks κ 19 + 9000 ≤ 57000 + κ 0 + κ 1 + κ 2 := by
  simp only [ks]
  have h3 := (h 3 (by decide)).2
  have h4 := (h 4 (by decide)).2
  have h5 := (h 5 (by decide)).2
  have h6 := (h 6 (by decide)).2
  have h7 := (h 7 (by decide)).2
  have h8 := (h 8 (by decide)).2
  have h9 := (h 9 (by decide)).2
  have h10 := (h 10 (by decide)).2
  have h11 := (h 11 (by decide)).2
  have h12 := (h 12 (by decide)).2
  have h13 := (h 13 (by decide)).2
  have h14 := (h 14 (by decide)).2
  have h15 := (h 15 (by decide)).2
  have h16 := (h 16 (by decide)).2
  have h17 := (h 17 (by decide)).2
  have h18 := (h 18 (by decide)).2
  omega
theorem gcap_3 {c k : Nat} (h1 : c ≤ 3000) (h2 : k ≤ 1500) : gcap c k ≤ 3000 := by
  unfold gcap
  split <;> omega
theorem w2_le (hW : w2 cA X ad V (G, B)) : B.1 ≤ X.1 ∧ B.2 ≤ X.2 := by
  obtain ⟨k, h1, h2, h3⟩ := hW
  have := ks_1 h1 (t := 0) (by decide)
  have := (h1 0 (by decide)).2
  have h2 : B.1 + 57000 ≤ X.1 + ks k 19 := h2
  have h3 : B.2 + 114000 ≤ X.2 + 2 * ks k 19 := h3
  omega
/-- one number has turned -/
theorem w2_set {t k v : Nat} (hκ : ∀ t, t < 19 → isN cA G (κ t) t (ad t) (V t) ∧ κ t ≤ 3000) (hb1 : B.1 + 57000 ≤ X.1 + ks κ 19) (hb2 : B.2 + 114000 ≤ X.2 + 2 * ks κ 19) (ht : t < 19) (hk : k ≤ 1500) (h : nres cA G B t (ad t) (κ t) k v u) : ∃ V1, w2s cA X ad (fun x => x = t) G V V1 u ∧ V1 t = v := by
  obtain ⟨a2, z2, f2, h1, h2, h3, h4, h5, h6, h7⟩ := h
  refine ⟨va_up V t v, ⟨⟨va_up κ t (gcap (κ t) k), fun x hx => ?_, ?_, ?_⟩, fun x hx => va_up_ne _ _ hx, h5⟩, va_up_self _ _ _⟩
  · by_cases e : x = t
    · subst e
      rw [va_up_self, va_up_self]
      exact ⟨⟨a2, z2, f2, h1, h2, Nat.le_trans h3 (gcap_ge _ _).2, h4⟩, gcap_3 (hκ x hx).2 hk⟩
    · rw [va_up_ne _ _ e, va_up_ne _ _ e]
      exact ⟨isN_fr (hκ x hx).1 h5 e, (hκ x hx).2⟩
  · have := ks_up (κ := κ) (x := gcap (κ t) k) ht
    omega
  · have := ks_up (κ := κ) (x := gcap (κ t) k) ht
    omega
/-- the three of a division have turned -/
theorem w2_three {c0 c1 c2 v0 v1 v2 : Nat} (hκ : ∀ t, t < 19 → isN cA G (κ t) t (ad t) (V t) ∧ κ t ≤ 3000) (hb1 : B.1 + 57000 ≤ X.1 + ks κ 19) (hb2 : B.2 + 114000 ≤ X.2 + 2 * ks κ 19) (hf : gfr (fun x => x < 3) G u.1) (i0 : isN cA u.1 c0 0 (ad 0) v0) (i1 : isN cA u.1 c1 1 (ad 1) v1) (i2 : isN cA u.1 c2 2 (ad 2) v2) (hc0 : c0 ≤ 3000) (hc1 : c1 ≤ 3000) (hc2 : c2 ≤ 3000) (e1 : u.2.1 + κ 0 + κ 1 + κ 2 ≤ B.1 + c0 + c1 + c2) (e2 : u.2.2 + 2 * κ 0 + 2 * κ 1 + 2 * κ 2 ≤ B.2 + 2 * c0 + 2 * c1 + 2 * c2) : ∃ V1, w2s cA X ad (fun x => x < 3) G V V1 u ∧ V1 0 = v0 ∧ V1 1 = v1 := by
  refine ⟨va_up (va_up (va_up V 2 v2) 1 v1) 0 v0, ⟨⟨va_up (va_up (va_up κ 2 c2) 1 c1) 0 c0, fun x hx => ?_, ?_, ?_⟩, fun x hx => ?_, hf⟩, rfl, rfl⟩
  · by_cases q0 : x = 0
    · subst q0
      exact ⟨i0, hc0⟩
    · rw [va_up_ne _ _ q0, va_up_ne _ _ q0]
      by_cases q1 : x = 1
      · subst q1
        exact ⟨i1, hc1⟩
      · rw [va_up_ne _ _ q1, va_up_ne _ _ q1]
        by_cases q2 : x = 2
        · subst q2
          exact ⟨i2, hc2⟩
        · rw [va_up_ne _ _ q2, va_up_ne _ _ q2]
          exact ⟨isN_fr (hκ x hx).1 hf (by omega), (hκ x hx).2⟩
  · have p2 := ks_up (κ := κ) (x := c2) (t := 2) (n := 19) (by decide)
    have p1 := ks_up (κ := va_up κ 2 c2) (x := c1) (t := 1) (n := 19) (by decide)
    have p0 := ks_up (κ := va_up (va_up κ 2 c2) 1 c1) (x := c0) (t := 0) (n := 19) (by decide)
    have r1 : va_up κ 2 c2 1 = κ 1 := va_up_ne _ _ (by decide)
    have r0 : va_up (va_up κ 2 c2) 1 c1 0 = κ 0 := (va_up_ne _ _ (by decide)).trans (va_up_ne _ _ (by decide))
    rw [r1] at p1
    rw [r0] at p0
    omega
  · have p2 := ks_up (κ := κ) (x := c2) (t := 2) (n := 19) (by decide)
    have p1 := ks_up (κ := va_up κ 2 c2) (x := c1) (t := 1) (n := 19) (by decide)
    have p0 := ks_up (κ := va_up (va_up κ 2 c2) 1 c1) (x := c0) (t := 0) (n := 19) (by decide)
    have r1 : va_up κ 2 c2 1 = κ 1 := va_up_ne _ _ (by decide)
    have r0 : va_up (va_up κ 2 c2) 1 c1 0 = κ 0 := (va_up_ne _ _ (by decide)).trans (va_up_ne _ _ (by decide))
    rw [r1] at p1
    rw [r0] at p0
    omega
  · rw [va_up_ne _ _ (by omega), va_up_ne _ _ (by omega), va_up_ne _ _ (by omega)]
theorem nres_of2 {t h cap k v : Nat} (hn : nres2 cA G B t h cap k v u) : nres cA G B t h cap k v u := by
  obtain ⟨a2, z2, f2, h1, h2, h3, h4, h5, h6, h7, h8, h9⟩ := hn
  exact ⟨a2, z2, f2, h1, h2, h3, h4, h7, h8, h9⟩
end W2
