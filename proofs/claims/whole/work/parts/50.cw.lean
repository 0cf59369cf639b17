/-! ===== THE CLASS'S WORLD ===== -/
abbrev iI (z : Int) : Int32 := Int32.ofInt z
/-- the addresses that stay -/
def AX : Type := Nat × Nat × Nat × Nat × Nat × Nat × Nat × Nat × Nat × Nat × Nat × Nat × Nat × (Nat → Nat) × (Nat → Nat) × (Nat → Nat) × (Nat → Nat) × (Nat → Nat)
def AX.mk (x vs rs ws ca hd hc zr fo ha si we wc : Nat) (ad fr ro rp rh : Nat → Nat) : AX := (x, vs, rs, ws, ca, hd, hc, zr, fo, ha, si, we, wc, ad, fr, ro, rp, rh)
def AX.x (a : AX) : Nat := a.1
def AX.vs (a : AX) : Nat := a.2.1
def AX.rs (a : AX) : Nat := a.2.2.1
def AX.ws (a : AX) : Nat := a.2.2.2.1
def AX.ca (a : AX) : Nat := a.2.2.2.2.1
def AX.hd (a : AX) : Nat := a.2.2.2.2.2.1
def AX.hc (a : AX) : Nat := a.2.2.2.2.2.2.1
def AX.zr (a : AX) : Nat := a.2.2.2.2.2.2.2.1
def AX.fo (a : AX) : Nat := a.2.2.2.2.2.2.2.2.1
def AX.ha (a : AX) : Nat := a.2.2.2.2.2.2.2.2.2.1
def AX.si (a : AX) : Nat := a.2.2.2.2.2.2.2.2.2.2.1
def AX.we (a : AX) : Nat := a.2.2.2.2.2.2.2.2.2.2.2.1
def AX.wc (a : AX) : Nat := a.2.2.2.2.2.2.2.2.2.2.2.2.1
def AX.ad (a : AX) : Nat → Nat := a.2.2.2.2.2.2.2.2.2.2.2.2.2.1
def AX.fr (a : AX) : Nat → Nat := a.2.2.2.2.2.2.2.2.2.2.2.2.2.2.1
def AX.ro (a : AX) : Nat → Nat := a.2.2.2.2.2.2.2.2.2.2.2.2.2.2.2.1
def AX.rp (a : AX) : Nat → Nat := a.2.2.2.2.2.2.2.2.2.2.2.2.2.2.2.2.1
def AX.rh (a : AX) : Nat → Nat := a.2.2.2.2.2.2.2.2.2.2.2.2.2.2.2.2.2
abbrev kq (cA : Nat → ClassId) (G : gT) (h : Nat) (r : Rat) : Prop := rf cA G (fun x => x = 30) h r.num r.den
/-- a value that is kept -/
def isV (cA : Nat → ClassId) (G : gT) (h : Nat) (r : Rat) (u : Int) : Prop := ∃ hf : Nat, G h = some (30, .inr (6, [.ref hf, .int (iI u)])) ∧ kq cA G hf r
abbrev rfs (f : Nat → Option Nat) : (Nat → Int32) ⊕ (Nat → Int64) ⊕ (Nat → UInt32) ⊕ (Nat → UInt64) ⊕ (Nat → Option Nat) := .inr (.inr (.inr (.inr f)))
def CW (cA : Nat → ClassId) (X : Nat × Nat) (a : AX) (S : St) (F : Nat → Option Rat) (V : Nat → Nat) (u : gT × Nat × Nat) : Prop := (w2 cA X a.ad V u) ∧
  (u.1 a.x = some (31, .inr (8, [.ref a.vs, .int (nI S.n), .ref a.rs, .int (nI S.rn), .ref a.ws, .ref a.ca, .ref (a.fr 0), .ref (a.fr 1), .ref (a.fr 2), .ref (a.fr 3), .ref a.zr, .ref a.fo, .ref a.ha, .ref a.si]))) ∧
  (u.1 a.ca = some (30, .inr (0, [.ref a.hd, .ref a.hc, .ref (a.ad 5), .ref (a.ad 6), .ref (a.ad 7), .ref (a.ad 8), .ref (a.ad 9), .ref (a.ad 10)]))) ∧
  (u.1 a.hd = some (30, .inr (2, [.ref (a.ad 0), .ref (a.ad 1), .ref (a.ad 2)]))) ∧
  (cdO a.ad a.hd a.hc u.1) ∧
  (∀ i, i < 4 → ∃ sg : Int32, u.1 (a.fr i) = some (20 + i, .inr (3, [.int sg, .ref (a.ad (11 + 2 * i)), .ref (a.ad (12 + 2 * i))])) ∧ ∀ r : Rat, F i = some r → sg = sgI r.num ∧ V (11 + 2 * i) = r.num.natAbs ∧ V (12 + 2 * i) = r.den) ∧
  (kq cA u.1 a.zr 0) ∧
  (kq cA u.1 a.fo 4) ∧
  (kq cA u.1 a.ha (mkRat 1 2)) ∧
  (kq cA u.1 a.si (mkRat 1 6)) ∧
  (∃ vf : Nat → Option Nat, u.1 a.vs = some (32, .inl (cA 2, 200, rfs vf)) ∧ ∀ i, i < S.n → ∃ h : Nat, vf i = some h ∧ isV cA u.1 h (S.v i) (S.un i)) ∧
  (∃ rf : Nat → Option Nat, u.1 a.rs = some (33, .inl (cA 3, 8, rfs rf)) ∧ ∀ i, i < 8 → rf i = some (a.ro i)) ∧
  (∀ i, i < 8 → ∃ (c : Nat) (pf hf : Nat → Option Nat), u.1 (a.ro i) = some (40 + i, .inr (5, [.ref (a.rp i), .ref (a.rh i), .int (nI c)])) ∧ u.1 (a.rp i) = some (50 + i, .inl (cA 2, 16, rfs pf)) ∧ u.1 (a.rh i) = some (60 + i, .inl (cA 2, 16, rfs hf)) ∧
    (i < S.rn → c = S.rc i ∧ ∀ j, j < c → ∃ h k : Nat, pf j = some h ∧ hf j = some k ∧ isV cA u.1 h (S.v (S.rp i j)) (S.un (S.rp i j)) ∧ isV cA u.1 k (S.v (S.rh i j)) (S.un (S.rh i j)))) ∧
  (u.1 a.ws = some (35, .inr (7, [.ref a.we, .ref a.wc, .int (nI S.wn)]))) ∧
  (∃ ef : Nat → Int32, u.1 a.we = some (36, .inl (cA 0, 12, .inl ef)) ∧ ∀ i, i < S.wn → ef i = nI (S.w i)) ∧
  (∃ cf : Nat → Int64, u.1 a.wc = some (37, .inl (cA 1, 12, .inr (.inl cf))))
theorem CW.w {cA : Nat → ClassId} {X : Nat × Nat} {a : AX} {S : St} {F : Nat → Option Rat} {V : Nat → Nat} {u : gT × Nat × Nat} (h : CW cA X a S F V u) : w2 cA X a.ad V u := h.1
theorem CW.ob {cA : Nat → ClassId} {X : Nat × Nat} {a : AX} {S : St} {F : Nat → Option Rat} {V : Nat → Nat} {u : gT × Nat × Nat} (h : CW cA X a S F V u) : u.1 a.x = some (31, .inr (8, [.ref a.vs, .int (nI S.n), .ref a.rs, .int (nI S.rn), .ref a.ws, .ref a.ca, .ref (a.fr 0), .ref (a.fr 1), .ref (a.fr 2), .ref (a.fr 3), .ref a.zr, .ref a.fo, .ref a.ha, .ref a.si])) := h.2.1
theorem CW.ca {cA : Nat → ClassId} {X : Nat × Nat} {a : AX} {S : St} {F : Nat → Option Rat} {V : Nat → Nat} {u : gT × Nat × Nat} (h : CW cA X a S F V u) : u.1 a.ca = some (30, .inr (0, [.ref a.hd, .ref a.hc, .ref (a.ad 5), .ref (a.ad 6), .ref (a.ad 7), .ref (a.ad 8), .ref (a.ad 9), .ref (a.ad 10)])) := h.2.2.1
theorem CW.hd {cA : Nat → ClassId} {X : Nat × Nat} {a : AX} {S : St} {F : Nat → Option Rat} {V : Nat → Nat} {u : gT × Nat × Nat} (h : CW cA X a S F V u) : u.1 a.hd = some (30, .inr (2, [.ref (a.ad 0), .ref (a.ad 1), .ref (a.ad 2)])) := h.2.2.2.1
theorem CW.cd {cA : Nat → ClassId} {X : Nat × Nat} {a : AX} {S : St} {F : Nat → Option Rat} {V : Nat → Nat} {u : gT × Nat × Nat} (h : CW cA X a S F V u) : cdO a.ad a.hd a.hc u.1 := h.2.2.2.2.1
theorem CW.fr {cA : Nat → ClassId} {X : Nat × Nat} {a : AX} {S : St} {F : Nat → Option Rat} {V : Nat → Nat} {u : gT × Nat × Nat} (h : CW cA X a S F V u) : ∀ i, i < 4 → ∃ sg : Int32, u.1 (a.fr i) = some (20 + i, .inr (3, [.int sg, .ref (a.ad (11 + 2 * i)), .ref (a.ad (12 + 2 * i))])) ∧ ∀ r : Rat, F i = some r → sg = sgI r.num ∧ V (11 + 2 * i) = r.num.natAbs ∧ V (12 + 2 * i) = r.den := h.2.2.2.2.2.1
theorem CW.zr {cA : Nat → ClassId} {X : Nat × Nat} {a : AX} {S : St} {F : Nat → Option Rat} {V : Nat → Nat} {u : gT × Nat × Nat} (h : CW cA X a S F V u) : kq cA u.1 a.zr 0 := h.2.2.2.2.2.2.1
theorem CW.fo {cA : Nat → ClassId} {X : Nat × Nat} {a : AX} {S : St} {F : Nat → Option Rat} {V : Nat → Nat} {u : gT × Nat × Nat} (h : CW cA X a S F V u) : kq cA u.1 a.fo 4 := h.2.2.2.2.2.2.2.1
theorem CW.ha {cA : Nat → ClassId} {X : Nat × Nat} {a : AX} {S : St} {F : Nat → Option Rat} {V : Nat → Nat} {u : gT × Nat × Nat} (h : CW cA X a S F V u) : kq cA u.1 a.ha (mkRat 1 2) := h.2.2.2.2.2.2.2.2.1
theorem CW.si {cA : Nat → ClassId} {X : Nat × Nat} {a : AX} {S : St} {F : Nat → Option Rat} {V : Nat → Nat} {u : gT × Nat × Nat} (h : CW cA X a S F V u) : kq cA u.1 a.si (mkRat 1 6) := h.2.2.2.2.2.2.2.2.2.1
theorem CW.vs {cA : Nat → ClassId} {X : Nat × Nat} {a : AX} {S : St} {F : Nat → Option Rat} {V : Nat → Nat} {u : gT × Nat × Nat} (h : CW cA X a S F V u) : ∃ vf : Nat → Option Nat, u.1 a.vs = some (32, .inl (cA 2, 200, rfs vf)) ∧ ∀ i, i < S.n → ∃ h : Nat, vf i = some h ∧ isV cA u.1 h (S.v i) (S.un i) := h.2.2.2.2.2.2.2.2.2.2.1
theorem CW.rs {cA : Nat → ClassId} {X : Nat × Nat} {a : AX} {S : St} {F : Nat → Option Rat} {V : Nat → Nat} {u : gT × Nat × Nat} (h : CW cA X a S F V u) : ∃ rf : Nat → Option Nat, u.1 a.rs = some (33, .inl (cA 3, 8, rfs rf)) ∧ ∀ i, i < 8 → rf i = some (a.ro i) := h.2.2.2.2.2.2.2.2.2.2.2.1
theorem CW.ro {cA : Nat → ClassId} {X : Nat × Nat} {a : AX} {S : St} {F : Nat → Option Rat} {V : Nat → Nat} {u : gT × Nat × Nat} (h : CW cA X a S F V u) : ∀ i, i < 8 → ∃ (c : Nat) (pf hf : Nat → Option Nat), u.1 (a.ro i) = some (40 + i, .inr (5, [.ref (a.rp i), .ref (a.rh i), .int (nI c)])) ∧ u.1 (a.rp i) = some (50 + i, .inl (cA 2, 16, rfs pf)) ∧ u.1 (a.rh i) = some (60 + i, .inl (cA 2, 16, rfs hf)) ∧
    (i < S.rn → c = S.rc i ∧ ∀ j, j < c → ∃ h k : Nat, pf j = some h ∧ hf j = some k ∧ isV cA u.1 h (S.v (S.rp i j)) (S.un (S.rp i j)) ∧ isV cA u.1 k (S.v (S.rh i j)) (S.un (S.rh i j))) := h.2.2.2.2.2.2.2.2.2.2.2.2.1
theorem CW.we {cA : Nat → ClassId} {X : Nat × Nat} {a : AX} {S : St} {F : Nat → Option Rat} {V : Nat → Nat} {u : gT × Nat × Nat} (h : CW cA X a S F V u) : u.1 a.ws = some (35, .inr (7, [.ref a.we, .ref a.wc, .int (nI S.wn)])) := h.2.2.2.2.2.2.2.2.2.2.2.2.2.1
theorem CW.wa {cA : Nat → ClassId} {X : Nat × Nat} {a : AX} {S : St} {F : Nat → Option Rat} {V : Nat → Nat} {u : gT × Nat × Nat} (h : CW cA X a S F V u) : ∃ ef : Nat → Int32, u.1 a.we = some (36, .inl (cA 0, 12, .inl ef)) ∧ ∀ i, i < S.wn → ef i = nI (S.w i) := h.2.2.2.2.2.2.2.2.2.2.2.2.2.2.1
theorem CW.wb {cA : Nat → ClassId} {X : Nat × Nat} {a : AX} {S : St} {F : Nat → Option Rat} {V : Nat → Nat} {u : gT × Nat × Nat} (h : CW cA X a S F V u) : ∃ cf : Nat → Int64, u.1 a.wc = some (37, .inl (cA 1, 12, .inr (.inl cf))) := h.2.2.2.2.2.2.2.2.2.2.2.2.2.2.2
section CWS
variable {cA : Nat → ClassId} {X : Nat × Nat} {a : AX} {S : St} {F : Nat → Option Rat} {V V1 : Nat → Nat} {G : gT} {B : Nat × Nat} {u u1 : gT × Nat × Nat} {M : Nat → Prop}
theorem isV_fr {G G1 : gT} {h : Nat} {r : Rat} {z : Int} (hv : isV cA G h r z) (hf : gfr M G G1) (hM : ¬ M 30) : isV cA G1 h r z := by
  obtain ⟨q, h1, h2⟩ := hv
  exact ⟨q, hf _ _ h1 hM, rf_fr h2 hf (fun t ht => by subst ht; exact hM)⟩
theorem isV_ex {G G1 : gT} {h : Nat} {r : Rat} {z : Int} (hv : isV cA G h r z) (hf : gex (fun _ => False) G G1) : isV cA G1 h r z := isV_fr (M := fun _ => False) hv (gfr_ex hf) (fun z => z)
/-- the working numbers have turned: all else is as it was -/
theorem CW.turn {F1 : Nat → Option Rat} (hC : CW cA X a S F V u) (hw : w2 cA X a.ad V1 u1) (hf : gfr M u.1 u1.1) (hM : ∀ x, M x → x < 24) (hcd : cdO a.ad a.hd a.hc u1.1)
    (hfr : ∀ i, i < 4 → ∃ sg : Int32, u1.1 (a.fr i) = some (20 + i, .inr (3, [.int sg, .ref (a.ad (11 + 2 * i)), .ref (a.ad (12 + 2 * i))])) ∧ ∀ r : Rat, F1 i = some r → sg = sgI r.num ∧ V1 (11 + 2 * i) = r.num.natAbs ∧ V1 (12 + 2 * i) = r.den) : CW cA X a S F1 V1 u1 := by
  have n30 : ¬ M 30 := fun z => absurd (hM 30 z) (by decide)
  have kf : ∀ {h : Nat} {r : Rat}, kq cA u.1 h r → kq cA u1.1 h r := fun h => rf_fr h hf (fun t ht => by subst ht; exact n30)
  refine ⟨hw, hf _ _ hC.ob (fun z => absurd (hM 31 z) (by decide)), hf _ _ hC.ca n30, hf _ _ hC.hd n30, hcd, hfr, kf hC.zr, kf hC.fo, kf hC.ha, kf hC.si, ?_, ?_, ?_, hf _ _ hC.we (fun z => absurd (hM 35 z) (by decide)), ?_, ?_⟩
  · obtain ⟨vf, h1, h2⟩ := hC.vs
    exact ⟨vf, hf _ _ h1 (fun z => absurd (hM 32 z) (by decide)), fun i hi => by obtain ⟨h, q1, q2⟩ := h2 i hi; exact ⟨h, q1, isV_fr q2 hf n30⟩⟩
  · obtain ⟨rf, h1, h2⟩ := hC.rs
    exact ⟨rf, hf _ _ h1 (fun z => absurd (hM 33 z) (by decide)), h2⟩
  · intro i hi
    obtain ⟨c, pf, hg, h1, h2, h3, h4⟩ := hC.ro i hi
    refine ⟨c, pf, hg, hf _ _ h1 (fun z => absurd (hM (40 + i) z) (by omega)), hf _ _ h2 (fun z => absurd (hM (50 + i) z) (by omega)), hf _ _ h3 (fun z => absurd (hM (60 + i) z) (by omega)), fun q => ⟨(h4 q).1, fun j hj => ?_⟩⟩
    obtain ⟨h, k, q1, q2, q3, q4⟩ := (h4 q).2 j hj
    exact ⟨h, k, q1, q2, isV_fr q3 hf n30, isV_fr q4 hf n30⟩
  · obtain ⟨ef, h1, h2⟩ := hC.wa
    exact ⟨ef, hf _ _ h1 (fun z => absurd (hM 36 z) (by decide)), h2⟩
  · obtain ⟨cf, h1⟩ := hC.wb
    exact ⟨cf, hf _ _ h1 (fun z => absurd (hM 37 z) (by decide))⟩
/-- nothing of it has turned -/
theorem w2_grow {X1 : Nat × Nat} {G1 : gT} {B1 : Nat × Nat} (hw : w2 cA X a.ad V (G, B)) (hf : gfr M G G1) (hM : ∀ x, x < 19 → ¬ M x) (h1 : B1.1 + X.1 ≤ B.1 + X1.1) (h2 : B1.2 + X.2 ≤ B.2 + X1.2) : w2 cA X1 a.ad V (G1, B1) := by
  obtain ⟨k, q1, q2, q3⟩ := hw
  have q2 : B.1 + 57000 ≤ X.1 + ks k 19 := q2
  have q3 : B.2 + 114000 ≤ X.2 + 2 * ks k 19 := q3
  refine ⟨k, fun t ht => ⟨isN_fr (q1 t ht).1 hf (hM t ht), (q1 t ht).2⟩, ?_, ?_⟩
  · show B1.1 + 57000 ≤ X1.1 + ks k 19
    omega
  · show B1.2 + 114000 ≤ X1.2 + 2 * ks k 19
    omega
theorem CW.move {X1 : Nat × Nat} {G1 : gT} {B1 : Nat × Nat} (hC : CW cA X a S F V (G, B)) (hf : gfr M G G1) (hM : ∀ x, M x → 70 ≤ x) (h1 : B1.1 + X.1 ≤ B.1 + X1.1) (h2 : B1.2 + X.2 ≤ B.2 + X1.2) : CW cA X1 a S F V (G1, B1) := by
  have nM : ∀ x, x < 70 → ¬ M x := fun x hx z => absurd (hM x z) (by omega)
  have kf : ∀ {h : Nat} {r : Rat}, kq cA G h r → kq cA G1 h r := fun h => rf_fr h hf (fun t ht => by subst ht; exact nM _ (by decide))
  refine ⟨w2_grow hC.w hf (fun x hx => nM x (by omega)) h1 h2, hf _ _ hC.ob (nM 31 (by decide)), hf _ _ hC.ca (nM 30 (by decide)), hf _ _ hC.hd (nM 30 (by decide)), ?_, ?_, kf hC.zr, kf hC.fo, kf hC.ha, kf hC.si, ?_, ?_, ?_, hf _ _ hC.we (nM 35 (by decide)), ?_, ?_⟩
  · obtain ⟨ga, gb, gc, gd, h⟩ := hC.cd
    exact ⟨ga, gb, gc, gd, hf _ _ h (nM 19 (by decide))⟩
  · intro i hi
    obtain ⟨sg, h1, h2⟩ := hC.fr i hi
    exact ⟨sg, hf _ _ h1 (nM (20 + i) (by omega)), h2⟩
  · obtain ⟨vf, h1, h2⟩ := hC.vs
    exact ⟨vf, hf _ _ h1 (nM 32 (by decide)), fun i hi => by obtain ⟨h, q1, q2⟩ := h2 i hi; exact ⟨h, q1, isV_fr q2 hf (nM 30 (by decide))⟩⟩
  · obtain ⟨rf, h1, h2⟩ := hC.rs
    exact ⟨rf, hf _ _ h1 (nM 33 (by decide)), h2⟩
  · intro i hi
    obtain ⟨c, pf, hg, h1, h2, h3, h4⟩ := hC.ro i hi
    refine ⟨c, pf, hg, hf _ _ h1 (nM (40 + i) (by omega)), hf _ _ h2 (nM (50 + i) (by omega)), hf _ _ h3 (nM (60 + i) (by omega)), fun q => ⟨(h4 q).1, fun j hj => ?_⟩⟩
    obtain ⟨h, k, q1, q2, q3, q4⟩ := (h4 q).2 j hj
    exact ⟨h, k, q1, q2, isV_fr q3 hf (nM 30 (by decide)), isV_fr q4 hf (nM 30 (by decide))⟩
  · obtain ⟨ef, h1, h2⟩ := hC.wa
    exact ⟨ef, hf _ _ h1 (nM 36 (by decide)), h2⟩
  · obtain ⟨cf, h1⟩ := hC.wb
    exact ⟨cf, hf _ _ h1 (nM 37 (by decide))⟩
/-- a fraction that may be read while the scratch fraction i turns -/
def opd (cA : Nat → ClassId) (a : AX) (F : Nat → Option Rat) (G : gT) (i h : Nat) (r : Rat) : Prop := (∃ j, j < 4 ∧ j ≠ i ∧ h = a.fr j ∧ F j = some r) ∨ kq cA G h r
theorem opd_rf {i h : Nat} {r : Rat} (hC : CW cA X a S F V (G, B)) (hi : i < 4) (ho : opd cA a F G i h r) : rf cA G (fun x => 11 ≤ x ∧ ¬ x = 19 ∧ ¬ x = 11 + 2 * i ∧ ¬ x = 12 + 2 * i ∧ ¬ x = 20 + i) h r.num r.den := by
  rcases ho with ⟨j, h1, h2, h3, h4⟩ | ho
  · subst h3
    obtain ⟨sg, q1, q2⟩ := hC.fr j h1
    obtain ⟨e1, e2, e3⟩ := q2 r h4
    subst e1
    exact ⟨20 + j, _, _, by omega, q1, rd_w2' hC.w (by omega) (by omega) e2, rd_w2' hC.w (by omega) (by omega) e3⟩
  · exact rf_mono ho (fun t ht => by omega)
theorem opd_rf' {i h : Nat} {r : Rat} (hC : CW cA X a S F V (G, B)) (ho : opd cA a F G i h r) : rf cA G (fun x => 11 ≤ x ∧ ¬ x = 19) h r.num r.den := by
  rcases ho with ⟨j, h1, h2, h3, h4⟩ | ho
  · subst h3
    obtain ⟨sg, q1, q2⟩ := hC.fr j h1
    obtain ⟨e1, e2, e3⟩ := q2 r h4
    subst e1
    exact ⟨20 + j, _, _, by omega, q1, rd_w2' hC.w (by omega) (by omega) e2, rd_w2' hC.w (by omega) (by omega) e3⟩
  · exact rf_mono ho (fun t ht => by omega)
/-- behind a call that sets the scratch fraction i -/
theorem CW.set {i : Nat} {p : Int} {q : Nat} {r : Rat} (hC : CW cA X a S F V (G, B)) (hi : i < 4) (hp : p = r.num) (hq : q = r.den) (h : fT cA X a.ad a.hd a.hc (fun x => x < 11 ∨ x = 19 ∨ x = 11 + 2 * i ∨ x = 12 + 2 * i ∨ x = 20 + i) G V (a.fr i) (11 + 2 * i) (12 + 2 * i) (20 + i) p q u) : ∃ V1, CW cA X a S (fup F i (some r)) V1 u ∧ gfr (fun x => x < 24) G u.1 := by
  subst hp
  subst hq
  obtain ⟨V1, hs, e1, e2, e3, e4⟩ := h
  refine ⟨V1, hC.turn hs.1 hs.2.2 (fun x hx => by omega) e4 (fun j hj => ?_), gfr_mono hs.2.2 (fun x hx => by omega)⟩
  by_cases ej : j = i
  · subst ej
    refine ⟨_, e3, fun r' hr => ?_⟩
    rw [fup_s] at hr
    cases hr
    exact ⟨rfl, e1, e2⟩
  · obtain ⟨sg, q1, q2⟩ := hC.fr j hj
    refine ⟨sg, hs.2.2 _ _ q1 (by show ¬ (20 + j < 11 ∨ 20 + j = 19 ∨ 20 + j = 11 + 2 * i ∨ 20 + j = 12 + 2 * i ∨ 20 + j = 20 + i); omega), fun r' hr => ?_⟩
    rw [fup_n ej] at hr
    obtain ⟨z1, z2, z3⟩ := q2 r' hr
    exact ⟨z1, (hs.2.1 _ (by omega)).trans z2, (hs.2.1 _ (by omega)).trans z3⟩
/-- .. or only compares -/
theorem CW.cmp (hC : CW cA X a S F V (G, B)) (hs : w2s cA X a.ad (fun x => x = 6 ∨ x = 8) G V V1 u) : CW cA X a S F V1 u ∧ gfr (fun x => x < 24) G u.1 := by
  refine ⟨hC.turn hs.1 hs.2.2 (fun x hx => by omega) ?_ (fun j hj => ?_), gfr_mono hs.2.2 (fun x hx => by omega)⟩
  · obtain ⟨ga, gb, gc, gd, h⟩ := hC.cd
    exact ⟨ga, gb, gc, gd, hs.2.2 _ _ h (by show ¬ ((19 : Nat) = 6 ∨ (19 : Nat) = 8); decide)⟩
  · obtain ⟨sg, q1, q2⟩ := hC.fr j hj
    refine ⟨sg, hs.2.2 _ _ q1 (by show ¬ (20 + j = 6 ∨ 20 + j = 8); omega), fun r' hr => ?_⟩
    obtain ⟨z1, z2, z3⟩ := q2 r' hr
    exact ⟨z1, (hs.2.1 _ (by omega)).trans z2, (hs.2.1 _ (by omega)).trans z3⟩
end CWS
/-! the calculator's calls, over the class's world -/
section CC
variable (l : Launch) (D : va_G) (cA : Nat → ClassId) (lo MC MS : Nat) (G : gT) (B : Nat × Nat) (X : Nat × Nat) (a : AX) (S : St) (F : Nat → Option Rat) (V : Nat → Nat)
theorem c3_sum (hC : CW cA X a S F V (G, B)) (hX1 : X.1 ≤ MC) (hX2 : X.2 ≤ MS) (i : Nat) (hi : i < 4) (h1 h2 : Nat) (r1 r2 : Rat) (ho1 : opd cA a F G i h1 r1) (ho2 : opd cA a F G i h2 r2) (k1 k2 : Nat) (hb1 : rb r1 k1) (hb2 : rb r2 k2) (hk : k1 + k2 + 1 ≤ 1499) (le : Int32) :
    gMet l y_Ca_setSum w_Ca_setSum 6 163 D clS (gtys cA) lo MC MS [.ref a.ca, .ref (a.fr i), .ref h1, .ref h2, .int le] G B (gQv D clS lo (fun u => ∃ V1, CW cA X a S (fup F i (some (if le = 0 then r1 + r2 else r1 - r2))) V1 u ∧ gfr (fun x => x < 24) G u.1)) := by
  obtain ⟨sg, q1, -⟩ := hC.fr i hi
  refine gMet_v (n_setSumF l D cA lo MC MS G B X a.ad V hC.w hX1 hX2 a.ca a.hd a.hc hC.ca hC.hd hC.cd (a.fr i) (11 + 2 * i) (12 + 2 * i) (20 + i) sg q1 (by omega) (by omega) (by omega) (by omega) (by omega) (by omega) (by omega) h1 r1.num r1.den k1 (opd_rf hC hi ho1) hb1.1 hb1.2 (rt_pos r1) (rt_cop r1) h2 r2.num r2.den k2 (opd_rf hC hi ho2) hb2.1 hb2.2 (rt_pos r2) (rt_cop r2) le hk) ?_
  intro u hu
  have hm : 0 < r1.den * r2.den := Nat.mul_pos (rt_pos r1) (rt_pos r2)
  have e : (if le = 0 then r1 + r2 else r1 - r2) = mkRat (r1.num * r2.den + (if le = 0 then r2.num else -r2.num) * r1.den) (r1.den * r2.den) := by
    by_cases z : le = 0
    · rw [if_pos z, if_pos z, rt_add]
    · rw [if_neg z, if_neg z, rt_sub]
  exact hC.set hi (by rw [e, rt_num hm]) (by rw [e, rt_den hm]) hu
theorem c3_prod (hC : CW cA X a S F V (G, B)) (hX1 : X.1 ≤ MC) (hX2 : X.2 ≤ MS) (i : Nat) (hi : i < 4) (h1 h2 : Nat) (r1 r2 : Rat) (ho1 : opd cA a F G i h1 r1) (ho2 : opd cA a F G i h2 r2) (k1 k2 : Nat) (hb1 : rb r1 k1) (hb2 : rb r2 k2) (hk : k1 + k2 ≤ 1499) (tu : Int32) (htu : tu = 0 ∨ r2.num ≠ 0) :
    gMet l y_Ca_setProduct w_Ca_setProduct 6 163 D clS (gtys cA) lo MC MS [.ref a.ca, .ref (a.fr i), .ref h1, .ref h2, .int tu] G B (gQv D clS lo (fun u => ∃ V1, CW cA X a S (fup F i (some (if tu = 0 then r1 * r2 else r1 / r2))) V1 u ∧ gfr (fun x => x < 24) G u.1)) := by
  obtain ⟨sg, q1, -⟩ := hC.fr i hi
  refine gMet_v (n_setProductF l D cA lo MC MS G B X a.ad V hC.w hX1 hX2 a.ca a.hd a.hc hC.ca hC.hd hC.cd (a.fr i) (11 + 2 * i) (12 + 2 * i) (20 + i) sg q1 (by omega) (by omega) (by omega) (by omega) (by omega) (by omega) (by omega) h1 r1.num r1.den k1 (opd_rf hC hi ho1) hb1.1 hb1.2 (rt_pos r1) (rt_cop r1) h2 r2.num r2.den k2 (opd_rf hC hi ho2) hb2.1 hb2.2 (rt_pos r2) (rt_cop r2) tu htu hk) ?_
  intro u hu
  by_cases z : tu = 0
  · have hm : 0 < r1.den * r2.den := Nat.mul_pos (rt_pos r1) (rt_pos r2)
    rw [if_pos z, if_pos z] at hu
    rw [if_pos z]
    exact hC.set hi (by rw [← rt_mul, rt_num hm]) (by rw [← rt_mul, rt_den hm]) hu
  · have hn : r2.num ≠ 0 := by rcases htu with q | q; exact absurd q z; exact q
    have hm : 0 < r1.den * r2.num.natAbs := Nat.mul_pos (rt_pos r1) (by omega)
    rw [if_neg z, if_neg z] at hu
    rw [if_neg z]
    exact hC.set hi (by rw [← rt_div r1 r2 hn, rt_num hm]) (by rw [← rt_div r1 r2 hn, rt_den hm]) hu
theorem c3_ratio (hC : CW cA X a S F V (G, B)) (hX1 : X.1 ≤ MC) (hX2 : X.2 ≤ MS) (i : Nat) (hi : i < 4) (x y : Int) (hx1 : -9223372036854775808 ≤ x) (hx2 : x < 9223372036854775808) (hy1 : -9223372036854775808 ≤ y) (hy2 : y < 9223372036854775808) (hy0 : y ≠ 0) :
    gMet l y_Ca_setRatio w_Ca_setRatio 7 187 D clS (gtys cA) lo MC MS [.ref a.ca, .ref (a.fr i), .long (lI x), .long (lI y)] G B (gQv D clS lo (fun u => ∃ V1, CW cA X a S (fup F i (some (mkRat (x * y.sign) y.natAbs))) V1 u ∧ gfr (fun x => x < 24) G u.1)) := by
  obtain ⟨sg, q1, -⟩ := hC.fr i hi
  refine gMet_v (n_setRatio l D cA lo MC MS G B X a.ad V hC.w hX1 hX2 a.ca a.hd a.hc hC.ca hC.hd hC.cd (a.fr i) (11 + 2 * i) (12 + 2 * i) (20 + i) sg q1 (by omega) (by omega) (by omega) (by omega) (by omega) (by omega) (by omega) x y hx1 hx2 hy1 hy2 hy0) ?_
  intro u hu
  have hm : 0 < y.natAbs := by omega
  exact hC.set hi (rt_num hm) (rt_den hm) hu
theorem c3_round (hC : CW cA X a S F V (G, B)) (hX1 : X.1 ≤ MC) (hX2 : X.2 ≤ MS) (i : Nat) (hi : i < 4) (h1 : Nat) (r1 : Rat) (ho1 : opd cA a F G i h1 r1) (k1 : Nat) (hb1 : rb r1 k1) (rule st : Nat) (hru : rule < 4) (hst1 : 0 < st) (hst2 : st ≤ 1000000000) (hk : k1 + 5 ≤ 1499) :
    gMet l y_Ca_setRounded w_Ca_setRounded 7 187 D clS (gtys cA) lo MC MS [.ref a.ca, .ref (a.fr i), .ref h1, .int (nI rule), .int (nI st)] G B (gQv D clS lo (fun u => ∃ V1, CW cA X a S (fup F i (some (rnd r1 rule st))) V1 u ∧ gfr (fun x => x < 24) G u.1)) := by
  obtain ⟨sg, q1, -⟩ := hC.fr i hi
  refine gMet_v (n_setRounded l D cA lo MC MS G B X a.ad V hC.w hX1 hX2 a.ca a.hd a.hc hC.ca hC.hd hC.cd (a.fr i) (11 + 2 * i) (12 + 2 * i) (20 + i) sg q1 (by omega) (by omega) (by omega) (by omega) (by omega) (by omega) (by omega) h1 r1.num r1.den k1 (opd_rf hC hi ho1) hb1.1 hb1.2 (rt_pos r1) (rt_cop r1) rule st hru hst1 hst2 hk) ?_
  intro u hu
  exact hC.set hi (rt_num hst1) (rt_den hst1) hu
theorem c3_cmp (hC : CW cA X a S F V (G, B)) (hX1 : X.1 ≤ MC) (hX2 : X.2 ≤ MS) (h1 h2 : Nat) (r1 r2 : Rat) (ho1 : opd cA a F G 4 h1 r1) (ho2 : opd cA a F G 4 h2 r2) (k1 k2 : Nat) (hb1 : rb r1 k1) (hb2 : rb r2 k2) (hk : k1 + k2 ≤ 1499) :
    gMet l y_Ca_compare w_Ca_compare 5 135 D clS (gtys cA) lo MC MS [.ref a.ca, .ref h1, .ref h2] G B (gQi D clS lo (fun r u => r = iI (rcmp r1 r2) ∧ ∃ V1, CW cA X a S F V1 u ∧ gfr (fun x => x < 24) G u.1)) := by
  refine gMet_i (n_compareF l D cA lo MC MS G B X a.ad V hC.w hX1 hX2 a.ca a.hd a.hc hC.ca hC.hd hC.cd h1 r1.num r1.den k1 (opd_rf' hC ho1) hb1.1 hb1.2 (rt_pos r1) h2 r2.num r2.den k2 (opd_rf' hC ho2) hb2.1 hb2.2 (rt_pos r2) hk) ?_
  rintro r u ⟨e1, V1, hs⟩
  refine ⟨?_, V1, hC.cmp hs⟩
  rw [e1, rt_cmp]
  unfold rcmp
  split
  · rfl
  split <;> rfl
theorem c3_to (hC : CW cA X a S F V (G, B)) (hX1 : X.1 ≤ MC) (hX2 : X.2 ≤ MS) (i : Nat) (hi : i < 4) (h1 : Nat) (r1 : Rat) (ho1 : opd cA a F G i h1 r1) (k1 : Nat) (hb1 : rb r1 k1) (hk : k1 ≤ 1500) :
    gMet l y_Fr_setTo w_Fr_setTo 4 104 D clS (gtys cA) lo MC MS [.ref (a.fr i), .ref h1] G B (gQv D clS lo (fun u => ∃ V1, CW cA X a S (fup F i (some r1)) V1 u ∧ gfr (fun x => x < 24) G u.1)) := by
  obtain ⟨sg, q1, -⟩ := hC.fr i hi
  refine gMet_v (n_FsetTo l D cA lo MC MS G B X a.ad V hC.w hX1 hX2 (a.fr i) (11 + 2 * i) (12 + 2 * i) (20 + i) sg q1 (by omega) (by omega) (by omega) (by omega) (by omega) (by omega) (by omega) h1 r1.num r1.den k1 (opd_rf hC hi ho1) hb1.1 hb1.2 hk) ?_
  rintro u ⟨V1, hs, e1, e2, e3⟩
  refine hC.set hi rfl rfl ⟨V1, w2s_mono hs (fun x hx => by omega), e1, e2, e3, ?_⟩
  obtain ⟨ga, gb, gc, gd, h⟩ := hC.cd
  exact ⟨ga, gb, gc, gd, hs.2.2 _ _ h (by show ¬ ((19 : Nat) = 11 + 2 * i ∨ (19 : Nat) = 12 + 2 * i ∨ (19 : Nat) = 20 + i); omega)⟩
theorem c3_long (hC : CW cA X a S F V (G, B)) (hX1 : X.1 ≤ MC) (hX2 : X.2 ≤ MS) (i : Nat) (hi : i < 4) (r1 : Rat) (hF : F i = some r1) (k1 : Nat) (hb1 : rb r1 k1) (hk : k1 ≤ 1500) :
    gMet l y_Fr_isLong w_Fr_isLong 2 41 D clS (gtys cA) lo MC MS [.ref (a.fr i)] G B (gQi D clS lo (fun r u => u = (G, B) ∧ ((r = nI 0 ∧ ¬ lng r1) ∨ (r = nI 1 ∧ lng r1)))) := by
  have hle := w2_le hC.w
  exact n_isLong l D cA lo MC MS G B _ (a.fr i) r1.num r1.den (opd_rf' (i := 4) hC (Or.inl ⟨i, hi, by omega, rfl, hF⟩)) (pw_up hb1.1 hk) (pw_up hb1.2 hk) (Nat.le_trans hle.1 hX1) (Nat.le_trans hle.2 hX2)
end CC
