/-! ===== THE REFERENCE'S WORLD ===== -/
def mi (i0 i1 i6 i7 i10 i14 i19 i20 i21 : Int32) : Nat → Int32
  | 0 => i0
  | 1 => i1
  | 6 => i6
  | 7 => i7
  | 10 => i10
  | 14 => i14
  | 19 => i19
  | 20 => i20
  | 21 => i21
  | _ => 0
theorem mi_6 (i0 i1 i6 i7 i10 i14 i19 i20 i21 x : Int32) (A : Nat → Nat) : mfs A (fup (mi i0 i1 i6 i7 i10 i14 i19 i20 i21) 6 x) = mfs A (mi i0 i1 x i7 i10 i14 i19 i20 i21) := rfl
abbrev mT (x : Nat) : Prop := 70 ≤ x ∧ x < 90
theorem mT_tr {M : Nat → Prop} {G G1 G2 : gT} (h : gfr mT G G1) (h2 : gfr M G1 G2) (hM : ∀ x, M x → mT x) : gfr mT G G2 := gfr_mono (gfr_tr h h2) (fun x h9 => h9.elim id (hM x))
theorem mT_75 {G G1 G2 : gT} (h : gfr mT G G1) (h2 : gfr (fun x => x = 75 ∨ x = 76) G1 G2) : gfr mT G G2 := mT_tr h h2 (fun x h9 => by rcases h9 with h9 | h9 <;> (subst h9; exact ⟨by decide, by decide⟩))
theorem mT_705 {G G1 G2 : gT} (h : gfr mT G G1) (h2 : gfr (fun x => x = 70 ∨ x = 75 ∨ x = 76) G1 G2) : gfr mT G G2 := mT_tr h h2 (fun x h9 => by rcases h9 with h9 | h9 | h9 <;> (subst h9; exact ⟨by decide, by decide⟩))
theorem mT_mT {G G1 G2 : gT} (h : gfr mT G G1) (h2 : gfr mT G1 G2) : gfr mT G G2 := mT_tr h h2 (fun _ h9 => h9)
theorem sm_ {P : Rat → Prop} {r : Rat} (h : P r) : ∀ r9, some r = some r9 → P r9 := fun _ h9 => by cases h9; exact h
theorem sn_ {P : Rat → Prop} : ∀ r9, (none : Option Rat) = some r9 → P r9 := fun _ h9 => by cases h9
/-- a fraction in lowest terms / any fraction, with its sign -/
def fc (s : Int32) (n d : Nat) (r : Rat) : Prop := s = iI r.num.sign ∧ n = r.num.natAbs ∧ d = r.den
def fq (s : Int32) (n d : Nat) (r : Rat) : Prop := 0 < d ∧ ∃ x : Int, s = iI x ∧ (x = -1 ∨ x = 0 ∨ x = 1) ∧ mkRat (x * (n : Int)) d = r ∧ (x = 0 → n = 0)
theorem sg3 (p : Int) : p.sign = -1 ∨ p.sign = 0 ∨ p.sign = 1 := by
  rcases Int.lt_trichotomy p 0 with h | h | h
  · exact Or.inl (Int.sign_eq_neg_one_of_neg h)
  · subst h; exact Or.inr (Or.inl rfl)
  · exact Or.inr (Or.inr (Int.sign_eq_one_of_pos h))
theorem fc_fq {s : Int32} {n d : Nat} {r : Rat} (h : fc s n d r) : fq s n d r := by
  obtain ⟨h1, h2, h3⟩ := h
  refine ⟨by rw [h3]; exact rt_pos r, r.num.sign, h1, sg3 _, ?_, fun e => ?_⟩
  · rw [h2, h3, Int.sign_mul_natAbs]; exact rt_mk r
  · rw [h2, Int.sign_eq_zero_iff_zero.mp e]; rfl
theorem fq_fc {s : Int32} {n d : Nat} {r : Rat} (h : fq s n d r) : fc (if n = 0 then nI 0 else s) (rdn n d) (rdd n d) r := by
  obtain ⟨hd, x, h1, h2, h3, h4⟩ := h
  have ha : (x * (n : Int)).natAbs = n := by
    rw [Int.natAbs_mul, Int.natAbs_natCast]
    rcases h2 with e | e | e
    · subst e; exact Nat.one_mul n
    · rw [h4 e]; exact Nat.mul_zero _
    · subst e; exact Nat.one_mul n
  have hn := rt_num (P := x * (n : Int)) hd
  have hq := rt_den (P := x * (n : Int)) hd
  rw [h3] at hn hq
  have hs : s = iI x := h1
  refine ⟨?_, ?_, ?_⟩
  · have e1 := frn_sg (x * (n : Int)) d
    rw [hn, sgI_sign, sgI_sign] at e1
    rw [e1]
    by_cases z : n = 0
    · rw [if_pos z, z]
      show _ = iI (x * 0).sign
      rw [Int.mul_zero]; rfl
    · rw [if_neg z, hs, Int.sign_mul, Int.sign_eq_one_of_pos (a := (n : Int)) (by omega), Int.mul_one]
      rcases h2 with e | e | e <;> (subst e; rfl)
  · rw [← hn, frn_abs, ha]
  · rw [ha] at hq; exact hq
theorem fq_b {s : Int32} {n d : Nat} {r : Rat} (h : fq s n d r) : 0 < d := h.1
theorem iI_mul (a b : Int) : iI a * iI b = iI (a * b) := (Int32.ofInt_mul a b).symm
/-- sums -/
theorem ao_i {sa sb : Int} {p q : Nat} (ha : sa = -1 ∨ sa = 0 ∨ sa = 1) (hb : sb = -1 ∨ sb = 0 ∨ sb = 1) (ha0 : sa = 0 → p = 0) (hb0 : sb = 0 → q = 0) (h : sa = sb ∨ sb = 0 ∨ sa = 0) : (if sa = 0 then sb else sa) * ((p + q : Nat) : Int) = sa * (p : Int) + sb * (q : Int) ∧ ((if sa = 0 then sb else sa) = 0 → p + q = 0) := by
  rcases ha with e | e | e <;> rcases hb with f | f | f <;> subst e <;> subst f <;> simp <;> omega
theorem ao_ii {sa sb : Int} {p q : Nat} (ha : sa = -1 ∨ sa = 0 ∨ sa = 1) (hb : sb = -1 ∨ sb = 0 ∨ sb = 1) (h1 : sa ≠ sb) (h2 : sb ≠ 0) (h3 : sa ≠ 0) : (q ≤ p → sa * ((p - q : Nat) : Int) = sa * (p : Int) + sb * (q : Int)) ∧ (p ≤ q → sb * ((q - p : Nat) : Int) = sa * (p : Int) + sb * (q : Int)) := by
  rcases ha with e | e | e <;> rcases hb with f | f | f <;> subst e <;> subst f <;> simp at h1 h2 h3 <;> (constructor <;> intro h <;> omega)
theorem ao_r {r1 r2 r : Rat} {t : Int} (ht : t = 1 ∧ r = r1 + r2 ∨ t = -1 ∧ r = r1 - r2) : mkRat (r1.num.sign * ((r1.num.natAbs * r2.den : Nat) : Int) + r2.num.sign * t * ((r2.num.natAbs * r1.den : Nat) : Int)) (r1.den * r2.den) = r := by
  have e1 : r1.num.sign * ((r1.num.natAbs * r2.den : Nat) : Int) = r1.num * (r2.den : Int) := by
    rw [Int.natCast_mul, ← Int.mul_assoc, Int.sign_mul_natAbs]
  have e2 : r2.num.sign * t * ((r2.num.natAbs * r1.den : Nat) : Int) = t * r2.num * (r1.den : Int) := by
    rw [Int.natCast_mul, Int.mul_comm r2.num.sign t, Int.mul_assoc, ← Int.mul_assoc r2.num.sign, Int.sign_mul_natAbs, Int.mul_assoc]
  rw [e1, e2]
  rcases ht with ⟨h1, h2⟩ | ⟨h1, h2⟩
  · rw [h1, h2, Int.one_mul]; exact rt_add r1 r2
  · rw [h1, h2, show (-1 : Int) * r2.num = -r2.num by omega]; exact rt_sub r1 r2
theorem sg_t {b t : Int} (ht : t = 1 ∨ t = -1) : b.sign * t = -1 ∨ b.sign * t = 0 ∨ b.sign * t = 1 := by
  have := sg3 b
  rcases ht with h | h <;> subst h <;> omega
theorem tm_fq (r1 r2 : Rat) : fq (iI r1.num.sign * iI r2.num.sign) (r1.num.natAbs * r2.num.natAbs) (r1.den * r2.den) (r1 * r2) := by
  refine ⟨Nat.mul_pos (rt_pos r1) (rt_pos r2), r1.num.sign * r2.num.sign, iI_mul _ _, ?_, ?_, fun h => ?_⟩
  · rcases sg3 r1.num with e | e | e <;> rcases sg3 r2.num with f | f | f <;> rw [e, f] <;> decide
  · rw [← rt_mul r1 r2, Int.natCast_mul]
    have : r1.num.sign * r2.num.sign * (↑r1.num.natAbs * ↑r2.num.natAbs) = (r1.num.sign * ↑r1.num.natAbs) * (r2.num.sign * ↑r2.num.natAbs) := by grind
    rw [this, Int.sign_mul_natAbs, Int.sign_mul_natAbs]
  · rcases Int.mul_eq_zero.mp h with z | z
    · rw [Int.sign_eq_zero_iff_zero.mp z]; exact Nat.zero_mul _
    · rw [Int.sign_eq_zero_iff_zero.mp z]; exact Nat.mul_zero _
theorem ov_fq (r1 r2 : Rat) (h0 : r2.num ≠ 0) : fq (iI r1.num.sign * iI r2.num.sign) (r1.num.natAbs * r2.den) (r1.den * r2.num.natAbs) (r1 / r2) := by
  refine ⟨Nat.mul_pos (rt_pos r1) (by omega), r1.num.sign * r2.num.sign, iI_mul _ _, ?_, ?_, fun h => ?_⟩
  · rcases sg3 r1.num with e | e | e <;> rcases sg3 r2.num with f | f | f <;> rw [e, f] <;> decide
  · rw [← rt_div r1 r2 h0, Int.natCast_mul]
    have : r1.num.sign * r2.num.sign * (↑r1.num.natAbs * (r2.den : Int)) = (r1.num.sign * ↑r1.num.natAbs) * (r2.num.sign * (r2.den : Int)) := by grind
    rw [this, Int.sign_mul_natAbs]
  · rcases Int.mul_eq_zero.mp h with z | z
    · rw [Int.sign_eq_zero_iff_zero.mp z]; exact Nat.zero_mul _
    · exact absurd (Int.sign_eq_zero_iff_zero.mp z) h0
theorem fq_low {s : Int32} {n d c : Nat} {r : Rat} (h : fq s n d r) (hc : 0 < c) : fq s n (d * c) (r * mkRat 1 c) := by
  obtain ⟨hd, x, h1, h2, h3, h4⟩ := h
  refine ⟨Nat.mul_pos hd hc, x, h1, h2, ?_, h4⟩
  rw [← h3, Rat.mkRat_mul_mkRat, Int.mul_one]
theorem fq_top {s : Int32} {n d c : Nat} {r : Rat} (h : fq s n d r) : fq s (n * c) d (r * mkRat (c : Int) 1) := by
  obtain ⟨hd, x, h1, h2, h3, h4⟩ := h
  refine ⟨hd, x, h1, h2, ?_, fun e => by rw [h4 e]; exact Nat.zero_mul _⟩
  rw [← h3, Rat.mkRat_mul_mkRat, Nat.mul_one, Int.natCast_mul, Int.mul_assoc]
theorem rcmp_sg (a b : Rat) : rcmp a b = (a.num * (b.den : Int) - b.num * (a.den : Int)).sign := by
  have h := rt_cmp a b
  rw [sgI_sign] at h
  unfold rcmp
  have h3 := sg3 (a.num * (b.den : Int) - b.num * (a.den : Int))
  split at h
  · rename_i z; rw [if_pos z]
    rcases h3 with e | e | e <;> rw [e] at h ⊢ <;> first | rfl | (exact absurd h (by decide))
  · rename_i z
    rw [if_neg z]
    split at h
    · rename_i y; rw [if_pos y]
      rcases h3 with e | e | e <;> rw [e] at h ⊢ <;> first | rfl | (exact absurd h (by decide))
    · rename_i y; rw [if_neg y]
      rcases h3 with e | e | e <;> rw [e] at h ⊢ <;> first | rfl | (exact absurd h (by decide))
theorem rc_ne {a b : Rat} (h : a.num.sign ≠ b.num.sign) : rcmp a b = if a.num.sign < b.num.sign then -1 else 1 := by
  rw [rcmp_sg]
  have ha := rt_pos a
  have hb := rt_pos b
  have e1 : ∀ {p : Int} {q : Nat}, 0 < q → (p * (q : Int)).sign = p.sign := fun {p q} hq => by rw [Int.sign_mul, Int.sign_eq_one_of_pos (a := (q : Int)) (by omega), Int.mul_one]
  have h1 := e1 (p := a.num) hb
  have h2 := e1 (p := b.num) ha
  generalize a.num * (b.den : Int) = P at *
  generalize b.num * (a.den : Int) = Q at *
  rw [← h1, ← h2] at h ⊢
  rcases Int.lt_trichotomy P 0 with u | u | u <;> rcases Int.lt_trichotomy Q 0 with v | v | v
  · rw [Int.sign_eq_neg_one_of_neg u, Int.sign_eq_neg_one_of_neg v] at h; exact absurd rfl h
  · rw [Int.sign_eq_neg_one_of_neg u, v, Int.sign_eq_neg_one_of_neg (a := P - 0) (by omega)]; rfl
  · rw [Int.sign_eq_neg_one_of_neg u, Int.sign_eq_one_of_pos v, Int.sign_eq_neg_one_of_neg (a := P - Q) (by omega)]; rfl
  · rw [u, Int.sign_eq_neg_one_of_neg v, Int.sign_eq_one_of_pos (a := 0 - Q) (by omega)]; rfl
  · rw [u, v] at h; exact absurd rfl h
  · rw [u, Int.sign_eq_one_of_pos v, Int.sign_eq_neg_one_of_neg (a := 0 - Q) (by omega)]; rfl
  · rw [Int.sign_eq_one_of_pos u, Int.sign_eq_neg_one_of_neg v, Int.sign_eq_one_of_pos (a := P - Q) (by omega)]; rfl
  · rw [Int.sign_eq_one_of_pos u, v, Int.sign_eq_one_of_pos (a := P - 0) (by omega)]; rfl
  · rw [Int.sign_eq_one_of_pos u, Int.sign_eq_one_of_pos v] at h; exact absurd rfl h
theorem rc_eq {a b : Rat} (h : a.num.sign = b.num.sign) {x : Int} (hx : (x = -1 ∧ a.num.natAbs * b.den < b.num.natAbs * a.den) ∨ (x = 0 ∧ a.num.natAbs * b.den = b.num.natAbs * a.den) ∨ (x = 1 ∧ b.num.natAbs * a.den < a.num.natAbs * b.den)) : a.num.sign * x = rcmp a b := by
  rw [rcmp_sg]
  have e1 : a.num * (b.den : Int) = a.num.sign * ((a.num.natAbs * b.den : Nat) : Int) := by rw [Int.natCast_mul, ← Int.mul_assoc, Int.sign_mul_natAbs]
  have e2 : b.num * (a.den : Int) = a.num.sign * ((b.num.natAbs * a.den : Nat) : Int) := by rw [h, Int.natCast_mul, ← Int.mul_assoc, Int.sign_mul_natAbs]
  rw [e1, e2]
  generalize a.num.natAbs * b.den = P at *
  generalize b.num.natAbs * a.den = Q at *
  rcases sg3 a.num with s | s | s <;> rw [s] <;> rcases hx with ⟨g, k⟩ | ⟨g, k⟩ | ⟨g, k⟩ <;> subst g
  · rw [Int.sign_eq_one_of_pos (a := _) (by omega)]; rfl
  · rw [show (-1 * (P : Int) - -1 * (Q : Int)) = 0 by omega]; rfl
  · rw [Int.sign_eq_neg_one_of_neg (a := _) (by omega)]; rfl
  · rw [show (0 * (P : Int) - 0 * (Q : Int)) = 0 by omega]; rfl
  · rw [show (0 * (P : Int) - 0 * (Q : Int)) = 0 by omega]; rfl
  · rw [show (0 * (P : Int) - 0 * (Q : Int)) = 0 by omega]; rfl
  · rw [Int.sign_eq_neg_one_of_neg (a := _) (by omega)]; rfl
  · rw [show (1 * (P : Int) - 1 * (Q : Int)) = 0 by omega]; rfl
  · rw [Int.sign_eq_one_of_pos (a := _) (by omega)]; rfl
/-! the cells -/
def vc (sg un so sz : Nat → Int32) (i : Nat) (r : Rat) (u : Int) : Prop := sg i = iI r.num.sign ∧ un i = iI u ∧ (∃ z : Nat, sz (2 * i + 0) = nI z ∧ z ≤ 101 ∧ isD (fun k => so (101 * (2 * i + 0) + k)) z r.num.natAbs) ∧ (∃ z : Nat, sz (2 * i + 1) = nI z ∧ z ≤ 101 ∧ isD (fun k => so (101 * (2 * i + 1) + k)) z r.den)
def MV (cA : Nat → ClassId) (A : Nat → Nat) (S : St) (G : gT) : Prop := ∃ sg un so sz : Nat → Int32, G (A 2) = some (71, .inl (cA 0, 200, .inl sg)) ∧ G (A 3) = some (72, .inl (cA 0, 200, .inl un)) ∧ G (A 4) = some (73, .inl (cA 0, 40400, .inl so)) ∧ G (A 5) = some (74, .inl (cA 0, 400, .inl sz)) ∧ ∀ i, i < S.n → vc sg un so sz i (S.v i) (S.un i)
def MO (cA : Nat → ClassId) (A : Nat → Nat) (S : St) (G : gT) : Prop := ∃ co pl he : Nat → Int32, G (A 11) = some (77, .inl (cA 0, 8, .inl co)) ∧ G (A 12) = some (78, .inl (cA 0, 128, .inl pl)) ∧ G (A 13) = some (79, .inl (cA 0, 128, .inl he)) ∧ ∀ i, i < S.rn → co i = nI (S.rc i) ∧ ∀ j, j < S.rc i → pl (16 * i + j) = nI (S.rp i j) ∧ he (16 * i + j) = nI (S.rh i j)
def ME (cA : Nat → ClassId) (A : Nat → Nat) (S : St) (G : gT) : Prop := ∃ we sa re : Nat → Int64, G (A 15) = some (80, .inl (cA 1, 12, .inr (.inl we))) ∧ G (A 16) = some (81, .inl (cA 1, 12, .inr (.inl sa))) ∧ G (A 17) = some (82, .inl (cA 1, 12, .inr (.inl re))) ∧ ∀ i, i < S.wn → we i = lN (S.w i)
def MB (cA : Nat → ClassId) (A : Nat → Nat) (S : St) (G : gT) : Prop := MV cA A S G ∧ MO cA A S G ∧ ME cA A S G
theorem MV_fr {cA : Nat → ClassId} {A : Nat → Nat} {S : St} {G G1 : gT} {M : Nat → Prop} (h : MV cA A S G) (hf : gfr M G G1) (h1 : ¬ M 71) (h2 : ¬ M 72) (h3 : ¬ M 73) (h4 : ¬ M 74) : MV cA A S G1 := by
  obtain ⟨a, b, c, d, e1, e2, e3, e4, e5⟩ := h
  exact ⟨a, b, c, d, hf _ _ e1 h1, hf _ _ e2 h2, hf _ _ e3 h3, hf _ _ e4 h4, e5⟩
theorem MO_fr {cA : Nat → ClassId} {A : Nat → Nat} {S : St} {G G1 : gT} {M : Nat → Prop} (h : MO cA A S G) (hf : gfr M G G1) (h1 : ¬ M 77) (h2 : ¬ M 78) (h3 : ¬ M 79) : MO cA A S G1 := by
  obtain ⟨a, b, c, e1, e2, e3, e5⟩ := h
  exact ⟨a, b, c, hf _ _ e1 h1, hf _ _ e2 h2, hf _ _ e3 h3, e5⟩
theorem ME_fr {cA : Nat → ClassId} {A : Nat → Nat} {S : St} {G G1 : gT} {M : Nat → Prop} (h : ME cA A S G) (hf : gfr M G G1) (h1 : ¬ M 80) (h2 : ¬ M 81) (h3 : ¬ M 82) : ME cA A S G1 := by
  obtain ⟨a, b, c, e1, e2, e3, e5⟩ := h
  exact ⟨a, b, c, hf _ _ e1 h1, hf _ _ e2 h2, hf _ _ e3 h3, e5⟩
theorem MB_fr {cA : Nat → ClassId} {A : Nat → Nat} {S : St} {G G1 : gT} {M : Nat → Prop} (h : MB cA A S G) (hf : gfr M G G1) (h1 : ∀ x, 71 ≤ x ∧ x ≤ 82 ∧ x ≠ 75 ∧ x ≠ 76 → ¬ M x) : MB cA A S G1 :=
  ⟨MV_fr h.1 hf (h1 71 (by decide)) (h1 72 (by decide)) (h1 73 (by decide)) (h1 74 (by decide)), MO_fr h.2.1 hf (h1 77 (by decide)) (h1 78 (by decide)) (h1 79 (by decide)), ME_fr h.2.2 hf (h1 80 (by decide)) (h1 81 (by decide)) (h1 82 (by decide))⟩
theorem MB_75 {cA : Nat → ClassId} {A : Nat → Nat} {S : St} {G G1 : gT} (h : MB cA A S G) (hf : gfr (fun x => x = 75 ∨ x = 76) G G1) : MB cA A S G1 := MB_fr h hf (fun x h9 => by omega)
theorem MB_705 {cA : Nat → ClassId} {A : Nat → Nat} {S : St} {G G1 : gT} (h : MB cA A S G) (hf : gfr (fun x => x = 70 ∨ x = 75 ∨ x = 76) G G1) : MB cA A S G1 := MB_fr h hf (fun x h9 => by omega)
/-- the stash -/
def kc (ks kt kb : Int32) (kf : Nat → Int32) (r : Rat) : Prop := ks = iI r.num.sign ∧ (∃ z : Nat, kt = nI z ∧ z ≤ 4300 ∧ isD kf z r.num.natAbs) ∧ ∃ z : Nat, kb = nI z ∧ z ≤ 4300 ∧ isD (fun k => kf (4300 + k)) z r.den
def MW (cA : Nat → ClassId) (hm : Nat) (A : Nat → Nat) (S : St) (th : Nat) (m o k : Option Rat) (G : gT) : Prop :=
  ∃ (s s2 kt kb ks : Int32) (R : Nat → Nat) (kf : Nat → Int32), G hm = some (70, .inr (9, mfs A (mi (nI th) (nI S.n) s s2 (nI S.rn) (nI S.wn) kt kb ks))) ∧ MR cA A R G ∧ G (A 18) = some (83, .inl (cA 0, 8600, .inl kf)) ∧ (∀ r, m = some r → fc s (R 0) (R 1) r) ∧ (∀ r, o = some r → fc s2 (R 2) (R 3) r) ∧ (∀ r, k = some r → kc ks kt kb kf r) ∧ MB cA A S G
theorem MW_un {cA : Nat → ClassId} {hm : Nat} {A : Nat → Nat} {S : St} {th : Nat} {m o k : Option Rat} {G : gT} (h : MW cA hm A S th m o k G) : MW cA hm A S th none none none G := by
  obtain ⟨s, s2, kt, kb, ks, R, kf, h1, h2, h3, h4, h5, h6, h7⟩ := h
  exact ⟨s, s2, kt, kb, ks, R, kf, h1, h2, h3, sn_, sn_, sn_, h7⟩
