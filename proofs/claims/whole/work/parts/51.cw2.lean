/-! ===== INTS WITH SIGNS ===== -/
theorem nI_iI (n : Nat) : nI n = iI (n : Int) := (Int32.ofInt_eq_ofNat).symm
theorem iI_toInt {a : Int} (h1 : -2147483648 ≤ a) (h2 : a < 2147483648) : (iI a).toInt = a := Int32.toInt_ofInt_of_le (by simpa using h1) (by simpa using h2)
theorem iI_self (x : Int32) : iI x.toInt = x := Int32.ofInt_toInt x
theorem iI_add (a b : Int) : iI a + iI b = iI (a + b) := (Int32.ofInt_add a b).symm
theorem iI_sub (a b : Int) : iI a - iI b = iI (a - b) := (Int32.ofInt_sub a b).symm
theorem i32_bd (x : Int32) : -2147483648 ≤ x.toInt ∧ x.toInt < 2147483648 := by
  have h1 := x.le_toInt
  have h2 := x.toInt_lt
  exact ⟨by simpa using h1, by simpa using h2⟩
section II
variable {a b : Int}
theorem iI_lt (ha1 : -2147483648 ≤ a) (ha2 : a < 2147483648) (hb1 : -2147483648 ≤ b) (hb2 : b < 2147483648) : iI a < iI b ↔ a < b := by rw [Int32.lt_iff_toInt_lt, iI_toInt ha1 ha2, iI_toInt hb1 hb2]
theorem iI_le (ha1 : -2147483648 ≤ a) (ha2 : a < 2147483648) (hb1 : -2147483648 ≤ b) (hb2 : b < 2147483648) : iI a ≤ iI b ↔ a ≤ b := by rw [Int32.le_iff_toInt_le, iI_toInt ha1 ha2, iI_toInt hb1 hb2]
theorem iI_eq (ha1 : -2147483648 ≤ a) (ha2 : a < 2147483648) (hb1 : -2147483648 ≤ b) (hb2 : b < 2147483648) : iI a = iI b ↔ a = b := ⟨fun h => by have := congrArg Int32.toInt h; rwa [iI_toInt ha1 ha2, iI_toInt hb1 hb2] at this, fun h => by rw [h]⟩
theorem ii_lt (ha1 : -2147483648 ≤ a) (ha2 : a < 2147483648) (hb1 : -2147483648 ≤ b) (hb2 : b < 2147483648) : (iI a < iI b → a < b) ∧ (¬ iI a < iI b → a ≥ b) := by rw [iI_lt ha1 ha2 hb1 hb2]; omega
theorem ii_ge (ha1 : -2147483648 ≤ a) (ha2 : a < 2147483648) (hb1 : -2147483648 ≤ b) (hb2 : b < 2147483648) : (iI b ≤ iI a → a ≥ b) ∧ (¬ iI b ≤ iI a → a < b) := by rw [iI_le hb1 hb2 ha1 ha2]; omega
theorem ii_gt (ha1 : -2147483648 ≤ a) (ha2 : a < 2147483648) (hb1 : -2147483648 ≤ b) (hb2 : b < 2147483648) : (iI b < iI a → a > b) ∧ (¬ iI b < iI a → a ≤ b) := by rw [iI_lt hb1 hb2 ha1 ha2]; omega
theorem ii_le (ha1 : -2147483648 ≤ a) (ha2 : a < 2147483648) (hb1 : -2147483648 ≤ b) (hb2 : b < 2147483648) : (iI a ≤ iI b → a ≤ b) ∧ (¬ iI a ≤ iI b → a > b) := by rw [iI_le ha1 ha2 hb1 hb2]; omega
theorem ii_eq (ha1 : -2147483648 ≤ a) (ha2 : a < 2147483648) (hb1 : -2147483648 ≤ b) (hb2 : b < 2147483648) : (iI a = iI b → a = b) ∧ (¬ iI a = iI b → a ≠ b) := by rw [iI_eq ha1 ha2 hb1 hb2]; omega
theorem ii_ne (ha1 : -2147483648 ≤ a) (ha2 : a < 2147483648) (hb1 : -2147483648 ≤ b) (hb2 : b < 2147483648) : (¬ iI a = iI b → a ≠ b) ∧ (iI a = iI b → a = b) := by rw [iI_eq ha1 ha2 hb1 hb2]; omega
end II
theorem ix_nI {i : Nat} (h : i < 2147483648) : (nI i).toInt = (i : Int) := by rw [nI_iI, iI_toInt (by omega) (by omega)]
theorem ix_of {x : Int32} {n : Nat} (h1 : 0 ≤ x.toInt) (h2 : x.toInt < n) : ∃ i : Nat, i < n ∧ x = nI i ∧ ix x = i := by
  refine ⟨x.toInt.toNat, by omega, ?_, rfl⟩
  rw [nI_iI, Int.toNat_of_nonneg h1, iI_self]
theorem rb_of {r : Rat} (h : ¬ lng r) : rb r 100 := by
  unfold rb
  rw [← m900_B]
  exact ⟨Nat.not_le.mp fun z => h (Or.inl z), Nat.not_le.mp fun z => h (Or.inr z)⟩
theorem rb_lit {r : Rat} (h1 : r.num.natAbs < 1000000000) (h2 : r.den < 1000000000) : rb r 1 := by
  unfold rb
  rw [Nat.pow_one]
  exact ⟨h1, h2⟩
theorem rb_4 : rb 4 1 := rb_lit (by decide) (by decide)
theorem rb_2 : rb (mkRat 1 2) 1 := rb_lit (by decide) (by decide)
theorem rb_6 : rb (mkRat 1 6) 1 := rb_lit (by decide) (by decide)
theorem rb_0 : rb 0 1 := rb_lit (by decide) (by decide)
section G3
variable {p : Program} {l : Launch} {e : Env} {R : Room} {s : State} {m : MethodId} {args : Array Value} {below : List Frame} {meth : Method} {c : Code} {Q : State → Prop}
variable {D : va_G} {cl : List vw_C} {tys : List (ClassId × FieldType)} {lo MC MS nL : Nat} {pc : Nat} {L : List (Nat × Value)} {st rest : List Value} {G : gT} {B : Nat × Nat} {cc : ByteArray}
theorem g_aalS (hx : p.tables.exec = Jvm.exec) (hb : c.code = cc) (hK : va_K D cl tys s) (t0 : Nat) {a t : Nat} {cA : ClassId} {C : String} {n i h : Nat} {f : Nat → Option Nat} (ha : G a = some (t, .inl (cA, n, .inr (.inr (.inr (.inr f)))))) (ht : tys[t0]? = some (cA, .object C)) (hi : i < n) (hn : n < 2147483648) (hv : f i = some h) (hdg : decode cc pc = .ok (.aaload, 1))
    (kk : gV p l e R s m args below meth c D cl lo nL Q (pc + 1) L (.ref h :: rest) G B) : gV p l e R s m args below meth c D cl lo nL Q pc L (.int (nI i) :: .ref a :: rest) G B := by
  refine g_aald hx hb hK t0 ha ht (vp_in_nI hi (by omega)) hdg ?_
  rw [nI_clamp (by omega), hv]
  exact kk
end G3
section CX
variable {cA : Nat → ClassId} {X : Nat × Nat} {a : AX} {S : St} {F : Nat → Option Rat} {V V1 : Nat → Nat} {G G1 : gT} {B : Nat × Nat} {u u1 : gT × Nat × Nat} {M : Nat → Prop}
theorem CW.t_w (hC : CW cA X a S F V (G, B)) (hf : gfr M G G1) (hM : ∀ x, x < 31 → ¬ M x) : w2 cA X a.ad V (G1, B) := w2_grow hC.w hf (fun x hx => hM x (by omega)) (Nat.le_refl _) (Nat.le_refl _)
theorem CW.t_cd (hC : CW cA X a S F V (G, B)) (hf : gfr M G G1) (hM : ∀ x, x < 31 → ¬ M x) : cdO a.ad a.hd a.hc G1 := by
  obtain ⟨ga, gb, gc, gd, h⟩ := hC.cd
  exact ⟨ga, gb, gc, gd, hf _ _ h (hM 19 (by decide))⟩
theorem CW.t_fr (hC : CW cA X a S F V (G, B)) (hf : gfr M G G1) (hM : ∀ x, x < 31 → ¬ M x) : ∀ i, i < 4 → ∃ sg : Int32, G1 (a.fr i) = some (20 + i, .inr (3, [.int sg, .ref (a.ad (11 + 2 * i)), .ref (a.ad (12 + 2 * i))])) ∧ ∀ r : Rat, F i = some r → sg = sgI r.num ∧ V (11 + 2 * i) = r.num.natAbs ∧ V (12 + 2 * i) = r.den := by
  intro i hi
  obtain ⟨sg, h1, h2⟩ := hC.fr i hi
  exact ⟨sg, hf _ _ h1 (hM (20 + i) (by omega)), h2⟩
theorem CW.t_k {h : Nat} {r : Rat} (hk : kq cA G h r) (hf : gfr M G G1) (hM : ∀ x, x < 31 → ¬ M x) : kq cA G1 h r := rf_fr hk hf (fun t ht => by subst ht; exact hM 30 (by decide))
theorem CW.t_vs (hC : CW cA X a S F V (G, B)) (hf : gfr M G G1) (hM : ∀ x, x < 31 → ¬ M x) (h32 : ¬ M 32) : ∃ vf : Nat → Option Nat, G1 a.vs = some (32, .inl (cA 2, 200, rfs vf)) ∧ ∀ i, i < S.n → ∃ h : Nat, vf i = some h ∧ isV cA G1 h (S.v i) (S.un i) := by
  obtain ⟨vf, h1, h2⟩ := hC.vs
  exact ⟨vf, hf _ _ h1 h32, fun i hi => by obtain ⟨h, q1, q2⟩ := h2 i hi; exact ⟨h, q1, isV_fr q2 hf (hM 30 (by decide))⟩⟩
theorem CW.t_rs (hC : CW cA X a S F V (G, B)) (hf : gfr M G G1) (h33 : ¬ M 33) : ∃ rf : Nat → Option Nat, G1 a.rs = some (33, .inl (cA 3, 8, rfs rf)) ∧ ∀ i, i < 8 → rf i = some (a.ro i) := by
  obtain ⟨rf, h1, h2⟩ := hC.rs
  exact ⟨rf, hf _ _ h1 h33, h2⟩
theorem CW.t_ro (hC : CW cA X a S F V (G, B)) (hf : gfr M G G1) (hM : ∀ x, x < 31 → ¬ M x) (i : Nat) (hi : i < 8) (h40 : ¬ M (40 + i)) (h50 : ¬ M (50 + i)) (h60 : ¬ M (60 + i)) : ∃ (c : Nat) (pf hf : Nat → Option Nat), G1 (a.ro i) = some (40 + i, .inr (5, [.ref (a.rp i), .ref (a.rh i), .int (nI c)])) ∧ G1 (a.rp i) = some (50 + i, .inl (cA 2, 16, rfs pf)) ∧ G1 (a.rh i) = some (60 + i, .inl (cA 2, 16, rfs hf)) ∧
    (i < S.rn → c = S.rc i ∧ ∀ j, j < c → ∃ h k : Nat, pf j = some h ∧ hf j = some k ∧ isV cA G1 h (S.v (S.rp i j)) (S.un (S.rp i j)) ∧ isV cA G1 k (S.v (S.rh i j)) (S.un (S.rh i j))) := by
  obtain ⟨c, pf, hg, h1, h2, h3, h4⟩ := hC.ro i hi
  refine ⟨c, pf, hg, hf _ _ h1 h40, hf _ _ h2 h50, hf _ _ h3 h60, fun q => ⟨(h4 q).1, fun j hj => ?_⟩⟩
  obtain ⟨h, k, q1, q2, q3, q4⟩ := (h4 q).2 j hj
  exact ⟨h, k, q1, q2, isV_fr q3 hf (hM 30 (by decide)), isV_fr q4 hf (hM 30 (by decide))⟩
theorem CW.t_wa (hC : CW cA X a S F V (G, B)) (hf : gfr M G G1) (h : ¬ M 36) : ∃ ef : Nat → Int32, G1 a.we = some (36, .inl (cA 0, 12, .inl ef)) ∧ ∀ i, i < S.wn → ef i = nI (S.w i) := by
  obtain ⟨ef, h1, h2⟩ := hC.wa
  exact ⟨ef, hf _ _ h1 h, h2⟩
theorem CW.t_wb (hC : CW cA X a S F V (G, B)) (hf : gfr M G G1) (h : ¬ M 37) : ∃ cf : Nat → Int64, G1 a.wc = some (37, .inl (cA 1, 12, .inr (.inl cf))) := by
  obtain ⟨cf, h1⟩ := hC.wb
  exact ⟨cf, hf _ _ h1 h⟩
/-- a value is kept -/
theorem CW.keepV {q : Nat} {r : Rat} {z : Int} {vf : Nat → Option Nat} (hW : WF S) (hC : CW cA X a S F V (G, B)) (hf : gfr (fun x => x = 31 ∨ x = 32) G G1)
    (hvf : ∀ i, i < S.n → ∃ h : Nat, vf i = some h ∧ isV cA G h (S.v i) (S.un i)) (hq : isV cA G q r z)
    (hvs : G1 a.vs = some (32, .inl (cA 2, 200, rfs (va_up vf S.n (some q)))))
    (hob : G1 a.x = some (31, .inr (8, [.ref a.vs, .int (nI (S.n + 1)), .ref a.rs, .int (nI S.rn), .ref a.ws, .ref a.ca, .ref (a.fr 0), .ref (a.fr 1), .ref (a.fr 2), .ref (a.fr 3), .ref a.zr, .ref a.fo, .ref a.ha, .ref a.si]))) :
    CW cA X a (S.sv (S.n + 1) (fup S.v S.n r) (fup S.un S.n z)) F V (G1, B) := by
  have hM : ∀ x, x < 31 → ¬ (x = 31 ∨ x = 32) := fun x hx => by omega
  refine ⟨hC.t_w hf hM, hob, hf _ _ hC.ca (hM 30 (by decide)), hf _ _ hC.hd (hM 30 (by decide)), hC.t_cd hf hM, hC.t_fr hf hM, CW.t_k hC.zr hf hM, CW.t_k hC.fo hf hM, CW.t_k hC.ha hf hM, CW.t_k hC.si hf hM, ⟨_, hvs, fun i hi => ?_⟩, hC.t_rs hf (by decide), fun i hi => ?_, hf _ _ hC.we (show ¬ ((35 : Nat) = 31 ∨ (35 : Nat) = 32) by decide), hC.t_wa hf (by decide), hC.t_wb hf (by decide)⟩
  · have hi : i < S.n + 1 := hi
    show ∃ h : Nat, va_up vf S.n (some q) i = some h ∧ isV cA G1 h (fup S.v S.n r i) (fup S.un S.n z i)
    by_cases e : i = S.n
    · subst e
      rw [va_up_self, fup_s, fup_s]
      exact ⟨q, rfl, isV_fr hq hf (by decide)⟩
    · rw [va_up_ne _ _ e, fup_n e, fup_n e]
      obtain ⟨h, q1, q2⟩ := hvf i (by omega)
      exact ⟨h, q1, isV_fr q2 hf (by decide)⟩
  · obtain ⟨c, pf, hg, h1, h2, h3, h4⟩ := hC.t_ro hf hM i hi (by omega) (by omega) (by omega)
    refine ⟨c, pf, hg, h1, h2, h3, fun q9 => ⟨(h4 q9).1, fun j hj => ?_⟩⟩
    obtain ⟨h, k, g1, g2, g3, g4⟩ := (h4 q9).2 j hj
    have hj' : j < S.rc i := by rw [← (h4 q9).1]; exact hj
    obtain ⟨b1, b2, -, -⟩ := hW.rp i q9 j hj'
    refine ⟨h, k, g1, g2, ?_, ?_⟩
    · show isV cA G1 h (fup S.v S.n r (S.rp i j)) (fup S.un S.n z (S.rp i j))
      rw [fup_n (by omega), fup_n (by omega)]; exact g3
    · show isV cA G1 k (fup S.v S.n r (S.rh i j)) (fup S.un S.n z (S.rh i j))
      rw [fup_n (by omega), fup_n (by omega)]; exact g4
end CX
section CC2
variable (l : Launch) (D : va_G) (cA : Nat → ClassId) (lo MC MS : Nat) (G : gT) (B : Nat × Nat) (X : Nat × Nat) (a : AX) (S : St) (F : Nat → Option Rat) (V : Nat → Nat)
theorem c3_add (hC : CW cA X a S F V (G, B)) (hX1 : X.1 ≤ MC) (hX2 : X.2 ≤ MS) (i : Nat) (hi : i < 4) (h1 h2 : Nat) (r1 r2 : Rat) (ho1 : opd cA a F G i h1 r1) (ho2 : opd cA a F G i h2 r2) (k1 k2 : Nat) (hb1 : rb r1 k1) (hb2 : rb r2 k2) (hk : k1 + k2 + 1 ≤ 1499) :
    gMet l y_Ca_setSum w_Ca_setSum 6 163 D clS (gtys cA) lo MC MS [.ref a.ca, .ref (a.fr i), .ref h1, .ref h2, .int (nI 0)] G B (gQv D clS lo (fun u => ∃ V1, CW cA X a S (fup F i (some (r1 + r2))) V1 u ∧ gfr (fun x => x < 24) G u.1)) :=
  c3_sum l D cA lo MC MS G B X a S F V hC hX1 hX2 i hi h1 h2 r1 r2 ho1 ho2 k1 k2 hb1 hb2 hk (nI 0)
theorem c3_sub (hC : CW cA X a S F V (G, B)) (hX1 : X.1 ≤ MC) (hX2 : X.2 ≤ MS) (i : Nat) (hi : i < 4) (h1 h2 : Nat) (r1 r2 : Rat) (ho1 : opd cA a F G i h1 r1) (ho2 : opd cA a F G i h2 r2) (k1 k2 : Nat) (hb1 : rb r1 k1) (hb2 : rb r2 k2) (hk : k1 + k2 + 1 ≤ 1499) :
    gMet l y_Ca_setSum w_Ca_setSum 6 163 D clS (gtys cA) lo MC MS [.ref a.ca, .ref (a.fr i), .ref h1, .ref h2, .int (nI 1)] G B (gQv D clS lo (fun u => ∃ V1, CW cA X a S (fup F i (some (r1 - r2))) V1 u ∧ gfr (fun x => x < 24) G u.1)) :=
  c3_sum l D cA lo MC MS G B X a S F V hC hX1 hX2 i hi h1 h2 r1 r2 ho1 ho2 k1 k2 hb1 hb2 hk (nI 1)
theorem c3_mul (hC : CW cA X a S F V (G, B)) (hX1 : X.1 ≤ MC) (hX2 : X.2 ≤ MS) (i : Nat) (hi : i < 4) (h1 h2 : Nat) (r1 r2 : Rat) (ho1 : opd cA a F G i h1 r1) (ho2 : opd cA a F G i h2 r2) (k1 k2 : Nat) (hb1 : rb r1 k1) (hb2 : rb r2 k2) (hk : k1 + k2 ≤ 1499) :
    gMet l y_Ca_setProduct w_Ca_setProduct 6 163 D clS (gtys cA) lo MC MS [.ref a.ca, .ref (a.fr i), .ref h1, .ref h2, .int (nI 0)] G B (gQv D clS lo (fun u => ∃ V1, CW cA X a S (fup F i (some (r1 * r2))) V1 u ∧ gfr (fun x => x < 24) G u.1)) :=
  c3_prod l D cA lo MC MS G B X a S F V hC hX1 hX2 i hi h1 h2 r1 r2 ho1 ho2 k1 k2 hb1 hb2 hk (nI 0) (Or.inl rfl)
theorem c3_div (hC : CW cA X a S F V (G, B)) (hX1 : X.1 ≤ MC) (hX2 : X.2 ≤ MS) (i : Nat) (hi : i < 4) (h1 h2 : Nat) (r1 r2 : Rat) (ho1 : opd cA a F G i h1 r1) (ho2 : opd cA a F G i h2 r2) (k1 k2 : Nat) (hb1 : rb r1 k1) (hb2 : rb r2 k2) (hk : k1 + k2 ≤ 1499) (h0 : r2.num ≠ 0) :
    gMet l y_Ca_setProduct w_Ca_setProduct 6 163 D clS (gtys cA) lo MC MS [.ref a.ca, .ref (a.fr i), .ref h1, .ref h2, .int (nI 1)] G B (gQv D clS lo (fun u => ∃ V1, CW cA X a S (fup F i (some (r1 / r2))) V1 u ∧ gfr (fun x => x < 24) G u.1)) :=
  c3_prod l D cA lo MC MS G B X a S F V hC hX1 hX2 i hi h1 h2 r1 r2 ho1 ho2 k1 k2 hb1 hb2 hk (nI 1) (Or.inr h0)
theorem c3_copy (hC : CW cA X a S F V (G, B)) (i : Nat) (hi : i < 4) (r1 : Rat) (hF : F i = some r1) (hl : ¬ lng r1) (hX1 : B.1 + 5 ≤ MC) (hX2 : B.2 + 207 ≤ MS) :
    gMet l y_Fr_copy w_Fr_copy 5 125 D clS (gtys cA) lo MC MS [.ref (a.fr i)] G B (gQr D clS lo (fun r u => gex (fun _ => False) G u.1 ∧ kq cA u.1 r r1 ∧ u.2.1 ≤ B.1 + 5 ∧ u.2.2 ≤ B.2 + 207)) := by
  obtain ⟨sg, q1, q2⟩ := hC.fr i hi
  obtain ⟨e1, e2, e3⟩ := q2 r1 hF
  subst e1
  obtain ⟨c1, a1, z1, f1, w1, w2, w3, w4, w5⟩ := w2_N hC.w (show 11 + 2 * i < 19 by omega)
  obtain ⟨c2, a2, z2, f2, v1, v2, v3, v4, v5⟩ := w2_N hC.w (show 12 + 2 * i < 19 by omega)
  have hb := rb_of hl
  have l1 : z1 ≤ 100 := isD_size w4 (by rw [e2]; exact hb.1)
  have l2 : z2 ≤ 100 := isD_size v4 (by rw [e3]; exact hb.2)
  refine gMet_r (c_Fr_copy l D cA lo MC MS G B (a.fr i) (20 + i) (a.ad (11 + 2 * i)) (a.ad (12 + 2 * i)) r1.num r1.den q1 a1 z1 c1 (11 + 2 * i) f1 _ w1 w2 w3 w5 w4 a2 z2 c2 (12 + 2 * i) f2 _ v1 v2 v3 v5 v4 (by omega) (by omega) e2 e3 hX1 (by omega) (by omega) (by omega)) ?_
  rintro r u ⟨g1, g2, g3, g4⟩
  exact ⟨g1, g2, g3, by omega⟩
end CC2
