set_option maxHeartbeats 4000000 in
set_option maxRecDepth 100000 in
theorem n_findFactors (l : Launch) (D : va_G) (cA : Nat → ClassId) (lo MC MS : Nat) (G : gT) (B : Nat × Nat) (X : Nat × Nat) (ad V : Nat → Nat) (hW : w2 cA X ad V (G, B)) (hX1 : X.1 ≤ MC) (hX2 : X.2 ≤ MS) (hd hc : Nat) (fa fb fc fd : Int64) (hhc : G hc = some (19, .inr (1, [.ref hd, .ref (ad 3), .ref (ad 4), .long fa, .long fb, .long fc, .long fd]))) (A Bn : Nat) (hA : V 3 = A) (hBn : V 4 = Bn) (hBA : Bn ≤ A) (hA2 : 1000000000 ^ 2 ≤ A) : gMet l y_Cd_findFactors w_Cd_findFactors 2 45 D clS (gtys cA) lo MC MS [.ref hc] G B (gQi D clS lo (fun r u => u.2 = B ∧ ∃ (S x0 y0 : Nat) (a b c d x y : Int), lh_I A Bn S x0 y0 a b c d x y ∧ u.1 hc = some (19, .inr (1, [.ref hd, .ref (ad 3), .ref (ad 4), .long (lI a), .long (lI b), .long (lI c), .long (lI d)])) ∧ gfr (fun t => t = 19) G u.1 ∧ ((r = nI 0 ∧ b = 0) ∨ (r = nI 1 ∧ b ≠ 0)))) := by
  refine g_metz (cc := prog_3_method_4_code) (nL := 15) (L := [(0, .ref hc)]) (by decide +kernel) rfl (Nat.le_of_ble_eq_true rfl) rfl ?_
  intro p e R s m args below meth c Q hF hRc hRs hRf hRl hret
  obtain ⟨hx, hb, hr, hml, hts0, hown, hlocks, hin, hK, hlo, hZ⟩ := hF
  have hts : ∀ w ∈ tbg, w.before args s = true := fun w h => hts0 w (List.mem_cons_of_mem _ h)
  have hW0 := hW
  obtain ⟨κ, hκ, hb1, hb2⟩ := hW0
  have hBl := w2_le hW
  have hB1 : B.1 ≤ MC := by omega
  have hB2 : B.2 ≤ MS := by omega
  obtain ⟨⟨a3, z3, f3, gh3, ga3, gz3, gD3⟩, gc3⟩ := hκ 3 (by decide)
  rw [hA] at gD3
  obtain ⟨⟨a4, z4, f4, gh4, ga4, gz4, gD4⟩, gc4⟩ := hκ 4 (by decide)
  obtain ⟨kz, hkz⟩ : ∃ kz, z3 = kz + 3 := by
    refine ⟨z3 - 3, ?_⟩
    rcases Nat.lt_or_ge z3 3 with q | q
    · exfalso
      have h1 := isD_lt gD3
      have h2 : 1000000000 ^ z3 ≤ 1000000000 ^ 2 := Nat.pow_le_pow_right (by decide) (by omega)
      omega
    · omega
  subst hkz
  have hAlt := isD_lt gD3
  have hl3 := gD3.1
  refine gs (pc' := 1) (fun _ _ _ _ _ hl => lv_aload_n hx hb d_Cd_findFactors_0 rfl (lv_at hl 0 rfl)) ?_
  refine g_get hx hb hts hin_Cd hown hK hhc rfl 1 (by decide) (hts _ wm107) (fun _ h9 => h9) rfl d_Cd_findFactors_1 ?_
  refine gs (pc' := 5) (fun _ _ _ _ _ hl => lv_aload_n hx hb d_Cd_findFactors_4 rfl (lv_at hl 0 rfl)) ?_
  refine g_get hx hb hts hin_Cd hown hK hhc rfl 1 (by decide) (hts _ wm107) (fun _ h9 => h9) rfl d_Cd_findFactors_5 ?_
  refine g_get hx hb hts hin_Na hown hK gh3 rfl 1 (by decide) (hts _ wm77) (fun _ h9 => h9) rfl d_Cd_findFactors_8 ?_
  refine gs (pc' := 12) (fun _ _ _ _ _ hl => lv_iconst (v := nI 1) hx hb d_Cd_findFactors_11 (by decide)) ?_
  refine gs (pc' := 13) (fun _ _ _ _ _ hl => lv_isub hx hb d_Cd_findFactors_12) ?_
  refine g_eqi (show (nI (kz + 3)) - (nI 1) = nI (kz + 2) from (pk_sub (by omega)).trans (congrArg nI (show (kz + 3) - 1 = kz + 2 by omega))) ?_
  refine g_outi hlo (g_runV (As := [.int (nI (kz + 2))]) (rest := []) ⟨hx, hb, hml, hown, hts⟩ hK hZ hRc hRs (c_Na_limb l D cA lo MC MS G B 3 (ad 3) a3 (kz + 3) (κ 3) f3 gh3 ga3 (by omega) (by omega) (nI (kz + 2)) hB1 hB2) (fun _ _ => cwV 1 hts (tb_good (tb_cons wm417 (tb_cons wm418 (tb_cons wm419 (tb_cons wm5 k_Na_limb))))) rfl rfl rfl (by decide +kernel) ⟨by rw [hRf]; exact Nat.le_of_ble_eq_true rfl, by rw [hRl]; exact Nat.le_of_ble_eq_true rfl⟩) gh3 rfl hB1 hB2 rfl (Nat.le_of_ble_eq_true rfl) d_Cd_findFactors_13) (fun r_4 G_1 B_2 p_3 => ?_)
  obtain ⟨u_5, v_6⟩ := p_3
  cases u_5
  rw [limb_dx hl3 (by omega)] at v_6
  subst v_6
  have b_7 : dx f3 (kz + 3) (kz + 2) < 1000000000 := dx_lt hl3
  have htb : df f3 (kz + 2) < 1000000000 := (hl3 (kz + 2) (by omega)).2
  refine g_eqi (show nI (dx f3 (kz + 3) (kz + 2)) = nI (df f3 (kz + 2)) from congrArg nI (dx_in (by omega))) ?_
  refine g_outi hlo (g_runS (As := [.int (nI (df f3 (kz + 2)))]) (rest := []) ⟨hx, hb, hml, hown, hts⟩ hK hZ hRc hRs (c_Na_digitsOfLimb l D cA lo MC MS G B (df f3 (kz + 2)) (by simp only [Nat.reducePow]; omega) hB1 hB2) (fun _ _ => va_cwS 1 hts (tb_good (tb_cons wm421 (tb_cons wm422 (tb_cons wm5 k_Na_digitsOfLimb)))) rfl rfl rfl (by decide +kernel) ⟨by rw [hRf]; exact Nat.le_of_ble_eq_true rfl, by rw [hRl]; exact Nat.le_of_ble_eq_true rfl⟩) hB1 hB2 rfl (Nat.le_of_ble_eq_true rfl) d_Cd_findFactors_16) (fun r_11 G_8 B_9 p_10 => ?_)
  obtain ⟨e_13, d_12, e_14, e_15, e_16, e_17, e_18⟩ := p_10
  cases e_13
  subst e_14
  refine gst (pc' := 20) (L' := [(1, .int (nI d_12)), (0, .ref hc)]) (fun _ _ _ _ _ hl => lv_istore_n hx hb d_Cd_findFactors_19 rfl hl (by decide) rfl) ?_
  refine gs (pc' := 21) (fun _ _ _ _ _ hl => lv_aload_n hx hb d_Cd_findFactors_20 rfl (lv_at hl 1 rfl)) ?_
  refine g_get hx hb hts hin_Cd hown hK hhc rfl 1 (by decide) (hts _ wm107) (fun _ h9 => h9) rfl d_Cd_findFactors_21 ?_
  refine gs (pc' := 25) (fun _ _ _ _ _ hl => lv_aload_n hx hb d_Cd_findFactors_24 rfl (lv_at hl 1 rfl)) ?_
  refine g_get hx hb hts hin_Cd hown hK hhc rfl 1 (by decide) (hts _ wm107) (fun _ h9 => h9) rfl d_Cd_findFactors_25 ?_
  refine g_get hx hb hts hin_Na hown hK gh3 rfl 1 (by decide) (hts _ wm77) (fun _ h9 => h9) rfl d_Cd_findFactors_28 ?_
  refine gs (pc' := 32) (fun _ _ _ _ _ hl => lv_iload_n hx hb d_Cd_findFactors_31 rfl (lv_at hl 0 rfl)) ?_
  refine g_outl hlo (g_runV (As := [.int (nI (kz + 3)), .int (nI d_12)]) (rest := []) ⟨hx, hb, hml, hown, hts⟩ hK hZ hRc hRs (n_leading l D cA lo MC MS G B (fun _ => True) (ad 3) A (rd_w2' hW (by decide) trivial hA) kz d_12 (by omega) hAlt e_15 e_16 hB1 hB2) (fun _ _ => cwV 2 hts (tb_good (tb_cons wm426 (tb_cons wm427 (tb_cons wm428 (tb_cons wm5 k_Na_leading))))) rfl rfl rfl (by decide +kernel) ⟨by rw [hRf]; exact Nat.le_of_ble_eq_true rfl, by rw [hRl]; exact Nat.le_of_ble_eq_true rfl⟩) gh3 rfl hB1 hB2 rfl (Nat.le_of_ble_eq_true rfl) d_Cd_findFactors_32) (fun r_22 G_19 B_20 p_21 => ?_)
  obtain ⟨u_23, v_24⟩ := p_21
  cases u_23
  obtain ⟨S, hS⟩ : ∃ S, S = 1000000000 ^ kz * 10 ^ d_12 := ⟨_, rfl⟩
  have hS0 : 0 < S := by rw [hS]; exact Nat.mul_pos (pB_pos kz) (Nat.pow_pos (by decide))
  obtain ⟨x0, hx0⟩ : ∃ n, n = A / S := ⟨_, rfl⟩
  rw [← hS, ← hx0, lN_lI] at v_24
  subst v_24
  have hinx0 := lead_in (A := A) hS0
  rw [← hx0] at hinx0
  have hx18 : x0 < 1000000000000000000 := by rw [hx0, hS]; exact lead_lt gD3 e_17
  refine gst (pc' := 36) (L' := [(2, .long (lI (x0 : Int))), (1, .int (nI d_12)), (0, .ref hc)]) (fun _ _ _ _ _ hl => lv_lstore_n hx hb d_Cd_findFactors_35 rfl hl (by decide) rfl) ?_
  refine gs (pc' := 37) (fun _ _ _ _ _ hl => lv_aload_n hx hb d_Cd_findFactors_36 rfl (lv_at hl 2 rfl)) ?_
  refine g_get hx hb hts hin_Cd hown hK hhc rfl 2 (by decide) (hts _ wm108) (fun _ h9 => h9) rfl d_Cd_findFactors_37 ?_
  refine gs (pc' := 41) (fun _ _ _ _ _ hl => lv_aload_n hx hb d_Cd_findFactors_40 rfl (lv_at hl 2 rfl)) ?_
  refine g_get hx hb hts hin_Cd hown hK hhc rfl 1 (by decide) (hts _ wm107) (fun _ h9 => h9) rfl d_Cd_findFactors_41 ?_
  refine g_get hx hb hts hin_Na hown hK gh3 rfl 1 (by decide) (hts _ wm77) (fun _ h9 => h9) rfl d_Cd_findFactors_44 ?_
  refine gs (pc' := 48) (fun _ _ _ _ _ hl => lv_iload_n hx hb d_Cd_findFactors_47 rfl (lv_at hl 1 rfl)) ?_
  refine g_outl hlo (g_runV (As := [.int (nI (kz + 3)), .int (nI d_12)]) (rest := []) ⟨hx, hb, hml, hown, hts⟩ hK hZ hRc hRs (n_leading l D cA lo MC MS G B (fun _ => True) (ad 4) Bn (rd_w2' hW (by decide) trivial hBn) kz d_12 (by omega) (Nat.lt_of_le_of_lt hBA hAlt) e_15 e_16 hB1 hB2) (fun _ _ => cwV 2 hts (tb_good (tb_cons wm426 (tb_cons wm427 (tb_cons wm428 (tb_cons wm5 k_Na_leading))))) rfl rfl rfl (by decide +kernel) ⟨by rw [hRf]; exact Nat.le_of_ble_eq_true rfl, by rw [hRl]; exact Nat.le_of_ble_eq_true rfl⟩) gh4 rfl hB1 hB2 rfl (Nat.le_of_ble_eq_true rfl) d_Cd_findFactors_48) (fun r_28 G_25 B_26 p_27 => ?_)
  obtain ⟨u_29, v_30⟩ := p_27
  cases u_29
  obtain ⟨y0, hy0⟩ : ∃ n, n = Bn / S := ⟨_, rfl⟩
  rw [← hS, ← hy0, lN_lI] at v_30
  subst v_30
  have hiny0 := lead_in (A := Bn) hS0
  rw [← hy0] at hiny0
  refine gst (pc' := 53) (L' := [(4, .long (lI (y0 : Int))), (2, .long (lI (x0 : Int))), (1, .int (nI d_12)), (0, .ref hc)]) (fun _ _ _ _ _ hl => lv_lstore hx hb d_Cd_findFactors_51 hl (by decide) rfl) ?_
  refine gs (pc' := 54) (fun _ _ _ _ _ hl => lv_aload_n hx hb d_Cd_findFactors_53 rfl (lv_at hl 3 rfl)) ?_
  refine gs (pc' := 55) (fun _ _ _ _ _ hl => lv_lconst (v := lN 1) hx hb d_Cd_findFactors_54 (by decide)) ?_
  refine g_put (ty := .long) hx hb hts hin_Cd ty_Cd ty_Cd_ok nm_Cd hown hK hhc rfl 3 (by decide) (hts _ wm109) (fun _ h9 => h9) rfl (by decide +kernel) rfl rfl (Nat.le_of_ble_eq_true rfl) d_Cd_findFactors_55 (fun G_31 f_32 o_33 => ?_)
  have f_34 : G_31 hc = some (19, .inr (1, [.ref hd, .ref (ad 3), .ref (ad 4), .long (lN 1), .long fb, .long fc, .long fd])) := f_32
  have f_35 : G_31 (ad 3) = some (3, .inr (4, [.ref a3, .int (nI (kz + 3))])) := (o_33 _ (gne gh3 hhc (fun e => by cases e))).trans gh3
  have f_36 : G_31 a3 = some (3, .inl (cA 0, (κ 3), .inl f3)) := (o_33 _ (gne ga3 hhc (fun e => by cases e))).trans ga3
  have f_37 : G_31 (ad 4) = some (4, .inr (4, [.ref a4, .int (nI z4)])) := (o_33 _ (gne gh4 hhc (fun e => by cases e))).trans gh4
  have f_38 : G_31 a4 = some (4, .inl (cA 0, (κ 4), .inl f4)) := (o_33 _ (gne ga4 hhc (fun e => by cases e))).trans ga4
  have w_39 : gfr (fun t => t = 19) G G_31 := gfr_put gfr_rf hhc rfl o_33
  refine gs (pc' := 59) (fun _ _ _ _ _ hl => lv_aload_n hx hb d_Cd_findFactors_58 rfl (lv_at hl 3 rfl)) ?_
  refine gs (pc' := 60) (fun _ _ _ _ _ hl => lv_lconst (v := lN 0) hx hb d_Cd_findFactors_59 (by decide)) ?_
  refine g_put (ty := .long) hx hb hts hin_Cd ty_Cd ty_Cd_ok nm_Cd hown hK f_34 rfl 4 (by decide) (hts _ wm110) (fun _ h9 => h9) rfl (by decide +kernel) rfl rfl (Nat.le_of_ble_eq_true rfl) d_Cd_findFactors_60 (fun G_40 f_41 o_42 => ?_)
  have f_43 : G_40 hc = some (19, .inr (1, [.ref hd, .ref (ad 3), .ref (ad 4), .long (lN 1), .long (lN 0), .long fc, .long fd])) := f_41
  have f_44 : G_40 (ad 3) = some (3, .inr (4, [.ref a3, .int (nI (kz + 3))])) := (o_42 _ (gne f_35 f_34 (fun e => by cases e))).trans f_35
  have f_45 : G_40 a3 = some (3, .inl (cA 0, (κ 3), .inl f3)) := (o_42 _ (gne f_36 f_34 (fun e => by cases e))).trans f_36
  have f_46 : G_40 (ad 4) = some (4, .inr (4, [.ref a4, .int (nI z4)])) := (o_42 _ (gne f_37 f_34 (fun e => by cases e))).trans f_37
  have f_47 : G_40 a4 = some (4, .inl (cA 0, (κ 4), .inl f4)) := (o_42 _ (gne f_38 f_34 (fun e => by cases e))).trans f_38
  have w_48 : gfr (fun t => t = 19) G G_40 := gfr_put w_39 f_34 rfl o_42
  refine gs (pc' := 64) (fun _ _ _ _ _ hl => lv_aload_n hx hb d_Cd_findFactors_63 rfl (lv_at hl 3 rfl)) ?_
  refine gs (pc' := 65) (fun _ _ _ _ _ hl => lv_lconst (v := lN 0) hx hb d_Cd_findFactors_64 (by decide)) ?_
  refine g_put (ty := .long) hx hb hts hin_Cd ty_Cd ty_Cd_ok nm_Cd hown hK f_43 rfl 5 (by decide) (hts _ wm111) (fun _ h9 => h9) rfl (by decide +kernel) rfl rfl (Nat.le_of_ble_eq_true rfl) d_Cd_findFactors_65 (fun G_49 f_50 o_51 => ?_)
  have f_52 : G_49 hc = some (19, .inr (1, [.ref hd, .ref (ad 3), .ref (ad 4), .long (lN 1), .long (lN 0), .long (lN 0), .long fd])) := f_50
  have f_53 : G_49 (ad 3) = some (3, .inr (4, [.ref a3, .int (nI (kz + 3))])) := (o_51 _ (gne f_44 f_43 (fun e => by cases e))).trans f_44
  have f_54 : G_49 a3 = some (3, .inl (cA 0, (κ 3), .inl f3)) := (o_51 _ (gne f_45 f_43 (fun e => by cases e))).trans f_45
  have f_55 : G_49 (ad 4) = some (4, .inr (4, [.ref a4, .int (nI z4)])) := (o_51 _ (gne f_46 f_43 (fun e => by cases e))).trans f_46
  have f_56 : G_49 a4 = some (4, .inl (cA 0, (κ 4), .inl f4)) := (o_51 _ (gne f_47 f_43 (fun e => by cases e))).trans f_47
  have w_57 : gfr (fun t => t = 19) G G_49 := gfr_put w_48 f_43 rfl o_51
  refine gs (pc' := 69) (fun _ _ _ _ _ hl => lv_aload_n hx hb d_Cd_findFactors_68 rfl (lv_at hl 3 rfl)) ?_
  refine gs (pc' := 70) (fun _ _ _ _ _ hl => lv_lconst (v := lN 1) hx hb d_Cd_findFactors_69 (by decide)) ?_
  refine g_put (ty := .long) hx hb hts hin_Cd ty_Cd ty_Cd_ok nm_Cd hown hK f_52 rfl 6 (by decide) (hts _ wm112) (fun _ h9 => h9) rfl (by decide +kernel) rfl rfl (Nat.le_of_ble_eq_true rfl) d_Cd_findFactors_70 (fun G_58 f_59 o_60 => ?_)
  have f_61 : G_58 hc = some (19, .inr (1, [.ref hd, .ref (ad 3), .ref (ad 4), .long (lN 1), .long (lN 0), .long (lN 0), .long (lN 1)])) := f_59
  have f_62 : G_58 (ad 3) = some (3, .inr (4, [.ref a3, .int (nI (kz + 3))])) := (o_60 _ (gne f_53 f_52 (fun e => by cases e))).trans f_53
  have f_63 : G_58 a3 = some (3, .inl (cA 0, (κ 3), .inl f3)) := (o_60 _ (gne f_54 f_52 (fun e => by cases e))).trans f_54
  have f_64 : G_58 (ad 4) = some (4, .inr (4, [.ref a4, .int (nI z4)])) := (o_60 _ (gne f_55 f_52 (fun e => by cases e))).trans f_55
  have f_65 : G_58 a4 = some (4, .inl (cA 0, (κ 4), .inl f4)) := (o_60 _ (gne f_56 f_52 (fun e => by cases e))).trans f_56
  have w_66 : gfr (fun t => t = 19) G G_58 := gfr_put w_57 f_52 rfl o_60
  refine gs (pc' := 74) (fun _ _ _ _ _ hl => lv_iconst (v := nI 0) hx hb d_Cd_findFactors_73 (by decide)) ?_
  refine gst (pc' := 76) (L' := [(6, .int (nI 0)), (4, .long (lI (y0 : Int))), (2, .long (lI (x0 : Int))), (1, .int (nI d_12)), (0, .ref hc)]) (fun _ _ _ _ _ hl => lv_istore hx hb d_Cd_findFactors_74 hl (by decide) rfl) ?_
  refine gsub [0, 1, 2, 4] rfl ?_
  have hci : G_58 hc = some (19, .inr (1, [.ref hd, .ref (ad 3), .ref (ad 4), .long (lI 1), .long (lI 0), .long (lI 0), .long (lI 1)])) := by
    have e1 : lN 1 = lI 1 := lN_lI 1
    have e0 : lN 0 = lI 0 := lN_lI 0
    rw [← e1, ← e0]
    exact f_61
  have loop : ∀ (n i : Nat) (a b cc d x y : Int) (Gk : gT), (i + n = 100) → (lh_I A Bn S x0 y0 a b cc d x y) → (gfr (fun t => t = 19) G Gk) → Gk hc = some (19, .inr (1, [.ref hd, .ref (ad 3), .ref (ad 4), .long (lI a), .long (lI b), .long (lI cc), .long (lI d)])) → gV p l e R s m args below meth c D clS lo 15 Q 76 [(6, .int (nI i)), (4, .long (lI y)), (2, .long (lI x)), (0, .ref hc)] [] Gk B := by
    intro n
    induction n with
    | zero =>
      intro i a b cc d x y Gk hi hI hfr k1
      obtain ⟨⟨ba1, ba2⟩, ⟨bb1, bb2⟩, ⟨bc1, bc2⟩, ⟨bd1, bd2⟩, ⟨bx1, bx2⟩, by1, by2⟩ := lh_nb hS0 hinx0.1 hinx0.2 hiny0.1 hiny0.2 hI
      refine gs (pc' := 78) (fun _ _ _ _ _ hl => lv_iload hx hb d_Cd_findFactors_76 (lv_at hl 0 rfl)) ?_
      refine gs (pc' := 80) (fun _ _ _ _ _ hl => lv_bipush (v := nI 100) hx hb d_Cd_findFactors_78 (by decide)) ?_
      refine gsb (pc1 := 260) (pc2 := 83) (fun _ _ _ _ _ => lv_icmp_ge (tgt := 260) hx hb d_Cd_findFactors_80 (by decide)) (fun c_67 => ?_) (fun c_67 => ?_)
      · skip
        have nc_67 : i ≥ 100 := (nn_ge (a := i) (b := 100) (by omega) (by omega)).1 c_67
        refine gs (pc' := 261) (fun _ _ _ _ _ hl => lv_aload_n hx hb d_Cd_findFactors_260 rfl (lv_at hl 3 rfl)) ?_
        refine g_get hx hb hts hin_Cd hown hK k1 rfl 4 (by decide) (hts _ wm110) (fun _ h9 => h9) rfl d_Cd_findFactors_261 ?_
        refine gs (pc' := 265) (fun _ _ _ _ _ hl => lv_lconst (v := lN 0) hx hb d_Cd_findFactors_264 (by decide)) ?_
        refine gs (pc' := 266) (fun _ _ _ _ _ hl => W.lcmp hx hb d_Cd_findFactors_265) ?_
        refine gsb (pc1 := 273) (pc2 := 269) (fun _ _ _ _ _ => lv_if_eq (tgt := 273) hx hb d_Cd_findFactors_266 (by decide)) (fun c_68 => ?_) (fun c_68 => ?_)
        · skip
          have nc_68 : b = ((0 : Nat) : Int) := (lcI_eq (a := b) (b := ((0 : Nat) : Int)) (by omega) (by omega) (by omega) (by omega)).1 (by rw [cmp_IN] at c_68; exact c_68)
          have hb0 : b = 0 := by omega
          refine gs (pc' := 274) (fun _ _ _ _ _ hl => lv_iconst (v := nI 0) hx hb d_Cd_findFactors_273 (by decide)) ?_
          exact hret 274 _ _ _ _ d_Cd_findFactors_274 hB1 hB2 (by decide) ⟨rfl, S, x0, y0, a, b, cc, d, x, y, hI, k1, hfr, Or.inl ⟨rfl, hb0⟩⟩
        · skip
          have nc_68 : b ≠ ((0 : Nat) : Int) := (lcI_eq (a := b) (b := ((0 : Nat) : Int)) (by omega) (by omega) (by omega) (by omega)).2 (by rw [cmp_IN] at c_68; exact c_68)
          have hb0 : b ≠ 0 := by omega
          refine gs (pc' := 270) (fun _ _ _ _ _ hl => lv_iconst (v := nI 1) hx hb d_Cd_findFactors_269 (by decide)) ?_
          refine gs (pc' := 274) (fun _ _ _ _ _ hl => lv_goto (tgt := 274) hx hb d_Cd_findFactors_270 (by decide)) ?_
          exact hret 274 _ _ _ _ d_Cd_findFactors_274 hB1 hB2 (by decide) ⟨rfl, S, x0, y0, a, b, cc, d, x, y, hI, k1, hfr, Or.inr ⟨rfl, hb0⟩⟩
      · skip
        have nc_67 : i < 100 := (nn_ge (a := i) (b := 100) (by omega) (by omega)).2 c_67
        exact absurd nc_67 (by omega)
    | succ n ih =>
      intro i a b cc d x y Gk hi hI hfr k1
      obtain ⟨⟨ba1, ba2⟩, ⟨bb1, bb2⟩, ⟨bc1, bc2⟩, ⟨bd1, bd2⟩, ⟨bx1, bx2⟩, by1, by2⟩ := lh_nb hS0 hinx0.1 hinx0.2 hiny0.1 hiny0.2 hI
      refine gs (pc' := 78) (fun _ _ _ _ _ hl => lv_iload hx hb d_Cd_findFactors_76 (lv_at hl 0 rfl)) ?_
      refine gs (pc' := 80) (fun _ _ _ _ _ hl => lv_bipush (v := nI 100) hx hb d_Cd_findFactors_78 (by decide)) ?_
      refine gsb (pc1 := 260) (pc2 := 83) (fun _ _ _ _ _ => lv_icmp_ge (tgt := 260) hx hb d_Cd_findFactors_80 (by decide)) (fun c_69 => ?_) (fun c_69 => ?_)
      · skip
        have nc_69 : i ≥ 100 := (nn_ge (a := i) (b := 100) (by omega) (by omega)).1 c_69
        exact absurd nc_69 (by omega)
      · skip
        have nc_69 : i < 100 := (nn_ge (a := i) (b := 100) (by omega) (by omega)).2 c_69
        refine gs (pc' := 85) (fun _ _ _ _ _ hl => lv_lload hx hb d_Cd_findFactors_83 (lv_at hl 1 rfl)) ?_
        refine gs (pc' := 86) (fun _ _ _ _ _ hl => lv_aload_n hx hb d_Cd_findFactors_85 rfl (lv_at hl 3 rfl)) ?_
        refine g_get hx hb hts hin_Cd hown hK k1 rfl 5 (by decide) (hts _ wm111) (fun _ h9 => h9) rfl d_Cd_findFactors_86 ?_
        refine gs (pc' := 90) (fun _ _ _ _ _ hl => lv_ladd hx hb d_Cd_findFactors_89) ?_
        refine g_eql (show (lI y) + (lI cc) = lI (y + cc) from lI_add _ _) ?_
        refine gs (pc' := 91) (fun _ _ _ _ _ hl => lv_lconst (v := lN 0) hx hb d_Cd_findFactors_90 (by decide)) ?_
        refine gs (pc' := 92) (fun _ _ _ _ _ hl => W.lcmp hx hb d_Cd_findFactors_91) ?_
        refine gsb (pc1 := 260) (pc2 := 95) (fun _ _ _ _ _ => lv_if_le (tgt := 260) hx hb d_Cd_findFactors_92 (by decide)) (fun c_70 => ?_) (fun c_70 => ?_)
        · skip
          have nc_70 : (y + cc) ≤ ((0 : Nat) : Int) := (lcI_le (a := (y + cc)) (b := ((0 : Nat) : Int)) (by omega) (by omega) (by omega) (by omega)).1 (by rw [cmp_IN] at c_70; exact c_70)
          refine gs (pc' := 261) (fun _ _ _ _ _ hl => lv_aload_n hx hb d_Cd_findFactors_260 rfl (lv_at hl 3 rfl)) ?_
          refine g_get hx hb hts hin_Cd hown hK k1 rfl 4 (by decide) (hts _ wm110) (fun _ h9 => h9) rfl d_Cd_findFactors_261 ?_
          refine gs (pc' := 265) (fun _ _ _ _ _ hl => lv_lconst (v := lN 0) hx hb d_Cd_findFactors_264 (by decide)) ?_
          refine gs (pc' := 266) (fun _ _ _ _ _ hl => W.lcmp hx hb d_Cd_findFactors_265) ?_
          refine gsb (pc1 := 273) (pc2 := 269) (fun _ _ _ _ _ => lv_if_eq (tgt := 273) hx hb d_Cd_findFactors_266 (by decide)) (fun c_71 => ?_) (fun c_71 => ?_)
          · skip
            have nc_71 : b = ((0 : Nat) : Int) := (lcI_eq (a := b) (b := ((0 : Nat) : Int)) (by omega) (by omega) (by omega) (by omega)).1 (by rw [cmp_IN] at c_71; exact c_71)
            have hb0 : b = 0 := by omega
            refine gs (pc' := 274) (fun _ _ _ _ _ hl => lv_iconst (v := nI 0) hx hb d_Cd_findFactors_273 (by decide)) ?_
            exact hret 274 _ _ _ _ d_Cd_findFactors_274 hB1 hB2 (by decide) ⟨rfl, S, x0, y0, a, b, cc, d, x, y, hI, k1, hfr, Or.inl ⟨rfl, hb0⟩⟩
          · skip
            have nc_71 : b ≠ ((0 : Nat) : Int) := (lcI_eq (a := b) (b := ((0 : Nat) : Int)) (by omega) (by omega) (by omega) (by omega)).2 (by rw [cmp_IN] at c_71; exact c_71)
            have hb0 : b ≠ 0 := by omega
            refine gs (pc' := 270) (fun _ _ _ _ _ hl => lv_iconst (v := nI 1) hx hb d_Cd_findFactors_269 (by decide)) ?_
            refine gs (pc' := 274) (fun _ _ _ _ _ hl => lv_goto (tgt := 274) hx hb d_Cd_findFactors_270 (by decide)) ?_
            exact hret 274 _ _ _ _ d_Cd_findFactors_274 hB1 hB2 (by decide) ⟨rfl, S, x0, y0, a, b, cc, d, x, y, hI, k1, hfr, Or.inr ⟨rfl, hb0⟩⟩
        · skip
          have nc_70 : (y + cc) > ((0 : Nat) : Int) := (lcI_le (a := (y + cc)) (b := ((0 : Nat) : Int)) (by omega) (by omega) (by omega) (by omega)).2 (by rw [cmp_IN] at c_70; exact c_70)
          have hyc : 0 < y + cc := by omega
          refine gs (pc' := 97) (fun _ _ _ _ _ hl => lv_lload hx hb d_Cd_findFactors_95 (lv_at hl 1 rfl)) ?_
          refine gs (pc' := 98) (fun _ _ _ _ _ hl => lv_aload_n hx hb d_Cd_findFactors_97 rfl (lv_at hl 3 rfl)) ?_
          refine g_get hx hb hts hin_Cd hown hK k1 rfl 6 (by decide) (hts _ wm112) (fun _ h9 => h9) rfl d_Cd_findFactors_98 ?_
          refine gs (pc' := 102) (fun _ _ _ _ _ hl => lv_ladd hx hb d_Cd_findFactors_101) ?_
          refine g_eql (show (lI y) + (lI d) = lI (y + d) from lI_add _ _) ?_
          refine gs (pc' := 103) (fun _ _ _ _ _ hl => lv_lconst (v := lN 0) hx hb d_Cd_findFactors_102 (by decide)) ?_
          refine gs (pc' := 104) (fun _ _ _ _ _ hl => W.lcmp hx hb d_Cd_findFactors_103) ?_
          refine gsb (pc1 := 260) (pc2 := 107) (fun _ _ _ _ _ => lv_if_le (tgt := 260) hx hb d_Cd_findFactors_104 (by decide)) (fun c_72 => ?_) (fun c_72 => ?_)
          · skip
            have nc_72 : (y + d) ≤ ((0 : Nat) : Int) := (lcI_le (a := (y + d)) (b := ((0 : Nat) : Int)) (by omega) (by omega) (by omega) (by omega)).1 (by rw [cmp_IN] at c_72; exact c_72)
            refine gs (pc' := 261) (fun _ _ _ _ _ hl => lv_aload_n hx hb d_Cd_findFactors_260 rfl (lv_at hl 3 rfl)) ?_
            refine g_get hx hb hts hin_Cd hown hK k1 rfl 4 (by decide) (hts _ wm110) (fun _ h9 => h9) rfl d_Cd_findFactors_261 ?_
            refine gs (pc' := 265) (fun _ _ _ _ _ hl => lv_lconst (v := lN 0) hx hb d_Cd_findFactors_264 (by decide)) ?_
            refine gs (pc' := 266) (fun _ _ _ _ _ hl => W.lcmp hx hb d_Cd_findFactors_265) ?_
            refine gsb (pc1 := 273) (pc2 := 269) (fun _ _ _ _ _ => lv_if_eq (tgt := 273) hx hb d_Cd_findFactors_266 (by decide)) (fun c_73 => ?_) (fun c_73 => ?_)
            · skip
              have nc_73 : b = ((0 : Nat) : Int) := (lcI_eq (a := b) (b := ((0 : Nat) : Int)) (by omega) (by omega) (by omega) (by omega)).1 (by rw [cmp_IN] at c_73; exact c_73)
              have hb0 : b = 0 := by omega
              refine gs (pc' := 274) (fun _ _ _ _ _ hl => lv_iconst (v := nI 0) hx hb d_Cd_findFactors_273 (by decide)) ?_
              exact hret 274 _ _ _ _ d_Cd_findFactors_274 hB1 hB2 (by decide) ⟨rfl, S, x0, y0, a, b, cc, d, x, y, hI, k1, hfr, Or.inl ⟨rfl, hb0⟩⟩
            · skip
              have nc_73 : b ≠ ((0 : Nat) : Int) := (lcI_eq (a := b) (b := ((0 : Nat) : Int)) (by omega) (by omega) (by omega) (by omega)).2 (by rw [cmp_IN] at c_73; exact c_73)
              have hb0 : b ≠ 0 := by omega
              refine gs (pc' := 270) (fun _ _ _ _ _ hl => lv_iconst (v := nI 1) hx hb d_Cd_findFactors_269 (by decide)) ?_
              refine gs (pc' := 274) (fun _ _ _ _ _ hl => lv_goto (tgt := 274) hx hb d_Cd_findFactors_270 (by decide)) ?_
              exact hret 274 _ _ _ _ d_Cd_findFactors_274 hB1 hB2 (by decide) ⟨rfl, S, x0, y0, a, b, cc, d, x, y, hI, k1, hfr, Or.inr ⟨rfl, hb0⟩⟩
          · skip
            have nc_72 : (y + d) > ((0 : Nat) : Int) := (lcI_le (a := (y + d)) (b := ((0 : Nat) : Int)) (by omega) (by omega) (by omega) (by omega)).2 (by rw [cmp_IN] at c_72; exact c_72)
            have hyd : 0 < y + d := by omega
            refine gs (pc' := 108) (fun _ _ _ _ _ hl => lv_lload_n hx hb d_Cd_findFactors_107 rfl (lv_at hl 2 rfl)) ?_
            refine gs (pc' := 109) (fun _ _ _ _ _ hl => lv_aload_n hx hb d_Cd_findFactors_108 rfl (lv_at hl 3 rfl)) ?_
            refine g_get hx hb hts hin_Cd hown hK k1 rfl 3 (by decide) (hts _ wm109) (fun _ h9 => h9) rfl d_Cd_findFactors_109 ?_
            refine gs (pc' := 113) (fun _ _ _ _ _ hl => lv_ladd hx hb d_Cd_findFactors_112) ?_
            refine g_eql (show (lI x) + (lI a) = lI (x + a) from lI_add _ _) ?_
            refine gs (pc' := 115) (fun _ _ _ _ _ hl => lv_lload hx hb d_Cd_findFactors_113 (lv_at hl 1 rfl)) ?_
            refine gs (pc' := 116) (fun _ _ _ _ _ hl => lv_aload_n hx hb d_Cd_findFactors_115 rfl (lv_at hl 3 rfl)) ?_
            refine g_get hx hb hts hin_Cd hown hK k1 rfl 5 (by decide) (hts _ wm111) (fun _ h9 => h9) rfl d_Cd_findFactors_116 ?_
            refine gs (pc' := 120) (fun _ _ _ _ _ hl => lv_ladd hx hb d_Cd_findFactors_119) ?_
            refine g_eql (show (lI y) + (lI cc) = lI (y + cc) from lI_add _ _) ?_
            refine gs (pc' := 121) (fun _ _ _ _ _ hl => lv_ldiv hx hb d_Cd_findFactors_120 (fun e9 => absurd ((lI_eq (b := 0) (by omega) (by omega) (by decide) (by decide)).mp (e9.trans (show (0 : Int64) = lI 0 from rfl))) (by omega))) ?_
            obtain ⟨q, hq⟩ : ∃ q, q = (x + a).tdiv (y + cc) := ⟨_, rfl⟩
            have hqb := tdv_bd (n := x + a) hyc
            rw [← hq] at hqb
            refine g_eql (show (lI (x + a)) / (lI (y + cc)) = lI q from (lI_tdiv (by omega) (by omega) (by omega) (by omega)).trans (congrArg lI hq.symm)) ?_
            refine gst (pc' := 123) (L' := [(7, .long (lI q)), (6, .int (nI i)), (4, .long (lI y)), (2, .long (lI x)), (0, .ref hc)]) (fun _ _ _ _ _ hl => lv_lstore hx hb d_Cd_findFactors_121 hl (by decide) rfl) ?_
            refine gs (pc' := 125) (fun _ _ _ _ _ hl => lv_lload hx hb d_Cd_findFactors_123 (lv_at hl 0 rfl)) ?_
            refine gs (pc' := 128) (fun _ _ _ _ _ hl => lv_ldc2 (v := 2000000000) hx hb hown (hts _ wm431) d_Cd_findFactors_125) ?_
            refine g_eql (show 2000000000 = lN 2000000000 from rfl) ?_
            refine gs (pc' := 129) (fun _ _ _ _ _ hl => W.lcmp hx hb d_Cd_findFactors_128) ?_
            refine gsb (pc1 := 260) (pc2 := 132) (fun _ _ _ _ _ => lv_if_gt (tgt := 260) hx hb d_Cd_findFactors_129 (by decide)) (fun c_74 => ?_) (fun c_74 => ?_)
            · skip
              have nc_74 : q > ((2000000000 : Nat) : Int) := (lcI_gt (a := q) (b := ((2000000000 : Nat) : Int)) (by omega) (by omega) (by omega) (by omega)).1 (by rw [cmp_IN] at c_74; exact c_74)
              refine gs (pc' := 261) (fun _ _ _ _ _ hl => lv_aload_n hx hb d_Cd_findFactors_260 rfl (lv_at hl 4 rfl)) ?_
              refine g_get hx hb hts hin_Cd hown hK k1 rfl 4 (by decide) (hts _ wm110) (fun _ h9 => h9) rfl d_Cd_findFactors_261 ?_
              refine gs (pc' := 265) (fun _ _ _ _ _ hl => lv_lconst (v := lN 0) hx hb d_Cd_findFactors_264 (by decide)) ?_
              refine gs (pc' := 266) (fun _ _ _ _ _ hl => W.lcmp hx hb d_Cd_findFactors_265) ?_
              refine gsb (pc1 := 273) (pc2 := 269) (fun _ _ _ _ _ => lv_if_eq (tgt := 273) hx hb d_Cd_findFactors_266 (by decide)) (fun c_75 => ?_) (fun c_75 => ?_)
              · skip
                have nc_75 : b = ((0 : Nat) : Int) := (lcI_eq (a := b) (b := ((0 : Nat) : Int)) (by omega) (by omega) (by omega) (by omega)).1 (by rw [cmp_IN] at c_75; exact c_75)
                have hb0 : b = 0 := by omega
                refine gs (pc' := 274) (fun _ _ _ _ _ hl => lv_iconst (v := nI 0) hx hb d_Cd_findFactors_273 (by decide)) ?_
                exact hret 274 _ _ _ _ d_Cd_findFactors_274 hB1 hB2 (by decide) ⟨rfl, S, x0, y0, a, b, cc, d, x, y, hI, k1, hfr, Or.inl ⟨rfl, hb0⟩⟩
              · skip
                have nc_75 : b ≠ ((0 : Nat) : Int) := (lcI_eq (a := b) (b := ((0 : Nat) : Int)) (by omega) (by omega) (by omega) (by omega)).2 (by rw [cmp_IN] at c_75; exact c_75)
                have hb0 : b ≠ 0 := by omega
                refine gs (pc' := 270) (fun _ _ _ _ _ hl => lv_iconst (v := nI 1) hx hb d_Cd_findFactors_269 (by decide)) ?_
                refine gs (pc' := 274) (fun _ _ _ _ _ hl => lv_goto (tgt := 274) hx hb d_Cd_findFactors_270 (by decide)) ?_
                exact hret 274 _ _ _ _ d_Cd_findFactors_274 hB1 hB2 (by decide) ⟨rfl, S, x0, y0, a, b, cc, d, x, y, hI, k1, hfr, Or.inr ⟨rfl, hb0⟩⟩
            · skip
              have nc_74 : q ≤ ((2000000000 : Nat) : Int) := (lcI_gt (a := q) (b := ((2000000000 : Nat) : Int)) (by omega) (by omega) (by omega) (by omega)).2 (by rw [cmp_IN] at c_74; exact c_74)
              refine gs (pc' := 134) (fun _ _ _ _ _ hl => lv_lload hx hb d_Cd_findFactors_132 (lv_at hl 0 rfl)) ?_
              refine gs (pc' := 135) (fun _ _ _ _ _ hl => lv_lload_n hx hb d_Cd_findFactors_134 rfl (lv_at hl 3 rfl)) ?_
              refine gs (pc' := 136) (fun _ _ _ _ _ hl => lv_aload_n hx hb d_Cd_findFactors_135 rfl (lv_at hl 4 rfl)) ?_
              refine g_get hx hb hts hin_Cd hown hK k1 rfl 4 (by decide) (hts _ wm110) (fun _ h9 => h9) rfl d_Cd_findFactors_136 ?_
              refine gs (pc' := 140) (fun _ _ _ _ _ hl => lv_ladd hx hb d_Cd_findFactors_139) ?_
              refine g_eql (show (lI x) + (lI b) = lI (x + b) from lI_add _ _) ?_
              refine gs (pc' := 142) (fun _ _ _ _ _ hl => lv_lload hx hb d_Cd_findFactors_140 (lv_at hl 2 rfl)) ?_
              refine gs (pc' := 143) (fun _ _ _ _ _ hl => lv_aload_n hx hb d_Cd_findFactors_142 rfl (lv_at hl 4 rfl)) ?_
              refine g_get hx hb hts hin_Cd hown hK k1 rfl 6 (by decide) (hts _ wm112) (fun _ h9 => h9) rfl d_Cd_findFactors_143 ?_
              refine gs (pc' := 147) (fun _ _ _ _ _ hl => lv_ladd hx hb d_Cd_findFactors_146) ?_
              refine g_eql (show (lI y) + (lI d) = lI (y + d) from lI_add _ _) ?_
              refine gs (pc' := 148) (fun _ _ _ _ _ hl => lv_ldiv hx hb d_Cd_findFactors_147 (fun e9 => absurd ((lI_eq (b := 0) (by omega) (by omega) (by decide) (by decide)).mp (e9.trans (show (0 : Int64) = lI 0 from rfl))) (by omega))) ?_
              obtain ⟨q2, hq2⟩ : ∃ q2, q2 = (x + b).tdiv (y + d) := ⟨_, rfl⟩
              have hqb2 := tdv_bd (n := x + b) hyd
              rw [← hq2] at hqb2
              refine g_eql (show (lI (x + b)) / (lI (y + d)) = lI q2 from (lI_tdiv (by omega) (by omega) (by omega) (by omega)).trans (congrArg lI hq2.symm)) ?_
              refine gs (pc' := 149) (fun _ _ _ _ _ hl => W.lcmp hx hb d_Cd_findFactors_148) ?_
              refine gsb (pc1 := 155) (pc2 := 152) (fun _ _ _ _ _ => lv_if_eq (tgt := 155) hx hb d_Cd_findFactors_149 (by decide)) (fun c_76 => ?_) (fun c_76 => ?_)
              · skip
                have nc_76 : q = q2 := (lcI_eq (a := q) (b := q2) (by omega) (by omega) (by omega) (by omega)).1 c_76
                have hqq : q = q2 := by omega
                have hq1 := lh_qq hS0 hinx0.1 hinx0.2 hiny0.1 hiny0.2 hI hyc hyd hq (hqq.trans hq2)
                have hpc := pb_mul (q := q) (c := cc) (by omega) (by omega) bc1 bc2
                have hpd := pb_mul (q := q) (c := d) (by omega) (by omega) bd1 bd2
                refine gs (pc' := 156) (fun _ _ _ _ _ hl => lv_aload_n hx hb d_Cd_findFactors_155 rfl (lv_at hl 4 rfl)) ?_
                refine g_get hx hb hts hin_Cd hown hK k1 rfl 3 (by decide) (hts _ wm109) (fun _ h9 => h9) rfl d_Cd_findFactors_156 ?_
                refine gs (pc' := 161) (fun _ _ _ _ _ hl => lv_lload hx hb d_Cd_findFactors_159 (lv_at hl 0 rfl)) ?_
                refine gs (pc' := 162) (fun _ _ _ _ _ hl => lv_aload_n hx hb d_Cd_findFactors_161 rfl (lv_at hl 4 rfl)) ?_
                refine g_get hx hb hts hin_Cd hown hK k1 rfl 5 (by decide) (hts _ wm111) (fun _ h9 => h9) rfl d_Cd_findFactors_162 ?_
                refine gs (pc' := 166) (fun _ _ _ _ _ hl => lv_lmul hx hb d_Cd_findFactors_165) ?_
                refine g_eql (show (lI q) * (lI cc) = lI (q * cc) from lI_mul _ _) ?_
                refine gs (pc' := 167) (fun _ _ _ _ _ hl => lv_lsub hx hb d_Cd_findFactors_166) ?_
                refine g_eql (show (lI a) - (lI (q * cc)) = lI (a - (q * cc)) from lI_sub _ _) ?_
                refine gst (pc' := 169) (L' := [(9, .long (lI (a - (q * cc)))), (7, .long (lI q)), (6, .int (nI i)), (4, .long (lI y)), (2, .long (lI x)), (0, .ref hc)]) (fun _ _ _ _ _ hl => lv_lstore hx hb d_Cd_findFactors_167 hl (by decide) rfl) ?_
                refine gs (pc' := 170) (fun _ _ _ _ _ hl => lv_aload_n hx hb d_Cd_findFactors_169 rfl (lv_at hl 5 rfl)) ?_
                refine g_get hx hb hts hin_Cd hown hK k1 rfl 4 (by decide) (hts _ wm110) (fun _ h9 => h9) rfl d_Cd_findFactors_170 ?_
                refine gs (pc' := 175) (fun _ _ _ _ _ hl => lv_lload hx hb d_Cd_findFactors_173 (lv_at hl 1 rfl)) ?_
                refine gs (pc' := 176) (fun _ _ _ _ _ hl => lv_aload_n hx hb d_Cd_findFactors_175 rfl (lv_at hl 5 rfl)) ?_
                refine g_get hx hb hts hin_Cd hown hK k1 rfl 6 (by decide) (hts _ wm112) (fun _ h9 => h9) rfl d_Cd_findFactors_176 ?_
                refine gs (pc' := 180) (fun _ _ _ _ _ hl => lv_lmul hx hb d_Cd_findFactors_179) ?_
                refine g_eql (show (lI q) * (lI d) = lI (q * d) from lI_mul _ _) ?_
                refine gs (pc' := 181) (fun _ _ _ _ _ hl => lv_lsub hx hb d_Cd_findFactors_180) ?_
                refine g_eql (show (lI b) - (lI (q * d)) = lI (b - (q * d)) from lI_sub _ _) ?_
                refine gst (pc' := 183) (L' := [(11, .long (lI (b - (q * d)))), (9, .long (lI (a - (q * cc)))), (7, .long (lI q)), (6, .int (nI i)), (4, .long (lI y)), (2, .long (lI x)), (0, .ref hc)]) (fun _ _ _ _ _ hl => lv_lstore hx hb d_Cd_findFactors_181 hl (by decide) rfl) ?_
                refine gs (pc' := 185) (fun _ _ _ _ _ hl => lv_lload hx hb d_Cd_findFactors_183 (lv_at hl 1 rfl)) ?_
                refine g_outl hlo (g_runS (As := [.long (lI (a - (q * cc)))]) (rest := []) ⟨hx, hb, hml, hown, hts⟩ hK hZ hRc hRs (c_Math_abs l D cA lo MC MS Gk B (lI (a - (q * cc))) hB1 hB2) (fun _ _ => va_cwS 1 hts (tb_good (tb_cons wm432 (tb_cons wm210 (tb_cons wm6 k_Math_abs)))) rfl rfl rfl (by decide +kernel) ⟨by rw [hRf]; exact Nat.le_of_ble_eq_true rfl, by rw [hRl]; exact Nat.le_of_ble_eq_true rfl⟩) hB1 hB2 rfl (Nat.le_of_ble_eq_true rfl) d_Cd_findFactors_185) (fun r_80 G_77 B_78 p_79 => ?_)
                obtain ⟨u_81, v_82⟩ := p_79
                cases u_81
                rw [absL_lI (by omega) (by omega)] at v_82
                subst v_82
                refine gs (pc' := 191) (fun _ _ _ _ _ hl => lv_ldc2 (v := 2000000000) hx hb hown (hts _ wm431) d_Cd_findFactors_188) ?_
                refine g_eql (show 2000000000 = lN 2000000000 from rfl) ?_
                refine gs (pc' := 192) (fun _ _ _ _ _ hl => W.lcmp hx hb d_Cd_findFactors_191) ?_
                refine gsb (pc1 := 260) (pc2 := 195) (fun _ _ _ _ _ => lv_if_gt (tgt := 260) hx hb d_Cd_findFactors_192 (by decide)) (fun c_83 => ?_) (fun c_83 => ?_)
                · skip
                  have nc_83 : ((a - (q * cc)).natAbs : Int) > ((2000000000 : Nat) : Int) := (lcI_gt (a := ((a - (q * cc)).natAbs : Int)) (b := ((2000000000 : Nat) : Int)) (by omega) (by omega) (by omega) (by omega)).1 (by rw [cmp_IN] at c_83; exact c_83)
                  refine gs (pc' := 261) (fun _ _ _ _ _ hl => lv_aload_n hx hb d_Cd_findFactors_260 rfl (lv_at hl 6 rfl)) ?_
                  refine g_get hx hb hts hin_Cd hown hK k1 rfl 4 (by decide) (hts _ wm110) (fun _ h9 => h9) rfl d_Cd_findFactors_261 ?_
                  refine gs (pc' := 265) (fun _ _ _ _ _ hl => lv_lconst (v := lN 0) hx hb d_Cd_findFactors_264 (by decide)) ?_
                  refine gs (pc' := 266) (fun _ _ _ _ _ hl => W.lcmp hx hb d_Cd_findFactors_265) ?_
                  refine gsb (pc1 := 273) (pc2 := 269) (fun _ _ _ _ _ => lv_if_eq (tgt := 273) hx hb d_Cd_findFactors_266 (by decide)) (fun c_84 => ?_) (fun c_84 => ?_)
                  · skip
                    have nc_84 : b = ((0 : Nat) : Int) := (lcI_eq (a := b) (b := ((0 : Nat) : Int)) (by omega) (by omega) (by omega) (by omega)).1 (by rw [cmp_IN] at c_84; exact c_84)
                    have hb0 : b = 0 := by omega
                    refine gs (pc' := 274) (fun _ _ _ _ _ hl => lv_iconst (v := nI 0) hx hb d_Cd_findFactors_273 (by decide)) ?_
                    exact hret 274 _ _ _ _ d_Cd_findFactors_274 hB1 hB2 (by decide) ⟨rfl, S, x0, y0, a, b, cc, d, x, y, hI, k1, hfr, Or.inl ⟨rfl, hb0⟩⟩
                  · skip
                    have nc_84 : b ≠ ((0 : Nat) : Int) := (lcI_eq (a := b) (b := ((0 : Nat) : Int)) (by omega) (by omega) (by omega) (by omega)).2 (by rw [cmp_IN] at c_84; exact c_84)
                    have hb0 : b ≠ 0 := by omega
                    refine gs (pc' := 270) (fun _ _ _ _ _ hl => lv_iconst (v := nI 1) hx hb d_Cd_findFactors_269 (by decide)) ?_
                    refine gs (pc' := 274) (fun _ _ _ _ _ hl => lv_goto (tgt := 274) hx hb d_Cd_findFactors_270 (by decide)) ?_
                    exact hret 274 _ _ _ _ d_Cd_findFactors_274 hB1 hB2 (by decide) ⟨rfl, S, x0, y0, a, b, cc, d, x, y, hI, k1, hfr, Or.inr ⟨rfl, hb0⟩⟩
                · skip
                  have nc_83 : ((a - (q * cc)).natAbs : Int) ≤ ((2000000000 : Nat) : Int) := (lcI_gt (a := ((a - (q * cc)).natAbs : Int)) (b := ((2000000000 : Nat) : Int)) (by omega) (by omega) (by omega) (by omega)).2 (by rw [cmp_IN] at c_83; exact c_83)
                  refine gs (pc' := 197) (fun _ _ _ _ _ hl => lv_lload hx hb d_Cd_findFactors_195 (lv_at hl 0 rfl)) ?_
                  refine g_outl hlo (g_runS (As := [.long (lI (b - (q * d)))]) (rest := []) ⟨hx, hb, hml, hown, hts⟩ hK hZ hRc hRs (c_Math_abs l D cA lo MC MS Gk B (lI (b - (q * d))) hB1 hB2) (fun _ _ => va_cwS 1 hts (tb_good (tb_cons wm432 (tb_cons wm210 (tb_cons wm6 k_Math_abs)))) rfl rfl rfl (by decide +kernel) ⟨by rw [hRf]; exact Nat.le_of_ble_eq_true rfl, by rw [hRl]; exact Nat.le_of_ble_eq_true rfl⟩) hB1 hB2 rfl (Nat.le_of_ble_eq_true rfl) d_Cd_findFactors_197) (fun r_88 G_85 B_86 p_87 => ?_)
                  obtain ⟨u_89, v_90⟩ := p_87
                  cases u_89
                  rw [absL_lI (by omega) (by omega)] at v_90
                  subst v_90
                  refine gs (pc' := 203) (fun _ _ _ _ _ hl => lv_ldc2 (v := 2000000000) hx hb hown (hts _ wm431) d_Cd_findFactors_200) ?_
                  refine g_eql (show 2000000000 = lN 2000000000 from rfl) ?_
                  refine gs (pc' := 204) (fun _ _ _ _ _ hl => W.lcmp hx hb d_Cd_findFactors_203) ?_
                  refine gsb (pc1 := 210) (pc2 := 207) (fun _ _ _ _ _ => lv_if_le (tgt := 210) hx hb d_Cd_findFactors_204 (by decide)) (fun c_91 => ?_) (fun c_91 => ?_)
                  · skip
                    have nc_91 : ((b - (q * d)).natAbs : Int) ≤ ((2000000000 : Nat) : Int) := (lcI_le (a := ((b - (q * d)).natAbs : Int)) (b := ((2000000000 : Nat) : Int)) (by omega) (by omega) (by omega) (by omega)).1 (by rw [cmp_IN] at c_91; exact c_91)
                    refine gs (pc' := 211) (fun _ _ _ _ _ hl => lv_aload_n hx hb d_Cd_findFactors_210 rfl (lv_at hl 6 rfl)) ?_
                    refine gs (pc' := 212) (fun _ _ _ _ _ hl => lv_aload_n hx hb d_Cd_findFactors_211 rfl (lv_at hl 6 rfl)) ?_
                    refine g_get hx hb hts hin_Cd hown hK k1 rfl 5 (by decide) (hts _ wm111) (fun _ h9 => h9) rfl d_Cd_findFactors_212 ?_
                    refine g_put (ty := .long) hx hb hts hin_Cd ty_Cd ty_Cd_ok nm_Cd hown hK k1 rfl 3 (by decide) (hts _ wm109) (fun _ h9 => h9) rfl (by decide +kernel) rfl rfl (Nat.le_of_ble_eq_true rfl) d_Cd_findFactors_215 (fun G_92 f_93 o_94 => ?_)
                    have f_95 : G_92 hc = some (19, .inr (1, [.ref hd, .ref (ad 3), .ref (ad 4), .long (lI cc), .long (lI b), .long (lI cc), .long (lI d)])) := f_93
                    have w_96 : gfr (fun t => t = 19) G G_92 := gfr_put hfr k1 rfl o_94
                    refine gs (pc' := 219) (fun _ _ _ _ _ hl => lv_aload_n hx hb d_Cd_findFactors_218 rfl (lv_at hl 6 rfl)) ?_
                    refine gs (pc' := 220) (fun _ _ _ _ _ hl => lv_aload_n hx hb d_Cd_findFactors_219 rfl (lv_at hl 6 rfl)) ?_
                    refine g_get hx hb hts hin_Cd hown hK f_95 rfl 6 (by decide) (hts _ wm112) (fun _ h9 => h9) rfl d_Cd_findFactors_220 ?_
                    refine g_put (ty := .long) hx hb hts hin_Cd ty_Cd ty_Cd_ok nm_Cd hown hK f_95 rfl 4 (by decide) (hts _ wm110) (fun _ h9 => h9) rfl (by decide +kernel) rfl rfl (Nat.le_of_ble_eq_true rfl) d_Cd_findFactors_223 (fun G_97 f_98 o_99 => ?_)
                    have f_100 : G_97 hc = some (19, .inr (1, [.ref hd, .ref (ad 3), .ref (ad 4), .long (lI cc), .long (lI d), .long (lI cc), .long (lI d)])) := f_98
                    have w_101 : gfr (fun t => t = 19) G G_97 := gfr_put w_96 f_95 rfl o_99
                    refine gs (pc' := 227) (fun _ _ _ _ _ hl => lv_aload_n hx hb d_Cd_findFactors_226 rfl (lv_at hl 6 rfl)) ?_
                    refine gs (pc' := 229) (fun _ _ _ _ _ hl => lv_lload hx hb d_Cd_findFactors_227 (lv_at hl 1 rfl)) ?_
                    refine g_put (ty := .long) hx hb hts hin_Cd ty_Cd ty_Cd_ok nm_Cd hown hK f_100 rfl 5 (by decide) (hts _ wm111) (fun _ h9 => h9) rfl (by decide +kernel) rfl rfl (Nat.le_of_ble_eq_true rfl) d_Cd_findFactors_229 (fun G_102 f_103 o_104 => ?_)
                    have f_105 : G_102 hc = some (19, .inr (1, [.ref hd, .ref (ad 3), .ref (ad 4), .long (lI cc), .long (lI d), .long (lI (a - (q * cc))), .long (lI d)])) := f_103
                    have w_106 : gfr (fun t => t = 19) G G_102 := gfr_put w_101 f_100 rfl o_104
                    refine gs (pc' := 233) (fun _ _ _ _ _ hl => lv_aload_n hx hb d_Cd_findFactors_232 rfl (lv_at hl 6 rfl)) ?_
                    refine gs (pc' := 235) (fun _ _ _ _ _ hl => lv_lload hx hb d_Cd_findFactors_233 (lv_at hl 0 rfl)) ?_
                    refine g_put (ty := .long) hx hb hts hin_Cd ty_Cd ty_Cd_ok nm_Cd hown hK f_105 rfl 6 (by decide) (hts _ wm112) (fun _ h9 => h9) rfl (by decide +kernel) rfl rfl (Nat.le_of_ble_eq_true rfl) d_Cd_findFactors_235 (fun G_107 f_108 o_109 => ?_)
                    have f_110 : G_107 hc = some (19, .inr (1, [.ref hd, .ref (ad 3), .ref (ad 4), .long (lI cc), .long (lI d), .long (lI (a - (q * cc))), .long (lI (b - (q * d)))])) := f_108
                    have w_111 : gfr (fun t => t = 19) G G_107 := gfr_put w_106 f_105 rfl o_109
                    refine gs (pc' := 239) (fun _ _ _ _ _ hl => lv_lload_n hx hb d_Cd_findFactors_238 rfl (lv_at hl 5 rfl)) ?_
                    refine gs (pc' := 241) (fun _ _ _ _ _ hl => lv_lload hx hb d_Cd_findFactors_239 (lv_at hl 2 rfl)) ?_
                    refine gs (pc' := 243) (fun _ _ _ _ _ hl => lv_lload hx hb d_Cd_findFactors_241 (lv_at hl 4 rfl)) ?_
                    refine gs (pc' := 244) (fun _ _ _ _ _ hl => lv_lmul hx hb d_Cd_findFactors_243) ?_
                    refine g_eql (show (lI q) * (lI y) = lI (q * y) from lI_mul _ _) ?_
                    refine gs (pc' := 245) (fun _ _ _ _ _ hl => lv_lsub hx hb d_Cd_findFactors_244) ?_
                    refine g_eql (show (lI x) - (lI (q * y)) = lI (x - (q * y)) from lI_sub _ _) ?_
                    refine gst (pc' := 247) (L' := [(13, .long (lI (x - (q * y)))), (11, .long (lI (b - (q * d)))), (9, .long (lI (a - (q * cc)))), (7, .long (lI q)), (6, .int (nI i)), (4, .long (lI y)), (2, .long (lI x)), (0, .ref hc)]) (fun _ _ _ _ _ hl => lv_lstore hx hb d_Cd_findFactors_245 hl (by decide) rfl) ?_
                    refine gs (pc' := 249) (fun _ _ _ _ _ hl => lv_lload hx hb d_Cd_findFactors_247 (lv_at hl 5 rfl)) ?_
                    refine gst (pc' := 250) (L' := [(2, .long (lI y)), (13, .long (lI (x - (q * y)))), (11, .long (lI (b - (q * d)))), (9, .long (lI (a - (q * cc)))), (7, .long (lI q)), (6, .int (nI i)), (4, .long (lI y)), (0, .ref hc)]) (fun _ _ _ _ _ hl => lv_lstore_n hx hb d_Cd_findFactors_249 rfl hl (by decide) rfl) ?_
                    refine gs (pc' := 252) (fun _ _ _ _ _ hl => lv_lload hx hb d_Cd_findFactors_250 (lv_at hl 1 rfl)) ?_
                    refine gst (pc' := 254) (L' := [(4, .long (lI (x - (q * y)))), (2, .long (lI y)), (13, .long (lI (x - (q * y)))), (11, .long (lI (b - (q * d)))), (9, .long (lI (a - (q * cc)))), (7, .long (lI q)), (6, .int (nI i)), (0, .ref hc)]) (fun _ _ _ _ _ hl => lv_lstore hx hb d_Cd_findFactors_252 hl (by decide) rfl) ?_
                    refine gst (pc' := 257) (L' := [(6, .int (nI (i + 1))), (4, .long (lI (x - (q * y)))), (2, .long (lI y)), (13, .long (lI (x - (q * y)))), (11, .long (lI (b - (q * d)))), (9, .long (lI (a - (q * cc)))), (7, .long (lI q)), (0, .ref hc)]) (fun _ _ _ _ _ hl => lv_iinc (v := nI (i + 1)) hx hb d_Cd_findFactors_254 hl (k := 6) rfl (nI_add _ 1) (by decide) rfl) ?_
                    refine gs (pc' := 76) (fun _ _ _ _ _ hl => lv_goto (tgt := 76) hx hb d_Cd_findFactors_257 (by decide)) ?_
                    refine gsub [0, 1, 2, 7] rfl ?_
                    exact ih (i + 1) cc d (a - q * cc) (b - q * d) y (x - q * y) G_107 (by omega) (lh_step hS0 hinx0.1 hinx0.2 hiny0.1 hiny0.2 hI hyc hyd hq (hqq.trans hq2) ⟨by omega, by omega⟩ ⟨by omega, by omega⟩) w_111 f_110
                  · skip
                    have nc_91 : ((b - (q * d)).natAbs : Int) > ((2000000000 : Nat) : Int) := (lcI_le (a := ((b - (q * d)).natAbs : Int)) (b := ((2000000000 : Nat) : Int)) (by omega) (by omega) (by omega) (by omega)).2 (by rw [cmp_IN] at c_91; exact c_91)
                    refine gs (pc' := 260) (fun _ _ _ _ _ hl => lv_goto (tgt := 260) hx hb d_Cd_findFactors_207 (by decide)) ?_
                    refine gs (pc' := 261) (fun _ _ _ _ _ hl => lv_aload_n hx hb d_Cd_findFactors_260 rfl (lv_at hl 6 rfl)) ?_
                    refine g_get hx hb hts hin_Cd hown hK k1 rfl 4 (by decide) (hts _ wm110) (fun _ h9 => h9) rfl d_Cd_findFactors_261 ?_
                    refine gs (pc' := 265) (fun _ _ _ _ _ hl => lv_lconst (v := lN 0) hx hb d_Cd_findFactors_264 (by decide)) ?_
                    refine gs (pc' := 266) (fun _ _ _ _ _ hl => W.lcmp hx hb d_Cd_findFactors_265) ?_
                    refine gsb (pc1 := 273) (pc2 := 269) (fun _ _ _ _ _ => lv_if_eq (tgt := 273) hx hb d_Cd_findFactors_266 (by decide)) (fun c_112 => ?_) (fun c_112 => ?_)
                    · skip
                      have nc_112 : b = ((0 : Nat) : Int) := (lcI_eq (a := b) (b := ((0 : Nat) : Int)) (by omega) (by omega) (by omega) (by omega)).1 (by rw [cmp_IN] at c_112; exact c_112)
                      have hb0 : b = 0 := by omega
                      refine gs (pc' := 274) (fun _ _ _ _ _ hl => lv_iconst (v := nI 0) hx hb d_Cd_findFactors_273 (by decide)) ?_
                      exact hret 274 _ _ _ _ d_Cd_findFactors_274 hB1 hB2 (by decide) ⟨rfl, S, x0, y0, a, b, cc, d, x, y, hI, k1, hfr, Or.inl ⟨rfl, hb0⟩⟩
                    · skip
                      have nc_112 : b ≠ ((0 : Nat) : Int) := (lcI_eq (a := b) (b := ((0 : Nat) : Int)) (by omega) (by omega) (by omega) (by omega)).2 (by rw [cmp_IN] at c_112; exact c_112)
                      have hb0 : b ≠ 0 := by omega
                      refine gs (pc' := 270) (fun _ _ _ _ _ hl => lv_iconst (v := nI 1) hx hb d_Cd_findFactors_269 (by decide)) ?_
                      refine gs (pc' := 274) (fun _ _ _ _ _ hl => lv_goto (tgt := 274) hx hb d_Cd_findFactors_270 (by decide)) ?_
                      exact hret 274 _ _ _ _ d_Cd_findFactors_274 hB1 hB2 (by decide) ⟨rfl, S, x0, y0, a, b, cc, d, x, y, hI, k1, hfr, Or.inr ⟨rfl, hb0⟩⟩
              · skip
                have nc_76 : q ≠ q2 := (lcI_eq (a := q) (b := q2) (by omega) (by omega) (by omega) (by omega)).2 c_76
                refine gs (pc' := 260) (fun _ _ _ _ _ hl => lv_goto (tgt := 260) hx hb d_Cd_findFactors_152 (by decide)) ?_
                refine gs (pc' := 261) (fun _ _ _ _ _ hl => lv_aload_n hx hb d_Cd_findFactors_260 rfl (lv_at hl 4 rfl)) ?_
                refine g_get hx hb hts hin_Cd hown hK k1 rfl 4 (by decide) (hts _ wm110) (fun _ h9 => h9) rfl d_Cd_findFactors_261 ?_
                refine gs (pc' := 265) (fun _ _ _ _ _ hl => lv_lconst (v := lN 0) hx hb d_Cd_findFactors_264 (by decide)) ?_
                refine gs (pc' := 266) (fun _ _ _ _ _ hl => W.lcmp hx hb d_Cd_findFactors_265) ?_
                refine gsb (pc1 := 273) (pc2 := 269) (fun _ _ _ _ _ => lv_if_eq (tgt := 273) hx hb d_Cd_findFactors_266 (by decide)) (fun c_113 => ?_) (fun c_113 => ?_)
                · skip
                  have nc_113 : b = ((0 : Nat) : Int) := (lcI_eq (a := b) (b := ((0 : Nat) : Int)) (by omega) (by omega) (by omega) (by omega)).1 (by rw [cmp_IN] at c_113; exact c_113)
                  have hb0 : b = 0 := by omega
                  refine gs (pc' := 274) (fun _ _ _ _ _ hl => lv_iconst (v := nI 0) hx hb d_Cd_findFactors_273 (by decide)) ?_
                  exact hret 274 _ _ _ _ d_Cd_findFactors_274 hB1 hB2 (by decide) ⟨rfl, S, x0, y0, a, b, cc, d, x, y, hI, k1, hfr, Or.inl ⟨rfl, hb0⟩⟩
                · skip
                  have nc_113 : b ≠ ((0 : Nat) : Int) := (lcI_eq (a := b) (b := ((0 : Nat) : Int)) (by omega) (by omega) (by omega) (by omega)).2 (by rw [cmp_IN] at c_113; exact c_113)
                  have hb0 : b ≠ 0 := by omega
                  refine gs (pc' := 270) (fun _ _ _ _ _ hl => lv_iconst (v := nI 1) hx hb d_Cd_findFactors_269 (by decide)) ?_
                  refine gs (pc' := 274) (fun _ _ _ _ _ hl => lv_goto (tgt := 274) hx hb d_Cd_findFactors_270 (by decide)) ?_
                  exact hret 274 _ _ _ _ d_Cd_findFactors_274 hB1 hB2 (by decide) ⟨rfl, S, x0, y0, a, b, cc, d, x, y, hI, k1, hfr, Or.inr ⟨rfl, hb0⟩⟩
  exact loop 100 0 1 0 0 1 x0 y0 G_58 (by omega) (lh_0 hBA) w_66 hci
