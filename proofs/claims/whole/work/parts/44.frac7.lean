set_option maxHeartbeats 4000000 in
set_option maxRecDepth 100000 in
theorem c_Fr_olt (l : Launch) (D : va_G) (cA : Nat → ClassId) (lo MC MS : Nat) (G : gT) (B : Nat × Nat) (n d : Nat) (hn : n < 100) (hd : d < 100) (hC : B.1 + 5 ≤ MC) (hS : B.2 + 13 ≤ MS) (hB1 : B.1 ≤ MC) (hB2 : B.2 ≤ MS) : gMet l y_Fr_ofLowestTerms w_Fr_ofLowestTerms 4 108 D clS (gtys cA) lo MC MS [.int (nI n), .int (nI d)] G B (gQr D clS lo (fun r u => gex (fun _ => False) G u.1 ∧ rf cA u.1 (fun x => x = 30) r (n : Int) d ∧ u.2.1 ≤ B.1 + 5 ∧ u.2.2 ≤ B.2 + 13)) := by
  refine g_metr (cc := prog_5_method_2_code) (nL := 3) (L := [(0, .int (nI n)), (1, .int (nI d))]) (rt := ((.object "MetreFractions$Fraction"))) (by first | exact Or.inl ⟨_, rfl⟩ | exact Or.inr ⟨_, rfl⟩) (by decide +kernel) rfl (Nat.le_of_ble_eq_true rfl) rfl ?_
  intro p e R s m args below meth c Q hF hRc hRs hRf hRl hret
  obtain ⟨hx, hb, hr, hml, hts0, hown, hlocks, hin, hK, hlo, hZ⟩ := hF
  have hts : ∀ w ∈ tbg, w.before args s = true := fun w h => hts0 w (List.mem_cons_of_mem _ h)
  refine g_tag (fun T hT0 hT => ?_)
  have hg33 : gcap 3 3 = 3 := rfl
  have hE : gex (fun _ => False) G G := gex_rf
  refine g_new hx hb hts hin_Fr ty_Fr ty_Fr_ok hown (hts _ wm182) (hts _ wm156) (hts _ wm8) hK (ci := 3) rfl (fs := [.int (nI 0), .null, .null]) (fun j => match j with | 0 => fun _ => rfl | 1 => fun _ => rfl | 2 => fun _ => rfl | n + 3 => fun h9 => absurd h9 (by omega)) hlo hRc hRs (show B.1 + 1 ≤ MC by omega) (show B.2 + 3 ≤ MS by omega) d_Fr_ofLowestTerms_0 (T + 2) (fun q_1 G_2 z_3 f_4 o_5 => ?_)
  have z_6 : G q_1 = none := gex_0 hE z_3 (fun z => z)
  have x_7 : gex (fun _ => False) G G_2 := gex_new hE z_3 o_5
  refine g_Beq (B' := (B.1 + 1, B.2 + 3)) rfl ?_
  refine gs (pc' := 4) (fun _ _ _ _ _ hl => lv_dup hx hb d_Fr_ofLowestTerms_3 rfl) ?_
  refine gs (pc' := 5) (fun _ _ _ _ _ hl => lv_iconst (v := nI 3) hx hb d_Fr_ofLowestTerms_4 (by decide)) ?_
  refine gs (pc' := 6) (fun _ _ _ _ _ hl => lv_iconst (v := nI 3) hx hb d_Fr_ofLowestTerms_5 (by decide)) ?_
  refine g_outv hlo (g_runI (b := q_1) (As := [.int (nI 3), .int (nI 3)]) (rest := [.ref q_1]) ⟨hx, hb, hml, hown, hts⟩ hK hZ hRc hRs (c_Fr_init l D cA lo MC MS G_2 (B.1 + 1, B.2 + 3) (T + 2) T (T + 1) q_1 3 3 (by omega) f_4 (by omega) (by omega) (show B.1 + 1 + 4 ≤ MC by omega) (show B.2 + 3 + 4 + 3 + 3 ≤ MS by omega) (show B.1 + 1 ≤ MC by omega) (show B.2 + 3 ≤ MS by omega)) (fun _ _ => cwI 2 hts (tb_good k_Fr_init) rfl rfl rfl (hts _ wm8) (hts _ wm183) (hts _ wm158) rfl (by decide +kernel) ⟨by rw [hRf]; exact Nat.le_of_ble_eq_true rfl, by rw [hRl]; exact Nat.le_of_ble_eq_true rfl⟩) (show B.1 + 1 ≤ MC by omega) (show B.2 + 3 ≤ MS by omega) rfl (Nat.le_of_ble_eq_true rfl) d_Fr_ofLowestTerms_6) (fun G_8 B_9 p_10 => ?_)
  obtain ⟨a_11, b_12, z_13, z_14, f_15, n_16, n_17, x_18, e_19⟩ := p_10
  have e_19 : B_9 = (B.1 + 1 + 1 + 1 + 1 + 1, B.2 + 3 + 2 + 3 + 2 + 3) := e_19
  subst e_19
  have x_20 : gex (fun _ => False) G G_8 := gex_tr x_7 x_18 (fun x y hx9 _ e => by subst e; rw [z_6] at hx9; cases hx9)
  refine gst (pc' := 10) (L' := [(2, .ref q_1), (0, .int (nI n)), (1, .int (nI d))]) (fun _ _ _ _ _ hl => lv_astore_n hx hb d_Fr_ofLowestTerms_9 rfl hl (by decide) rfl) ?_
  refine gs (pc' := 11) (fun _ _ _ _ _ hl => lv_aload_n hx hb d_Fr_ofLowestTerms_10 rfl (lv_at hl 0 rfl)) ?_
  refine gs (pc' := 12) (fun _ _ _ _ _ hl => lv_iload_n hx hb d_Fr_ofLowestTerms_11 rfl (lv_at hl 1 rfl)) ?_
  refine gsb (pc1 := 19) (pc2 := 15) (fun _ _ _ _ _ => lv_if_ne (tgt := 19) hx hb d_Fr_ofLowestTerms_12 (by decide)) (fun c_21 => ?_) (fun c_21 => ?_)
  · skip
    have nc_21 : n ≠ 0 := (n0_ne (a := n) (by omega)).1 c_21
    have hsg : nI 1 = sgI (n : Int) := (sgI_pos (by omega)).symm
    refine gs (pc' := 20) (fun _ _ _ _ _ hl => lv_iconst (v := nI 1) hx hb d_Fr_ofLowestTerms_19 (by decide)) ?_
    refine g_put (ty := .int) hx hb hts hin_Fr ty_Fr ty_Fr_ok nm_Fr hown hK f_15 rfl 0 (by decide) (hts _ wm163) (fun _ h9 => h9) rfl (by decide +kernel) rfl rfl (Nat.le_of_ble_eq_true rfl) d_Fr_ofLowestTerms_20 (fun G_22 f_23 o_24 => ?_)
    have f_25 : G_22 q_1 = some (T + 2, .inr (3, [.int (nI 1), .ref a_11, .ref b_12])) := f_23
    have x_26 : gex (fun _ => False) G G_22 := gex_put x_20 o_24 (Or.inr z_6)
    have fr_27 : gfr (fun y => y = T + 2) G_8 G_22 := gfr_put gfr_rf f_15 rfl o_24
    have n_28 : isN cA G_22 3 T a_11 0 := isN_fr n_16 fr_27 (show ¬ T = T + 2 by omega)
    have n_29 : isN cA G_22 3 (T + 1) b_12 0 := isN_fr n_17 fr_27 (show ¬ T + 1 = T + 2 by omega)
    refine gs (pc' := 24) (fun _ _ _ _ _ hl => lv_aload_n hx hb d_Fr_ofLowestTerms_23 rfl (lv_at hl 0 rfl)) ?_
    refine g_get hx hb hts hin_Fr hown hK f_25 rfl 1 (by decide) (hts _ wm166) (fun _ h9 => h9) rfl d_Fr_ofLowestTerms_24 ?_
    refine gs (pc' := 28) (fun _ _ _ _ _ hl => lv_iload_n hx hb d_Fr_ofLowestTerms_27 rfl (lv_at hl 1 rfl)) ?_
    refine gs (pc' := 29) (fun _ _ _ _ _ hl => lv_i2l (v := lN n) hx hb d_Fr_ofLowestTerms_28 (nI_l (by omega))) ?_
    obtain ⟨b_30, y_31, p_32, m_33, m_34, m_35, m_36⟩ := n_28
    refine g_outv hlo (g_runV (As := [.long (lN n)]) (rest := []) ⟨hx, hb, hml, hown, hts⟩ hK hZ hRc hRs (c_Na_setMagnitude l D cA lo MC MS G_22 (B.1 + 1 + 1 + 1 + 1 + 1, B.2 + 3 + 2 + 3 + 2 + 3) T a_11 b_30 3 (nI y_31) p_32 m_33 m_34 (by omega) (lN n) (show (B.1 + 1 + 1 + 1 + 1 + 1, B.2 + 3 + 2 + 3 + 2 + 3).1 + _ ≤ MC by rw [hg33]; omega) (show (B.1 + 1 + 1 + 1 + 1 + 1, B.2 + 3 + 2 + 3 + 2 + 3).2 + _ ≤ MS by rw [hg33]; omega) (show B.1 + 1 + 1 + 1 + 1 + 1 ≤ MC by omega) (show B.2 + 3 + 2 + 3 + 2 + 3 ≤ MS by omega)) (fun _ _ => cwV 1 hts (tb_good (tb_cons wm184 (tb_cons wm185 (tb_cons wm186 (tb_cons wm5 k_Na_setMagnitude))))) rfl rfl rfl (by decide +kernel) ⟨by rw [hRf]; exact Nat.le_of_ble_eq_true rfl, by rw [hRl]; exact Nat.le_of_ble_eq_true rfl⟩) m_33 rfl (show B.1 + 1 + 1 + 1 + 1 + 1 ≤ MC by omega) (show B.2 + 3 + 2 + 3 + 2 + 3 ≤ MS by omega) rfl (Nat.le_of_ble_eq_true rfl) d_Fr_ofLowestTerms_29) (fun G_37 B_38 p_39 => ?_)
    obtain ⟨a_40, z_41, g_42, e_43, e_44, e_45, e_46, fr_47, e_48, e_49⟩ := p_39
    rw [hg33] at e_44 e_48 e_49
    have e_48 : B_38.1 + 3 ≤ (B.1 + 1 + 1 + 1 + 1 + 1, B.2 + 3 + 2 + 3 + 2 + 3).1 + 3 := e_48
    have e_49 : B_38.2 + 2 * 3 ≤ (B.1 + 1 + 1 + 1 + 1 + 1, B.2 + 3 + 2 + 3 + 2 + 3).2 + 2 * 3 := e_49
    have f_50 : G_37 q_1 = some (T + 2, .inr (3, [.int (nI 1), .ref a_11, .ref b_12])) := fr_47 _ _ f_25 (by show ¬ T + 2 = T; omega)
    have n_51 : isN cA G_37 3 (T + 1) b_12 0 := isN_fr n_29 fr_47 (show ¬ T + 1 = T by omega)
    have n_52 : isN cA G_37 3 T a_11 n := ⟨a_40, z_41, g_42, e_43, e_44, e_45, (lN_natAbs (x := n) (by omega)) ▸ e_46⟩
    have x_53 : gex (fun _ => False) G G_37 := gex_fr x_26 fr_47 (fun x y hx9 _ hm => by have := hT x y hx9; have hm : y.1 = T := hm; omega)
    refine gs (pc' := 33) (fun _ _ _ _ _ hl => lv_aload_n hx hb d_Fr_ofLowestTerms_32 rfl (lv_at hl 0 rfl)) ?_
    refine g_get hx hb hts hin_Fr hown hK f_50 rfl 2 (by decide) (hts _ wm169) (fun _ h9 => h9) rfl d_Fr_ofLowestTerms_33 ?_
    refine gs (pc' := 37) (fun _ _ _ _ _ hl => lv_iload_n hx hb d_Fr_ofLowestTerms_36 rfl (lv_at hl 2 rfl)) ?_
    refine gs (pc' := 38) (fun _ _ _ _ _ hl => lv_i2l (v := lN d) hx hb d_Fr_ofLowestTerms_37 (nI_l (by omega))) ?_
    obtain ⟨b_54, y_55, p_56, m_57, m_58, m_59, m_60⟩ := n_51
    refine g_outv hlo (g_runV (As := [.long (lN d)]) (rest := []) ⟨hx, hb, hml, hown, hts⟩ hK hZ hRc hRs (c_Na_setMagnitude l D cA lo MC MS G_37 B_38 (T + 1) b_12 b_54 3 (nI y_55) p_56 m_57 m_58 (by omega) (lN d) (show B_38.1 + _ ≤ MC by rw [hg33]; omega) (show B_38.2 + _ ≤ MS by rw [hg33]; omega) (show B_38.1 ≤ MC by omega) (show B_38.2 ≤ MS by omega)) (fun _ _ => cwV 1 hts (tb_good (tb_cons wm184 (tb_cons wm185 (tb_cons wm186 (tb_cons wm5 k_Na_setMagnitude))))) rfl rfl rfl (by decide +kernel) ⟨by rw [hRf]; exact Nat.le_of_ble_eq_true rfl, by rw [hRl]; exact Nat.le_of_ble_eq_true rfl⟩) m_57 rfl (show B_38.1 ≤ MC by omega) (show B_38.2 ≤ MS by omega) rfl (Nat.le_of_ble_eq_true rfl) d_Fr_ofLowestTerms_38) (fun G_61 B_62 p_63 => ?_)
    obtain ⟨a_64, z_65, g_66, e_67, e_68, e_69, e_70, fr_71, e_72, e_73⟩ := p_63
    rw [hg33] at e_68 e_72 e_73
    have e_72 : B_62.1 + 3 ≤ B_38.1 + 3 := e_72
    have e_73 : B_62.2 + 2 * 3 ≤ B_38.2 + 2 * 3 := e_73
    have f_74 : G_61 q_1 = some (T + 2, .inr (3, [.int (nI 1), .ref a_11, .ref b_12])) := fr_71 _ _ f_50 (by show ¬ T + 2 = T + 1; omega)
    have n_75 : isN cA G_61 3 T a_11 n := isN_fr n_52 fr_71 (show ¬ T = T + 1 by omega)
    have n_76 : isN cA G_61 3 (T + 1) b_12 d := ⟨a_64, z_65, g_66, e_67, e_68, e_69, (lN_natAbs (x := d) (by omega)) ▸ e_70⟩
    have x_77 : gex (fun _ => False) G G_61 := gex_fr x_53 fr_71 (fun x y hx9 _ hm => by have := hT x y hx9; have hm : y.1 = T + 1 := hm; omega)
    refine gs (pc' := 42) (fun _ _ _ _ _ hl => lv_aload_n hx hb d_Fr_ofLowestTerms_41 rfl (lv_at hl 0 rfl)) ?_
    refine g_ghost (G' := retag T 30 G_61) (fun a t x h => retag_g a t x h) ?_
    exact hret 42 _ _ _ _ d_Fr_ofLowestTerms_42 (show B_62.1 ≤ MC by omega) (show B_62.2 ≤ MS by omega) ⟨retag_ex x_77 hT, ⟨30, _, _, rfl, hsg ▸ retag_new f_74 (show T ≤ T + 2 by omega), ⟨30, _, rfl, (show 3 ≤ 3000 by omega), retag_N n_75 (Nat.le_refl _)⟩, ⟨30, _, rfl, (show 3 ≤ 3000 by omega), retag_N n_76 (by omega)⟩⟩, by show B_62.1 ≤ _; omega, by show B_62.2 ≤ _; omega⟩
  · skip
    have nc_21 : n = 0 := (n0_ne (a := n) (by omega)).2 c_21
    have hsg : nI 0 = sgI (n : Int) := by rw [show (n : Int) = 0 by omega]; rfl
    refine gs (pc' := 16) (fun _ _ _ _ _ hl => lv_iconst (v := nI 0) hx hb d_Fr_ofLowestTerms_15 (by decide)) ?_
    refine gs (pc' := 20) (fun _ _ _ _ _ hl => lv_goto (tgt := 20) hx hb d_Fr_ofLowestTerms_16 (by decide)) ?_
    refine g_put (ty := .int) hx hb hts hin_Fr ty_Fr ty_Fr_ok nm_Fr hown hK f_15 rfl 0 (by decide) (hts _ wm163) (fun _ h9 => h9) rfl (by decide +kernel) rfl rfl (Nat.le_of_ble_eq_true rfl) d_Fr_ofLowestTerms_20 (fun G_78 f_79 o_80 => ?_)
    have f_81 : G_78 q_1 = some (T + 2, .inr (3, [.int (nI 0), .ref a_11, .ref b_12])) := f_79
    have x_82 : gex (fun _ => False) G G_78 := gex_put x_20 o_80 (Or.inr z_6)
    have fr_83 : gfr (fun y => y = T + 2) G_8 G_78 := gfr_put gfr_rf f_15 rfl o_80
    have n_84 : isN cA G_78 3 T a_11 0 := isN_fr n_16 fr_83 (show ¬ T = T + 2 by omega)
    have n_85 : isN cA G_78 3 (T + 1) b_12 0 := isN_fr n_17 fr_83 (show ¬ T + 1 = T + 2 by omega)
    refine gs (pc' := 24) (fun _ _ _ _ _ hl => lv_aload_n hx hb d_Fr_ofLowestTerms_23 rfl (lv_at hl 0 rfl)) ?_
    refine g_get hx hb hts hin_Fr hown hK f_81 rfl 1 (by decide) (hts _ wm166) (fun _ h9 => h9) rfl d_Fr_ofLowestTerms_24 ?_
    refine gs (pc' := 28) (fun _ _ _ _ _ hl => lv_iload_n hx hb d_Fr_ofLowestTerms_27 rfl (lv_at hl 1 rfl)) ?_
    refine gs (pc' := 29) (fun _ _ _ _ _ hl => lv_i2l (v := lN n) hx hb d_Fr_ofLowestTerms_28 (nI_l (by omega))) ?_
    obtain ⟨b_86, y_87, p_88, m_89, m_90, m_91, m_92⟩ := n_84
    refine g_outv hlo (g_runV (As := [.long (lN n)]) (rest := []) ⟨hx, hb, hml, hown, hts⟩ hK hZ hRc hRs (c_Na_setMagnitude l D cA lo MC MS G_78 (B.1 + 1 + 1 + 1 + 1 + 1, B.2 + 3 + 2 + 3 + 2 + 3) T a_11 b_86 3 (nI y_87) p_88 m_89 m_90 (by omega) (lN n) (show (B.1 + 1 + 1 + 1 + 1 + 1, B.2 + 3 + 2 + 3 + 2 + 3).1 + _ ≤ MC by rw [hg33]; omega) (show (B.1 + 1 + 1 + 1 + 1 + 1, B.2 + 3 + 2 + 3 + 2 + 3).2 + _ ≤ MS by rw [hg33]; omega) (show B.1 + 1 + 1 + 1 + 1 + 1 ≤ MC by omega) (show B.2 + 3 + 2 + 3 + 2 + 3 ≤ MS by omega)) (fun _ _ => cwV 1 hts (tb_good (tb_cons wm184 (tb_cons wm185 (tb_cons wm186 (tb_cons wm5 k_Na_setMagnitude))))) rfl rfl rfl (by decide +kernel) ⟨by rw [hRf]; exact Nat.le_of_ble_eq_true rfl, by rw [hRl]; exact Nat.le_of_ble_eq_true rfl⟩) m_89 rfl (show B.1 + 1 + 1 + 1 + 1 + 1 ≤ MC by omega) (show B.2 + 3 + 2 + 3 + 2 + 3 ≤ MS by omega) rfl (Nat.le_of_ble_eq_true rfl) d_Fr_ofLowestTerms_29) (fun G_93 B_94 p_95 => ?_)
    obtain ⟨a_96, z_97, g_98, e_99, e_100, e_101, e_102, fr_103, e_104, e_105⟩ := p_95
    rw [hg33] at e_100 e_104 e_105
    have e_104 : B_94.1 + 3 ≤ (B.1 + 1 + 1 + 1 + 1 + 1, B.2 + 3 + 2 + 3 + 2 + 3).1 + 3 := e_104
    have e_105 : B_94.2 + 2 * 3 ≤ (B.1 + 1 + 1 + 1 + 1 + 1, B.2 + 3 + 2 + 3 + 2 + 3).2 + 2 * 3 := e_105
    have f_106 : G_93 q_1 = some (T + 2, .inr (3, [.int (nI 0), .ref a_11, .ref b_12])) := fr_103 _ _ f_81 (by show ¬ T + 2 = T; omega)
    have n_107 : isN cA G_93 3 (T + 1) b_12 0 := isN_fr n_85 fr_103 (show ¬ T + 1 = T by omega)
    have n_108 : isN cA G_93 3 T a_11 n := ⟨a_96, z_97, g_98, e_99, e_100, e_101, (lN_natAbs (x := n) (by omega)) ▸ e_102⟩
    have x_109 : gex (fun _ => False) G G_93 := gex_fr x_82 fr_103 (fun x y hx9 _ hm => by have := hT x y hx9; have hm : y.1 = T := hm; omega)
    refine gs (pc' := 33) (fun _ _ _ _ _ hl => lv_aload_n hx hb d_Fr_ofLowestTerms_32 rfl (lv_at hl 0 rfl)) ?_
    refine g_get hx hb hts hin_Fr hown hK f_106 rfl 2 (by decide) (hts _ wm169) (fun _ h9 => h9) rfl d_Fr_ofLowestTerms_33 ?_
    refine gs (pc' := 37) (fun _ _ _ _ _ hl => lv_iload_n hx hb d_Fr_ofLowestTerms_36 rfl (lv_at hl 2 rfl)) ?_
    refine gs (pc' := 38) (fun _ _ _ _ _ hl => lv_i2l (v := lN d) hx hb d_Fr_ofLowestTerms_37 (nI_l (by omega))) ?_
    obtain ⟨b_110, y_111, p_112, m_113, m_114, m_115, m_116⟩ := n_107
    refine g_outv hlo (g_runV (As := [.long (lN d)]) (rest := []) ⟨hx, hb, hml, hown, hts⟩ hK hZ hRc hRs (c_Na_setMagnitude l D cA lo MC MS G_93 B_94 (T + 1) b_12 b_110 3 (nI y_111) p_112 m_113 m_114 (by omega) (lN d) (show B_94.1 + _ ≤ MC by rw [hg33]; omega) (show B_94.2 + _ ≤ MS by rw [hg33]; omega) (show B_94.1 ≤ MC by omega) (show B_94.2 ≤ MS by omega)) (fun _ _ => cwV 1 hts (tb_good (tb_cons wm184 (tb_cons wm185 (tb_cons wm186 (tb_cons wm5 k_Na_setMagnitude))))) rfl rfl rfl (by decide +kernel) ⟨by rw [hRf]; exact Nat.le_of_ble_eq_true rfl, by rw [hRl]; exact Nat.le_of_ble_eq_true rfl⟩) m_113 rfl (show B_94.1 ≤ MC by omega) (show B_94.2 ≤ MS by omega) rfl (Nat.le_of_ble_eq_true rfl) d_Fr_ofLowestTerms_38) (fun G_117 B_118 p_119 => ?_)
    obtain ⟨a_120, z_121, g_122, e_123, e_124, e_125, e_126, fr_127, e_128, e_129⟩ := p_119
    rw [hg33] at e_124 e_128 e_129
    have e_128 : B_118.1 + 3 ≤ B_94.1 + 3 := e_128
    have e_129 : B_118.2 + 2 * 3 ≤ B_94.2 + 2 * 3 := e_129
    have f_130 : G_117 q_1 = some (T + 2, .inr (3, [.int (nI 0), .ref a_11, .ref b_12])) := fr_127 _ _ f_106 (by show ¬ T + 2 = T + 1; omega)
    have n_131 : isN cA G_117 3 T a_11 n := isN_fr n_108 fr_127 (show ¬ T = T + 1 by omega)
    have n_132 : isN cA G_117 3 (T + 1) b_12 d := ⟨a_120, z_121, g_122, e_123, e_124, e_125, (lN_natAbs (x := d) (by omega)) ▸ e_126⟩
    have x_133 : gex (fun _ => False) G G_117 := gex_fr x_109 fr_127 (fun x y hx9 _ hm => by have := hT x y hx9; have hm : y.1 = T + 1 := hm; omega)
    refine gs (pc' := 42) (fun _ _ _ _ _ hl => lv_aload_n hx hb d_Fr_ofLowestTerms_41 rfl (lv_at hl 0 rfl)) ?_
    refine g_ghost (G' := retag T 30 G_117) (fun a t x h => retag_g a t x h) ?_
    exact hret 42 _ _ _ _ d_Fr_ofLowestTerms_42 (show B_118.1 ≤ MC by omega) (show B_118.2 ≤ MS by omega) ⟨retag_ex x_133 hT, ⟨30, _, _, rfl, hsg ▸ retag_new f_130 (show T ≤ T + 2 by omega), ⟨30, _, rfl, (show 3 ≤ 3000 by omega), retag_N n_131 (Nat.le_refl _)⟩, ⟨30, _, rfl, (show 3 ≤ 3000 by omega), retag_N n_132 (by omega)⟩⟩, by show B_118.1 ≤ _; omega, by show B_118.2 ≤ _; omega⟩
set_option maxHeartbeats 4000000 in
set_option maxRecDepth 100000 in
theorem n_isLong (l : Launch) (D : va_G) (cA : Nat → ClassId) (lo MC MS : Nat) (G : gT) (B : Nat × Nat) (P : Nat → Prop) (h1 : Nat) (p1 : Int) (q1 : Nat) (hr1 : rf cA G P h1 p1 q1) (hp1 : p1.natAbs < 1000000000 ^ 1500) (hq1 : q1 < 1000000000 ^ 1500) (hB1 : B.1 ≤ MC) (hB2 : B.2 ≤ MS) : gMet l y_Fr_isLong w_Fr_isLong 2 41 D clS (gtys cA) lo MC MS [.ref h1] G B (gQi D clS lo (fun r u => u = (G, B) ∧ ((r = nI 0 ∧ ¬ (m900 ≤ p1.natAbs ∨ m900 ≤ q1)) ∨ (r = nI 1 ∧ (m900 ≤ p1.natAbs ∨ m900 ≤ q1))))) := by
  refine g_metz (cc := prog_5_method_5_code) (nL := 1) (L := [(0, .ref h1)]) (by decide +kernel) rfl (Nat.le_of_ble_eq_true rfl) rfl ?_
  intro p e R s m args below meth c Q hF hRc hRs hRf hRl hret
  obtain ⟨hx, hb, hr, hml, hts0, hown, hlocks, hin, hK, hlo, hZ⟩ := hF
  have hts : ∀ w ∈ tbg, w.before args s = true := fun w h => hts0 w (List.mem_cons_of_mem _ h)
  obtain ⟨t1, a1, b1, ht1, hh1, hra1, hrb1⟩ := id hr1
  refine gs (pc' := 1) (fun _ _ _ _ _ hl => lv_aload_n hx hb d_Fr_isLong_0 rfl (lv_at hl 0 rfl)) ?_
  refine g_get hx hb hts hin_Fr hown hK hh1 rfl 1 (by decide) (hts _ wm166) (fun _ h9 => h9) rfl d_Fr_isLong_1 ?_
  obtain ⟨t9, κ9, hP9, hc9, a9, z9, f9, hh9, ha9, hz9, hD9⟩ := id hra1
  refine g_outi hlo (g_runV (As := []) (rest := []) ⟨hx, hb, hml, hown, hts⟩ hK hZ hRc hRs (n_digits l D cA lo MC MS G B P a1 p1.natAbs hra1 hB1 hB2) (fun _ _ => cwV 0 hts (tb_good (tb_cons wm503 (tb_cons wm504 (tb_cons wm505 (tb_cons wm5 k_Na_digits))))) rfl rfl rfl (by decide +kernel) ⟨by rw [hRf]; exact Nat.le_of_ble_eq_true rfl, by rw [hRl]; exact Nat.le_of_ble_eq_true rfl⟩) hh9 rfl hB1 hB2 rfl (Nat.le_of_ble_eq_true rfl) d_Fr_isLong_4) (fun r_4 G_1 B_2 p_3 => ?_)
  obtain ⟨hu9, Ka, hr9, hKa⟩ := p_3
  cases hu9
  subst hr9
  have hlKa := isK_long hKa
  have hbKa := isK_lt hKa (hp1)
  refine gs (pc' := 10) (fun _ _ _ _ _ hl => lv_sipush (v := nI 900) hx hb d_Fr_isLong_7 (by decide)) ?_
  refine gsb (pc1 := 26) (pc2 := 13) (fun _ _ _ _ _ => lv_icmp_gt (tgt := 26) hx hb d_Fr_isLong_10 (by decide)) (fun c_5 => ?_) (fun c_5 => ?_)
  · skip
    have nc_5 : Ka > 900 := (nn_gt (a := Ka) (b := 900) (by omega) (by omega)).1 c_5
    have hLL : m900 ≤ p1.natAbs ∨ m900 ≤ q1 := Or.inl (hlKa.mp (by omega))
    refine gs (pc' := 27) (fun _ _ _ _ _ hl => lv_iconst (v := nI 1) hx hb d_Fr_isLong_26 (by decide)) ?_
    refine gs (pc' := 31) (fun _ _ _ _ _ hl => lv_goto (tgt := 31) hx hb d_Fr_isLong_27 (by decide)) ?_
    exact hret 31 _ _ _ _ d_Fr_isLong_31 hB1 hB2 (by decide) ⟨rfl, Or.inr ⟨rfl, hLL⟩⟩
  · skip
    have nc_5 : Ka ≤ 900 := (nn_gt (a := Ka) (b := 900) (by omega) (by omega)).2 c_5
    have hLa : ¬ m900 ≤ p1.natAbs := fun z => absurd (hlKa.mpr z) (by omega)
    refine gs (pc' := 14) (fun _ _ _ _ _ hl => lv_aload_n hx hb d_Fr_isLong_13 rfl (lv_at hl 0 rfl)) ?_
    refine g_get hx hb hts hin_Fr hown hK hh1 rfl 2 (by decide) (hts _ wm169) (fun _ h9 => h9) rfl d_Fr_isLong_14 ?_
    obtain ⟨t9, κ9, hP9, hc9, a9, z9, f9, hh9, ha9, hz9, hD9⟩ := id hrb1
    refine g_outi hlo (g_runV (As := []) (rest := []) ⟨hx, hb, hml, hown, hts⟩ hK hZ hRc hRs (n_digits l D cA lo MC MS G B P b1 q1 hrb1 hB1 hB2) (fun _ _ => cwV 0 hts (tb_good (tb_cons wm503 (tb_cons wm504 (tb_cons wm505 (tb_cons wm5 k_Na_digits))))) rfl rfl rfl (by decide +kernel) ⟨by rw [hRf]; exact Nat.le_of_ble_eq_true rfl, by rw [hRl]; exact Nat.le_of_ble_eq_true rfl⟩) hh9 rfl hB1 hB2 rfl (Nat.le_of_ble_eq_true rfl) d_Fr_isLong_17) (fun r_9 G_6 B_7 p_8 => ?_)
    obtain ⟨hu9, Kb, hr9, hKb⟩ := p_8
    cases hu9
    subst hr9
    have hlKb := isK_long hKb
    have hbKb := isK_lt hKb (hq1)
    refine gs (pc' := 23) (fun _ _ _ _ _ hl => lv_sipush (v := nI 900) hx hb d_Fr_isLong_20 (by decide)) ?_
    refine gsb (pc1 := 30) (pc2 := 26) (fun _ _ _ _ _ => lv_icmp_le (tgt := 30) hx hb d_Fr_isLong_23 (by decide)) (fun c_10 => ?_) (fun c_10 => ?_)
    · skip
      have nc_10 : Kb ≤ 900 := (nn_le (a := Kb) (b := 900) (by omega) (by omega)).1 c_10
      have hLL : ¬ (m900 ≤ p1.natAbs ∨ m900 ≤ q1) := fun z => z.elim hLa (fun z => absurd (hlKb.mpr z) (by omega))
      refine gs (pc' := 31) (fun _ _ _ _ _ hl => lv_iconst (v := nI 0) hx hb d_Fr_isLong_30 (by decide)) ?_
      exact hret 31 _ _ _ _ d_Fr_isLong_31 hB1 hB2 (by decide) ⟨rfl, Or.inl ⟨rfl, hLL⟩⟩
    · skip
      have nc_10 : Kb > 900 := (nn_le (a := Kb) (b := 900) (by omega) (by omega)).2 c_10
      have hLL : m900 ≤ p1.natAbs ∨ m900 ≤ q1 := Or.inr (hlKb.mp (by omega))
      refine gs (pc' := 27) (fun _ _ _ _ _ hl => lv_iconst (v := nI 1) hx hb d_Fr_isLong_26 (by decide)) ?_
      refine gs (pc' := 31) (fun _ _ _ _ _ hl => lv_goto (tgt := 31) hx hb d_Fr_isLong_27 (by decide)) ?_
      exact hret 31 _ _ _ _ d_Fr_isLong_31 hB1 hB2 (by decide) ⟨rfl, Or.inr ⟨rfl, hLL⟩⟩
