set_option maxHeartbeats 4000000 in
set_option maxRecDepth 100000 in
theorem c_Mo_addHalf (l : Launch) (D : va_G) (cA : Nat → ClassId) (lo MC MS : Nat) (G : gT) (B : Nat × Nat) (hm : Nat) (A : Nat → Nat) (S : St) (th : Nat) (qm qo qk : Option Rat) (hV : MW cA hm A S th qm qo qk G) (hW : WF S) (i : Nat) (hi : i < S.rn) (jj : Nat) (hjj : jj + 1 < S.rc i) (hj : Nat) (hhj : hj < S.rc i) (cc : Rat) (hq1 : qk = some cc) (kb : Nat) (hcc : rb cc kb) (hkb : kb ≤ 1000) (hB1 : B.1 ≤ MC) (hB2 : B.2 ≤ MS) : gMet l y_Mo_addHalf w_Mo_addHalf 5 131 D clS (gtys cA) lo MC MS [.ref hm, .int (nI (16 * i + jj)), .int (nI (16 * i + hj))] G B (gQv D clS lo (fun u => u.2 = B ∧ MW cA hm A S th (some ((S.v (S.rp i (jj + 1)) - S.v (S.rp i jj)) * S.v (S.rh i hj) * mkRat 1 2 + cc)) none (some ((S.v (S.rp i (jj + 1)) - S.v (S.rp i jj)) * S.v (S.rh i hj) * mkRat 1 2 + cc)) u.1 ∧ gfr mT G u.1)) := by
  refine g_metv (cc := prog_11_method_46_code) (nL := 3) (L := [(0, .ref hm), (1, .int (nI (16 * i + jj))), (2, .int (nI (16 * i + hj)))]) (by decide +kernel) rfl (Nat.le_of_ble_eq_true rfl) rfl ?_
  intro p e R s m args below meth c Q hF hRc hRs hRf hRl hret
  obtain ⟨hx, hb, hr, hml, hts0, hown, hlocks, hin, hK, hlo, hZ⟩ := hF
  have hts : ∀ w ∈ tbg, w.before args s = true := fun w h => hts0 w (List.mem_cons_of_mem _ h)
  subst hq1
  have hn := hW.n
  have hrn := hW.rn
  have hwn := hW.wn
  have hrc9 := hW.rc i hi
  have hp1 := (hW.rp i hi jj (by omega)).1
  have hp2 := (hW.rp i hi (jj + 1) hjj).1
  have hh1 := (hW.rp i hi hj hhj).2.1
  have rbq_1 : rb (S.v (S.rp i jj)) 100 := rb_of (hW.v _ hp1).1
  have rbq_2 : rb (S.v (S.rp i (jj + 1))) 100 := rb_of (hW.v _ hp2).1
  have rbq_3 : rb (S.v (S.rh i hj)) 100 := rb_of (hW.v _ hh1).1
  refine gs (pc' := 1) (fun _ _ _ _ _ hl => lv_aload_n hx hb d_Mo_addHalf_0 rfl (lv_at hl 0 rfl)) ?_
  refine gs (pc' := 2) (fun _ _ _ _ _ hl => lv_aload_n hx hb d_Mo_addHalf_1 rfl (lv_at hl 0 rfl)) ?_
  obtain ⟨sg_4, sh_5, kt_6, kb_7, ks_8, Rr_9, kf_10, v_11, v_12, v_13, v_14, v_15, v_16, v_17⟩ := id hV
  have f_18 : G hm = some (70, .inr (9, [.int (nI th), .int (nI S.n), .ref (A 2), .ref (A 3), .ref (A 4), .ref (A 5), .int sg_4, .int sh_5, .ref (A 8), .ref (A 9), .int (nI S.rn), .ref (A 11), .ref (A 12), .ref (A 13), .int (nI S.wn), .ref (A 15), .ref (A 16), .ref (A 17), .ref (A 18), .int kt_6, .int kb_7, .int ks_8])) := v_11
  refine g_get hx hb hts hin_Mo hown hK f_18 rfl 12 (by decide) (hts _ wm766) (fun _ h9 => h9) rfl d_Mo_addHalf_2 ?_
  refine gs (pc' := 6) (fun _ _ _ _ _ hl => lv_iload_n hx hb d_Mo_addHalf_5 rfl (lv_at hl 1 rfl)) ?_
  refine gs (pc' := 7) (fun _ _ _ _ _ hl => lv_iconst (v := nI 1) hx hb d_Mo_addHalf_6 (by decide)) ?_
  refine gs (pc' := 8) (fun _ _ _ _ _ hl => lv_iadd hx hb d_Mo_addHalf_7) ?_
  refine g_eqi (show (nI (16 * i + jj)) + (nI 1) = nI (16 * i + (jj + 1)) from (nI_add _ _).trans (congrArg nI (show (16 * i + jj) + 1 = 16 * i + (jj + 1) by omega))) ?_
  obtain ⟨cor_19, pla_20, hei_21, f_22, f_23, f_24, ho_25⟩ := id v_17.2.1
  refine g_iald hx hb hK 0 f_23 rfl (show vp_in (nI (16 * i + (jj + 1))) 128 from vp_in_nI (by omega) (by omega)) d_Mo_addHalf_8 ?_
  refine g_eqi (show pla_20 (nI (16 * i + (jj + 1))).toNatClampNeg = pla_20 (16 * i + (jj + 1)) from by rw [nI_clamp (by omega)]) ?_
  refine g_eqi (show pla_20 (16 * i + (jj + 1)) = nI (S.rp i (jj + 1)) from ((ho_25 i (by omega)).2 (jj + 1) (by omega)).1) ?_
  have rbq_26 := (hW.rp i (by omega) (jj + 1) (by omega)).1
  have hV_27 : MW cA hm A S th qm qo (some cc) G := ⟨sg_4, sh_5, kt_6, kb_7, ks_8, Rr_9, _, f_18, v_12, v_13, v_14, v_15, v_16, v_17⟩
  refine g_outv hlo (g_runV (As := [.int (nI (S.rp i (jj + 1)))]) (rest := []) ⟨hx, hb, hml, hown, hts⟩ hK hZ hRc hRs (c_Mo_load l D cA lo MC MS G B hm A S th qm qo (some cc) hV_27 hW (S.rp i (jj + 1)) (by omega) hB1 hB2) (fun _ _ => cwV 1 hts (tb_good (tb_cons wm897 (tb_cons wm899 (tb_cons ws34 (tb_cons wm12 k_Mo_load))))) rfl rfl rfl (by decide +kernel) ⟨by rw [hRf]; exact Nat.le_of_ble_eq_true rfl, by rw [hRl]; exact Nat.le_of_ble_eq_true rfl⟩) f_18 rfl hB1 hB2 rfl (Nat.le_of_ble_eq_true rfl) d_Mo_addHalf_9) (fun G_28 B_29 p_30 => ?_)
  obtain ⟨e_31, hV_32, gf_33⟩ := p_30
  have e_31b : B = B_29 := e_31.symm
  subst e_31b
  have gf_34 : gfr mT G G_28 := mT_mT gfr_rf gf_33
  refine gs (pc' := 13) (fun _ _ _ _ _ hl => lv_aload_n hx hb d_Mo_addHalf_12 rfl (lv_at hl 0 rfl)) ?_
  refine gs (pc' := 14) (fun _ _ _ _ _ hl => lv_aload_n hx hb d_Mo_addHalf_13 rfl (lv_at hl 0 rfl)) ?_
  obtain ⟨sg_35, sh_36, kt_37, kb_38, ks_39, Rr_40, kf_41, v_42, v_43, v_44, v_45, v_46, v_47, v_48⟩ := id hV_32
  have f_49 : G_28 hm = some (70, .inr (9, [.int (nI th), .int (nI S.n), .ref (A 2), .ref (A 3), .ref (A 4), .ref (A 5), .int sg_35, .int sh_36, .ref (A 8), .ref (A 9), .int (nI S.rn), .ref (A 11), .ref (A 12), .ref (A 13), .int (nI S.wn), .ref (A 15), .ref (A 16), .ref (A 17), .ref (A 18), .int kt_37, .int kb_38, .int ks_39])) := v_42
  refine g_get hx hb hts hin_Mo hown hK f_49 rfl 12 (by decide) (hts _ wm766) (fun _ h9 => h9) rfl d_Mo_addHalf_14 ?_
  refine gs (pc' := 18) (fun _ _ _ _ _ hl => lv_iload_n hx hb d_Mo_addHalf_17 rfl (lv_at hl 1 rfl)) ?_
  obtain ⟨cor_50, pla_51, hei_52, f_53, f_54, f_55, ho_56⟩ := id v_48.2.1
  refine g_iald hx hb hK 0 f_54 rfl (show vp_in (nI (16 * i + jj)) 128 from vp_in_nI (by omega) (by omega)) d_Mo_addHalf_18 ?_
  refine g_eqi (show pla_51 (nI (16 * i + jj)).toNatClampNeg = pla_51 (16 * i + jj) from by rw [nI_clamp (by omega)]) ?_
  refine g_eqi (show pla_51 (16 * i + jj) = nI (S.rp i jj) from ((ho_56 i (by omega)).2 jj (by omega)).1) ?_
  have rbq_57 := (hW.rp i (by omega) jj (by omega)).1
  have hV_58 : MW cA hm A S th (some (S.v (S.rp i (jj + 1)))) qo (some cc) G_28 := ⟨sg_35, sh_36, kt_37, kb_38, ks_39, Rr_40, _, f_49, v_43, v_44, v_45, v_46, v_47, v_48⟩
  refine g_outv hlo (g_runV (As := [.int (nI (S.rp i jj))]) (rest := []) ⟨hx, hb, hml, hown, hts⟩ hK hZ hRc hRs (c_Mo_loadOther l D cA lo MC MS G_28 B hm A S th (some (S.v (S.rp i (jj + 1)))) qo (some cc) hV_58 hW (S.rp i jj) (by omega) hB1 hB2) (fun _ _ => cwV 1 hts (tb_good (tb_cons wm905 (tb_cons wm907 (tb_cons ws36 (tb_cons wm12 k_Mo_loadOther))))) rfl rfl rfl (by decide +kernel) ⟨by rw [hRf]; exact Nat.le_of_ble_eq_true rfl, by rw [hRl]; exact Nat.le_of_ble_eq_true rfl⟩) f_49 rfl hB1 hB2 rfl (Nat.le_of_ble_eq_true rfl) d_Mo_addHalf_19) (fun G_59 B_60 p_61 => ?_)
  obtain ⟨e_62, hV_63, gf_64⟩ := p_61
  have e_62b : B = B_60 := e_62.symm
  subst e_62b
  have gf_65 : gfr mT G G_59 := mT_mT gf_34 gf_64
  refine gs (pc' := 23) (fun _ _ _ _ _ hl => lv_aload_n hx hb d_Mo_addHalf_22 rfl (lv_at hl 0 rfl)) ?_
  refine gs (pc' := 24) (fun _ _ _ _ _ hl => lv_iconst (v := (-1)) hx hb d_Mo_addHalf_23 (by decide)) ?_
  refine g_eqi (show (-1) = iI (-1) from by decide) ?_
  have rbq_66 : rb ((S.v (S.rp i (jj + 1))) - (S.v (S.rp i jj))) (100 + 100 + 1) := rb_sub (j := 100) (k := 100) rbq_2 rbq_1
  obtain ⟨sg_67, sh_68, kt_69, kb_70, ks_71, Rr_72, kf_73, v_74, v_75, v_76, v_77, v_78, v_79, v_80⟩ := id hV_63
  have f_81 : G_59 hm = some (70, .inr (9, [.int (nI th), .int (nI S.n), .ref (A 2), .ref (A 3), .ref (A 4), .ref (A 5), .int sg_67, .int sh_68, .ref (A 8), .ref (A 9), .int (nI S.rn), .ref (A 11), .ref (A 12), .ref (A 13), .int (nI S.wn), .ref (A 15), .ref (A 16), .ref (A 17), .ref (A 18), .int kt_69, .int kb_70, .int ks_71])) := v_74
  have hV_82 : MW cA hm A S th (some (S.v (S.rp i (jj + 1)))) (some (S.v (S.rp i jj))) (some cc) G_59 := ⟨sg_67, sh_68, kt_69, kb_70, ks_71, Rr_72, _, f_81, v_75, v_76, v_77, v_78, v_79, v_80⟩
  refine g_outv hlo (g_runV (As := [.int (iI (-1))]) (rest := []) ⟨hx, hb, hml, hown, hts⟩ hK hZ hRc hRs (c_Mo_addOther l D cA lo MC MS G_59 B hm A S th (some (S.v (S.rp i (jj + 1)))) (some (S.v (S.rp i jj))) (some cc) hV_82 hW (S.v (S.rp i (jj + 1))) (S.v (S.rp i jj)) rfl rfl (100) rbq_2 (100) rbq_1 (by omega) (-1) ((S.v (S.rp i (jj + 1))) - (S.v (S.rp i jj))) (Or.inr ⟨rfl, rfl⟩) hB1 hB2) (fun _ _ => cwV 1 hts (tb_good (tb_cons wm909 (tb_cons wm911 (tb_cons ws37 (tb_cons wm12 k_Mo_addOther))))) rfl rfl rfl (by decide +kernel) ⟨by rw [hRf]; exact Nat.le_of_ble_eq_true rfl, by rw [hRl]; exact Nat.le_of_ble_eq_true rfl⟩) f_81 rfl hB1 hB2 rfl (Nat.le_of_ble_eq_true rfl) d_Mo_addHalf_24) (fun G_83 B_84 p_85 => ?_)
  obtain ⟨e_86, hV_87, gf_88⟩ := p_85
  have e_86b : B = B_84 := e_86.symm
  subst e_86b
  have gf_89 : gfr mT G G_83 := mT_mT gf_65 gf_88
  refine gs (pc' := 28) (fun _ _ _ _ _ hl => lv_aload_n hx hb d_Mo_addHalf_27 rfl (lv_at hl 0 rfl)) ?_
  refine gs (pc' := 29) (fun _ _ _ _ _ hl => lv_aload_n hx hb d_Mo_addHalf_28 rfl (lv_at hl 0 rfl)) ?_
  obtain ⟨sg_90, sh_91, kt_92, kb_93, ks_94, Rr_95, kf_96, v_97, v_98, v_99, v_100, v_101, v_102, v_103⟩ := id hV_87
  have f_104 : G_83 hm = some (70, .inr (9, [.int (nI th), .int (nI S.n), .ref (A 2), .ref (A 3), .ref (A 4), .ref (A 5), .int sg_90, .int sh_91, .ref (A 8), .ref (A 9), .int (nI S.rn), .ref (A 11), .ref (A 12), .ref (A 13), .int (nI S.wn), .ref (A 15), .ref (A 16), .ref (A 17), .ref (A 18), .int kt_92, .int kb_93, .int ks_94])) := v_97
  refine g_get hx hb hts hin_Mo hown hK f_104 rfl 13 (by decide) (hts _ wm767) (fun _ h9 => h9) rfl d_Mo_addHalf_29 ?_
  refine gs (pc' := 33) (fun _ _ _ _ _ hl => lv_iload_n hx hb d_Mo_addHalf_32 rfl (lv_at hl 2 rfl)) ?_
  obtain ⟨cor_105, pla_106, hei_107, f_108, f_109, f_110, ho_111⟩ := id v_103.2.1
  refine g_iald hx hb hK 0 f_110 rfl (show vp_in (nI (16 * i + hj)) 128 from vp_in_nI (by omega) (by omega)) d_Mo_addHalf_33 ?_
  refine g_eqi (show hei_107 (nI (16 * i + hj)).toNatClampNeg = hei_107 (16 * i + hj) from by rw [nI_clamp (by omega)]) ?_
  refine g_eqi (show hei_107 (16 * i + hj) = nI (S.rh i hj) from ((ho_111 i (by omega)).2 hj (by omega)).2) ?_
  have rbq_112 := (hW.rp i (by omega) hj (by omega)).2.1
  have hV_113 : MW cA hm A S th (some ((S.v (S.rp i (jj + 1))) - (S.v (S.rp i jj)))) none (some cc) G_83 := ⟨sg_90, sh_91, kt_92, kb_93, ks_94, Rr_95, _, f_104, v_98, v_99, v_100, v_101, v_102, v_103⟩
  refine g_outv hlo (g_runV (As := [.int (nI (S.rh i hj))]) (rest := []) ⟨hx, hb, hml, hown, hts⟩ hK hZ hRc hRs (c_Mo_loadOther l D cA lo MC MS G_83 B hm A S th (some ((S.v (S.rp i (jj + 1))) - (S.v (S.rp i jj)))) none (some cc) hV_113 hW (S.rh i hj) (by omega) hB1 hB2) (fun _ _ => cwV 1 hts (tb_good (tb_cons wm905 (tb_cons wm907 (tb_cons ws36 (tb_cons wm12 k_Mo_loadOther))))) rfl rfl rfl (by decide +kernel) ⟨by rw [hRf]; exact Nat.le_of_ble_eq_true rfl, by rw [hRl]; exact Nat.le_of_ble_eq_true rfl⟩) f_104 rfl hB1 hB2 rfl (Nat.le_of_ble_eq_true rfl) d_Mo_addHalf_34) (fun G_114 B_115 p_116 => ?_)
  obtain ⟨e_117, hV_118, gf_119⟩ := p_116
  have e_117b : B = B_115 := e_117.symm
  subst e_117b
  have gf_120 : gfr mT G G_114 := mT_mT gf_89 gf_119
  refine gs (pc' := 38) (fun _ _ _ _ _ hl => lv_aload_n hx hb d_Mo_addHalf_37 rfl (lv_at hl 0 rfl)) ?_
  have rbq_121 : rb (((S.v (S.rp i (jj + 1))) - (S.v (S.rp i jj))) * (S.v (S.rh i hj))) (100 + 100 + 1 + 100) := rb_mul (j := 100 + 100 + 1) (k := 100) rbq_66 rbq_3
  obtain ⟨sg_122, sh_123, kt_124, kb_125, ks_126, Rr_127, kf_128, v_129, v_130, v_131, v_132, v_133, v_134, v_135⟩ := id hV_118
  have f_136 : G_114 hm = some (70, .inr (9, [.int (nI th), .int (nI S.n), .ref (A 2), .ref (A 3), .ref (A 4), .ref (A 5), .int sg_122, .int sh_123, .ref (A 8), .ref (A 9), .int (nI S.rn), .ref (A 11), .ref (A 12), .ref (A 13), .int (nI S.wn), .ref (A 15), .ref (A 16), .ref (A 17), .ref (A 18), .int kt_124, .int kb_125, .int ks_126])) := v_129
  have hV_137 : MW cA hm A S th (some ((S.v (S.rp i (jj + 1))) - (S.v (S.rp i jj)))) (some (S.v (S.rh i hj))) (some cc) G_114 := ⟨sg_122, sh_123, kt_124, kb_125, ks_126, Rr_127, _, f_136, v_130, v_131, v_132, v_133, v_134, v_135⟩
  refine g_outv hlo (g_runV (As := []) (rest := []) ⟨hx, hb, hml, hown, hts⟩ hK hZ hRc hRs (c_Mo_timesOther l D cA lo MC MS G_114 B hm A S th (some ((S.v (S.rp i (jj + 1))) - (S.v (S.rp i jj)))) (some (S.v (S.rh i hj))) (some cc) hV_137 hW ((S.v (S.rp i (jj + 1))) - (S.v (S.rp i jj))) (S.v (S.rh i hj)) rfl rfl (100 + 100 + 1) rbq_66 (100) rbq_3 (by omega) hB1 hB2) (fun _ _ => cwV 0 hts (tb_good (tb_cons wm933 (tb_cons wm935 (tb_cons ws42 (tb_cons wm12 k_Mo_timesOther))))) rfl rfl rfl (by decide +kernel) ⟨by rw [hRf]; exact Nat.le_of_ble_eq_true rfl, by rw [hRl]; exact Nat.le_of_ble_eq_true rfl⟩) f_136 rfl hB1 hB2 rfl (Nat.le_of_ble_eq_true rfl) d_Mo_addHalf_38) (fun G_138 B_139 p_140 => ?_)
  obtain ⟨e_141, hV_142, gf_143⟩ := p_140
  have e_141b : B = B_139 := e_141.symm
  subst e_141b
  have gf_144 : gfr mT G G_138 := mT_mT gf_120 gf_143
  obtain ⟨sg_145, sh_146, kt_147, kb_148, ks_149, Rr_150, kf_151, v_152, v_153, v_154, v_155, v_156, v_157, v_158⟩ := id hV_142
  have f_159 : G_138 hm = some (70, .inr (9, [.int (nI th), .int (nI S.n), .ref (A 2), .ref (A 3), .ref (A 4), .ref (A 5), .int sg_145, .int sh_146, .ref (A 8), .ref (A 9), .int (nI S.rn), .ref (A 11), .ref (A 12), .ref (A 13), .int (nI S.wn), .ref (A 15), .ref (A 16), .ref (A 17), .ref (A 18), .int kt_147, .int kb_148, .int ks_149])) := v_152
  obtain ⟨e_160, e_161, e_162⟩ := v_155 _ rfl
  have f_163 : G_138 hm = some (70, .inr (9, [.int (nI th), .int (nI S.n), .ref (A 2), .ref (A 3), .ref (A 4), .ref (A 5), .int (iI ((((S.v (S.rp i (jj + 1))) - (S.v (S.rp i jj))) * (S.v (S.rh i hj))).num.sign)), .int sh_146, .ref (A 8), .ref (A 9), .int (nI S.rn), .ref (A 11), .ref (A 12), .ref (A 13), .int (nI S.wn), .ref (A 15), .ref (A 16), .ref (A 17), .ref (A 18), .int kt_147, .int kb_148, .int ks_149])) := by rw [← e_160]; exact f_159
  have fm_164 : ∀ r9, some (((S.v (S.rp i (jj + 1))) - (S.v (S.rp i jj))) * (S.v (S.rh i hj))) = some r9 → fc (iI ((((S.v (S.rp i (jj + 1))) - (S.v (S.rp i jj))) * (S.v (S.rh i hj))).num.sign)) (Rr_150 0) (Rr_150 1) r9 := by rw [← e_160]; exact v_155
  have s3_165 := sg3 (((S.v (S.rp i (jj + 1))) - (S.v (S.rp i jj))) * (S.v (S.rh i hj))).num
  have rbq_166 : rb ((((S.v (S.rp i (jj + 1))) - (S.v (S.rp i jj))) * (S.v (S.rh i hj))) * mkRat 1 2) (100 + 100 + 1 + 100 + 1) := rb_mul (j := 100 + 100 + 1 + 100) (k := 1) rbq_121 rb_2
  refine gs (pc' := 42) (fun _ _ _ _ _ hl => lv_aload_n hx hb d_Mo_addHalf_41 rfl (lv_at hl 0 rfl)) ?_
  refine gs (pc' := 43) (fun _ _ _ _ _ hl => lv_iconst (v := nI 1) hx hb d_Mo_addHalf_42 (by decide)) ?_
  refine gs (pc' := 46) (fun _ _ _ _ _ hl => lv_ldc2 (v := 2) hx hb hown (hts _ wm957) d_Mo_addHalf_43) ?_
  refine g_eql (show 2 = lN 2 from rfl) ?_
  refine g_outv hlo (g_runV (As := [.int (nI 1), .long (lN 2)]) (rest := []) ⟨hx, hb, hml, hown, hts⟩ hK hZ hRc hRs (c_Mo_scale l D cA lo MC MS G_138 B hm A (mi (nI th) (nI S.n) (iI ((((S.v (S.rp i (jj + 1))) - (S.v (S.rp i jj))) * (S.v (S.rh i hj))).num.sign)) sh_146 (nI S.rn) (nI S.wn) kt_147 kb_148 ks_149) f_163 Rr_150 v_153 1 (by decide) 2 (by omega) (100 + 100 + 1 + 100) (by rw [e_162]; exact rbq_121.2) (by omega) hB1 hB2) (fun _ _ => cwV 2 hts (tb_good (tb_cons wm868 (tb_cons wm870 (tb_cons ws28 (tb_cons wm12 k_Mo_scale))))) rfl rfl rfl (by decide +kernel) ⟨by rw [hRf]; exact Nat.le_of_ble_eq_true rfl, by rw [hRl]; exact Nat.le_of_ble_eq_true rfl⟩) f_163 rfl hB1 hB2 rfl (Nat.le_of_ble_eq_true rfl) d_Mo_addHalf_46) (fun G_167 B_168 p_169 => ?_)
  obtain ⟨e_170, mr_171, f_172, gf_173⟩ := p_169
  have e_170b : B = B_168 := e_170.symm
  subst e_170b
  have gf_174 : gfr mT G G_167 := mT_75 gf_144 gf_173
  have mb_175 : MB cA A S G_167 := MB_75 v_158 gf_173
  have f_176 : G_167 hm = some (70, .inr (9, [.int (nI th), .int (nI S.n), .ref (A 2), .ref (A 3), .ref (A 4), .ref (A 5), .int (iI ((((S.v (S.rp i (jj + 1))) - (S.v (S.rp i jj))) * (S.v (S.rh i hj))).num.sign)), .int sh_146, .ref (A 8), .ref (A 9), .int (nI S.rn), .ref (A 11), .ref (A 12), .ref (A 13), .int (nI S.wn), .ref (A 15), .ref (A 16), .ref (A 17), .ref (A 18), .int kt_147, .int kb_148, .int ks_149])) := f_172
  have f_177 : G_167 (A 18) = some (83, .inl (cA 0, 8600, .inl kf_151)) := gf_173 _ _ v_154 (show ¬ ((83 : Nat) = 75 ∨ (83 : Nat) = 76) by decide)
  obtain ⟨Rr_178, hR_179⟩ : ∃ y9, y9 = (fup Rr_150 1 (Rr_150 1 * 2)) := ⟨_, rfl⟩
  rw [← hR_179] at mr_171
  have e_180 : Rr_178 0 = (((S.v (S.rp i (jj + 1))) - (S.v (S.rp i jj))) * (S.v (S.rh i hj))).num.natAbs := (congrFun hR_179 0).trans e_161
  have e_181 : Rr_178 1 = ((((S.v (S.rp i (jj + 1))) - (S.v (S.rp i jj))) * (S.v (S.rh i hj))).den) * 2 := (congrFun hR_179 1).trans (by rw [← e_162]; rfl)
  have bd_182 : ((((S.v (S.rp i (jj + 1))) - (S.v (S.rp i jj))) * (S.v (S.rh i hj))).den) * 2 < 1000000000 ^ (100 + 100 + 1 + 100 + 1) := pw_sc rbq_121.2 (by omega)
  refine gs (pc' := 50) (fun _ _ _ _ _ hl => lv_aload_n hx hb d_Mo_addHalf_49 rfl (lv_at hl 0 rfl)) ?_
  have fq_183 : fq (iI ((((S.v (S.rp i (jj + 1))) - (S.v (S.rp i jj))) * (S.v (S.rh i hj))).num.sign)) ((((S.v (S.rp i (jj + 1))) - (S.v (S.rp i jj))) * (S.v (S.rh i hj))).num.natAbs) (((((S.v (S.rp i (jj + 1))) - (S.v (S.rp i jj))) * (S.v (S.rh i hj))).den) * 2) ((((S.v (S.rp i (jj + 1))) - (S.v (S.rp i jj))) * (S.v (S.rh i hj))) * mkRat 1 2) := fq_low (fc_fq ⟨rfl, rfl, rfl⟩) (by decide)
  refine g_outv hlo (g_runV (As := []) (rest := []) ⟨hx, hb, hml, hown, hts⟩ hK hZ hRc hRs (c_Mo_reduce l D cA lo MC MS G_167 B hm A (mi (nI th) (nI S.n) (iI ((((S.v (S.rp i (jj + 1))) - (S.v (S.rp i jj))) * (S.v (S.rh i hj))).num.sign)) sh_146 (nI S.rn) (nI S.wn) kt_147 kb_148 ks_149) f_176 Rr_178 mr_171 (by rw [e_181]; exact fq_183.1) (100 + 100 + 1 + 100 + 1) (by rw [e_180]; exact pw_up rbq_121.1 (by omega)) (by rw [e_181]; exact pw_up bd_182 (by omega)) (by omega) hB1 hB2) (fun _ _ => cwV 0 hts (tb_good (tb_cons wm843 (tb_cons wm845 (tb_cons ws22 (tb_cons wm12 k_Mo_reduce))))) rfl rfl rfl (by decide +kernel) ⟨by rw [hRf]; exact Nat.le_of_ble_eq_true rfl, by rw [hRl]; exact Nat.le_of_ble_eq_true rfl⟩) f_176 rfl hB1 hB2 rfl (Nat.le_of_ble_eq_true rfl) d_Mo_addHalf_50) (fun G_184 B_185 p_186 => ?_)
  obtain ⟨e_187, ⟨Rr_188, mr_189, q_190, q_191, q_192, q_193⟩, f_194, gf_195⟩ := p_186
  have e_187b : B = B_185 := e_187.symm
  subst e_187b
  obtain ⟨sg_196, e_197⟩ : ∃ y9 : Int32, y9 = if Rr_178 0 = 0 then nI 0 else (iI ((((S.v (S.rp i (jj + 1))) - (S.v (S.rp i jj))) * (S.v (S.rh i hj))).num.sign)) := ⟨_, rfl⟩
  have gf_198 : gfr mT G G_184 := mT_705 gf_174 gf_195
  have mb_199 : MB cA A S G_184 := MB_705 mb_175 gf_195
  have f_200 : G_184 hm = some (70, .inr (9, [.int (nI th), .int (nI S.n), .ref (A 2), .ref (A 3), .ref (A 4), .ref (A 5), .int sg_196, .int sh_146, .ref (A 8), .ref (A 9), .int (nI S.rn), .ref (A 11), .ref (A 12), .ref (A 13), .int (nI S.wn), .ref (A 15), .ref (A 16), .ref (A 17), .ref (A 18), .int kt_147, .int kb_148, .int ks_149])) := f_194.trans (by rw [mi_if, ← e_197]; rfl)
  have f_201 : G_184 (A 18) = some (83, .inl (cA 0, 8600, .inl kf_151)) := gf_195 _ _ f_177 (show ¬ ((83 : Nat) = 70 ∨ (83 : Nat) = 75 ∨ (83 : Nat) = 76) by decide)
  have fc_202 : fc sg_196 (Rr_188 0) (Rr_188 1) ((((S.v (S.rp i (jj + 1))) - (S.v (S.rp i jj))) * (S.v (S.rh i hj))) * mkRat 1 2) := by rw [q_190, q_191, e_197, e_180, e_181]; exact fq_fc fq_183
  refine gs (pc' := 54) (fun _ _ _ _ _ hl => lv_aload_n hx hb d_Mo_addHalf_53 rfl (lv_at hl 0 rfl)) ?_
  have hV_203 : MW cA hm A S th (some ((((S.v (S.rp i (jj + 1))) - (S.v (S.rp i jj))) * (S.v (S.rh i hj))) * mkRat 1 2)) none (some cc) G_184 := ⟨sg_196, sh_146, kt_147, kb_148, ks_149, Rr_188, _, f_200, mr_189, f_201, (sm_ fc_202), sn_, v_157, mb_199⟩
  refine g_outv hlo (g_runV (As := []) (rest := []) ⟨hx, hb, hml, hown, hts⟩ hK hZ hRc hRs (c_Mo_unstash l D cA lo MC MS G_184 B hm A S th (some ((((S.v (S.rp i (jj + 1))) - (S.v (S.rp i jj))) * (S.v (S.rh i hj))) * mkRat 1 2)) none (some cc) hV_203 hW cc rfl hB1 hB2) (fun _ _ => cwV 0 hts (tb_good (tb_cons wm996 (tb_cons wm998 (tb_cons ws47 (tb_cons wm12 k_Mo_unstash))))) rfl rfl rfl (by decide +kernel) ⟨by rw [hRf]; exact Nat.le_of_ble_eq_true rfl, by rw [hRl]; exact Nat.le_of_ble_eq_true rfl⟩) f_200 rfl hB1 hB2 rfl (Nat.le_of_ble_eq_true rfl) d_Mo_addHalf_54) (fun G_204 B_205 p_206 => ?_)
  obtain ⟨e_207, hV_208, gf_209⟩ := p_206
  have e_207b : B = B_205 := e_207.symm
  subst e_207b
  have gf_210 : gfr mT G G_204 := mT_mT gf_198 gf_209
  refine gs (pc' := 58) (fun _ _ _ _ _ hl => lv_aload_n hx hb d_Mo_addHalf_57 rfl (lv_at hl 0 rfl)) ?_
  refine gs (pc' := 59) (fun _ _ _ _ _ hl => lv_iconst (v := nI 1) hx hb d_Mo_addHalf_58 (by decide)) ?_
  have rbq_211 : rb (((((S.v (S.rp i (jj + 1))) - (S.v (S.rp i jj))) * (S.v (S.rh i hj))) * mkRat 1 2) + cc) (100 + 100 + 1 + 100 + 1 + kb + 1) := rb_add (j := 100 + 100 + 1 + 100 + 1) (k := kb) rbq_166 hcc
  obtain ⟨sg_212, sh_213, kt_214, kb_215, ks_216, Rr_217, kf_218, v_219, v_220, v_221, v_222, v_223, v_224, v_225⟩ := id hV_208
  have f_226 : G_204 hm = some (70, .inr (9, [.int (nI th), .int (nI S.n), .ref (A 2), .ref (A 3), .ref (A 4), .ref (A 5), .int sg_212, .int sh_213, .ref (A 8), .ref (A 9), .int (nI S.rn), .ref (A 11), .ref (A 12), .ref (A 13), .int (nI S.wn), .ref (A 15), .ref (A 16), .ref (A 17), .ref (A 18), .int kt_214, .int kb_215, .int ks_216])) := v_219
  have hV_227 : MW cA hm A S th (some ((((S.v (S.rp i (jj + 1))) - (S.v (S.rp i jj))) * (S.v (S.rh i hj))) * mkRat 1 2)) (some cc) (some cc) G_204 := ⟨sg_212, sh_213, kt_214, kb_215, ks_216, Rr_217, _, f_226, v_220, v_221, v_222, v_223, v_224, v_225⟩
  refine g_outv hlo (g_runV (As := [.int (nI 1)]) (rest := []) ⟨hx, hb, hml, hown, hts⟩ hK hZ hRc hRs (c_Mo_addOther l D cA lo MC MS G_204 B hm A S th (some ((((S.v (S.rp i (jj + 1))) - (S.v (S.rp i jj))) * (S.v (S.rh i hj))) * mkRat 1 2)) (some cc) (some cc) hV_227 hW ((((S.v (S.rp i (jj + 1))) - (S.v (S.rp i jj))) * (S.v (S.rh i hj))) * mkRat 1 2) cc rfl rfl (100 + 100 + 1 + 100 + 1) rbq_166 (kb) hcc (by omega) 1 (((((S.v (S.rp i (jj + 1))) - (S.v (S.rp i jj))) * (S.v (S.rh i hj))) * mkRat 1 2) + cc) (Or.inl ⟨rfl, rfl⟩) hB1 hB2) (fun _ _ => cwV 1 hts (tb_good (tb_cons wm909 (tb_cons wm911 (tb_cons ws37 (tb_cons wm12 k_Mo_addOther))))) rfl rfl rfl (by decide +kernel) ⟨by rw [hRf]; exact Nat.le_of_ble_eq_true rfl, by rw [hRl]; exact Nat.le_of_ble_eq_true rfl⟩) f_226 rfl hB1 hB2 rfl (Nat.le_of_ble_eq_true rfl) d_Mo_addHalf_59) (fun G_228 B_229 p_230 => ?_)
  obtain ⟨e_231, hV_232, gf_233⟩ := p_230
  have e_231b : B = B_229 := e_231.symm
  subst e_231b
  have gf_234 : gfr mT G G_228 := mT_mT gf_210 gf_233
  refine gs (pc' := 63) (fun _ _ _ _ _ hl => lv_aload_n hx hb d_Mo_addHalf_62 rfl (lv_at hl 0 rfl)) ?_
  obtain ⟨sg_235, sh_236, kt_237, kb_238, ks_239, Rr_240, kf_241, v_242, v_243, v_244, v_245, v_246, v_247, v_248⟩ := id hV_232
  have f_249 : G_228 hm = some (70, .inr (9, [.int (nI th), .int (nI S.n), .ref (A 2), .ref (A 3), .ref (A 4), .ref (A 5), .int sg_235, .int sh_236, .ref (A 8), .ref (A 9), .int (nI S.rn), .ref (A 11), .ref (A 12), .ref (A 13), .int (nI S.wn), .ref (A 15), .ref (A 16), .ref (A 17), .ref (A 18), .int kt_237, .int kb_238, .int ks_239])) := v_242
  have hV_250 : MW cA hm A S th (some (((((S.v (S.rp i (jj + 1))) - (S.v (S.rp i jj))) * (S.v (S.rh i hj))) * mkRat 1 2) + cc)) none (some cc) G_228 := ⟨sg_235, sh_236, kt_237, kb_238, ks_239, Rr_240, _, f_249, v_243, v_244, v_245, v_246, v_247, v_248⟩
  refine g_outv hlo (g_runV (As := []) (rest := []) ⟨hx, hb, hml, hown, hts⟩ hK hZ hRc hRs (c_Mo_stash l D cA lo MC MS G_228 B hm A S th (some (((((S.v (S.rp i (jj + 1))) - (S.v (S.rp i jj))) * (S.v (S.rh i hj))) * mkRat 1 2) + cc)) none (some cc) hV_250 hW (((((S.v (S.rp i (jj + 1))) - (S.v (S.rp i jj))) * (S.v (S.rh i hj))) * mkRat 1 2) + cc) rfl hB1 hB2) (fun _ _ => cwV 0 hts (tb_good (tb_cons wm992 (tb_cons wm994 (tb_cons ws46 (tb_cons wm12 k_Mo_stash))))) rfl rfl rfl (by decide +kernel) ⟨by rw [hRf]; exact Nat.le_of_ble_eq_true rfl, by rw [hRl]; exact Nat.le_of_ble_eq_true rfl⟩) f_249 rfl hB1 hB2 rfl (Nat.le_of_ble_eq_true rfl) d_Mo_addHalf_63) (fun G_251 B_252 p_253 => ?_)
  obtain ⟨e_254, hV_255, gf_256⟩ := p_253
  have e_254b : B = B_252 := e_254.symm
  subst e_254b
  have gf_257 : gfr mT G G_251 := mT_mT gf_234 gf_256
  exact hret 66 _ _ _ d_Mo_addHalf_66 hB1 hB2 ⟨rfl, hV_255, gf_257⟩
set_option maxHeartbeats 4000000 in
set_option maxRecDepth 100000 in
theorem c_Mo_keep (l : Launch) (D : va_G) (cA : Nat → ClassId) (lo MC MS : Nat) (G : gT) (B : Nat × Nat) (hm : Nat) (A : Nat → Nat) (S : St) (th : Nat) (qm qo qk : Option Rat) (hV : MW cA hm A S th qm qo qk G) (hW : WF S) (rr : Rat) (hq1 : qm = some rr) (kb : Nat) (hrb : rb rr kb) (hkb : kb ≤ 4280) (u9 : Int) (hu9 : uok u9) (hn9 : S.n < 200) (hB1 : B.1 ≤ MC) (hB2 : B.2 ≤ MS) : gMet l y_Mo_keep w_Mo_keep 1 23 D clS (gtys cA) lo MC MS [.ref hm, .int (iI u9)] G B (gQi D clS lo (fun r9 u => u.2 = B ∧ r9 = iI (kp S rr u9).2.1 ∧ MW cA hm A ((kp S rr u9).2.2) th none none none u.1 ∧ gfr mT G u.1)) := by
  refine g_meti (cc := prog_11_method_24_code) (nL := 4) (L := [(0, .ref hm), (1, .int (iI u9))]) (by decide +kernel) rfl (Nat.le_of_ble_eq_true rfl) rfl ?_
  intro p e R s m args below meth c Q hF hRc hRs hRf hRl hret
  obtain ⟨hx, hb, hr, hml, hts0, hown, hlocks, hin, hK, hlo, hZ⟩ := hF
  have hts : ∀ w ∈ tbg, w.before args s = true := fun w h => hts0 w (List.mem_cons_of_mem _ h)
  subst hq1
  have hn := hW.n
  have hrn := hW.rn
  have hwn := hW.wn
  obtain ⟨sg_1, sh_2, kt_3, kb_4, ks_5, Rr_6, kf_7, v_8, v_9, v_10, v_11, v_12, v_13, v_14⟩ := id hV
  have f_15 : G hm = some (70, .inr (9, [.int (nI th), .int (nI S.n), .ref (A 2), .ref (A 3), .ref (A 4), .ref (A 5), .int sg_1, .int sh_2, .ref (A 8), .ref (A 9), .int (nI S.rn), .ref (A 11), .ref (A 12), .ref (A 13), .int (nI S.wn), .ref (A 15), .ref (A 16), .ref (A 17), .ref (A 18), .int kt_3, .int kb_4, .int ks_5])) := v_8
  obtain ⟨e_16, e_17, e_18⟩ := v_11 _ rfl
  have f_19 : G hm = some (70, .inr (9, [.int (nI th), .int (nI S.n), .ref (A 2), .ref (A 3), .ref (A 4), .ref (A 5), .int (iI (rr.num.sign)), .int sh_2, .ref (A 8), .ref (A 9), .int (nI S.rn), .ref (A 11), .ref (A 12), .ref (A 13), .int (nI S.wn), .ref (A 15), .ref (A 16), .ref (A 17), .ref (A 18), .int kt_3, .int kb_4, .int ks_5])) := by rw [← e_16]; exact f_15
  have fm_20 : ∀ r9, some rr = some r9 → fc (iI (rr.num.sign)) (Rr_6 0) (Rr_6 1) r9 := by rw [← e_16]; exact v_11
  have s3_21 := sg3 rr.num
  obtain ⟨sgn_22, unt_23, sto_24, szs_25, f_26, f_27, f_28, f_29, hv_30⟩ := id v_14.1
  refine gs (pc' := 1) (fun _ _ _ _ _ hl => lv_aload_n hx hb d_Mo_keep_0 rfl (lv_at hl 0 rfl)) ?_
  refine gs (pc' := 2) (fun _ _ _ _ _ hl => lv_iconst (v := nI 0) hx hb d_Mo_keep_1 (by decide)) ?_
  refine g_outi hlo (g_runV (As := [.int (nI 0)]) (rest := []) ⟨hx, hb, hml, hown, hts⟩ hK hZ hRc hRs (c_Mo_digits l D cA lo MC MS G B hm A (mi (nI th) (nI S.n) (iI (rr.num.sign)) sh_2 (nI S.rn) (nI S.wn) kt_3 kb_4 ks_5) f_19 Rr_6 v_9 0 (by decide) hB1 hB2) (fun _ _ => cwV 1 hts (tb_good (tb_cons wm885 (tb_cons wm887 (tb_cons ws32 (tb_cons wm12 k_Mo_digits))))) rfl rfl rfl (by decide +kernel) ⟨by rw [hRf]; exact Nat.le_of_ble_eq_true rfl, by rw [hRl]; exact Nat.le_of_ble_eq_true rfl⟩) f_19 rfl hB1 hB2 rfl (Nat.le_of_ble_eq_true rfl) d_Mo_keep_2) (fun r_34 G_31 B_32 p_33 => ?_)
  obtain ⟨u_35, e_36⟩ := p_33
  cases u_35
  rw [e_17] at e_36
  subst e_36
  have db_37 := dig_b2 (hrb.1) (show kb ≤ 4280 by omega)
  refine gs (pc' := 8) (fun _ _ _ _ _ hl => lv_sipush (v := nI 900) hx hb d_Mo_keep_5 (by decide)) ?_
  refine gsb (pc1 := 22) (pc2 := 11) (fun _ _ _ _ _ => lv_icmp_gt (tgt := 22) hx hb d_Mo_keep_8 (by decide)) (fun c_38 => ?_) (fun c_38 => ?_)
  · skip
    have nc_38 : (ndig rr.num.natAbs) > 900 := (nn_gt (a := (ndig rr.num.natAbs)) (b := 900) (by omega) (by omega)).1 c_38
    have hlo9 : lng rr := Or.inl (dig_lo.mp (by omega))
    refine gs (pc' := 24) (fun _ _ _ _ _ hl => lv_bipush (v := (-4)) hx hb d_Mo_keep_22 (by decide)) ?_
    refine g_eqi (show (-4) = iI (-4) from by decide) ?_
    rw [kp_lo hlo9] at hret
    have hV_39 : MW cA hm A S th none none none G := ⟨(iI (rr.num.sign)), sh_2, kt_3, kb_4, ks_5, Rr_6, _, f_19, v_9, v_10, sn_, sn_, sn_, v_14⟩
    exact hret 24 _ _ _ _ d_Mo_keep_24 hB1 hB2 ⟨rfl, rfl, hV_39, gfr_rf⟩
  · skip
    have nc_38 : (ndig rr.num.natAbs) ≤ 900 := (nn_gt (a := (ndig rr.num.natAbs)) (b := 900) (by omega) (by omega)).2 c_38
    have hd1 : ¬ m900 ≤ rr.num.natAbs := fun e9 => by have := dig_lo.mpr e9; omega
    refine gs (pc' := 12) (fun _ _ _ _ _ hl => lv_aload_n hx hb d_Mo_keep_11 rfl (lv_at hl 0 rfl)) ?_
    refine gs (pc' := 13) (fun _ _ _ _ _ hl => lv_iconst (v := nI 1) hx hb d_Mo_keep_12 (by decide)) ?_
    refine g_outi hlo (g_runV (As := [.int (nI 1)]) (rest := []) ⟨hx, hb, hml, hown, hts⟩ hK hZ hRc hRs (c_Mo_digits l D cA lo MC MS G B hm A (mi (nI th) (nI S.n) (iI (rr.num.sign)) sh_2 (nI S.rn) (nI S.wn) kt_3 kb_4 ks_5) f_19 Rr_6 v_9 1 (by decide) hB1 hB2) (fun _ _ => cwV 1 hts (tb_good (tb_cons wm885 (tb_cons wm887 (tb_cons ws32 (tb_cons wm12 k_Mo_digits))))) rfl rfl rfl (by decide +kernel) ⟨by rw [hRf]; exact Nat.le_of_ble_eq_true rfl, by rw [hRl]; exact Nat.le_of_ble_eq_true rfl⟩) f_19 rfl hB1 hB2 rfl (Nat.le_of_ble_eq_true rfl) d_Mo_keep_13) (fun r_43 G_40 B_41 p_42 => ?_)
    obtain ⟨u_44, e_45⟩ := p_42
    cases u_44
    rw [e_18] at e_45
    subst e_45
    have db_46 := dig_b2 (hrb.2) (show kb ≤ 4280 by omega)
    refine gs (pc' := 19) (fun _ _ _ _ _ hl => lv_sipush (v := nI 900) hx hb d_Mo_keep_16 (by decide)) ?_
    refine gsb (pc1 := 25) (pc2 := 22) (fun _ _ _ _ _ => lv_icmp_le (tgt := 25) hx hb d_Mo_keep_19 (by decide)) (fun c_47 => ?_) (fun c_47 => ?_)
    · skip
      have nc_47 : (ndig rr.den) ≤ 900 := (nn_le (a := (ndig rr.den)) (b := 900) (by omega) (by omega)).1 c_47
      have hsh9 : ¬ lng rr := fun e9 => by
        rcases e9 with e9 | e9
        · exact hd1 e9
        · have := dig_lo.mpr e9; omega
      rw [kp_sh hsh9] at hret
      obtain ⟨lm_48, sz_49, f_50, f_51, rg_52⟩ := id v_9
      obtain ⟨zz_53, hg_54, hz_55, hD_56⟩ := rg_52 0 (by decide)
      rw [e_17] at hD_56
      have hz09 : zz_53 ≤ 100 := isD_size hD_56 (by have h9 := (rb_of hsh9).1; exact h9)
      obtain ⟨zz_57, hg_58, hz_59, hD_60⟩ := rg_52 1 (by decide)
      rw [e_18] at hD_60
      have hz19 : zz_57 ≤ 100 := isD_size hD_60 (by have h9 := (rb_of hsh9).2; exact h9)
      refine gs (pc' := 26) (fun _ _ _ _ _ hl => lv_iconst (v := nI 0) hx hb d_Mo_keep_25 (by decide)) ?_
      refine gst (pc' := 27) (L' := [(2, .int (nI 0)), (0, .ref hm), (1, .int (iI u9))]) (fun _ _ _ _ _ hl => lv_istore_n hx hb d_Mo_keep_26 rfl hl (by decide) rfl) ?_
      refine gs (pc' := 28) (fun _ _ _ _ _ hl => lv_iload_n hx hb d_Mo_keep_27 rfl (lv_at hl 0 rfl)) ?_
      refine gs (pc' := 29) (fun _ _ _ _ _ hl => lv_iconst (v := nI 2) hx hb d_Mo_keep_28 (by decide)) ?_
      refine gsb (pc1 := 105) (pc2 := 32) (fun _ _ _ _ _ => lv_icmp_ge (tgt := 105) hx hb d_Mo_keep_29 (by decide)) (fun c_61 => ?_) (fun c_61 => ?_)
      · skip
        have nc_61 : 0 ≥ 2 := (nn_ge (a := 0) (b := 2) (by omega) (by omega)).1 c_61
        exact absurd nc_61 (by decide)
      · skip
        have nc_61 : 0 < 2 := (nn_ge (a := 0) (b := 2) (by omega) (by omega)).2 c_61
        refine gs (pc' := 33) (fun _ _ _ _ _ hl => lv_aload_n hx hb d_Mo_keep_32 rfl (lv_at hl 1 rfl)) ?_
        refine g_get hx hb hts hin_Mo hown hK f_19 rfl 5 (by decide) (hts _ wm759) (fun _ h9 => h9) rfl d_Mo_keep_33 ?_
        refine gs (pc' := 37) (fun _ _ _ _ _ hl => lv_iconst (v := nI 2) hx hb d_Mo_keep_36 (by decide)) ?_
        refine gs (pc' := 38) (fun _ _ _ _ _ hl => lv_aload_n hx hb d_Mo_keep_37 rfl (lv_at hl 1 rfl)) ?_
        refine g_get hx hb hts hin_Mo hown hK f_19 rfl 1 (by decide) (hts _ wm755) (fun _ h9 => h9) rfl d_Mo_keep_38 ?_
        refine gs (pc' := 42) (fun _ _ _ _ _ hl => lv_imul hx hb d_Mo_keep_41) ?_
        refine g_eqi (show (nI 2) * (nI S.n) = nI (2 * S.n) from pk_mul _ _) ?_
        refine gs (pc' := 43) (fun _ _ _ _ _ hl => lv_iload_n hx hb d_Mo_keep_42 rfl (lv_at hl 0 rfl)) ?_
        refine gs (pc' := 44) (fun _ _ _ _ _ hl => lv_iadd hx hb d_Mo_keep_43) ?_
        refine g_eqi (show (nI (2 * S.n)) + (nI 0) = nI (2 * S.n + 0) from (nI_add _ _).trans (congrArg nI (show (2 * S.n) + 0 = 2 * S.n + 0 by omega))) ?_
        refine gs (pc' := 45) (fun _ _ _ _ _ hl => lv_aload_n hx hb d_Mo_keep_44 rfl (lv_at hl 1 rfl)) ?_
        refine g_get hx hb hts hin_Mo hown hK f_19 rfl 9 (by decide) (hts _ wm763) (fun _ h9 => h9) rfl d_Mo_keep_45 ?_
        refine gs (pc' := 49) (fun _ _ _ _ _ hl => lv_iload_n hx hb d_Mo_keep_48 rfl (lv_at hl 0 rfl)) ?_
        refine g_iald hx hb hK 0 f_51 rfl (show vp_in (nI 0) 9 from vp_in_nI (by omega) (by omega)) d_Mo_keep_49 ?_
        refine g_eqi (show sz_49 (nI 0).toNatClampNeg = sz_49 0 from by rw [nI_clamp (by omega)]) ?_
        refine g_eqi (show sz_49 0 = nI zz_53 from hg_54) ?_
        refine g_iast hx hb hK 0 f_29 rfl (show vp_in (nI (2 * S.n + 0)) 400 from vp_in_nI (by omega) (by omega)) d_Mo_keep_50 (fun G_62 f_63 o_64 => ?_)
        rw [nI_clamp (by omega)] at f_63
        have f_65 : G_62 hm = some (70, .inr (9, [.int (nI th), .int (nI S.n), .ref (A 2), .ref (A 3), .ref (A 4), .ref (A 5), .int (iI (rr.num.sign)), .int sh_2, .ref (A 8), .ref (A 9), .int (nI S.rn), .ref (A 11), .ref (A 12), .ref (A 13), .int (nI S.wn), .ref (A 15), .ref (A 16), .ref (A 17), .ref (A 18), .int kt_3, .int kb_4, .int ks_5])) := (o_64 _ (gne f_19 f_29 (fun e => by cases e))).trans f_19
        have f_66 : G_62 (A 18) = some (83, .inl (cA 0, 8600, .inl kf_7)) := (o_64 _ (gne v_10 f_29 (by simp))).trans v_10
        have f_67 : G_62 (A 2) = some (71, .inl (cA 0, 200, .inl sgn_22)) := (o_64 _ (gne f_26 f_29 (by simp))).trans f_26
        have f_68 : G_62 (A 3) = some (72, .inl (cA 0, 200, .inl unt_23)) := (o_64 _ (gne f_27 f_29 (by simp))).trans f_27
        have f_69 : G_62 (A 4) = some (73, .inl (cA 0, 40400, .inl sto_24)) := (o_64 _ (gne f_28 f_29 (by simp))).trans f_28
        have f_70 : G_62 (A 8) = some (75, .inl (cA 0, 38700, .inl lm_48)) := (o_64 _ (gne f_50 f_29 (by simp))).trans f_50
        have f_71 : G_62 (A 9) = some (76, .inl (cA 0, 9, .inl sz_49)) := (o_64 _ (gne f_51 f_29 (by simp))).trans f_51
        have gf_72 : gfr (fun x => 70 ≤ x ∧ x < 75) G G_62 := gfr_put gfr_rf f_29 (show 70 ≤ (74 : Nat) ∧ (74 : Nat) < 75 by decide) o_64
        refine gs (pc' := 52) (fun _ _ _ _ _ hl => lv_iconst (v := nI 0) hx hb d_Mo_keep_51 (by decide)) ?_
        refine gst (pc' := 53) (L' := [(3, .int (nI 0)), (2, .int (nI 0)), (0, .ref hm), (1, .int (iI u9))]) (fun _ _ _ _ _ hl => lv_istore_n hx hb d_Mo_keep_52 rfl hl (by decide) rfl) ?_
        refine gsub [0, 1, 2, 3] rfl ?_
        have loopk : ∀ (q j : Nat) (so1 : Nat → Int32) (Gk : gT), (j + q = zz_53) → (∀ i, i < j → so1 (101 * (2 * S.n + 0) + i) = sh lm_48 0 i) → (∀ i, i < 101 * (2 * S.n + 0) → so1 i = sto_24 i) → (gfr (fun x => 70 ≤ x ∧ x < 75) G Gk) → Gk hm = some (70, .inr (9, [.int (nI th), .int (nI S.n), .ref (A 2), .ref (A 3), .ref (A 4), .ref (A 5), .int (iI (rr.num.sign)), .int sh_2, .ref (A 8), .ref (A 9), .int (nI S.rn), .ref (A 11), .ref (A 12), .ref (A 13), .int (nI S.wn), .ref (A 15), .ref (A 16), .ref (A 17), .ref (A 18), .int kt_3, .int kb_4, .int ks_5])) → Gk (A 8) = some (75, .inl (cA 0, 38700, .inl lm_48)) → Gk (A 9) = some (76, .inl (cA 0, 9, .inl sz_49)) → Gk (A 18) = some (83, .inl (cA 0, 8600, .inl kf_7)) → Gk (A 2) = some (71, .inl (cA 0, 200, .inl sgn_22)) → Gk (A 3) = some (72, .inl (cA 0, 200, .inl unt_23)) → Gk (A 4) = some (73, .inl (cA 0, 40400, .inl so1)) → Gk (A 5) = some (74, .inl (cA 0, 400, .inl (upd szs_25 (2 * S.n + 0) (nI zz_53)))) → gV p l e R s m args below meth c D clS lo 4 Q 53 [(3, .int (nI j)), (2, .int (nI 0)), (0, .ref hm), (1, .int (iI u9))] [] Gk B := by
          intro q
          induction q with
          | zero =>
            intro j so1 Gk hjk hcpk hlwk hfrk k1 k2 k3 k4 k5 k6 k7 k8
            refine gs (pc' := 54) (fun _ _ _ _ _ hl => lv_iload_n hx hb d_Mo_keep_53 rfl (lv_at hl 0 rfl)) ?_
            refine gs (pc' := 55) (fun _ _ _ _ _ hl => lv_aload_n hx hb d_Mo_keep_54 rfl (lv_at hl 2 rfl)) ?_
            refine g_get hx hb hts hin_Mo hown hK k1 rfl 9 (by decide) (hts _ wm763) (fun _ h9 => h9) rfl d_Mo_keep_55 ?_
            refine gs (pc' := 59) (fun _ _ _ _ _ hl => lv_iload_n hx hb d_Mo_keep_58 rfl (lv_at hl 1 rfl)) ?_
            refine g_iald hx hb hK 0 k3 rfl (show vp_in (nI 0) 9 from vp_in_nI (by omega) (by omega)) d_Mo_keep_59 ?_
            refine g_eqi (show sz_49 (nI 0).toNatClampNeg = sz_49 0 from by rw [nI_clamp (by omega)]) ?_
            refine g_eqi (show sz_49 0 = nI zz_53 from hg_54) ?_
            refine gsb (pc1 := 99) (pc2 := 63) (fun _ _ _ _ _ => lv_icmp_ge (tgt := 99) hx hb d_Mo_keep_60 (by decide)) (fun c_73 => ?_) (fun c_73 => ?_)
            · skip
              have nc_73 : j ≥ zz_53 := (nn_ge (a := j) (b := zz_53) (by omega) (by omega)).1 c_73
              refine gst (pc' := 102) (L' := [(2, .int (nI 1)), (3, .int (nI j)), (0, .ref hm), (1, .int (iI u9))]) (fun _ _ _ _ _ hl => lv_iinc (v := nI 1) hx hb d_Mo_keep_99 hl (k := 1) rfl (by decide) (by decide) rfl) ?_
              refine gs (pc' := 27) (fun _ _ _ _ _ hl => lv_goto (tgt := 27) hx hb d_Mo_keep_102 (by decide)) ?_
              refine gs (pc' := 28) (fun _ _ _ _ _ hl => lv_iload_n hx hb d_Mo_keep_27 rfl (lv_at hl 0 rfl)) ?_
              refine gs (pc' := 29) (fun _ _ _ _ _ hl => lv_iconst (v := nI 2) hx hb d_Mo_keep_28 (by decide)) ?_
              refine gsb (pc1 := 105) (pc2 := 32) (fun _ _ _ _ _ => lv_icmp_ge (tgt := 105) hx hb d_Mo_keep_29 (by decide)) (fun c_74 => ?_) (fun c_74 => ?_)
              · skip
                have nc_74 : 1 ≥ 2 := (nn_ge (a := 1) (b := 2) (by omega) (by omega)).1 c_74
                exact absurd nc_74 (by decide)
              · skip
                have nc_74 : 1 < 2 := (nn_ge (a := 1) (b := 2) (by omega) (by omega)).2 c_74
                refine gs (pc' := 33) (fun _ _ _ _ _ hl => lv_aload_n hx hb d_Mo_keep_32 rfl (lv_at hl 2 rfl)) ?_
                refine g_get hx hb hts hin_Mo hown hK k1 rfl 5 (by decide) (hts _ wm759) (fun _ h9 => h9) rfl d_Mo_keep_33 ?_
                refine gs (pc' := 37) (fun _ _ _ _ _ hl => lv_iconst (v := nI 2) hx hb d_Mo_keep_36 (by decide)) ?_
                refine gs (pc' := 38) (fun _ _ _ _ _ hl => lv_aload_n hx hb d_Mo_keep_37 rfl (lv_at hl 2 rfl)) ?_
                refine g_get hx hb hts hin_Mo hown hK k1 rfl 1 (by decide) (hts _ wm755) (fun _ h9 => h9) rfl d_Mo_keep_38 ?_
                refine gs (pc' := 42) (fun _ _ _ _ _ hl => lv_imul hx hb d_Mo_keep_41) ?_
                refine g_eqi (show (nI 2) * (nI S.n) = nI (2 * S.n) from pk_mul _ _) ?_
                refine gs (pc' := 43) (fun _ _ _ _ _ hl => lv_iload_n hx hb d_Mo_keep_42 rfl (lv_at hl 0 rfl)) ?_
                refine gs (pc' := 44) (fun _ _ _ _ _ hl => lv_iadd hx hb d_Mo_keep_43) ?_
                refine g_eqi (show (nI (2 * S.n)) + (nI 1) = nI (2 * S.n + 1) from (nI_add _ _).trans (congrArg nI (show (2 * S.n) + 1 = 2 * S.n + 1 by omega))) ?_
                refine gs (pc' := 45) (fun _ _ _ _ _ hl => lv_aload_n hx hb d_Mo_keep_44 rfl (lv_at hl 2 rfl)) ?_
                refine g_get hx hb hts hin_Mo hown hK k1 rfl 9 (by decide) (hts _ wm763) (fun _ h9 => h9) rfl d_Mo_keep_45 ?_
                refine gs (pc' := 49) (fun _ _ _ _ _ hl => lv_iload_n hx hb d_Mo_keep_48 rfl (lv_at hl 0 rfl)) ?_
                refine g_iald hx hb hK 0 k3 rfl (show vp_in (nI 1) 9 from vp_in_nI (by omega) (by omega)) d_Mo_keep_49 ?_
                refine g_eqi (show sz_49 (nI 1).toNatClampNeg = sz_49 1 from by rw [nI_clamp (by omega)]) ?_
                refine g_eqi (show sz_49 1 = nI zz_57 from hg_58) ?_
                refine g_iast hx hb hK 0 k8 rfl (show vp_in (nI (2 * S.n + 1)) 400 from vp_in_nI (by omega) (by omega)) d_Mo_keep_50 (fun G_75 f_76 o_77 => ?_)
                rw [nI_clamp (by omega)] at f_76
                have f_78 : G_75 hm = some (70, .inr (9, [.int (nI th), .int (nI S.n), .ref (A 2), .ref (A 3), .ref (A 4), .ref (A 5), .int (iI (rr.num.sign)), .int sh_2, .ref (A 8), .ref (A 9), .int (nI S.rn), .ref (A 11), .ref (A 12), .ref (A 13), .int (nI S.wn), .ref (A 15), .ref (A 16), .ref (A 17), .ref (A 18), .int kt_3, .int kb_4, .int ks_5])) := (o_77 _ (gne k1 k8 (fun e => by cases e))).trans k1
                have f_79 : G_75 (A 8) = some (75, .inl (cA 0, 38700, .inl lm_48)) := (o_77 _ (gne k2 k8 (by simp))).trans k2
                have f_80 : G_75 (A 9) = some (76, .inl (cA 0, 9, .inl sz_49)) := (o_77 _ (gne k3 k8 (by simp))).trans k3
                have f_81 : G_75 (A 18) = some (83, .inl (cA 0, 8600, .inl kf_7)) := (o_77 _ (gne k4 k8 (by simp))).trans k4
                have f_82 : G_75 (A 2) = some (71, .inl (cA 0, 200, .inl sgn_22)) := (o_77 _ (gne k5 k8 (by simp))).trans k5
                have f_83 : G_75 (A 3) = some (72, .inl (cA 0, 200, .inl unt_23)) := (o_77 _ (gne k6 k8 (by simp))).trans k6
                have f_84 : G_75 (A 4) = some (73, .inl (cA 0, 40400, .inl so1)) := (o_77 _ (gne k7 k8 (by simp))).trans k7
                have gf_85 : gfr (fun x => 70 ≤ x ∧ x < 75) G G_75 := gfr_put hfrk k8 (show 70 ≤ (74 : Nat) ∧ (74 : Nat) < 75 by decide) o_77
                refine gs (pc' := 52) (fun _ _ _ _ _ hl => lv_iconst (v := nI 0) hx hb d_Mo_keep_51 (by decide)) ?_
                refine gst (pc' := 53) (L' := [(3, .int (nI 0)), (2, .int (nI 1)), (0, .ref hm), (1, .int (iI u9))]) (fun _ _ _ _ _ hl => lv_istore_n hx hb d_Mo_keep_52 rfl hl (by decide) rfl) ?_
                refine gsub [0, 1, 2, 3] rfl ?_
                have loopl : ∀ (q2 j2 : Nat) (so2 : Nat → Int32) (Gl : gT), (j2 + q2 = zz_57) → (∀ i, i < j2 → so2 (101 * (2 * S.n + 1) + i) = sh lm_48 1 i) → (∀ i, i < 101 * (2 * S.n + 1) → so2 i = so1 i) → (gfr (fun x => 70 ≤ x ∧ x < 75) G Gl) → Gl hm = some (70, .inr (9, [.int (nI th), .int (nI S.n), .ref (A 2), .ref (A 3), .ref (A 4), .ref (A 5), .int (iI (rr.num.sign)), .int sh_2, .ref (A 8), .ref (A 9), .int (nI S.rn), .ref (A 11), .ref (A 12), .ref (A 13), .int (nI S.wn), .ref (A 15), .ref (A 16), .ref (A 17), .ref (A 18), .int kt_3, .int kb_4, .int ks_5])) → Gl (A 8) = some (75, .inl (cA 0, 38700, .inl lm_48)) → Gl (A 9) = some (76, .inl (cA 0, 9, .inl sz_49)) → Gl (A 18) = some (83, .inl (cA 0, 8600, .inl kf_7)) → Gl (A 2) = some (71, .inl (cA 0, 200, .inl sgn_22)) → Gl (A 3) = some (72, .inl (cA 0, 200, .inl unt_23)) → Gl (A 4) = some (73, .inl (cA 0, 40400, .inl so2)) → Gl (A 5) = some (74, .inl (cA 0, 400, .inl (upd (upd szs_25 (2 * S.n + 0) (nI zz_53)) (2 * S.n + 1) (nI zz_57)))) → gV p l e R s m args below meth c D clS lo 4 Q 53 [(3, .int (nI j2)), (2, .int (nI 1)), (0, .ref hm), (1, .int (iI u9))] [] Gl B := by
                  intro q2
                  induction q2 with
                  | zero =>
                    intro j2 so2 Gl hjl hcpl hlwl hfrl l1 l2 l3 l4 l5 l6 l7 l8
                    refine gs (pc' := 54) (fun _ _ _ _ _ hl => lv_iload_n hx hb d_Mo_keep_53 rfl (lv_at hl 0 rfl)) ?_
                    refine gs (pc' := 55) (fun _ _ _ _ _ hl => lv_aload_n hx hb d_Mo_keep_54 rfl (lv_at hl 2 rfl)) ?_
                    refine g_get hx hb hts hin_Mo hown hK l1 rfl 9 (by decide) (hts _ wm763) (fun _ h9 => h9) rfl d_Mo_keep_55 ?_
                    refine gs (pc' := 59) (fun _ _ _ _ _ hl => lv_iload_n hx hb d_Mo_keep_58 rfl (lv_at hl 1 rfl)) ?_
                    refine g_iald hx hb hK 0 l3 rfl (show vp_in (nI 1) 9 from vp_in_nI (by omega) (by omega)) d_Mo_keep_59 ?_
                    refine g_eqi (show sz_49 (nI 1).toNatClampNeg = sz_49 1 from by rw [nI_clamp (by omega)]) ?_
                    refine g_eqi (show sz_49 1 = nI zz_57 from hg_58) ?_
                    refine gsb (pc1 := 99) (pc2 := 63) (fun _ _ _ _ _ => lv_icmp_ge (tgt := 99) hx hb d_Mo_keep_60 (by decide)) (fun c_86 => ?_) (fun c_86 => ?_)
                    · skip
                      have nc_86 : j2 ≥ zz_57 := (nn_ge (a := j2) (b := zz_57) (by omega) (by omega)).1 c_86
                      refine gst (pc' := 102) (L' := [(2, .int (nI 2)), (3, .int (nI j2)), (0, .ref hm), (1, .int (iI u9))]) (fun _ _ _ _ _ hl => lv_iinc (v := nI 2) hx hb d_Mo_keep_99 hl (k := 1) rfl (by decide) (by decide) rfl) ?_
                      refine gs (pc' := 27) (fun _ _ _ _ _ hl => lv_goto (tgt := 27) hx hb d_Mo_keep_102 (by decide)) ?_
                      refine gs (pc' := 28) (fun _ _ _ _ _ hl => lv_iload_n hx hb d_Mo_keep_27 rfl (lv_at hl 0 rfl)) ?_
                      refine gs (pc' := 29) (fun _ _ _ _ _ hl => lv_iconst (v := nI 2) hx hb d_Mo_keep_28 (by decide)) ?_
                      refine gsb (pc1 := 105) (pc2 := 32) (fun _ _ _ _ _ => lv_icmp_ge (tgt := 105) hx hb d_Mo_keep_29 (by decide)) (fun c_87 => ?_) (fun c_87 => ?_)
                      · skip
                        have nc_87 : 2 ≥ 2 := (nn_ge (a := 2) (b := 2) (by omega) (by omega)).1 c_87
                        refine gs (pc' := 106) (fun _ _ _ _ _ hl => lv_aload_n hx hb d_Mo_keep_105 rfl (lv_at hl 2 rfl)) ?_
                        refine g_get hx hb hts hin_Mo hown hK l1 rfl 2 (by decide) (hts _ wm756) (fun _ h9 => h9) rfl d_Mo_keep_106 ?_
                        refine gs (pc' := 110) (fun _ _ _ _ _ hl => lv_aload_n hx hb d_Mo_keep_109 rfl (lv_at hl 2 rfl)) ?_
                        refine g_get hx hb hts hin_Mo hown hK l1 rfl 1 (by decide) (hts _ wm755) (fun _ h9 => h9) rfl d_Mo_keep_110 ?_
                        refine gs (pc' := 114) (fun _ _ _ _ _ hl => lv_aload_n hx hb d_Mo_keep_113 rfl (lv_at hl 2 rfl)) ?_
                        refine g_get hx hb hts hin_Mo hown hK l1 rfl 9 (by decide) (hts _ wm763) (fun _ h9 => h9) rfl d_Mo_keep_114 ?_
                        refine gs (pc' := 118) (fun _ _ _ _ _ hl => lv_iconst (v := nI 0) hx hb d_Mo_keep_117 (by decide)) ?_
                        refine g_iald hx hb hK 0 l3 rfl (show vp_in (nI 0) 9 from vp_in_nI (by omega) (by omega)) d_Mo_keep_118 ?_
                        refine g_eqi (show sz_49 (nI 0).toNatClampNeg = sz_49 0 from by rw [nI_clamp (by omega)]) ?_
                        refine g_eqi (show sz_49 0 = nI zz_53 from hg_54) ?_
                        refine gsb (pc1 := 126) (pc2 := 122) (fun _ _ _ _ _ => lv_if_ne (tgt := 126) hx hb d_Mo_keep_119 (by decide)) (fun c_88 => ?_) (fun c_88 => ?_)
                        · skip
                          have nc_88 : zz_53 ≠ 0 := (n0_ne (a := zz_53) (by omega)).1 c_88
                          have hs9 : iI rr.num.sign = iI rr.num.sign := rfl
                          refine gs (pc' := 127) (fun _ _ _ _ _ hl => lv_aload_n hx hb d_Mo_keep_126 rfl (lv_at hl 2 rfl)) ?_
                          refine g_get hx hb hts hin_Mo hown hK l1 rfl 6 (by decide) (hts _ wm760) (fun _ h9 => h9) rfl d_Mo_keep_127 ?_
                          refine g_iast hx hb hK 0 l5 rfl (show vp_in (nI S.n) 200 from vp_in_nI (by omega) (by omega)) d_Mo_keep_130 (fun G_89 f_90 o_91 => ?_)
                          rw [nI_clamp (by omega)] at f_90
                          have f_92 : G_89 hm = some (70, .inr (9, [.int (nI th), .int (nI S.n), .ref (A 2), .ref (A 3), .ref (A 4), .ref (A 5), .int (iI (rr.num.sign)), .int sh_2, .ref (A 8), .ref (A 9), .int (nI S.rn), .ref (A 11), .ref (A 12), .ref (A 13), .int (nI S.wn), .ref (A 15), .ref (A 16), .ref (A 17), .ref (A 18), .int kt_3, .int kb_4, .int ks_5])) := (o_91 _ (gne l1 l5 (fun e => by cases e))).trans l1
                          have f_93 : G_89 (A 8) = some (75, .inl (cA 0, 38700, .inl lm_48)) := (o_91 _ (gne l2 l5 (by simp))).trans l2
                          have f_94 : G_89 (A 9) = some (76, .inl (cA 0, 9, .inl sz_49)) := (o_91 _ (gne l3 l5 (by simp))).trans l3
                          have f_95 : G_89 (A 18) = some (83, .inl (cA 0, 8600, .inl kf_7)) := (o_91 _ (gne l4 l5 (by simp))).trans l4
                          have f_96 : G_89 (A 3) = some (72, .inl (cA 0, 200, .inl unt_23)) := (o_91 _ (gne l6 l5 (by simp))).trans l6
                          have f_97 : G_89 (A 4) = some (73, .inl (cA 0, 40400, .inl so2)) := (o_91 _ (gne l7 l5 (by simp))).trans l7
                          have f_98 : G_89 (A 5) = some (74, .inl (cA 0, 400, .inl (upd (upd szs_25 (2 * S.n + 0) (nI zz_53)) (2 * S.n + 1) (nI zz_57)))) := (o_91 _ (gne l8 l5 (by simp))).trans l8
                          have gf_99 : gfr (fun x => 70 ≤ x ∧ x < 75) G G_89 := gfr_put hfrl l5 (show 70 ≤ (71 : Nat) ∧ (71 : Nat) < 75 by decide) o_91
                          refine gs (pc' := 132) (fun _ _ _ _ _ hl => lv_aload_n hx hb d_Mo_keep_131 rfl (lv_at hl 2 rfl)) ?_
                          refine g_get hx hb hts hin_Mo hown hK f_92 rfl 3 (by decide) (hts _ wm757) (fun _ h9 => h9) rfl d_Mo_keep_132 ?_
                          refine gs (pc' := 136) (fun _ _ _ _ _ hl => lv_aload_n hx hb d_Mo_keep_135 rfl (lv_at hl 2 rfl)) ?_
                          refine g_get hx hb hts hin_Mo hown hK f_92 rfl 1 (by decide) (hts _ wm755) (fun _ h9 => h9) rfl d_Mo_keep_136 ?_
                          refine gs (pc' := 140) (fun _ _ _ _ _ hl => lv_iload_n hx hb d_Mo_keep_139 rfl (lv_at hl 3 rfl)) ?_
                          refine g_iast hx hb hK 0 f_96 rfl (show vp_in (nI S.n) 200 from vp_in_nI (by omega) (by omega)) d_Mo_keep_140 (fun G_100 f_101 o_102 => ?_)
                          rw [nI_clamp (by omega)] at f_101
                          have f_103 : G_100 hm = some (70, .inr (9, [.int (nI th), .int (nI S.n), .ref (A 2), .ref (A 3), .ref (A 4), .ref (A 5), .int (iI (rr.num.sign)), .int sh_2, .ref (A 8), .ref (A 9), .int (nI S.rn), .ref (A 11), .ref (A 12), .ref (A 13), .int (nI S.wn), .ref (A 15), .ref (A 16), .ref (A 17), .ref (A 18), .int kt_3, .int kb_4, .int ks_5])) := (o_102 _ (gne f_92 f_96 (fun e => by cases e))).trans f_92
                          have f_104 : G_100 (A 8) = some (75, .inl (cA 0, 38700, .inl lm_48)) := (o_102 _ (gne f_93 f_96 (by simp))).trans f_93
                          have f_105 : G_100 (A 9) = some (76, .inl (cA 0, 9, .inl sz_49)) := (o_102 _ (gne f_94 f_96 (by simp))).trans f_94
                          have f_106 : G_100 (A 18) = some (83, .inl (cA 0, 8600, .inl kf_7)) := (o_102 _ (gne f_95 f_96 (by simp))).trans f_95
                          have f_107 : G_100 (A 4) = some (73, .inl (cA 0, 40400, .inl so2)) := (o_102 _ (gne f_97 f_96 (by simp))).trans f_97
                          have f_108 : G_100 (A 5) = some (74, .inl (cA 0, 400, .inl (upd (upd szs_25 (2 * S.n + 0) (nI zz_53)) (2 * S.n + 1) (nI zz_57)))) := (o_102 _ (gne f_98 f_96 (by simp))).trans f_98
                          have f_109 : G_100 (A 2) = some (71, .inl (cA 0, 200, .inl (upd sgn_22 S.n (iI (rr.num.sign))))) := (o_102 _ (gne f_90 f_96 (by simp))).trans f_90
                          have gf_110 : gfr (fun x => 70 ≤ x ∧ x < 75) G G_100 := gfr_put gf_99 f_96 (show 70 ≤ (72 : Nat) ∧ (72 : Nat) < 75 by decide) o_102
                          refine gs (pc' := 142) (fun _ _ _ _ _ hl => lv_aload_n hx hb d_Mo_keep_141 rfl (lv_at hl 2 rfl)) ?_
                          refine gs (pc' := 143) (fun _ _ _ _ _ hl => lv_dup hx hb d_Mo_keep_142 rfl) ?_
                          refine g_get hx hb hts hin_Mo hown hK f_103 rfl 1 (by decide) (hts _ wm755) (fun _ h9 => h9) rfl d_Mo_keep_143 ?_
                          refine gs (pc' := 147) (fun _ _ _ _ _ hl => lv_iconst (v := nI 1) hx hb d_Mo_keep_146 (by decide)) ?_
                          refine gs (pc' := 148) (fun _ _ _ _ _ hl => lv_iadd hx hb d_Mo_keep_147) ?_
                          refine g_eqi (show (nI S.n) + (nI 1) = nI (S.n + 1) from nI_add _ _) ?_
                          refine g_put (ty := .int) hx hb hts hin_Mo ty_Mo ty_Mo_ok nm_Mo hown hK f_103 rfl 1 (by decide) (hts _ wm755) (fun _ h9 => h9) rfl (by decide +kernel) rfl rfl (Nat.le_of_ble_eq_true rfl) d_Mo_keep_148 (fun G_111 f_112 o_113 => ?_)
                          have f_114 : G_111 hm = some (70, .inr (9, [.int (nI th), .int (nI (S.n + 1)), .ref (A 2), .ref (A 3), .ref (A 4), .ref (A 5), .int (iI (rr.num.sign)), .int sh_2, .ref (A 8), .ref (A 9), .int (nI S.rn), .ref (A 11), .ref (A 12), .ref (A 13), .int (nI S.wn), .ref (A 15), .ref (A 16), .ref (A 17), .ref (A 18), .int kt_3, .int kb_4, .int ks_5])) := f_112
                          have f_115 : G_111 (A 8) = some (75, .inl (cA 0, 38700, .inl lm_48)) := (o_113 _ (gne f_104 f_103 (fun e => by cases e))).trans f_104
                          have f_116 : G_111 (A 9) = some (76, .inl (cA 0, 9, .inl sz_49)) := (o_113 _ (gne f_105 f_103 (fun e => by cases e))).trans f_105
                          have f_117 : G_111 (A 18) = some (83, .inl (cA 0, 8600, .inl kf_7)) := (o_113 _ (gne f_106 f_103 (fun e => by cases e))).trans f_106
                          have f_118 : G_111 (A 4) = some (73, .inl (cA 0, 40400, .inl so2)) := (o_113 _ (gne f_107 f_103 (fun e => by cases e))).trans f_107
                          have f_119 : G_111 (A 5) = some (74, .inl (cA 0, 400, .inl (upd (upd szs_25 (2 * S.n + 0) (nI zz_53)) (2 * S.n + 1) (nI zz_57)))) := (o_113 _ (gne f_108 f_103 (fun e => by cases e))).trans f_108
                          have f_120 : G_111 (A 2) = some (71, .inl (cA 0, 200, .inl (upd sgn_22 S.n (iI (rr.num.sign))))) := (o_113 _ (gne f_109 f_103 (fun e => by cases e))).trans f_109
                          have f_121 : G_111 (A 3) = some (72, .inl (cA 0, 200, .inl (upd unt_23 S.n (iI u9)))) := (o_113 _ (gne f_101 f_103 (fun e => by cases e))).trans f_101
                          have gf_122 : gfr (fun x => 70 ≤ x ∧ x < 75) G G_111 := gfr_put gf_110 f_103 (show 70 ≤ (70 : Nat) ∧ (70 : Nat) < 75 by decide) o_113
                          refine gs (pc' := 152) (fun _ _ _ _ _ hl => lv_aload_n hx hb d_Mo_keep_151 rfl (lv_at hl 2 rfl)) ?_
                          refine g_get hx hb hts hin_Mo hown hK f_114 rfl 1 (by decide) (hts _ wm755) (fun _ h9 => h9) rfl d_Mo_keep_152 ?_
                          refine gs (pc' := 156) (fun _ _ _ _ _ hl => lv_iconst (v := nI 1) hx hb d_Mo_keep_155 (by decide)) ?_
                          refine gs (pc' := 157) (fun _ _ _ _ _ hl => lv_isub hx hb d_Mo_keep_156) ?_
                          refine g_eqi (show (nI (S.n + 1)) - (nI 1) = nI S.n from (pk_sub (by omega)).trans (congrArg nI (show (S.n + 1) - 1 = S.n by omega))) ?_
                          have hmr9 := MR_fr v_9 gf_122 (show ¬ (70 ≤ (75 : Nat) ∧ (75 : Nat) < 75) by decide) (show ¬ (70 ≤ (76 : Nat) ∧ (76 : Nat) < 75) by decide)
                          have hmv9 : MV cA A (S.sv (S.n + 1) (fup S.v S.n rr) (fup S.un S.n u9)) G_111 := by
                            refine ⟨_, _, _, _, f_120, f_121, f_118, f_119, fun i9 h9 => ?_⟩
                            have h9 : i9 < S.n + 1 := h9
                            show vc _ _ _ _ i9 (fup S.v S.n rr i9) (fup S.un S.n u9 i9)
                            by_cases e9 : i9 = S.n
                            · subst e9
                              rw [fup_s, fup_s]
                              refine ⟨pk_us.trans hs9, pk_us, ⟨zz_53, ?_, by omega, isD_congr hD_56 (fun k9 h8 => (hlwl _ (by omega)).trans (hcpk k9 (by omega)))⟩, ⟨zz_57, pk_us, by omega, isD_congr hD_60 (fun k9 h8 => hcpl k9 (by omega))⟩⟩
                              rw [pk_un (by omega)]; exact pk_us
                            · rw [fup_n e9, fup_n e9]
                              exact vc_old (hv_30 i9 (by omega)) (show i9 < S.n by omega) (fun q9 h8 => pk_un h8) (fun q9 h8 => pk_un h8) (fun q9 h8 => (hlwl q9 (by omega)).trans (hlwk q9 (by omega))) (fun q9 h8 => by rw [pk_un (by omega), pk_un (by omega)])
                          have hmo9 : MO cA A (S.sv (S.n + 1) (fup S.v S.n rr) (fup S.un S.n u9)) G_111 := MO_fr v_14.2.1 gf_122 (show ¬ (70 ≤ (77 : Nat) ∧ (77 : Nat) < 75) by decide) (show ¬ (70 ≤ (78 : Nat) ∧ (78 : Nat) < 75) by decide) (show ¬ (70 ≤ (79 : Nat) ∧ (79 : Nat) < 75) by decide)
                          have hme9 : ME cA A (S.sv (S.n + 1) (fup S.v S.n rr) (fup S.un S.n u9)) G_111 := ME_fr v_14.2.2 gf_122 (show ¬ (70 ≤ (80 : Nat) ∧ (80 : Nat) < 75) by decide) (show ¬ (70 ≤ (81 : Nat) ∧ (81 : Nat) < 75) by decide) (show ¬ (70 ≤ (82 : Nat) ∧ (82 : Nat) < 75) by decide)
                          have hgf9 : gfr mT G G_111 := gfr_mono gf_122 (fun x h9 => ⟨h9.1, by omega⟩)
                          have hV_123 : MW cA hm A (S.sv (S.n + 1) (fup S.v S.n rr) (fup S.un S.n u9)) th none none none G_111 := ⟨(iI (rr.num.sign)), sh_2, kt_3, kb_4, ks_5, Rr_6, _, f_114, hmr9, f_117, sn_, sn_, sn_, ⟨hmv9, hmo9, hme9⟩⟩
                          exact hret 157 _ _ _ _ d_Mo_keep_157 hB1 hB2 ⟨rfl, nI_iI S.n, hV_123, hgf9⟩
                        · skip
                          have nc_88 : zz_53 = 0 := (n0_ne (a := zz_53) (by omega)).2 c_88
                          have hs9 : (nI 0 : Int32) = iI rr.num.sign := by
                            have e9 := (isD_z0 hD_56).mp nc_88
                            rw [Int.natAbs_eq_zero.mp e9]; rfl
                          refine gs (pc' := 123) (fun _ _ _ _ _ hl => lv_iconst (v := nI 0) hx hb d_Mo_keep_122 (by decide)) ?_
                          refine gs (pc' := 130) (fun _ _ _ _ _ hl => lv_goto (tgt := 130) hx hb d_Mo_keep_123 (by decide)) ?_
                          refine g_iast hx hb hK 0 l5 rfl (show vp_in (nI S.n) 200 from vp_in_nI (by omega) (by omega)) d_Mo_keep_130 (fun G_124 f_125 o_126 => ?_)
                          rw [nI_clamp (by omega)] at f_125
                          have f_127 : G_124 hm = some (70, .inr (9, [.int (nI th), .int (nI S.n), .ref (A 2), .ref (A 3), .ref (A 4), .ref (A 5), .int (iI (rr.num.sign)), .int sh_2, .ref (A 8), .ref (A 9), .int (nI S.rn), .ref (A 11), .ref (A 12), .ref (A 13), .int (nI S.wn), .ref (A 15), .ref (A 16), .ref (A 17), .ref (A 18), .int kt_3, .int kb_4, .int ks_5])) := (o_126 _ (gne l1 l5 (fun e => by cases e))).trans l1
                          have f_128 : G_124 (A 8) = some (75, .inl (cA 0, 38700, .inl lm_48)) := (o_126 _ (gne l2 l5 (by simp))).trans l2
                          have f_129 : G_124 (A 9) = some (76, .inl (cA 0, 9, .inl sz_49)) := (o_126 _ (gne l3 l5 (by simp))).trans l3
                          have f_130 : G_124 (A 18) = some (83, .inl (cA 0, 8600, .inl kf_7)) := (o_126 _ (gne l4 l5 (by simp))).trans l4
                          have f_131 : G_124 (A 3) = some (72, .inl (cA 0, 200, .inl unt_23)) := (o_126 _ (gne l6 l5 (by simp))).trans l6
                          have f_132 : G_124 (A 4) = some (73, .inl (cA 0, 40400, .inl so2)) := (o_126 _ (gne l7 l5 (by simp))).trans l7
                          have f_133 : G_124 (A 5) = some (74, .inl (cA 0, 400, .inl (upd (upd szs_25 (2 * S.n + 0) (nI zz_53)) (2 * S.n + 1) (nI zz_57)))) := (o_126 _ (gne l8 l5 (by simp))).trans l8
                          have gf_134 : gfr (fun x => 70 ≤ x ∧ x < 75) G G_124 := gfr_put hfrl l5 (show 70 ≤ (71 : Nat) ∧ (71 : Nat) < 75 by decide) o_126
                          refine gs (pc' := 132) (fun _ _ _ _ _ hl => lv_aload_n hx hb d_Mo_keep_131 rfl (lv_at hl 2 rfl)) ?_
                          refine g_get hx hb hts hin_Mo hown hK f_127 rfl 3 (by decide) (hts _ wm757) (fun _ h9 => h9) rfl d_Mo_keep_132 ?_
                          refine gs (pc' := 136) (fun _ _ _ _ _ hl => lv_aload_n hx hb d_Mo_keep_135 rfl (lv_at hl 2 rfl)) ?_
                          refine g_get hx hb hts hin_Mo hown hK f_127 rfl 1 (by decide) (hts _ wm755) (fun _ h9 => h9) rfl d_Mo_keep_136 ?_
                          refine gs (pc' := 140) (fun _ _ _ _ _ hl => lv_iload_n hx hb d_Mo_keep_139 rfl (lv_at hl 3 rfl)) ?_
                          refine g_iast hx hb hK 0 f_131 rfl (show vp_in (nI S.n) 200 from vp_in_nI (by omega) (by omega)) d_Mo_keep_140 (fun G_135 f_136 o_137 => ?_)
                          rw [nI_clamp (by omega)] at f_136
                          have f_138 : G_135 hm = some (70, .inr (9, [.int (nI th), .int (nI S.n), .ref (A 2), .ref (A 3), .ref (A 4), .ref (A 5), .int (iI (rr.num.sign)), .int sh_2, .ref (A 8), .ref (A 9), .int (nI S.rn), .ref (A 11), .ref (A 12), .ref (A 13), .int (nI S.wn), .ref (A 15), .ref (A 16), .ref (A 17), .ref (A 18), .int kt_3, .int kb_4, .int ks_5])) := (o_137 _ (gne f_127 f_131 (fun e => by cases e))).trans f_127
                          have f_139 : G_135 (A 8) = some (75, .inl (cA 0, 38700, .inl lm_48)) := (o_137 _ (gne f_128 f_131 (by simp))).trans f_128
                          have f_140 : G_135 (A 9) = some (76, .inl (cA 0, 9, .inl sz_49)) := (o_137 _ (gne f_129 f_131 (by simp))).trans f_129
                          have f_141 : G_135 (A 18) = some (83, .inl (cA 0, 8600, .inl kf_7)) := (o_137 _ (gne f_130 f_131 (by simp))).trans f_130
                          have f_142 : G_135 (A 4) = some (73, .inl (cA 0, 40400, .inl so2)) := (o_137 _ (gne f_132 f_131 (by simp))).trans f_132
                          have f_143 : G_135 (A 5) = some (74, .inl (cA 0, 400, .inl (upd (upd szs_25 (2 * S.n + 0) (nI zz_53)) (2 * S.n + 1) (nI zz_57)))) := (o_137 _ (gne f_133 f_131 (by simp))).trans f_133
                          have f_144 : G_135 (A 2) = some (71, .inl (cA 0, 200, .inl (upd sgn_22 S.n (nI 0)))) := (o_137 _ (gne f_125 f_131 (by simp))).trans f_125
                          have gf_145 : gfr (fun x => 70 ≤ x ∧ x < 75) G G_135 := gfr_put gf_134 f_131 (show 70 ≤ (72 : Nat) ∧ (72 : Nat) < 75 by decide) o_137
                          refine gs (pc' := 142) (fun _ _ _ _ _ hl => lv_aload_n hx hb d_Mo_keep_141 rfl (lv_at hl 2 rfl)) ?_
                          refine gs (pc' := 143) (fun _ _ _ _ _ hl => lv_dup hx hb d_Mo_keep_142 rfl) ?_
                          refine g_get hx hb hts hin_Mo hown hK f_138 rfl 1 (by decide) (hts _ wm755) (fun _ h9 => h9) rfl d_Mo_keep_143 ?_
                          refine gs (pc' := 147) (fun _ _ _ _ _ hl => lv_iconst (v := nI 1) hx hb d_Mo_keep_146 (by decide)) ?_
                          refine gs (pc' := 148) (fun _ _ _ _ _ hl => lv_iadd hx hb d_Mo_keep_147) ?_
                          refine g_eqi (show (nI S.n) + (nI 1) = nI (S.n + 1) from nI_add _ _) ?_
                          refine g_put (ty := .int) hx hb hts hin_Mo ty_Mo ty_Mo_ok nm_Mo hown hK f_138 rfl 1 (by decide) (hts _ wm755) (fun _ h9 => h9) rfl (by decide +kernel) rfl rfl (Nat.le_of_ble_eq_true rfl) d_Mo_keep_148 (fun G_146 f_147 o_148 => ?_)
                          have f_149 : G_146 hm = some (70, .inr (9, [.int (nI th), .int (nI (S.n + 1)), .ref (A 2), .ref (A 3), .ref (A 4), .ref (A 5), .int (iI (rr.num.sign)), .int sh_2, .ref (A 8), .ref (A 9), .int (nI S.rn), .ref (A 11), .ref (A 12), .ref (A 13), .int (nI S.wn), .ref (A 15), .ref (A 16), .ref (A 17), .ref (A 18), .int kt_3, .int kb_4, .int ks_5])) := f_147
                          have f_150 : G_146 (A 8) = some (75, .inl (cA 0, 38700, .inl lm_48)) := (o_148 _ (gne f_139 f_138 (fun e => by cases e))).trans f_139
                          have f_151 : G_146 (A 9) = some (76, .inl (cA 0, 9, .inl sz_49)) := (o_148 _ (gne f_140 f_138 (fun e => by cases e))).trans f_140
                          have f_152 : G_146 (A 18) = some (83, .inl (cA 0, 8600, .inl kf_7)) := (o_148 _ (gne f_141 f_138 (fun e => by cases e))).trans f_141
                          have f_153 : G_146 (A 4) = some (73, .inl (cA 0, 40400, .inl so2)) := (o_148 _ (gne f_142 f_138 (fun e => by cases e))).trans f_142
                          have f_154 : G_146 (A 5) = some (74, .inl (cA 0, 400, .inl (upd (upd szs_25 (2 * S.n + 0) (nI zz_53)) (2 * S.n + 1) (nI zz_57)))) := (o_148 _ (gne f_143 f_138 (fun e => by cases e))).trans f_143
                          have f_155 : G_146 (A 2) = some (71, .inl (cA 0, 200, .inl (upd sgn_22 S.n (nI 0)))) := (o_148 _ (gne f_144 f_138 (fun e => by cases e))).trans f_144
                          have f_156 : G_146 (A 3) = some (72, .inl (cA 0, 200, .inl (upd unt_23 S.n (iI u9)))) := (o_148 _ (gne f_136 f_138 (fun e => by cases e))).trans f_136
                          have gf_157 : gfr (fun x => 70 ≤ x ∧ x < 75) G G_146 := gfr_put gf_145 f_138 (show 70 ≤ (70 : Nat) ∧ (70 : Nat) < 75 by decide) o_148
                          refine gs (pc' := 152) (fun _ _ _ _ _ hl => lv_aload_n hx hb d_Mo_keep_151 rfl (lv_at hl 2 rfl)) ?_
                          refine g_get hx hb hts hin_Mo hown hK f_149 rfl 1 (by decide) (hts _ wm755) (fun _ h9 => h9) rfl d_Mo_keep_152 ?_
                          refine gs (pc' := 156) (fun _ _ _ _ _ hl => lv_iconst (v := nI 1) hx hb d_Mo_keep_155 (by decide)) ?_
                          refine gs (pc' := 157) (fun _ _ _ _ _ hl => lv_isub hx hb d_Mo_keep_156) ?_
                          refine g_eqi (show (nI (S.n + 1)) - (nI 1) = nI S.n from (pk_sub (by omega)).trans (congrArg nI (show (S.n + 1) - 1 = S.n by omega))) ?_
                          have hmr9 := MR_fr v_9 gf_157 (show ¬ (70 ≤ (75 : Nat) ∧ (75 : Nat) < 75) by decide) (show ¬ (70 ≤ (76 : Nat) ∧ (76 : Nat) < 75) by decide)
                          have hmv9 : MV cA A (S.sv (S.n + 1) (fup S.v S.n rr) (fup S.un S.n u9)) G_146 := by
                            refine ⟨_, _, _, _, f_155, f_156, f_153, f_154, fun i9 h9 => ?_⟩
                            have h9 : i9 < S.n + 1 := h9
                            show vc _ _ _ _ i9 (fup S.v S.n rr i9) (fup S.un S.n u9 i9)
                            by_cases e9 : i9 = S.n
                            · subst e9
                              rw [fup_s, fup_s]
                              refine ⟨pk_us.trans hs9, pk_us, ⟨zz_53, ?_, by omega, isD_congr hD_56 (fun k9 h8 => (hlwl _ (by omega)).trans (hcpk k9 (by omega)))⟩, ⟨zz_57, pk_us, by omega, isD_congr hD_60 (fun k9 h8 => hcpl k9 (by omega))⟩⟩
                              rw [pk_un (by omega)]; exact pk_us
                            · rw [fup_n e9, fup_n e9]
                              exact vc_old (hv_30 i9 (by omega)) (show i9 < S.n by omega) (fun q9 h8 => pk_un h8) (fun q9 h8 => pk_un h8) (fun q9 h8 => (hlwl q9 (by omega)).trans (hlwk q9 (by omega))) (fun q9 h8 => by rw [pk_un (by omega), pk_un (by omega)])
                          have hmo9 : MO cA A (S.sv (S.n + 1) (fup S.v S.n rr) (fup S.un S.n u9)) G_146 := MO_fr v_14.2.1 gf_157 (show ¬ (70 ≤ (77 : Nat) ∧ (77 : Nat) < 75) by decide) (show ¬ (70 ≤ (78 : Nat) ∧ (78 : Nat) < 75) by decide) (show ¬ (70 ≤ (79 : Nat) ∧ (79 : Nat) < 75) by decide)
                          have hme9 : ME cA A (S.sv (S.n + 1) (fup S.v S.n rr) (fup S.un S.n u9)) G_146 := ME_fr v_14.2.2 gf_157 (show ¬ (70 ≤ (80 : Nat) ∧ (80 : Nat) < 75) by decide) (show ¬ (70 ≤ (81 : Nat) ∧ (81 : Nat) < 75) by decide) (show ¬ (70 ≤ (82 : Nat) ∧ (82 : Nat) < 75) by decide)
                          have hgf9 : gfr mT G G_146 := gfr_mono gf_157 (fun x h9 => ⟨h9.1, by omega⟩)
                          have hV_158 : MW cA hm A (S.sv (S.n + 1) (fup S.v S.n rr) (fup S.un S.n u9)) th none none none G_146 := ⟨(iI (rr.num.sign)), sh_2, kt_3, kb_4, ks_5, Rr_6, _, f_149, hmr9, f_152, sn_, sn_, sn_, ⟨hmv9, hmo9, hme9⟩⟩
                          exact hret 157 _ _ _ _ d_Mo_keep_157 hB1 hB2 ⟨rfl, nI_iI S.n, hV_158, hgf9⟩
                      · skip
                        have nc_87 : 2 < 2 := (nn_ge (a := 2) (b := 2) (by omega) (by omega)).2 c_87
                        exact absurd nc_87 (by decide)
                    · skip
                      have nc_86 : j2 < zz_57 := (nn_ge (a := j2) (b := zz_57) (by omega) (by omega)).2 c_86
                      exact absurd nc_86 (by omega)
                  | succ q2 ihl =>
                    intro j2 so2 Gl hjl hcpl hlwl hfrl l1 l2 l3 l4 l5 l6 l7 l8
                    refine gs (pc' := 54) (fun _ _ _ _ _ hl => lv_iload_n hx hb d_Mo_keep_53 rfl (lv_at hl 0 rfl)) ?_
                    refine gs (pc' := 55) (fun _ _ _ _ _ hl => lv_aload_n hx hb d_Mo_keep_54 rfl (lv_at hl 2 rfl)) ?_
                    refine g_get hx hb hts hin_Mo hown hK l1 rfl 9 (by decide) (hts _ wm763) (fun _ h9 => h9) rfl d_Mo_keep_55 ?_
                    refine gs (pc' := 59) (fun _ _ _ _ _ hl => lv_iload_n hx hb d_Mo_keep_58 rfl (lv_at hl 1 rfl)) ?_
                    refine g_iald hx hb hK 0 l3 rfl (show vp_in (nI 1) 9 from vp_in_nI (by omega) (by omega)) d_Mo_keep_59 ?_
                    refine g_eqi (show sz_49 (nI 1).toNatClampNeg = sz_49 1 from by rw [nI_clamp (by omega)]) ?_
                    refine g_eqi (show sz_49 1 = nI zz_57 from hg_58) ?_
                    refine gsb (pc1 := 99) (pc2 := 63) (fun _ _ _ _ _ => lv_icmp_ge (tgt := 99) hx hb d_Mo_keep_60 (by decide)) (fun c_159 => ?_) (fun c_159 => ?_)
                    · skip
                      have nc_159 : j2 ≥ zz_57 := (nn_ge (a := j2) (b := zz_57) (by omega) (by omega)).1 c_159
                      exact absurd nc_159 (by omega)
                    · skip
                      have nc_159 : j2 < zz_57 := (nn_ge (a := j2) (b := zz_57) (by omega) (by omega)).2 c_159
                      refine gs (pc' := 64) (fun _ _ _ _ _ hl => lv_aload_n hx hb d_Mo_keep_63 rfl (lv_at hl 2 rfl)) ?_
                      refine g_get hx hb hts hin_Mo hown hK l1 rfl 4 (by decide) (hts _ wm758) (fun _ h9 => h9) rfl d_Mo_keep_64 ?_
                      refine gs (pc' := 69) (fun _ _ _ _ _ hl => lv_bipush (v := nI 101) hx hb d_Mo_keep_67 (by decide)) ?_
                      refine gs (pc' := 70) (fun _ _ _ _ _ hl => lv_iconst (v := nI 2) hx hb d_Mo_keep_69 (by decide)) ?_
                      refine gs (pc' := 71) (fun _ _ _ _ _ hl => lv_aload_n hx hb d_Mo_keep_70 rfl (lv_at hl 2 rfl)) ?_
                      refine g_get hx hb hts hin_Mo hown hK l1 rfl 1 (by decide) (hts _ wm755) (fun _ h9 => h9) rfl d_Mo_keep_71 ?_
                      refine gs (pc' := 75) (fun _ _ _ _ _ hl => lv_imul hx hb d_Mo_keep_74) ?_
                      refine g_eqi (show (nI 2) * (nI S.n) = nI (2 * S.n) from pk_mul _ _) ?_
                      refine gs (pc' := 76) (fun _ _ _ _ _ hl => lv_iload_n hx hb d_Mo_keep_75 rfl (lv_at hl 1 rfl)) ?_
                      refine gs (pc' := 77) (fun _ _ _ _ _ hl => lv_iadd hx hb d_Mo_keep_76) ?_
                      refine g_eqi (show (nI (2 * S.n)) + (nI 1) = nI (2 * S.n + 1) from (nI_add _ _).trans (congrArg nI (show (2 * S.n) + 1 = 2 * S.n + 1 by omega))) ?_
                      refine gs (pc' := 78) (fun _ _ _ _ _ hl => lv_imul hx hb d_Mo_keep_77) ?_
                      refine g_eqi (show (nI 101) * (nI (2 * S.n + 1)) = nI (101 * (2 * S.n + 1)) from (pk_mul _ _).trans (congrArg nI (show 101 * (2 * S.n + 1) = 101 * (2 * S.n + 1) by omega))) ?_
                      refine gs (pc' := 79) (fun _ _ _ _ _ hl => lv_iload_n hx hb d_Mo_keep_78 rfl (lv_at hl 0 rfl)) ?_
                      refine gs (pc' := 80) (fun _ _ _ _ _ hl => lv_iadd hx hb d_Mo_keep_79) ?_
                      refine g_eqi (show (nI (101 * (2 * S.n + 1))) + (nI j2) = nI (101 * (2 * S.n + 1) + j2) from (nI_add _ _).trans (congrArg nI (show (101 * (2 * S.n + 1)) + j2 = 101 * (2 * S.n + 1) + j2 by omega))) ?_
                      refine gs (pc' := 81) (fun _ _ _ _ _ hl => lv_aload_n hx hb d_Mo_keep_80 rfl (lv_at hl 2 rfl)) ?_
                      refine g_get hx hb hts hin_Mo hown hK l1 rfl 8 (by decide) (hts _ wm762) (fun _ h9 => h9) rfl d_Mo_keep_81 ?_
                      refine gs (pc' := 87) (fun _ _ _ _ _ hl => lv_sipush (v := nI 4300) hx hb d_Mo_keep_84 (by decide)) ?_
                      refine gs (pc' := 88) (fun _ _ _ _ _ hl => lv_iload_n hx hb d_Mo_keep_87 rfl (lv_at hl 1 rfl)) ?_
                      refine gs (pc' := 89) (fun _ _ _ _ _ hl => lv_imul hx hb d_Mo_keep_88) ?_
                      refine g_eqi (show (nI 4300) * (nI 1) = nI 4300 from (pk_mul _ _).trans (congrArg nI (show 4300 * 1 = 4300 by omega))) ?_
                      refine gs (pc' := 90) (fun _ _ _ _ _ hl => lv_iload_n hx hb d_Mo_keep_89 rfl (lv_at hl 0 rfl)) ?_
                      refine gs (pc' := 91) (fun _ _ _ _ _ hl => lv_iadd hx hb d_Mo_keep_90) ?_
                      refine g_eqi (show (nI 4300) + (nI j2) = nI (4300 * 1 + j2) from (nI_add _ _).trans (congrArg nI (show 4300 + j2 = 4300 * 1 + j2 by omega))) ?_
                      refine g_iald hx hb hK 0 l2 rfl (show vp_in (nI (4300 * 1 + j2)) 38700 from vp_in_nI (by omega) (by omega)) d_Mo_keep_91 ?_
                      refine g_eqi (show lm_48 (nI (4300 * 1 + j2)).toNatClampNeg = lm_48 (4300 * 1 + j2) from by rw [nI_clamp (by omega)]) ?_
                      refine g_iast hx hb hK 0 l7 rfl (show vp_in (nI (101 * (2 * S.n + 1) + j2)) 40400 from vp_in_nI (by omega) (by omega)) d_Mo_keep_92 (fun G_160 f_161 o_162 => ?_)
                      rw [nI_clamp (by omega)] at f_161
                      have f_163 : G_160 hm = some (70, .inr (9, [.int (nI th), .int (nI S.n), .ref (A 2), .ref (A 3), .ref (A 4), .ref (A 5), .int (iI (rr.num.sign)), .int sh_2, .ref (A 8), .ref (A 9), .int (nI S.rn), .ref (A 11), .ref (A 12), .ref (A 13), .int (nI S.wn), .ref (A 15), .ref (A 16), .ref (A 17), .ref (A 18), .int kt_3, .int kb_4, .int ks_5])) := (o_162 _ (gne l1 l7 (fun e => by cases e))).trans l1
                      have f_164 : G_160 (A 8) = some (75, .inl (cA 0, 38700, .inl lm_48)) := (o_162 _ (gne l2 l7 (by simp))).trans l2
                      have f_165 : G_160 (A 9) = some (76, .inl (cA 0, 9, .inl sz_49)) := (o_162 _ (gne l3 l7 (by simp))).trans l3
                      have f_166 : G_160 (A 18) = some (83, .inl (cA 0, 8600, .inl kf_7)) := (o_162 _ (gne l4 l7 (by simp))).trans l4
                      have f_167 : G_160 (A 2) = some (71, .inl (cA 0, 200, .inl sgn_22)) := (o_162 _ (gne l5 l7 (by simp))).trans l5
                      have f_168 : G_160 (A 3) = some (72, .inl (cA 0, 200, .inl unt_23)) := (o_162 _ (gne l6 l7 (by simp))).trans l6
                      have f_169 : G_160 (A 5) = some (74, .inl (cA 0, 400, .inl (upd (upd szs_25 (2 * S.n + 0) (nI zz_53)) (2 * S.n + 1) (nI zz_57)))) := (o_162 _ (gne l8 l7 (by simp))).trans l8
                      refine gst (pc' := 96) (L' := [(3, .int (nI (j2 + 1))), (2, .int (nI 1)), (0, .ref hm), (1, .int (iI u9))]) (fun _ _ _ _ _ hl => lv_iinc (v := nI (j2 + 1)) hx hb d_Mo_keep_93 hl (k := 0) rfl (nI_add _ 1) (by decide) rfl) ?_
                      refine gs (pc' := 53) (fun _ _ _ _ _ hl => lv_goto (tgt := 53) hx hb d_Mo_keep_96 (by decide)) ?_
                      refine gsub [0, 1, 2, 3] rfl ?_
                      exact ihl (j2 + 1) (upd so2 (101 * (2 * S.n + 1) + j2) (lm_48 (4300 * 1 + j2))) G_160 (by omega) (fun i9 h9 => by
                        by_cases e9 : i9 = j2
                        · subst e9; rw [pk_us]; rfl
                        · rw [pk_un (by omega)]; exact hcpl i9 (by omega)) (fun i9 h9 => by rw [pk_un (by omega)]; exact hlwl i9 h9) (gfr_put hfrl l7 (show 70 ≤ (73 : Nat) ∧ (73 : Nat) < 75 by decide) o_162) f_163 f_164 f_165 f_166 f_167 f_168 f_161 f_169
                exact loopl zz_57 0 so1 G_75 (by omega) (fun i9 h9 => absurd h9 (Nat.not_lt_zero _)) (fun _ _ => rfl) gf_85 f_78 f_79 f_80 f_81 f_82 f_83 f_84 f_76
            · skip
              have nc_73 : j < zz_53 := (nn_ge (a := j) (b := zz_53) (by omega) (by omega)).2 c_73
              exact absurd nc_73 (by omega)
          | succ q ihk =>
            intro j so1 Gk hjk hcpk hlwk hfrk k1 k2 k3 k4 k5 k6 k7 k8
            refine gs (pc' := 54) (fun _ _ _ _ _ hl => lv_iload_n hx hb d_Mo_keep_53 rfl (lv_at hl 0 rfl)) ?_
            refine gs (pc' := 55) (fun _ _ _ _ _ hl => lv_aload_n hx hb d_Mo_keep_54 rfl (lv_at hl 2 rfl)) ?_
            refine g_get hx hb hts hin_Mo hown hK k1 rfl 9 (by decide) (hts _ wm763) (fun _ h9 => h9) rfl d_Mo_keep_55 ?_
            refine gs (pc' := 59) (fun _ _ _ _ _ hl => lv_iload_n hx hb d_Mo_keep_58 rfl (lv_at hl 1 rfl)) ?_
            refine g_iald hx hb hK 0 k3 rfl (show vp_in (nI 0) 9 from vp_in_nI (by omega) (by omega)) d_Mo_keep_59 ?_
            refine g_eqi (show sz_49 (nI 0).toNatClampNeg = sz_49 0 from by rw [nI_clamp (by omega)]) ?_
            refine g_eqi (show sz_49 0 = nI zz_53 from hg_54) ?_
            refine gsb (pc1 := 99) (pc2 := 63) (fun _ _ _ _ _ => lv_icmp_ge (tgt := 99) hx hb d_Mo_keep_60 (by decide)) (fun c_170 => ?_) (fun c_170 => ?_)
            · skip
              have nc_170 : j ≥ zz_53 := (nn_ge (a := j) (b := zz_53) (by omega) (by omega)).1 c_170
              exact absurd nc_170 (by omega)
            · skip
              have nc_170 : j < zz_53 := (nn_ge (a := j) (b := zz_53) (by omega) (by omega)).2 c_170
              refine gs (pc' := 64) (fun _ _ _ _ _ hl => lv_aload_n hx hb d_Mo_keep_63 rfl (lv_at hl 2 rfl)) ?_
              refine g_get hx hb hts hin_Mo hown hK k1 rfl 4 (by decide) (hts _ wm758) (fun _ h9 => h9) rfl d_Mo_keep_64 ?_
              refine gs (pc' := 69) (fun _ _ _ _ _ hl => lv_bipush (v := nI 101) hx hb d_Mo_keep_67 (by decide)) ?_
              refine gs (pc' := 70) (fun _ _ _ _ _ hl => lv_iconst (v := nI 2) hx hb d_Mo_keep_69 (by decide)) ?_
              refine gs (pc' := 71) (fun _ _ _ _ _ hl => lv_aload_n hx hb d_Mo_keep_70 rfl (lv_at hl 2 rfl)) ?_
              refine g_get hx hb hts hin_Mo hown hK k1 rfl 1 (by decide) (hts _ wm755) (fun _ h9 => h9) rfl d_Mo_keep_71 ?_
              refine gs (pc' := 75) (fun _ _ _ _ _ hl => lv_imul hx hb d_Mo_keep_74) ?_
              refine g_eqi (show (nI 2) * (nI S.n) = nI (2 * S.n) from pk_mul _ _) ?_
              refine gs (pc' := 76) (fun _ _ _ _ _ hl => lv_iload_n hx hb d_Mo_keep_75 rfl (lv_at hl 1 rfl)) ?_
              refine gs (pc' := 77) (fun _ _ _ _ _ hl => lv_iadd hx hb d_Mo_keep_76) ?_
              refine g_eqi (show (nI (2 * S.n)) + (nI 0) = nI (2 * S.n + 0) from (nI_add _ _).trans (congrArg nI (show (2 * S.n) + 0 = 2 * S.n + 0 by omega))) ?_
              refine gs (pc' := 78) (fun _ _ _ _ _ hl => lv_imul hx hb d_Mo_keep_77) ?_
              refine g_eqi (show (nI 101) * (nI (2 * S.n + 0)) = nI (101 * (2 * S.n + 0)) from (pk_mul _ _).trans (congrArg nI (show 101 * (2 * S.n + 0) = 101 * (2 * S.n + 0) by omega))) ?_
              refine gs (pc' := 79) (fun _ _ _ _ _ hl => lv_iload_n hx hb d_Mo_keep_78 rfl (lv_at hl 0 rfl)) ?_
              refine gs (pc' := 80) (fun _ _ _ _ _ hl => lv_iadd hx hb d_Mo_keep_79) ?_
              refine g_eqi (show (nI (101 * (2 * S.n + 0))) + (nI j) = nI (101 * (2 * S.n + 0) + j) from (nI_add _ _).trans (congrArg nI (show (101 * (2 * S.n + 0)) + j = 101 * (2 * S.n + 0) + j by omega))) ?_
              refine gs (pc' := 81) (fun _ _ _ _ _ hl => lv_aload_n hx hb d_Mo_keep_80 rfl (lv_at hl 2 rfl)) ?_
              refine g_get hx hb hts hin_Mo hown hK k1 rfl 8 (by decide) (hts _ wm762) (fun _ h9 => h9) rfl d_Mo_keep_81 ?_
              refine gs (pc' := 87) (fun _ _ _ _ _ hl => lv_sipush (v := nI 4300) hx hb d_Mo_keep_84 (by decide)) ?_
              refine gs (pc' := 88) (fun _ _ _ _ _ hl => lv_iload_n hx hb d_Mo_keep_87 rfl (lv_at hl 1 rfl)) ?_
              refine gs (pc' := 89) (fun _ _ _ _ _ hl => lv_imul hx hb d_Mo_keep_88) ?_
              refine g_eqi (show (nI 4300) * (nI 0) = nI 0 from (pk_mul _ _).trans (congrArg nI (show 4300 * 0 = 0 by omega))) ?_
              refine gs (pc' := 90) (fun _ _ _ _ _ hl => lv_iload_n hx hb d_Mo_keep_89 rfl (lv_at hl 0 rfl)) ?_
              refine gs (pc' := 91) (fun _ _ _ _ _ hl => lv_iadd hx hb d_Mo_keep_90) ?_
              refine g_eqi (show (nI 0) + (nI j) = nI (4300 * 0 + j) from (nI_add _ _).trans (congrArg nI (show 0 + j = 4300 * 0 + j by omega))) ?_
              refine g_iald hx hb hK 0 k2 rfl (show vp_in (nI (4300 * 0 + j)) 38700 from vp_in_nI (by omega) (by omega)) d_Mo_keep_91 ?_
              refine g_eqi (show lm_48 (nI (4300 * 0 + j)).toNatClampNeg = lm_48 (4300 * 0 + j) from by rw [nI_clamp (by omega)]) ?_
              refine g_iast hx hb hK 0 k7 rfl (show vp_in (nI (101 * (2 * S.n + 0) + j)) 40400 from vp_in_nI (by omega) (by omega)) d_Mo_keep_92 (fun G_171 f_172 o_173 => ?_)
              rw [nI_clamp (by omega)] at f_172
              have f_174 : G_171 hm = some (70, .inr (9, [.int (nI th), .int (nI S.n), .ref (A 2), .ref (A 3), .ref (A 4), .ref (A 5), .int (iI (rr.num.sign)), .int sh_2, .ref (A 8), .ref (A 9), .int (nI S.rn), .ref (A 11), .ref (A 12), .ref (A 13), .int (nI S.wn), .ref (A 15), .ref (A 16), .ref (A 17), .ref (A 18), .int kt_3, .int kb_4, .int ks_5])) := (o_173 _ (gne k1 k7 (fun e => by cases e))).trans k1
              have f_175 : G_171 (A 8) = some (75, .inl (cA 0, 38700, .inl lm_48)) := (o_173 _ (gne k2 k7 (by simp))).trans k2
              have f_176 : G_171 (A 9) = some (76, .inl (cA 0, 9, .inl sz_49)) := (o_173 _ (gne k3 k7 (by simp))).trans k3
              have f_177 : G_171 (A 18) = some (83, .inl (cA 0, 8600, .inl kf_7)) := (o_173 _ (gne k4 k7 (by simp))).trans k4
              have f_178 : G_171 (A 2) = some (71, .inl (cA 0, 200, .inl sgn_22)) := (o_173 _ (gne k5 k7 (by simp))).trans k5
              have f_179 : G_171 (A 3) = some (72, .inl (cA 0, 200, .inl unt_23)) := (o_173 _ (gne k6 k7 (by simp))).trans k6
              have f_180 : G_171 (A 5) = some (74, .inl (cA 0, 400, .inl (upd szs_25 (2 * S.n + 0) (nI zz_53)))) := (o_173 _ (gne k8 k7 (by simp))).trans k8
              refine gst (pc' := 96) (L' := [(3, .int (nI (j + 1))), (2, .int (nI 0)), (0, .ref hm), (1, .int (iI u9))]) (fun _ _ _ _ _ hl => lv_iinc (v := nI (j + 1)) hx hb d_Mo_keep_93 hl (k := 0) rfl (nI_add _ 1) (by decide) rfl) ?_
              refine gs (pc' := 53) (fun _ _ _ _ _ hl => lv_goto (tgt := 53) hx hb d_Mo_keep_96 (by decide)) ?_
              refine gsub [0, 1, 2, 3] rfl ?_
              exact ihk (j + 1) (upd so1 (101 * (2 * S.n + 0) + j) (lm_48 (4300 * 0 + j))) G_171 (by omega) (fun i9 h9 => by
                by_cases e9 : i9 = j
                · subst e9; rw [pk_us]; rfl
                · rw [pk_un (by omega)]; exact hcpk i9 (by omega)) (fun i9 h9 => by rw [pk_un (by omega)]; exact hlwk i9 h9) (gfr_put hfrk k7 (show 70 ≤ (73 : Nat) ∧ (73 : Nat) < 75 by decide) o_173) f_174 f_175 f_176 f_177 f_178 f_179 f_172 f_180
        exact loopk zz_53 0 sto_24 G_62 (by omega) (fun i9 h9 => absurd h9 (Nat.not_lt_zero _)) (fun _ _ => rfl) gf_72 f_65 f_70 f_71 f_66 f_67 f_68 f_69 f_63
    · skip
      have nc_47 : (ndig rr.den) > 900 := (nn_le (a := (ndig rr.den)) (b := 900) (by omega) (by omega)).2 c_47
      have hlo9 : lng rr := Or.inr (dig_lo.mp (by omega))
      refine gs (pc' := 24) (fun _ _ _ _ _ hl => lv_bipush (v := (-4)) hx hb d_Mo_keep_22 (by decide)) ?_
      refine g_eqi (show (-4) = iI (-4) from by decide) ?_
      rw [kp_lo hlo9] at hret
      have hV_181 : MW cA hm A S th none none none G := ⟨(iI (rr.num.sign)), sh_2, kt_3, kb_4, ks_5, Rr_6, _, f_19, v_9, v_10, sn_, sn_, sn_, v_14⟩
      exact hret 24 _ _ _ _ d_Mo_keep_24 hB1 hB2 ⟨rfl, rfl, hV_181, gfr_rf⟩
