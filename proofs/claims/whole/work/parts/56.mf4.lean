set_option maxHeartbeats 4000000 in
set_option maxRecDepth 100000 in
theorem c_Mf_told (l : Launch) (D : va_G) (cA : Nat → ClassId) (lo MC MS : Nat) (G : gT) (B : Nat × Nat) (X : Nat × Nat) (a : AX) (S : St) (F : Nat → Option Rat) (V : Nat → Nat) (hC : CW cA X a S F V (G, B)) (hW : WF S) (x : Int) (hx1 : -2147483648 ≤ x) (hx2 : x < 2147483648) (wh : Int) (hwh1 : -2147483648 ≤ wh) (hwh2 : wh < 2147483648) (hk : (sp_told S (iI x) (iI wh)).1 = 0) (hY1 : X.1 + 6 ≤ MC) (hY2 : X.2 + 209 ≤ MS) : gMet l y_Mf_told w_Mf_told 2 41 D clS (gtys cA) lo MC MS [.ref a.x, .int (iI x), .int (iI wh)] G B (gQi D clS lo (fun r u => r = iI (sp_told S (iI x) (iI wh)).2.1 ∧ CW3 cA (X.1 + 6, X.2 + 209) a (sp_told S (iI x) (iI wh)).2.2 u ∧ gfr (fun x => x < 70) G u.1)) := by
  refine g_meti (cc := prog_1_method_9_code) (nL := 4) (L := [(0, .ref a.x), (1, .int (iI x)), (2, .int (iI wh))]) (by decide +kernel) rfl (Nat.le_of_ble_eq_true rfl) rfl ?_
  intro p e R s m args below meth c Q hF hRc hRs hRf hRl hret
  obtain ⟨hx, hb, hr, hml, hts0, hown, hlocks, hin, hK, hlo, hZ⟩ := hF
  have hts : ∀ w ∈ tbg, w.before args s = true := fun w h => hts0 w (List.mem_cons_of_mem _ h)
  have hX1 : X.1 ≤ MC := by omega
  have hX2 : X.2 ≤ MS := by omega
  have hn := hW.n
  have hrn := hW.rn
  have hwn := hW.wn
  have bl_1 : B.1 ≤ MC := Nat.le_trans (w2_le hC.w).1 hX1
  have bl_2 : B.2 ≤ MS := Nat.le_trans (w2_le hC.w).2 hX2
  have hv : vi S (iI x) := by
    by_cases z9 : vi S (iI x)
    · exact z9
    · rw [sp_told, if_pos z9] at hk; simp at hk
  have hq : (0 ≤ (iI wh).toInt ∧ (iI wh).toInt ≤ 3) := by
    by_cases z9 : (0 ≤ (iI wh).toInt ∧ (iI wh).toInt ≤ 3)
    · exact z9
    · rw [sp_told, if_neg (fun z8 => z8 hv), if_pos z9] at hk; simp at hk
  obtain ⟨i, hi_i, hxe_x, ei_i⟩ := ix_of hv.1 hv.2
  rw [hxe_x]
  have hq4 := hq.2
  obtain ⟨n, hn4, hxe_wh, ei_n⟩ := ix_of (n := 4) hq.1 (by omega)
  have hwn4 : (iI wh).toInt = (n : Int) := by rw [hxe_wh]; exact ix_nI (by omega)
  rw [sp_told, if_neg (fun z9 => z9 hv), if_neg (fun z9 => z9 hq), ei_i, hwn4] at hret
  rw [hxe_wh]
  refine gs (pc' := 1) (fun _ _ _ _ _ hl => lv_aload_n hx hb d_Mf_told_0 rfl (lv_at hl 0 rfl)) ?_
  refine gs (pc' := 2) (fun _ _ _ _ _ hl => lv_iload_n hx hb d_Mf_told_1 rfl (lv_at hl 1 rfl)) ?_
  have f_3 : G a.x = some (31, .inr (8, [.ref a.vs, .int (nI S.n), .ref a.rs, .int (nI S.rn), .ref a.ws, .ref a.ca, .ref (a.fr 0), .ref (a.fr 1), .ref (a.fr 2), .ref (a.fr 3), .ref a.zr, .ref a.fo, .ref a.ha, .ref a.si])) := hC.ob
  refine g_outr hlo (g_runV (As := [.int (nI i)]) (rest := []) ⟨hx, hb, hml, hown, hts⟩ hK hZ hRc hRs (c_Mf_valueOf l D cA lo MC MS G B X a S F V hC hW i (by omega) hX1 hX2) (fun _ _ => cwV 1 hts (tb_good (tb_cons wm539 (tb_cons wm541 (tb_cons ws11 (tb_cons wm1 k_Mf_valueOf))))) rfl rfl rfl (by decide +kernel) ⟨by rw [hRf]; exact Nat.le_of_ble_eq_true rfl, by rw [hRl]; exact Nat.le_of_ble_eq_true rfl⟩) f_3 rfl bl_1 bl_2 rfl (Nat.le_of_ble_eq_true rfl) d_Mf_told_2) (fun r_7 G_4 B_5 p_6 => ?_)
  obtain ⟨u_8, iv_9⟩ := p_6
  cases u_8
  have rb_10 : rb (S.v i) 100 := rb_of (hW.v _ (by omega)).1
  have ub_11 := (hW.v i (by omega)).2
  have ub_12 := ub_11.1
  have ub_13 := ub_11.2
  refine gst (pc' := 6) (L' := [(3, .ref r_7), (0, .ref a.x), (1, .int (nI i)), (2, .int (nI n))]) (fun _ _ _ _ _ hl => lv_astore_n hx hb d_Mf_told_5 rfl hl (by decide) rfl) ?_
  refine gs (pc' := 7) (fun _ _ _ _ _ hl => lv_iload_n hx hb d_Mf_told_6 rfl (lv_at hl 3 rfl)) ?_
  rcases (show n = 0 ∨ n = 1 ∨ n = 2 ∨ n = 3 by omega) with z9 | z9 | z9 | z9
  · skip
    subst z9
    refine gs (pc' := 36) (fun _ _ _ _ _ hl => lv_tableIn (tgt := 36) (off := 29) hx hb d_Mf_told_7 (by decide) (by decide) (by decide) (by decide)) ?_
    refine gs (pc' := 37) (fun _ _ _ _ _ hl => lv_aload_n hx hb d_Mf_told_36 rfl (lv_at hl 0 rfl)) ?_
    obtain ⟨hf_14, f_15, kq_16⟩ := id iv_9
    have f_17 : G r_7 = some (30, .inr (6, [.ref hf_14, .int (iI (S.un i))])) := f_15
    refine g_get hx hb hts hin_Va hown hK f_17 rfl 0 (by decide) (hts _ wm523) (fun _ h9 => h9) rfl d_Mf_told_37 ?_
    obtain ⟨t_18, ha_19, hb_20, e_21, f_22, rd_23, rd_24⟩ := id kq_16
    refine g_get hx hb hts hin_Fr hown hK f_22 rfl 0 (by decide) (hts _ wm165) (fun _ h9 => h9) rfl d_Mf_told_40 ?_
    exact hret 43 _ _ _ _ d_Mf_told_43 bl_1 bl_2 ⟨sgI_sign _, hC.up (X1 := (X.1 + 6, X.2 + 209)) (show X.1 ≤ X.1 + 6 by omega) (show X.2 ≤ X.2 + 209 by omega), (gfr_mono (M := fun x => x < 24) gfr_rf (fun x h9 => by omega))⟩
  · skip
    subst z9
    refine gs (pc' := 44) (fun _ _ _ _ _ hl => lv_tableIn (tgt := 44) (off := 37) hx hb d_Mf_told_7 (by decide) (by decide) (by decide) (by decide)) ?_
    refine gs (pc' := 45) (fun _ _ _ _ _ hl => lv_aload_n hx hb d_Mf_told_44 rfl (lv_at hl 0 rfl)) ?_
    obtain ⟨hf_25, f_26, kq_27⟩ := id iv_9
    have f_28 : G r_7 = some (30, .inr (6, [.ref hf_25, .int (iI (S.un i))])) := f_26
    refine g_get hx hb hts hin_Va hown hK f_28 rfl 0 (by decide) (hts _ wm523) (fun _ h9 => h9) rfl d_Mf_told_45 ?_
    obtain ⟨t_29, ha_30, hb_31, e_32, f_33, rd_34, rd_35⟩ := id kq_27
    refine g_get hx hb hts hin_Fr hown hK f_33 rfl 1 (by decide) (hts _ wm168) (fun _ h9 => h9) rfl d_Mf_told_48 ?_
    obtain ⟨t_36, k_37, e_38, e_39, aa_40, z_41, f_42, f_43, f_44, e_45, e_46⟩ := id rd_34
    refine g_outi hlo (g_runV (As := []) (rest := []) ⟨hx, hb, hml, hown, hts⟩ hK hZ hRc hRs (n_digits l D cA lo MC MS G B _ ha_30 ((S.v i).num.natAbs) rd_34 bl_1 bl_2) (fun _ _ => cwV 0 hts (tb_good (tb_cons wm650 (tb_cons wm504 (tb_cons wm505 (tb_cons wm5 k_Na_digits))))) rfl rfl rfl (by decide +kernel) ⟨by rw [hRf]; exact Nat.le_of_ble_eq_true rfl, by rw [hRl]; exact Nat.le_of_ble_eq_true rfl⟩) f_43 rfl bl_1 bl_2 rfl (Nat.le_of_ble_eq_true rfl) d_Mf_told_51) (fun r_50 G_47 B_48 p_49 => ?_)
    obtain ⟨u_51, K_52, e_53, e_54⟩ := p_49
    cases u_51
    have e_54n := ndig_of e_54
    subst e_54n
    subst e_53
    exact hret 54 _ _ _ _ d_Mf_told_54 bl_1 bl_2 ⟨nI_iI _, hC.up (X1 := (X.1 + 6, X.2 + 209)) (show X.1 ≤ X.1 + 6 by omega) (show X.2 ≤ X.2 + 209 by omega), (gfr_mono (M := fun x => x < 24) gfr_rf (fun x h9 => by omega))⟩
  · skip
    subst z9
    refine gs (pc' := 55) (fun _ _ _ _ _ hl => lv_tableIn (tgt := 55) (off := 48) hx hb d_Mf_told_7 (by decide) (by decide) (by decide) (by decide)) ?_
    refine gs (pc' := 56) (fun _ _ _ _ _ hl => lv_aload_n hx hb d_Mf_told_55 rfl (lv_at hl 0 rfl)) ?_
    obtain ⟨hf_55, f_56, kq_57⟩ := id iv_9
    have f_58 : G r_7 = some (30, .inr (6, [.ref hf_55, .int (iI (S.un i))])) := f_56
    refine g_get hx hb hts hin_Va hown hK f_58 rfl 0 (by decide) (hts _ wm523) (fun _ h9 => h9) rfl d_Mf_told_56 ?_
    obtain ⟨t_59, ha_60, hb_61, e_62, f_63, rd_64, rd_65⟩ := id kq_57
    refine g_get hx hb hts hin_Fr hown hK f_63 rfl 2 (by decide) (hts _ wm171) (fun _ h9 => h9) rfl d_Mf_told_59 ?_
    obtain ⟨t_66, k_67, e_68, e_69, aa_70, z_71, f_72, f_73, f_74, e_75, e_76⟩ := id rd_65
    refine g_outi hlo (g_runV (As := []) (rest := []) ⟨hx, hb, hml, hown, hts⟩ hK hZ hRc hRs (n_digits l D cA lo MC MS G B _ hb_61 ((S.v i).den) rd_65 bl_1 bl_2) (fun _ _ => cwV 0 hts (tb_good (tb_cons wm650 (tb_cons wm504 (tb_cons wm505 (tb_cons wm5 k_Na_digits))))) rfl rfl rfl (by decide +kernel) ⟨by rw [hRf]; exact Nat.le_of_ble_eq_true rfl, by rw [hRl]; exact Nat.le_of_ble_eq_true rfl⟩) f_73 rfl bl_1 bl_2 rfl (Nat.le_of_ble_eq_true rfl) d_Mf_told_62) (fun r_80 G_77 B_78 p_79 => ?_)
    obtain ⟨u_81, K_82, e_83, e_84⟩ := p_79
    cases u_81
    have e_84n := ndig_of e_84
    subst e_84n
    subst e_83
    exact hret 65 _ _ _ _ d_Mf_told_65 bl_1 bl_2 ⟨nI_iI _, hC.up (X1 := (X.1 + 6, X.2 + 209)) (show X.1 ≤ X.1 + 6 by omega) (show X.2 ≤ X.2 + 209 by omega), (gfr_mono (M := fun x => x < 24) gfr_rf (fun x h9 => by omega))⟩
  · skip
    subst z9
    refine gs (pc' := 66) (fun _ _ _ _ _ hl => lv_tableIn (tgt := 66) (off := 59) hx hb d_Mf_told_7 (by decide) (by decide) (by decide) (by decide)) ?_
    refine gs (pc' := 67) (fun _ _ _ _ _ hl => lv_aload_n hx hb d_Mf_told_66 rfl (lv_at hl 0 rfl)) ?_
    obtain ⟨hf_85, f_86, kq_87⟩ := id iv_9
    have f_88 : G r_7 = some (30, .inr (6, [.ref hf_85, .int (iI (S.un i))])) := f_86
    refine g_get hx hb hts hin_Va hown hK f_88 rfl 1 (by decide) (hts _ wm525) (fun _ h9 => h9) rfl d_Mf_told_67 ?_
    exact hret 70 _ _ _ _ d_Mf_told_70 bl_1 bl_2 ⟨rfl, hC.up (X1 := (X.1 + 6, X.2 + 209)) (show X.1 ≤ X.1 + 6 by omega) (show X.2 ≤ X.2 + 209 by omega), (gfr_mono (M := fun x => x < 24) gfr_rf (fun x h9 => by omega))⟩
set_option maxHeartbeats 4000000 in
set_option maxRecDepth 100000 in
theorem t_Mf_told1 (l : Launch) (D : va_G) (cA : Nat → ClassId) (lo MC MS : Nat) (G : gT) (B : Nat × Nat) (X : Nat × Nat) (a : AX) (S : St) (F : Nat → Option Rat) (V : Nat → Nat) (hC : CW cA X a S F V (G, B)) (hW : WF S) (x : Int) (hx1 : -2147483648 ≤ x) (hx2 : x < 2147483648) (wh : Int) (hwh1 : -2147483648 ≤ wh) (hwh2 : wh < 2147483648) (hk : (sp_told S (iI x) (iI wh)).1 = 1) (hY1 : X.1 + 1 ≤ MC) (hY2 : X.2 + 6 ≤ MS) (hfl : ∀ e : Env, l.admits e → e.platform.stackTraces = false) : gMetT l y_Mf_told w_Mf_told 7 111 D clS (gtys cA) lo MC MS [.ref a.x, .int (iI x), .int (iI wh)] G B (gQx D clS lo "java/lang/IndexOutOfBoundsException" (fun u => u = (G, B.1 + 1, B.2 + 6))) := by
  refine g_mett (cc := prog_1_method_9_code) (nL := 4) (ret := (Option.some .int)) (L := [(0, .ref a.x), (1, .int (iI x)), (2, .int (iI wh))]) (by decide +kernel) rfl (Nat.le_of_ble_eq_true rfl) rfl ?_
  intro p e R s m args below meth c Q hF hRc hRs hRf hRl hne hQ
  obtain ⟨hx, hb, hr, hml, hts0, hown, hlocks, hin, hK, hlo, hZ⟩ := hF
  have hts : ∀ w ∈ tbg, w.before args s = true := fun w h => hts0 w (List.mem_cons_of_mem _ h)
  have hX1 : X.1 ≤ MC := by omega
  have hX2 : X.2 ≤ MS := by omega
  have hn := hW.n
  have hrn := hW.rn
  have hwn := hW.wn
  have bl_1 : B.1 ≤ MC := Nat.le_trans (w2_le hC.w).1 hX1
  have bl_2 : B.2 ≤ MS := Nat.le_trans (w2_le hC.w).2 hX2
  have hv : ¬ vi S (iI x) := fun z9 => by
    rw [sp_told, if_neg (fun z8 => z8 z9)] at hk
    split at hk
    · simp at hk
    · simp at hk
  refine gs (pc' := 1) (fun _ _ _ _ _ hl => lv_aload_n hx hb d_Mf_told_0 rfl (lv_at hl 0 rfl)) ?_
  refine gs (pc' := 2) (fun _ _ _ _ _ hl => lv_iload_n hx hb d_Mf_told_1 rfl (lv_at hl 1 rfl)) ?_
  have f_3 : G a.x = some (31, .inr (8, [.ref a.vs, .int (nI S.n), .ref a.rs, .int (nI S.rn), .ref a.ws, .ref a.ca, .ref (a.fr 0), .ref (a.fr 1), .ref (a.fr 2), .ref (a.fr 3), .ref a.zr, .ref a.fo, .ref a.ha, .ref a.si])) := hC.ob
  exact g_up hlocks hne bl_1 bl_2 (g_thrV (As := [.int (iI x)]) (rest := []) ⟨hx, hb, hml, hown, hts⟩ hK hZ hRc hRs (t_Mf_valueOf l D cA lo MC MS G B X a S F V hC hW x hx1 hx2 (nvi hx1 hx2 hv) hY1 hY2 hfl) (fun _ _ => cwV 1 hts (tb_good (tb_cons wm539 (tb_cons wm541 (tb_cons ws11 (tb_cons wm1 k_Mf_valueOf))))) rfl rfl rfl (by decide +kernel) ⟨by rw [hRf]; exact Nat.le_of_ble_eq_true rfl, by rw [hRl]; exact Nat.le_of_ble_eq_true rfl⟩) f_3 rfl bl_1 bl_2 rfl (Nat.le_of_ble_eq_true rfl) d_Mf_told_2) (fun _ h => h) hQ
set_option maxHeartbeats 4000000 in
set_option maxRecDepth 100000 in
theorem t_Mf_told2 (l : Launch) (D : va_G) (cA : Nat → ClassId) (lo MC MS : Nat) (G : gT) (B : Nat × Nat) (X : Nat × Nat) (a : AX) (S : St) (F : Nat → Option Rat) (V : Nat → Nat) (hC : CW cA X a S F V (G, B)) (hW : WF S) (x : Int) (hx1 : -2147483648 ≤ x) (hx2 : x < 2147483648) (wh : Int) (hwh1 : -2147483648 ≤ wh) (hwh2 : wh < 2147483648) (hk : (sp_told S (iI x) (iI wh)).1 = 2) (hY1 : X.1 + 1 ≤ MC) (hY2 : X.2 + 6 ≤ MS) (hfl : ∀ e : Env, l.admits e → e.platform.stackTraces = false) : gMetT l y_Mf_told w_Mf_told 6 90 D clS (gtys cA) lo MC MS [.ref a.x, .int (iI x), .int (iI wh)] G B (gQx D clS lo "java/lang/IllegalArgumentException" (fun u => u = (G, B.1 + 1, B.2 + 6))) := by
  refine g_mett (cc := prog_1_method_9_code) (nL := 4) (ret := (Option.some .int)) (L := [(0, .ref a.x), (1, .int (iI x)), (2, .int (iI wh))]) (by decide +kernel) rfl (Nat.le_of_ble_eq_true rfl) rfl ?_
  intro p e R s m args below meth c Q hF hRc hRs hRf hRl hne hQ
  obtain ⟨hx, hb, hr, hml, hts0, hown, hlocks, hin, hK, hlo, hZ⟩ := hF
  have hts : ∀ w ∈ tbg, w.before args s = true := fun w h => hts0 w (List.mem_cons_of_mem _ h)
  have hX1 : X.1 ≤ MC := by omega
  have hX2 : X.2 ≤ MS := by omega
  have hn := hW.n
  have hrn := hW.rn
  have hwn := hW.wn
  have bl_1 : B.1 ≤ MC := Nat.le_trans (w2_le hC.w).1 hX1
  have bl_2 : B.2 ≤ MS := Nat.le_trans (w2_le hC.w).2 hX2
  have hv : vi S (iI x) := by
    by_cases z9 : vi S (iI x)
    · exact z9
    · rw [sp_told, if_pos z9] at hk; simp at hk
  have hq : ¬ (0 ≤ (iI wh).toInt ∧ (iI wh).toInt ≤ 3) := fun z9 => by
    rw [sp_told, if_neg (fun z8 => z8 hv), if_neg (fun z8 => z8 z9)] at hk
    simp at hk
  obtain ⟨i, hi_i, hxe_x, ei_i⟩ := ix_of hv.1 hv.2
  rw [hxe_x]
  refine gs (pc' := 1) (fun _ _ _ _ _ hl => lv_aload_n hx hb d_Mf_told_0 rfl (lv_at hl 0 rfl)) ?_
  refine gs (pc' := 2) (fun _ _ _ _ _ hl => lv_iload_n hx hb d_Mf_told_1 rfl (lv_at hl 1 rfl)) ?_
  have f_3 : G a.x = some (31, .inr (8, [.ref a.vs, .int (nI S.n), .ref a.rs, .int (nI S.rn), .ref a.ws, .ref a.ca, .ref (a.fr 0), .ref (a.fr 1), .ref (a.fr 2), .ref (a.fr 3), .ref a.zr, .ref a.fo, .ref a.ha, .ref a.si])) := hC.ob
  refine g_outr hlo (g_runV (As := [.int (nI i)]) (rest := []) ⟨hx, hb, hml, hown, hts⟩ hK hZ hRc hRs (c_Mf_valueOf l D cA lo MC MS G B X a S F V hC hW i (by omega) hX1 hX2) (fun _ _ => cwV 1 hts (tb_good (tb_cons wm539 (tb_cons wm541 (tb_cons ws11 (tb_cons wm1 k_Mf_valueOf))))) rfl rfl rfl (by decide +kernel) ⟨by rw [hRf]; exact Nat.le_of_ble_eq_true rfl, by rw [hRl]; exact Nat.le_of_ble_eq_true rfl⟩) f_3 rfl bl_1 bl_2 rfl (Nat.le_of_ble_eq_true rfl) d_Mf_told_2) (fun r_7 G_4 B_5 p_6 => ?_)
  obtain ⟨u_8, iv_9⟩ := p_6
  cases u_8
  have rb_10 : rb (S.v i) 100 := rb_of (hW.v _ (by omega)).1
  have ub_11 := (hW.v i (by omega)).2
  have ub_12 := ub_11.1
  have ub_13 := ub_11.2
  refine gst (pc' := 6) (L' := [(3, .ref r_7), (0, .ref a.x), (1, .int (nI i)), (2, .int (iI wh))]) (fun _ _ _ _ _ hl => lv_astore_n hx hb d_Mf_told_5 rfl hl (by decide) rfl) ?_
  refine gs (pc' := 7) (fun _ _ _ _ _ hl => lv_iload_n hx hb d_Mf_told_6 rfl (lv_at hl 3 rfl)) ?_
  refine gs (pc' := 71) (fun _ _ _ _ _ hl => lv_tableOut (tgt := 71) hx hb d_Mf_told_7 (show (iI wh).toInt < 0 ∨ 3 < (iI wh).toInt by omega) (by decide)) ?_
  have le_14 := w2_le hC.w
  exact g_throw (tx := "nothing is told by this number") (post := fun u => u = (G, B.1 + 1, B.2 + 6)) hx hb hml hown hts hlo hZ hfl hlocks hne (fun U h h1 h2 => own_Iae h h1 h2) (by decide +kernel) wm370 wm371 wm17 (by decide) hRc hRs (by rw [hRf]; exact Nat.le_of_ble_eq_true rfl) (by rw [hRl]; exact Nat.le_of_ble_eq_true rfl) (by have := le_14.1; omega) (by have := le_14.2; omega) d_Mf_told_71 d_Mf_told_74 d_Mf_told_75 d_Mf_told_77 d_Mf_told_80 rfl hQ
set_option maxHeartbeats 4000000 in
set_option maxRecDepth 100000 in
theorem c_Mf_digit (l : Launch) (D : va_G) (cA : Nat → ClassId) (lo MC MS : Nat) (G : gT) (B : Nat × Nat) (X : Nat × Nat) (a : AX) (S : St) (F : Nat → Option Rat) (V : Nat → Nat) (hC : CW cA X a S F V (G, B)) (hW : WF S) (x : Int) (hx1 : -2147483648 ≤ x) (hx2 : x < 2147483648) (pt : Int) (hpt1 : -2147483648 ≤ pt) (hpt2 : pt < 2147483648) (io : Int) (hio1 : -2147483648 ≤ io) (hio2 : io < 2147483648) (hk : (sp_digit S (iI x) (iI pt) (iI io)).1 = 0) (hY1 : X.1 + 6 ≤ MC) (hY2 : X.2 + 209 ≤ MS) : gMet l y_Mf_digit w_Mf_digit 2 42 D clS (gtys cA) lo MC MS [.ref a.x, .int (iI x), .int (iI pt), .int (iI io)] G B (gQi D clS lo (fun r u => r = iI (sp_digit S (iI x) (iI pt) (iI io)).2.1 ∧ CW3 cA (X.1 + 6, X.2 + 209) a (sp_digit S (iI x) (iI pt) (iI io)).2.2 u ∧ gfr (fun x => x < 70) G u.1)) := by
  refine g_meti (cc := prog_1_method_10_code) (nL := 6) (L := [(0, .ref a.x), (1, .int (iI x)), (2, .int (iI pt)), (3, .int (iI io))]) (by decide +kernel) rfl (Nat.le_of_ble_eq_true rfl) rfl ?_
  intro p e R s m args below meth c Q hF hRc hRs hRf hRl hret
  obtain ⟨hx, hb, hr, hml, hts0, hown, hlocks, hin, hK, hlo, hZ⟩ := hF
  have hts : ∀ w ∈ tbg, w.before args s = true := fun w h => hts0 w (List.mem_cons_of_mem _ h)
  have hX1 : X.1 ≤ MC := by omega
  have hX2 : X.2 ≤ MS := by omega
  have hn := hW.n
  have hrn := hW.rn
  have hwn := hW.wn
  have bl_1 : B.1 ≤ MC := Nat.le_trans (w2_le hC.w).1 hX1
  have bl_2 : B.2 ≤ MS := Nat.le_trans (w2_le hC.w).2 hX2
  have hv : (vi S (iI x) ∧ 0 ≤ (iI io).toInt) := by
    by_cases z9 : (vi S (iI x) ∧ 0 ≤ (iI io).toInt)
    · exact z9
    · rw [sp_digit, if_pos z9] at hk; simp at hk
  have hq : ((iI pt).toInt = 0 ∨ (iI pt).toInt = 1) := by
    by_cases z9 : ((iI pt).toInt = 0 ∨ (iI pt).toInt = 1)
    · exact z9
    · rw [sp_digit, if_neg (fun z8 => z8 hv), if_pos z9] at hk; simp at hk
  have hl3 : (iI io).toInt < (ndig (prt (S.v (ix (iI x))) (iI pt).toInt) : Int) := by
    by_cases z9 : (iI io).toInt < (ndig (prt (S.v (ix (iI x))) (iI pt).toInt) : Int)
    · exact z9
    · rw [sp_digit, if_neg (fun z8 => z8 hv), if_neg (fun z8 => z8 hq), if_pos z9] at hk; simp at hk
  rw [sp_digit, if_neg (fun z9 => z9 hv), if_neg (fun z9 => z9 hq), if_neg (fun z9 => z9 hl3)] at hret
  obtain ⟨i, hi_i, hxe_x, ei_i⟩ := ix_of hv.1.1 hv.1.2
  rw [hxe_x]
  have hio : (iI io).toInt < 2147483648 := (i32_bd _).2
  obtain ⟨o, ho4, hxe_io, ei_o⟩ := ix_of (n := 2147483648) hv.2 hio
  have hoi : (iI io).toInt = (o : Int) := by rw [hxe_io]; exact ix_nI ho4
  rw [ei_i, ei_o] at hret
  rw [ei_i, hoi] at hl3
  rw [hxe_io]
  rcases hq with hpt | hpt
  · skip
    rw [iI_toInt hpt1 hpt2] at hpt
    subst hpt
    rw [show iI 0 = nI 0 from rfl]
    rw [iI_toInt hpt1 hpt2] at hl3 hret
    have hl4 : o < ndig (S.v i).num.natAbs := by
      have z9 : (o : Int) < (ndig (S.v i).num.natAbs : Int) := hl3
      omega
    have hdg5 : ndig (S.v i).num.natAbs < 2147483648 := dig_bd (rb_of (hW.v i (by omega)).1).1
    refine gs (pc' := 1) (fun _ _ _ _ _ hl => lv_aload_n hx hb d_Mf_digit_0 rfl (lv_at hl 0 rfl)) ?_
    refine gs (pc' := 2) (fun _ _ _ _ _ hl => lv_iload_n hx hb d_Mf_digit_1 rfl (lv_at hl 1 rfl)) ?_
    have f_3 : G a.x = some (31, .inr (8, [.ref a.vs, .int (nI S.n), .ref a.rs, .int (nI S.rn), .ref a.ws, .ref a.ca, .ref (a.fr 0), .ref (a.fr 1), .ref (a.fr 2), .ref (a.fr 3), .ref a.zr, .ref a.fo, .ref a.ha, .ref a.si])) := hC.ob
    refine g_outr hlo (g_runV (As := [.int (nI i)]) (rest := []) ⟨hx, hb, hml, hown, hts⟩ hK hZ hRc hRs (c_Mf_valueOf l D cA lo MC MS G B X a S F V hC hW i (by omega) hX1 hX2) (fun _ _ => cwV 1 hts (tb_good (tb_cons wm539 (tb_cons wm541 (tb_cons ws11 (tb_cons wm1 k_Mf_valueOf))))) rfl rfl rfl (by decide +kernel) ⟨by rw [hRf]; exact Nat.le_of_ble_eq_true rfl, by rw [hRl]; exact Nat.le_of_ble_eq_true rfl⟩) f_3 rfl bl_1 bl_2 rfl (Nat.le_of_ble_eq_true rfl) d_Mf_digit_2) (fun r_7 G_4 B_5 p_6 => ?_)
    obtain ⟨u_8, iv_9⟩ := p_6
    cases u_8
    have rb_10 : rb (S.v i) 100 := rb_of (hW.v _ (by omega)).1
    have ub_11 := (hW.v i (by omega)).2
    have ub_12 := ub_11.1
    have ub_13 := ub_11.2
    refine gst (pc' := 7) (L' := [(4, .ref r_7), (0, .ref a.x), (1, .int (nI i)), (2, .int (nI 0)), (3, .int (nI o))]) (fun _ _ _ _ _ hl => lv_astore hx hb d_Mf_digit_5 hl (by decide) rfl) ?_
    refine gs (pc' := 8) (fun _ _ _ _ _ hl => lv_iload_n hx hb d_Mf_digit_7 rfl (lv_at hl 4 rfl)) ?_
    refine gsb (pc1 := 21) (pc2 := 11) (fun _ _ _ _ _ => lv_if_ge (tgt := 21) hx hb d_Mf_digit_8 (by decide)) (fun c_14 => ?_) (fun c_14 => ?_)
    · skip
      have nc_14 : o ≥ 0 := (n0_ge (a := o) (by omega)).1 c_14
      refine gs (pc' := 22) (fun _ _ _ _ _ hl => lv_iload_n hx hb d_Mf_digit_21 rfl (lv_at hl 3 rfl)) ?_
      refine gsb (pc1 := 40) (pc2 := 25) (fun _ _ _ _ _ => lv_if_eq (tgt := 40) hx hb d_Mf_digit_22 (by decide)) (fun c_15 => ?_) (fun c_15 => ?_)
      · skip
        have nc_15 : 0 = 0 := (n0_eq (a := 0) (by omega)).1 c_15
        refine gs (pc' := 41) (fun _ _ _ _ _ hl => lv_iload_n hx hb d_Mf_digit_40 rfl (lv_at hl 3 rfl)) ?_
        refine gsb (pc1 := 55) (pc2 := 44) (fun _ _ _ _ _ => lv_if_ne (tgt := 55) hx hb d_Mf_digit_41 (by decide)) (fun c_16 => ?_) (fun c_16 => ?_)
        · skip
          have nc_16 : 0 ≠ 0 := (n0_ne (a := 0) (by omega)).1 c_16
          exact absurd nc_16 (by omega)
        · skip
          have nc_16 : 0 = 0 := (n0_ne (a := 0) (by omega)).2 c_16
          refine gs (pc' := 46) (fun _ _ _ _ _ hl => lv_aload hx hb d_Mf_digit_44 (lv_at hl 0 rfl)) ?_
          obtain ⟨hf_17, f_18, kq_19⟩ := id iv_9
          have f_20 : G r_7 = some (30, .inr (6, [.ref hf_17, .int (iI (S.un i))])) := f_18
          refine g_get hx hb hts hin_Va hown hK f_20 rfl 0 (by decide) (hts _ wm523) (fun _ h9 => h9) rfl d_Mf_digit_46 ?_
          obtain ⟨t_21, ha_22, hb_23, e_24, f_25, rd_26, rd_27⟩ := id kq_19
          refine g_get hx hb hts hin_Fr hown hK f_25 rfl 1 (by decide) (hts _ wm168) (fun _ h9 => h9) rfl d_Mf_digit_49 ?_
          refine gs (pc' := 63) (fun _ _ _ _ _ hl => lv_goto (tgt := 63) hx hb d_Mf_digit_52 (by decide)) ?_
          refine gst (pc' := 65) (L' := [(5, .ref ha_22), (4, .ref r_7), (0, .ref a.x), (1, .int (nI i)), (2, .int (nI 0)), (3, .int (nI o))]) (fun _ _ _ _ _ hl => lv_astore hx hb d_Mf_digit_63 hl (by decide) rfl) ?_
          refine gs (pc' := 66) (fun _ _ _ _ _ hl => lv_iload_n hx hb d_Mf_digit_65 rfl (lv_at hl 5 rfl)) ?_
          refine gs (pc' := 68) (fun _ _ _ _ _ hl => lv_aload hx hb d_Mf_digit_66 (lv_at hl 0 rfl)) ?_
          obtain ⟨t_28, k_29, e_30, e_31, aa_32, z_33, f_34, f_35, f_36, e_37, e_38⟩ := id rd_26
          refine g_outi hlo (g_runV (As := []) (rest := [.int (nI o)]) ⟨hx, hb, hml, hown, hts⟩ hK hZ hRc hRs (n_digits l D cA lo MC MS G B _ ha_22 ((S.v i).num.natAbs) rd_26 bl_1 bl_2) (fun _ _ => cwV 0 hts (tb_good (tb_cons wm650 (tb_cons wm504 (tb_cons wm505 (tb_cons wm5 k_Na_digits))))) rfl rfl rfl (by decide +kernel) ⟨by rw [hRf]; exact Nat.le_of_ble_eq_true rfl, by rw [hRl]; exact Nat.le_of_ble_eq_true rfl⟩) f_35 rfl bl_1 bl_2 rfl (Nat.le_of_ble_eq_true rfl) d_Mf_digit_68) (fun r_42 G_39 B_40 p_41 => ?_)
          obtain ⟨u_43, K_44, e_45, e_46⟩ := p_41
          cases u_43
          have e_46n := ndig_of e_46
          subst e_46n
          subst e_45
          refine gsb (pc1 := 84) (pc2 := 74) (fun _ _ _ _ _ => lv_icmp_lt (tgt := 84) hx hb d_Mf_digit_71 (by decide)) (fun c_47 => ?_) (fun c_47 => ?_)
          · skip
            have nc_47 : o < (ndig ((S.v i).num.natAbs)) := (nn_lt (a := o) (b := (ndig ((S.v i).num.natAbs))) (by omega) (by omega)).1 c_47
            refine gs (pc' := 86) (fun _ _ _ _ _ hl => lv_aload hx hb d_Mf_digit_84 (lv_at hl 0 rfl)) ?_
            refine gs (pc' := 87) (fun _ _ _ _ _ hl => lv_iload_n hx hb d_Mf_digit_86 rfl (lv_at hl 5 rfl)) ?_
            refine g_outi hlo (g_runV (As := [.int (nI o)]) (rest := []) ⟨hx, hb, hml, hown, hts⟩ hK hZ hRc hRs (n_decimal l D cA lo MC MS G B _ ha_22 ((S.v i).num.natAbs) rd_26 o (by omega) bl_1 bl_2) (fun _ _ => cwV 1 hts (tb_good (tb_cons wm661 (tb_cons wm662 (tb_cons wm663 (tb_cons wm5 k_Na_decimal))))) rfl rfl rfl (by decide +kernel) ⟨by rw [hRf]; exact Nat.le_of_ble_eq_true rfl, by rw [hRl]; exact Nat.le_of_ble_eq_true rfl⟩) f_35 rfl bl_1 bl_2 rfl (Nat.le_of_ble_eq_true rfl) d_Mf_digit_87) (fun r_51 G_48 B_49 p_50 => ?_)
            obtain ⟨u_52, e_53⟩ := p_50
            cases u_52
            subst e_53
            exact hret 90 _ _ _ _ d_Mf_digit_90 bl_1 bl_2 ⟨nI_iI _, hC.up (X1 := (X.1 + 6, X.2 + 209)) (show X.1 ≤ X.1 + 6 by omega) (show X.2 ≤ X.2 + 209 by omega), (gfr_mono (M := fun x => x < 24) gfr_rf (fun x h9 => by omega))⟩
          · skip
            have nc_47 : o ≥ (ndig ((S.v i).num.natAbs)) := (nn_lt (a := o) (b := (ndig ((S.v i).num.natAbs))) (by omega) (by omega)).2 c_47
            exact absurd nc_47 (by omega)
      · skip
        have nc_15 : 0 ≠ 0 := (n0_eq (a := 0) (by omega)).2 c_15
        exact absurd nc_15 (by omega)
    · skip
      have nc_14 : o < 0 := (n0_ge (a := o) (by omega)).2 c_14
      exact absurd nc_14 (by omega)
  · skip
    rw [iI_toInt hpt1 hpt2] at hpt
    subst hpt
    rw [show iI 1 = nI 1 from rfl]
    rw [iI_toInt hpt1 hpt2] at hl3 hret
    have hl4 : o < ndig (S.v i).den := by
      have z9 : (o : Int) < (ndig (S.v i).den : Int) := hl3
      omega
    have hdg5 : ndig (S.v i).den < 2147483648 := dig_bd (rb_of (hW.v i (by omega)).1).2
    refine gs (pc' := 1) (fun _ _ _ _ _ hl => lv_aload_n hx hb d_Mf_digit_0 rfl (lv_at hl 0 rfl)) ?_
    refine gs (pc' := 2) (fun _ _ _ _ _ hl => lv_iload_n hx hb d_Mf_digit_1 rfl (lv_at hl 1 rfl)) ?_
    have f_54 : G a.x = some (31, .inr (8, [.ref a.vs, .int (nI S.n), .ref a.rs, .int (nI S.rn), .ref a.ws, .ref a.ca, .ref (a.fr 0), .ref (a.fr 1), .ref (a.fr 2), .ref (a.fr 3), .ref a.zr, .ref a.fo, .ref a.ha, .ref a.si])) := hC.ob
    refine g_outr hlo (g_runV (As := [.int (nI i)]) (rest := []) ⟨hx, hb, hml, hown, hts⟩ hK hZ hRc hRs (c_Mf_valueOf l D cA lo MC MS G B X a S F V hC hW i (by omega) hX1 hX2) (fun _ _ => cwV 1 hts (tb_good (tb_cons wm539 (tb_cons wm541 (tb_cons ws11 (tb_cons wm1 k_Mf_valueOf))))) rfl rfl rfl (by decide +kernel) ⟨by rw [hRf]; exact Nat.le_of_ble_eq_true rfl, by rw [hRl]; exact Nat.le_of_ble_eq_true rfl⟩) f_54 rfl bl_1 bl_2 rfl (Nat.le_of_ble_eq_true rfl) d_Mf_digit_2) (fun r_58 G_55 B_56 p_57 => ?_)
    obtain ⟨u_59, iv_60⟩ := p_57
    cases u_59
    have rb_61 : rb (S.v i) 100 := rb_of (hW.v _ (by omega)).1
    have ub_62 := (hW.v i (by omega)).2
    have ub_63 := ub_62.1
    have ub_64 := ub_62.2
    refine gst (pc' := 7) (L' := [(4, .ref r_58), (0, .ref a.x), (1, .int (nI i)), (2, .int (nI 1)), (3, .int (nI o))]) (fun _ _ _ _ _ hl => lv_astore hx hb d_Mf_digit_5 hl (by decide) rfl) ?_
    refine gs (pc' := 8) (fun _ _ _ _ _ hl => lv_iload_n hx hb d_Mf_digit_7 rfl (lv_at hl 4 rfl)) ?_
    refine gsb (pc1 := 21) (pc2 := 11) (fun _ _ _ _ _ => lv_if_ge (tgt := 21) hx hb d_Mf_digit_8 (by decide)) (fun c_65 => ?_) (fun c_65 => ?_)
    · skip
      have nc_65 : o ≥ 0 := (n0_ge (a := o) (by omega)).1 c_65
      refine gs (pc' := 22) (fun _ _ _ _ _ hl => lv_iload_n hx hb d_Mf_digit_21 rfl (lv_at hl 3 rfl)) ?_
      refine gsb (pc1 := 40) (pc2 := 25) (fun _ _ _ _ _ => lv_if_eq (tgt := 40) hx hb d_Mf_digit_22 (by decide)) (fun c_66 => ?_) (fun c_66 => ?_)
      · skip
        have nc_66 : 1 = 0 := (n0_eq (a := 1) (by omega)).1 c_66
        exact absurd nc_66 (by omega)
      · skip
        have nc_66 : 1 ≠ 0 := (n0_eq (a := 1) (by omega)).2 c_66
        refine gs (pc' := 26) (fun _ _ _ _ _ hl => lv_iload_n hx hb d_Mf_digit_25 rfl (lv_at hl 3 rfl)) ?_
        refine gs (pc' := 27) (fun _ _ _ _ _ hl => lv_iconst (v := nI 1) hx hb d_Mf_digit_26 (by decide)) ?_
        refine gsb (pc1 := 40) (pc2 := 30) (fun _ _ _ _ _ => lv_icmp_eq (tgt := 40) hx hb d_Mf_digit_27 (by decide)) (fun c_67 => ?_) (fun c_67 => ?_)
        · skip
          have nc_67 : 1 = 1 := (nn_eq (a := 1) (b := 1) (by omega) (by omega)).1 c_67
          refine gs (pc' := 41) (fun _ _ _ _ _ hl => lv_iload_n hx hb d_Mf_digit_40 rfl (lv_at hl 3 rfl)) ?_
          refine gsb (pc1 := 55) (pc2 := 44) (fun _ _ _ _ _ => lv_if_ne (tgt := 55) hx hb d_Mf_digit_41 (by decide)) (fun c_68 => ?_) (fun c_68 => ?_)
          · skip
            have nc_68 : 1 ≠ 0 := (n0_ne (a := 1) (by omega)).1 c_68
            refine gs (pc' := 57) (fun _ _ _ _ _ hl => lv_aload hx hb d_Mf_digit_55 (lv_at hl 0 rfl)) ?_
            obtain ⟨hf_69, f_70, kq_71⟩ := id iv_60
            have f_72 : G r_58 = some (30, .inr (6, [.ref hf_69, .int (iI (S.un i))])) := f_70
            refine g_get hx hb hts hin_Va hown hK f_72 rfl 0 (by decide) (hts _ wm523) (fun _ h9 => h9) rfl d_Mf_digit_57 ?_
            obtain ⟨t_73, ha_74, hb_75, e_76, f_77, rd_78, rd_79⟩ := id kq_71
            refine g_get hx hb hts hin_Fr hown hK f_77 rfl 2 (by decide) (hts _ wm171) (fun _ h9 => h9) rfl d_Mf_digit_60 ?_
            refine gst (pc' := 65) (L' := [(5, .ref hb_75), (4, .ref r_58), (0, .ref a.x), (1, .int (nI i)), (2, .int (nI 1)), (3, .int (nI o))]) (fun _ _ _ _ _ hl => lv_astore hx hb d_Mf_digit_63 hl (by decide) rfl) ?_
            refine gs (pc' := 66) (fun _ _ _ _ _ hl => lv_iload_n hx hb d_Mf_digit_65 rfl (lv_at hl 5 rfl)) ?_
            refine gs (pc' := 68) (fun _ _ _ _ _ hl => lv_aload hx hb d_Mf_digit_66 (lv_at hl 0 rfl)) ?_
            obtain ⟨t_80, k_81, e_82, e_83, aa_84, z_85, f_86, f_87, f_88, e_89, e_90⟩ := id rd_79
            refine g_outi hlo (g_runV (As := []) (rest := [.int (nI o)]) ⟨hx, hb, hml, hown, hts⟩ hK hZ hRc hRs (n_digits l D cA lo MC MS G B _ hb_75 ((S.v i).den) rd_79 bl_1 bl_2) (fun _ _ => cwV 0 hts (tb_good (tb_cons wm650 (tb_cons wm504 (tb_cons wm505 (tb_cons wm5 k_Na_digits))))) rfl rfl rfl (by decide +kernel) ⟨by rw [hRf]; exact Nat.le_of_ble_eq_true rfl, by rw [hRl]; exact Nat.le_of_ble_eq_true rfl⟩) f_87 rfl bl_1 bl_2 rfl (Nat.le_of_ble_eq_true rfl) d_Mf_digit_68) (fun r_94 G_91 B_92 p_93 => ?_)
            obtain ⟨u_95, K_96, e_97, e_98⟩ := p_93
            cases u_95
            have e_98n := ndig_of e_98
            subst e_98n
            subst e_97
            refine gsb (pc1 := 84) (pc2 := 74) (fun _ _ _ _ _ => lv_icmp_lt (tgt := 84) hx hb d_Mf_digit_71 (by decide)) (fun c_99 => ?_) (fun c_99 => ?_)
            · skip
              have nc_99 : o < (ndig ((S.v i).den)) := (nn_lt (a := o) (b := (ndig ((S.v i).den))) (by omega) (by omega)).1 c_99
              refine gs (pc' := 86) (fun _ _ _ _ _ hl => lv_aload hx hb d_Mf_digit_84 (lv_at hl 0 rfl)) ?_
              refine gs (pc' := 87) (fun _ _ _ _ _ hl => lv_iload_n hx hb d_Mf_digit_86 rfl (lv_at hl 5 rfl)) ?_
              refine g_outi hlo (g_runV (As := [.int (nI o)]) (rest := []) ⟨hx, hb, hml, hown, hts⟩ hK hZ hRc hRs (n_decimal l D cA lo MC MS G B _ hb_75 ((S.v i).den) rd_79 o (by omega) bl_1 bl_2) (fun _ _ => cwV 1 hts (tb_good (tb_cons wm661 (tb_cons wm662 (tb_cons wm663 (tb_cons wm5 k_Na_decimal))))) rfl rfl rfl (by decide +kernel) ⟨by rw [hRf]; exact Nat.le_of_ble_eq_true rfl, by rw [hRl]; exact Nat.le_of_ble_eq_true rfl⟩) f_87 rfl bl_1 bl_2 rfl (Nat.le_of_ble_eq_true rfl) d_Mf_digit_87) (fun r_103 G_100 B_101 p_102 => ?_)
              obtain ⟨u_104, e_105⟩ := p_102
              cases u_104
              subst e_105
              exact hret 90 _ _ _ _ d_Mf_digit_90 bl_1 bl_2 ⟨nI_iI _, hC.up (X1 := (X.1 + 6, X.2 + 209)) (show X.1 ≤ X.1 + 6 by omega) (show X.2 ≤ X.2 + 209 by omega), (gfr_mono (M := fun x => x < 24) gfr_rf (fun x h9 => by omega))⟩
            · skip
              have nc_99 : o ≥ (ndig ((S.v i).den)) := (nn_lt (a := o) (b := (ndig ((S.v i).den))) (by omega) (by omega)).2 c_99
              exact absurd nc_99 (by omega)
          · skip
            have nc_68 : 1 = 0 := (n0_ne (a := 1) (by omega)).2 c_68
            exact absurd nc_68 (by omega)
        · skip
          have nc_67 : 1 ≠ 1 := (nn_eq (a := 1) (b := 1) (by omega) (by omega)).2 c_67
          exact absurd nc_67 (by omega)
    · skip
      have nc_65 : o < 0 := (n0_ge (a := o) (by omega)).2 c_65
      exact absurd nc_65 (by omega)
set_option maxHeartbeats 4000000 in
set_option maxRecDepth 100000 in
theorem t_Mf_digit2 (l : Launch) (D : va_G) (cA : Nat → ClassId) (lo MC MS : Nat) (G : gT) (B : Nat × Nat) (X : Nat × Nat) (a : AX) (S : St) (F : Nat → Option Rat) (V : Nat → Nat) (hC : CW cA X a S F V (G, B)) (hW : WF S) (x : Int) (hx1 : -2147483648 ≤ x) (hx2 : x < 2147483648) (pt : Int) (hpt1 : -2147483648 ≤ pt) (hpt2 : pt < 2147483648) (io : Int) (hio1 : -2147483648 ≤ io) (hio2 : io < 2147483648) (hk : (sp_digit S (iI x) (iI pt) (iI io)).1 = 2) (hY1 : X.1 + 1 ≤ MC) (hY2 : X.2 + 6 ≤ MS) (hfl : ∀ e : Env, l.admits e → e.platform.stackTraces = false) : gMetT l y_Mf_digit w_Mf_digit 6 90 D clS (gtys cA) lo MC MS [.ref a.x, .int (iI x), .int (iI pt), .int (iI io)] G B (gQx D clS lo "java/lang/IllegalArgumentException" (fun u => u = (G, B.1 + 1, B.2 + 6))) := by
  refine g_mett (cc := prog_1_method_10_code) (nL := 6) (ret := (Option.some .int)) (L := [(0, .ref a.x), (1, .int (iI x)), (2, .int (iI pt)), (3, .int (iI io))]) (by decide +kernel) rfl (Nat.le_of_ble_eq_true rfl) rfl ?_
  intro p e R s m args below meth c Q hF hRc hRs hRf hRl hne hQ
  obtain ⟨hx, hb, hr, hml, hts0, hown, hlocks, hin, hK, hlo, hZ⟩ := hF
  have hts : ∀ w ∈ tbg, w.before args s = true := fun w h => hts0 w (List.mem_cons_of_mem _ h)
  have hX1 : X.1 ≤ MC := by omega
  have hX2 : X.2 ≤ MS := by omega
  have hn := hW.n
  have hrn := hW.rn
  have hwn := hW.wn
  have bl_1 : B.1 ≤ MC := Nat.le_trans (w2_le hC.w).1 hX1
  have bl_2 : B.2 ≤ MS := Nat.le_trans (w2_le hC.w).2 hX2
  have hv : (vi S (iI x) ∧ 0 ≤ (iI io).toInt) := by
    by_cases z9 : (vi S (iI x) ∧ 0 ≤ (iI io).toInt)
    · exact z9
    · rw [sp_digit, if_pos z9] at hk; simp at hk
  have hq : ¬ ((iI pt).toInt = 0 ∨ (iI pt).toInt = 1) := fun z9 => by
    rw [sp_digit, if_neg (fun z8 => z8 hv), if_neg (fun z8 => z8 z9)] at hk
    split at hk
    · simp at hk
    · simp at hk
  rw [iI_toInt hpt1 hpt2] at hq
  have hio0 : 0 ≤ io := by have z9 := hv.2; rw [iI_toInt hio1 hio2] at z9; exact z9
  obtain ⟨i, hi_i, hxe_x, ei_i⟩ := ix_of hv.1.1 hv.1.2
  rw [hxe_x]
  refine gs (pc' := 1) (fun _ _ _ _ _ hl => lv_aload_n hx hb d_Mf_digit_0 rfl (lv_at hl 0 rfl)) ?_
  refine gs (pc' := 2) (fun _ _ _ _ _ hl => lv_iload_n hx hb d_Mf_digit_1 rfl (lv_at hl 1 rfl)) ?_
  have f_3 : G a.x = some (31, .inr (8, [.ref a.vs, .int (nI S.n), .ref a.rs, .int (nI S.rn), .ref a.ws, .ref a.ca, .ref (a.fr 0), .ref (a.fr 1), .ref (a.fr 2), .ref (a.fr 3), .ref a.zr, .ref a.fo, .ref a.ha, .ref a.si])) := hC.ob
  refine g_outr hlo (g_runV (As := [.int (nI i)]) (rest := []) ⟨hx, hb, hml, hown, hts⟩ hK hZ hRc hRs (c_Mf_valueOf l D cA lo MC MS G B X a S F V hC hW i (by omega) hX1 hX2) (fun _ _ => cwV 1 hts (tb_good (tb_cons wm539 (tb_cons wm541 (tb_cons ws11 (tb_cons wm1 k_Mf_valueOf))))) rfl rfl rfl (by decide +kernel) ⟨by rw [hRf]; exact Nat.le_of_ble_eq_true rfl, by rw [hRl]; exact Nat.le_of_ble_eq_true rfl⟩) f_3 rfl bl_1 bl_2 rfl (Nat.le_of_ble_eq_true rfl) d_Mf_digit_2) (fun r_7 G_4 B_5 p_6 => ?_)
  obtain ⟨u_8, iv_9⟩ := p_6
  cases u_8
  have rb_10 : rb (S.v i) 100 := rb_of (hW.v _ (by omega)).1
  have ub_11 := (hW.v i (by omega)).2
  have ub_12 := ub_11.1
  have ub_13 := ub_11.2
  refine gst (pc' := 7) (L' := [(4, .ref r_7), (0, .ref a.x), (1, .int (nI i)), (2, .int (iI pt)), (3, .int (iI io))]) (fun _ _ _ _ _ hl => lv_astore hx hb d_Mf_digit_5 hl (by decide) rfl) ?_
  refine gs (pc' := 8) (fun _ _ _ _ _ hl => lv_iload_n hx hb d_Mf_digit_7 rfl (lv_at hl 4 rfl)) ?_
  refine gsb (pc1 := 21) (pc2 := 11) (fun _ _ _ _ _ => lv_if_ge (tgt := 21) hx hb d_Mf_digit_8 (by decide)) (fun c_14 => ?_) (fun c_14 => ?_)
  · skip
    have nc_14 : io ≥ 0 := (ii_ge (a := io) (b := 0) (by omega) (by omega) (by omega) (by omega)).1 (by first | exact c_14 | (have z9 := c_14; simp only [nI_iI] at z9; exact z9))
    refine gs (pc' := 22) (fun _ _ _ _ _ hl => lv_iload_n hx hb d_Mf_digit_21 rfl (lv_at hl 3 rfl)) ?_
    refine gsb (pc1 := 40) (pc2 := 25) (fun _ _ _ _ _ => lv_if_eq (tgt := 40) hx hb d_Mf_digit_22 (by decide)) (fun c_15 => ?_) (fun c_15 => ?_)
    · skip
      have nc_15 : pt = 0 := (ii_eq (a := pt) (b := 0) (by omega) (by omega) (by omega) (by omega)).1 (by first | exact c_15 | (have z9 := c_15; simp only [nI_iI] at z9; exact z9))
      exact absurd nc_15 (fun z9 => hq (Or.inl z9))
    · skip
      have nc_15 : pt ≠ 0 := (ii_eq (a := pt) (b := 0) (by omega) (by omega) (by omega) (by omega)).2 (by first | exact c_15 | (have z9 := c_15; simp only [nI_iI] at z9; exact z9))
      refine gs (pc' := 26) (fun _ _ _ _ _ hl => lv_iload_n hx hb d_Mf_digit_25 rfl (lv_at hl 3 rfl)) ?_
      refine gs (pc' := 27) (fun _ _ _ _ _ hl => lv_iconst (v := nI 1) hx hb d_Mf_digit_26 (by decide)) ?_
      refine gsb (pc1 := 40) (pc2 := 30) (fun _ _ _ _ _ => lv_icmp_eq (tgt := 40) hx hb d_Mf_digit_27 (by decide)) (fun c_16 => ?_) (fun c_16 => ?_)
      · skip
        have nc_16 : pt = ((1 : Nat) : Int) := (ii_eq (a := pt) (b := ((1 : Nat) : Int)) (by omega) (by omega) (by omega) (by omega)).1 (by first | exact c_16 | (have z9 := c_16; simp only [nI_iI] at z9; exact z9))
        exact absurd nc_16 (fun z9 => hq (Or.inr (by omega)))
      · skip
        have nc_16 : pt ≠ ((1 : Nat) : Int) := (ii_eq (a := pt) (b := ((1 : Nat) : Int)) (by omega) (by omega) (by omega) (by omega)).2 (by first | exact c_16 | (have z9 := c_16; simp only [nI_iI] at z9; exact z9))
        have le_17 := w2_le hC.w
        exact g_throw (tx := "no such part") (post := fun u => u = (G, B.1 + 1, B.2 + 6)) hx hb hml hown hts hlo hZ hfl hlocks hne (fun U h h1 h2 => own_Iae h h1 h2) (by decide +kernel) wm370 wm371 wm17 (by decide) hRc hRs (by rw [hRf]; exact Nat.le_of_ble_eq_true rfl) (by rw [hRl]; exact Nat.le_of_ble_eq_true rfl) (by have := le_17.1; omega) (by have := le_17.2; omega) d_Mf_digit_30 d_Mf_digit_33 d_Mf_digit_34 d_Mf_digit_36 d_Mf_digit_39 rfl hQ
  · skip
    have nc_14 : io < 0 := (ii_ge (a := io) (b := 0) (by omega) (by omega) (by omega) (by omega)).2 (by first | exact c_14 | (have z9 := c_14; simp only [nI_iI] at z9; exact z9))
    exact absurd nc_14 (by omega)
set_option maxHeartbeats 4000000 in
set_option maxRecDepth 100000 in
theorem t_Mf_digit1 (l : Launch) (D : va_G) (cA : Nat → ClassId) (lo MC MS : Nat) (G : gT) (B : Nat × Nat) (X : Nat × Nat) (a : AX) (S : St) (F : Nat → Option Rat) (V : Nat → Nat) (hC : CW cA X a S F V (G, B)) (hW : WF S) (x : Int) (hx1 : -2147483648 ≤ x) (hx2 : x < 2147483648) (pt : Int) (hpt1 : -2147483648 ≤ pt) (hpt2 : pt < 2147483648) (io : Int) (hio1 : -2147483648 ≤ io) (hio2 : io < 2147483648) (hk : (sp_digit S (iI x) (iI pt) (iI io)).1 = 1) (hY1 : X.1 + 1 ≤ MC) (hY2 : X.2 + 6 ≤ MS) (hfl : ∀ e : Env, l.admits e → e.platform.stackTraces = false) : gMetT l y_Mf_digit w_Mf_digit 7 111 D clS (gtys cA) lo MC MS [.ref a.x, .int (iI x), .int (iI pt), .int (iI io)] G B (gQx D clS lo "java/lang/IndexOutOfBoundsException" (fun u => u = (G, B.1 + 1, B.2 + 6))) := by
  refine g_mett (cc := prog_1_method_10_code) (nL := 6) (ret := (Option.some .int)) (L := [(0, .ref a.x), (1, .int (iI x)), (2, .int (iI pt)), (3, .int (iI io))]) (by decide +kernel) rfl (Nat.le_of_ble_eq_true rfl) rfl ?_
  intro p e R s m args below meth c Q hF hRc hRs hRf hRl hne hQ
  obtain ⟨hx, hb, hr, hml, hts0, hown, hlocks, hin, hK, hlo, hZ⟩ := hF
  have hts : ∀ w ∈ tbg, w.before args s = true := fun w h => hts0 w (List.mem_cons_of_mem _ h)
  have hX1 : X.1 ≤ MC := by omega
  have hX2 : X.2 ≤ MS := by omega
  have hn := hW.n
  have hrn := hW.rn
  have hwn := hW.wn
  have bl_1 : B.1 ≤ MC := Nat.le_trans (w2_le hC.w).1 hX1
  have bl_2 : B.2 ≤ MS := Nat.le_trans (w2_le hC.w).2 hX2
  by_cases hv : vi S (iI x)
  · skip
    obtain ⟨i, hi_i, hxe_x, ei_i⟩ := ix_of hv.1 hv.2
    rw [hxe_x]
    by_cases hio0 : 0 ≤ io
    · skip
      have hv1 : (vi S (iI x) ∧ 0 ≤ (iI io).toInt) := ⟨hv, by rw [iI_toInt hio1 hio2]; exact hio0⟩
      have hq : ((iI pt).toInt = 0 ∨ (iI pt).toInt = 1) := by
        by_cases z9 : ((iI pt).toInt = 0 ∨ (iI pt).toInt = 1)
        · exact z9
        · rw [sp_digit, if_neg (fun z8 => z8 hv1), if_pos z9] at hk; simp at hk
      have hl3 : ¬ (iI io).toInt < (ndig (prt (S.v (ix (iI x))) (iI pt).toInt) : Int) := fun z9 => by
        rw [sp_digit, if_neg (fun z8 => z8 hv1), if_neg (fun z8 => z8 hq), if_neg (fun z8 => z8 z9)] at hk
        simp at hk
      obtain ⟨o, ho4, hxe_io, ei_o⟩ := ix_of (n := 2147483648) hv1.2 (i32_bd _).2
      have hoi : (iI io).toInt = (o : Int) := by rw [hxe_io]; exact ix_nI ho4
      rw [ei_i, hoi] at hl3
      rw [hxe_io]
      rcases hq with hpt | hpt
      · skip
        rw [iI_toInt hpt1 hpt2] at hpt
        subst hpt
        rw [show iI 0 = nI 0 from rfl]
        rw [iI_toInt hpt1 hpt2] at hl3
        have hl4 : ndig (S.v i).num.natAbs ≤ o := by
          have z9 : ¬ (o : Int) < (ndig (S.v i).num.natAbs : Int) := hl3
          omega
        have hdg5 : ndig (S.v i).num.natAbs < 2147483648 := dig_bd (rb_of (hW.v i (by omega)).1).1
        refine gs (pc' := 1) (fun _ _ _ _ _ hl => lv_aload_n hx hb d_Mf_digit_0 rfl (lv_at hl 0 rfl)) ?_
        refine gs (pc' := 2) (fun _ _ _ _ _ hl => lv_iload_n hx hb d_Mf_digit_1 rfl (lv_at hl 1 rfl)) ?_
        have f_3 : G a.x = some (31, .inr (8, [.ref a.vs, .int (nI S.n), .ref a.rs, .int (nI S.rn), .ref a.ws, .ref a.ca, .ref (a.fr 0), .ref (a.fr 1), .ref (a.fr 2), .ref (a.fr 3), .ref a.zr, .ref a.fo, .ref a.ha, .ref a.si])) := hC.ob
        refine g_outr hlo (g_runV (As := [.int (nI i)]) (rest := []) ⟨hx, hb, hml, hown, hts⟩ hK hZ hRc hRs (c_Mf_valueOf l D cA lo MC MS G B X a S F V hC hW i (by omega) hX1 hX2) (fun _ _ => cwV 1 hts (tb_good (tb_cons wm539 (tb_cons wm541 (tb_cons ws11 (tb_cons wm1 k_Mf_valueOf))))) rfl rfl rfl (by decide +kernel) ⟨by rw [hRf]; exact Nat.le_of_ble_eq_true rfl, by rw [hRl]; exact Nat.le_of_ble_eq_true rfl⟩) f_3 rfl bl_1 bl_2 rfl (Nat.le_of_ble_eq_true rfl) d_Mf_digit_2) (fun r_7 G_4 B_5 p_6 => ?_)
        obtain ⟨u_8, iv_9⟩ := p_6
        cases u_8
        have rb_10 : rb (S.v i) 100 := rb_of (hW.v _ (by omega)).1
        have ub_11 := (hW.v i (by omega)).2
        have ub_12 := ub_11.1
        have ub_13 := ub_11.2
        refine gst (pc' := 7) (L' := [(4, .ref r_7), (0, .ref a.x), (1, .int (nI i)), (2, .int (nI 0)), (3, .int (nI o))]) (fun _ _ _ _ _ hl => lv_astore hx hb d_Mf_digit_5 hl (by decide) rfl) ?_
        refine gs (pc' := 8) (fun _ _ _ _ _ hl => lv_iload_n hx hb d_Mf_digit_7 rfl (lv_at hl 4 rfl)) ?_
        refine gsb (pc1 := 21) (pc2 := 11) (fun _ _ _ _ _ => lv_if_ge (tgt := 21) hx hb d_Mf_digit_8 (by decide)) (fun c_14 => ?_) (fun c_14 => ?_)
        · skip
          have nc_14 : o ≥ 0 := (n0_ge (a := o) (by omega)).1 c_14
          refine gs (pc' := 22) (fun _ _ _ _ _ hl => lv_iload_n hx hb d_Mf_digit_21 rfl (lv_at hl 3 rfl)) ?_
          refine gsb (pc1 := 40) (pc2 := 25) (fun _ _ _ _ _ => lv_if_eq (tgt := 40) hx hb d_Mf_digit_22 (by decide)) (fun c_15 => ?_) (fun c_15 => ?_)
          · skip
            have nc_15 : 0 = 0 := (n0_eq (a := 0) (by omega)).1 c_15
            refine gs (pc' := 41) (fun _ _ _ _ _ hl => lv_iload_n hx hb d_Mf_digit_40 rfl (lv_at hl 3 rfl)) ?_
            refine gsb (pc1 := 55) (pc2 := 44) (fun _ _ _ _ _ => lv_if_ne (tgt := 55) hx hb d_Mf_digit_41 (by decide)) (fun c_16 => ?_) (fun c_16 => ?_)
            · skip
              have nc_16 : 0 ≠ 0 := (n0_ne (a := 0) (by omega)).1 c_16
              exact absurd nc_16 (by omega)
            · skip
              have nc_16 : 0 = 0 := (n0_ne (a := 0) (by omega)).2 c_16
              refine gs (pc' := 46) (fun _ _ _ _ _ hl => lv_aload hx hb d_Mf_digit_44 (lv_at hl 0 rfl)) ?_
              obtain ⟨hf_17, f_18, kq_19⟩ := id iv_9
              have f_20 : G r_7 = some (30, .inr (6, [.ref hf_17, .int (iI (S.un i))])) := f_18
              refine g_get hx hb hts hin_Va hown hK f_20 rfl 0 (by decide) (hts _ wm523) (fun _ h9 => h9) rfl d_Mf_digit_46 ?_
              obtain ⟨t_21, ha_22, hb_23, e_24, f_25, rd_26, rd_27⟩ := id kq_19
              refine g_get hx hb hts hin_Fr hown hK f_25 rfl 1 (by decide) (hts _ wm168) (fun _ h9 => h9) rfl d_Mf_digit_49 ?_
              refine gs (pc' := 63) (fun _ _ _ _ _ hl => lv_goto (tgt := 63) hx hb d_Mf_digit_52 (by decide)) ?_
              refine gst (pc' := 65) (L' := [(5, .ref ha_22), (4, .ref r_7), (0, .ref a.x), (1, .int (nI i)), (2, .int (nI 0)), (3, .int (nI o))]) (fun _ _ _ _ _ hl => lv_astore hx hb d_Mf_digit_63 hl (by decide) rfl) ?_
              refine gs (pc' := 66) (fun _ _ _ _ _ hl => lv_iload_n hx hb d_Mf_digit_65 rfl (lv_at hl 5 rfl)) ?_
              refine gs (pc' := 68) (fun _ _ _ _ _ hl => lv_aload hx hb d_Mf_digit_66 (lv_at hl 0 rfl)) ?_
              obtain ⟨t_28, k_29, e_30, e_31, aa_32, z_33, f_34, f_35, f_36, e_37, e_38⟩ := id rd_26
              refine g_outi hlo (g_runV (As := []) (rest := [.int (nI o)]) ⟨hx, hb, hml, hown, hts⟩ hK hZ hRc hRs (n_digits l D cA lo MC MS G B _ ha_22 ((S.v i).num.natAbs) rd_26 bl_1 bl_2) (fun _ _ => cwV 0 hts (tb_good (tb_cons wm650 (tb_cons wm504 (tb_cons wm505 (tb_cons wm5 k_Na_digits))))) rfl rfl rfl (by decide +kernel) ⟨by rw [hRf]; exact Nat.le_of_ble_eq_true rfl, by rw [hRl]; exact Nat.le_of_ble_eq_true rfl⟩) f_35 rfl bl_1 bl_2 rfl (Nat.le_of_ble_eq_true rfl) d_Mf_digit_68) (fun r_42 G_39 B_40 p_41 => ?_)
              obtain ⟨u_43, K_44, e_45, e_46⟩ := p_41
              cases u_43
              have e_46n := ndig_of e_46
              subst e_46n
              subst e_45
              refine gsb (pc1 := 84) (pc2 := 74) (fun _ _ _ _ _ => lv_icmp_lt (tgt := 84) hx hb d_Mf_digit_71 (by decide)) (fun c_47 => ?_) (fun c_47 => ?_)
              · skip
                have nc_47 : o < (ndig ((S.v i).num.natAbs)) := (nn_lt (a := o) (b := (ndig ((S.v i).num.natAbs))) (by omega) (by omega)).1 c_47
                exact absurd nc_47 (by omega)
              · skip
                have nc_47 : o ≥ (ndig ((S.v i).num.natAbs)) := (nn_lt (a := o) (b := (ndig ((S.v i).num.natAbs))) (by omega) (by omega)).2 c_47
                have le_48 := w2_le hC.w
                exact g_throw (tx := "no such digit") (post := fun u => u = (G, B.1 + 1, B.2 + 6)) hx hb hml hown hts hlo hZ hfl hlocks hne (fun U h h1 h2 => own_Iob h h1 h2) (by decide +kernel) wm543 wm544 wm19 (by decide) hRc hRs (by rw [hRf]; exact Nat.le_of_ble_eq_true rfl) (by rw [hRl]; exact Nat.le_of_ble_eq_true rfl) (by have := le_48.1; omega) (by have := le_48.2; omega) d_Mf_digit_74 d_Mf_digit_77 d_Mf_digit_78 d_Mf_digit_80 d_Mf_digit_83 rfl hQ
          · skip
            have nc_15 : 0 ≠ 0 := (n0_eq (a := 0) (by omega)).2 c_15
            exact absurd nc_15 (by omega)
        · skip
          have nc_14 : o < 0 := (n0_ge (a := o) (by omega)).2 c_14
          exact absurd nc_14 (by omega)
      · skip
        rw [iI_toInt hpt1 hpt2] at hpt
        subst hpt
        rw [show iI 1 = nI 1 from rfl]
        rw [iI_toInt hpt1 hpt2] at hl3
        have hl4 : ndig (S.v i).den ≤ o := by
          have z9 : ¬ (o : Int) < (ndig (S.v i).den : Int) := hl3
          omega
        have hdg5 : ndig (S.v i).den < 2147483648 := dig_bd (rb_of (hW.v i (by omega)).1).2
        refine gs (pc' := 1) (fun _ _ _ _ _ hl => lv_aload_n hx hb d_Mf_digit_0 rfl (lv_at hl 0 rfl)) ?_
        refine gs (pc' := 2) (fun _ _ _ _ _ hl => lv_iload_n hx hb d_Mf_digit_1 rfl (lv_at hl 1 rfl)) ?_
        have f_49 : G a.x = some (31, .inr (8, [.ref a.vs, .int (nI S.n), .ref a.rs, .int (nI S.rn), .ref a.ws, .ref a.ca, .ref (a.fr 0), .ref (a.fr 1), .ref (a.fr 2), .ref (a.fr 3), .ref a.zr, .ref a.fo, .ref a.ha, .ref a.si])) := hC.ob
        refine g_outr hlo (g_runV (As := [.int (nI i)]) (rest := []) ⟨hx, hb, hml, hown, hts⟩ hK hZ hRc hRs (c_Mf_valueOf l D cA lo MC MS G B X a S F V hC hW i (by omega) hX1 hX2) (fun _ _ => cwV 1 hts (tb_good (tb_cons wm539 (tb_cons wm541 (tb_cons ws11 (tb_cons wm1 k_Mf_valueOf))))) rfl rfl rfl (by decide +kernel) ⟨by rw [hRf]; exact Nat.le_of_ble_eq_true rfl, by rw [hRl]; exact Nat.le_of_ble_eq_true rfl⟩) f_49 rfl bl_1 bl_2 rfl (Nat.le_of_ble_eq_true rfl) d_Mf_digit_2) (fun r_53 G_50 B_51 p_52 => ?_)
        obtain ⟨u_54, iv_55⟩ := p_52
        cases u_54
        have rb_56 : rb (S.v i) 100 := rb_of (hW.v _ (by omega)).1
        have ub_57 := (hW.v i (by omega)).2
        have ub_58 := ub_57.1
        have ub_59 := ub_57.2
        refine gst (pc' := 7) (L' := [(4, .ref r_53), (0, .ref a.x), (1, .int (nI i)), (2, .int (nI 1)), (3, .int (nI o))]) (fun _ _ _ _ _ hl => lv_astore hx hb d_Mf_digit_5 hl (by decide) rfl) ?_
        refine gs (pc' := 8) (fun _ _ _ _ _ hl => lv_iload_n hx hb d_Mf_digit_7 rfl (lv_at hl 4 rfl)) ?_
        refine gsb (pc1 := 21) (pc2 := 11) (fun _ _ _ _ _ => lv_if_ge (tgt := 21) hx hb d_Mf_digit_8 (by decide)) (fun c_60 => ?_) (fun c_60 => ?_)
        · skip
          have nc_60 : o ≥ 0 := (n0_ge (a := o) (by omega)).1 c_60
          refine gs (pc' := 22) (fun _ _ _ _ _ hl => lv_iload_n hx hb d_Mf_digit_21 rfl (lv_at hl 3 rfl)) ?_
          refine gsb (pc1 := 40) (pc2 := 25) (fun _ _ _ _ _ => lv_if_eq (tgt := 40) hx hb d_Mf_digit_22 (by decide)) (fun c_61 => ?_) (fun c_61 => ?_)
          · skip
            have nc_61 : 1 = 0 := (n0_eq (a := 1) (by omega)).1 c_61
            exact absurd nc_61 (by omega)
          · skip
            have nc_61 : 1 ≠ 0 := (n0_eq (a := 1) (by omega)).2 c_61
            refine gs (pc' := 26) (fun _ _ _ _ _ hl => lv_iload_n hx hb d_Mf_digit_25 rfl (lv_at hl 3 rfl)) ?_
            refine gs (pc' := 27) (fun _ _ _ _ _ hl => lv_iconst (v := nI 1) hx hb d_Mf_digit_26 (by decide)) ?_
            refine gsb (pc1 := 40) (pc2 := 30) (fun _ _ _ _ _ => lv_icmp_eq (tgt := 40) hx hb d_Mf_digit_27 (by decide)) (fun c_62 => ?_) (fun c_62 => ?_)
            · skip
              have nc_62 : 1 = 1 := (nn_eq (a := 1) (b := 1) (by omega) (by omega)).1 c_62
              refine gs (pc' := 41) (fun _ _ _ _ _ hl => lv_iload_n hx hb d_Mf_digit_40 rfl (lv_at hl 3 rfl)) ?_
              refine gsb (pc1 := 55) (pc2 := 44) (fun _ _ _ _ _ => lv_if_ne (tgt := 55) hx hb d_Mf_digit_41 (by decide)) (fun c_63 => ?_) (fun c_63 => ?_)
              · skip
                have nc_63 : 1 ≠ 0 := (n0_ne (a := 1) (by omega)).1 c_63
                refine gs (pc' := 57) (fun _ _ _ _ _ hl => lv_aload hx hb d_Mf_digit_55 (lv_at hl 0 rfl)) ?_
                obtain ⟨hf_64, f_65, kq_66⟩ := id iv_55
                have f_67 : G r_53 = some (30, .inr (6, [.ref hf_64, .int (iI (S.un i))])) := f_65
                refine g_get hx hb hts hin_Va hown hK f_67 rfl 0 (by decide) (hts _ wm523) (fun _ h9 => h9) rfl d_Mf_digit_57 ?_
                obtain ⟨t_68, ha_69, hb_70, e_71, f_72, rd_73, rd_74⟩ := id kq_66
                refine g_get hx hb hts hin_Fr hown hK f_72 rfl 2 (by decide) (hts _ wm171) (fun _ h9 => h9) rfl d_Mf_digit_60 ?_
                refine gst (pc' := 65) (L' := [(5, .ref hb_70), (4, .ref r_53), (0, .ref a.x), (1, .int (nI i)), (2, .int (nI 1)), (3, .int (nI o))]) (fun _ _ _ _ _ hl => lv_astore hx hb d_Mf_digit_63 hl (by decide) rfl) ?_
                refine gs (pc' := 66) (fun _ _ _ _ _ hl => lv_iload_n hx hb d_Mf_digit_65 rfl (lv_at hl 5 rfl)) ?_
                refine gs (pc' := 68) (fun _ _ _ _ _ hl => lv_aload hx hb d_Mf_digit_66 (lv_at hl 0 rfl)) ?_
                obtain ⟨t_75, k_76, e_77, e_78, aa_79, z_80, f_81, f_82, f_83, e_84, e_85⟩ := id rd_74
                refine g_outi hlo (g_runV (As := []) (rest := [.int (nI o)]) ⟨hx, hb, hml, hown, hts⟩ hK hZ hRc hRs (n_digits l D cA lo MC MS G B _ hb_70 ((S.v i).den) rd_74 bl_1 bl_2) (fun _ _ => cwV 0 hts (tb_good (tb_cons wm650 (tb_cons wm504 (tb_cons wm505 (tb_cons wm5 k_Na_digits))))) rfl rfl rfl (by decide +kernel) ⟨by rw [hRf]; exact Nat.le_of_ble_eq_true rfl, by rw [hRl]; exact Nat.le_of_ble_eq_true rfl⟩) f_82 rfl bl_1 bl_2 rfl (Nat.le_of_ble_eq_true rfl) d_Mf_digit_68) (fun r_89 G_86 B_87 p_88 => ?_)
                obtain ⟨u_90, K_91, e_92, e_93⟩ := p_88
                cases u_90
                have e_93n := ndig_of e_93
                subst e_93n
                subst e_92
                refine gsb (pc1 := 84) (pc2 := 74) (fun _ _ _ _ _ => lv_icmp_lt (tgt := 84) hx hb d_Mf_digit_71 (by decide)) (fun c_94 => ?_) (fun c_94 => ?_)
                · skip
                  have nc_94 : o < (ndig ((S.v i).den)) := (nn_lt (a := o) (b := (ndig ((S.v i).den))) (by omega) (by omega)).1 c_94
                  exact absurd nc_94 (by omega)
                · skip
                  have nc_94 : o ≥ (ndig ((S.v i).den)) := (nn_lt (a := o) (b := (ndig ((S.v i).den))) (by omega) (by omega)).2 c_94
                  have le_95 := w2_le hC.w
                  exact g_throw (tx := "no such digit") (post := fun u => u = (G, B.1 + 1, B.2 + 6)) hx hb hml hown hts hlo hZ hfl hlocks hne (fun U h h1 h2 => own_Iob h h1 h2) (by decide +kernel) wm543 wm544 wm19 (by decide) hRc hRs (by rw [hRf]; exact Nat.le_of_ble_eq_true rfl) (by rw [hRl]; exact Nat.le_of_ble_eq_true rfl) (by have := le_95.1; omega) (by have := le_95.2; omega) d_Mf_digit_74 d_Mf_digit_77 d_Mf_digit_78 d_Mf_digit_80 d_Mf_digit_83 rfl hQ
              · skip
                have nc_63 : 1 = 0 := (n0_ne (a := 1) (by omega)).2 c_63
                exact absurd nc_63 (by omega)
            · skip
              have nc_62 : 1 ≠ 1 := (nn_eq (a := 1) (b := 1) (by omega) (by omega)).2 c_62
              exact absurd nc_62 (by omega)
        · skip
          have nc_60 : o < 0 := (n0_ge (a := o) (by omega)).2 c_60
          exact absurd nc_60 (by omega)
    · skip
      refine gs (pc' := 1) (fun _ _ _ _ _ hl => lv_aload_n hx hb d_Mf_digit_0 rfl (lv_at hl 0 rfl)) ?_
      refine gs (pc' := 2) (fun _ _ _ _ _ hl => lv_iload_n hx hb d_Mf_digit_1 rfl (lv_at hl 1 rfl)) ?_
      have f_96 : G a.x = some (31, .inr (8, [.ref a.vs, .int (nI S.n), .ref a.rs, .int (nI S.rn), .ref a.ws, .ref a.ca, .ref (a.fr 0), .ref (a.fr 1), .ref (a.fr 2), .ref (a.fr 3), .ref a.zr, .ref a.fo, .ref a.ha, .ref a.si])) := hC.ob
      refine g_outr hlo (g_runV (As := [.int (nI i)]) (rest := []) ⟨hx, hb, hml, hown, hts⟩ hK hZ hRc hRs (c_Mf_valueOf l D cA lo MC MS G B X a S F V hC hW i (by omega) hX1 hX2) (fun _ _ => cwV 1 hts (tb_good (tb_cons wm539 (tb_cons wm541 (tb_cons ws11 (tb_cons wm1 k_Mf_valueOf))))) rfl rfl rfl (by decide +kernel) ⟨by rw [hRf]; exact Nat.le_of_ble_eq_true rfl, by rw [hRl]; exact Nat.le_of_ble_eq_true rfl⟩) f_96 rfl bl_1 bl_2 rfl (Nat.le_of_ble_eq_true rfl) d_Mf_digit_2) (fun r_100 G_97 B_98 p_99 => ?_)
      obtain ⟨u_101, iv_102⟩ := p_99
      cases u_101
      have rb_103 : rb (S.v i) 100 := rb_of (hW.v _ (by omega)).1
      have ub_104 := (hW.v i (by omega)).2
      have ub_105 := ub_104.1
      have ub_106 := ub_104.2
      refine gst (pc' := 7) (L' := [(4, .ref r_100), (0, .ref a.x), (1, .int (nI i)), (2, .int (iI pt)), (3, .int (iI io))]) (fun _ _ _ _ _ hl => lv_astore hx hb d_Mf_digit_5 hl (by decide) rfl) ?_
      refine gs (pc' := 8) (fun _ _ _ _ _ hl => lv_iload_n hx hb d_Mf_digit_7 rfl (lv_at hl 4 rfl)) ?_
      refine gsb (pc1 := 21) (pc2 := 11) (fun _ _ _ _ _ => lv_if_ge (tgt := 21) hx hb d_Mf_digit_8 (by decide)) (fun c_107 => ?_) (fun c_107 => ?_)
      · skip
        have nc_107 : io ≥ 0 := (ii_ge (a := io) (b := 0) (by omega) (by omega) (by omega) (by omega)).1 (by first | exact c_107 | (have z9 := c_107; simp only [nI_iI] at z9; exact z9))
        exact absurd nc_107 (by omega)
      · skip
        have nc_107 : io < 0 := (ii_ge (a := io) (b := 0) (by omega) (by omega) (by omega) (by omega)).2 (by first | exact c_107 | (have z9 := c_107; simp only [nI_iI] at z9; exact z9))
        have le_108 := w2_le hC.w
        exact g_throw (tx := "no such digit") (post := fun u => u = (G, B.1 + 1, B.2 + 6)) hx hb hml hown hts hlo hZ hfl hlocks hne (fun U h h1 h2 => own_Iob h h1 h2) (by decide +kernel) wm543 wm544 wm19 (by decide) hRc hRs (by rw [hRf]; exact Nat.le_of_ble_eq_true rfl) (by rw [hRl]; exact Nat.le_of_ble_eq_true rfl) (by have := le_108.1; omega) (by have := le_108.2; omega) d_Mf_digit_11 d_Mf_digit_14 d_Mf_digit_15 d_Mf_digit_17 d_Mf_digit_20 rfl hQ
  · skip
    refine gs (pc' := 1) (fun _ _ _ _ _ hl => lv_aload_n hx hb d_Mf_digit_0 rfl (lv_at hl 0 rfl)) ?_
    refine gs (pc' := 2) (fun _ _ _ _ _ hl => lv_iload_n hx hb d_Mf_digit_1 rfl (lv_at hl 1 rfl)) ?_
    have f_109 : G a.x = some (31, .inr (8, [.ref a.vs, .int (nI S.n), .ref a.rs, .int (nI S.rn), .ref a.ws, .ref a.ca, .ref (a.fr 0), .ref (a.fr 1), .ref (a.fr 2), .ref (a.fr 3), .ref a.zr, .ref a.fo, .ref a.ha, .ref a.si])) := hC.ob
    exact g_up hlocks hne bl_1 bl_2 (g_thrV (As := [.int (iI x)]) (rest := []) ⟨hx, hb, hml, hown, hts⟩ hK hZ hRc hRs (t_Mf_valueOf l D cA lo MC MS G B X a S F V hC hW x hx1 hx2 (nvi hx1 hx2 hv) hY1 hY2 hfl) (fun _ _ => cwV 1 hts (tb_good (tb_cons wm539 (tb_cons wm541 (tb_cons ws11 (tb_cons wm1 k_Mf_valueOf))))) rfl rfl rfl (by decide +kernel) ⟨by rw [hRf]; exact Nat.le_of_ble_eq_true rfl, by rw [hRl]; exact Nat.le_of_ble_eq_true rfl⟩) f_109 rfl bl_1 bl_2 rfl (Nat.le_of_ble_eq_true rfl) d_Mf_digit_2) (fun _ h => h) hQ
