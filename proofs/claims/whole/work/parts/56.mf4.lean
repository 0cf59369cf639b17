set_option maxHeartbeats 4000000 in
set_option maxRecDepth 100000 in
theorem c_Mf_told (l : Launch) (D : va_G) (cA : Nat → ClassId) (lo MC MS : Nat) (G : gT) (B : Nat × Nat) (X : Nat × Nat) (a : AX) (S : St) (F : Nat → Option Rat) (V : Nat → Nat) (hC : CW cA X a S F V (G, B)) (hW : WF S) (x : Int) (hx1 : -2147483648 ≤ x) (hx2 : x < 2147483648) (wh : Int) (hwh1 : -2147483648 ≤ wh) (hwh2 : wh < 2147483648) (hk : (sp_told S (iI x) (iI wh)).1 = 0) (hY1 : X.1 + 6 ≤ MC) (hY2 : X.2 + 209 ≤ MS) : gMet l y_Mf_told w_Mf_told 2 41 D clS (gtys cA) lo MC MS [.ref a.x, .int (iI x), .int (iI wh)] G B (gQi D clS lo (fun r u => r = iI (sp_told S (iI x) (iI wh)).2.1 ∧ CW3 cA (X.1 + 6, X.2 + 209) a (sp_told S (iI x) (iI wh)).2.2 u ∧ gfr (fun x => x < 70) G u.1)) := by
  refine g_meti (cc := prog_1_method_9_code) (nL := 4) (L := [(0, .ref a.x), (1, .int (iI x)), (2, .int (iI wh))]) (by decide +kernel) rfl (Nat.le_of_ble_eq_true rfl) rfl ?_
  intro p e R s m args below meth c Q hF hRc hRs hRf hRl hret
  obtain ⟨hx, hb, hr, hml, hts0, hown, hlocks, hin, hK, hlo, hZ⟩ := hF
  have hts : ∀ w ∈ tbg, w.before args s = true := fun w h => hts0 w (List.mem_cons_of_mem _ h)
  have hX1 : X.1 ≤ MC := by omega
  have hX2 : X.2 ≤ MS := by omega
  have hn := hW.n
  have hrn := hW.rn
  have hwn := hW.wn
  have bl_1 : B.1 ≤ MC := Nat.le_trans (w2_le hC.w).1 hX1
  have bl_2 : B.2 ≤ MS := Nat.le_trans (w2_le hC.w).2 hX2
  have hv : vi S (iI x) := by
    by_cases z9 : vi S (iI x)
    · exact z9
    · rw [sp_told, if_pos z9] at hk; exact absurd hk (by decide)
  have hq : (0 ≤ (iI wh).toInt ∧ (iI wh).toInt ≤ 3) := by
    by_cases z9 : (0 ≤ (iI wh).toInt ∧ (iI wh).toInt ≤ 3)
    · exact z9
    · rw [sp_told, if_neg (fun z8 => z8 hv), if_pos z9] at hk; exact absurd hk (by decide)
  obtain ⟨i, hi_i, hxe_x, ei_i⟩ := ix_of hv.1 hv.2
  rw [hxe_x]
  have hq4 := hq.2
  obtain ⟨n, hn4, hxe_wh, ei_n⟩ := ix_of (n := 4) hq.1 (by omega)
  have hwn4 : (iI wh).toInt = (n : Int) := by rw [hxe_wh]; exact ix_nI (by omega)
  rw [sp_told, if_neg (fun z9 => z9 hv), if_neg (fun z9 => z9 hq), ei_i, hwn4] at hret
  rw [hxe_wh]
  refine gs (pc' := 1) (fun _ _ _ _ _ hl => lv_aload_n hx hb d_Mf_told_0 rfl (lv_at hl 0 rfl)) ?_
  refine gs (pc' := 2) (fun _ _ _ _ _ hl => lv_iload_n hx hb d_Mf_told_1 rfl (lv_at hl 1 rfl)) ?_
  refine g_outr hlo (g_runV (As := [.int (nI i)]) (rest := []) ⟨hx, hb, hml, hown, hts⟩ hK hZ hRc hRs (c_Mf_valueOf l D cA lo MC MS G B X a S F V hC hW i (by omega) hX1 hX2) (fun _ _ => cwV 1 hts (tb_good (tb_cons wm539 (tb_cons wm541 (tb_cons ws11 (tb_cons wm1 k_Mf_valueOf))))) rfl rfl rfl (by decide +kernel) ⟨by rw [hRf]; exact Nat.le_of_ble_eq_true rfl, by rw [hRl]; exact Nat.le_of_ble_eq_true rfl⟩) hC.ob rfl bl_1 bl_2 rfl (Nat.le_of_ble_eq_true rfl) d_Mf_told_2) (fun r_6 G_3 B_4 p_5 => ?_)
  obtain ⟨u_7, iv_8⟩ := p_5
  cases u_7
  have rb_9 : rb (S.v i) 100 := rb_of (hW.v _ (by omega)).1
  have ub_10 := (hW.v i (by omega)).2
  have ub_11 := ub_10.1
  have ub_12 := ub_10.2
  refine gst (pc' := 6) (L' := [(3, .ref r_6), (0, .ref a.x), (1, .int (nI i)), (2, .int (nI n))]) (fun _ _ _ _ _ hl => lv_astore_n hx hb d_Mf_told_5 rfl hl (by decide) rfl) ?_
  refine gs (pc' := 7) (fun _ _ _ _ _ hl => lv_iload_n hx hb d_Mf_told_6 rfl (lv_at hl 3 rfl)) ?_
  rcases (show n = 0 ∨ n = 1 ∨ n = 2 ∨ n = 3 by omega) with z9 | z9 | z9 | z9
  · skip
    subst z9
    refine gs (pc' := 36) (fun _ _ _ _ _ hl => lv_tableIn (tgt := 36) hx hb d_Mf_told_7 (by decide) (by decide) (by decide) (by decide)) ?_
    refine gs (pc' := 37) (fun _ _ _ _ _ hl => lv_aload_n hx hb d_Mf_told_36 rfl (lv_at hl 0 rfl)) ?_
    obtain ⟨hf_13, f_14, kq_15⟩ := id iv_8
    refine g_get hx hb hts hin_Va hown hK f_14 rfl 0 (by decide) (hts _ wm523) (fun _ h9 => h9) rfl d_Mf_told_37 ?_
    obtain ⟨t_16, ha_17, hb_18, e_19, f_20, rd_21, rd_22⟩ := id kq_15
    refine g_get hx hb hts hin_Fr hown hK f_20 rfl 0 (by decide) (hts _ wm165) (fun _ h9 => h9) rfl d_Mf_told_40 ?_
    exact hret 43 _ _ _ _ d_Mf_told_43 bl_1 bl_2 ⟨sgI_sign _, hC.up (X1 := (X.1 + 6, X.2 + 209)) (show X.1 ≤ X.1 + 6 by omega) (show X.2 ≤ X.2 + 209 by omega), (gfr_mono (M := fun x => x < 24) gfr_rf (fun x h9 => by omega))⟩
  · skip
    subst z9
    refine gs (pc' := 44) (fun _ _ _ _ _ hl => lv_tableIn (tgt := 44) hx hb d_Mf_told_7 (by decide) (by decide) (by decide) (by decide)) ?_
    refine gs (pc' := 45) (fun _ _ _ _ _ hl => lv_aload_n hx hb d_Mf_told_44 rfl (lv_at hl 0 rfl)) ?_
    obtain ⟨hf_23, f_24, kq_25⟩ := id iv_8
    refine g_get hx hb hts hin_Va hown hK f_24 rfl 0 (by decide) (hts _ wm523) (fun _ h9 => h9) rfl d_Mf_told_45 ?_
    obtain ⟨t_26, ha_27, hb_28, e_29, f_30, rd_31, rd_32⟩ := id kq_25
    refine g_get hx hb hts hin_Fr hown hK f_30 rfl 1 (by decide) (hts _ wm168) (fun _ h9 => h9) rfl d_Mf_told_48 ?_
    obtain ⟨t_33, k_34, e_35, e_36, aa_37, z_38, f_39, f_40, f_41, e_42, e_43⟩ := id rd_31
    refine g_outi hlo (g_runV (As := []) (rest := []) ⟨hx, hb, hml, hown, hts⟩ hK hZ hRc hRs (n_digits l D cA lo MC MS G B _ ha_27 ((S.v i).num.natAbs) rd_31 bl_1 bl_2) (fun _ _ => cwV 0 hts (tb_good (tb_cons wm650 (tb_cons wm504 (tb_cons wm505 (tb_cons wm5 k_Na_digits))))) rfl rfl rfl (by decide +kernel) ⟨by rw [hRf]; exact Nat.le_of_ble_eq_true rfl, by rw [hRl]; exact Nat.le_of_ble_eq_true rfl⟩) f_40 rfl bl_1 bl_2 rfl (Nat.le_of_ble_eq_true rfl) d_Mf_told_51) (fun r_47 G_44 B_45 p_46 => ?_)
    obtain ⟨u_48, K_49, e_50, e_51⟩ := p_46
    cases u_48
    have e_51n := ndig_of e_51
    subst e_51n
    subst e_50
    exact hret 54 _ _ _ _ d_Mf_told_54 bl_1 bl_2 ⟨nI_iI _, hC.up (X1 := (X.1 + 6, X.2 + 209)) (show X.1 ≤ X.1 + 6 by omega) (show X.2 ≤ X.2 + 209 by omega), (gfr_mono (M := fun x => x < 24) gfr_rf (fun x h9 => by omega))⟩
  · skip
    subst z9
    refine gs (pc' := 55) (fun _ _ _ _ _ hl => lv_tableIn (tgt := 55) hx hb d_Mf_told_7 (by decide) (by decide) (by decide) (by decide)) ?_
    refine gs (pc' := 56) (fun _ _ _ _ _ hl => lv_aload_n hx hb d_Mf_told_55 rfl (lv_at hl 0 rfl)) ?_
    obtain ⟨hf_52, f_53, kq_54⟩ := id iv_8
    refine g_get hx hb hts hin_Va hown hK f_53 rfl 0 (by decide) (hts _ wm523) (fun _ h9 => h9) rfl d_Mf_told_56 ?_
    obtain ⟨t_55, ha_56, hb_57, e_58, f_59, rd_60, rd_61⟩ := id kq_54
    refine g_get hx hb hts hin_Fr hown hK f_59 rfl 2 (by decide) (hts _ wm171) (fun _ h9 => h9) rfl d_Mf_told_59 ?_
    obtain ⟨t_62, k_63, e_64, e_65, aa_66, z_67, f_68, f_69, f_70, e_71, e_72⟩ := id rd_61
    refine g_outi hlo (g_runV (As := []) (rest := []) ⟨hx, hb, hml, hown, hts⟩ hK hZ hRc hRs (n_digits l D cA lo MC MS G B _ hb_57 ((S.v i).den) rd_61 bl_1 bl_2) (fun _ _ => cwV 0 hts (tb_good (tb_cons wm650 (tb_cons wm504 (tb_cons wm505 (tb_cons wm5 k_Na_digits))))) rfl rfl rfl (by decide +kernel) ⟨by rw [hRf]; exact Nat.le_of_ble_eq_true rfl, by rw [hRl]; exact Nat.le_of_ble_eq_true rfl⟩) f_69 rfl bl_1 bl_2 rfl (Nat.le_of_ble_eq_true rfl) d_Mf_told_62) (fun r_76 G_73 B_74 p_75 => ?_)
    obtain ⟨u_77, K_78, e_79, e_80⟩ := p_75
    cases u_77
    have e_80n := ndig_of e_80
    subst e_80n
    subst e_79
    exact hret 65 _ _ _ _ d_Mf_told_65 bl_1 bl_2 ⟨nI_iI _, hC.up (X1 := (X.1 + 6, X.2 + 209)) (show X.1 ≤ X.1 + 6 by omega) (show X.2 ≤ X.2 + 209 by omega), (gfr_mono (M := fun x => x < 24) gfr_rf (fun x h9 => by omega))⟩
  · skip
    subst z9
    refine gs (pc' := 66) (fun _ _ _ _ _ hl => lv_tableIn (tgt := 66) hx hb d_Mf_told_7 (by decide) (by decide) (by decide) (by decide)) ?_
    refine gs (pc' := 67) (fun _ _ _ _ _ hl => lv_aload_n hx hb d_Mf_told_66 rfl (lv_at hl 0 rfl)) ?_
    obtain ⟨hf_81, f_82, kq_83⟩ := id iv_8
    refine g_get hx hb hts hin_Va hown hK f_82 rfl 1 (by decide) (hts _ wm525) (fun _ h9 => h9) rfl d_Mf_told_67 ?_
    exact hret 70 _ _ _ _ d_Mf_told_70 bl_1 bl_2 ⟨rfl, hC.up (X1 := (X.1 + 6, X.2 + 209)) (show X.1 ≤ X.1 + 6 by omega) (show X.2 ≤ X.2 + 209 by omega), (gfr_mono (M := fun x => x < 24) gfr_rf (fun x h9 => by omega))⟩
set_option maxHeartbeats 4000000 in
set_option maxRecDepth 100000 in
theorem t_Mf_told1 (l : Launch) (D : va_G) (cA : Nat → ClassId) (lo MC MS : Nat) (G : gT) (B : Nat × Nat) (X : Nat × Nat) (a : AX) (S : St) (F : Nat → Option Rat) (V : Nat → Nat) (hC : CW cA X a S F V (G, B)) (hW : WF S) (x : Int) (hx1 : -2147483648 ≤ x) (hx2 : x < 2147483648) (wh : Int) (hwh1 : -2147483648 ≤ wh) (hwh2 : wh < 2147483648) (hk : (sp_told S (iI x) (iI wh)).1 = 1) (hY1 : X.1 + 1 ≤ MC) (hY2 : X.2 + 6 ≤ MS) (hfl : ∀ e : Env, l.admits e → e.platform.stackTraces = false) : gMetT l y_Mf_told w_Mf_told 7 111 D clS (gtys cA) lo MC MS [.ref a.x, .int (iI x), .int (iI wh)] G B (gQx D clS lo "java/lang/IndexOutOfBoundsException" (fun u => u = (G, B.1 + 1, B.2 + 6))) := by
  refine g_mett (cc := prog_1_method_9_code) (nL := 4) (ret := (Option.some .int)) (L := [(0, .ref a.x), (1, .int (iI x)), (2, .int (iI wh))]) (by decide +kernel) rfl (Nat.le_of_ble_eq_true rfl) rfl ?_
  intro p e R s m args below meth c Q hF hRc hRs hRf hRl hne hQ
  obtain ⟨hx, hb, hr, hml, hts0, hown, hlocks, hin, hK, hlo, hZ⟩ := hF
  have hts : ∀ w ∈ tbg, w.before args s = true := fun w h => hts0 w (List.mem_cons_of_mem _ h)
  have hX1 : X.1 ≤ MC := by omega
  have hX2 : X.2 ≤ MS := by omega
  have hn := hW.n
  have hrn := hW.rn
  have hwn := hW.wn
  have bl_1 : B.1 ≤ MC := Nat.le_trans (w2_le hC.w).1 hX1
  have bl_2 : B.2 ≤ MS := Nat.le_trans (w2_le hC.w).2 hX2
  have hv : ¬ vi S (iI x) := fun z9 => by
    rw [sp_told, if_neg (fun z8 => z8 z9)] at hk
    split at hk
    · exact absurd hk (by decide)
    · exact absurd hk (by decide)
  refine gs (pc' := 1) (fun _ _ _ _ _ hl => lv_aload_n hx hb d_Mf_told_0 rfl (lv_at hl 0 rfl)) ?_
  refine gs (pc' := 2) (fun _ _ _ _ _ hl => lv_iload_n hx hb d_Mf_told_1 rfl (lv_at hl 1 rfl)) ?_
  exact g_up hlocks hne bl_1 bl_2 (g_thrV (As := [.int (iI x)]) (rest := []) ⟨hx, hb, hml, hown, hts⟩ hK hZ hRc hRs (t_Mf_valueOf l D cA lo MC MS G B X a S F V hC hW x hx1 hx2 (nvi hx1 hx2 hv) hY1 hY2 hfl) (fun _ _ => cwV 1 hts (tb_good (tb_cons wm539 (tb_cons wm541 (tb_cons ws11 (tb_cons wm1 k_Mf_valueOf))))) rfl rfl rfl (by decide +kernel) ⟨by rw [hRf]; exact Nat.le_of_ble_eq_true rfl, by rw [hRl]; exact Nat.le_of_ble_eq_true rfl⟩) hC.ob rfl bl_1 bl_2 rfl (Nat.le_of_ble_eq_true rfl) d_Mf_told_2) (fun _ h => h) hQ
set_option maxHeartbeats 4000000 in
set_option maxRecDepth 100000 in
theorem t_Mf_told2 (l : Launch) (D : va_G) (cA : Nat → ClassId) (lo MC MS : Nat) (G : gT) (B : Nat × Nat) (X : Nat × Nat) (a : AX) (S : St) (F : Nat → Option Rat) (V : Nat → Nat) (hC : CW cA X a S F V (G, B)) (hW : WF S) (x : Int) (hx1 : -2147483648 ≤ x) (hx2 : x < 2147483648) (wh : Int) (hwh1 : -2147483648 ≤ wh) (hwh2 : wh < 2147483648) (hk : (sp_told S (iI x) (iI wh)).1 = 2) (hY1 : X.1 + 1 ≤ MC) (hY2 : X.2 + 6 ≤ MS) (hfl : ∀ e : Env, l.admits e → e.platform.stackTraces = false) : gMetT l y_Mf_told w_Mf_told 6 90 D clS (gtys cA) lo MC MS [.ref a.x, .int (iI x), .int (iI wh)] G B (gQx D clS lo "java/lang/IllegalArgumentException" (fun u => u = (G, B.1 + 1, B.2 + 6))) := by
  refine g_mett (cc := prog_1_method_9_code) (nL := 4) (ret := (Option.some .int)) (L := [(0, .ref a.x), (1, .int (iI x)), (2, .int (iI wh))]) (by decide +kernel) rfl (Nat.le_of_ble_eq_true rfl) rfl ?_
  intro p e R s m args below meth c Q hF hRc hRs hRf hRl hne hQ
  obtain ⟨hx, hb, hr, hml, hts0, hown, hlocks, hin, hK, hlo, hZ⟩ := hF
  have hts : ∀ w ∈ tbg, w.before args s = true := fun w h => hts0 w (List.mem_cons_of_mem _ h)
  have hX1 : X.1 ≤ MC := by omega
  have hX2 : X.2 ≤ MS := by omega
  have hn := hW.n
  have hrn := hW.rn
  have hwn := hW.wn
  have bl_1 : B.1 ≤ MC := Nat.le_trans (w2_le hC.w).1 hX1
  have bl_2 : B.2 ≤ MS := Nat.le_trans (w2_le hC.w).2 hX2
  have hv : vi S (iI x) := by
    by_cases z9 : vi S (iI x)
    · exact z9
    · rw [sp_told, if_pos z9] at hk; exact absurd hk (by decide)
  have hq : ¬ (0 ≤ (iI wh).toInt ∧ (iI wh).toInt ≤ 3) := fun z9 => by
    rw [sp_told, if_neg (fun z8 => z8 hv), if_neg (fun z8 => z8 z9)] at hk
    exact absurd hk (by decide)
  obtain ⟨i, hi_i, hxe_x, ei_i⟩ := ix_of hv.1 hv.2
  rw [hxe_x]
  refine gs (pc' := 1) (fun _ _ _ _ _ hl => lv_aload_n hx hb d_Mf_told_0 rfl (lv_at hl 0 rfl)) ?_
  refine gs (pc' := 2) (fun _ _ _ _ _ hl => lv_iload_n hx hb d_Mf_told_1 rfl (lv_at hl 1 rfl)) ?_
  refine g_outr hlo (g_runV (As := [.int (nI i)]) (rest := []) ⟨hx, hb, hml, hown, hts⟩ hK hZ hRc hRs (c_Mf_valueOf l D cA lo MC MS G B X a S F V hC hW i (by omega) hX1 hX2) (fun _ _ => cwV 1 hts (tb_good (tb_cons wm539 (tb_cons wm541 (tb_cons ws11 (tb_cons wm1 k_Mf_valueOf))))) rfl rfl rfl (by decide +kernel) ⟨by rw [hRf]; exact Nat.le_of_ble_eq_true rfl, by rw [hRl]; exact Nat.le_of_ble_eq_true rfl⟩) hC.ob rfl bl_1 bl_2 rfl (Nat.le_of_ble_eq_true rfl) d_Mf_told_2) (fun r_6 G_3 B_4 p_5 => ?_)
  obtain ⟨u_7, iv_8⟩ := p_5
  cases u_7
  have rb_9 : rb (S.v i) 100 := rb_of (hW.v _ (by omega)).1
  have ub_10 := (hW.v i (by omega)).2
  have ub_11 := ub_10.1
  have ub_12 := ub_10.2
  refine gst (pc' := 6) (L' := [(3, .ref r_6), (0, .ref a.x), (1, .int (nI i)), (2, .int (iI wh))]) (fun _ _ _ _ _ hl => lv_astore_n hx hb d_Mf_told_5 rfl hl (by decide) rfl) ?_
  refine gs (pc' := 7) (fun _ _ _ _ _ hl => lv_iload_n hx hb d_Mf_told_6 rfl (lv_at hl 3 rfl)) ?_
  refine gs (pc' := 71) (fun _ _ _ _ _ hl => lv_tableOut (tgt := 71) hx hb d_Mf_told_7 (show (iI wh).toInt < 0 ∨ 3 < (iI wh).toInt by omega) (by decide)) ?_
  have le_13 := w2_le hC.w
  exact g_throw hx hb hml hown hts hlo hZ hfl hlocks hne (fun U h h1 h2 => own_Iae h h1 h2) (by decide +kernel) wm370 wm371 wm17 (by decide) hRc hRs (by rw [hRf]; exact Nat.le_of_ble_eq_true rfl) (by rw [hRl]; exact Nat.le_of_ble_eq_true rfl) (by have := le_13.1; omega) (by have := le_13.2; omega) d_Mf_told_71 d_Mf_told_74 d_Mf_told_75 d_Mf_told_77 d_Mf_told_80 rfl hQ
set_option maxHeartbeats 4000000 in
set_option maxRecDepth 100000 in
theorem c_Mf_digit (l : Launch) (D : va_G) (cA : Nat → ClassId) (lo MC MS : Nat) (G : gT) (B : Nat × Nat) (X : Nat × Nat) (a : AX) (S : St) (F : Nat → Option Rat) (V : Nat → Nat) (hC : CW cA X a S F V (G, B)) (hW : WF S) (x : Int) (hx1 : -2147483648 ≤ x) (hx2 : x < 2147483648) (pt : Int) (hpt1 : -2147483648 ≤ pt) (hpt2 : pt < 2147483648) (io : Int) (hio1 : -2147483648 ≤ io) (hio2 : io < 2147483648) (hk : (sp_digit S (iI x) (iI pt) (iI io)).1 = 0) (hY1 : X.1 + 6 ≤ MC) (hY2 : X.2 + 209 ≤ MS) : gMet l y_Mf_digit w_Mf_digit 2 42 D clS (gtys cA) lo MC MS [.ref a.x, .int (iI x), .int (iI pt), .int (iI io)] G B (gQi D clS lo (fun r u => r = iI (sp_digit S (iI x) (iI pt) (iI io)).2.1 ∧ CW3 cA (X.1 + 6, X.2 + 209) a (sp_digit S (iI x) (iI pt) (iI io)).2.2 u ∧ gfr (fun x => x < 70) G u.1)) := by
  refine g_meti (cc := prog_1_method_10_code) (nL := 6) (L := [(0, .ref a.x), (1, .int (iI x)), (2, .int (iI pt)), (3, .int (iI io))]) (by decide +kernel) rfl (Nat.le_of_ble_eq_true rfl) rfl ?_
  intro p e R s m args below meth c Q hF hRc hRs hRf hRl hret
  obtain ⟨hx, hb, hr, hml, hts0, hown, hlocks, hin, hK, hlo, hZ⟩ := hF
  have hts : ∀ w ∈ tbg, w.before args s = true := fun w h => hts0 w (List.mem_cons_of_mem _ h)
  have hX1 : X.1 ≤ MC := by omega
  have hX2 : X.2 ≤ MS := by omega
  have hn := hW.n
  have hrn := hW.rn
  have hwn := hW.wn
  have bl_1 : B.1 ≤ MC := Nat.le_trans (w2_le hC.w).1 hX1
  have bl_2 : B.2 ≤ MS := Nat.le_trans (w2_le hC.w).2 hX2
  have hv : (vi S (iI x) ∧ 0 ≤ (iI io).toInt) := by
    by_cases z9 : (vi S (iI x) ∧ 0 ≤ (iI io).toInt)
    · exact z9
    · rw [sp_digit, if_pos z9] at hk; exact absurd hk (by decide)
  have hq : ((iI pt).toInt = 0 ∨ (iI pt).toInt = 1) := by
    by_cases z9 : ((iI pt).toInt = 0 ∨ (iI pt).toInt = 1)
    · exact z9
    · rw [sp_digit, if_neg (fun z8 => z8 hv), if_pos z9] at hk; exact absurd hk (by decide)
  have hl3 : (iI io).toInt < (ndig (prt (S.v (ix (iI x))) (iI pt).toInt) : Int) := by
    by_cases z9 : (iI io).toInt < (ndig (prt (S.v (ix (iI x))) (iI pt).toInt) : Int)
    · exact z9
    · rw [sp_digit, if_neg (fun z8 => z8 hv), if_neg (fun z8 => z8 hq), if_pos z9] at hk; exact absurd hk (by decide)
  rw [sp_digit, if_neg (fun z9 => z9 hv), if_neg (fun z9 => z9 hq), if_neg (fun z9 => z9 hl3)] at hret
  obtain ⟨i, hi_i, hxe_x, ei_i⟩ := ix_of hv.1.1 hv.1.2
  rw [hxe_x]
  have hio : (iI io).toInt < 2147483648 := (i32_bd _).2
  obtain ⟨o, ho4, hxe_io, ei_o⟩ := ix_of (n := 2147483648) hv.2 hio
  have hoi : (iI io).toInt = (o : Int) := by rw [hxe_io]; exact ix_nI ho4
  rw [ei_i, ei_o] at hret
  rw [ei_i, hoi] at hl3
  rw [hxe_io]
  rcases hq with hpt | hpt
  · skip
    rw [iI_toInt hpt1 hpt2] at hpt
    subst hpt
    rw [show iI 0 = nI 0 from rfl]
    rw [iI_toInt hpt1 hpt2] at hl3 hret
    have hl4 : o < ndig (S.v i).num.natAbs := by
      have z9 : (o : Int) < (ndig (S.v i).num.natAbs : Int) := hl3
      omega
    have hdg5 : ndig (S.v i).num.natAbs < 2147483648 := dig_bd (rb_of (hW.v i (by omega)).1).1
    refine gs (pc' := 1) (fun _ _ _ _ _ hl => lv_aload_n hx hb d_Mf_digit_0 rfl (lv_at hl 0 rfl)) ?_
    refine gs (pc' := 2) (fun _ _ _ _ _ hl => lv_iload_n hx hb d_Mf_digit_1 rfl (lv_at hl 1 rfl)) ?_
    refine g_outr hlo (g_runV (As := [.int (nI i)]) (rest := []) ⟨hx, hb, hml, hown, hts⟩ hK hZ hRc hRs (c_Mf_valueOf l D cA lo MC MS G B X a S F V hC hW i (by omega) hX1 hX2) (fun _ _ => cwV 1 hts (tb_good (tb_cons wm539 (tb_cons wm541 (tb_cons ws11 (tb_cons wm1 k_Mf_valueOf))))) rfl rfl rfl (by decide +kernel) ⟨by rw [hRf]; exact Nat.le_of_ble_eq_true rfl, by rw [hRl]; exact Nat.le_of_ble_eq_true rfl⟩) hC.ob rfl bl_1 bl_2 rfl (Nat.le_of_ble_eq_true rfl) d_Mf_digit_2) (fun r_6 G_3 B_4 p_5 => ?_)
    obtain ⟨u_7, iv_8⟩ := p_5
    cases u_7
    have rb_9 : rb (S.v i) 100 := rb_of (hW.v _ (by omega)).1
    have ub_10 := (hW.v i (by omega)).2
    have ub_11 := ub_10.1
    have ub_12 := ub_10.2
    refine gst (pc' := 7) (L' := [(4, .ref r_6), (0, .ref a.x), (1, .int (nI i)), (2, .int (nI 0)), (3, .int (nI o))]) (fun _ _ _ _ _ hl => lv_astore hx hb d_Mf_digit_5 hl (by decide) rfl) ?_
    refine gs (pc' := 8) (fun _ _ _ _ _ hl => lv_iload_n hx hb d_Mf_digit_7 rfl (lv_at hl 4 rfl)) ?_
    refine gsb (pc1 := 21) (pc2 := 11) (fun _ _ _ _ _ => lv_if_ge (tgt := 21) hx hb d_Mf_digit_8 (by decide)) (fun c_13 => ?_) (fun c_13 => ?_)
    · skip
      have nc_13 : o ≥ 0 := (n0_ge (a := o) (by omega)).1 c_13
      refine gs (pc' := 22) (fun _ _ _ _ _ hl => lv_iload_n hx hb d_Mf_digit_21 rfl (lv_at hl 3 rfl)) ?_
      refine gsb (pc1 := 40) (pc2 := 25) (fun _ _ _ _ _ => lv_if_eq (tgt := 40) hx hb d_Mf_digit_22 (by decide)) (fun c_14 => ?_) (fun c_14 => ?_)
      · skip
        have nc_14 : 0 = 0 := (n0_eq (a := 0) (by omega)).1 c_14
        refine gs (pc' := 41) (fun _ _ _ _ _ hl => lv_iload_n hx hb d_Mf_digit_40 rfl (lv_at hl 3 rfl)) ?_
        refine gsb (pc1 := 55) (pc2 := 44) (fun _ _ _ _ _ => lv_if_ne (tgt := 55) hx hb d_Mf_digit_41 (by decide)) (fun c_15 => ?_) (fun c_15 => ?_)
        · skip
          have nc_15 : 0 ≠ 0 := (n0_ne (a := 0) (by omega)).1 c_15
          exact absurd nc_15 (by omega)
        · skip
          have nc_15 : 0 = 0 := (n0_ne (a := 0) (by omega)).2 c_15
          refine gs (pc' := 46) (fun _ _ _ _ _ hl => lv_aload hx hb d_Mf_digit_44 (lv_at hl 0 rfl)) ?_
          obtain ⟨hf_16, f_17, kq_18⟩ := id iv_8
          refine g_get hx hb hts hin_Va hown hK f_17 rfl 0 (by decide) (hts _ wm523) (fun _ h9 => h9) rfl d_Mf_digit_46 ?_
          obtain ⟨t_19, ha_20, hb_21, e_22, f_23, rd_24, rd_25⟩ := id kq_18
          refine g_get hx hb hts hin_Fr hown hK f_23 rfl 1 (by decide) (hts _ wm168) (fun _ h9 => h9) rfl d_Mf_digit_49 ?_
          refine gs (pc' := 63) (fun _ _ _ _ _ hl => lv_goto (tgt := 63) hx hb d_Mf_digit_52 (by decide)) ?_
          refine gst (pc' := 65) (L' := [(5, .ref ha_20), (4, .ref r_6), (0, .ref a.x), (1, .int (nI i)), (2, .int (nI 0)), (3, .int (nI o))]) (fun _ _ _ _ _ hl => lv_astore hx hb d_Mf_digit_63 hl (by decide) rfl) ?_
          refine gs (pc' := 66) (fun _ _ _ _ _ hl => lv_iload_n hx hb d_Mf_digit_65 rfl (lv_at hl 5 rfl)) ?_
          refine gs (pc' := 68) (fun _ _ _ _ _ hl => lv_aload hx hb d_Mf_digit_66 (lv_at hl 0 rfl)) ?_
          obtain ⟨t_26, k_27, e_28, e_29, aa_30, z_31, f_32, f_33, f_34, e_35, e_36⟩ := id rd_24
          refine g_outi hlo (g_runV (As := []) (rest := [.int (nI o)]) ⟨hx, hb, hml, hown, hts⟩ hK hZ hRc hRs (n_digits l D cA lo MC MS G B _ ha_20 ((S.v i).num.natAbs) rd_24 bl_1 bl_2) (fun _ _ => cwV 0 hts (tb_good (tb_cons wm650 (tb_cons wm504 (tb_cons wm505 (tb_cons wm5 k_Na_digits))))) rfl rfl rfl (by decide +kernel) ⟨by rw [hRf]; exact Nat.le_of_ble_eq_true rfl, by rw [hRl]; exact Nat.le_of_ble_eq_true rfl⟩) f_33 rfl bl_1 bl_2 rfl (Nat.le_of_ble_eq_true rfl) d_Mf_digit_68) (fun r_40 G_37 B_38 p_39 => ?_)
          obtain ⟨u_41, K_42, e_43, e_44⟩ := p_39
          cases u_41
          have e_44n := ndig_of e_44
          subst e_44n
          subst e_43
          refine gsb (pc1 := 84) (pc2 := 74) (fun _ _ _ _ _ => lv_icmp_lt (tgt := 84) hx hb d_Mf_digit_71 (by decide)) (fun c_45 => ?_) (fun c_45 => ?_)
          · skip
            have nc_45 : o < (ndig ((S.v i).num.natAbs)) := (nn_lt (a := o) (b := (ndig ((S.v i).num.natAbs))) (by omega) (by omega)).1 c_45
            refine gs (pc' := 86) (fun _ _ _ _ _ hl => lv_aload hx hb d_Mf_digit_84 (lv_at hl 0 rfl)) ?_
            refine gs (pc' := 87) (fun _ _ _ _ _ hl => lv_iload_n hx hb d_Mf_digit_86 rfl (lv_at hl 5 rfl)) ?_
            refine g_outi hlo (g_runV (As := [.int (nI o)]) (rest := []) ⟨hx, hb, hml, hown, hts⟩ hK hZ hRc hRs (n_decimal l D cA lo MC MS G B _ ha_20 ((S.v i).num.natAbs) rd_24 o (by omega) bl_1 bl_2) (fun _ _ => cwV 1 hts (tb_good (tb_cons wm661 (tb_cons wm662 (tb_cons wm663 (tb_cons wm5 k_Na_decimal))))) rfl rfl rfl (by decide +kernel) ⟨by rw [hRf]; exact Nat.le_of_ble_eq_true rfl, by rw [hRl]; exact Nat.le_of_ble_eq_true rfl⟩) f_33 rfl bl_1 bl_2 rfl (Nat.le_of_ble_eq_true rfl) d_Mf_digit_87) (fun r_49 G_46 B_47 p_48 => ?_)
            obtain ⟨u_50, e_51⟩ := p_48
            cases u_50
            subst e_51
            exact hret 90 _ _ _ _ d_Mf_digit_90 bl_1 bl_2 ⟨nI_iI _, hC.up (X1 := (X.1 + 6, X.2 + 209)) (show X.1 ≤ X.1 + 6 by omega) (show X.2 ≤ X.2 + 209 by omega), (gfr_mono (M := fun x => x < 24) gfr_rf (fun x h9 => by omega))⟩
          · skip
            have nc_45 : o ≥ (ndig ((S.v i).num.natAbs)) := (nn_lt (a := o) (b := (ndig ((S.v i).num.natAbs))) (by omega) (by omega)).2 c_45
            exact absurd nc_45 (by omega)
      · skip
        have nc_14 : 0 ≠ 0 := (n0_eq (a := 0) (by omega)).2 c_14
        exact absurd nc_14 (by omega)
    · skip
      have nc_13 : o < 0 := (n0_ge (a := o) (by omega)).2 c_13
      exact absurd nc_13 (by omega)
  · skip
    rw [iI_toInt hpt1 hpt2] at hpt
    subst hpt
    rw [show iI 1 = nI 1 from rfl]
    rw [iI_toInt hpt1 hpt2] at hl3 hret
    have hl4 : o < ndig (S.v i).den := by
      have z9 : (o : Int) < (ndig (S.v i).den : Int) := hl3
      omega
    have hdg5 : ndig (S.v i).den < 2147483648 := dig_bd (rb_of (hW.v i (by omega)).1).2
    refine gs (pc' := 1) (fun _ _ _ _ _ hl => lv_aload_n hx hb d_Mf_digit_0 rfl (lv_at hl 0 rfl)) ?_
    refine gs (pc' := 2) (fun _ _ _ _ _ hl => lv_iload_n hx hb d_Mf_digit_1 rfl (lv_at hl 1 rfl)) ?_
    refine g_outr hlo (g_runV (As := [.int (nI i)]) (rest := []) ⟨hx, hb, hml, hown, hts⟩ hK hZ hRc hRs (c_Mf_valueOf l D cA lo MC MS G B X a S F V hC hW i (by omega) hX1 hX2) (fun _ _ => cwV 1 hts (tb_good (tb_cons wm539 (tb_cons wm541 (tb_cons ws11 (tb_cons wm1 k_Mf_valueOf))))) rfl rfl rfl (by decide +kernel) ⟨by rw [hRf]; exact Nat.le_of_ble_eq_true rfl, by rw [hRl]; exact Nat.le_of_ble_eq_true rfl⟩) hC.ob rfl bl_1 bl_2 rfl (Nat.le_of_ble_eq_true rfl) d_Mf_digit_2) (fun r_55 G_52 B_53 p_54 => ?_)
    obtain ⟨u_56, iv_57⟩ := p_54
    cases u_56
    have rb_58 : rb (S.v i) 100 := rb_of (hW.v _ (by omega)).1
    have ub_59 := (hW.v i (by omega)).2
    have ub_60 := ub_59.1
    have ub_61 := ub_59.2
    refine gst (pc' := 7) (L' := [(4, .ref r_55), (0, .ref a.x), (1, .int (nI i)), (2, .int (nI 1)), (3, .int (nI o))]) (fun _ _ _ _ _ hl => lv_astore hx hb d_Mf_digit_5 hl (by decide) rfl) ?_
    refine gs (pc' := 8) (fun _ _ _ _ _ hl => lv_iload_n hx hb d_Mf_digit_7 rfl (lv_at hl 4 rfl)) ?_
    refine gsb (pc1 := 21) (pc2 := 11) (fun _ _ _ _ _ => lv_if_ge (tgt := 21) hx hb d_Mf_digit_8 (by decide)) (fun c_62 => ?_) (fun c_62 => ?_)
    · skip
      have nc_62 : o ≥ 0 := (n0_ge (a := o) (by omega)).1 c_62
      refine gs (pc' := 22) (fun _ _ _ _ _ hl => lv_iload_n hx hb d_Mf_digit_21 rfl (lv_at hl 3 rfl)) ?_
      refine gsb (pc1 := 40) (pc2 := 25) (fun _ _ _ _ _ => lv_if_eq (tgt := 40) hx hb d_Mf_digit_22 (by decide)) (fun c_63 => ?_) (fun c_63 => ?_)
      · skip
        have nc_63 : 1 = 0 := (n0_eq (a := 1) (by omega)).1 c_63
        exact absurd nc_63 (by omega)
      · skip
        have nc_63 : 1 ≠ 0 := (n0_eq (a := 1) (by omega)).2 c_63
        refine gs (pc' := 26) (fun _ _ _ _ _ hl => lv_iload_n hx hb d_Mf_digit_25 rfl (lv_at hl 3 rfl)) ?_
        refine gs (pc' := 27) (fun _ _ _ _ _ hl => lv_iconst (v := nI 1) hx hb d_Mf_digit_26 (by decide)) ?_
        refine gsb (pc1 := 40) (pc2 := 30) (fun _ _ _ _ _ => lv_icmp_eq (tgt := 40) hx hb d_Mf_digit_27 (by decide)) (fun c_64 => ?_) (fun c_64 => ?_)
        · skip
          have nc_64 : 1 = 1 := (nn_eq (a := 1) (b := 1) (by omega) (by omega)).1 c_64
          refine gs (pc' := 41) (fun _ _ _ _ _ hl => lv_iload_n hx hb d_Mf_digit_40 rfl (lv_at hl 3 rfl)) ?_
          refine gsb (pc1 := 55) (pc2 := 44) (fun _ _ _ _ _ => lv_if_ne (tgt := 55) hx hb d_Mf_digit_41 (by decide)) (fun c_65 => ?_) (fun c_65 => ?_)
          · skip
            have nc_65 : 1 ≠ 0 := (n0_ne (a := 1) (by omega)).1 c_65
            refine gs (pc' := 57) (fun _ _ _ _ _ hl => lv_aload hx hb d_Mf_digit_55 (lv_at hl 0 rfl)) ?_
            obtain ⟨hf_66, f_67, kq_68⟩ := id iv_57
            refine g_get hx hb hts hin_Va hown hK f_67 rfl 0 (by decide) (hts _ wm523) (fun _ h9 => h9) rfl d_Mf_digit_57 ?_
            obtain ⟨t_69, ha_70, hb_71, e_72, f_73, rd_74, rd_75⟩ := id kq_68
            refine g_get hx hb hts hin_Fr hown hK f_73 rfl 2 (by decide) (hts _ wm171) (fun _ h9 => h9) rfl d_Mf_digit_60 ?_
            refine gst (pc' := 65) (L' := [(5, .ref hb_71), (4, .ref r_55), (0, .ref a.x), (1, .int (nI i)), (2, .int (nI 1)), (3, .int (nI o))]) (fun _ _ _ _ _ hl => lv_astore hx hb d_Mf_digit_63 hl (by decide) rfl) ?_
            refine gs (pc' := 66) (fun _ _ _ _ _ hl => lv_iload_n hx hb d_Mf_digit_65 rfl (lv_at hl 5 rfl)) ?_
            refine gs (pc' := 68) (fun _ _ _ _ _ hl => lv_aload hx hb d_Mf_digit_66 (lv_at hl 0 rfl)) ?_
            obtain ⟨t_76, k_77, e_78, e_79, aa_80, z_81, f_82, f_83, f_84, e_85, e_86⟩ := id rd_75
            refine g_outi hlo (g_runV (As := []) (rest := [.int (nI o)]) ⟨hx, hb, hml, hown, hts⟩ hK hZ hRc hRs (n_digits l D cA lo MC MS G B _ hb_71 ((S.v i).den) rd_75 bl_1 bl_2) (fun _ _ => cwV 0 hts (tb_good (tb_cons wm650 (tb_cons wm504 (tb_cons wm505 (tb_cons wm5 k_Na_digits))))) rfl rfl rfl (by decide +kernel) ⟨by rw [hRf]; exact Nat.le_of_ble_eq_true rfl, by rw [hRl]; exact Nat.le_of_ble_eq_true rfl⟩) f_83 rfl bl_1 bl_2 rfl (Nat.le_of_ble_eq_true rfl) d_Mf_digit_68) (fun r_90 G_87 B_88 p_89 => ?_)
            obtain ⟨u_91, K_92, e_93, e_94⟩ := p_89
            cases u_91
            have e_94n := ndig_of e_94
            subst e_94n
            subst e_93
            refine gsb (pc1 := 84) (pc2 := 74) (fun _ _ _ _ _ => lv_icmp_lt (tgt := 84) hx hb d_Mf_digit_71 (by decide)) (fun c_95 => ?_) (fun c_95 => ?_)
            · skip
              have nc_95 : o < (ndig ((S.v i).den)) := (nn_lt (a := o) (b := (ndig ((S.v i).den))) (by omega) (by omega)).1 c_95
              refine gs (pc' := 86) (fun _ _ _ _ _ hl => lv_aload hx hb d_Mf_digit_84 (lv_at hl 0 rfl)) ?_
              refine gs (pc' := 87) (fun _ _ _ _ _ hl => lv_iload_n hx hb d_Mf_digit_86 rfl (lv_at hl 5 rfl)) ?_
              refine g_outi hlo (g_runV (As := [.int (nI o)]) (rest := []) ⟨hx, hb, hml, hown, hts⟩ hK hZ hRc hRs (n_decimal l D cA lo MC MS G B _ hb_71 ((S.v i).den) rd_75 o (by omega) bl_1 bl_2) (fun _ _ => cwV 1 hts (tb_good (tb_cons wm661 (tb_cons wm662 (tb_cons wm663 (tb_cons wm5 k_Na_decimal))))) rfl rfl rfl (by decide +kernel) ⟨by rw [hRf]; exact Nat.le_of_ble_eq_true rfl, by rw [hRl]; exact Nat.le_of_ble_eq_true rfl⟩) f_83 rfl bl_1 bl_2 rfl (Nat.le_of_ble_eq_true rfl) d_Mf_digit_87) (fun r_99 G_96 B_97 p_98 => ?_)
              obtain ⟨u_100, e_101⟩ := p_98
              cases u_100
              subst e_101
              exact hret 90 _ _ _ _ d_Mf_digit_90 bl_1 bl_2 ⟨nI_iI _, hC.up (X1 := (X.1 + 6, X.2 + 209)) (show X.1 ≤ X.1 + 6 by omega) (show X.2 ≤ X.2 + 209 by omega), (gfr_mono (M := fun x => x < 24) gfr_rf (fun x h9 => by omega))⟩
            · skip
              have nc_95 : o ≥ (ndig ((S.v i).den)) := (nn_lt (a := o) (b := (ndig ((S.v i).den))) (by omega) (by omega)).2 c_95
              exact absurd nc_95 (by omega)
          · skip
            have nc_65 : 1 = 0 := (n0_ne (a := 1) (by omega)).2 c_65
            exact absurd nc_65 (by omega)
        · skip
          have nc_64 : 1 ≠ 1 := (nn_eq (a := 1) (b := 1) (by omega) (by omega)).2 c_64
          exact absurd nc_64 (by omega)
    · skip
      have nc_62 : o < 0 := (n0_ge (a := o) (by omega)).2 c_62
      exact absurd nc_62 (by omega)
set_option maxHeartbeats 4000000 in
set_option maxRecDepth 100000 in
theorem t_Mf_digit2 (l : Launch) (D : va_G) (cA : Nat → ClassId) (lo MC MS : Nat) (G : gT) (B : Nat × Nat) (X : Nat × Nat) (a : AX) (S : St) (F : Nat → Option Rat) (V : Nat → Nat) (hC : CW cA X a S F V (G, B)) (hW : WF S) (x : Int) (hx1 : -2147483648 ≤ x) (hx2 : x < 2147483648) (pt : Int) (hpt1 : -2147483648 ≤ pt) (hpt2 : pt < 2147483648) (io : Int) (hio1 : -2147483648 ≤ io) (hio2 : io < 2147483648) (hk : (sp_digit S (iI x) (iI pt) (iI io)).1 = 2) (hY1 : X.1 + 1 ≤ MC) (hY2 : X.2 + 6 ≤ MS) (hfl : ∀ e : Env, l.admits e → e.platform.stackTraces = false) : gMetT l y_Mf_digit w_Mf_digit 6 90 D clS (gtys cA) lo MC MS [.ref a.x, .int (iI x), .int (iI pt), .int (iI io)] G B (gQx D clS lo "java/lang/IllegalArgumentException" (fun u => u = (G, B.1 + 1, B.2 + 6))) := by
  refine g_mett (cc := prog_1_method_10_code) (nL := 6) (ret := (Option.some .int)) (L := [(0, .ref a.x), (1, .int (iI x)), (2, .int (iI pt)), (3, .int (iI io))]) (by decide +kernel) rfl (Nat.le_of_ble_eq_true rfl) rfl ?_
  intro p e R s m args below meth c Q hF hRc hRs hRf hRl hne hQ
  obtain ⟨hx, hb, hr, hml, hts0, hown, hlocks, hin, hK, hlo, hZ⟩ := hF
  have hts : ∀ w ∈ tbg, w.before args s = true := fun w h => hts0 w (List.mem_cons_of_mem _ h)
  have hX1 : X.1 ≤ MC := by omega
  have hX2 : X.2 ≤ MS := by omega
  have hn := hW.n
  have hrn := hW.rn
  have hwn := hW.wn
  have bl_1 : B.1 ≤ MC := Nat.le_trans (w2_le hC.w).1 hX1
  have bl_2 : B.2 ≤ MS := Nat.le_trans (w2_le hC.w).2 hX2
  have hv : (vi S (iI x) ∧ 0 ≤ (iI io).toInt) := by
    by_cases z9 : (vi S (iI x) ∧ 0 ≤ (iI io).toInt)
    · exact z9
    · rw [sp_digit, if_pos z9] at hk; exact absurd hk (by decide)
  have hq : ¬ ((iI pt).toInt = 0 ∨ (iI pt).toInt = 1) := fun z9 => by
    rw [sp_digit, if_neg (fun z8 => z8 hv), if_neg (fun z8 => z8 z9)] at hk
    split at hk
    · exact absurd hk (by decide)
    · exact absurd hk (by decide)
  rw [iI_toInt hpt1 hpt2] at hq
  have hio0 : 0 ≤ io := by have z9 := hv.2; rw [iI_toInt hio1 hio2] at z9; exact z9
  obtain ⟨i, hi_i, hxe_x, ei_i⟩ := ix_of hv.1.1 hv.1.2
  rw [hxe_x]
  refine gs (pc' := 1) (fun _ _ _ _ _ hl => lv_aload_n hx hb d_Mf_digit_0 rfl (lv_at hl 0 rfl)) ?_
  refine gs (pc' := 2) (fun _ _ _ _ _ hl => lv_iload_n hx hb d_Mf_digit_1 rfl (lv_at hl 1 rfl)) ?_
  refine g_outr hlo (g_runV (As := [.int (nI i)]) (rest := []) ⟨hx, hb, hml, hown, hts⟩ hK hZ hRc hRs (c_Mf_valueOf l D cA lo MC MS G B X a S F V hC hW i (by omega) hX1 hX2) (fun _ _ => cwV 1 hts (tb_good (tb_cons wm539 (tb_cons wm541 (tb_cons ws11 (tb_cons wm1 k_Mf_valueOf))))) rfl rfl rfl (by decide +kernel) ⟨by rw [hRf]; exact Nat.le_of_ble_eq_true rfl, by rw [hRl]; exact Nat.le_of_ble_eq_true rfl⟩) hC.ob rfl bl_1 bl_2 rfl (Nat.le_of_ble_eq_true rfl) d_Mf_digit_2) (fun r_6 G_3 B_4 p_5 => ?_)
  obtain ⟨u_7, iv_8⟩ := p_5
  cases u_7
  have rb_9 : rb (S.v i) 100 := rb_of (hW.v _ (by omega)).1
  have ub_10 := (hW.v i (by omega)).2
  have ub_11 := ub_10.1
  have ub_12 := ub_10.2
  refine gst (pc' := 7) (L' := [(4, .ref r_6), (0, .ref a.x), (1, .int (nI i)), (2, .int (iI pt)), (3, .int (iI io))]) (fun _ _ _ _ _ hl => lv_astore hx hb d_Mf_digit_5 hl (by decide) rfl) ?_
  refine gs (pc' := 8) (fun _ _ _ _ _ hl => lv_iload_n hx hb d_Mf_digit_7 rfl (lv_at hl 4 rfl)) ?_
  refine gsb (pc1 := 21) (pc2 := 11) (fun _ _ _ _ _ => lv_if_ge (tgt := 21) hx hb d_Mf_digit_8 (by decide)) (fun c_13 => ?_) (fun c_13 => ?_)
  · skip
    have nc_13 : io ≥ 0 := (ii_ge (a := io) (b := 0) (by omega) (by omega) (by omega) (by omega)).1 (by first | exact c_13 | (have z9 := c_13; simp only [nI_iI] at z9; exact z9))
    refine gs (pc' := 22) (fun _ _ _ _ _ hl => lv_iload_n hx hb d_Mf_digit_21 rfl (lv_at hl 3 rfl)) ?_
    refine gsb (pc1 := 40) (pc2 := 25) (fun _ _ _ _ _ => lv_if_eq (tgt := 40) hx hb d_Mf_digit_22 (by decide)) (fun c_14 => ?_) (fun c_14 => ?_)
    · skip
      have nc_14 : pt = 0 := (ii_eq (a := pt) (b := 0) (by omega) (by omega) (by omega) (by omega)).1 (by first | exact c_14 | (have z9 := c_14; simp only [nI_iI] at z9; exact z9))
      exact absurd nc_14 (fun z9 => hq (Or.inl z9))
    · skip
      have nc_14 : pt ≠ 0 := (ii_eq (a := pt) (b := 0) (by omega) (by omega) (by omega) (by omega)).2 (by first | exact c_14 | (have z9 := c_14; simp only [nI_iI] at z9; exact z9))
      refine gs (pc' := 26) (fun _ _ _ _ _ hl => lv_iload_n hx hb d_Mf_digit_25 rfl (lv_at hl 3 rfl)) ?_
      refine gs (pc' := 27) (fun _ _ _ _ _ hl => lv_iconst (v := nI 1) hx hb d_Mf_digit_26 (by decide)) ?_
      refine gsb (pc1 := 40) (pc2 := 30) (fun _ _ _ _ _ => lv_icmp_eq (tgt := 40) hx hb d_Mf_digit_27 (by decide)) (fun c_15 => ?_) (fun c_15 => ?_)
      · skip
        have nc_15 : pt = ((1 : Nat) : Int) := (ii_eq (a := pt) (b := ((1 : Nat) : Int)) (by omega) (by omega) (by omega) (by omega)).1 (by first | exact c_15 | (have z9 := c_15; simp only [nI_iI] at z9; exact z9))
        exact absurd nc_15 (fun z9 => hq (Or.inr (by omega)))
      · skip
        have nc_15 : pt ≠ ((1 : Nat) : Int) := (ii_eq (a := pt) (b := ((1 : Nat) : Int)) (by omega) (by omega) (by omega) (by omega)).2 (by first | exact c_15 | (have z9 := c_15; simp only [nI_iI] at z9; exact z9))
        have le_16 := w2_le hC.w
        exact g_throw hx hb hml hown hts hlo hZ hfl hlocks hne (fun U h h1 h2 => own_Iae h h1 h2) (by decide +kernel) wm370 wm371 wm17 (by decide) hRc hRs (by rw [hRf]; exact Nat.le_of_ble_eq_true rfl) (by rw [hRl]; exact Nat.le_of_ble_eq_true rfl) (by have := le_16.1; omega) (by have := le_16.2; omega) d_Mf_digit_30 d_Mf_digit_33 d_Mf_digit_34 d_Mf_digit_36 d_Mf_digit_39 rfl hQ
  · skip
    have nc_13 : io < 0 := (ii_ge (a := io) (b := 0) (by omega) (by omega) (by omega) (by omega)).2 (by first | exact c_13 | (have z9 := c_13; simp only [nI_iI] at z9; exact z9))
    exact absurd nc_13 (by omega)
set_option maxHeartbeats 4000000 in
set_option maxRecDepth 100000 in
theorem t_Mf_digit1 (l : Launch) (D : va_G) (cA : Nat → ClassId) (lo MC MS : Nat) (G : gT) (B : Nat × Nat) (X : Nat × Nat) (a : AX) (S : St) (F : Nat → Option Rat) (V : Nat → Nat) (hC : CW cA X a S F V (G, B)) (hW : WF S) (x : Int) (hx1 : -2147483648 ≤ x) (hx2 : x < 2147483648) (pt : Int) (hpt1 : -2147483648 ≤ pt) (hpt2 : pt < 2147483648) (io : Int) (hio1 : -2147483648 ≤ io) (hio2 : io < 2147483648) (hk : (sp_digit S (iI x) (iI pt) (iI io)).1 = 1) (hY1 : X.1 + 1 ≤ MC) (hY2 : X.2 + 6 ≤ MS) (hfl : ∀ e : Env, l.admits e → e.platform.stackTraces = false) : gMetT l y_Mf_digit w_Mf_digit 7 111 D clS (gtys cA) lo MC MS [.ref a.x, .int (iI x), .int (iI pt), .int (iI io)] G B (gQx D clS lo "java/lang/IndexOutOfBoundsException" (fun u => u = (G, B.1 + 1, B.2 + 6))) := by
  refine g_mett (cc := prog_1_method_10_code) (nL := 6) (ret := (Option.some .int)) (L := [(0, .ref a.x), (1, .int (iI x)), (2, .int (iI pt)), (3, .int (iI io))]) (by decide +kernel) rfl (Nat.le_of_ble_eq_true rfl) rfl ?_
  intro p e R s m args below meth c Q hF hRc hRs hRf hRl hne hQ
  obtain ⟨hx, hb, hr, hml, hts0, hown, hlocks, hin, hK, hlo, hZ⟩ := hF
  have hts : ∀ w ∈ tbg, w.before args s = true := fun w h => hts0 w (List.mem_cons_of_mem _ h)
  have hX1 : X.1 ≤ MC := by omega
  have hX2 : X.2 ≤ MS := by omega
  have hn := hW.n
  have hrn := hW.rn
  have hwn := hW.wn
  have bl_1 : B.1 ≤ MC := Nat.le_trans (w2_le hC.w).1 hX1
  have bl_2 : B.2 ≤ MS := Nat.le_trans (w2_le hC.w).2 hX2
  by_cases hv : vi S (iI x)
  · skip
    obtain ⟨i, hi_i, hxe_x, ei_i⟩ := ix_of hv.1 hv.2
    rw [hxe_x]
    by_cases hio0 : 0 ≤ io
    · skip
      have hv1 : (vi S (iI x) ∧ 0 ≤ (iI io).toInt) := ⟨hv, by rw [iI_toInt hio1 hio2]; exact hio0⟩
      have hq : ((iI pt).toInt = 0 ∨ (iI pt).toInt = 1) := by
        by_cases z9 : ((iI pt).toInt = 0 ∨ (iI pt).toInt = 1)
        · exact z9
        · rw [sp_digit, if_neg (fun z8 => z8 hv1), if_pos z9] at hk; exact absurd hk (by decide)
      have hl3 : ¬ (iI io).toInt < (ndig (prt (S.v (ix (iI x))) (iI pt).toInt) : Int) := fun z9 => by
        rw [sp_digit, if_neg (fun z8 => z8 hv1), if_neg (fun z8 => z8 hq), if_neg (fun z8 => z8 z9)] at hk
        exact absurd hk (by decide)
      obtain ⟨o, ho4, hxe_io, ei_o⟩ := ix_of (n := 2147483648) hv1.2 (i32_bd _).2
      have hoi : (iI io).toInt = (o : Int) := by rw [hxe_io]; exact ix_nI ho4
      rw [ei_i, hoi] at hl3
      rw [hxe_io]
      rcases hq with hpt | hpt
      · skip
        rw [iI_toInt hpt1 hpt2] at hpt
        subst hpt
        rw [show iI 0 = nI 0 from rfl]
        rw [iI_toInt hpt1 hpt2] at hl3
        have hl4 : ndig (S.v i).num.natAbs ≤ o := by
          have z9 : ¬ (o : Int) < (ndig (S.v i).num.natAbs : Int) := hl3
          omega
        have hdg5 : ndig (S.v i).num.natAbs < 2147483648 := dig_bd (rb_of (hW.v i (by omega)).1).1
        refine gs (pc' := 1) (fun _ _ _ _ _ hl => lv_aload_n hx hb d_Mf_digit_0 rfl (lv_at hl 0 rfl)) ?_
        refine gs (pc' := 2) (fun _ _ _ _ _ hl => lv_iload_n hx hb d_Mf_digit_1 rfl (lv_at hl 1 rfl)) ?_
        refine g_outr hlo (g_runV (As := [.int (nI i)]) (rest := []) ⟨hx, hb, hml, hown, hts⟩ hK hZ hRc hRs (c_Mf_valueOf l D cA lo MC MS G B X a S F V hC hW i (by omega) hX1 hX2) (fun _ _ => cwV 1 hts (tb_good (tb_cons wm539 (tb_cons wm541 (tb_cons ws11 (tb_cons wm1 k_Mf_valueOf))))) rfl rfl rfl (by decide +kernel) ⟨by rw [hRf]; exact Nat.le_of_ble_eq_true rfl, by rw [hRl]; exact Nat.le_of_ble_eq_true rfl⟩) hC.ob rfl bl_1 bl_2 rfl (Nat.le_of_ble_eq_true rfl) d_Mf_digit_2) (fun r_6 G_3 B_4 p_5 => ?_)
        obtain ⟨u_7, iv_8⟩ := p_5
        cases u_7
        have rb_9 : rb (S.v i) 100 := rb_of (hW.v _ (by omega)).1
        have ub_10 := (hW.v i (by omega)).2
        have ub_11 := ub_10.1
        have ub_12 := ub_10.2
        refine gst (pc' := 7) (L' := [(4, .ref r_6), (0, .ref a.x), (1, .int (nI i)), (2, .int (nI 0)), (3, .int (nI o))]) (fun _ _ _ _ _ hl => lv_astore hx hb d_Mf_digit_5 hl (by decide) rfl) ?_
        refine gs (pc' := 8) (fun _ _ _ _ _ hl => lv_iload_n hx hb d_Mf_digit_7 rfl (lv_at hl 4 rfl)) ?_
        refine gsb (pc1 := 21) (pc2 := 11) (fun _ _ _ _ _ => lv_if_ge (tgt := 21) hx hb d_Mf_digit_8 (by decide)) (fun c_13 => ?_) (fun c_13 => ?_)
        · skip
          have nc_13 : o ≥ 0 := (n0_ge (a := o) (by omega)).1 c_13
          refine gs (pc' := 22) (fun _ _ _ _ _ hl => lv_iload_n hx hb d_Mf_digit_21 rfl (lv_at hl 3 rfl)) ?_
          refine gsb (pc1 := 40) (pc2 := 25) (fun _ _ _ _ _ => lv_if_eq (tgt := 40) hx hb d_Mf_digit_22 (by decide)) (fun c_14 => ?_) (fun c_14 => ?_)
          · skip
            have nc_14 : 0 = 0 := (n0_eq (a := 0) (by omega)).1 c_14
            refine gs (pc' := 41) (fun _ _ _ _ _ hl => lv_iload_n hx hb d_Mf_digit_40 rfl (lv_at hl 3 rfl)) ?_
            refine gsb (pc1 := 55) (pc2 := 44) (fun _ _ _ _ _ => lv_if_ne (tgt := 55) hx hb d_Mf_digit_41 (by decide)) (fun c_15 => ?_) (fun c_15 => ?_)
            · skip
              have nc_15 : 0 ≠ 0 := (n0_ne (a := 0) (by omega)).1 c_15
              exact absurd nc_15 (by omega)
            · skip
              have nc_15 : 0 = 0 := (n0_ne (a := 0) (by omega)).2 c_15
              refine gs (pc' := 46) (fun _ _ _ _ _ hl => lv_aload hx hb d_Mf_digit_44 (lv_at hl 0 rfl)) ?_
              obtain ⟨hf_16, f_17, kq_18⟩ := id iv_8
              refine g_get hx hb hts hin_Va hown hK f_17 rfl 0 (by decide) (hts _ wm523) (fun _ h9 => h9) rfl d_Mf_digit_46 ?_
              obtain ⟨t_19, ha_20, hb_21, e_22, f_23, rd_24, rd_25⟩ := id kq_18
              refine g_get hx hb hts hin_Fr hown hK f_23 rfl 1 (by decide) (hts _ wm168) (fun _ h9 => h9) rfl d_Mf_digit_49 ?_
              refine gs (pc' := 63) (fun _ _ _ _ _ hl => lv_goto (tgt := 63) hx hb d_Mf_digit_52 (by decide)) ?_
              refine gst (pc' := 65) (L' := [(5, .ref ha_20), (4, .ref r_6), (0, .ref a.x), (1, .int (nI i)), (2, .int (nI 0)), (3, .int (nI o))]) (fun _ _ _ _ _ hl => lv_astore hx hb d_Mf_digit_63 hl (by decide) rfl) ?_
              refine gs (pc' := 66) (fun _ _ _ _ _ hl => lv_iload_n hx hb d_Mf_digit_65 rfl (lv_at hl 5 rfl)) ?_
              refine gs (pc' := 68) (fun _ _ _ _ _ hl => lv_aload hx hb d_Mf_digit_66 (lv_at hl 0 rfl)) ?_
              obtain ⟨t_26, k_27, e_28, e_29, aa_30, z_31, f_32, f_33, f_34, e_35, e_36⟩ := id rd_24
              refine g_outi hlo (g_runV (As := []) (rest := [.int (nI o)]) ⟨hx, hb, hml, hown, hts⟩ hK hZ hRc hRs (n_digits l D cA lo MC MS G B _ ha_20 ((S.v i).num.natAbs) rd_24 bl_1 bl_2) (fun _ _ => cwV 0 hts (tb_good (tb_cons wm650 (tb_cons wm504 (tb_cons wm505 (tb_cons wm5 k_Na_digits))))) rfl rfl rfl (by decide +kernel) ⟨by rw [hRf]; exact Nat.le_of_ble_eq_true rfl, by rw [hRl]; exact Nat.le_of_ble_eq_true rfl⟩) f_33 rfl bl_1 bl_2 rfl (Nat.le_of_ble_eq_true rfl) d_Mf_digit_68) (fun r_40 G_37 B_38 p_39 => ?_)
              obtain ⟨u_41, K_42, e_43, e_44⟩ := p_39
              cases u_41
              have e_44n := ndig_of e_44
              subst e_44n
              subst e_43
              refine gsb (pc1 := 84) (pc2 := 74) (fun _ _ _ _ _ => lv_icmp_lt (tgt := 84) hx hb d_Mf_digit_71 (by decide)) (fun c_45 => ?_) (fun c_45 => ?_)
              · skip
                have nc_45 : o < (ndig ((S.v i).num.natAbs)) := (nn_lt (a := o) (b := (ndig ((S.v i).num.natAbs))) (by omega) (by omega)).1 c_45
                exact absurd nc_45 (by omega)
              · skip
                have nc_45 : o ≥ (ndig ((S.v i).num.natAbs)) := (nn_lt (a := o) (b := (ndig ((S.v i).num.natAbs))) (by omega) (by omega)).2 c_45
                have le_46 := w2_le hC.w
                exact g_throw hx hb hml hown hts hlo hZ hfl hlocks hne (fun U h h1 h2 => own_Iob h h1 h2) (by decide +kernel) wm543 wm544 wm19 (by decide) hRc hRs (by rw [hRf]; exact Nat.le_of_ble_eq_true rfl) (by rw [hRl]; exact Nat.le_of_ble_eq_true rfl) (by have := le_46.1; omega) (by have := le_46.2; omega) d_Mf_digit_74 d_Mf_digit_77 d_Mf_digit_78 d_Mf_digit_80 d_Mf_digit_83 rfl hQ
          · skip
            have nc_14 : 0 ≠ 0 := (n0_eq (a := 0) (by omega)).2 c_14
            exact absurd nc_14 (by omega)
        · skip
          have nc_13 : o < 0 := (n0_ge (a := o) (by omega)).2 c_13
          exact absurd nc_13 (by omega)
      · skip
        rw [iI_toInt hpt1 hpt2] at hpt
        subst hpt
        rw [show iI 1 = nI 1 from rfl]
        rw [iI_toInt hpt1 hpt2] at hl3
        have hl4 : ndig (S.v i).den ≤ o := by
          have z9 : ¬ (o : Int) < (ndig (S.v i).den : Int) := hl3
          omega
        have hdg5 : ndig (S.v i).den < 2147483648 := dig_bd (rb_of (hW.v i (by omega)).1).2
        refine gs (pc' := 1) (fun _ _ _ _ _ hl => lv_aload_n hx hb d_Mf_digit_0 rfl (lv_at hl 0 rfl)) ?_
        refine gs (pc' := 2) (fun _ _ _ _ _ hl => lv_iload_n hx hb d_Mf_digit_1 rfl (lv_at hl 1 rfl)) ?_
        refine g_outr hlo (g_runV (As := [.int (nI i)]) (rest := []) ⟨hx, hb, hml, hown, hts⟩ hK hZ hRc hRs (c_Mf_valueOf l D cA lo MC MS G B X a S F V hC hW i (by omega) hX1 hX2) (fun _ _ => cwV 1 hts (tb_good (tb_cons wm539 (tb_cons wm541 (tb_cons ws11 (tb_cons wm1 k_Mf_valueOf))))) rfl rfl rfl (by decide +kernel) ⟨by rw [hRf]; exact Nat.le_of_ble_eq_true rfl, by rw [hRl]; exact Nat.le_of_ble_eq_true rfl⟩) hC.ob rfl bl_1 bl_2 rfl (Nat.le_of_ble_eq_true rfl) d_Mf_digit_2) (fun r_50 G_47 B_48 p_49 => ?_)
        obtain ⟨u_51, iv_52⟩ := p_49
        cases u_51
        have rb_53 : rb (S.v i) 100 := rb_of (hW.v _ (by omega)).1
        have ub_54 := (hW.v i (by omega)).2
        have ub_55 := ub_54.1
        have ub_56 := ub_54.2
        refine gst (pc' := 7) (L' := [(4, .ref r_50), (0, .ref a.x), (1, .int (nI i)), (2, .int (nI 1)), (3, .int (nI o))]) (fun _ _ _ _ _ hl => lv_astore hx hb d_Mf_digit_5 hl (by decide) rfl) ?_
        refine gs (pc' := 8) (fun _ _ _ _ _ hl => lv_iload_n hx hb d_Mf_digit_7 rfl (lv_at hl 4 rfl)) ?_
        refine gsb (pc1 := 21) (pc2 := 11) (fun _ _ _ _ _ => lv_if_ge (tgt := 21) hx hb d_Mf_digit_8 (by decide)) (fun c_57 => ?_) (fun c_57 => ?_)
        · skip
          have nc_57 : o ≥ 0 := (n0_ge (a := o) (by omega)).1 c_57
          refine gs (pc' := 22) (fun _ _ _ _ _ hl => lv_iload_n hx hb d_Mf_digit_21 rfl (lv_at hl 3 rfl)) ?_
          refine gsb (pc1 := 40) (pc2 := 25) (fun _ _ _ _ _ => lv_if_eq (tgt := 40) hx hb d_Mf_digit_22 (by decide)) (fun c_58 => ?_) (fun c_58 => ?_)
          · skip
            have nc_58 : 1 = 0 := (n0_eq (a := 1) (by omega)).1 c_58
            exact absurd nc_58 (by omega)
          · skip
            have nc_58 : 1 ≠ 0 := (n0_eq (a := 1) (by omega)).2 c_58
            refine gs (pc' := 26) (fun _ _ _ _ _ hl => lv_iload_n hx hb d_Mf_digit_25 rfl (lv_at hl 3 rfl)) ?_
            refine gs (pc' := 27) (fun _ _ _ _ _ hl => lv_iconst (v := nI 1) hx hb d_Mf_digit_26 (by decide)) ?_
            refine gsb (pc1 := 40) (pc2 := 30) (fun _ _ _ _ _ => lv_icmp_eq (tgt := 40) hx hb d_Mf_digit_27 (by decide)) (fun c_59 => ?_) (fun c_59 => ?_)
            · skip
              have nc_59 : 1 = 1 := (nn_eq (a := 1) (b := 1) (by omega) (by omega)).1 c_59
              refine gs (pc' := 41) (fun _ _ _ _ _ hl => lv_iload_n hx hb d_Mf_digit_40 rfl (lv_at hl 3 rfl)) ?_
              refine gsb (pc1 := 55) (pc2 := 44) (fun _ _ _ _ _ => lv_if_ne (tgt := 55) hx hb d_Mf_digit_41 (by decide)) (fun c_60 => ?_) (fun c_60 => ?_)
              · skip
                have nc_60 : 1 ≠ 0 := (n0_ne (a := 1) (by omega)).1 c_60
                refine gs (pc' := 57) (fun _ _ _ _ _ hl => lv_aload hx hb d_Mf_digit_55 (lv_at hl 0 rfl)) ?_
                obtain ⟨hf_61, f_62, kq_63⟩ := id iv_52
                refine g_get hx hb hts hin_Va hown hK f_62 rfl 0 (by decide) (hts _ wm523) (fun _ h9 => h9) rfl d_Mf_digit_57 ?_
                obtain ⟨t_64, ha_65, hb_66, e_67, f_68, rd_69, rd_70⟩ := id kq_63
                refine g_get hx hb hts hin_Fr hown hK f_68 rfl 2 (by decide) (hts _ wm171) (fun _ h9 => h9) rfl d_Mf_digit_60 ?_
                refine gst (pc' := 65) (L' := [(5, .ref hb_66), (4, .ref r_50), (0, .ref a.x), (1, .int (nI i)), (2, .int (nI 1)), (3, .int (nI o))]) (fun _ _ _ _ _ hl => lv_astore hx hb d_Mf_digit_63 hl (by decide) rfl) ?_
                refine gs (pc' := 66) (fun _ _ _ _ _ hl => lv_iload_n hx hb d_Mf_digit_65 rfl (lv_at hl 5 rfl)) ?_
                refine gs (pc' := 68) (fun _ _ _ _ _ hl => lv_aload hx hb d_Mf_digit_66 (lv_at hl 0 rfl)) ?_
                obtain ⟨t_71, k_72, e_73, e_74, aa_75, z_76, f_77, f_78, f_79, e_80, e_81⟩ := id rd_70
                refine g_outi hlo (g_runV (As := []) (rest := [.int (nI o)]) ⟨hx, hb, hml, hown, hts⟩ hK hZ hRc hRs (n_digits l D cA lo MC MS G B _ hb_66 ((S.v i).den) rd_70 bl_1 bl_2) (fun _ _ => cwV 0 hts (tb_good (tb_cons wm650 (tb_cons wm504 (tb_cons wm505 (tb_cons wm5 k_Na_digits))))) rfl rfl rfl (by decide +kernel) ⟨by rw [hRf]; exact Nat.le_of_ble_eq_true rfl, by rw [hRl]; exact Nat.le_of_ble_eq_true rfl⟩) f_78 rfl bl_1 bl_2 rfl (Nat.le_of_ble_eq_true rfl) d_Mf_digit_68) (fun r_85 G_82 B_83 p_84 => ?_)
                obtain ⟨u_86, K_87, e_88, e_89⟩ := p_84
                cases u_86
                have e_89n := ndig_of e_89
                subst e_89n
                subst e_88
                refine gsb (pc1 := 84) (pc2 := 74) (fun _ _ _ _ _ => lv_icmp_lt (tgt := 84) hx hb d_Mf_digit_71 (by decide)) (fun c_90 => ?_) (fun c_90 => ?_)
                · skip
                  have nc_90 : o < (ndig ((S.v i).den)) := (nn_lt (a := o) (b := (ndig ((S.v i).den))) (by omega) (by omega)).1 c_90
                  exact absurd nc_90 (by omega)
                · skip
                  have nc_90 : o ≥ (ndig ((S.v i).den)) := (nn_lt (a := o) (b := (ndig ((S.v i).den))) (by omega) (by omega)).2 c_90
                  have le_91 := w2_le hC.w
                  exact g_throw hx hb hml hown hts hlo hZ hfl hlocks hne (fun U h h1 h2 => own_Iob h h1 h2) (by decide +kernel) wm543 wm544 wm19 (by decide) hRc hRs (by rw [hRf]; exact Nat.le_of_ble_eq_true rfl) (by rw [hRl]; exact Nat.le_of_ble_eq_true rfl) (by have := le_91.1; omega) (by have := le_91.2; omega) d_Mf_digit_74 d_Mf_digit_77 d_Mf_digit_78 d_Mf_digit_80 d_Mf_digit_83 rfl hQ
              · skip
                have nc_60 : 1 = 0 := (n0_ne (a := 1) (by omega)).2 c_60
                exact absurd nc_60 (by omega)
            · skip
              have nc_59 : 1 ≠ 1 := (nn_eq (a := 1) (b := 1) (by omega) (by omega)).2 c_59
              exact absurd nc_59 (by omega)
        · skip
          have nc_57 : o < 0 := (n0_ge (a := o) (by omega)).2 c_57
          exact absurd nc_57 (by omega)
    · skip
      refine gs (pc' := 1) (fun _ _ _ _ _ hl => lv_aload_n hx hb d_Mf_digit_0 rfl (lv_at hl 0 rfl)) ?_
      refine gs (pc' := 2) (fun _ _ _ _ _ hl => lv_iload_n hx hb d_Mf_digit_1 rfl (lv_at hl 1 rfl)) ?_
      refine g_outr hlo (g_runV (As := [.int (nI i)]) (rest := []) ⟨hx, hb, hml, hown, hts⟩ hK hZ hRc hRs (c_Mf_valueOf l D cA lo MC MS G B X a S F V hC hW i (by omega) hX1 hX2) (fun _ _ => cwV 1 hts (tb_good (tb_cons wm539 (tb_cons wm541 (tb_cons ws11 (tb_cons wm1 k_Mf_valueOf))))) rfl rfl rfl (by decide +kernel) ⟨by rw [hRf]; exact Nat.le_of_ble_eq_true rfl, by rw [hRl]; exact Nat.le_of_ble_eq_true rfl⟩) hC.ob rfl bl_1 bl_2 rfl (Nat.le_of_ble_eq_true rfl) d_Mf_digit_2) (fun r_95 G_92 B_93 p_94 => ?_)
      obtain ⟨u_96, iv_97⟩ := p_94
      cases u_96
      have rb_98 : rb (S.v i) 100 := rb_of (hW.v _ (by omega)).1
      have ub_99 := (hW.v i (by omega)).2
      have ub_100 := ub_99.1
      have ub_101 := ub_99.2
      refine gst (pc' := 7) (L' := [(4, .ref r_95), (0, .ref a.x), (1, .int (nI i)), (2, .int (iI pt)), (3, .int (iI io))]) (fun _ _ _ _ _ hl => lv_astore hx hb d_Mf_digit_5 hl (by decide) rfl) ?_
      refine gs (pc' := 8) (fun _ _ _ _ _ hl => lv_iload_n hx hb d_Mf_digit_7 rfl (lv_at hl 4 rfl)) ?_
      refine gsb (pc1 := 21) (pc2 := 11) (fun _ _ _ _ _ => lv_if_ge (tgt := 21) hx hb d_Mf_digit_8 (by decide)) (fun c_102 => ?_) (fun c_102 => ?_)
      · skip
        have nc_102 : io ≥ 0 := (ii_ge (a := io) (b := 0) (by omega) (by omega) (by omega) (by omega)).1 (by first | exact c_102 | (have z9 := c_102; simp only [nI_iI] at z9; exact z9))
        exact absurd nc_102 (by omega)
      · skip
        have nc_102 : io < 0 := (ii_ge (a := io) (b := 0) (by omega) (by omega) (by omega) (by omega)).2 (by first | exact c_102 | (have z9 := c_102; simp only [nI_iI] at z9; exact z9))
        have le_103 := w2_le hC.w
        exact g_throw hx hb hml hown hts hlo hZ hfl hlocks hne (fun U h h1 h2 => own_Iob h h1 h2) (by decide +kernel) wm543 wm544 wm19 (by decide) hRc hRs (by rw [hRf]; exact Nat.le_of_ble_eq_true rfl) (by rw [hRl]; exact Nat.le_of_ble_eq_true rfl) (by have := le_103.1; omega) (by have := le_103.2; omega) d_Mf_digit_11 d_Mf_digit_14 d_Mf_digit_15 d_Mf_digit_17 d_Mf_digit_20 rfl hQ
  · skip
    refine gs (pc' := 1) (fun _ _ _ _ _ hl => lv_aload_n hx hb d_Mf_digit_0 rfl (lv_at hl 0 rfl)) ?_
    refine gs (pc' := 2) (fun _ _ _ _ _ hl => lv_iload_n hx hb d_Mf_digit_1 rfl (lv_at hl 1 rfl)) ?_
    exact g_up hlocks hne bl_1 bl_2 (g_thrV (As := [.int (iI x)]) (rest := []) ⟨hx, hb, hml, hown, hts⟩ hK hZ hRc hRs (t_Mf_valueOf l D cA lo MC MS G B X a S F V hC hW x hx1 hx2 (nvi hx1 hx2 hv) hY1 hY2 hfl) (fun _ _ => cwV 1 hts (tb_good (tb_cons wm539 (tb_cons wm541 (tb_cons ws11 (tb_cons wm1 k_Mf_valueOf))))) rfl rfl rfl (by decide +kernel) ⟨by rw [hRf]; exact Nat.le_of_ble_eq_true rfl, by rw [hRl]; exact Nat.le_of_ble_eq_true rfl⟩) hC.ob rfl bl_1 bl_2 rfl (Nat.le_of_ble_eq_true rfl) d_Mf_digit_2) (fun _ h => h) hQ
