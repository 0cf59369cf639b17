theorem sc_47 {kj : Nat} (hkj : kj + 1 ≤ 1499) : kj ≤ 1500 := by omega
theorem sc_48 {kj : Nat} (hkj : kj + 1 ≤ 1499) : ∀ x, (x = 10) ∨ (x = 10) → (x = 10) := by intro x h; omega
theorem sc_49 {kj : Nat} (hkj : kj + 1 ≤ 1499) : kj + 1 ≤ 1500 := by omega
set_option maxHeartbeats 4000000 in
set_option maxRecDepth 100000 in
theorem n_joinParts (l : Launch) (D : va_G) (cA : Nat → ClassId) (lo MC MS : Nat) (G : gT) (B : Nat × Nat) (X : Nat × Nat) (ad V : Nat → Nat) (hW : w2 cA X ad V (G, B)) (hX1 : X.1 ≤ MC) (hX2 : X.2 ≤ MS) (hk hd hc : Nat) (hhk : G hk = some (30, .inr (0, [.ref hd, .ref hc, .ref (ad 5), .ref (ad 6), .ref (ad 7), .ref (ad 8), .ref (ad 9), .ref (ad 10)]))) (hhd : G hd = some (30, .inr (2, [.ref (ad 0), .ref (ad 1), .ref (ad 2)]))) (hcd : cdO ad hd hc G) (N1 N2 : Int) (kj : Nat) (hV6 : V 6 = N1.natAbs) (hV8 : V 8 = N2.natAbs) (hl6 : N1.natAbs < 1000000000 ^ kj) (hl8 : N2.natAbs < 1000000000 ^ kj) (hkj : kj + 1 ≤ 1499) : gMet l y_Ca_joinParts w_Ca_joinParts 4 110 D clS (gtys cA) lo MC MS [.ref hk, .int (sgI N1), .int (sgI N2)] G B (gQi D clS lo (fun r u => r = sgI (N1 + N2) ∧ ∃ V1, w2s cA X ad (fun x => x = 10) G V V1 u ∧ V1 10 = (N1 + N2).natAbs)) := by
  refine g_meti (cc := prog_2_method_9_code) (nL := 4) (L := [(0, .ref hk), (1, .int (sgI N1)), (2, .int (sgI N2))]) (by decide +kernel) rfl (Nat.le_of_ble_eq_true rfl) rfl ?_
  intro p e R s m args below meth c Q hF hRc hRs hRf hRl hret
  obtain ⟨hx, hb, hr, hml, hts0, hown, hlocks, hin, hK, hlo, hZ⟩ := hF
  have hts : ∀ w ∈ tbg, w.before args s = true := fun w h => hts0 w (List.mem_cons_of_mem _ h)
  obtain ⟨ga0, gb0, gc0, gd0, hhc⟩ := id hcd
  have hS0 : w2s cA X ad (fun x => x = 10) G V V (G, B) := w2s_rf hW
  have bl_1 : B.1 ≤ MC := Nat.le_trans (w2_le hW).1 hX1
  have bl_2 : B.2 ≤ MS := Nat.le_trans (w2_le hW).2 hX2
  refine gs (pc' := 1) (fun _ _ _ _ _ hl => lv_iload_n hx hb d_Ca_joinParts_0 rfl (lv_at hl 1 rfl)) ?_
  refine gs (pc' := 2) (fun _ _ _ _ _ hl => lv_iload_n hx hb d_Ca_joinParts_1 rfl (lv_at hl 2 rfl)) ?_
  refine gs (pc' := 3) (fun _ _ _ _ _ hl => lv_imul hx hb d_Ca_joinParts_2) ?_
  refine g_eqi (show (sgI N1) * (sgI N2) = sgI (N1 * N2) from sgI_mul N1 N2) ?_
  refine gsb (pc1 := 31) (pc2 := 6) (fun _ _ _ _ _ => lv_if_lt (tgt := 31) hx hb d_Ca_joinParts_3 (by decide)) (fun c_3 => ?_) (fun c_3 => ?_)
  · skip
    have hlt : N1 * N2 < 0 := sgI_lt.mp c_3
    have hab := ab_sub hlt
    refine gs (pc' := 32) (fun _ _ _ _ _ hl => lv_aload_n hx hb d_Ca_joinParts_31 rfl (lv_at hl 0 rfl)) ?_
    refine g_get hx hb hts hin_Ca hown hK hhk rfl 3 (by decide) (hts _ wm133) (fun _ h9 => h9) rfl d_Ca_joinParts_32 ?_
    refine gs (pc' := 36) (fun _ _ _ _ _ hl => lv_aload_n hx hb d_Ca_joinParts_35 rfl (lv_at hl 0 rfl)) ?_
    refine g_get hx hb hts hin_Ca hown hK hhk rfl 5 (by decide) (hts _ wm135) (fun _ h9 => h9) rfl d_Ca_joinParts_36 ?_
    obtain ⟨κo_4, ao_4, zo_4, fo_4, hho_4, hao_4, hzo_4, hDo_4, hco_4⟩ := w2_N hW (show 6 < 19 by decide)
    rw [hV6] at hDo_4
    have hbo_4 : zo_4 ≤ 3000 := Nat.le_trans hzo_4 hco_4
    refine g_outi hlo (g_runV (As := [.ref (ad 8)]) (rest := []) ⟨hx, hb, hml, hown, hts⟩ hK hZ hRc hRs (n_compare l D cA lo MC MS G B (fun _ => True) (fun _ => True) (ad 6) N1.natAbs (ad 8) N2.natAbs (rd_w2' (P := fun _ => True) hW (by decide) trivial hV6) (rd_w2' (P := fun _ => True) hW (by decide) trivial hV8) bl_1 bl_2) (fun _ _ => cwV 1 hts (tb_good (tb_cons wm576 (tb_cons wm404 (tb_cons wm405 (tb_cons wm5 k_Na_compare))))) rfl rfl rfl (by decide +kernel) ⟨by rw [hRf]; exact Nat.le_of_ble_eq_true rfl, by rw [hRl]; exact Nat.le_of_ble_eq_true rfl⟩) hho_4 rfl bl_1 bl_2 rfl (Nat.le_of_ble_eq_true rfl) d_Ca_joinParts_39) (fun r_8 G_5 B_6 p_7 => ?_)
    obtain ⟨u_9, cm_10⟩ := p_7
    cases u_9
    rcases cm_10 with ⟨q_11, hl_12⟩ | ⟨q_11, hl_12⟩ | ⟨q_11, hl_12⟩
    · skip
      subst q_11
      refine gst (pc' := 43) (L' := [(3, .int (-1)), (0, .ref hk), (1, .int (sgI N1)), (2, .int (sgI N2))]) (fun _ _ _ _ _ hl => lv_istore_n hx hb d_Ca_joinParts_42 rfl hl (by decide) rfl) ?_
      refine gs (pc' := 44) (fun _ _ _ _ _ hl => lv_iload_n hx hb d_Ca_joinParts_43 rfl (lv_at hl 0 rfl)) ?_
      refine gsb (pc1 := 65) (pc2 := 47) (fun _ _ _ _ _ => lv_if_lt (tgt := 65) hx hb d_Ca_joinParts_44 (by decide)) (fun c_13 => ?_) (fun c_13 => ?_)
      · skip
        refine gs (pc' := 66) (fun _ _ _ _ _ hl => lv_aload_n hx hb d_Ca_joinParts_65 rfl (lv_at hl 1 rfl)) ?_
        refine g_get hx hb hts hin_Ca hown hK hhk rfl 7 (by decide) (hts _ wm137) (fun _ h9 => h9) rfl d_Ca_joinParts_66 ?_
        refine gs (pc' := 70) (fun _ _ _ _ _ hl => lv_aload_n hx hb d_Ca_joinParts_69 rfl (lv_at hl 1 rfl)) ?_
        refine g_get hx hb hts hin_Ca hown hK hhk rfl 5 (by decide) (hts _ wm135) (fun _ h9 => h9) rfl d_Ca_joinParts_70 ?_
        refine gs (pc' := 74) (fun _ _ _ _ _ hl => lv_aload_n hx hb d_Ca_joinParts_73 rfl (lv_at hl 1 rfl)) ?_
        refine g_get hx hb hts hin_Ca hown hK hhk rfl 3 (by decide) (hts _ wm133) (fun _ h9 => h9) rfl d_Ca_joinParts_74 ?_
        obtain ⟨κo_14, ao_14, zo_14, fo_14, hho_14, hao_14, hzo_14, hDo_14, hco_14⟩ := w2_N hW (show 10 < 19 by decide)
        have hbo_14 : zo_14 ≤ 3000 := Nat.le_trans hzo_14 hco_14
        refine g_outv hlo (g_runV (As := [.ref (ad 8), .ref (ad 6)]) (rest := []) ⟨hx, hb, hml, hown, hts⟩ hK hZ hRc hRs (n_setDifference l D cA lo MC MS G B X ad V hW hX1 hX2 10 (by decide) (ad 8) N2.natAbs kj (rd_w2' (P := fun x => ¬ x = 10) hW (by decide) (by decide) hV8) hl8 (ad 6) N1.natAbs kj (rd_w2' (P := fun x => ¬ x = 10) hW (by decide) (by decide) hV6) hl6 (Nat.le_of_lt hl_12) (sc_47 hkj) (sc_47 hkj)) (fun _ _ => cwV 2 hts (tb_good (tb_cons wm577 (tb_cons wm578 (tb_cons wm579 (tb_cons wm5 k_Na_setDifference))))) rfl rfl rfl (by decide +kernel) ⟨by rw [hRf]; exact Nat.le_of_ble_eq_true rfl, by rw [hRl]; exact Nat.le_of_ble_eq_true rfl⟩) hho_14 rfl bl_1 bl_2 rfl (Nat.le_of_ble_eq_true rfl) d_Ca_joinParts_77) (fun G_15 B_16 p_17 => ?_)
        have lt_18 : N2.natAbs - N1.natAbs < 1000000000 ^ kj := Nat.lt_of_le_of_lt (Nat.sub_le _ _) hl8
        obtain ⟨V_19, s_20, k_21⟩ := p_17
        have f_22 : G_15 hk = some (30, .inr (0, [.ref hd, .ref hc, .ref (ad 5), .ref (ad 6), .ref (ad 7), .ref (ad 8), .ref (ad 9), .ref (ad 10)])) := s_20.2.2 _ _ hhk (show ¬ (30 = 10) by decide)
        have f_23 : G_15 hd = some (30, .inr (2, [.ref (ad 0), .ref (ad 1), .ref (ad 2)])) := s_20.2.2 _ _ hhd (show ¬ (30 = 10) by decide)
        have f_24 : G_15 hc = some (19, .inr (1, [.ref hd, .ref (ad 3), .ref (ad 4), .long ga0, .long gb0, .long gc0, .long gd0])) := s_20.2.2 _ _ hhc (show ¬ (19 = 10) by decide)
        have k_25 : V_19 6 = N1.natAbs := (s_20.2.1 6 (show ¬ (6 = 10) by decide)).trans hV6
        have k_26 : V_19 8 = N2.natAbs := (s_20.2.1 8 (show ¬ (8 = 10) by decide)).trans hV8
        have W_27 := s_20.1
        have S_28 : w2s cA X ad (fun x => x = 10) G V V_19 (G_15, B_16) := w2s_mono (w2s_tr hS0 s_20) (sc_48 hkj)
        have bl_29 : B_16.1 ≤ MC := Nat.le_trans (w2_le W_27).1 hX1
        have bl_30 : B_16.2 ≤ MS := Nat.le_trans (w2_le W_27).2 hX2
        refine gs (pc' := 81) (fun _ _ _ _ _ hl => lv_iload_n hx hb d_Ca_joinParts_80 rfl (lv_at hl 0 rfl)) ?_
        refine gs (pc' := 82) (fun _ _ _ _ _ hl => lv_iload_n hx hb d_Ca_joinParts_81 rfl (lv_at hl 2 rfl)) ?_
        refine gs (pc' := 83) (fun _ _ _ _ _ hl => lv_imul hx hb d_Ca_joinParts_82) ?_
        exact hret 83 _ _ _ _ d_Ca_joinParts_83 bl_29 bl_30 ⟨(hab.2.2.1 hl_12), V_19, S_28, k_21.trans (hab.2.1 hl_12).symm⟩
      · skip
        exact absurd (show (-1 : Int32) < 0 by decide) c_13
    · skip
      subst q_11
      refine gst (pc' := 43) (L' := [(3, .int (nI 0)), (0, .ref hk), (1, .int (sgI N1)), (2, .int (sgI N2))]) (fun _ _ _ _ _ hl => lv_istore_n hx hb d_Ca_joinParts_42 rfl hl (by decide) rfl) ?_
      refine gs (pc' := 44) (fun _ _ _ _ _ hl => lv_iload_n hx hb d_Ca_joinParts_43 rfl (lv_at hl 0 rfl)) ?_
      refine gsb (pc1 := 65) (pc2 := 47) (fun _ _ _ _ _ => lv_if_lt (tgt := 65) hx hb d_Ca_joinParts_44 (by decide)) (fun c_31 => ?_) (fun c_31 => ?_)
      · skip
        have nc_31 : 0 < 0 := (n0_lt (a := 0) (by omega)).1 c_31
        exact absurd nc_31 (by omega)
      · skip
        have nc_31 : 0 ≥ 0 := (n0_lt (a := 0) (by omega)).2 c_31
        refine gs (pc' := 48) (fun _ _ _ _ _ hl => lv_aload_n hx hb d_Ca_joinParts_47 rfl (lv_at hl 1 rfl)) ?_
        refine g_get hx hb hts hin_Ca hown hK hhk rfl 7 (by decide) (hts _ wm137) (fun _ h9 => h9) rfl d_Ca_joinParts_48 ?_
        refine gs (pc' := 52) (fun _ _ _ _ _ hl => lv_aload_n hx hb d_Ca_joinParts_51 rfl (lv_at hl 1 rfl)) ?_
        refine g_get hx hb hts hin_Ca hown hK hhk rfl 3 (by decide) (hts _ wm133) (fun _ h9 => h9) rfl d_Ca_joinParts_52 ?_
        refine gs (pc' := 56) (fun _ _ _ _ _ hl => lv_aload_n hx hb d_Ca_joinParts_55 rfl (lv_at hl 1 rfl)) ?_
        refine g_get hx hb hts hin_Ca hown hK hhk rfl 5 (by decide) (hts _ wm135) (fun _ h9 => h9) rfl d_Ca_joinParts_56 ?_
        obtain ⟨κo_32, ao_32, zo_32, fo_32, hho_32, hao_32, hzo_32, hDo_32, hco_32⟩ := w2_N hW (show 10 < 19 by decide)
        have hbo_32 : zo_32 ≤ 3000 := Nat.le_trans hzo_32 hco_32
        refine g_outv hlo (g_runV (As := [.ref (ad 6), .ref (ad 8)]) (rest := []) ⟨hx, hb, hml, hown, hts⟩ hK hZ hRc hRs (n_setDifference l D cA lo MC MS G B X ad V hW hX1 hX2 10 (by decide) (ad 6) N1.natAbs kj (rd_w2' (P := fun x => ¬ x = 10) hW (by decide) (by decide) hV6) hl6 (ad 8) N2.natAbs kj (rd_w2' (P := fun x => ¬ x = 10) hW (by decide) (by decide) hV8) hl8 (Nat.le_of_eq hl_12.symm) (sc_47 hkj) (sc_47 hkj)) (fun _ _ => cwV 2 hts (tb_good (tb_cons wm577 (tb_cons wm578 (tb_cons wm579 (tb_cons wm5 k_Na_setDifference))))) rfl rfl rfl (by decide +kernel) ⟨by rw [hRf]; exact Nat.le_of_ble_eq_true rfl, by rw [hRl]; exact Nat.le_of_ble_eq_true rfl⟩) hho_32 rfl bl_1 bl_2 rfl (Nat.le_of_ble_eq_true rfl) d_Ca_joinParts_59) (fun G_33 B_34 p_35 => ?_)
        have lt_36 : N1.natAbs - N2.natAbs < 1000000000 ^ kj := Nat.lt_of_le_of_lt (Nat.sub_le _ _) hl6
        obtain ⟨V_37, s_38, k_39⟩ := p_35
        have f_40 : G_33 hk = some (30, .inr (0, [.ref hd, .ref hc, .ref (ad 5), .ref (ad 6), .ref (ad 7), .ref (ad 8), .ref (ad 9), .ref (ad 10)])) := s_38.2.2 _ _ hhk (show ¬ (30 = 10) by decide)
        have f_41 : G_33 hd = some (30, .inr (2, [.ref (ad 0), .ref (ad 1), .ref (ad 2)])) := s_38.2.2 _ _ hhd (show ¬ (30 = 10) by decide)
        have f_42 : G_33 hc = some (19, .inr (1, [.ref hd, .ref (ad 3), .ref (ad 4), .long ga0, .long gb0, .long gc0, .long gd0])) := s_38.2.2 _ _ hhc (show ¬ (19 = 10) by decide)
        have k_43 : V_37 6 = N1.natAbs := (s_38.2.1 6 (show ¬ (6 = 10) by decide)).trans hV6
        have k_44 : V_37 8 = N2.natAbs := (s_38.2.1 8 (show ¬ (8 = 10) by decide)).trans hV8
        have W_45 := s_38.1
        have S_46 : w2s cA X ad (fun x => x = 10) G V V_37 (G_33, B_34) := w2s_mono (w2s_tr hS0 s_38) (sc_48 hkj)
        have bl_47 : B_34.1 ≤ MC := Nat.le_trans (w2_le W_45).1 hX1
        have bl_48 : B_34.2 ≤ MS := Nat.le_trans (w2_le W_45).2 hX2
        refine gs (pc' := 80) (fun _ _ _ _ _ hl => lv_goto (tgt := 80) hx hb d_Ca_joinParts_62 (by decide)) ?_
        refine gs (pc' := 81) (fun _ _ _ _ _ hl => lv_iload_n hx hb d_Ca_joinParts_80 rfl (lv_at hl 0 rfl)) ?_
        refine gs (pc' := 82) (fun _ _ _ _ _ hl => lv_iload_n hx hb d_Ca_joinParts_81 rfl (lv_at hl 2 rfl)) ?_
        refine gs (pc' := 83) (fun _ _ _ _ _ hl => lv_imul hx hb d_Ca_joinParts_82) ?_
        exact hret 83 _ _ _ _ d_Ca_joinParts_83 bl_47 bl_48 ⟨(hab.2.2.2.1 hl_12), V_37, S_46, k_39.trans (hab.1 (Nat.le_of_eq hl_12.symm)).symm⟩
    · skip
      subst q_11
      refine gst (pc' := 43) (L' := [(3, .int (nI 1)), (0, .ref hk), (1, .int (sgI N1)), (2, .int (sgI N2))]) (fun _ _ _ _ _ hl => lv_istore_n hx hb d_Ca_joinParts_42 rfl hl (by decide) rfl) ?_
      refine gs (pc' := 44) (fun _ _ _ _ _ hl => lv_iload_n hx hb d_Ca_joinParts_43 rfl (lv_at hl 0 rfl)) ?_
      refine gsb (pc1 := 65) (pc2 := 47) (fun _ _ _ _ _ => lv_if_lt (tgt := 65) hx hb d_Ca_joinParts_44 (by decide)) (fun c_49 => ?_) (fun c_49 => ?_)
      · skip
        have nc_49 : 1 < 0 := (n0_lt (a := 1) (by omega)).1 c_49
        exact absurd nc_49 (by omega)
      · skip
        have nc_49 : 1 ≥ 0 := (n0_lt (a := 1) (by omega)).2 c_49
        refine gs (pc' := 48) (fun _ _ _ _ _ hl => lv_aload_n hx hb d_Ca_joinParts_47 rfl (lv_at hl 1 rfl)) ?_
        refine g_get hx hb hts hin_Ca hown hK hhk rfl 7 (by decide) (hts _ wm137) (fun _ h9 => h9) rfl d_Ca_joinParts_48 ?_
        refine gs (pc' := 52) (fun _ _ _ _ _ hl => lv_aload_n hx hb d_Ca_joinParts_51 rfl (lv_at hl 1 rfl)) ?_
        refine g_get hx hb hts hin_Ca hown hK hhk rfl 3 (by decide) (hts _ wm133) (fun _ h9 => h9) rfl d_Ca_joinParts_52 ?_
        refine gs (pc' := 56) (fun _ _ _ _ _ hl => lv_aload_n hx hb d_Ca_joinParts_55 rfl (lv_at hl 1 rfl)) ?_
        refine g_get hx hb hts hin_Ca hown hK hhk rfl 5 (by decide) (hts _ wm135) (fun _ h9 => h9) rfl d_Ca_joinParts_56 ?_
        obtain ⟨κo_50, ao_50, zo_50, fo_50, hho_50, hao_50, hzo_50, hDo_50, hco_50⟩ := w2_N hW (show 10 < 19 by decide)
        have hbo_50 : zo_50 ≤ 3000 := Nat.le_trans hzo_50 hco_50
        refine g_outv hlo (g_runV (As := [.ref (ad 6), .ref (ad 8)]) (rest := []) ⟨hx, hb, hml, hown, hts⟩ hK hZ hRc hRs (n_setDifference l D cA lo MC MS G B X ad V hW hX1 hX2 10 (by decide) (ad 6) N1.natAbs kj (rd_w2' (P := fun x => ¬ x = 10) hW (by decide) (by decide) hV6) hl6 (ad 8) N2.natAbs kj (rd_w2' (P := fun x => ¬ x = 10) hW (by decide) (by decide) hV8) hl8 (Nat.le_of_lt hl_12) (sc_47 hkj) (sc_47 hkj)) (fun _ _ => cwV 2 hts (tb_good (tb_cons wm577 (tb_cons wm578 (tb_cons wm579 (tb_cons wm5 k_Na_setDifference))))) rfl rfl rfl (by decide +kernel) ⟨by rw [hRf]; exact Nat.le_of_ble_eq_true rfl, by rw [hRl]; exact Nat.le_of_ble_eq_true rfl⟩) hho_50 rfl bl_1 bl_2 rfl (Nat.le_of_ble_eq_true rfl) d_Ca_joinParts_59) (fun G_51 B_52 p_53 => ?_)
        have lt_54 : N1.natAbs - N2.natAbs < 1000000000 ^ kj := Nat.lt_of_le_of_lt (Nat.sub_le _ _) hl6
        obtain ⟨V_55, s_56, k_57⟩ := p_53
        have f_58 : G_51 hk = some (30, .inr (0, [.ref hd, .ref hc, .ref (ad 5), .ref (ad 6), .ref (ad 7), .ref (ad 8), .ref (ad 9), .ref (ad 10)])) := s_56.2.2 _ _ hhk (show ¬ (30 = 10) by decide)
        have f_59 : G_51 hd = some (30, .inr (2, [.ref (ad 0), .ref (ad 1), .ref (ad 2)])) := s_56.2.2 _ _ hhd (show ¬ (30 = 10) by decide)
        have f_60 : G_51 hc = some (19, .inr (1, [.ref hd, .ref (ad 3), .ref (ad 4), .long ga0, .long gb0, .long gc0, .long gd0])) := s_56.2.2 _ _ hhc (show ¬ (19 = 10) by decide)
        have k_61 : V_55 6 = N1.natAbs := (s_56.2.1 6 (show ¬ (6 = 10) by decide)).trans hV6
        have k_62 : V_55 8 = N2.natAbs := (s_56.2.1 8 (show ¬ (8 = 10) by decide)).trans hV8
        have W_63 := s_56.1
        have S_64 : w2s cA X ad (fun x => x = 10) G V V_55 (G_51, B_52) := w2s_mono (w2s_tr hS0 s_56) (sc_48 hkj)
        have bl_65 : B_52.1 ≤ MC := Nat.le_trans (w2_le W_63).1 hX1
        have bl_66 : B_52.2 ≤ MS := Nat.le_trans (w2_le W_63).2 hX2
        refine gs (pc' := 80) (fun _ _ _ _ _ hl => lv_goto (tgt := 80) hx hb d_Ca_joinParts_62 (by decide)) ?_
        refine gs (pc' := 81) (fun _ _ _ _ _ hl => lv_iload_n hx hb d_Ca_joinParts_80 rfl (lv_at hl 0 rfl)) ?_
        refine gs (pc' := 82) (fun _ _ _ _ _ hl => lv_iload_n hx hb d_Ca_joinParts_81 rfl (lv_at hl 2 rfl)) ?_
        refine gs (pc' := 83) (fun _ _ _ _ _ hl => lv_imul hx hb d_Ca_joinParts_82) ?_
        exact hret 83 _ _ _ _ d_Ca_joinParts_83 bl_65 bl_66 ⟨(hab.2.2.2.2 hl_12), V_55, S_64, k_57.trans (hab.1 (Nat.le_of_lt hl_12)).symm⟩
  · skip
    have hge : 0 ≤ N1 * N2 := Int.not_lt.mp (fun z => c_3 (sgI_lt.mpr z))
    have hab := ab_add hge
    refine gs (pc' := 7) (fun _ _ _ _ _ hl => lv_aload_n hx hb d_Ca_joinParts_6 rfl (lv_at hl 0 rfl)) ?_
    refine g_get hx hb hts hin_Ca hown hK hhk rfl 7 (by decide) (hts _ wm137) (fun _ h9 => h9) rfl d_Ca_joinParts_7 ?_
    refine gs (pc' := 11) (fun _ _ _ _ _ hl => lv_aload_n hx hb d_Ca_joinParts_10 rfl (lv_at hl 0 rfl)) ?_
    refine g_get hx hb hts hin_Ca hown hK hhk rfl 3 (by decide) (hts _ wm133) (fun _ h9 => h9) rfl d_Ca_joinParts_11 ?_
    refine gs (pc' := 15) (fun _ _ _ _ _ hl => lv_aload_n hx hb d_Ca_joinParts_14 rfl (lv_at hl 0 rfl)) ?_
    refine g_get hx hb hts hin_Ca hown hK hhk rfl 5 (by decide) (hts _ wm135) (fun _ h9 => h9) rfl d_Ca_joinParts_15 ?_
    obtain ⟨κo_67, ao_67, zo_67, fo_67, hho_67, hao_67, hzo_67, hDo_67, hco_67⟩ := w2_N hW (show 10 < 19 by decide)
    have hbo_67 : zo_67 ≤ 3000 := Nat.le_trans hzo_67 hco_67
    refine g_outv hlo (g_runV (As := [.ref (ad 6), .ref (ad 8)]) (rest := []) ⟨hx, hb, hml, hown, hts⟩ hK hZ hRc hRs (n_setSum l D cA lo MC MS G B X ad V hW hX1 hX2 10 (by decide) (ad 6) N1.natAbs kj (rd_w2' (P := fun x => ¬ x = 10) hW (by decide) (by decide) hV6) hl6 (ad 8) N2.natAbs kj (rd_w2' (P := fun x => ¬ x = 10) hW (by decide) (by decide) hV8) hl8 (sc_49 hkj) (sc_49 hkj)) (fun _ _ => cwV 2 hts (tb_good (tb_cons wm572 (tb_cons wm573 (tb_cons wm574 (tb_cons wm5 k_Na_setSum))))) rfl rfl rfl (by decide +kernel) ⟨by rw [hRf]; exact Nat.le_of_ble_eq_true rfl, by rw [hRl]; exact Nat.le_of_ble_eq_true rfl⟩) hho_67 rfl bl_1 bl_2 rfl (Nat.le_of_ble_eq_true rfl) d_Ca_joinParts_18) (fun G_68 B_69 p_70 => ?_)
    have lt_71 : N1.natAbs + N2.natAbs < 1000000000 ^ (kj + kj + 1) := lb_add hl6 hl8
    obtain ⟨V_72, s_73, k_74⟩ := p_70
    have f_75 : G_68 hk = some (30, .inr (0, [.ref hd, .ref hc, .ref (ad 5), .ref (ad 6), .ref (ad 7), .ref (ad 8), .ref (ad 9), .ref (ad 10)])) := s_73.2.2 _ _ hhk (show ¬ (30 = 10) by decide)
    have f_76 : G_68 hd = some (30, .inr (2, [.ref (ad 0), .ref (ad 1), .ref (ad 2)])) := s_73.2.2 _ _ hhd (show ¬ (30 = 10) by decide)
    have f_77 : G_68 hc = some (19, .inr (1, [.ref hd, .ref (ad 3), .ref (ad 4), .long ga0, .long gb0, .long gc0, .long gd0])) := s_73.2.2 _ _ hhc (show ¬ (19 = 10) by decide)
    have k_78 : V_72 6 = N1.natAbs := (s_73.2.1 6 (show ¬ (6 = 10) by decide)).trans hV6
    have k_79 : V_72 8 = N2.natAbs := (s_73.2.1 8 (show ¬ (8 = 10) by decide)).trans hV8
    have W_80 := s_73.1
    have S_81 : w2s cA X ad (fun x => x = 10) G V V_72 (G_68, B_69) := w2s_mono (w2s_tr hS0 s_73) (sc_48 hkj)
    have bl_82 : B_69.1 ≤ MC := Nat.le_trans (w2_le W_80).1 hX1
    have bl_83 : B_69.2 ≤ MS := Nat.le_trans (w2_le W_80).2 hX2
    refine gs (pc' := 22) (fun _ _ _ _ _ hl => lv_iload_n hx hb d_Ca_joinParts_21 rfl (lv_at hl 1 rfl)) ?_
    refine gsb (pc1 := 29) (pc2 := 25) (fun _ _ _ _ _ => lv_if_eq (tgt := 29) hx hb d_Ca_joinParts_22 (by decide)) (fun c_84 => ?_) (fun c_84 => ?_)
    · skip
      have hN0 : N1 = 0 := sgI_eq0.mp c_84
      refine gs (pc' := 30) (fun _ _ _ _ _ hl => lv_iload_n hx hb d_Ca_joinParts_29 rfl (lv_at hl 2 rfl)) ?_
      exact hret 30 _ _ _ _ d_Ca_joinParts_30 bl_82 bl_83 ⟨(by rw [hN0, Int.zero_add]), V_72, S_81, k_74.trans hab.1.symm⟩
    · skip
      have hN0 : N1 ≠ 0 := fun z => c_84 (sgI_eq0.mpr z)
      refine gs (pc' := 26) (fun _ _ _ _ _ hl => lv_iload_n hx hb d_Ca_joinParts_25 rfl (lv_at hl 1 rfl)) ?_
      refine gs (pc' := 30) (fun _ _ _ _ _ hl => lv_goto (tgt := 30) hx hb d_Ca_joinParts_26 (by decide)) ?_
      exact hret 30 _ _ _ _ d_Ca_joinParts_30 bl_82 bl_83 ⟨(hab.2 hN0), V_72, S_81, k_74.trans hab.1.symm⟩
theorem sc_50 {ta tb to k1 k2 t1 t2 : Nat} (hta : 11 ≤ ta) (hta2 : ta < 19) (htb : 11 ≤ tb) (htb2 : tb < 19) (htab : ¬ ta = tb) (hto : 20 ≤ to) (hto2 : to ≤ 23) (hkk : k1 + k2 + 1 ≤ 1499) (ht1 : 11 ≤ t1 ∧ ¬ t1 = 19 ∧ ¬ t1 = ta ∧ ¬ t1 = tb ∧ ¬ t1 = to) (ht2 : 11 ≤ t2 ∧ ¬ t2 = 19 ∧ ¬ t2 = ta ∧ ¬ t2 = tb ∧ ¬ t2 = to) : ∀ x, (11 ≤ x ∧ ¬ x = 19 ∧ ¬ x = ta ∧ ¬ x = tb ∧ ¬ x = to) → (5 ≤ x ∧ ¬ x = 19) := by intro x h; omega
theorem sc_51 {ta tb to k1 k2 t1 t2 : Nat} (hta : 11 ≤ ta) (hta2 : ta < 19) (htb : 11 ≤ tb) (htb2 : tb < 19) (htab : ¬ ta = tb) (hto : 20 ≤ to) (hto2 : to ≤ 23) (hkk : k1 + k2 + 1 ≤ 1499) (ht1 : 11 ≤ t1 ∧ ¬ t1 = 19 ∧ ¬ t1 = ta ∧ ¬ t1 = tb ∧ ¬ t1 = to) (ht2 : 11 ≤ t2 ∧ ¬ t2 = 19 ∧ ¬ t2 = ta ∧ ¬ t2 = tb ∧ ¬ t2 = to) : k1 ≤ k1 + k2 := by omega
theorem sc_52 {ta tb to k1 k2 t1 t2 : Nat} (hta : 11 ≤ ta) (hta2 : ta < 19) (htb : 11 ≤ tb) (htb2 : tb < 19) (htab : ¬ ta = tb) (hto : 20 ≤ to) (hto2 : to ≤ 23) (hkk : k1 + k2 + 1 ≤ 1499) (ht1 : 11 ≤ t1 ∧ ¬ t1 = 19 ∧ ¬ t1 = ta ∧ ¬ t1 = tb ∧ ¬ t1 = to) (ht2 : 11 ≤ t2 ∧ ¬ t2 = 19 ∧ ¬ t2 = ta ∧ ¬ t2 = tb ∧ ¬ t2 = to) : k2 ≤ k1 + k2 := by omega
theorem sc_53 {ta tb to k1 k2 t1 t2 : Nat} (hta : 11 ≤ ta) (hta2 : ta < 19) (htb : 11 ≤ tb) (htb2 : tb < 19) (htab : ¬ ta = tb) (hto : 20 ≤ to) (hto2 : to ≤ 23) (hkk : k1 + k2 + 1 ≤ 1499) (ht1 : 11 ≤ t1 ∧ ¬ t1 = 19 ∧ ¬ t1 = ta ∧ ¬ t1 = tb ∧ ¬ t1 = to) (ht2 : 11 ≤ t2 ∧ ¬ t2 = 19 ∧ ¬ t2 = ta ∧ ¬ t2 = tb ∧ ¬ t2 = to) : k1 + k2 ≤ 1499 := by omega
theorem sc_54 {ta tb to k1 k2 t1 t2 : Nat} (hta : 11 ≤ ta) (hta2 : ta < 19) (htb : 11 ≤ tb) (htb2 : tb < 19) (htab : ¬ ta = tb) (hto : 20 ≤ to) (hto2 : to ≤ 23) (hkk : k1 + k2 + 1 ≤ 1499) (ht1 : 11 ≤ t1 ∧ ¬ t1 = 19 ∧ ¬ t1 = ta ∧ ¬ t1 = tb ∧ ¬ t1 = to) (ht2 : 11 ≤ t2 ∧ ¬ t2 = 19 ∧ ¬ t2 = ta ∧ ¬ t2 = tb ∧ ¬ t2 = to) : ¬ (to < 5 ∨ to = 19) := by omega
theorem sc_55 {ta tb to k1 k2 t1 t2 : Nat} (hta : 11 ≤ ta) (hta2 : ta < 19) (htb : 11 ≤ tb) (htb2 : tb < 19) (htab : ¬ ta = tb) (hto : 20 ≤ to) (hto2 : to ≤ 23) (hkk : k1 + k2 + 1 ≤ 1499) (ht1 : 11 ≤ t1 ∧ ¬ t1 = 19 ∧ ¬ t1 = ta ∧ ¬ t1 = tb ∧ ¬ t1 = to) (ht2 : 11 ≤ t2 ∧ ¬ t2 = 19 ∧ ¬ t2 = ta ∧ ¬ t2 = tb ∧ ¬ t2 = to) : ¬ (t1 < 5 ∨ t1 = 19) := by omega
theorem sc_56 {ta tb to k1 k2 t1 t2 : Nat} (hta : 11 ≤ ta) (hta2 : ta < 19) (htb : 11 ≤ tb) (htb2 : tb < 19) (htab : ¬ ta = tb) (hto : 20 ≤ to) (hto2 : to ≤ 23) (hkk : k1 + k2 + 1 ≤ 1499) (ht1 : 11 ≤ t1 ∧ ¬ t1 = 19 ∧ ¬ t1 = ta ∧ ¬ t1 = tb ∧ ¬ t1 = to) (ht2 : 11 ≤ t2 ∧ ¬ t2 = 19 ∧ ¬ t2 = ta ∧ ¬ t2 = tb ∧ ¬ t2 = to) : ¬ (t2 < 5 ∨ t2 = 19) := by omega
theorem sc_57 {ta tb to k1 k2 t1 t2 : Nat} (hta : 11 ≤ ta) (hta2 : ta < 19) (htb : 11 ≤ tb) (htb2 : tb < 19) (htab : ¬ ta = tb) (hto : 20 ≤ to) (hto2 : to ≤ 23) (hkk : k1 + k2 + 1 ≤ 1499) (ht1 : 11 ≤ t1 ∧ ¬ t1 = 19 ∧ ¬ t1 = ta ∧ ¬ t1 = tb ∧ ¬ t1 = to) (ht2 : 11 ≤ t2 ∧ ¬ t2 = 19 ∧ ¬ t2 = ta ∧ ¬ t2 = tb ∧ ¬ t2 = to) : ∀ x, (11 ≤ x ∧ ¬ x = 19 ∧ ¬ x = ta ∧ ¬ x = tb ∧ ¬ x = to) → ¬ (x < 5 ∨ x = 19) := by intro x h; omega
theorem sc_58 {ta tb to k1 k2 t1 t2 : Nat} (hta : 11 ≤ ta) (hta2 : ta < 19) (htb : 11 ≤ tb) (htb2 : tb < 19) (htab : ¬ ta = tb) (hto : 20 ≤ to) (hto2 : to ≤ 23) (hkk : k1 + k2 + 1 ≤ 1499) (ht1 : 11 ≤ t1 ∧ ¬ t1 = 19 ∧ ¬ t1 = ta ∧ ¬ t1 = tb ∧ ¬ t1 = to) (ht2 : 11 ≤ t2 ∧ ¬ t2 = 19 ∧ ¬ t2 = ta ∧ ¬ t2 = tb ∧ ¬ t2 = to) : ∀ x, (x < 11 ∨ x = 19 ∨ x = ta ∨ x = tb ∨ x = to) ∨ (x < 5 ∨ x = 19) → (x < 11 ∨ x = 19 ∨ x = ta ∨ x = tb ∨ x = to) := by intro x h; omega
theorem sc_59 {ta tb to k1 k2 t1 t2 : Nat} (hta : 11 ≤ ta) (hta2 : ta < 19) (htb : 11 ≤ tb) (htb2 : tb < 19) (htab : ¬ ta = tb) (hto : 20 ≤ to) (hto2 : to ≤ 23) (hkk : k1 + k2 + 1 ≤ 1499) (ht1 : 11 ≤ t1 ∧ ¬ t1 = 19 ∧ ¬ t1 = ta ∧ ¬ t1 = tb ∧ ¬ t1 = to) (ht2 : 11 ≤ t2 ∧ ¬ t2 = 19 ∧ ¬ t2 = ta ∧ ¬ t2 = tb ∧ ¬ t2 = to) : k1 + k2 ≤ 1500 := by omega
theorem sc_60 {ta tb to k1 k2 t1 t2 : Nat} (hta : 11 ≤ ta) (hta2 : ta < 19) (htb : 11 ≤ tb) (htb2 : tb < 19) (htab : ¬ ta = tb) (hto : 20 ≤ to) (hto2 : to ≤ 23) (hkk : k1 + k2 + 1 ≤ 1499) (ht1 : 11 ≤ t1 ∧ ¬ t1 = 19 ∧ ¬ t1 = ta ∧ ¬ t1 = tb ∧ ¬ t1 = to) (ht2 : 11 ≤ t2 ∧ ¬ t2 = 19 ∧ ¬ t2 = ta ∧ ¬ t2 = tb ∧ ¬ t2 = to) : ¬ (to = 5) := by omega
theorem sc_61 {ta tb to k1 k2 t1 t2 : Nat} (hta : 11 ≤ ta) (hta2 : ta < 19) (htb : 11 ≤ tb) (htb2 : tb < 19) (htab : ¬ ta = tb) (hto : 20 ≤ to) (hto2 : to ≤ 23) (hkk : k1 + k2 + 1 ≤ 1499) (ht1 : 11 ≤ t1 ∧ ¬ t1 = 19 ∧ ¬ t1 = ta ∧ ¬ t1 = tb ∧ ¬ t1 = to) (ht2 : 11 ≤ t2 ∧ ¬ t2 = 19 ∧ ¬ t2 = ta ∧ ¬ t2 = tb ∧ ¬ t2 = to) : ¬ (t1 = 5) := by omega
theorem sc_62 {ta tb to k1 k2 t1 t2 : Nat} (hta : 11 ≤ ta) (hta2 : ta < 19) (htb : 11 ≤ tb) (htb2 : tb < 19) (htab : ¬ ta = tb) (hto : 20 ≤ to) (hto2 : to ≤ 23) (hkk : k1 + k2 + 1 ≤ 1499) (ht1 : 11 ≤ t1 ∧ ¬ t1 = 19 ∧ ¬ t1 = ta ∧ ¬ t1 = tb ∧ ¬ t1 = to) (ht2 : 11 ≤ t2 ∧ ¬ t2 = 19 ∧ ¬ t2 = ta ∧ ¬ t2 = tb ∧ ¬ t2 = to) : ¬ (t2 = 5) := by omega
theorem sc_63 {ta tb to k1 k2 t1 t2 : Nat} (hta : 11 ≤ ta) (hta2 : ta < 19) (htb : 11 ≤ tb) (htb2 : tb < 19) (htab : ¬ ta = tb) (hto : 20 ≤ to) (hto2 : to ≤ 23) (hkk : k1 + k2 + 1 ≤ 1499) (ht1 : 11 ≤ t1 ∧ ¬ t1 = 19 ∧ ¬ t1 = ta ∧ ¬ t1 = tb ∧ ¬ t1 = to) (ht2 : 11 ≤ t2 ∧ ¬ t2 = 19 ∧ ¬ t2 = ta ∧ ¬ t2 = tb ∧ ¬ t2 = to) : ∀ x, (11 ≤ x ∧ ¬ x = 19 ∧ ¬ x = ta ∧ ¬ x = tb ∧ ¬ x = to) → ¬ (x = 5) := by intro x h; omega
theorem sc_64 {ta tb to k1 k2 t1 t2 : Nat} (hta : 11 ≤ ta) (hta2 : ta < 19) (htb : 11 ≤ tb) (htb2 : tb < 19) (htab : ¬ ta = tb) (hto : 20 ≤ to) (hto2 : to ≤ 23) (hkk : k1 + k2 + 1 ≤ 1499) (ht1 : 11 ≤ t1 ∧ ¬ t1 = 19 ∧ ¬ t1 = ta ∧ ¬ t1 = tb ∧ ¬ t1 = to) (ht2 : 11 ≤ t2 ∧ ¬ t2 = 19 ∧ ¬ t2 = ta ∧ ¬ t2 = tb ∧ ¬ t2 = to) : ∀ x, (x < 11 ∨ x = 19 ∨ x = ta ∨ x = tb ∨ x = to) ∨ (x = 5) → (x < 11 ∨ x = 19 ∨ x = ta ∨ x = tb ∨ x = to) := by intro x h; omega
theorem sc_65 {ta tb to k1 k2 t1 t2 : Nat} (hta : 11 ≤ ta) (hta2 : ta < 19) (htb : 11 ≤ tb) (htb2 : tb < 19) (htab : ¬ ta = tb) (hto : 20 ≤ to) (hto2 : to ≤ 23) (hkk : k1 + k2 + 1 ≤ 1499) (ht1 : 11 ≤ t1 ∧ ¬ t1 = 19 ∧ ¬ t1 = ta ∧ ¬ t1 = tb ∧ ¬ t1 = to) (ht2 : 11 ≤ t2 ∧ ¬ t2 = 19 ∧ ¬ t2 = ta ∧ ¬ t2 = tb ∧ ¬ t2 = to) : ∀ x, (11 ≤ x ∧ ¬ x = 19 ∧ ¬ x = ta ∧ ¬ x = tb ∧ ¬ x = to) → (3 ≤ x) := by intro x h; omega
theorem sc_66 {ta tb to k1 k2 t1 t2 : Nat} (hta : 11 ≤ ta) (hta2 : ta < 19) (htb : 11 ≤ tb) (htb2 : tb < 19) (htab : ¬ ta = tb) (hto : 20 ≤ to) (hto2 : to ≤ 23) (hkk : k1 + k2 + 1 ≤ 1499) (ht1 : 11 ≤ t1 ∧ ¬ t1 = 19 ∧ ¬ t1 = ta ∧ ¬ t1 = tb ∧ ¬ t1 = to) (ht2 : 11 ≤ t2 ∧ ¬ t2 = 19 ∧ ¬ t2 = ta ∧ ¬ t2 = tb ∧ ¬ t2 = to) : k1 ≤ 1499 := by omega
theorem sc_67 {ta tb to k1 k2 t1 t2 : Nat} (hta : 11 ≤ ta) (hta2 : ta < 19) (htb : 11 ≤ tb) (htb2 : tb < 19) (htab : ¬ ta = tb) (hto : 20 ≤ to) (hto2 : to ≤ 23) (hkk : k1 + k2 + 1 ≤ 1499) (ht1 : 11 ≤ t1 ∧ ¬ t1 = 19 ∧ ¬ t1 = ta ∧ ¬ t1 = tb ∧ ¬ t1 = to) (ht2 : 11 ≤ t2 ∧ ¬ t2 = 19 ∧ ¬ t2 = ta ∧ ¬ t2 = tb ∧ ¬ t2 = to) : ¬ (to < 3 ∨ to = 7) := by omega
theorem sc_68 {ta tb to k1 k2 t1 t2 : Nat} (hta : 11 ≤ ta) (hta2 : ta < 19) (htb : 11 ≤ tb) (htb2 : tb < 19) (htab : ¬ ta = tb) (hto : 20 ≤ to) (hto2 : to ≤ 23) (hkk : k1 + k2 + 1 ≤ 1499) (ht1 : 11 ≤ t1 ∧ ¬ t1 = 19 ∧ ¬ t1 = ta ∧ ¬ t1 = tb ∧ ¬ t1 = to) (ht2 : 11 ≤ t2 ∧ ¬ t2 = 19 ∧ ¬ t2 = ta ∧ ¬ t2 = tb ∧ ¬ t2 = to) : ¬ (t1 < 3 ∨ t1 = 7) := by omega
theorem sc_69 {ta tb to k1 k2 t1 t2 : Nat} (hta : 11 ≤ ta) (hta2 : ta < 19) (htb : 11 ≤ tb) (htb2 : tb < 19) (htab : ¬ ta = tb) (hto : 20 ≤ to) (hto2 : to ≤ 23) (hkk : k1 + k2 + 1 ≤ 1499) (ht1 : 11 ≤ t1 ∧ ¬ t1 = 19 ∧ ¬ t1 = ta ∧ ¬ t1 = tb ∧ ¬ t1 = to) (ht2 : 11 ≤ t2 ∧ ¬ t2 = 19 ∧ ¬ t2 = ta ∧ ¬ t2 = tb ∧ ¬ t2 = to) : ¬ (t2 < 3 ∨ t2 = 7) := by omega
theorem sc_70 {ta tb to k1 k2 t1 t2 : Nat} (hta : 11 ≤ ta) (hta2 : ta < 19) (htb : 11 ≤ tb) (htb2 : tb < 19) (htab : ¬ ta = tb) (hto : 20 ≤ to) (hto2 : to ≤ 23) (hkk : k1 + k2 + 1 ≤ 1499) (ht1 : 11 ≤ t1 ∧ ¬ t1 = 19 ∧ ¬ t1 = ta ∧ ¬ t1 = tb ∧ ¬ t1 = to) (ht2 : 11 ≤ t2 ∧ ¬ t2 = 19 ∧ ¬ t2 = ta ∧ ¬ t2 = tb ∧ ¬ t2 = to) : ∀ x, (11 ≤ x ∧ ¬ x = 19 ∧ ¬ x = ta ∧ ¬ x = tb ∧ ¬ x = to) → ¬ (x < 3 ∨ x = 7) := by intro x h; omega
theorem sc_71 {ta tb to k1 k2 t1 t2 : Nat} (hta : 11 ≤ ta) (hta2 : ta < 19) (htb : 11 ≤ tb) (htb2 : tb < 19) (htab : ¬ ta = tb) (hto : 20 ≤ to) (hto2 : to ≤ 23) (hkk : k1 + k2 + 1 ≤ 1499) (ht1 : 11 ≤ t1 ∧ ¬ t1 = 19 ∧ ¬ t1 = ta ∧ ¬ t1 = tb ∧ ¬ t1 = to) (ht2 : 11 ≤ t2 ∧ ¬ t2 = 19 ∧ ¬ t2 = ta ∧ ¬ t2 = tb ∧ ¬ t2 = to) : ∀ x, (x < 11 ∨ x = 19 ∨ x = ta ∨ x = tb ∨ x = to) ∨ (x < 3 ∨ x = 7) → (x < 11 ∨ x = 19 ∨ x = ta ∨ x = tb ∨ x = to) := by intro x h; omega
theorem sc_72 {ta tb to k1 k2 t1 t2 : Nat} (hta : 11 ≤ ta) (hta2 : ta < 19) (htb : 11 ≤ tb) (htb2 : tb < 19) (htab : ¬ ta = tb) (hto : 20 ≤ to) (hto2 : to ≤ 23) (hkk : k1 + k2 + 1 ≤ 1499) (ht1 : 11 ≤ t1 ∧ ¬ t1 = 19 ∧ ¬ t1 = ta ∧ ¬ t1 = tb ∧ ¬ t1 = to) (ht2 : 11 ≤ t2 ∧ ¬ t2 = 19 ∧ ¬ t2 = ta ∧ ¬ t2 = tb ∧ ¬ t2 = to) : k2 ≤ 1499 := by omega
theorem sc_73 {ta tb to k1 k2 t1 t2 : Nat} (hta : 11 ≤ ta) (hta2 : ta < 19) (htb : 11 ≤ tb) (htb2 : tb < 19) (htab : ¬ ta = tb) (hto : 20 ≤ to) (hto2 : to ≤ 23) (hkk : k1 + k2 + 1 ≤ 1499) (ht1 : 11 ≤ t1 ∧ ¬ t1 = 19 ∧ ¬ t1 = ta ∧ ¬ t1 = tb ∧ ¬ t1 = to) (ht2 : 11 ≤ t2 ∧ ¬ t2 = 19 ∧ ¬ t2 = ta ∧ ¬ t2 = tb ∧ ¬ t2 = to) : ¬ (to < 3 ∨ to = 9) := by omega
theorem sc_74 {ta tb to k1 k2 t1 t2 : Nat} (hta : 11 ≤ ta) (hta2 : ta < 19) (htb : 11 ≤ tb) (htb2 : tb < 19) (htab : ¬ ta = tb) (hto : 20 ≤ to) (hto2 : to ≤ 23) (hkk : k1 + k2 + 1 ≤ 1499) (ht1 : 11 ≤ t1 ∧ ¬ t1 = 19 ∧ ¬ t1 = ta ∧ ¬ t1 = tb ∧ ¬ t1 = to) (ht2 : 11 ≤ t2 ∧ ¬ t2 = 19 ∧ ¬ t2 = ta ∧ ¬ t2 = tb ∧ ¬ t2 = to) : ¬ (t1 < 3 ∨ t1 = 9) := by omega
theorem sc_75 {ta tb to k1 k2 t1 t2 : Nat} (hta : 11 ≤ ta) (hta2 : ta < 19) (htb : 11 ≤ tb) (htb2 : tb < 19) (htab : ¬ ta = tb) (hto : 20 ≤ to) (hto2 : to ≤ 23) (hkk : k1 + k2 + 1 ≤ 1499) (ht1 : 11 ≤ t1 ∧ ¬ t1 = 19 ∧ ¬ t1 = ta ∧ ¬ t1 = tb ∧ ¬ t1 = to) (ht2 : 11 ≤ t2 ∧ ¬ t2 = 19 ∧ ¬ t2 = ta ∧ ¬ t2 = tb ∧ ¬ t2 = to) : ¬ (t2 < 3 ∨ t2 = 9) := by omega
theorem sc_76 {ta tb to k1 k2 t1 t2 : Nat} (hta : 11 ≤ ta) (hta2 : ta < 19) (htb : 11 ≤ tb) (htb2 : tb < 19) (htab : ¬ ta = tb) (hto : 20 ≤ to) (hto2 : to ≤ 23) (hkk : k1 + k2 + 1 ≤ 1499) (ht1 : 11 ≤ t1 ∧ ¬ t1 = 19 ∧ ¬ t1 = ta ∧ ¬ t1 = tb ∧ ¬ t1 = to) (ht2 : 11 ≤ t2 ∧ ¬ t2 = 19 ∧ ¬ t2 = ta ∧ ¬ t2 = tb ∧ ¬ t2 = to) : ∀ x, (11 ≤ x ∧ ¬ x = 19 ∧ ¬ x = ta ∧ ¬ x = tb ∧ ¬ x = to) → ¬ (x < 3 ∨ x = 9) := by intro x h; omega
theorem sc_77 {ta tb to k1 k2 t1 t2 : Nat} (hta : 11 ≤ ta) (hta2 : ta < 19) (htb : 11 ≤ tb) (htb2 : tb < 19) (htab : ¬ ta = tb) (hto : 20 ≤ to) (hto2 : to ≤ 23) (hkk : k1 + k2 + 1 ≤ 1499) (ht1 : 11 ≤ t1 ∧ ¬ t1 = 19 ∧ ¬ t1 = ta ∧ ¬ t1 = tb ∧ ¬ t1 = to) (ht2 : 11 ≤ t2 ∧ ¬ t2 = 19 ∧ ¬ t2 = ta ∧ ¬ t2 = tb ∧ ¬ t2 = to) : ∀ x, (x < 11 ∨ x = 19 ∨ x = ta ∨ x = tb ∨ x = to) ∨ (x < 3 ∨ x = 9) → (x < 11 ∨ x = 19 ∨ x = ta ∨ x = tb ∨ x = to) := by intro x h; omega
theorem sc_78 {ta tb to k1 k2 t1 t2 : Nat} (hta : 11 ≤ ta) (hta2 : ta < 19) (htb : 11 ≤ tb) (htb2 : tb < 19) (htab : ¬ ta = tb) (hto : 20 ≤ to) (hto2 : to ≤ 23) (hkk : k1 + k2 + 1 ≤ 1499) (ht1 : 11 ≤ t1 ∧ ¬ t1 = 19 ∧ ¬ t1 = ta ∧ ¬ t1 = tb ∧ ¬ t1 = to) (ht2 : 11 ≤ t2 ∧ ¬ t2 = 19 ∧ ¬ t2 = ta ∧ ¬ t2 = tb ∧ ¬ t2 = to) : ∀ x, (11 ≤ x ∧ ¬ x = 19 ∧ ¬ x = ta ∧ ¬ x = tb ∧ ¬ x = to) → (¬ x = 6) := by intro x h; omega
theorem sc_79 {ta tb to k1 k2 t1 t2 : Nat} (hta : 11 ≤ ta) (hta2 : ta < 19) (htb : 11 ≤ tb) (htb2 : tb < 19) (htab : ¬ ta = tb) (hto : 20 ≤ to) (hto2 : to ≤ 23) (hkk : k1 + k2 + 1 ≤ 1499) (ht1 : 11 ≤ t1 ∧ ¬ t1 = 19 ∧ ¬ t1 = ta ∧ ¬ t1 = tb ∧ ¬ t1 = to) (ht2 : 11 ≤ t2 ∧ ¬ t2 = 19 ∧ ¬ t2 = ta ∧ ¬ t2 = tb ∧ ¬ t2 = to) : ¬ (to = 6) := by omega
theorem sc_80 {ta tb to k1 k2 t1 t2 : Nat} (hta : 11 ≤ ta) (hta2 : ta < 19) (htb : 11 ≤ tb) (htb2 : tb < 19) (htab : ¬ ta = tb) (hto : 20 ≤ to) (hto2 : to ≤ 23) (hkk : k1 + k2 + 1 ≤ 1499) (ht1 : 11 ≤ t1 ∧ ¬ t1 = 19 ∧ ¬ t1 = ta ∧ ¬ t1 = tb ∧ ¬ t1 = to) (ht2 : 11 ≤ t2 ∧ ¬ t2 = 19 ∧ ¬ t2 = ta ∧ ¬ t2 = tb ∧ ¬ t2 = to) : ¬ (t1 = 6) := by omega
theorem sc_81 {ta tb to k1 k2 t1 t2 : Nat} (hta : 11 ≤ ta) (hta2 : ta < 19) (htb : 11 ≤ tb) (htb2 : tb < 19) (htab : ¬ ta = tb) (hto : 20 ≤ to) (hto2 : to ≤ 23) (hkk : k1 + k2 + 1 ≤ 1499) (ht1 : 11 ≤ t1 ∧ ¬ t1 = 19 ∧ ¬ t1 = ta ∧ ¬ t1 = tb ∧ ¬ t1 = to) (ht2 : 11 ≤ t2 ∧ ¬ t2 = 19 ∧ ¬ t2 = ta ∧ ¬ t2 = tb ∧ ¬ t2 = to) : ¬ (t2 = 6) := by omega
theorem sc_82 {ta tb to k1 k2 t1 t2 : Nat} (hta : 11 ≤ ta) (hta2 : ta < 19) (htb : 11 ≤ tb) (htb2 : tb < 19) (htab : ¬ ta = tb) (hto : 20 ≤ to) (hto2 : to ≤ 23) (hkk : k1 + k2 + 1 ≤ 1499) (ht1 : 11 ≤ t1 ∧ ¬ t1 = 19 ∧ ¬ t1 = ta ∧ ¬ t1 = tb ∧ ¬ t1 = to) (ht2 : 11 ≤ t2 ∧ ¬ t2 = 19 ∧ ¬ t2 = ta ∧ ¬ t2 = tb ∧ ¬ t2 = to) : ∀ x, (11 ≤ x ∧ ¬ x = 19 ∧ ¬ x = ta ∧ ¬ x = tb ∧ ¬ x = to) → ¬ (x = 6) := by intro x h; omega
theorem sc_83 {ta tb to k1 k2 t1 t2 : Nat} (hta : 11 ≤ ta) (hta2 : ta < 19) (htb : 11 ≤ tb) (htb2 : tb < 19) (htab : ¬ ta = tb) (hto : 20 ≤ to) (hto2 : to ≤ 23) (hkk : k1 + k2 + 1 ≤ 1499) (ht1 : 11 ≤ t1 ∧ ¬ t1 = 19 ∧ ¬ t1 = ta ∧ ¬ t1 = tb ∧ ¬ t1 = to) (ht2 : 11 ≤ t2 ∧ ¬ t2 = 19 ∧ ¬ t2 = ta ∧ ¬ t2 = tb ∧ ¬ t2 = to) : ∀ x, (x < 11 ∨ x = 19 ∨ x = ta ∨ x = tb ∨ x = to) ∨ (x = 6) → (x < 11 ∨ x = 19 ∨ x = ta ∨ x = tb ∨ x = to) := by intro x h; omega
theorem sc_84 {ta tb to k1 k2 t1 t2 : Nat} (hta : 11 ≤ ta) (hta2 : ta < 19) (htb : 11 ≤ tb) (htb2 : tb < 19) (htab : ¬ ta = tb) (hto : 20 ≤ to) (hto2 : to ≤ 23) (hkk : k1 + k2 + 1 ≤ 1499) (ht1 : 11 ≤ t1 ∧ ¬ t1 = 19 ∧ ¬ t1 = ta ∧ ¬ t1 = tb ∧ ¬ t1 = to) (ht2 : 11 ≤ t2 ∧ ¬ t2 = 19 ∧ ¬ t2 = ta ∧ ¬ t2 = tb ∧ ¬ t2 = to) : ∀ x, (11 ≤ x ∧ ¬ x = 19 ∧ ¬ x = ta ∧ ¬ x = tb ∧ ¬ x = to) → (¬ x = 8) := by intro x h; omega
theorem sc_85 {ta tb to k1 k2 t1 t2 : Nat} (hta : 11 ≤ ta) (hta2 : ta < 19) (htb : 11 ≤ tb) (htb2 : tb < 19) (htab : ¬ ta = tb) (hto : 20 ≤ to) (hto2 : to ≤ 23) (hkk : k1 + k2 + 1 ≤ 1499) (ht1 : 11 ≤ t1 ∧ ¬ t1 = 19 ∧ ¬ t1 = ta ∧ ¬ t1 = tb ∧ ¬ t1 = to) (ht2 : 11 ≤ t2 ∧ ¬ t2 = 19 ∧ ¬ t2 = ta ∧ ¬ t2 = tb ∧ ¬ t2 = to) : k2 + k1 ≤ 1500 := by omega
theorem sc_86 {ta tb to k1 k2 t1 t2 : Nat} (hta : 11 ≤ ta) (hta2 : ta < 19) (htb : 11 ≤ tb) (htb2 : tb < 19) (htab : ¬ ta = tb) (hto : 20 ≤ to) (hto2 : to ≤ 23) (hkk : k1 + k2 + 1 ≤ 1499) (ht1 : 11 ≤ t1 ∧ ¬ t1 = 19 ∧ ¬ t1 = ta ∧ ¬ t1 = tb ∧ ¬ t1 = to) (ht2 : 11 ≤ t2 ∧ ¬ t2 = 19 ∧ ¬ t2 = ta ∧ ¬ t2 = tb ∧ ¬ t2 = to) : ¬ (to = 8) := by omega
theorem sc_87 {ta tb to k1 k2 t1 t2 : Nat} (hta : 11 ≤ ta) (hta2 : ta < 19) (htb : 11 ≤ tb) (htb2 : tb < 19) (htab : ¬ ta = tb) (hto : 20 ≤ to) (hto2 : to ≤ 23) (hkk : k1 + k2 + 1 ≤ 1499) (ht1 : 11 ≤ t1 ∧ ¬ t1 = 19 ∧ ¬ t1 = ta ∧ ¬ t1 = tb ∧ ¬ t1 = to) (ht2 : 11 ≤ t2 ∧ ¬ t2 = 19 ∧ ¬ t2 = ta ∧ ¬ t2 = tb ∧ ¬ t2 = to) : ¬ (t1 = 8) := by omega
theorem sc_88 {ta tb to k1 k2 t1 t2 : Nat} (hta : 11 ≤ ta) (hta2 : ta < 19) (htb : 11 ≤ tb) (htb2 : tb < 19) (htab : ¬ ta = tb) (hto : 20 ≤ to) (hto2 : to ≤ 23) (hkk : k1 + k2 + 1 ≤ 1499) (ht1 : 11 ≤ t1 ∧ ¬ t1 = 19 ∧ ¬ t1 = ta ∧ ¬ t1 = tb ∧ ¬ t1 = to) (ht2 : 11 ≤ t2 ∧ ¬ t2 = 19 ∧ ¬ t2 = ta ∧ ¬ t2 = tb ∧ ¬ t2 = to) : ¬ (t2 = 8) := by omega
theorem sc_89 {ta tb to k1 k2 t1 t2 : Nat} (hta : 11 ≤ ta) (hta2 : ta < 19) (htb : 11 ≤ tb) (htb2 : tb < 19) (htab : ¬ ta = tb) (hto : 20 ≤ to) (hto2 : to ≤ 23) (hkk : k1 + k2 + 1 ≤ 1499) (ht1 : 11 ≤ t1 ∧ ¬ t1 = 19 ∧ ¬ t1 = ta ∧ ¬ t1 = tb ∧ ¬ t1 = to) (ht2 : 11 ≤ t2 ∧ ¬ t2 = 19 ∧ ¬ t2 = ta ∧ ¬ t2 = tb ∧ ¬ t2 = to) : ∀ x, (11 ≤ x ∧ ¬ x = 19 ∧ ¬ x = ta ∧ ¬ x = tb ∧ ¬ x = to) → ¬ (x = 8) := by intro x h; omega
theorem sc_90 {ta tb to k1 k2 t1 t2 : Nat} (hta : 11 ≤ ta) (hta2 : ta < 19) (htb : 11 ≤ tb) (htb2 : tb < 19) (htab : ¬ ta = tb) (hto : 20 ≤ to) (hto2 : to ≤ 23) (hkk : k1 + k2 + 1 ≤ 1499) (ht1 : 11 ≤ t1 ∧ ¬ t1 = 19 ∧ ¬ t1 = ta ∧ ¬ t1 = tb ∧ ¬ t1 = to) (ht2 : 11 ≤ t2 ∧ ¬ t2 = 19 ∧ ¬ t2 = ta ∧ ¬ t2 = tb ∧ ¬ t2 = to) : ∀ x, (x < 11 ∨ x = 19 ∨ x = ta ∨ x = tb ∨ x = to) ∨ (x = 8) → (x < 11 ∨ x = 19 ∨ x = ta ∨ x = tb ∨ x = to) := by intro x h; omega
theorem sc_91 {ta tb to k1 k2 t1 t2 : Nat} (hta : 11 ≤ ta) (hta2 : ta < 19) (htb : 11 ≤ tb) (htb2 : tb < 19) (htab : ¬ ta = tb) (hto : 20 ≤ to) (hto2 : to ≤ 23) (hkk : k1 + k2 + 1 ≤ 1499) (ht1 : 11 ≤ t1 ∧ ¬ t1 = 19 ∧ ¬ t1 = ta ∧ ¬ t1 = tb ∧ ¬ t1 = to) (ht2 : 11 ≤ t2 ∧ ¬ t2 = 19 ∧ ¬ t2 = ta ∧ ¬ t2 = tb ∧ ¬ t2 = to) : k1 + k2 ≤ k1 + k2 := by omega
theorem sc_92 {ta tb to k1 k2 t1 t2 : Nat} (hta : 11 ≤ ta) (hta2 : ta < 19) (htb : 11 ≤ tb) (htb2 : tb < 19) (htab : ¬ ta = tb) (hto : 20 ≤ to) (hto2 : to ≤ 23) (hkk : k1 + k2 + 1 ≤ 1499) (ht1 : 11 ≤ t1 ∧ ¬ t1 = 19 ∧ ¬ t1 = ta ∧ ¬ t1 = tb ∧ ¬ t1 = to) (ht2 : 11 ≤ t2 ∧ ¬ t2 = 19 ∧ ¬ t2 = ta ∧ ¬ t2 = tb ∧ ¬ t2 = to) : k2 + k1 ≤ k1 + k2 := by omega
theorem sc_93 {ta tb to k1 k2 t1 t2 : Nat} (hta : 11 ≤ ta) (hta2 : ta < 19) (htb : 11 ≤ tb) (htb2 : tb < 19) (htab : ¬ ta = tb) (hto : 20 ≤ to) (hto2 : to ≤ 23) (hkk : k1 + k2 + 1 ≤ 1499) (ht1 : 11 ≤ t1 ∧ ¬ t1 = 19 ∧ ¬ t1 = ta ∧ ¬ t1 = tb ∧ ¬ t1 = to) (ht2 : 11 ≤ t2 ∧ ¬ t2 = 19 ∧ ¬ t2 = ta ∧ ¬ t2 = tb ∧ ¬ t2 = to) : k1 + k2 + 1 ≤ 1499 := by omega
theorem sc_94 {ta tb to k1 k2 t1 t2 : Nat} (hta : 11 ≤ ta) (hta2 : ta < 19) (htb : 11 ≤ tb) (htb2 : tb < 19) (htab : ¬ ta = tb) (hto : 20 ≤ to) (hto2 : to ≤ 23) (hkk : k1 + k2 + 1 ≤ 1499) (ht1 : 11 ≤ t1 ∧ ¬ t1 = 19 ∧ ¬ t1 = ta ∧ ¬ t1 = tb ∧ ¬ t1 = to) (ht2 : 11 ≤ t2 ∧ ¬ t2 = 19 ∧ ¬ t2 = ta ∧ ¬ t2 = tb ∧ ¬ t2 = to) : ¬ (to = 10) := by omega
theorem sc_95 {ta tb to k1 k2 t1 t2 : Nat} (hta : 11 ≤ ta) (hta2 : ta < 19) (htb : 11 ≤ tb) (htb2 : tb < 19) (htab : ¬ ta = tb) (hto : 20 ≤ to) (hto2 : to ≤ 23) (hkk : k1 + k2 + 1 ≤ 1499) (ht1 : 11 ≤ t1 ∧ ¬ t1 = 19 ∧ ¬ t1 = ta ∧ ¬ t1 = tb ∧ ¬ t1 = to) (ht2 : 11 ≤ t2 ∧ ¬ t2 = 19 ∧ ¬ t2 = ta ∧ ¬ t2 = tb ∧ ¬ t2 = to) : ¬ (t1 = 10) := by omega
theorem sc_96 {ta tb to k1 k2 t1 t2 : Nat} (hta : 11 ≤ ta) (hta2 : ta < 19) (htb : 11 ≤ tb) (htb2 : tb < 19) (htab : ¬ ta = tb) (hto : 20 ≤ to) (hto2 : to ≤ 23) (hkk : k1 + k2 + 1 ≤ 1499) (ht1 : 11 ≤ t1 ∧ ¬ t1 = 19 ∧ ¬ t1 = ta ∧ ¬ t1 = tb ∧ ¬ t1 = to) (ht2 : 11 ≤ t2 ∧ ¬ t2 = 19 ∧ ¬ t2 = ta ∧ ¬ t2 = tb ∧ ¬ t2 = to) : ¬ (t2 = 10) := by omega
theorem sc_97 {ta tb to k1 k2 t1 t2 : Nat} (hta : 11 ≤ ta) (hta2 : ta < 19) (htb : 11 ≤ tb) (htb2 : tb < 19) (htab : ¬ ta = tb) (hto : 20 ≤ to) (hto2 : to ≤ 23) (hkk : k1 + k2 + 1 ≤ 1499) (ht1 : 11 ≤ t1 ∧ ¬ t1 = 19 ∧ ¬ t1 = ta ∧ ¬ t1 = tb ∧ ¬ t1 = to) (ht2 : 11 ≤ t2 ∧ ¬ t2 = 19 ∧ ¬ t2 = ta ∧ ¬ t2 = tb ∧ ¬ t2 = to) : ∀ x, (11 ≤ x ∧ ¬ x = 19 ∧ ¬ x = ta ∧ ¬ x = tb ∧ ¬ x = to) → ¬ (x = 10) := by intro x h; omega
theorem sc_98 {ta tb to k1 k2 t1 t2 : Nat} (hta : 11 ≤ ta) (hta2 : ta < 19) (htb : 11 ≤ tb) (htb2 : tb < 19) (htab : ¬ ta = tb) (hto : 20 ≤ to) (hto2 : to ≤ 23) (hkk : k1 + k2 + 1 ≤ 1499) (ht1 : 11 ≤ t1 ∧ ¬ t1 = 19 ∧ ¬ t1 = ta ∧ ¬ t1 = tb ∧ ¬ t1 = to) (ht2 : 11 ≤ t2 ∧ ¬ t2 = 19 ∧ ¬ t2 = ta ∧ ¬ t2 = tb ∧ ¬ t2 = to) : ∀ x, (x < 11 ∨ x = 19 ∨ x = ta ∨ x = tb ∨ x = to) ∨ (x = 10) → (x < 11 ∨ x = 19 ∨ x = ta ∨ x = tb ∨ x = to) := by intro x h; omega
theorem sc_99 {ta tb to k1 k2 t1 t2 : Nat} (hta : 11 ≤ ta) (hta2 : ta < 19) (htb : 11 ≤ tb) (htb2 : tb < 19) (htab : ¬ ta = tb) (hto : 20 ≤ to) (hto2 : to ≤ 23) (hkk : k1 + k2 + 1 ≤ 1499) (ht1 : 11 ≤ t1 ∧ ¬ t1 = 19 ∧ ¬ t1 = ta ∧ ¬ t1 = tb ∧ ¬ t1 = to) (ht2 : 11 ≤ t2 ∧ ¬ t2 = 19 ∧ ¬ t2 = ta ∧ ¬ t2 = tb ∧ ¬ t2 = to) : ∀ x, x < 19 → ¬ x = to := by intro x h; omega
theorem sc_100 {ta tb to k1 k2 t1 t2 : Nat} (hta : 11 ≤ ta) (hta2 : ta < 19) (htb : 11 ≤ tb) (htb2 : tb < 19) (htab : ¬ ta = tb) (hto : 20 ≤ to) (hto2 : to ≤ 23) (hkk : k1 + k2 + 1 ≤ 1499) (ht1 : 11 ≤ t1 ∧ ¬ t1 = 19 ∧ ¬ t1 = ta ∧ ¬ t1 = tb ∧ ¬ t1 = to) (ht2 : 11 ≤ t2 ∧ ¬ t2 = 19 ∧ ¬ t2 = ta ∧ ¬ t2 = tb ∧ ¬ t2 = to) : ¬ (30 = to) := by omega
theorem sc_101 {ta tb to k1 k2 t1 t2 : Nat} (hta : 11 ≤ ta) (hta2 : ta < 19) (htb : 11 ≤ tb) (htb2 : tb < 19) (htab : ¬ ta = tb) (hto : 20 ≤ to) (hto2 : to ≤ 23) (hkk : k1 + k2 + 1 ≤ 1499) (ht1 : 11 ≤ t1 ∧ ¬ t1 = 19 ∧ ¬ t1 = ta ∧ ¬ t1 = tb ∧ ¬ t1 = to) (ht2 : 11 ≤ t2 ∧ ¬ t2 = 19 ∧ ¬ t2 = ta ∧ ¬ t2 = tb ∧ ¬ t2 = to) : ¬ (t1 = to) := by omega
theorem sc_102 {ta tb to k1 k2 t1 t2 : Nat} (hta : 11 ≤ ta) (hta2 : ta < 19) (htb : 11 ≤ tb) (htb2 : tb < 19) (htab : ¬ ta = tb) (hto : 20 ≤ to) (hto2 : to ≤ 23) (hkk : k1 + k2 + 1 ≤ 1499) (ht1 : 11 ≤ t1 ∧ ¬ t1 = 19 ∧ ¬ t1 = ta ∧ ¬ t1 = tb ∧ ¬ t1 = to) (ht2 : 11 ≤ t2 ∧ ¬ t2 = 19 ∧ ¬ t2 = ta ∧ ¬ t2 = tb ∧ ¬ t2 = to) : ¬ (t2 = to) := by omega
theorem sc_103 {ta tb to k1 k2 t1 t2 : Nat} (hta : 11 ≤ ta) (hta2 : ta < 19) (htb : 11 ≤ tb) (htb2 : tb < 19) (htab : ¬ ta = tb) (hto : 20 ≤ to) (hto2 : to ≤ 23) (hkk : k1 + k2 + 1 ≤ 1499) (ht1 : 11 ≤ t1 ∧ ¬ t1 = 19 ∧ ¬ t1 = ta ∧ ¬ t1 = tb ∧ ¬ t1 = to) (ht2 : 11 ≤ t2 ∧ ¬ t2 = 19 ∧ ¬ t2 = ta ∧ ¬ t2 = tb ∧ ¬ t2 = to) : ¬ (19 = to) := by omega
theorem sc_104 {ta tb to k1 k2 t1 t2 : Nat} (hta : 11 ≤ ta) (hta2 : ta < 19) (htb : 11 ≤ tb) (htb2 : tb < 19) (htab : ¬ ta = tb) (hto : 20 ≤ to) (hto2 : to ≤ 23) (hkk : k1 + k2 + 1 ≤ 1499) (ht1 : 11 ≤ t1 ∧ ¬ t1 = 19 ∧ ¬ t1 = ta ∧ ¬ t1 = tb ∧ ¬ t1 = to) (ht2 : 11 ≤ t2 ∧ ¬ t2 = 19 ∧ ¬ t2 = ta ∧ ¬ t2 = tb ∧ ¬ t2 = to) : ¬ (3 = to) := by omega
theorem sc_105 {ta tb to k1 k2 t1 t2 : Nat} (hta : 11 ≤ ta) (hta2 : ta < 19) (htb : 11 ≤ tb) (htb2 : tb < 19) (htab : ¬ ta = tb) (hto : 20 ≤ to) (hto2 : to ≤ 23) (hkk : k1 + k2 + 1 ≤ 1499) (ht1 : 11 ≤ t1 ∧ ¬ t1 = 19 ∧ ¬ t1 = ta ∧ ¬ t1 = tb ∧ ¬ t1 = to) (ht2 : 11 ≤ t2 ∧ ¬ t2 = 19 ∧ ¬ t2 = ta ∧ ¬ t2 = tb ∧ ¬ t2 = to) : ¬ (5 = to) := by omega
theorem sc_106 {ta tb to k1 k2 t1 t2 : Nat} (hta : 11 ≤ ta) (hta2 : ta < 19) (htb : 11 ≤ tb) (htb2 : tb < 19) (htab : ¬ ta = tb) (hto : 20 ≤ to) (hto2 : to ≤ 23) (hkk : k1 + k2 + 1 ≤ 1499) (ht1 : 11 ≤ t1 ∧ ¬ t1 = 19 ∧ ¬ t1 = ta ∧ ¬ t1 = tb ∧ ¬ t1 = to) (ht2 : 11 ≤ t2 ∧ ¬ t2 = 19 ∧ ¬ t2 = ta ∧ ¬ t2 = tb ∧ ¬ t2 = to) : ¬ (7 = to) := by omega
theorem sc_107 {ta tb to k1 k2 t1 t2 : Nat} (hta : 11 ≤ ta) (hta2 : ta < 19) (htb : 11 ≤ tb) (htb2 : tb < 19) (htab : ¬ ta = tb) (hto : 20 ≤ to) (hto2 : to ≤ 23) (hkk : k1 + k2 + 1 ≤ 1499) (ht1 : 11 ≤ t1 ∧ ¬ t1 = 19 ∧ ¬ t1 = ta ∧ ¬ t1 = tb ∧ ¬ t1 = to) (ht2 : 11 ≤ t2 ∧ ¬ t2 = 19 ∧ ¬ t2 = ta ∧ ¬ t2 = tb ∧ ¬ t2 = to) : ¬ (9 = to) := by omega
theorem sc_108 {ta tb to k1 k2 t1 t2 : Nat} (hta : 11 ≤ ta) (hta2 : ta < 19) (htb : 11 ≤ tb) (htb2 : tb < 19) (htab : ¬ ta = tb) (hto : 20 ≤ to) (hto2 : to ≤ 23) (hkk : k1 + k2 + 1 ≤ 1499) (ht1 : 11 ≤ t1 ∧ ¬ t1 = 19 ∧ ¬ t1 = ta ∧ ¬ t1 = tb ∧ ¬ t1 = to) (ht2 : 11 ≤ t2 ∧ ¬ t2 = 19 ∧ ¬ t2 = ta ∧ ¬ t2 = tb ∧ ¬ t2 = to) : ¬ (6 = to) := by omega
theorem sc_109 {ta tb to k1 k2 t1 t2 : Nat} (hta : 11 ≤ ta) (hta2 : ta < 19) (htb : 11 ≤ tb) (htb2 : tb < 19) (htab : ¬ ta = tb) (hto : 20 ≤ to) (hto2 : to ≤ 23) (hkk : k1 + k2 + 1 ≤ 1499) (ht1 : 11 ≤ t1 ∧ ¬ t1 = 19 ∧ ¬ t1 = ta ∧ ¬ t1 = tb ∧ ¬ t1 = to) (ht2 : 11 ≤ t2 ∧ ¬ t2 = 19 ∧ ¬ t2 = ta ∧ ¬ t2 = tb ∧ ¬ t2 = to) : ¬ (8 = to) := by omega
theorem sc_110 {ta tb to k1 k2 t1 t2 : Nat} (hta : 11 ≤ ta) (hta2 : ta < 19) (htb : 11 ≤ tb) (htb2 : tb < 19) (htab : ¬ ta = tb) (hto : 20 ≤ to) (hto2 : to ≤ 23) (hkk : k1 + k2 + 1 ≤ 1499) (ht1 : 11 ≤ t1 ∧ ¬ t1 = 19 ∧ ¬ t1 = ta ∧ ¬ t1 = tb ∧ ¬ t1 = to) (ht2 : 11 ≤ t2 ∧ ¬ t2 = 19 ∧ ¬ t2 = ta ∧ ¬ t2 = tb ∧ ¬ t2 = to) : ¬ (10 = to) := by omega
theorem sc_111 {ta tb to k1 k2 t1 t2 : Nat} (hta : 11 ≤ ta) (hta2 : ta < 19) (htb : 11 ≤ tb) (htb2 : tb < 19) (htab : ¬ ta = tb) (hto : 20 ≤ to) (hto2 : to ≤ 23) (hkk : k1 + k2 + 1 ≤ 1499) (ht1 : 11 ≤ t1 ∧ ¬ t1 = 19 ∧ ¬ t1 = ta ∧ ¬ t1 = tb ∧ ¬ t1 = to) (ht2 : 11 ≤ t2 ∧ ¬ t2 = 19 ∧ ¬ t2 = ta ∧ ¬ t2 = tb ∧ ¬ t2 = to) : ∀ x, (11 ≤ x ∧ ¬ x = 19 ∧ ¬ x = ta ∧ ¬ x = tb ∧ ¬ x = to) → ¬ (x = to) := by intro x h; omega
theorem sc_112 {ta tb to k1 k2 t1 t2 : Nat} (hta : 11 ≤ ta) (hta2 : ta < 19) (htb : 11 ≤ tb) (htb2 : tb < 19) (htab : ¬ ta = tb) (hto : 20 ≤ to) (hto2 : to ≤ 23) (hkk : k1 + k2 + 1 ≤ 1499) (ht1 : 11 ≤ t1 ∧ ¬ t1 = 19 ∧ ¬ t1 = ta ∧ ¬ t1 = tb ∧ ¬ t1 = to) (ht2 : 11 ≤ t2 ∧ ¬ t2 = 19 ∧ ¬ t2 = ta ∧ ¬ t2 = tb ∧ ¬ t2 = to) : ∀ x, (x < 11 ∨ x = 19 ∨ x = ta ∨ x = tb ∨ x = to) ∨ (x = to) → (x < 11 ∨ x = 19 ∨ x = ta ∨ x = tb ∨ x = to) := by intro x h; omega
theorem sc_113 {ta tb to k1 k2 t1 t2 : Nat} (hta : 11 ≤ ta) (hta2 : ta < 19) (htb : 11 ≤ tb) (htb2 : tb < 19) (htab : ¬ ta = tb) (hto : 20 ≤ to) (hto2 : to ≤ 23) (hkk : k1 + k2 + 1 ≤ 1499) (ht1 : 11 ≤ t1 ∧ ¬ t1 = 19 ∧ ¬ t1 = ta ∧ ¬ t1 = tb ∧ ¬ t1 = to) (ht2 : 11 ≤ t2 ∧ ¬ t2 = 19 ∧ ¬ t2 = ta ∧ ¬ t2 = tb ∧ ¬ t2 = to) : k1 + k2 + 1 ≤ k1 + k2 + 1 := by omega
theorem sc_114 {ta tb to k1 k2 t1 t2 : Nat} (hta : 11 ≤ ta) (hta2 : ta < 19) (htb : 11 ≤ tb) (htb2 : tb < 19) (htab : ¬ ta = tb) (hto : 20 ≤ to) (hto2 : to ≤ 23) (hkk : k1 + k2 + 1 ≤ 1499) (ht1 : 11 ≤ t1 ∧ ¬ t1 = 19 ∧ ¬ t1 = ta ∧ ¬ t1 = tb ∧ ¬ t1 = to) (ht2 : 11 ≤ t2 ∧ ¬ t2 = 19 ∧ ¬ t2 = ta ∧ ¬ t2 = tb ∧ ¬ t2 = to) : k1 + k2 ≤ k1 + k2 + 1 := by omega
theorem sc_115 {ta tb to k1 k2 t1 t2 : Nat} (hta : 11 ≤ ta) (hta2 : ta < 19) (htb : 11 ≤ tb) (htb2 : tb < 19) (htab : ¬ ta = tb) (hto : 20 ≤ to) (hto2 : to ≤ 23) (hkk : k1 + k2 + 1 ≤ 1499) (ht1 : 11 ≤ t1 ∧ ¬ t1 = 19 ∧ ¬ t1 = ta ∧ ¬ t1 = tb ∧ ¬ t1 = to) (ht2 : 11 ≤ t2 ∧ ¬ t2 = 19 ∧ ¬ t2 = ta ∧ ¬ t2 = tb ∧ ¬ t2 = to) : ta < 19 := by omega
theorem sc_116 {ta tb to k1 k2 t1 t2 : Nat} (hta : 11 ≤ ta) (hta2 : ta < 19) (htb : 11 ≤ tb) (htb2 : tb < 19) (htab : ¬ ta = tb) (hto : 20 ≤ to) (hto2 : to ≤ 23) (hkk : k1 + k2 + 1 ≤ 1499) (ht1 : 11 ≤ t1 ∧ ¬ t1 = 19 ∧ ¬ t1 = ta ∧ ¬ t1 = tb ∧ ¬ t1 = to) (ht2 : 11 ≤ t2 ∧ ¬ t2 = 19 ∧ ¬ t2 = ta ∧ ¬ t2 = tb ∧ ¬ t2 = to) : 3 ≤ ta := by omega
theorem sc_117 {ta tb to k1 k2 t1 t2 : Nat} (hta : 11 ≤ ta) (hta2 : ta < 19) (htb : 11 ≤ tb) (htb2 : tb < 19) (htab : ¬ ta = tb) (hto : 20 ≤ to) (hto2 : to ≤ 23) (hkk : k1 + k2 + 1 ≤ 1499) (ht1 : 11 ≤ t1 ∧ ¬ t1 = 19 ∧ ¬ t1 = ta ∧ ¬ t1 = tb ∧ ¬ t1 = to) (ht2 : 11 ≤ t2 ∧ ¬ t2 = 19 ∧ ¬ t2 = ta ∧ ¬ t2 = tb ∧ ¬ t2 = to) : ¬ (30 < 3 ∨ 30 = ta) := by omega
theorem sc_118 {ta tb to k1 k2 t1 t2 : Nat} (hta : 11 ≤ ta) (hta2 : ta < 19) (htb : 11 ≤ tb) (htb2 : tb < 19) (htab : ¬ ta = tb) (hto : 20 ≤ to) (hto2 : to ≤ 23) (hkk : k1 + k2 + 1 ≤ 1499) (ht1 : 11 ≤ t1 ∧ ¬ t1 = 19 ∧ ¬ t1 = ta ∧ ¬ t1 = tb ∧ ¬ t1 = to) (ht2 : 11 ≤ t2 ∧ ¬ t2 = 19 ∧ ¬ t2 = ta ∧ ¬ t2 = tb ∧ ¬ t2 = to) : ¬ (t1 < 3 ∨ t1 = ta) := by omega
theorem sc_119 {ta tb to k1 k2 t1 t2 : Nat} (hta : 11 ≤ ta) (hta2 : ta < 19) (htb : 11 ≤ tb) (htb2 : tb < 19) (htab : ¬ ta = tb) (hto : 20 ≤ to) (hto2 : to ≤ 23) (hkk : k1 + k2 + 1 ≤ 1499) (ht1 : 11 ≤ t1 ∧ ¬ t1 = 19 ∧ ¬ t1 = ta ∧ ¬ t1 = tb ∧ ¬ t1 = to) (ht2 : 11 ≤ t2 ∧ ¬ t2 = 19 ∧ ¬ t2 = ta ∧ ¬ t2 = tb ∧ ¬ t2 = to) : ¬ (t2 < 3 ∨ t2 = ta) := by omega
theorem sc_120 {ta tb to k1 k2 t1 t2 : Nat} (hta : 11 ≤ ta) (hta2 : ta < 19) (htb : 11 ≤ tb) (htb2 : tb < 19) (htab : ¬ ta = tb) (hto : 20 ≤ to) (hto2 : to ≤ 23) (hkk : k1 + k2 + 1 ≤ 1499) (ht1 : 11 ≤ t1 ∧ ¬ t1 = 19 ∧ ¬ t1 = ta ∧ ¬ t1 = tb ∧ ¬ t1 = to) (ht2 : 11 ≤ t2 ∧ ¬ t2 = 19 ∧ ¬ t2 = ta ∧ ¬ t2 = tb ∧ ¬ t2 = to) : ¬ (to < 3 ∨ to = ta) := by omega
theorem sc_121 {ta tb to k1 k2 t1 t2 : Nat} (hta : 11 ≤ ta) (hta2 : ta < 19) (htb : 11 ≤ tb) (htb2 : tb < 19) (htab : ¬ ta = tb) (hto : 20 ≤ to) (hto2 : to ≤ 23) (hkk : k1 + k2 + 1 ≤ 1499) (ht1 : 11 ≤ t1 ∧ ¬ t1 = 19 ∧ ¬ t1 = ta ∧ ¬ t1 = tb ∧ ¬ t1 = to) (ht2 : 11 ≤ t2 ∧ ¬ t2 = 19 ∧ ¬ t2 = ta ∧ ¬ t2 = tb ∧ ¬ t2 = to) : ¬ (19 < 3 ∨ 19 = ta) := by omega
theorem sc_122 {ta tb to k1 k2 t1 t2 : Nat} (hta : 11 ≤ ta) (hta2 : ta < 19) (htb : 11 ≤ tb) (htb2 : tb < 19) (htab : ¬ ta = tb) (hto : 20 ≤ to) (hto2 : to ≤ 23) (hkk : k1 + k2 + 1 ≤ 1499) (ht1 : 11 ≤ t1 ∧ ¬ t1 = 19 ∧ ¬ t1 = ta ∧ ¬ t1 = tb ∧ ¬ t1 = to) (ht2 : 11 ≤ t2 ∧ ¬ t2 = 19 ∧ ¬ t2 = ta ∧ ¬ t2 = tb ∧ ¬ t2 = to) : ¬ (5 < 3 ∨ 5 = ta) := by omega
theorem sc_123 {ta tb to k1 k2 t1 t2 : Nat} (hta : 11 ≤ ta) (hta2 : ta < 19) (htb : 11 ≤ tb) (htb2 : tb < 19) (htab : ¬ ta = tb) (hto : 20 ≤ to) (hto2 : to ≤ 23) (hkk : k1 + k2 + 1 ≤ 1499) (ht1 : 11 ≤ t1 ∧ ¬ t1 = 19 ∧ ¬ t1 = ta ∧ ¬ t1 = tb ∧ ¬ t1 = to) (ht2 : 11 ≤ t2 ∧ ¬ t2 = 19 ∧ ¬ t2 = ta ∧ ¬ t2 = tb ∧ ¬ t2 = to) : ¬ (7 < 3 ∨ 7 = ta) := by omega
theorem sc_124 {ta tb to k1 k2 t1 t2 : Nat} (hta : 11 ≤ ta) (hta2 : ta < 19) (htb : 11 ≤ tb) (htb2 : tb < 19) (htab : ¬ ta = tb) (hto : 20 ≤ to) (hto2 : to ≤ 23) (hkk : k1 + k2 + 1 ≤ 1499) (ht1 : 11 ≤ t1 ∧ ¬ t1 = 19 ∧ ¬ t1 = ta ∧ ¬ t1 = tb ∧ ¬ t1 = to) (ht2 : 11 ≤ t2 ∧ ¬ t2 = 19 ∧ ¬ t2 = ta ∧ ¬ t2 = tb ∧ ¬ t2 = to) : ¬ (9 < 3 ∨ 9 = ta) := by omega
theorem sc_125 {ta tb to k1 k2 t1 t2 : Nat} (hta : 11 ≤ ta) (hta2 : ta < 19) (htb : 11 ≤ tb) (htb2 : tb < 19) (htab : ¬ ta = tb) (hto : 20 ≤ to) (hto2 : to ≤ 23) (hkk : k1 + k2 + 1 ≤ 1499) (ht1 : 11 ≤ t1 ∧ ¬ t1 = 19 ∧ ¬ t1 = ta ∧ ¬ t1 = tb ∧ ¬ t1 = to) (ht2 : 11 ≤ t2 ∧ ¬ t2 = 19 ∧ ¬ t2 = ta ∧ ¬ t2 = tb ∧ ¬ t2 = to) : ¬ (6 < 3 ∨ 6 = ta) := by omega
theorem sc_126 {ta tb to k1 k2 t1 t2 : Nat} (hta : 11 ≤ ta) (hta2 : ta < 19) (htb : 11 ≤ tb) (htb2 : tb < 19) (htab : ¬ ta = tb) (hto : 20 ≤ to) (hto2 : to ≤ 23) (hkk : k1 + k2 + 1 ≤ 1499) (ht1 : 11 ≤ t1 ∧ ¬ t1 = 19 ∧ ¬ t1 = ta ∧ ¬ t1 = tb ∧ ¬ t1 = to) (ht2 : 11 ≤ t2 ∧ ¬ t2 = 19 ∧ ¬ t2 = ta ∧ ¬ t2 = tb ∧ ¬ t2 = to) : ¬ (8 < 3 ∨ 8 = ta) := by omega
theorem sc_127 {ta tb to k1 k2 t1 t2 : Nat} (hta : 11 ≤ ta) (hta2 : ta < 19) (htb : 11 ≤ tb) (htb2 : tb < 19) (htab : ¬ ta = tb) (hto : 20 ≤ to) (hto2 : to ≤ 23) (hkk : k1 + k2 + 1 ≤ 1499) (ht1 : 11 ≤ t1 ∧ ¬ t1 = 19 ∧ ¬ t1 = ta ∧ ¬ t1 = tb ∧ ¬ t1 = to) (ht2 : 11 ≤ t2 ∧ ¬ t2 = 19 ∧ ¬ t2 = ta ∧ ¬ t2 = tb ∧ ¬ t2 = to) : ¬ (10 < 3 ∨ 10 = ta) := by omega
theorem sc_128 {ta tb to k1 k2 t1 t2 : Nat} (hta : 11 ≤ ta) (hta2 : ta < 19) (htb : 11 ≤ tb) (htb2 : tb < 19) (htab : ¬ ta = tb) (hto : 20 ≤ to) (hto2 : to ≤ 23) (hkk : k1 + k2 + 1 ≤ 1499) (ht1 : 11 ≤ t1 ∧ ¬ t1 = 19 ∧ ¬ t1 = ta ∧ ¬ t1 = tb ∧ ¬ t1 = to) (ht2 : 11 ≤ t2 ∧ ¬ t2 = 19 ∧ ¬ t2 = ta ∧ ¬ t2 = tb ∧ ¬ t2 = to) : ¬ (3 < 3 ∨ 3 = ta) := by omega
theorem sc_129 {ta tb to k1 k2 t1 t2 : Nat} (hta : 11 ≤ ta) (hta2 : ta < 19) (htb : 11 ≤ tb) (htb2 : tb < 19) (htab : ¬ ta = tb) (hto : 20 ≤ to) (hto2 : to ≤ 23) (hkk : k1 + k2 + 1 ≤ 1499) (ht1 : 11 ≤ t1 ∧ ¬ t1 = 19 ∧ ¬ t1 = ta ∧ ¬ t1 = tb ∧ ¬ t1 = to) (ht2 : 11 ≤ t2 ∧ ¬ t2 = 19 ∧ ¬ t2 = ta ∧ ¬ t2 = tb ∧ ¬ t2 = to) : ∀ x, (11 ≤ x ∧ ¬ x = 19 ∧ ¬ x = ta ∧ ¬ x = tb ∧ ¬ x = to) → ¬ (x < 3 ∨ x = ta) := by intro x h; omega
theorem sc_130 {ta tb to k1 k2 t1 t2 : Nat} (hta : 11 ≤ ta) (hta2 : ta < 19) (htb : 11 ≤ tb) (htb2 : tb < 19) (htab : ¬ ta = tb) (hto : 20 ≤ to) (hto2 : to ≤ 23) (hkk : k1 + k2 + 1 ≤ 1499) (ht1 : 11 ≤ t1 ∧ ¬ t1 = 19 ∧ ¬ t1 = ta ∧ ¬ t1 = tb ∧ ¬ t1 = to) (ht2 : 11 ≤ t2 ∧ ¬ t2 = 19 ∧ ¬ t2 = ta ∧ ¬ t2 = tb ∧ ¬ t2 = to) : ∀ x, (x < 11 ∨ x = 19 ∨ x = ta ∨ x = tb ∨ x = to) ∨ (x < 3 ∨ x = ta) → (x < 11 ∨ x = 19 ∨ x = ta ∨ x = tb ∨ x = to) := by intro x h; omega
theorem sc_131 {ta tb to k1 k2 t1 t2 : Nat} (hta : 11 ≤ ta) (hta2 : ta < 19) (htb : 11 ≤ tb) (htb2 : tb < 19) (htab : ¬ ta = tb) (hto : 20 ≤ to) (hto2 : to ≤ 23) (hkk : k1 + k2 + 1 ≤ 1499) (ht1 : 11 ≤ t1 ∧ ¬ t1 = 19 ∧ ¬ t1 = ta ∧ ¬ t1 = tb ∧ ¬ t1 = to) (ht2 : 11 ≤ t2 ∧ ¬ t2 = 19 ∧ ¬ t2 = ta ∧ ¬ t2 = tb ∧ ¬ t2 = to) : ¬ (ta < 3 ∨ ta = 9) := by omega
theorem sc_132 {ta tb to k1 k2 t1 t2 : Nat} (hta : 11 ≤ ta) (hta2 : ta < 19) (htb : 11 ≤ tb) (htb2 : tb < 19) (htab : ¬ ta = tb) (hto : 20 ≤ to) (hto2 : to ≤ 23) (hkk : k1 + k2 + 1 ≤ 1499) (ht1 : 11 ≤ t1 ∧ ¬ t1 = 19 ∧ ¬ t1 = ta ∧ ¬ t1 = tb ∧ ¬ t1 = to) (ht2 : 11 ≤ t2 ∧ ¬ t2 = 19 ∧ ¬ t2 = ta ∧ ¬ t2 = tb ∧ ¬ t2 = to) : tb < 19 := by omega
theorem sc_133 {ta tb to k1 k2 t1 t2 : Nat} (hta : 11 ≤ ta) (hta2 : ta < 19) (htb : 11 ≤ tb) (htb2 : tb < 19) (htab : ¬ ta = tb) (hto : 20 ≤ to) (hto2 : to ≤ 23) (hkk : k1 + k2 + 1 ≤ 1499) (ht1 : 11 ≤ t1 ∧ ¬ t1 = 19 ∧ ¬ t1 = ta ∧ ¬ t1 = tb ∧ ¬ t1 = to) (ht2 : 11 ≤ t2 ∧ ¬ t2 = 19 ∧ ¬ t2 = ta ∧ ¬ t2 = tb ∧ ¬ t2 = to) : ¬ 7 = tb := by omega
theorem sc_134 {ta tb to k1 k2 t1 t2 : Nat} (hta : 11 ≤ ta) (hta2 : ta < 19) (htb : 11 ≤ tb) (htb2 : tb < 19) (htab : ¬ ta = tb) (hto : 20 ≤ to) (hto2 : to ≤ 23) (hkk : k1 + k2 + 1 ≤ 1499) (ht1 : 11 ≤ t1 ∧ ¬ t1 = 19 ∧ ¬ t1 = ta ∧ ¬ t1 = tb ∧ ¬ t1 = to) (ht2 : 11 ≤ t2 ∧ ¬ t2 = 19 ∧ ¬ t2 = ta ∧ ¬ t2 = tb ∧ ¬ t2 = to) : ¬ 9 = tb := by omega
theorem sc_135 {ta tb to k1 k2 t1 t2 : Nat} (hta : 11 ≤ ta) (hta2 : ta < 19) (htb : 11 ≤ tb) (htb2 : tb < 19) (htab : ¬ ta = tb) (hto : 20 ≤ to) (hto2 : to ≤ 23) (hkk : k1 + k2 + 1 ≤ 1499) (ht1 : 11 ≤ t1 ∧ ¬ t1 = 19 ∧ ¬ t1 = ta ∧ ¬ t1 = tb ∧ ¬ t1 = to) (ht2 : 11 ≤ t2 ∧ ¬ t2 = 19 ∧ ¬ t2 = ta ∧ ¬ t2 = tb ∧ ¬ t2 = to) : ¬ (30 = tb) := by omega
theorem sc_136 {ta tb to k1 k2 t1 t2 : Nat} (hta : 11 ≤ ta) (hta2 : ta < 19) (htb : 11 ≤ tb) (htb2 : tb < 19) (htab : ¬ ta = tb) (hto : 20 ≤ to) (hto2 : to ≤ 23) (hkk : k1 + k2 + 1 ≤ 1499) (ht1 : 11 ≤ t1 ∧ ¬ t1 = 19 ∧ ¬ t1 = ta ∧ ¬ t1 = tb ∧ ¬ t1 = to) (ht2 : 11 ≤ t2 ∧ ¬ t2 = 19 ∧ ¬ t2 = ta ∧ ¬ t2 = tb ∧ ¬ t2 = to) : ¬ (t1 = tb) := by omega
theorem sc_137 {ta tb to k1 k2 t1 t2 : Nat} (hta : 11 ≤ ta) (hta2 : ta < 19) (htb : 11 ≤ tb) (htb2 : tb < 19) (htab : ¬ ta = tb) (hto : 20 ≤ to) (hto2 : to ≤ 23) (hkk : k1 + k2 + 1 ≤ 1499) (ht1 : 11 ≤ t1 ∧ ¬ t1 = 19 ∧ ¬ t1 = ta ∧ ¬ t1 = tb ∧ ¬ t1 = to) (ht2 : 11 ≤ t2 ∧ ¬ t2 = 19 ∧ ¬ t2 = ta ∧ ¬ t2 = tb ∧ ¬ t2 = to) : ¬ (t2 = tb) := by omega
theorem sc_138 {ta tb to k1 k2 t1 t2 : Nat} (hta : 11 ≤ ta) (hta2 : ta < 19) (htb : 11 ≤ tb) (htb2 : tb < 19) (htab : ¬ ta = tb) (hto : 20 ≤ to) (hto2 : to ≤ 23) (hkk : k1 + k2 + 1 ≤ 1499) (ht1 : 11 ≤ t1 ∧ ¬ t1 = 19 ∧ ¬ t1 = ta ∧ ¬ t1 = tb ∧ ¬ t1 = to) (ht2 : 11 ≤ t2 ∧ ¬ t2 = 19 ∧ ¬ t2 = ta ∧ ¬ t2 = tb ∧ ¬ t2 = to) : ¬ (to = tb) := by omega
theorem sc_139 {ta tb to k1 k2 t1 t2 : Nat} (hta : 11 ≤ ta) (hta2 : ta < 19) (htb : 11 ≤ tb) (htb2 : tb < 19) (htab : ¬ ta = tb) (hto : 20 ≤ to) (hto2 : to ≤ 23) (hkk : k1 + k2 + 1 ≤ 1499) (ht1 : 11 ≤ t1 ∧ ¬ t1 = 19 ∧ ¬ t1 = ta ∧ ¬ t1 = tb ∧ ¬ t1 = to) (ht2 : 11 ≤ t2 ∧ ¬ t2 = 19 ∧ ¬ t2 = ta ∧ ¬ t2 = tb ∧ ¬ t2 = to) : ¬ (19 = tb) := by omega
theorem sc_140 {ta tb to k1 k2 t1 t2 : Nat} (hta : 11 ≤ ta) (hta2 : ta < 19) (htb : 11 ≤ tb) (htb2 : tb < 19) (htab : ¬ ta = tb) (hto : 20 ≤ to) (hto2 : to ≤ 23) (hkk : k1 + k2 + 1 ≤ 1499) (ht1 : 11 ≤ t1 ∧ ¬ t1 = 19 ∧ ¬ t1 = ta ∧ ¬ t1 = tb ∧ ¬ t1 = to) (ht2 : 11 ≤ t2 ∧ ¬ t2 = 19 ∧ ¬ t2 = ta ∧ ¬ t2 = tb ∧ ¬ t2 = to) : ¬ (5 = tb) := by omega
theorem sc_141 {ta tb to k1 k2 t1 t2 : Nat} (hta : 11 ≤ ta) (hta2 : ta < 19) (htb : 11 ≤ tb) (htb2 : tb < 19) (htab : ¬ ta = tb) (hto : 20 ≤ to) (hto2 : to ≤ 23) (hkk : k1 + k2 + 1 ≤ 1499) (ht1 : 11 ≤ t1 ∧ ¬ t1 = 19 ∧ ¬ t1 = ta ∧ ¬ t1 = tb ∧ ¬ t1 = to) (ht2 : 11 ≤ t2 ∧ ¬ t2 = 19 ∧ ¬ t2 = ta ∧ ¬ t2 = tb ∧ ¬ t2 = to) : ¬ (7 = tb) := by omega
theorem sc_142 {ta tb to k1 k2 t1 t2 : Nat} (hta : 11 ≤ ta) (hta2 : ta < 19) (htb : 11 ≤ tb) (htb2 : tb < 19) (htab : ¬ ta = tb) (hto : 20 ≤ to) (hto2 : to ≤ 23) (hkk : k1 + k2 + 1 ≤ 1499) (ht1 : 11 ≤ t1 ∧ ¬ t1 = 19 ∧ ¬ t1 = ta ∧ ¬ t1 = tb ∧ ¬ t1 = to) (ht2 : 11 ≤ t2 ∧ ¬ t2 = 19 ∧ ¬ t2 = ta ∧ ¬ t2 = tb ∧ ¬ t2 = to) : ¬ (6 = tb) := by omega
theorem sc_143 {ta tb to k1 k2 t1 t2 : Nat} (hta : 11 ≤ ta) (hta2 : ta < 19) (htb : 11 ≤ tb) (htb2 : tb < 19) (htab : ¬ ta = tb) (hto : 20 ≤ to) (hto2 : to ≤ 23) (hkk : k1 + k2 + 1 ≤ 1499) (ht1 : 11 ≤ t1 ∧ ¬ t1 = 19 ∧ ¬ t1 = ta ∧ ¬ t1 = tb ∧ ¬ t1 = to) (ht2 : 11 ≤ t2 ∧ ¬ t2 = 19 ∧ ¬ t2 = ta ∧ ¬ t2 = tb ∧ ¬ t2 = to) : ¬ (8 = tb) := by omega
theorem sc_144 {ta tb to k1 k2 t1 t2 : Nat} (hta : 11 ≤ ta) (hta2 : ta < 19) (htb : 11 ≤ tb) (htb2 : tb < 19) (htab : ¬ ta = tb) (hto : 20 ≤ to) (hto2 : to ≤ 23) (hkk : k1 + k2 + 1 ≤ 1499) (ht1 : 11 ≤ t1 ∧ ¬ t1 = 19 ∧ ¬ t1 = ta ∧ ¬ t1 = tb ∧ ¬ t1 = to) (ht2 : 11 ≤ t2 ∧ ¬ t2 = 19 ∧ ¬ t2 = ta ∧ ¬ t2 = tb ∧ ¬ t2 = to) : ¬ (10 = tb) := by omega
theorem sc_145 {ta tb to k1 k2 t1 t2 : Nat} (hta : 11 ≤ ta) (hta2 : ta < 19) (htb : 11 ≤ tb) (htb2 : tb < 19) (htab : ¬ ta = tb) (hto : 20 ≤ to) (hto2 : to ≤ 23) (hkk : k1 + k2 + 1 ≤ 1499) (ht1 : 11 ≤ t1 ∧ ¬ t1 = 19 ∧ ¬ t1 = ta ∧ ¬ t1 = tb ∧ ¬ t1 = to) (ht2 : 11 ≤ t2 ∧ ¬ t2 = 19 ∧ ¬ t2 = ta ∧ ¬ t2 = tb ∧ ¬ t2 = to) : ¬ (3 = tb) := by omega
theorem sc_146 {ta tb to k1 k2 t1 t2 : Nat} (hta : 11 ≤ ta) (hta2 : ta < 19) (htb : 11 ≤ tb) (htb2 : tb < 19) (htab : ¬ ta = tb) (hto : 20 ≤ to) (hto2 : to ≤ 23) (hkk : k1 + k2 + 1 ≤ 1499) (ht1 : 11 ≤ t1 ∧ ¬ t1 = 19 ∧ ¬ t1 = ta ∧ ¬ t1 = tb ∧ ¬ t1 = to) (ht2 : 11 ≤ t2 ∧ ¬ t2 = 19 ∧ ¬ t2 = ta ∧ ¬ t2 = tb ∧ ¬ t2 = to) : ¬ (ta = tb) := by omega
theorem sc_147 {ta tb to k1 k2 t1 t2 : Nat} (hta : 11 ≤ ta) (hta2 : ta < 19) (htb : 11 ≤ tb) (htb2 : tb < 19) (htab : ¬ ta = tb) (hto : 20 ≤ to) (hto2 : to ≤ 23) (hkk : k1 + k2 + 1 ≤ 1499) (ht1 : 11 ≤ t1 ∧ ¬ t1 = 19 ∧ ¬ t1 = ta ∧ ¬ t1 = tb ∧ ¬ t1 = to) (ht2 : 11 ≤ t2 ∧ ¬ t2 = 19 ∧ ¬ t2 = ta ∧ ¬ t2 = tb ∧ ¬ t2 = to) : ¬ (9 = tb) := by omega
theorem sc_148 {ta tb to k1 k2 t1 t2 : Nat} (hta : 11 ≤ ta) (hta2 : ta < 19) (htb : 11 ≤ tb) (htb2 : tb < 19) (htab : ¬ ta = tb) (hto : 20 ≤ to) (hto2 : to ≤ 23) (hkk : k1 + k2 + 1 ≤ 1499) (ht1 : 11 ≤ t1 ∧ ¬ t1 = 19 ∧ ¬ t1 = ta ∧ ¬ t1 = tb ∧ ¬ t1 = to) (ht2 : 11 ≤ t2 ∧ ¬ t2 = 19 ∧ ¬ t2 = ta ∧ ¬ t2 = tb ∧ ¬ t2 = to) : ∀ x, (11 ≤ x ∧ ¬ x = 19 ∧ ¬ x = ta ∧ ¬ x = tb ∧ ¬ x = to) → ¬ (x = tb) := by intro x h; omega
theorem sc_149 {ta tb to k1 k2 t1 t2 : Nat} (hta : 11 ≤ ta) (hta2 : ta < 19) (htb : 11 ≤ tb) (htb2 : tb < 19) (htab : ¬ ta = tb) (hto : 20 ≤ to) (hto2 : to ≤ 23) (hkk : k1 + k2 + 1 ≤ 1499) (ht1 : 11 ≤ t1 ∧ ¬ t1 = 19 ∧ ¬ t1 = ta ∧ ¬ t1 = tb ∧ ¬ t1 = to) (ht2 : 11 ≤ t2 ∧ ¬ t2 = 19 ∧ ¬ t2 = ta ∧ ¬ t2 = tb ∧ ¬ t2 = to) : ∀ x, (x < 11 ∨ x = 19 ∨ x = ta ∨ x = tb ∨ x = to) ∨ (x = tb) → (x < 11 ∨ x = 19 ∨ x = ta ∨ x = tb ∨ x = to) := by intro x h; omega
set_option maxHeartbeats 4000000 in
set_option maxRecDepth 100000 in
theorem n_setSumF (l : Launch) (D : va_G) (cA : Nat → ClassId) (lo MC MS : Nat) (G : gT) (B : Nat × Nat) (X : Nat × Nat) (ad V : Nat → Nat) (hW : w2 cA X ad V (G, B)) (hX1 : X.1 ≤ MC) (hX2 : X.2 ≤ MS) (hk hd hc : Nat) (hhk : G hk = some (30, .inr (0, [.ref hd, .ref hc, .ref (ad 5), .ref (ad 6), .ref (ad 7), .ref (ad 8), .ref (ad 9), .ref (ad 10)]))) (hhd : G hd = some (30, .inr (2, [.ref (ad 0), .ref (ad 1), .ref (ad 2)]))) (hcd : cdO ad hd hc G) (hf ta tb to : Nat) (sf : Int32) (hhf : G hf = some (to, .inr (3, [.int sf, .ref (ad ta), .ref (ad tb)]))) (hta : 11 ≤ ta) (hta2 : ta < 19) (htb : 11 ≤ tb) (htb2 : tb < 19) (htab : ¬ ta = tb) (hto : 20 ≤ to) (hto2 : to ≤ 23) (h1 : Nat) (p1 : Int) (q1 k1 : Nat) (hr1 : rf cA G (fun x => 11 ≤ x ∧ ¬ x = 19 ∧ ¬ x = ta ∧ ¬ x = tb ∧ ¬ x = to) h1 p1 q1) (hp1 : p1.natAbs < 1000000000 ^ k1) (hq1 : q1 < 1000000000 ^ k1) (hq01 : 0 < q1) (hco1 : Nat.Coprime p1.natAbs q1) (h2 : Nat) (p2 : Int) (q2 k2 : Nat) (hr2 : rf cA G (fun x => 11 ≤ x ∧ ¬ x = 19 ∧ ¬ x = ta ∧ ¬ x = tb ∧ ¬ x = to) h2 p2 q2) (hp2 : p2.natAbs < 1000000000 ^ k2) (hq2 : q2 < 1000000000 ^ k2) (hq02 : 0 < q2) (hco2 : Nat.Coprime p2.natAbs q2) (le : Int32) (hkk : k1 + k2 + 1 ≤ 1499) : gMet l y_Ca_setSum w_Ca_setSum 6 163 D clS (gtys cA) lo MC MS [.ref hk, .ref hf, .ref h1, .ref h2, .int le] G B (gQv D clS lo (fT cA X ad hd hc (fun x => x < 11 ∨ x = 19 ∨ x = ta ∨ x = tb ∨ x = to) G V hf ta tb to (frn (p1 * q2 + (if le = 0 then p2 else -p2) * q1) (q1 * q2)) (rdd (p1 * q2 + (if le = 0 then p2 else -p2) * q1).natAbs (q1 * q2)))) := by
  refine g_metv (cc := prog_2_method_3_code) (nL := 6) (L := [(0, .ref hk), (1, .ref hf), (2, .ref h1), (3, .ref h2), (4, .int le)]) (by decide +kernel) rfl (Nat.le_of_ble_eq_true rfl) rfl ?_
  intro p e R s m args below meth c Q hF hRc hRs hRf hRl hret
  obtain ⟨hx, hb, hr, hml, hts0, hown, hlocks, hin, hK, hlo, hZ⟩ := hF
  have hts : ∀ w ∈ tbg, w.before args s = true := fun w h => hts0 w (List.mem_cons_of_mem _ h)
  obtain ⟨t1, a1, b1, ht1, hh1, hra1, hrb1⟩ := id hr1
  have ht1 : 11 ≤ t1 ∧ ¬ t1 = 19 ∧ ¬ t1 = ta ∧ ¬ t1 = tb ∧ ¬ t1 = to := ht1
  obtain ⟨t2, a2, b2, ht2, hh2, hra2, hrb2⟩ := id hr2
  have ht2 : 11 ≤ t2 ∧ ¬ t2 = 19 ∧ ¬ t2 = ta ∧ ¬ t2 = tb ∧ ¬ t2 = to := ht2
  obtain ⟨ga0, gb0, gc0, gd0, hhc⟩ := id hcd
  have hS0 : w2s cA X ad (fun x => x < 11 ∨ x = 19 ∨ x = ta ∨ x = tb ∨ x = to) G V V (G, B) := w2s_rf hW
  have bl_1 : B.1 ≤ MC := Nat.le_trans (w2_le hW).1 hX1
  have bl_2 : B.2 ≤ MS := Nat.le_trans (w2_le hW).2 hX2
  obtain ⟨g, hg⟩ : ∃ g, g = Nat.gcd q1 q2 := ⟨_, rfl⟩
  have hg0 : 0 < g := by rw [hg]; exact Nat.gcd_pos_of_pos_left q2 hq01
  refine gs (pc' := 1) (fun _ _ _ _ _ hl => lv_aload_n hx hb d_Ca_setSum_0 rfl (lv_at hl 0 rfl)) ?_
  refine g_get hx hb hts hin_Ca hown hK hhk rfl 2 (by decide) (hts _ wm132) (fun _ h9 => h9) rfl d_Ca_setSum_1 ?_
  refine gs (pc' := 5) (fun _ _ _ _ _ hl => lv_aload_n hx hb d_Ca_setSum_4 rfl (lv_at hl 0 rfl)) ?_
  refine g_get hx hb hts hin_Ca hown hK hhk rfl 1 (by decide) (hts _ wm131) (fun _ h9 => h9) rfl d_Ca_setSum_5 ?_
  refine gs (pc' := 9) (fun _ _ _ _ _ hl => lv_aload_n hx hb d_Ca_setSum_8 rfl (lv_at hl 2 rfl)) ?_
  refine g_get hx hb hts hin_Fr hown hK hh1 rfl 2 (by decide) (hts _ wm170) (fun _ h9 => h9) rfl d_Ca_setSum_9 ?_
  refine gs (pc' := 13) (fun _ _ _ _ _ hl => lv_aload_n hx hb d_Ca_setSum_12 rfl (lv_at hl 3 rfl)) ?_
  refine g_get hx hb hts hin_Fr hown hK hh2 rfl 2 (by decide) (hts _ wm170) (fun _ h9 => h9) rfl d_Ca_setSum_13 ?_
  have lt_3 : q1 < 1000000000 ^ (k1 + k2) := lb_up hq1 (sc_51 hta hta2 htb htb2 htab hto hto2 hkk ht1 ht2)
  have lt_4 : q2 < 1000000000 ^ (k1 + k2) := lb_up hq2 (sc_52 hta hta2 htb htb2 htab hto hto2 hkk ht1 ht2)
  refine g_outr hlo (g_runV (As := [.ref b1, .ref b2]) (rest := [.ref (ad 5)]) ⟨hx, hb, hml, hown, hts⟩ hK hZ hRc hRs (n_find l D cA lo MC MS G B X ad V hW hX1 hX2 hd hc ga0 gb0 gc0 gd0 hhc hhd b1 q1 b2 q2 (k1 + k2) (rd_mono (P1 := fun x => 5 ≤ x ∧ ¬ x = 19) hrb1 (sc_50 hta hta2 htb htb2 htab hto hto2 hkk ht1 ht2)) (rd_mono (P1 := fun x => 5 ≤ x ∧ ¬ x = 19) hrb2 (sc_50 hta hta2 htb htb2 htab hto hto2 hkk ht1 ht2)) lt_3 lt_4 (sc_53 hta hta2 htb htb2 htab hto hto2 hkk ht1 ht2)) (fun _ _ => cwV 2 hts (tb_good (tb_cons wm399 (tb_cons wm400 (tb_cons wm401 (tb_cons wm7 k_Cd_find))))) rfl rfl rfl (by decide +kernel) ⟨by rw [hRf]; exact Nat.le_of_ble_eq_true rfl, by rw [hRl]; exact Nat.le_of_ble_eq_true rfl⟩) hhc rfl bl_1 bl_2 rfl (Nat.le_of_ble_eq_true rfl) d_Ca_setSum_16) (fun r_8 G_5 B_6 p_7 => ?_)
  obtain ⟨e_12, V_9, s_10, k_11, g_14, g_15, g_16, g_17, f_13⟩ := p_7
  subst e_12
  have lt_18 : Nat.gcd q1 q2 < 1000000000 ^ (k1 + k2) := lb_gcd lt_3 lt_4
  have f_19 : G_5 hk = some (30, .inr (0, [.ref hd, .ref hc, .ref (ad 5), .ref (ad 6), .ref (ad 7), .ref (ad 8), .ref (ad 9), .ref (ad 10)])) := s_10.2.2 _ _ hhk (show ¬ (30 < 5 ∨ 30 = 19) by decide)
  have f_20 : G_5 hd = some (30, .inr (2, [.ref (ad 0), .ref (ad 1), .ref (ad 2)])) := s_10.2.2 _ _ hhd (show ¬ (30 < 5 ∨ 30 = 19) by decide)
  have f_21 : G_5 hf = some (to, .inr (3, [.int sf, .ref (ad ta), .ref (ad tb)])) := s_10.2.2 _ _ hhf (sc_54 hta hta2 htb htb2 htab hto hto2 hkk ht1 ht2)
  have f_22 : G_5 h1 = some (t1, .inr (3, [.int (sgI p1), .ref a1, .ref b1])) := s_10.2.2 _ _ hh1 (sc_55 hta hta2 htb htb2 htab hto hto2 hkk ht1 ht2)
  have f_23 : G_5 h2 = some (t2, .inr (3, [.int (sgI p2), .ref a2, .ref b2])) := s_10.2.2 _ _ hh2 (sc_56 hta hta2 htb htb2 htab hto hto2 hkk ht1 ht2)
  have rd_24 := rd_fr hra1 s_10.2.2 (sc_57 hta hta2 htb htb2 htab hto hto2 hkk ht1 ht2)
  have rd_25 := rd_fr hrb1 s_10.2.2 (sc_57 hta hta2 htb htb2 htab hto hto2 hkk ht1 ht2)
  have rd_26 := rd_fr hra2 s_10.2.2 (sc_57 hta hta2 htb htb2 htab hto hto2 hkk ht1 ht2)
  have rd_27 := rd_fr hrb2 s_10.2.2 (sc_57 hta hta2 htb htb2 htab hto hto2 hkk ht1 ht2)
  have W_28 := s_10.1
  have S_29 : w2s cA X ad (fun x => x < 11 ∨ x = 19 ∨ x = ta ∨ x = tb ∨ x = to) G V V_9 (G_5, B_6) := w2s_mono (w2s_tr hS0 s_10) (sc_58 hta hta2 htb htb2 htab hto hto2 hkk ht1 ht2)
  have bl_30 : B_6.1 ≤ MC := Nat.le_trans (w2_le W_28).1 hX1
  have bl_31 : B_6.2 ≤ MS := Nat.le_trans (w2_le W_28).2 hX2
  obtain ⟨κo_32, ao_32, zo_32, fo_32, hho_32, hao_32, hzo_32, hDo_32, hco_32⟩ := w2_N W_28 (show 5 < 19 by decide)
  have hbo_32 : zo_32 ≤ 3000 := Nat.le_trans hzo_32 hco_32
  refine g_outv hlo (g_runV (As := [.ref (ad 3)]) (rest := []) ⟨hx, hb, hml, hown, hts⟩ hK hZ hRc hRs (n_setTo l D cA lo MC MS G_5 B_6 X ad V_9 W_28 hX1 hX2 5 (by decide) (ad 3) (Nat.gcd q1 q2) (k1 + k2) (rd_w2' (P := fun x => ¬ x = 5) W_28 (by decide) (by decide) k_11) lt_18 (sc_59 hta hta2 htb htb2 htab hto hto2 hkk ht1 ht2)) (fun _ _ => cwV 1 hts (tb_good (tb_cons wm494 (tb_cons wm408 (tb_cons wm409 (tb_cons wm5 k_Na_setTo))))) rfl rfl rfl (by decide +kernel) ⟨by rw [hRf]; exact Nat.le_of_ble_eq_true rfl, by rw [hRl]; exact Nat.le_of_ble_eq_true rfl⟩) hho_32 rfl bl_30 bl_31 rfl (Nat.le_of_ble_eq_true rfl) d_Ca_setSum_19) (fun G_33 B_34 p_35 => ?_)
  obtain ⟨V_36, s_37, k_38⟩ := p_35
  have f_39 : G_33 hk = some (30, .inr (0, [.ref hd, .ref hc, .ref (ad 5), .ref (ad 6), .ref (ad 7), .ref (ad 8), .ref (ad 9), .ref (ad 10)])) := s_37.2.2 _ _ f_19 (show ¬ (30 = 5) by decide)
  have f_40 : G_33 hd = some (30, .inr (2, [.ref (ad 0), .ref (ad 1), .ref (ad 2)])) := s_37.2.2 _ _ f_20 (show ¬ (30 = 5) by decide)
  have f_41 : G_33 hf = some (to, .inr (3, [.int sf, .ref (ad ta), .ref (ad tb)])) := s_37.2.2 _ _ f_21 (sc_60 hta hta2 htb htb2 htab hto hto2 hkk ht1 ht2)
  have f_42 : G_33 h1 = some (t1, .inr (3, [.int (sgI p1), .ref a1, .ref b1])) := s_37.2.2 _ _ f_22 (sc_61 hta hta2 htb htb2 htab hto hto2 hkk ht1 ht2)
  have f_43 : G_33 h2 = some (t2, .inr (3, [.int (sgI p2), .ref a2, .ref b2])) := s_37.2.2 _ _ f_23 (sc_62 hta hta2 htb htb2 htab hto hto2 hkk ht1 ht2)
  have f_44 : G_33 hc = some (19, .inr (1, [.ref hd, .ref (ad 3), .ref (ad 4), .long g_14, .long g_15, .long g_16, .long g_17])) := s_37.2.2 _ _ f_13 (show ¬ (19 = 5) by decide)
  have k_45 : V_36 3 = Nat.gcd q1 q2 := (s_37.2.1 3 (show ¬ (3 = 5) by decide)).trans k_11
  have rd_46 := rd_fr rd_24 s_37.2.2 (sc_63 hta hta2 htb htb2 htab hto hto2 hkk ht1 ht2)
  have rd_47 := rd_fr rd_25 s_37.2.2 (sc_63 hta hta2 htb htb2 htab hto hto2 hkk ht1 ht2)
  have rd_48 := rd_fr rd_26 s_37.2.2 (sc_63 hta hta2 htb htb2 htab hto hto2 hkk ht1 ht2)
  have rd_49 := rd_fr rd_27 s_37.2.2 (sc_63 hta hta2 htb htb2 htab hto hto2 hkk ht1 ht2)
  have W_50 := s_37.1
  have S_51 : w2s cA X ad (fun x => x < 11 ∨ x = 19 ∨ x = ta ∨ x = tb ∨ x = to) G V V_36 (G_33, B_34) := w2s_mono (w2s_tr S_29 s_37) (sc_64 hta hta2 htb htb2 htab hto hto2 hkk ht1 ht2)
  have bl_52 : B_34.1 ≤ MC := Nat.le_trans (w2_le W_50).1 hX1
  have bl_53 : B_34.2 ≤ MS := Nat.le_trans (w2_le W_50).2 hX2
  rw [← hg] at k_45 lt_18
  rw [← hg] at k_38
  refine gs (pc' := 23) (fun _ _ _ _ _ hl => lv_aload_n hx hb d_Ca_setSum_22 rfl (lv_at hl 0 rfl)) ?_
  refine gs (pc' := 24) (fun _ _ _ _ _ hl => lv_aload_n hx hb d_Ca_setSum_23 rfl (lv_at hl 0 rfl)) ?_
  refine g_get hx hb hts hin_Ca hown hK f_39 rfl 4 (by decide) (hts _ wm134) (fun _ h9 => h9) rfl d_Ca_setSum_24 ?_
  refine gs (pc' := 28) (fun _ _ _ _ _ hl => lv_aload_n hx hb d_Ca_setSum_27 rfl (lv_at hl 2 rfl)) ?_
  refine g_get hx hb hts hin_Fr hown hK f_42 rfl 2 (by decide) (hts _ wm170) (fun _ h9 => h9) rfl d_Ca_setSum_28 ?_
  refine gs (pc' := 32) (fun _ _ _ _ _ hl => lv_aload_n hx hb d_Ca_setSum_31 rfl (lv_at hl 0 rfl)) ?_
  refine g_get hx hb hts hin_Ca hown hK f_39 rfl 2 (by decide) (hts _ wm132) (fun _ h9 => h9) rfl d_Ca_setSum_32 ?_
  refine g_outv hlo (g_runV (As := [.ref (ad 7), .ref b1, .ref (ad 5)]) (rest := []) ⟨hx, hb, hml, hown, hts⟩ hK hZ hRc hRs (n_setQuotient l D cA lo MC MS G_33 B_34 X ad V_36 W_50 hX1 hX2 hk hd hc f_39 f_40 (cdO_i f_44) 7 (by decide) (by decide) b1 q1 (ad 5) g k1 (rd_mono (P1 := fun x => 3 ≤ x) rd_47 (sc_65 hta hta2 htb htb2 htab hto hto2 hkk ht1 ht2)) (rd_w2' (P := fun x => 3 ≤ x) W_50 (by decide) (by decide) k_38) hq1 (sc_66 hta hta2 htb htb2 htab hto hto2 hkk ht1 ht2) hg0) (fun _ _ => cwV 3 hts (tb_good (tb_cons wm489 (tb_cons wm491 (tb_cons ws9 (tb_cons wm3 k_Ca_setQuotient))))) rfl rfl rfl (by decide +kernel) ⟨by rw [hRf]; exact Nat.le_of_ble_eq_true rfl, by rw [hRl]; exact Nat.le_of_ble_eq_true rfl⟩) f_39 rfl bl_52 bl_53 rfl (Nat.le_of_ble_eq_true rfl) d_Ca_setSum_35) (fun G_54 B_55 p_56 => ?_)
  obtain ⟨V_57, s_58, k_59⟩ := p_56
  have lt_60 : q1 / g < 1000000000 ^ k1 := Nat.lt_of_le_of_lt (Nat.div_le_self _ _) hq1
  have f_61 : G_54 hk = some (30, .inr (0, [.ref hd, .ref hc, .ref (ad 5), .ref (ad 6), .ref (ad 7), .ref (ad 8), .ref (ad 9), .ref (ad 10)])) := s_58.2.2 _ _ f_39 (show ¬ (30 < 3 ∨ 30 = 7) by decide)
  have f_62 : G_54 hd = some (30, .inr (2, [.ref (ad 0), .ref (ad 1), .ref (ad 2)])) := s_58.2.2 _ _ f_40 (show ¬ (30 < 3 ∨ 30 = 7) by decide)
  have f_63 : G_54 hf = some (to, .inr (3, [.int sf, .ref (ad ta), .ref (ad tb)])) := s_58.2.2 _ _ f_41 (sc_67 hta hta2 htb htb2 htab hto hto2 hkk ht1 ht2)
  have f_64 : G_54 h1 = some (t1, .inr (3, [.int (sgI p1), .ref a1, .ref b1])) := s_58.2.2 _ _ f_42 (sc_68 hta hta2 htb htb2 htab hto hto2 hkk ht1 ht2)
  have f_65 : G_54 h2 = some (t2, .inr (3, [.int (sgI p2), .ref a2, .ref b2])) := s_58.2.2 _ _ f_43 (sc_69 hta hta2 htb htb2 htab hto hto2 hkk ht1 ht2)
  have f_66 : G_54 hc = some (19, .inr (1, [.ref hd, .ref (ad 3), .ref (ad 4), .long g_14, .long g_15, .long g_16, .long g_17])) := s_58.2.2 _ _ f_44 (show ¬ (19 < 3 ∨ 19 = 7) by decide)
  have k_67 : V_57 3 = g := (s_58.2.1 3 (show ¬ (3 < 3 ∨ 3 = 7) by decide)).trans k_45
  have k_68 : V_57 5 = g := (s_58.2.1 5 (show ¬ (5 < 3 ∨ 5 = 7) by decide)).trans k_38
  have rd_69 := rd_fr rd_46 s_58.2.2 (sc_70 hta hta2 htb htb2 htab hto hto2 hkk ht1 ht2)
  have rd_70 := rd_fr rd_47 s_58.2.2 (sc_70 hta hta2 htb htb2 htab hto hto2 hkk ht1 ht2)
  have rd_71 := rd_fr rd_48 s_58.2.2 (sc_70 hta hta2 htb htb2 htab hto hto2 hkk ht1 ht2)
  have rd_72 := rd_fr rd_49 s_58.2.2 (sc_70 hta hta2 htb htb2 htab hto hto2 hkk ht1 ht2)
  have W_73 := s_58.1
  have S_74 : w2s cA X ad (fun x => x < 11 ∨ x = 19 ∨ x = ta ∨ x = tb ∨ x = to) G V V_57 (G_54, B_55) := w2s_mono (w2s_tr S_51 s_58) (sc_71 hta hta2 htb htb2 htab hto hto2 hkk ht1 ht2)
  have bl_75 : B_55.1 ≤ MC := Nat.le_trans (w2_le W_73).1 hX1
  have bl_76 : B_55.2 ≤ MS := Nat.le_trans (w2_le W_73).2 hX2
  refine gs (pc' := 39) (fun _ _ _ _ _ hl => lv_aload_n hx hb d_Ca_setSum_38 rfl (lv_at hl 0 rfl)) ?_
  refine gs (pc' := 40) (fun _ _ _ _ _ hl => lv_aload_n hx hb d_Ca_setSum_39 rfl (lv_at hl 0 rfl)) ?_
  refine g_get hx hb hts hin_Ca hown hK f_61 rfl 6 (by decide) (hts _ wm136) (fun _ h9 => h9) rfl d_Ca_setSum_40 ?_
  refine gs (pc' := 44) (fun _ _ _ _ _ hl => lv_aload_n hx hb d_Ca_setSum_43 rfl (lv_at hl 3 rfl)) ?_
  refine g_get hx hb hts hin_Fr hown hK f_65 rfl 2 (by decide) (hts _ wm170) (fun _ h9 => h9) rfl d_Ca_setSum_44 ?_
  refine gs (pc' := 48) (fun _ _ _ _ _ hl => lv_aload_n hx hb d_Ca_setSum_47 rfl (lv_at hl 0 rfl)) ?_
  refine g_get hx hb hts hin_Ca hown hK f_61 rfl 2 (by decide) (hts _ wm132) (fun _ h9 => h9) rfl d_Ca_setSum_48 ?_
  refine g_outv hlo (g_runV (As := [.ref (ad 9), .ref b2, .ref (ad 5)]) (rest := []) ⟨hx, hb, hml, hown, hts⟩ hK hZ hRc hRs (n_setQuotient l D cA lo MC MS G_54 B_55 X ad V_57 W_73 hX1 hX2 hk hd hc f_61 f_62 (cdO_i f_66) 9 (by decide) (by decide) b2 q2 (ad 5) g k2 (rd_mono (P1 := fun x => 3 ≤ x) rd_72 (sc_65 hta hta2 htb htb2 htab hto hto2 hkk ht1 ht2)) (rd_w2' (P := fun x => 3 ≤ x) W_73 (by decide) (by decide) k_68) hq2 (sc_72 hta hta2 htb htb2 htab hto hto2 hkk ht1 ht2) hg0) (fun _ _ => cwV 3 hts (tb_good (tb_cons wm489 (tb_cons wm491 (tb_cons ws9 (tb_cons wm3 k_Ca_setQuotient))))) rfl rfl rfl (by decide +kernel) ⟨by rw [hRf]; exact Nat.le_of_ble_eq_true rfl, by rw [hRl]; exact Nat.le_of_ble_eq_true rfl⟩) f_61 rfl bl_75 bl_76 rfl (Nat.le_of_ble_eq_true rfl) d_Ca_setSum_51) (fun G_77 B_78 p_79 => ?_)
  obtain ⟨V_80, s_81, k_82⟩ := p_79
  have lt_83 : q2 / g < 1000000000 ^ k2 := Nat.lt_of_le_of_lt (Nat.div_le_self _ _) hq2
  have f_84 : G_77 hk = some (30, .inr (0, [.ref hd, .ref hc, .ref (ad 5), .ref (ad 6), .ref (ad 7), .ref (ad 8), .ref (ad 9), .ref (ad 10)])) := s_81.2.2 _ _ f_61 (show ¬ (30 < 3 ∨ 30 = 9) by decide)
  have f_85 : G_77 hd = some (30, .inr (2, [.ref (ad 0), .ref (ad 1), .ref (ad 2)])) := s_81.2.2 _ _ f_62 (show ¬ (30 < 3 ∨ 30 = 9) by decide)
  have f_86 : G_77 hf = some (to, .inr (3, [.int sf, .ref (ad ta), .ref (ad tb)])) := s_81.2.2 _ _ f_63 (sc_73 hta hta2 htb htb2 htab hto hto2 hkk ht1 ht2)
  have f_87 : G_77 h1 = some (t1, .inr (3, [.int (sgI p1), .ref a1, .ref b1])) := s_81.2.2 _ _ f_64 (sc_74 hta hta2 htb htb2 htab hto hto2 hkk ht1 ht2)
  have f_88 : G_77 h2 = some (t2, .inr (3, [.int (sgI p2), .ref a2, .ref b2])) := s_81.2.2 _ _ f_65 (sc_75 hta hta2 htb htb2 htab hto hto2 hkk ht1 ht2)
  have f_89 : G_77 hc = some (19, .inr (1, [.ref hd, .ref (ad 3), .ref (ad 4), .long g_14, .long g_15, .long g_16, .long g_17])) := s_81.2.2 _ _ f_66 (show ¬ (19 < 3 ∨ 19 = 9) by decide)
  have k_90 : V_80 3 = g := (s_81.2.1 3 (show ¬ (3 < 3 ∨ 3 = 9) by decide)).trans k_67
  have k_91 : V_80 5 = g := (s_81.2.1 5 (show ¬ (5 < 3 ∨ 5 = 9) by decide)).trans k_68
  have k_92 : V_80 7 = q1 / g := (s_81.2.1 7 (show ¬ (7 < 3 ∨ 7 = 9) by decide)).trans k_59
  have rd_93 := rd_fr rd_69 s_81.2.2 (sc_76 hta hta2 htb htb2 htab hto hto2 hkk ht1 ht2)
  have rd_94 := rd_fr rd_70 s_81.2.2 (sc_76 hta hta2 htb htb2 htab hto hto2 hkk ht1 ht2)
  have rd_95 := rd_fr rd_71 s_81.2.2 (sc_76 hta hta2 htb htb2 htab hto hto2 hkk ht1 ht2)
  have rd_96 := rd_fr rd_72 s_81.2.2 (sc_76 hta hta2 htb htb2 htab hto hto2 hkk ht1 ht2)
  have W_97 := s_81.1
  have S_98 : w2s cA X ad (fun x => x < 11 ∨ x = 19 ∨ x = ta ∨ x = tb ∨ x = to) G V V_80 (G_77, B_78) := w2s_mono (w2s_tr S_74 s_81) (sc_77 hta hta2 htb htb2 htab hto hto2 hkk ht1 ht2)
  have bl_99 : B_78.1 ≤ MC := Nat.le_trans (w2_le W_97).1 hX1
  have bl_100 : B_78.2 ≤ MS := Nat.le_trans (w2_le W_97).2 hX2
  refine gs (pc' := 55) (fun _ _ _ _ _ hl => lv_aload_n hx hb d_Ca_setSum_54 rfl (lv_at hl 0 rfl)) ?_
  refine g_get hx hb hts hin_Ca hown hK f_84 rfl 3 (by decide) (hts _ wm133) (fun _ h9 => h9) rfl d_Ca_setSum_55 ?_
  refine gs (pc' := 59) (fun _ _ _ _ _ hl => lv_aload_n hx hb d_Ca_setSum_58 rfl (lv_at hl 2 rfl)) ?_
  refine g_get hx hb hts hin_Fr hown hK f_87 rfl 1 (by decide) (hts _ wm167) (fun _ h9 => h9) rfl d_Ca_setSum_59 ?_
  refine gs (pc' := 63) (fun _ _ _ _ _ hl => lv_aload_n hx hb d_Ca_setSum_62 rfl (lv_at hl 0 rfl)) ?_
  refine g_get hx hb hts hin_Ca hown hK f_84 rfl 6 (by decide) (hts _ wm136) (fun _ h9 => h9) rfl d_Ca_setSum_63 ?_
  obtain ⟨κo_101, ao_101, zo_101, fo_101, hho_101, hao_101, hzo_101, hDo_101, hco_101⟩ := w2_N W_97 (show 6 < 19 by decide)
  have hbo_101 : zo_101 ≤ 3000 := Nat.le_trans hzo_101 hco_101
  refine g_outv hlo (g_runV (As := [.ref a1, .ref (ad 9)]) (rest := []) ⟨hx, hb, hml, hown, hts⟩ hK hZ hRc hRs (n_setProduct l D cA lo MC MS G_77 B_78 X ad V_80 W_97 hX1 hX2 6 (by decide) a1 p1.natAbs k1 (rd_mono (P1 := fun x => ¬ x = 6) rd_93 (sc_78 hta hta2 htb htb2 htab hto hto2 hkk ht1 ht2)) hp1 (ad 9) (q2 / g) k2 (rd_w2' (P := fun x => ¬ x = 6) W_97 (by decide) (by decide) k_82) lt_83 (sc_59 hta hta2 htb htb2 htab hto hto2 hkk ht1 ht2)) (fun _ _ => cwV 2 hts (tb_good (tb_cons wm563 (tb_cons wm564 (tb_cons wm565 (tb_cons wm5 k_Na_setProduct))))) rfl rfl rfl (by decide +kernel) ⟨by rw [hRf]; exact Nat.le_of_ble_eq_true rfl, by rw [hRl]; exact Nat.le_of_ble_eq_true rfl⟩) hho_101 rfl bl_99 bl_100 rfl (Nat.le_of_ble_eq_true rfl) d_Ca_setSum_66) (fun G_102 B_103 p_104 => ?_)
  have lt_105 : p1.natAbs * (q2 / g) < 1000000000 ^ (k1 + k2) := lb_mul hp1 lt_83
  obtain ⟨V_106, s_107, k_108⟩ := p_104
  have f_109 : G_102 hk = some (30, .inr (0, [.ref hd, .ref hc, .ref (ad 5), .ref (ad 6), .ref (ad 7), .ref (ad 8), .ref (ad 9), .ref (ad 10)])) := s_107.2.2 _ _ f_84 (show ¬ (30 = 6) by decide)
  have f_110 : G_102 hd = some (30, .inr (2, [.ref (ad 0), .ref (ad 1), .ref (ad 2)])) := s_107.2.2 _ _ f_85 (show ¬ (30 = 6) by decide)
  have f_111 : G_102 hf = some (to, .inr (3, [.int sf, .ref (ad ta), .ref (ad tb)])) := s_107.2.2 _ _ f_86 (sc_79 hta hta2 htb htb2 htab hto hto2 hkk ht1 ht2)
  have f_112 : G_102 h1 = some (t1, .inr (3, [.int (sgI p1), .ref a1, .ref b1])) := s_107.2.2 _ _ f_87 (sc_80 hta hta2 htb htb2 htab hto hto2 hkk ht1 ht2)
  have f_113 : G_102 h2 = some (t2, .inr (3, [.int (sgI p2), .ref a2, .ref b2])) := s_107.2.2 _ _ f_88 (sc_81 hta hta2 htb htb2 htab hto hto2 hkk ht1 ht2)
  have f_114 : G_102 hc = some (19, .inr (1, [.ref hd, .ref (ad 3), .ref (ad 4), .long g_14, .long g_15, .long g_16, .long g_17])) := s_107.2.2 _ _ f_89 (show ¬ (19 = 6) by decide)
  have k_115 : V_106 3 = g := (s_107.2.1 3 (show ¬ (3 = 6) by decide)).trans k_90
  have k_116 : V_106 5 = g := (s_107.2.1 5 (show ¬ (5 = 6) by decide)).trans k_91
  have k_117 : V_106 7 = q1 / g := (s_107.2.1 7 (show ¬ (7 = 6) by decide)).trans k_92
  have k_118 : V_106 9 = q2 / g := (s_107.2.1 9 (show ¬ (9 = 6) by decide)).trans k_82
  have rd_119 := rd_fr rd_93 s_107.2.2 (sc_82 hta hta2 htb htb2 htab hto hto2 hkk ht1 ht2)
  have rd_120 := rd_fr rd_94 s_107.2.2 (sc_82 hta hta2 htb htb2 htab hto hto2 hkk ht1 ht2)
  have rd_121 := rd_fr rd_95 s_107.2.2 (sc_82 hta hta2 htb htb2 htab hto hto2 hkk ht1 ht2)
  have rd_122 := rd_fr rd_96 s_107.2.2 (sc_82 hta hta2 htb htb2 htab hto hto2 hkk ht1 ht2)
  have W_123 := s_107.1
  have S_124 : w2s cA X ad (fun x => x < 11 ∨ x = 19 ∨ x = ta ∨ x = tb ∨ x = to) G V V_106 (G_102, B_103) := w2s_mono (w2s_tr S_98 s_107) (sc_83 hta hta2 htb htb2 htab hto hto2 hkk ht1 ht2)
  have bl_125 : B_103.1 ≤ MC := Nat.le_trans (w2_le W_123).1 hX1
  have bl_126 : B_103.2 ≤ MS := Nat.le_trans (w2_le W_123).2 hX2
  refine gs (pc' := 70) (fun _ _ _ _ _ hl => lv_aload_n hx hb d_Ca_setSum_69 rfl (lv_at hl 0 rfl)) ?_
  refine g_get hx hb hts hin_Ca hown hK f_109 rfl 5 (by decide) (hts _ wm135) (fun _ h9 => h9) rfl d_Ca_setSum_70 ?_
  refine gs (pc' := 74) (fun _ _ _ _ _ hl => lv_aload_n hx hb d_Ca_setSum_73 rfl (lv_at hl 3 rfl)) ?_
  refine g_get hx hb hts hin_Fr hown hK f_113 rfl 1 (by decide) (hts _ wm167) (fun _ h9 => h9) rfl d_Ca_setSum_74 ?_
  refine gs (pc' := 78) (fun _ _ _ _ _ hl => lv_aload_n hx hb d_Ca_setSum_77 rfl (lv_at hl 0 rfl)) ?_
  refine g_get hx hb hts hin_Ca hown hK f_109 rfl 4 (by decide) (hts _ wm134) (fun _ h9 => h9) rfl d_Ca_setSum_78 ?_
  obtain ⟨κo_127, ao_127, zo_127, fo_127, hho_127, hao_127, hzo_127, hDo_127, hco_127⟩ := w2_N W_123 (show 8 < 19 by decide)
  have hbo_127 : zo_127 ≤ 3000 := Nat.le_trans hzo_127 hco_127
  refine g_outv hlo (g_runV (As := [.ref a2, .ref (ad 7)]) (rest := []) ⟨hx, hb, hml, hown, hts⟩ hK hZ hRc hRs (n_setProduct l D cA lo MC MS G_102 B_103 X ad V_106 W_123 hX1 hX2 8 (by decide) a2 p2.natAbs k2 (rd_mono (P1 := fun x => ¬ x = 8) rd_121 (sc_84 hta hta2 htb htb2 htab hto hto2 hkk ht1 ht2)) hp2 (ad 7) (q1 / g) k1 (rd_w2' (P := fun x => ¬ x = 8) W_123 (by decide) (by decide) k_117) lt_60 (sc_85 hta hta2 htb htb2 htab hto hto2 hkk ht1 ht2)) (fun _ _ => cwV 2 hts (tb_good (tb_cons wm563 (tb_cons wm564 (tb_cons wm565 (tb_cons wm5 k_Na_setProduct))))) rfl rfl rfl (by decide +kernel) ⟨by rw [hRf]; exact Nat.le_of_ble_eq_true rfl, by rw [hRl]; exact Nat.le_of_ble_eq_true rfl⟩) hho_127 rfl bl_125 bl_126 rfl (Nat.le_of_ble_eq_true rfl) d_Ca_setSum_81) (fun G_128 B_129 p_130 => ?_)
  have lt_131 : p2.natAbs * (q1 / g) < 1000000000 ^ (k2 + k1) := lb_mul hp2 lt_60
  obtain ⟨V_132, s_133, k_134⟩ := p_130
  have f_135 : G_128 hk = some (30, .inr (0, [.ref hd, .ref hc, .ref (ad 5), .ref (ad 6), .ref (ad 7), .ref (ad 8), .ref (ad 9), .ref (ad 10)])) := s_133.2.2 _ _ f_109 (show ¬ (30 = 8) by decide)
  have f_136 : G_128 hd = some (30, .inr (2, [.ref (ad 0), .ref (ad 1), .ref (ad 2)])) := s_133.2.2 _ _ f_110 (show ¬ (30 = 8) by decide)
  have f_137 : G_128 hf = some (to, .inr (3, [.int sf, .ref (ad ta), .ref (ad tb)])) := s_133.2.2 _ _ f_111 (sc_86 hta hta2 htb htb2 htab hto hto2 hkk ht1 ht2)
  have f_138 : G_128 h1 = some (t1, .inr (3, [.int (sgI p1), .ref a1, .ref b1])) := s_133.2.2 _ _ f_112 (sc_87 hta hta2 htb htb2 htab hto hto2 hkk ht1 ht2)
  have f_139 : G_128 h2 = some (t2, .inr (3, [.int (sgI p2), .ref a2, .ref b2])) := s_133.2.2 _ _ f_113 (sc_88 hta hta2 htb htb2 htab hto hto2 hkk ht1 ht2)
  have f_140 : G_128 hc = some (19, .inr (1, [.ref hd, .ref (ad 3), .ref (ad 4), .long g_14, .long g_15, .long g_16, .long g_17])) := s_133.2.2 _ _ f_114 (show ¬ (19 = 8) by decide)
  have k_141 : V_132 3 = g := (s_133.2.1 3 (show ¬ (3 = 8) by decide)).trans k_115
  have k_142 : V_132 5 = g := (s_133.2.1 5 (show ¬ (5 = 8) by decide)).trans k_116
  have k_143 : V_132 7 = q1 / g := (s_133.2.1 7 (show ¬ (7 = 8) by decide)).trans k_117
  have k_144 : V_132 9 = q2 / g := (s_133.2.1 9 (show ¬ (9 = 8) by decide)).trans k_118
  have k_145 : V_132 6 = p1.natAbs * (q2 / g) := (s_133.2.1 6 (show ¬ (6 = 8) by decide)).trans k_108
  have rd_146 := rd_fr rd_119 s_133.2.2 (sc_89 hta hta2 htb htb2 htab hto hto2 hkk ht1 ht2)
  have rd_147 := rd_fr rd_120 s_133.2.2 (sc_89 hta hta2 htb htb2 htab hto hto2 hkk ht1 ht2)
  have rd_148 := rd_fr rd_121 s_133.2.2 (sc_89 hta hta2 htb htb2 htab hto hto2 hkk ht1 ht2)
  have rd_149 := rd_fr rd_122 s_133.2.2 (sc_89 hta hta2 htb htb2 htab hto hto2 hkk ht1 ht2)
  have W_150 := s_133.1
  have S_151 : w2s cA X ad (fun x => x < 11 ∨ x = 19 ∨ x = ta ∨ x = tb ∨ x = to) G V V_132 (G_128, B_129) := w2s_mono (w2s_tr S_124 s_133) (sc_90 hta hta2 htb htb2 htab hto hto2 hkk ht1 ht2)
  have bl_152 : B_129.1 ≤ MC := Nat.le_trans (w2_le W_150).1 hX1
  have bl_153 : B_129.2 ≤ MS := Nat.le_trans (w2_le W_150).2 hX2
  refine gs (pc' := 85) (fun _ _ _ _ _ hl => lv_aload_n hx hb d_Ca_setSum_84 rfl (lv_at hl 1 rfl)) ?_
  refine gs (pc' := 86) (fun _ _ _ _ _ hl => lv_aload_n hx hb d_Ca_setSum_85 rfl (lv_at hl 0 rfl)) ?_
  refine gs (pc' := 87) (fun _ _ _ _ _ hl => lv_aload_n hx hb d_Ca_setSum_86 rfl (lv_at hl 2 rfl)) ?_
  refine g_get hx hb hts hin_Fr hown hK f_138 rfl 0 (by decide) (hts _ wm164) (fun _ h9 => h9) rfl d_Ca_setSum_87 ?_
  obtain ⟨N1, hN1⟩ : ∃ N1 : Int, N1 = p1 * ((q2 / g : Nat) : Int) := ⟨_, rfl⟩
  have hq2g : 0 < q2 / g := Nat.div_pos (by rw [hg]; exact Nat.gcd_le_right _ hq02) hg0
  have hq1g : 0 < q1 / g := Nat.div_pos (by rw [hg]; exact Nat.gcd_le_left _ hq01) hg0
  have hn1 : p1.natAbs * (q2 / g) = N1.natAbs := by rw [hN1]; exact nab_mul _ _
  refine g_eqi (show sgI p1 = sgI N1 from by rw [hN1]; exact (sgI_mulp hq2g).symm) ?_
  refine gs (pc' := 92) (fun _ _ _ _ _ hl => lv_iload hx hb d_Ca_setSum_90 (lv_at hl 4 rfl)) ?_
  refine gsb (pc1 := 103) (pc2 := 95) (fun _ _ _ _ _ => lv_if_eq (tgt := 103) hx hb d_Ca_setSum_92 (by decide)) (fun c_154 => ?_) (fun c_154 => ?_)
  · skip
    have hle : (if le = 0 then p2 else -p2) = p2 := if_pos c_154
    rw [hle] at hret
    refine gs (pc' := 104) (fun _ _ _ _ _ hl => lv_aload_n hx hb d_Ca_setSum_103 rfl (lv_at hl 3 rfl)) ?_
    refine g_get hx hb hts hin_Fr hown hK f_139 rfl 0 (by decide) (hts _ wm164) (fun _ h9 => h9) rfl d_Ca_setSum_104 ?_
    obtain ⟨N2, hN2⟩ : ∃ N2 : Int, N2 = p2 * ((q1 / g : Nat) : Int) := ⟨_, rfl⟩
    have hn2 : p2.natAbs * (q1 / g) = N2.natAbs := by rw [hN2, ← nab_mul]
    refine g_eqi (show sgI p2 = sgI N2 from by rw [hN2]; exact (sgI_mulp hq1g).symm) ?_
    refine g_outi hlo (g_runV (As := [.int (sgI N1), .int (sgI N2)]) (rest := [.ref hf]) ⟨hx, hb, hml, hown, hts⟩ hK hZ hRc hRs (n_joinParts l D cA lo MC MS G_128 B_129 X ad V_132 W_150 hX1 hX2 hk hd hc f_135 f_136 (cdO_i f_140) N1 N2 (k1 + k2) (k_145.trans hn1) (k_134.trans hn2) (by rw [← hn1]; exact lb_up lt_105 (sc_91 hta hta2 htb htb2 htab hto hto2 hkk ht1 ht2)) (by rw [← hn2]; exact lb_up lt_131 (sc_92 hta hta2 htb htb2 htab hto hto2 hkk ht1 ht2)) (sc_93 hta hta2 htb htb2 htab hto hto2 hkk ht1 ht2)) (fun _ _ => cwV 2 hts (tb_good (tb_cons wm568 (tb_cons wm570 (tb_cons ws12 (tb_cons wm3 k_Ca_joinParts))))) rfl rfl rfl (by decide +kernel) ⟨by rw [hRf]; exact Nat.le_of_ble_eq_true rfl, by rw [hRl]; exact Nat.le_of_ble_eq_true rfl⟩) f_135 rfl bl_152 bl_153 rfl (Nat.le_of_ble_eq_true rfl) d_Ca_setSum_107) (fun r_158 G_155 B_156 p_157 => ?_)
    have lt_163 : (N1 + N2).natAbs < 1000000000 ^ (k1 + k2 + 1) := lb_sum (by rw [← hn1]; exact lb_up lt_105 (sc_91 hta hta2 htb htb2 htab hto hto2 hkk ht1 ht2)) (by rw [← hn2]; exact lb_up lt_131 (sc_92 hta hta2 htb htb2 htab hto hto2 hkk ht1 ht2))
    obtain ⟨e_162, V_159, s_160, k_161⟩ := p_157
    subst e_162
    have f_164 : G_155 hk = some (30, .inr (0, [.ref hd, .ref hc, .ref (ad 5), .ref (ad 6), .ref (ad 7), .ref (ad 8), .ref (ad 9), .ref (ad 10)])) := s_160.2.2 _ _ f_135 (show ¬ (30 = 10) by decide)
    have f_165 : G_155 hd = some (30, .inr (2, [.ref (ad 0), .ref (ad 1), .ref (ad 2)])) := s_160.2.2 _ _ f_136 (show ¬ (30 = 10) by decide)
    have f_166 : G_155 hf = some (to, .inr (3, [.int sf, .ref (ad ta), .ref (ad tb)])) := s_160.2.2 _ _ f_137 (sc_94 hta hta2 htb htb2 htab hto hto2 hkk ht1 ht2)
    have f_167 : G_155 h1 = some (t1, .inr (3, [.int (sgI p1), .ref a1, .ref b1])) := s_160.2.2 _ _ f_138 (sc_95 hta hta2 htb htb2 htab hto hto2 hkk ht1 ht2)
    have f_168 : G_155 h2 = some (t2, .inr (3, [.int (sgI p2), .ref a2, .ref b2])) := s_160.2.2 _ _ f_139 (sc_96 hta hta2 htb htb2 htab hto hto2 hkk ht1 ht2)
    have f_169 : G_155 hc = some (19, .inr (1, [.ref hd, .ref (ad 3), .ref (ad 4), .long g_14, .long g_15, .long g_16, .long g_17])) := s_160.2.2 _ _ f_140 (show ¬ (19 = 10) by decide)
    have k_170 : V_159 3 = g := (s_160.2.1 3 (show ¬ (3 = 10) by decide)).trans k_141
    have k_171 : V_159 5 = g := (s_160.2.1 5 (show ¬ (5 = 10) by decide)).trans k_142
    have k_172 : V_159 7 = q1 / g := (s_160.2.1 7 (show ¬ (7 = 10) by decide)).trans k_143
    have k_173 : V_159 9 = q2 / g := (s_160.2.1 9 (show ¬ (9 = 10) by decide)).trans k_144
    have k_174 : V_159 6 = p1.natAbs * (q2 / g) := (s_160.2.1 6 (show ¬ (6 = 10) by decide)).trans k_145
    have k_175 : V_159 8 = p2.natAbs * (q1 / g) := (s_160.2.1 8 (show ¬ (8 = 10) by decide)).trans k_134
    have rd_176 := rd_fr rd_146 s_160.2.2 (sc_97 hta hta2 htb htb2 htab hto hto2 hkk ht1 ht2)
    have rd_177 := rd_fr rd_147 s_160.2.2 (sc_97 hta hta2 htb htb2 htab hto hto2 hkk ht1 ht2)
    have rd_178 := rd_fr rd_148 s_160.2.2 (sc_97 hta hta2 htb htb2 htab hto hto2 hkk ht1 ht2)
    have rd_179 := rd_fr rd_149 s_160.2.2 (sc_97 hta hta2 htb htb2 htab hto hto2 hkk ht1 ht2)
    have W_180 := s_160.1
    have S_181 : w2s cA X ad (fun x => x < 11 ∨ x = 19 ∨ x = ta ∨ x = tb ∨ x = to) G V V_159 (G_155, B_156) := w2s_mono (w2s_tr S_151 s_160) (sc_98 hta hta2 htb htb2 htab hto hto2 hkk ht1 ht2)
    have bl_182 : B_156.1 ≤ MC := Nat.le_trans (w2_le W_180).1 hX1
    have bl_183 : B_156.2 ≤ MS := Nat.le_trans (w2_le W_180).2 hX2
    refine g_put (ty := .int) hx hb hts hin_Fr ty_Fr ty_Fr_ok nm_Fr hown hK f_166 rfl 0 (by decide) (hts _ wm164) (fun _ h9 => h9) rfl (by decide +kernel) rfl rfl (Nat.le_of_ble_eq_true rfl) d_Ca_setSum_110 (fun G_184 f_185 o_186 => ?_)
    have f_187 : G_184 hf = some (to, .inr (3, [.int (sgI (N1 + N2)), .ref (ad ta), .ref (ad tb)])) := f_185
    have fr_188 : gfr (fun x => x = to) G_155 G_184 := gfr_put gfr_rf f_166 rfl o_186
    have s_189 : w2s cA X ad (fun x => x = to) G_155 V_159 V_159 (G_184, B_156) := ⟨w2_fr W_180 fr_188 (sc_99 hta hta2 htb htb2 htab hto hto2 hkk ht1 ht2), fun _ _ => rfl, fr_188⟩
    have f_190 : G_184 hk = some (30, .inr (0, [.ref hd, .ref hc, .ref (ad 5), .ref (ad 6), .ref (ad 7), .ref (ad 8), .ref (ad 9), .ref (ad 10)])) := s_189.2.2 _ _ f_164 (sc_100 hta hta2 htb htb2 htab hto hto2 hkk ht1 ht2)
    have f_191 : G_184 hd = some (30, .inr (2, [.ref (ad 0), .ref (ad 1), .ref (ad 2)])) := s_189.2.2 _ _ f_165 (sc_100 hta hta2 htb htb2 htab hto hto2 hkk ht1 ht2)
    have f_192 : G_184 h1 = some (t1, .inr (3, [.int (sgI p1), .ref a1, .ref b1])) := s_189.2.2 _ _ f_167 (sc_101 hta hta2 htb htb2 htab hto hto2 hkk ht1 ht2)
    have f_193 : G_184 h2 = some (t2, .inr (3, [.int (sgI p2), .ref a2, .ref b2])) := s_189.2.2 _ _ f_168 (sc_102 hta hta2 htb htb2 htab hto hto2 hkk ht1 ht2)
    have f_194 : G_184 hc = some (19, .inr (1, [.ref hd, .ref (ad 3), .ref (ad 4), .long g_14, .long g_15, .long g_16, .long g_17])) := s_189.2.2 _ _ f_169 (sc_103 hta hta2 htb htb2 htab hto hto2 hkk ht1 ht2)
    have k_195 : V_159 3 = g := (s_189.2.1 3 (sc_104 hta hta2 htb htb2 htab hto hto2 hkk ht1 ht2)).trans k_170
    have k_196 : V_159 5 = g := (s_189.2.1 5 (sc_105 hta hta2 htb htb2 htab hto hto2 hkk ht1 ht2)).trans k_171
    have k_197 : V_159 7 = q1 / g := (s_189.2.1 7 (sc_106 hta hta2 htb htb2 htab hto hto2 hkk ht1 ht2)).trans k_172
    have k_198 : V_159 9 = q2 / g := (s_189.2.1 9 (sc_107 hta hta2 htb htb2 htab hto hto2 hkk ht1 ht2)).trans k_173
    have k_199 : V_159 6 = p1.natAbs * (q2 / g) := (s_189.2.1 6 (sc_108 hta hta2 htb htb2 htab hto hto2 hkk ht1 ht2)).trans k_174
    have k_200 : V_159 8 = p2.natAbs * (q1 / g) := (s_189.2.1 8 (sc_109 hta hta2 htb htb2 htab hto hto2 hkk ht1 ht2)).trans k_175
    have k_201 : V_159 10 = (N1 + N2).natAbs := (s_189.2.1 10 (sc_110 hta hta2 htb htb2 htab hto hto2 hkk ht1 ht2)).trans k_161
    have rd_202 := rd_fr rd_176 s_189.2.2 (sc_111 hta hta2 htb htb2 htab hto hto2 hkk ht1 ht2)
    have rd_203 := rd_fr rd_177 s_189.2.2 (sc_111 hta hta2 htb htb2 htab hto hto2 hkk ht1 ht2)
    have rd_204 := rd_fr rd_178 s_189.2.2 (sc_111 hta hta2 htb htb2 htab hto hto2 hkk ht1 ht2)
    have rd_205 := rd_fr rd_179 s_189.2.2 (sc_111 hta hta2 htb htb2 htab hto hto2 hkk ht1 ht2)
    have W_206 := s_189.1
    have S_207 : w2s cA X ad (fun x => x < 11 ∨ x = 19 ∨ x = ta ∨ x = tb ∨ x = to) G V V_159 (G_184, B_156) := w2s_mono (w2s_tr S_181 s_189) (sc_112 hta hta2 htb htb2 htab hto hto2 hkk ht1 ht2)
    have bl_208 : B_156.1 ≤ MC := Nat.le_trans (w2_le W_206).1 hX1
    have bl_209 : B_156.2 ≤ MS := Nat.le_trans (w2_le W_206).2 hX2
    refine gs (pc' := 114) (fun _ _ _ _ _ hl => lv_aload_n hx hb d_Ca_setSum_113 rfl (lv_at hl 0 rfl)) ?_
    refine g_get hx hb hts hin_Ca hown hK f_190 rfl 1 (by decide) (hts _ wm131) (fun _ h9 => h9) rfl d_Ca_setSum_114 ?_
    refine gs (pc' := 118) (fun _ _ _ _ _ hl => lv_aload_n hx hb d_Ca_setSum_117 rfl (lv_at hl 0 rfl)) ?_
    refine g_get hx hb hts hin_Ca hown hK f_190 rfl 7 (by decide) (hts _ wm137) (fun _ h9 => h9) rfl d_Ca_setSum_118 ?_
    refine gs (pc' := 122) (fun _ _ _ _ _ hl => lv_aload_n hx hb d_Ca_setSum_121 rfl (lv_at hl 0 rfl)) ?_
    refine g_get hx hb hts hin_Ca hown hK f_190 rfl 2 (by decide) (hts _ wm132) (fun _ h9 => h9) rfl d_Ca_setSum_122 ?_
    have lt_210 : (N1 + N2).natAbs < 1000000000 ^ (k1 + k2 + 1) := lb_up lt_163 (sc_113 hta hta2 htb htb2 htab hto hto2 hkk ht1 ht2)
    have lt_211 : g < 1000000000 ^ (k1 + k2 + 1) := lb_up lt_18 (sc_114 hta hta2 htb htb2 htab hto hto2 hkk ht1 ht2)
    refine g_outr hlo (g_runV (As := [.ref (ad 10), .ref (ad 5)]) (rest := []) ⟨hx, hb, hml, hown, hts⟩ hK hZ hRc hRs (n_find l D cA lo MC MS G_184 B_156 X ad V_159 W_206 hX1 hX2 hd hc g_14 g_15 g_16 g_17 f_194 f_191 (ad 10) ((N1 + N2).natAbs) (ad 5) g (k1 + k2 + 1) (rd_w2' (P := fun x => 5 ≤ x ∧ ¬ x = 19) W_206 (by decide) (by decide) k_201) (rd_w2' (P := fun x => 5 ≤ x ∧ ¬ x = 19) W_206 (by decide) (by decide) k_196) lt_210 lt_211 (sc_93 hta hta2 htb htb2 htab hto hto2 hkk ht1 ht2)) (fun _ _ => cwV 2 hts (tb_good (tb_cons wm399 (tb_cons wm400 (tb_cons wm401 (tb_cons wm7 k_Cd_find))))) rfl rfl rfl (by decide +kernel) ⟨by rw [hRf]; exact Nat.le_of_ble_eq_true rfl, by rw [hRl]; exact Nat.le_of_ble_eq_true rfl⟩) f_194 rfl bl_208 bl_209 rfl (Nat.le_of_ble_eq_true rfl) d_Ca_setSum_125) (fun r_215 G_212 B_213 p_214 => ?_)
    obtain ⟨e_219, V_216, s_217, k_218, g_221, g_222, g_223, g_224, f_220⟩ := p_214
    subst e_219
    have lt_225 : Nat.gcd ((N1 + N2).natAbs) g < 1000000000 ^ (k1 + k2 + 1) := lb_gcd lt_210 lt_211
    have f_226 : G_212 hk = some (30, .inr (0, [.ref hd, .ref hc, .ref (ad 5), .ref (ad 6), .ref (ad 7), .ref (ad 8), .ref (ad 9), .ref (ad 10)])) := s_217.2.2 _ _ f_190 (show ¬ (30 < 5 ∨ 30 = 19) by decide)
    have f_227 : G_212 hd = some (30, .inr (2, [.ref (ad 0), .ref (ad 1), .ref (ad 2)])) := s_217.2.2 _ _ f_191 (show ¬ (30 < 5 ∨ 30 = 19) by decide)
    have f_228 : G_212 h1 = some (t1, .inr (3, [.int (sgI p1), .ref a1, .ref b1])) := s_217.2.2 _ _ f_192 (sc_55 hta hta2 htb htb2 htab hto hto2 hkk ht1 ht2)
    have f_229 : G_212 h2 = some (t2, .inr (3, [.int (sgI p2), .ref a2, .ref b2])) := s_217.2.2 _ _ f_193 (sc_56 hta hta2 htb htb2 htab hto hto2 hkk ht1 ht2)
    have f_230 : G_212 hf = some (to, .inr (3, [.int (sgI (N1 + N2)), .ref (ad ta), .ref (ad tb)])) := s_217.2.2 _ _ f_187 (sc_54 hta hta2 htb htb2 htab hto hto2 hkk ht1 ht2)
    have k_231 : V_216 5 = g := (s_217.2.1 5 (show ¬ (5 < 5 ∨ 5 = 19) by decide)).trans k_196
    have k_232 : V_216 7 = q1 / g := (s_217.2.1 7 (show ¬ (7 < 5 ∨ 7 = 19) by decide)).trans k_197
    have k_233 : V_216 9 = q2 / g := (s_217.2.1 9 (show ¬ (9 < 5 ∨ 9 = 19) by decide)).trans k_198
    have k_234 : V_216 6 = p1.natAbs * (q2 / g) := (s_217.2.1 6 (show ¬ (6 < 5 ∨ 6 = 19) by decide)).trans k_199
    have k_235 : V_216 8 = p2.natAbs * (q1 / g) := (s_217.2.1 8 (show ¬ (8 < 5 ∨ 8 = 19) by decide)).trans k_200
    have k_236 : V_216 10 = (N1 + N2).natAbs := (s_217.2.1 10 (show ¬ (10 < 5 ∨ 10 = 19) by decide)).trans k_201
    have rd_237 := rd_fr rd_202 s_217.2.2 (sc_57 hta hta2 htb htb2 htab hto hto2 hkk ht1 ht2)
    have rd_238 := rd_fr rd_203 s_217.2.2 (sc_57 hta hta2 htb htb2 htab hto hto2 hkk ht1 ht2)
    have rd_239 := rd_fr rd_204 s_217.2.2 (sc_57 hta hta2 htb htb2 htab hto hto2 hkk ht1 ht2)
    have rd_240 := rd_fr rd_205 s_217.2.2 (sc_57 hta hta2 htb htb2 htab hto hto2 hkk ht1 ht2)
    have W_241 := s_217.1
    have S_242 : w2s cA X ad (fun x => x < 11 ∨ x = 19 ∨ x = ta ∨ x = tb ∨ x = to) G V V_216 (G_212, B_213) := w2s_mono (w2s_tr S_207 s_217) (sc_58 hta hta2 htb htb2 htab hto hto2 hkk ht1 ht2)
    have bl_243 : B_213.1 ≤ MC := Nat.le_trans (w2_le W_241).1 hX1
    have bl_244 : B_213.2 ≤ MS := Nat.le_trans (w2_le W_241).2 hX2
    refine gst (pc' := 130) (L' := [(5, .ref (ad 3)), (0, .ref hk), (1, .ref hf), (2, .ref h1), (3, .ref h2), (4, .int le)]) (fun _ _ _ _ _ hl => lv_astore hx hb d_Ca_setSum_128 hl (by decide) rfl) ?_
    obtain ⟨g2, hg2⟩ : ∃ g2, g2 = Nat.gcd (N1 + N2).natAbs g := ⟨_, rfl⟩
    have hg20 : 0 < g2 := by rw [hg2]; exact Nat.gcd_pos_of_pos_right _ hg0
    rw [← hg2] at k_218 lt_225
    refine gs (pc' := 131) (fun _ _ _ _ _ hl => lv_aload_n hx hb d_Ca_setSum_130 rfl (lv_at hl 1 rfl)) ?_
    refine gs (pc' := 132) (fun _ _ _ _ _ hl => lv_aload_n hx hb d_Ca_setSum_131 rfl (lv_at hl 2 rfl)) ?_
    refine g_get hx hb hts hin_Fr hown hK f_230 rfl 1 (by decide) (hts _ wm167) (fun _ h9 => h9) rfl d_Ca_setSum_132 ?_
    refine gs (pc' := 136) (fun _ _ _ _ _ hl => lv_aload_n hx hb d_Ca_setSum_135 rfl (lv_at hl 1 rfl)) ?_
    refine g_get hx hb hts hin_Ca hown hK f_226 rfl 7 (by decide) (hts _ wm137) (fun _ h9 => h9) rfl d_Ca_setSum_136 ?_
    refine gs (pc' := 141) (fun _ _ _ _ _ hl => lv_aload hx hb d_Ca_setSum_139 (lv_at hl 0 rfl)) ?_
    refine g_outv hlo (g_runV (As := [.ref (ad ta), .ref (ad 10), .ref (ad 3)]) (rest := []) ⟨hx, hb, hml, hown, hts⟩ hK hZ hRc hRs (n_setQuotient l D cA lo MC MS G_212 B_213 X ad V_216 W_241 hX1 hX2 hk hd hc f_226 f_227 (cdO_i f_220) ta (sc_115 hta hta2 htb htb2 htab hto hto2 hkk ht1 ht2) (sc_116 hta hta2 htb htb2 htab hto hto2 hkk ht1 ht2) (ad 10) ((N1 + N2).natAbs) (ad 3) g2 (k1 + k2 + 1) (rd_w2' (P := fun x => 3 ≤ x) W_241 (by decide) (by decide) k_236) (rd_w2' (P := fun x => 3 ≤ x) W_241 (by decide) (by decide) k_218) lt_163 (sc_93 hta hta2 htb htb2 htab hto hto2 hkk ht1 ht2) hg20) (fun _ _ => cwV 3 hts (tb_good (tb_cons wm489 (tb_cons wm491 (tb_cons ws9 (tb_cons wm3 k_Ca_setQuotient))))) rfl rfl rfl (by decide +kernel) ⟨by rw [hRf]; exact Nat.le_of_ble_eq_true rfl, by rw [hRl]; exact Nat.le_of_ble_eq_true rfl⟩) f_226 rfl bl_243 bl_244 rfl (Nat.le_of_ble_eq_true rfl) d_Ca_setSum_141) (fun G_245 B_246 p_247 => ?_)
    obtain ⟨V_248, s_249, k_250⟩ := p_247
    have lt_251 : ((N1 + N2).natAbs) / g2 < 1000000000 ^ (k1 + k2 + 1) := Nat.lt_of_le_of_lt (Nat.div_le_self _ _) lt_163
    have f_252 : G_245 hk = some (30, .inr (0, [.ref hd, .ref hc, .ref (ad 5), .ref (ad 6), .ref (ad 7), .ref (ad 8), .ref (ad 9), .ref (ad 10)])) := s_249.2.2 _ _ f_226 (sc_117 hta hta2 htb htb2 htab hto hto2 hkk ht1 ht2)
    have f_253 : G_245 hd = some (30, .inr (2, [.ref (ad 0), .ref (ad 1), .ref (ad 2)])) := s_249.2.2 _ _ f_227 (sc_117 hta hta2 htb htb2 htab hto hto2 hkk ht1 ht2)
    have f_254 : G_245 h1 = some (t1, .inr (3, [.int (sgI p1), .ref a1, .ref b1])) := s_249.2.2 _ _ f_228 (sc_118 hta hta2 htb htb2 htab hto hto2 hkk ht1 ht2)
    have f_255 : G_245 h2 = some (t2, .inr (3, [.int (sgI p2), .ref a2, .ref b2])) := s_249.2.2 _ _ f_229 (sc_119 hta hta2 htb htb2 htab hto hto2 hkk ht1 ht2)
    have f_256 : G_245 hf = some (to, .inr (3, [.int (sgI (N1 + N2)), .ref (ad ta), .ref (ad tb)])) := s_249.2.2 _ _ f_230 (sc_120 hta hta2 htb htb2 htab hto hto2 hkk ht1 ht2)
    have f_257 : G_245 hc = some (19, .inr (1, [.ref hd, .ref (ad 3), .ref (ad 4), .long g_221, .long g_222, .long g_223, .long g_224])) := s_249.2.2 _ _ f_220 (sc_121 hta hta2 htb htb2 htab hto hto2 hkk ht1 ht2)
    have k_258 : V_248 5 = g := (s_249.2.1 5 (sc_122 hta hta2 htb htb2 htab hto hto2 hkk ht1 ht2)).trans k_231
    have k_259 : V_248 7 = q1 / g := (s_249.2.1 7 (sc_123 hta hta2 htb htb2 htab hto hto2 hkk ht1 ht2)).trans k_232
    have k_260 : V_248 9 = q2 / g := (s_249.2.1 9 (sc_124 hta hta2 htb htb2 htab hto hto2 hkk ht1 ht2)).trans k_233
    have k_261 : V_248 6 = p1.natAbs * (q2 / g) := (s_249.2.1 6 (sc_125 hta hta2 htb htb2 htab hto hto2 hkk ht1 ht2)).trans k_234
    have k_262 : V_248 8 = p2.natAbs * (q1 / g) := (s_249.2.1 8 (sc_126 hta hta2 htb htb2 htab hto hto2 hkk ht1 ht2)).trans k_235
    have k_263 : V_248 10 = (N1 + N2).natAbs := (s_249.2.1 10 (sc_127 hta hta2 htb htb2 htab hto hto2 hkk ht1 ht2)).trans k_236
    have k_264 : V_248 3 = g2 := (s_249.2.1 3 (sc_128 hta hta2 htb htb2 htab hto hto2 hkk ht1 ht2)).trans k_218
    have rd_265 := rd_fr rd_237 s_249.2.2 (sc_129 hta hta2 htb htb2 htab hto hto2 hkk ht1 ht2)
    have rd_266 := rd_fr rd_238 s_249.2.2 (sc_129 hta hta2 htb htb2 htab hto hto2 hkk ht1 ht2)
    have rd_267 := rd_fr rd_239 s_249.2.2 (sc_129 hta hta2 htb htb2 htab hto hto2 hkk ht1 ht2)
    have rd_268 := rd_fr rd_240 s_249.2.2 (sc_129 hta hta2 htb htb2 htab hto hto2 hkk ht1 ht2)
    have W_269 := s_249.1
    have S_270 : w2s cA X ad (fun x => x < 11 ∨ x = 19 ∨ x = ta ∨ x = tb ∨ x = to) G V V_248 (G_245, B_246) := w2s_mono (w2s_tr S_242 s_249) (sc_130 hta hta2 htb htb2 htab hto hto2 hkk ht1 ht2)
    have bl_271 : B_246.1 ≤ MC := Nat.le_trans (w2_le W_269).1 hX1
    have bl_272 : B_246.2 ≤ MS := Nat.le_trans (w2_le W_269).2 hX2
    refine gs (pc' := 145) (fun _ _ _ _ _ hl => lv_aload_n hx hb d_Ca_setSum_144 rfl (lv_at hl 1 rfl)) ?_
    refine gs (pc' := 146) (fun _ _ _ _ _ hl => lv_aload_n hx hb d_Ca_setSum_145 rfl (lv_at hl 1 rfl)) ?_
    refine g_get hx hb hts hin_Ca hown hK f_252 rfl 6 (by decide) (hts _ wm136) (fun _ h9 => h9) rfl d_Ca_setSum_146 ?_
    refine gs (pc' := 150) (fun _ _ _ _ _ hl => lv_aload_n hx hb d_Ca_setSum_149 rfl (lv_at hl 4 rfl)) ?_
    refine g_get hx hb hts hin_Fr hown hK f_255 rfl 2 (by decide) (hts _ wm170) (fun _ h9 => h9) rfl d_Ca_setSum_150 ?_
    refine gs (pc' := 155) (fun _ _ _ _ _ hl => lv_aload hx hb d_Ca_setSum_153 (lv_at hl 0 rfl)) ?_
    refine g_outv hlo (g_runV (As := [.ref (ad 9), .ref b2, .ref (ad 3)]) (rest := []) ⟨hx, hb, hml, hown, hts⟩ hK hZ hRc hRs (n_setQuotient l D cA lo MC MS G_245 B_246 X ad V_248 W_269 hX1 hX2 hk hd hc f_252 f_253 (cdO_i f_257) 9 (by decide) (by decide) b2 q2 (ad 3) g2 k2 (rd_mono (P1 := fun x => 3 ≤ x) rd_268 (sc_65 hta hta2 htb htb2 htab hto hto2 hkk ht1 ht2)) (rd_w2' (P := fun x => 3 ≤ x) W_269 (by decide) (by decide) k_264) hq2 (sc_72 hta hta2 htb htb2 htab hto hto2 hkk ht1 ht2) hg20) (fun _ _ => cwV 3 hts (tb_good (tb_cons wm489 (tb_cons wm491 (tb_cons ws9 (tb_cons wm3 k_Ca_setQuotient))))) rfl rfl rfl (by decide +kernel) ⟨by rw [hRf]; exact Nat.le_of_ble_eq_true rfl, by rw [hRl]; exact Nat.le_of_ble_eq_true rfl⟩) f_252 rfl bl_271 bl_272 rfl (Nat.le_of_ble_eq_true rfl) d_Ca_setSum_155) (fun G_273 B_274 p_275 => ?_)
    obtain ⟨V_276, s_277, k_278⟩ := p_275
    have lt_279 : q2 / g2 < 1000000000 ^ k2 := Nat.lt_of_le_of_lt (Nat.div_le_self _ _) hq2
    have f_280 : G_273 hk = some (30, .inr (0, [.ref hd, .ref hc, .ref (ad 5), .ref (ad 6), .ref (ad 7), .ref (ad 8), .ref (ad 9), .ref (ad 10)])) := s_277.2.2 _ _ f_252 (show ¬ (30 < 3 ∨ 30 = 9) by decide)
    have f_281 : G_273 hd = some (30, .inr (2, [.ref (ad 0), .ref (ad 1), .ref (ad 2)])) := s_277.2.2 _ _ f_253 (show ¬ (30 < 3 ∨ 30 = 9) by decide)
    have f_282 : G_273 h1 = some (t1, .inr (3, [.int (sgI p1), .ref a1, .ref b1])) := s_277.2.2 _ _ f_254 (sc_74 hta hta2 htb htb2 htab hto hto2 hkk ht1 ht2)
    have f_283 : G_273 h2 = some (t2, .inr (3, [.int (sgI p2), .ref a2, .ref b2])) := s_277.2.2 _ _ f_255 (sc_75 hta hta2 htb htb2 htab hto hto2 hkk ht1 ht2)
    have f_284 : G_273 hf = some (to, .inr (3, [.int (sgI (N1 + N2)), .ref (ad ta), .ref (ad tb)])) := s_277.2.2 _ _ f_256 (sc_73 hta hta2 htb htb2 htab hto hto2 hkk ht1 ht2)
    have f_285 : G_273 hc = some (19, .inr (1, [.ref hd, .ref (ad 3), .ref (ad 4), .long g_221, .long g_222, .long g_223, .long g_224])) := s_277.2.2 _ _ f_257 (show ¬ (19 < 3 ∨ 19 = 9) by decide)
    have k_286 : V_276 5 = g := (s_277.2.1 5 (show ¬ (5 < 3 ∨ 5 = 9) by decide)).trans k_258
    have k_287 : V_276 7 = q1 / g := (s_277.2.1 7 (show ¬ (7 < 3 ∨ 7 = 9) by decide)).trans k_259
    have k_288 : V_276 6 = p1.natAbs * (q2 / g) := (s_277.2.1 6 (show ¬ (6 < 3 ∨ 6 = 9) by decide)).trans k_261
    have k_289 : V_276 8 = p2.natAbs * (q1 / g) := (s_277.2.1 8 (show ¬ (8 < 3 ∨ 8 = 9) by decide)).trans k_262
    have k_290 : V_276 10 = (N1 + N2).natAbs := (s_277.2.1 10 (show ¬ (10 < 3 ∨ 10 = 9) by decide)).trans k_263
    have k_291 : V_276 3 = g2 := (s_277.2.1 3 (show ¬ (3 < 3 ∨ 3 = 9) by decide)).trans k_264
    have k_292 : V_276 ta = ((N1 + N2).natAbs) / g2 := (s_277.2.1 ta (sc_131 hta hta2 htb htb2 htab hto hto2 hkk ht1 ht2)).trans k_250
    have rd_293 := rd_fr rd_265 s_277.2.2 (sc_76 hta hta2 htb htb2 htab hto hto2 hkk ht1 ht2)
    have rd_294 := rd_fr rd_266 s_277.2.2 (sc_76 hta hta2 htb htb2 htab hto hto2 hkk ht1 ht2)
    have rd_295 := rd_fr rd_267 s_277.2.2 (sc_76 hta hta2 htb htb2 htab hto hto2 hkk ht1 ht2)
    have rd_296 := rd_fr rd_268 s_277.2.2 (sc_76 hta hta2 htb htb2 htab hto hto2 hkk ht1 ht2)
    have W_297 := s_277.1
    have S_298 : w2s cA X ad (fun x => x < 11 ∨ x = 19 ∨ x = ta ∨ x = tb ∨ x = to) G V V_276 (G_273, B_274) := w2s_mono (w2s_tr S_270 s_277) (sc_77 hta hta2 htb htb2 htab hto hto2 hkk ht1 ht2)
    have bl_299 : B_274.1 ≤ MC := Nat.le_trans (w2_le W_297).1 hX1
    have bl_300 : B_274.2 ≤ MS := Nat.le_trans (w2_le W_297).2 hX2
    refine gs (pc' := 159) (fun _ _ _ _ _ hl => lv_aload_n hx hb d_Ca_setSum_158 rfl (lv_at hl 2 rfl)) ?_
    refine g_get hx hb hts hin_Fr hown hK f_284 rfl 2 (by decide) (hts _ wm170) (fun _ h9 => h9) rfl d_Ca_setSum_159 ?_
    refine gs (pc' := 163) (fun _ _ _ _ _ hl => lv_aload_n hx hb d_Ca_setSum_162 rfl (lv_at hl 1 rfl)) ?_
    refine g_get hx hb hts hin_Ca hown hK f_280 rfl 4 (by decide) (hts _ wm134) (fun _ h9 => h9) rfl d_Ca_setSum_163 ?_
    refine gs (pc' := 167) (fun _ _ _ _ _ hl => lv_aload_n hx hb d_Ca_setSum_166 rfl (lv_at hl 1 rfl)) ?_
    refine g_get hx hb hts hin_Ca hown hK f_280 rfl 6 (by decide) (hts _ wm136) (fun _ h9 => h9) rfl d_Ca_setSum_167 ?_
    obtain ⟨κo_301, ao_301, zo_301, fo_301, hho_301, hao_301, hzo_301, hDo_301, hco_301⟩ := w2_N W_297 (sc_132 hta hta2 htb htb2 htab hto hto2 hkk ht1 ht2)
    have hbo_301 : zo_301 ≤ 3000 := Nat.le_trans hzo_301 hco_301
    refine g_outv hlo (g_runV (As := [.ref (ad 7), .ref (ad 9)]) (rest := []) ⟨hx, hb, hml, hown, hts⟩ hK hZ hRc hRs (n_setProduct l D cA lo MC MS G_273 B_274 X ad V_276 W_297 hX1 hX2 tb (sc_132 hta hta2 htb htb2 htab hto hto2 hkk ht1 ht2) (ad 7) (q1 / g) k1 (rd_w2' (P := fun x => ¬ x = tb) W_297 (by decide) (sc_133 hta hta2 htb htb2 htab hto hto2 hkk ht1 ht2) k_287) lt_60 (ad 9) (q2 / g2) k2 (rd_w2' (P := fun x => ¬ x = tb) W_297 (by decide) (sc_134 hta hta2 htb htb2 htab hto hto2 hkk ht1 ht2) k_278) lt_279 (sc_59 hta hta2 htb htb2 htab hto hto2 hkk ht1 ht2)) (fun _ _ => cwV 2 hts (tb_good (tb_cons wm563 (tb_cons wm564 (tb_cons wm565 (tb_cons wm5 k_Na_setProduct))))) rfl rfl rfl (by decide +kernel) ⟨by rw [hRf]; exact Nat.le_of_ble_eq_true rfl, by rw [hRl]; exact Nat.le_of_ble_eq_true rfl⟩) hho_301 rfl bl_299 bl_300 rfl (Nat.le_of_ble_eq_true rfl) d_Ca_setSum_170) (fun G_302 B_303 p_304 => ?_)
    have lt_305 : (q1 / g) * (q2 / g2) < 1000000000 ^ (k1 + k2) := lb_mul lt_60 lt_279
    obtain ⟨V_306, s_307, k_308⟩ := p_304
    have f_309 : G_302 hk = some (30, .inr (0, [.ref hd, .ref hc, .ref (ad 5), .ref (ad 6), .ref (ad 7), .ref (ad 8), .ref (ad 9), .ref (ad 10)])) := s_307.2.2 _ _ f_280 (sc_135 hta hta2 htb htb2 htab hto hto2 hkk ht1 ht2)
    have f_310 : G_302 hd = some (30, .inr (2, [.ref (ad 0), .ref (ad 1), .ref (ad 2)])) := s_307.2.2 _ _ f_281 (sc_135 hta hta2 htb htb2 htab hto hto2 hkk ht1 ht2)
    have f_311 : G_302 h1 = some (t1, .inr (3, [.int (sgI p1), .ref a1, .ref b1])) := s_307.2.2 _ _ f_282 (sc_136 hta hta2 htb htb2 htab hto hto2 hkk ht1 ht2)
    have f_312 : G_302 h2 = some (t2, .inr (3, [.int (sgI p2), .ref a2, .ref b2])) := s_307.2.2 _ _ f_283 (sc_137 hta hta2 htb htb2 htab hto hto2 hkk ht1 ht2)
    have f_313 : G_302 hf = some (to, .inr (3, [.int (sgI (N1 + N2)), .ref (ad ta), .ref (ad tb)])) := s_307.2.2 _ _ f_284 (sc_138 hta hta2 htb htb2 htab hto hto2 hkk ht1 ht2)
    have f_314 : G_302 hc = some (19, .inr (1, [.ref hd, .ref (ad 3), .ref (ad 4), .long g_221, .long g_222, .long g_223, .long g_224])) := s_307.2.2 _ _ f_285 (sc_139 hta hta2 htb htb2 htab hto hto2 hkk ht1 ht2)
    have k_315 : V_306 5 = g := (s_307.2.1 5 (sc_140 hta hta2 htb htb2 htab hto hto2 hkk ht1 ht2)).trans k_286
    have k_316 : V_306 7 = q1 / g := (s_307.2.1 7 (sc_141 hta hta2 htb htb2 htab hto hto2 hkk ht1 ht2)).trans k_287
    have k_317 : V_306 6 = p1.natAbs * (q2 / g) := (s_307.2.1 6 (sc_142 hta hta2 htb htb2 htab hto hto2 hkk ht1 ht2)).trans k_288
    have k_318 : V_306 8 = p2.natAbs * (q1 / g) := (s_307.2.1 8 (sc_143 hta hta2 htb htb2 htab hto hto2 hkk ht1 ht2)).trans k_289
    have k_319 : V_306 10 = (N1 + N2).natAbs := (s_307.2.1 10 (sc_144 hta hta2 htb htb2 htab hto hto2 hkk ht1 ht2)).trans k_290
    have k_320 : V_306 3 = g2 := (s_307.2.1 3 (sc_145 hta hta2 htb htb2 htab hto hto2 hkk ht1 ht2)).trans k_291
    have k_321 : V_306 ta = ((N1 + N2).natAbs) / g2 := (s_307.2.1 ta (sc_146 hta hta2 htb htb2 htab hto hto2 hkk ht1 ht2)).trans k_292
    have k_322 : V_306 9 = q2 / g2 := (s_307.2.1 9 (sc_147 hta hta2 htb htb2 htab hto hto2 hkk ht1 ht2)).trans k_278
    have rd_323 := rd_fr rd_293 s_307.2.2 (sc_148 hta hta2 htb htb2 htab hto hto2 hkk ht1 ht2)
    have rd_324 := rd_fr rd_294 s_307.2.2 (sc_148 hta hta2 htb htb2 htab hto hto2 hkk ht1 ht2)
    have rd_325 := rd_fr rd_295 s_307.2.2 (sc_148 hta hta2 htb htb2 htab hto hto2 hkk ht1 ht2)
    have rd_326 := rd_fr rd_296 s_307.2.2 (sc_148 hta hta2 htb htb2 htab hto hto2 hkk ht1 ht2)
    have W_327 := s_307.1
    have S_328 : w2s cA X ad (fun x => x < 11 ∨ x = 19 ∨ x = ta ∨ x = tb ∨ x = to) G V V_306 (G_302, B_303) := w2s_mono (w2s_tr S_298 s_307) (sc_149 hta hta2 htb htb2 htab hto hto2 hkk ht1 ht2)
    have bl_329 : B_303.1 ≤ MC := Nat.le_trans (w2_le W_327).1 hX1
    have bl_330 : B_303.2 ≤ MS := Nat.le_trans (w2_le W_327).2 hX2
    have hfs := fr_sum (N1 := p1) (N2 := p2) hq01 hq02 hco1 (hco2) hg (t := (N1 + N2).natAbs) (by rw [hN1, hN2]) hg2
    have hsg : sgI (N1 + N2) = sgI (frn (p1 * q2 + p2 * q1) (q1 * q2)) := by
      rw [frn_sg, ← sgI_mulp (p := N1 + N2) hg0]
      congr 1
      rw [hN1, hN2, Int.add_mul, Int.mul_assoc, Int.mul_assoc, ← Int.natCast_mul, ← Int.natCast_mul, Nat.div_mul_cancel (by rw [hg]; exact Nat.gcd_dvd_right _ _), Nat.div_mul_cancel (by rw [hg]; exact Nat.gcd_dvd_left _ _)]
    exact hret 173 _ _ _ d_Ca_setSum_173 bl_329 bl_330 ⟨V_306, S_328, k_321.trans (hfs.1.trans (frn_abs _ _).symm), k_308.trans hfs.2, by rw [← hsg]; exact f_313, cdO_i f_314⟩
  · skip
    have hle : (if le = 0 then p2 else -p2) = -p2 := if_neg c_154
    rw [hle] at hret
    refine gs (pc' := 96) (fun _ _ _ _ _ hl => lv_aload_n hx hb d_Ca_setSum_95 rfl (lv_at hl 3 rfl)) ?_
    refine g_get hx hb hts hin_Fr hown hK f_139 rfl 0 (by decide) (hts _ wm164) (fun _ h9 => h9) rfl d_Ca_setSum_96 ?_
    refine gs (pc' := 100) (fun _ _ _ _ _ hl => lv_ineg hx hb d_Ca_setSum_99) ?_
    obtain ⟨N2, hN2⟩ : ∃ N2 : Int, N2 = (-p2) * ((q1 / g : Nat) : Int) := ⟨_, rfl⟩
    have hn2 : p2.natAbs * (q1 / g) = N2.natAbs := by rw [hN2, ← nab_mul, Int.natAbs_neg]
    refine g_eqi (show -(sgI p2) = sgI N2 from (sgI_opp p2).trans (by rw [hN2]; exact (sgI_mulp hq1g).symm)) ?_
    refine gs (pc' := 107) (fun _ _ _ _ _ hl => lv_goto (tgt := 107) hx hb d_Ca_setSum_100 (by decide)) ?_
    refine g_outi hlo (g_runV (As := [.int (sgI N1), .int (sgI N2)]) (rest := [.ref hf]) ⟨hx, hb, hml, hown, hts⟩ hK hZ hRc hRs (n_joinParts l D cA lo MC MS G_128 B_129 X ad V_132 W_150 hX1 hX2 hk hd hc f_135 f_136 (cdO_i f_140) N1 N2 (k1 + k2) (k_145.trans hn1) (k_134.trans hn2) (by rw [← hn1]; exact lb_up lt_105 (sc_91 hta hta2 htb htb2 htab hto hto2 hkk ht1 ht2)) (by rw [← hn2]; exact lb_up lt_131 (sc_92 hta hta2 htb htb2 htab hto hto2 hkk ht1 ht2)) (sc_93 hta hta2 htb htb2 htab hto hto2 hkk ht1 ht2)) (fun _ _ => cwV 2 hts (tb_good (tb_cons wm568 (tb_cons wm570 (tb_cons ws12 (tb_cons wm3 k_Ca_joinParts))))) rfl rfl rfl (by decide +kernel) ⟨by rw [hRf]; exact Nat.le_of_ble_eq_true rfl, by rw [hRl]; exact Nat.le_of_ble_eq_true rfl⟩) f_135 rfl bl_152 bl_153 rfl (Nat.le_of_ble_eq_true rfl) d_Ca_setSum_107) (fun r_334 G_331 B_332 p_333 => ?_)
    have lt_339 : (N1 + N2).natAbs < 1000000000 ^ (k1 + k2 + 1) := lb_sum (by rw [← hn1]; exact lb_up lt_105 (sc_91 hta hta2 htb htb2 htab hto hto2 hkk ht1 ht2)) (by rw [← hn2]; exact lb_up lt_131 (sc_92 hta hta2 htb htb2 htab hto hto2 hkk ht1 ht2))
    obtain ⟨e_338, V_335, s_336, k_337⟩ := p_333
    subst e_338
    have f_340 : G_331 hk = some (30, .inr (0, [.ref hd, .ref hc, .ref (ad 5), .ref (ad 6), .ref (ad 7), .ref (ad 8), .ref (ad 9), .ref (ad 10)])) := s_336.2.2 _ _ f_135 (show ¬ (30 = 10) by decide)
    have f_341 : G_331 hd = some (30, .inr (2, [.ref (ad 0), .ref (ad 1), .ref (ad 2)])) := s_336.2.2 _ _ f_136 (show ¬ (30 = 10) by decide)
    have f_342 : G_331 hf = some (to, .inr (3, [.int sf, .ref (ad ta), .ref (ad tb)])) := s_336.2.2 _ _ f_137 (sc_94 hta hta2 htb htb2 htab hto hto2 hkk ht1 ht2)
    have f_343 : G_331 h1 = some (t1, .inr (3, [.int (sgI p1), .ref a1, .ref b1])) := s_336.2.2 _ _ f_138 (sc_95 hta hta2 htb htb2 htab hto hto2 hkk ht1 ht2)
    have f_344 : G_331 h2 = some (t2, .inr (3, [.int (sgI p2), .ref a2, .ref b2])) := s_336.2.2 _ _ f_139 (sc_96 hta hta2 htb htb2 htab hto hto2 hkk ht1 ht2)
    have f_345 : G_331 hc = some (19, .inr (1, [.ref hd, .ref (ad 3), .ref (ad 4), .long g_14, .long g_15, .long g_16, .long g_17])) := s_336.2.2 _ _ f_140 (show ¬ (19 = 10) by decide)
    have k_346 : V_335 3 = g := (s_336.2.1 3 (show ¬ (3 = 10) by decide)).trans k_141
    have k_347 : V_335 5 = g := (s_336.2.1 5 (show ¬ (5 = 10) by decide)).trans k_142
    have k_348 : V_335 7 = q1 / g := (s_336.2.1 7 (show ¬ (7 = 10) by decide)).trans k_143
    have k_349 : V_335 9 = q2 / g := (s_336.2.1 9 (show ¬ (9 = 10) by decide)).trans k_144
    have k_350 : V_335 6 = p1.natAbs * (q2 / g) := (s_336.2.1 6 (show ¬ (6 = 10) by decide)).trans k_145
    have k_351 : V_335 8 = p2.natAbs * (q1 / g) := (s_336.2.1 8 (show ¬ (8 = 10) by decide)).trans k_134
    have rd_352 := rd_fr rd_146 s_336.2.2 (sc_97 hta hta2 htb htb2 htab hto hto2 hkk ht1 ht2)
    have rd_353 := rd_fr rd_147 s_336.2.2 (sc_97 hta hta2 htb htb2 htab hto hto2 hkk ht1 ht2)
    have rd_354 := rd_fr rd_148 s_336.2.2 (sc_97 hta hta2 htb htb2 htab hto hto2 hkk ht1 ht2)
    have rd_355 := rd_fr rd_149 s_336.2.2 (sc_97 hta hta2 htb htb2 htab hto hto2 hkk ht1 ht2)
    have W_356 := s_336.1
    have S_357 : w2s cA X ad (fun x => x < 11 ∨ x = 19 ∨ x = ta ∨ x = tb ∨ x = to) G V V_335 (G_331, B_332) := w2s_mono (w2s_tr S_151 s_336) (sc_98 hta hta2 htb htb2 htab hto hto2 hkk ht1 ht2)
    have bl_358 : B_332.1 ≤ MC := Nat.le_trans (w2_le W_356).1 hX1
    have bl_359 : B_332.2 ≤ MS := Nat.le_trans (w2_le W_356).2 hX2
    refine g_put (ty := .int) hx hb hts hin_Fr ty_Fr ty_Fr_ok nm_Fr hown hK f_342 rfl 0 (by decide) (hts _ wm164) (fun _ h9 => h9) rfl (by decide +kernel) rfl rfl (Nat.le_of_ble_eq_true rfl) d_Ca_setSum_110 (fun G_360 f_361 o_362 => ?_)
    have f_363 : G_360 hf = some (to, .inr (3, [.int (sgI (N1 + N2)), .ref (ad ta), .ref (ad tb)])) := f_361
    have fr_364 : gfr (fun x => x = to) G_331 G_360 := gfr_put gfr_rf f_342 rfl o_362
    have s_365 : w2s cA X ad (fun x => x = to) G_331 V_335 V_335 (G_360, B_332) := ⟨w2_fr W_356 fr_364 (sc_99 hta hta2 htb htb2 htab hto hto2 hkk ht1 ht2), fun _ _ => rfl, fr_364⟩
    have f_366 : G_360 hk = some (30, .inr (0, [.ref hd, .ref hc, .ref (ad 5), .ref (ad 6), .ref (ad 7), .ref (ad 8), .ref (ad 9), .ref (ad 10)])) := s_365.2.2 _ _ f_340 (sc_100 hta hta2 htb htb2 htab hto hto2 hkk ht1 ht2)
    have f_367 : G_360 hd = some (30, .inr (2, [.ref (ad 0), .ref (ad 1), .ref (ad 2)])) := s_365.2.2 _ _ f_341 (sc_100 hta hta2 htb htb2 htab hto hto2 hkk ht1 ht2)
    have f_368 : G_360 h1 = some (t1, .inr (3, [.int (sgI p1), .ref a1, .ref b1])) := s_365.2.2 _ _ f_343 (sc_101 hta hta2 htb htb2 htab hto hto2 hkk ht1 ht2)
    have f_369 : G_360 h2 = some (t2, .inr (3, [.int (sgI p2), .ref a2, .ref b2])) := s_365.2.2 _ _ f_344 (sc_102 hta hta2 htb htb2 htab hto hto2 hkk ht1 ht2)
    have f_370 : G_360 hc = some (19, .inr (1, [.ref hd, .ref (ad 3), .ref (ad 4), .long g_14, .long g_15, .long g_16, .long g_17])) := s_365.2.2 _ _ f_345 (sc_103 hta hta2 htb htb2 htab hto hto2 hkk ht1 ht2)
    have k_371 : V_335 3 = g := (s_365.2.1 3 (sc_104 hta hta2 htb htb2 htab hto hto2 hkk ht1 ht2)).trans k_346
    have k_372 : V_335 5 = g := (s_365.2.1 5 (sc_105 hta hta2 htb htb2 htab hto hto2 hkk ht1 ht2)).trans k_347
    have k_373 : V_335 7 = q1 / g := (s_365.2.1 7 (sc_106 hta hta2 htb htb2 htab hto hto2 hkk ht1 ht2)).trans k_348
    have k_374 : V_335 9 = q2 / g := (s_365.2.1 9 (sc_107 hta hta2 htb htb2 htab hto hto2 hkk ht1 ht2)).trans k_349
    have k_375 : V_335 6 = p1.natAbs * (q2 / g) := (s_365.2.1 6 (sc_108 hta hta2 htb htb2 htab hto hto2 hkk ht1 ht2)).trans k_350
    have k_376 : V_335 8 = p2.natAbs * (q1 / g) := (s_365.2.1 8 (sc_109 hta hta2 htb htb2 htab hto hto2 hkk ht1 ht2)).trans k_351
    have k_377 : V_335 10 = (N1 + N2).natAbs := (s_365.2.1 10 (sc_110 hta hta2 htb htb2 htab hto hto2 hkk ht1 ht2)).trans k_337
    have rd_378 := rd_fr rd_352 s_365.2.2 (sc_111 hta hta2 htb htb2 htab hto hto2 hkk ht1 ht2)
    have rd_379 := rd_fr rd_353 s_365.2.2 (sc_111 hta hta2 htb htb2 htab hto hto2 hkk ht1 ht2)
    have rd_380 := rd_fr rd_354 s_365.2.2 (sc_111 hta hta2 htb htb2 htab hto hto2 hkk ht1 ht2)
    have rd_381 := rd_fr rd_355 s_365.2.2 (sc_111 hta hta2 htb htb2 htab hto hto2 hkk ht1 ht2)
    have W_382 := s_365.1
    have S_383 : w2s cA X ad (fun x => x < 11 ∨ x = 19 ∨ x = ta ∨ x = tb ∨ x = to) G V V_335 (G_360, B_332) := w2s_mono (w2s_tr S_357 s_365) (sc_112 hta hta2 htb htb2 htab hto hto2 hkk ht1 ht2)
    have bl_384 : B_332.1 ≤ MC := Nat.le_trans (w2_le W_382).1 hX1
    have bl_385 : B_332.2 ≤ MS := Nat.le_trans (w2_le W_382).2 hX2
    refine gs (pc' := 114) (fun _ _ _ _ _ hl => lv_aload_n hx hb d_Ca_setSum_113 rfl (lv_at hl 0 rfl)) ?_
    refine g_get hx hb hts hin_Ca hown hK f_366 rfl 1 (by decide) (hts _ wm131) (fun _ h9 => h9) rfl d_Ca_setSum_114 ?_
    refine gs (pc' := 118) (fun _ _ _ _ _ hl => lv_aload_n hx hb d_Ca_setSum_117 rfl (lv_at hl 0 rfl)) ?_
    refine g_get hx hb hts hin_Ca hown hK f_366 rfl 7 (by decide) (hts _ wm137) (fun _ h9 => h9) rfl d_Ca_setSum_118 ?_
    refine gs (pc' := 122) (fun _ _ _ _ _ hl => lv_aload_n hx hb d_Ca_setSum_121 rfl (lv_at hl 0 rfl)) ?_
    refine g_get hx hb hts hin_Ca hown hK f_366 rfl 2 (by decide) (hts _ wm132) (fun _ h9 => h9) rfl d_Ca_setSum_122 ?_
    have lt_386 : (N1 + N2).natAbs < 1000000000 ^ (k1 + k2 + 1) := lb_up lt_339 (sc_113 hta hta2 htb htb2 htab hto hto2 hkk ht1 ht2)
    have lt_387 : g < 1000000000 ^ (k1 + k2 + 1) := lb_up lt_18 (sc_114 hta hta2 htb htb2 htab hto hto2 hkk ht1 ht2)
    refine g_outr hlo (g_runV (As := [.ref (ad 10), .ref (ad 5)]) (rest := []) ⟨hx, hb, hml, hown, hts⟩ hK hZ hRc hRs (n_find l D cA lo MC MS G_360 B_332 X ad V_335 W_382 hX1 hX2 hd hc g_14 g_15 g_16 g_17 f_370 f_367 (ad 10) ((N1 + N2).natAbs) (ad 5) g (k1 + k2 + 1) (rd_w2' (P := fun x => 5 ≤ x ∧ ¬ x = 19) W_382 (by decide) (by decide) k_377) (rd_w2' (P := fun x => 5 ≤ x ∧ ¬ x = 19) W_382 (by decide) (by decide) k_372) lt_386 lt_387 (sc_93 hta hta2 htb htb2 htab hto hto2 hkk ht1 ht2)) (fun _ _ => cwV 2 hts (tb_good (tb_cons wm399 (tb_cons wm400 (tb_cons wm401 (tb_cons wm7 k_Cd_find))))) rfl rfl rfl (by decide +kernel) ⟨by rw [hRf]; exact Nat.le_of_ble_eq_true rfl, by rw [hRl]; exact Nat.le_of_ble_eq_true rfl⟩) f_370 rfl bl_384 bl_385 rfl (Nat.le_of_ble_eq_true rfl) d_Ca_setSum_125) (fun r_391 G_388 B_389 p_390 => ?_)
    obtain ⟨e_395, V_392, s_393, k_394, g_397, g_398, g_399, g_400, f_396⟩ := p_390
    subst e_395
    have lt_401 : Nat.gcd ((N1 + N2).natAbs) g < 1000000000 ^ (k1 + k2 + 1) := lb_gcd lt_386 lt_387
    have f_402 : G_388 hk = some (30, .inr (0, [.ref hd, .ref hc, .ref (ad 5), .ref (ad 6), .ref (ad 7), .ref (ad 8), .ref (ad 9), .ref (ad 10)])) := s_393.2.2 _ _ f_366 (show ¬ (30 < 5 ∨ 30 = 19) by decide)
    have f_403 : G_388 hd = some (30, .inr (2, [.ref (ad 0), .ref (ad 1), .ref (ad 2)])) := s_393.2.2 _ _ f_367 (show ¬ (30 < 5 ∨ 30 = 19) by decide)
    have f_404 : G_388 h1 = some (t1, .inr (3, [.int (sgI p1), .ref a1, .ref b1])) := s_393.2.2 _ _ f_368 (sc_55 hta hta2 htb htb2 htab hto hto2 hkk ht1 ht2)
    have f_405 : G_388 h2 = some (t2, .inr (3, [.int (sgI p2), .ref a2, .ref b2])) := s_393.2.2 _ _ f_369 (sc_56 hta hta2 htb htb2 htab hto hto2 hkk ht1 ht2)
    have f_406 : G_388 hf = some (to, .inr (3, [.int (sgI (N1 + N2)), .ref (ad ta), .ref (ad tb)])) := s_393.2.2 _ _ f_363 (sc_54 hta hta2 htb htb2 htab hto hto2 hkk ht1 ht2)
    have k_407 : V_392 5 = g := (s_393.2.1 5 (show ¬ (5 < 5 ∨ 5 = 19) by decide)).trans k_372
    have k_408 : V_392 7 = q1 / g := (s_393.2.1 7 (show ¬ (7 < 5 ∨ 7 = 19) by decide)).trans k_373
    have k_409 : V_392 9 = q2 / g := (s_393.2.1 9 (show ¬ (9 < 5 ∨ 9 = 19) by decide)).trans k_374
    have k_410 : V_392 6 = p1.natAbs * (q2 / g) := (s_393.2.1 6 (show ¬ (6 < 5 ∨ 6 = 19) by decide)).trans k_375
    have k_411 : V_392 8 = p2.natAbs * (q1 / g) := (s_393.2.1 8 (show ¬ (8 < 5 ∨ 8 = 19) by decide)).trans k_376
    have k_412 : V_392 10 = (N1 + N2).natAbs := (s_393.2.1 10 (show ¬ (10 < 5 ∨ 10 = 19) by decide)).trans k_377
    have rd_413 := rd_fr rd_378 s_393.2.2 (sc_57 hta hta2 htb htb2 htab hto hto2 hkk ht1 ht2)
    have rd_414 := rd_fr rd_379 s_393.2.2 (sc_57 hta hta2 htb htb2 htab hto hto2 hkk ht1 ht2)
    have rd_415 := rd_fr rd_380 s_393.2.2 (sc_57 hta hta2 htb htb2 htab hto hto2 hkk ht1 ht2)
    have rd_416 := rd_fr rd_381 s_393.2.2 (sc_57 hta hta2 htb htb2 htab hto hto2 hkk ht1 ht2)
    have W_417 := s_393.1
    have S_418 : w2s cA X ad (fun x => x < 11 ∨ x = 19 ∨ x = ta ∨ x = tb ∨ x = to) G V V_392 (G_388, B_389) := w2s_mono (w2s_tr S_383 s_393) (sc_58 hta hta2 htb htb2 htab hto hto2 hkk ht1 ht2)
    have bl_419 : B_389.1 ≤ MC := Nat.le_trans (w2_le W_417).1 hX1
    have bl_420 : B_389.2 ≤ MS := Nat.le_trans (w2_le W_417).2 hX2
    refine gst (pc' := 130) (L' := [(5, .ref (ad 3)), (0, .ref hk), (1, .ref hf), (2, .ref h1), (3, .ref h2), (4, .int le)]) (fun _ _ _ _ _ hl => lv_astore hx hb d_Ca_setSum_128 hl (by decide) rfl) ?_
    obtain ⟨g2, hg2⟩ : ∃ g2, g2 = Nat.gcd (N1 + N2).natAbs g := ⟨_, rfl⟩
    have hg20 : 0 < g2 := by rw [hg2]; exact Nat.gcd_pos_of_pos_right _ hg0
    rw [← hg2] at k_394 lt_401
    refine gs (pc' := 131) (fun _ _ _ _ _ hl => lv_aload_n hx hb d_Ca_setSum_130 rfl (lv_at hl 1 rfl)) ?_
    refine gs (pc' := 132) (fun _ _ _ _ _ hl => lv_aload_n hx hb d_Ca_setSum_131 rfl (lv_at hl 2 rfl)) ?_
    refine g_get hx hb hts hin_Fr hown hK f_406 rfl 1 (by decide) (hts _ wm167) (fun _ h9 => h9) rfl d_Ca_setSum_132 ?_
    refine gs (pc' := 136) (fun _ _ _ _ _ hl => lv_aload_n hx hb d_Ca_setSum_135 rfl (lv_at hl 1 rfl)) ?_
    refine g_get hx hb hts hin_Ca hown hK f_402 rfl 7 (by decide) (hts _ wm137) (fun _ h9 => h9) rfl d_Ca_setSum_136 ?_
    refine gs (pc' := 141) (fun _ _ _ _ _ hl => lv_aload hx hb d_Ca_setSum_139 (lv_at hl 0 rfl)) ?_
    refine g_outv hlo (g_runV (As := [.ref (ad ta), .ref (ad 10), .ref (ad 3)]) (rest := []) ⟨hx, hb, hml, hown, hts⟩ hK hZ hRc hRs (n_setQuotient l D cA lo MC MS G_388 B_389 X ad V_392 W_417 hX1 hX2 hk hd hc f_402 f_403 (cdO_i f_396) ta (sc_115 hta hta2 htb htb2 htab hto hto2 hkk ht1 ht2) (sc_116 hta hta2 htb htb2 htab hto hto2 hkk ht1 ht2) (ad 10) ((N1 + N2).natAbs) (ad 3) g2 (k1 + k2 + 1) (rd_w2' (P := fun x => 3 ≤ x) W_417 (by decide) (by decide) k_412) (rd_w2' (P := fun x => 3 ≤ x) W_417 (by decide) (by decide) k_394) lt_339 (sc_93 hta hta2 htb htb2 htab hto hto2 hkk ht1 ht2) hg20) (fun _ _ => cwV 3 hts (tb_good (tb_cons wm489 (tb_cons wm491 (tb_cons ws9 (tb_cons wm3 k_Ca_setQuotient))))) rfl rfl rfl (by decide +kernel) ⟨by rw [hRf]; exact Nat.le_of_ble_eq_true rfl, by rw [hRl]; exact Nat.le_of_ble_eq_true rfl⟩) f_402 rfl bl_419 bl_420 rfl (Nat.le_of_ble_eq_true rfl) d_Ca_setSum_141) (fun G_421 B_422 p_423 => ?_)
    obtain ⟨V_424, s_425, k_426⟩ := p_423
    have lt_427 : ((N1 + N2).natAbs) / g2 < 1000000000 ^ (k1 + k2 + 1) := Nat.lt_of_le_of_lt (Nat.div_le_self _ _) lt_339
    have f_428 : G_421 hk = some (30, .inr (0, [.ref hd, .ref hc, .ref (ad 5), .ref (ad 6), .ref (ad 7), .ref (ad 8), .ref (ad 9), .ref (ad 10)])) := s_425.2.2 _ _ f_402 (sc_117 hta hta2 htb htb2 htab hto hto2 hkk ht1 ht2)
    have f_429 : G_421 hd = some (30, .inr (2, [.ref (ad 0), .ref (ad 1), .ref (ad 2)])) := s_425.2.2 _ _ f_403 (sc_117 hta hta2 htb htb2 htab hto hto2 hkk ht1 ht2)
    have f_430 : G_421 h1 = some (t1, .inr (3, [.int (sgI p1), .ref a1, .ref b1])) := s_425.2.2 _ _ f_404 (sc_118 hta hta2 htb htb2 htab hto hto2 hkk ht1 ht2)
    have f_431 : G_421 h2 = some (t2, .inr (3, [.int (sgI p2), .ref a2, .ref b2])) := s_425.2.2 _ _ f_405 (sc_119 hta hta2 htb htb2 htab hto hto2 hkk ht1 ht2)
    have f_432 : G_421 hf = some (to, .inr (3, [.int (sgI (N1 + N2)), .ref (ad ta), .ref (ad tb)])) := s_425.2.2 _ _ f_406 (sc_120 hta hta2 htb htb2 htab hto hto2 hkk ht1 ht2)
    have f_433 : G_421 hc = some (19, .inr (1, [.ref hd, .ref (ad 3), .ref (ad 4), .long g_397, .long g_398, .long g_399, .long g_400])) := s_425.2.2 _ _ f_396 (sc_121 hta hta2 htb htb2 htab hto hto2 hkk ht1 ht2)
    have k_434 : V_424 5 = g := (s_425.2.1 5 (sc_122 hta hta2 htb htb2 htab hto hto2 hkk ht1 ht2)).trans k_407
    have k_435 : V_424 7 = q1 / g := (s_425.2.1 7 (sc_123 hta hta2 htb htb2 htab hto hto2 hkk ht1 ht2)).trans k_408
    have k_436 : V_424 9 = q2 / g := (s_425.2.1 9 (sc_124 hta hta2 htb htb2 htab hto hto2 hkk ht1 ht2)).trans k_409
    have k_437 : V_424 6 = p1.natAbs * (q2 / g) := (s_425.2.1 6 (sc_125 hta hta2 htb htb2 htab hto hto2 hkk ht1 ht2)).trans k_410
    have k_438 : V_424 8 = p2.natAbs * (q1 / g) := (s_425.2.1 8 (sc_126 hta hta2 htb htb2 htab hto hto2 hkk ht1 ht2)).trans k_411
    have k_439 : V_424 10 = (N1 + N2).natAbs := (s_425.2.1 10 (sc_127 hta hta2 htb htb2 htab hto hto2 hkk ht1 ht2)).trans k_412
    have k_440 : V_424 3 = g2 := (s_425.2.1 3 (sc_128 hta hta2 htb htb2 htab hto hto2 hkk ht1 ht2)).trans k_394
    have rd_441 := rd_fr rd_413 s_425.2.2 (sc_129 hta hta2 htb htb2 htab hto hto2 hkk ht1 ht2)
    have rd_442 := rd_fr rd_414 s_425.2.2 (sc_129 hta hta2 htb htb2 htab hto hto2 hkk ht1 ht2)
    have rd_443 := rd_fr rd_415 s_425.2.2 (sc_129 hta hta2 htb htb2 htab hto hto2 hkk ht1 ht2)
    have rd_444 := rd_fr rd_416 s_425.2.2 (sc_129 hta hta2 htb htb2 htab hto hto2 hkk ht1 ht2)
    have W_445 := s_425.1
    have S_446 : w2s cA X ad (fun x => x < 11 ∨ x = 19 ∨ x = ta ∨ x = tb ∨ x = to) G V V_424 (G_421, B_422) := w2s_mono (w2s_tr S_418 s_425) (sc_130 hta hta2 htb htb2 htab hto hto2 hkk ht1 ht2)
    have bl_447 : B_422.1 ≤ MC := Nat.le_trans (w2_le W_445).1 hX1
    have bl_448 : B_422.2 ≤ MS := Nat.le_trans (w2_le W_445).2 hX2
    refine gs (pc' := 145) (fun _ _ _ _ _ hl => lv_aload_n hx hb d_Ca_setSum_144 rfl (lv_at hl 1 rfl)) ?_
    refine gs (pc' := 146) (fun _ _ _ _ _ hl => lv_aload_n hx hb d_Ca_setSum_145 rfl (lv_at hl 1 rfl)) ?_
    refine g_get hx hb hts hin_Ca hown hK f_428 rfl 6 (by decide) (hts _ wm136) (fun _ h9 => h9) rfl d_Ca_setSum_146 ?_
    refine gs (pc' := 150) (fun _ _ _ _ _ hl => lv_aload_n hx hb d_Ca_setSum_149 rfl (lv_at hl 4 rfl)) ?_
    refine g_get hx hb hts hin_Fr hown hK f_431 rfl 2 (by decide) (hts _ wm170) (fun _ h9 => h9) rfl d_Ca_setSum_150 ?_
    refine gs (pc' := 155) (fun _ _ _ _ _ hl => lv_aload hx hb d_Ca_setSum_153 (lv_at hl 0 rfl)) ?_
    refine g_outv hlo (g_runV (As := [.ref (ad 9), .ref b2, .ref (ad 3)]) (rest := []) ⟨hx, hb, hml, hown, hts⟩ hK hZ hRc hRs (n_setQuotient l D cA lo MC MS G_421 B_422 X ad V_424 W_445 hX1 hX2 hk hd hc f_428 f_429 (cdO_i f_433) 9 (by decide) (by decide) b2 q2 (ad 3) g2 k2 (rd_mono (P1 := fun x => 3 ≤ x) rd_444 (sc_65 hta hta2 htb htb2 htab hto hto2 hkk ht1 ht2)) (rd_w2' (P := fun x => 3 ≤ x) W_445 (by decide) (by decide) k_440) hq2 (sc_72 hta hta2 htb htb2 htab hto hto2 hkk ht1 ht2) hg20) (fun _ _ => cwV 3 hts (tb_good (tb_cons wm489 (tb_cons wm491 (tb_cons ws9 (tb_cons wm3 k_Ca_setQuotient))))) rfl rfl rfl (by decide +kernel) ⟨by rw [hRf]; exact Nat.le_of_ble_eq_true rfl, by rw [hRl]; exact Nat.le_of_ble_eq_true rfl⟩) f_428 rfl bl_447 bl_448 rfl (Nat.le_of_ble_eq_true rfl) d_Ca_setSum_155) (fun G_449 B_450 p_451 => ?_)
    obtain ⟨V_452, s_453, k_454⟩ := p_451
    have lt_455 : q2 / g2 < 1000000000 ^ k2 := Nat.lt_of_le_of_lt (Nat.div_le_self _ _) hq2
    have f_456 : G_449 hk = some (30, .inr (0, [.ref hd, .ref hc, .ref (ad 5), .ref (ad 6), .ref (ad 7), .ref (ad 8), .ref (ad 9), .ref (ad 10)])) := s_453.2.2 _ _ f_428 (show ¬ (30 < 3 ∨ 30 = 9) by decide)
    have f_457 : G_449 hd = some (30, .inr (2, [.ref (ad 0), .ref (ad 1), .ref (ad 2)])) := s_453.2.2 _ _ f_429 (show ¬ (30 < 3 ∨ 30 = 9) by decide)
    have f_458 : G_449 h1 = some (t1, .inr (3, [.int (sgI p1), .ref a1, .ref b1])) := s_453.2.2 _ _ f_430 (sc_74 hta hta2 htb htb2 htab hto hto2 hkk ht1 ht2)
    have f_459 : G_449 h2 = some (t2, .inr (3, [.int (sgI p2), .ref a2, .ref b2])) := s_453.2.2 _ _ f_431 (sc_75 hta hta2 htb htb2 htab hto hto2 hkk ht1 ht2)
    have f_460 : G_449 hf = some (to, .inr (3, [.int (sgI (N1 + N2)), .ref (ad ta), .ref (ad tb)])) := s_453.2.2 _ _ f_432 (sc_73 hta hta2 htb htb2 htab hto hto2 hkk ht1 ht2)
    have f_461 : G_449 hc = some (19, .inr (1, [.ref hd, .ref (ad 3), .ref (ad 4), .long g_397, .long g_398, .long g_399, .long g_400])) := s_453.2.2 _ _ f_433 (show ¬ (19 < 3 ∨ 19 = 9) by decide)
    have k_462 : V_452 5 = g := (s_453.2.1 5 (show ¬ (5 < 3 ∨ 5 = 9) by decide)).trans k_434
    have k_463 : V_452 7 = q1 / g := (s_453.2.1 7 (show ¬ (7 < 3 ∨ 7 = 9) by decide)).trans k_435
    have k_464 : V_452 6 = p1.natAbs * (q2 / g) := (s_453.2.1 6 (show ¬ (6 < 3 ∨ 6 = 9) by decide)).trans k_437
    have k_465 : V_452 8 = p2.natAbs * (q1 / g) := (s_453.2.1 8 (show ¬ (8 < 3 ∨ 8 = 9) by decide)).trans k_438
    have k_466 : V_452 10 = (N1 + N2).natAbs := (s_453.2.1 10 (show ¬ (10 < 3 ∨ 10 = 9) by decide)).trans k_439
    have k_467 : V_452 3 = g2 := (s_453.2.1 3 (show ¬ (3 < 3 ∨ 3 = 9) by decide)).trans k_440
    have k_468 : V_452 ta = ((N1 + N2).natAbs) / g2 := (s_453.2.1 ta (sc_131 hta hta2 htb htb2 htab hto hto2 hkk ht1 ht2)).trans k_426
    have rd_469 := rd_fr rd_441 s_453.2.2 (sc_76 hta hta2 htb htb2 htab hto hto2 hkk ht1 ht2)
    have rd_470 := rd_fr rd_442 s_453.2.2 (sc_76 hta hta2 htb htb2 htab hto hto2 hkk ht1 ht2)
    have rd_471 := rd_fr rd_443 s_453.2.2 (sc_76 hta hta2 htb htb2 htab hto hto2 hkk ht1 ht2)
    have rd_472 := rd_fr rd_444 s_453.2.2 (sc_76 hta hta2 htb htb2 htab hto hto2 hkk ht1 ht2)
    have W_473 := s_453.1
    have S_474 : w2s cA X ad (fun x => x < 11 ∨ x = 19 ∨ x = ta ∨ x = tb ∨ x = to) G V V_452 (G_449, B_450) := w2s_mono (w2s_tr S_446 s_453) (sc_77 hta hta2 htb htb2 htab hto hto2 hkk ht1 ht2)
    have bl_475 : B_450.1 ≤ MC := Nat.le_trans (w2_le W_473).1 hX1
    have bl_476 : B_450.2 ≤ MS := Nat.le_trans (w2_le W_473).2 hX2
    refine gs (pc' := 159) (fun _ _ _ _ _ hl => lv_aload_n hx hb d_Ca_setSum_158 rfl (lv_at hl 2 rfl)) ?_
    refine g_get hx hb hts hin_Fr hown hK f_460 rfl 2 (by decide) (hts _ wm170) (fun _ h9 => h9) rfl d_Ca_setSum_159 ?_
    refine gs (pc' := 163) (fun _ _ _ _ _ hl => lv_aload_n hx hb d_Ca_setSum_162 rfl (lv_at hl 1 rfl)) ?_
    refine g_get hx hb hts hin_Ca hown hK f_456 rfl 4 (by decide) (hts _ wm134) (fun _ h9 => h9) rfl d_Ca_setSum_163 ?_
    refine gs (pc' := 167) (fun _ _ _ _ _ hl => lv_aload_n hx hb d_Ca_setSum_166 rfl (lv_at hl 1 rfl)) ?_
    refine g_get hx hb hts hin_Ca hown hK f_456 rfl 6 (by decide) (hts _ wm136) (fun _ h9 => h9) rfl d_Ca_setSum_167 ?_
    obtain ⟨κo_477, ao_477, zo_477, fo_477, hho_477, hao_477, hzo_477, hDo_477, hco_477⟩ := w2_N W_473 (sc_132 hta hta2 htb htb2 htab hto hto2 hkk ht1 ht2)
    have hbo_477 : zo_477 ≤ 3000 := Nat.le_trans hzo_477 hco_477
    refine g_outv hlo (g_runV (As := [.ref (ad 7), .ref (ad 9)]) (rest := []) ⟨hx, hb, hml, hown, hts⟩ hK hZ hRc hRs (n_setProduct l D cA lo MC MS G_449 B_450 X ad V_452 W_473 hX1 hX2 tb (sc_132 hta hta2 htb htb2 htab hto hto2 hkk ht1 ht2) (ad 7) (q1 / g) k1 (rd_w2' (P := fun x => ¬ x = tb) W_473 (by decide) (sc_133 hta hta2 htb htb2 htab hto hto2 hkk ht1 ht2) k_463) lt_60 (ad 9) (q2 / g2) k2 (rd_w2' (P := fun x => ¬ x = tb) W_473 (by decide) (sc_134 hta hta2 htb htb2 htab hto hto2 hkk ht1 ht2) k_454) lt_455 (sc_59 hta hta2 htb htb2 htab hto hto2 hkk ht1 ht2)) (fun _ _ => cwV 2 hts (tb_good (tb_cons wm563 (tb_cons wm564 (tb_cons wm565 (tb_cons wm5 k_Na_setProduct))))) rfl rfl rfl (by decide +kernel) ⟨by rw [hRf]; exact Nat.le_of_ble_eq_true rfl, by rw [hRl]; exact Nat.le_of_ble_eq_true rfl⟩) hho_477 rfl bl_475 bl_476 rfl (Nat.le_of_ble_eq_true rfl) d_Ca_setSum_170) (fun G_478 B_479 p_480 => ?_)
    have lt_481 : (q1 / g) * (q2 / g2) < 1000000000 ^ (k1 + k2) := lb_mul lt_60 lt_455
    obtain ⟨V_482, s_483, k_484⟩ := p_480
    have f_485 : G_478 hk = some (30, .inr (0, [.ref hd, .ref hc, .ref (ad 5), .ref (ad 6), .ref (ad 7), .ref (ad 8), .ref (ad 9), .ref (ad 10)])) := s_483.2.2 _ _ f_456 (sc_135 hta hta2 htb htb2 htab hto hto2 hkk ht1 ht2)
    have f_486 : G_478 hd = some (30, .inr (2, [.ref (ad 0), .ref (ad 1), .ref (ad 2)])) := s_483.2.2 _ _ f_457 (sc_135 hta hta2 htb htb2 htab hto hto2 hkk ht1 ht2)
    have f_487 : G_478 h1 = some (t1, .inr (3, [.int (sgI p1), .ref a1, .ref b1])) := s_483.2.2 _ _ f_458 (sc_136 hta hta2 htb htb2 htab hto hto2 hkk ht1 ht2)
    have f_488 : G_478 h2 = some (t2, .inr (3, [.int (sgI p2), .ref a2, .ref b2])) := s_483.2.2 _ _ f_459 (sc_137 hta hta2 htb htb2 htab hto hto2 hkk ht1 ht2)
    have f_489 : G_478 hf = some (to, .inr (3, [.int (sgI (N1 + N2)), .ref (ad ta), .ref (ad tb)])) := s_483.2.2 _ _ f_460 (sc_138 hta hta2 htb htb2 htab hto hto2 hkk ht1 ht2)
    have f_490 : G_478 hc = some (19, .inr (1, [.ref hd, .ref (ad 3), .ref (ad 4), .long g_397, .long g_398, .long g_399, .long g_400])) := s_483.2.2 _ _ f_461 (sc_139 hta hta2 htb htb2 htab hto hto2 hkk ht1 ht2)
    have k_491 : V_482 5 = g := (s_483.2.1 5 (sc_140 hta hta2 htb htb2 htab hto hto2 hkk ht1 ht2)).trans k_462
    have k_492 : V_482 7 = q1 / g := (s_483.2.1 7 (sc_141 hta hta2 htb htb2 htab hto hto2 hkk ht1 ht2)).trans k_463
    have k_493 : V_482 6 = p1.natAbs * (q2 / g) := (s_483.2.1 6 (sc_142 hta hta2 htb htb2 htab hto hto2 hkk ht1 ht2)).trans k_464
    have k_494 : V_482 8 = p2.natAbs * (q1 / g) := (s_483.2.1 8 (sc_143 hta hta2 htb htb2 htab hto hto2 hkk ht1 ht2)).trans k_465
    have k_495 : V_482 10 = (N1 + N2).natAbs := (s_483.2.1 10 (sc_144 hta hta2 htb htb2 htab hto hto2 hkk ht1 ht2)).trans k_466
    have k_496 : V_482 3 = g2 := (s_483.2.1 3 (sc_145 hta hta2 htb htb2 htab hto hto2 hkk ht1 ht2)).trans k_467
    have k_497 : V_482 ta = ((N1 + N2).natAbs) / g2 := (s_483.2.1 ta (sc_146 hta hta2 htb htb2 htab hto hto2 hkk ht1 ht2)).trans k_468
    have k_498 : V_482 9 = q2 / g2 := (s_483.2.1 9 (sc_147 hta hta2 htb htb2 htab hto hto2 hkk ht1 ht2)).trans k_454
    have rd_499 := rd_fr rd_469 s_483.2.2 (sc_148 hta hta2 htb htb2 htab hto hto2 hkk ht1 ht2)
    have rd_500 := rd_fr rd_470 s_483.2.2 (sc_148 hta hta2 htb htb2 htab hto hto2 hkk ht1 ht2)
    have rd_501 := rd_fr rd_471 s_483.2.2 (sc_148 hta hta2 htb htb2 htab hto hto2 hkk ht1 ht2)
    have rd_502 := rd_fr rd_472 s_483.2.2 (sc_148 hta hta2 htb htb2 htab hto hto2 hkk ht1 ht2)
    have W_503 := s_483.1
    have S_504 : w2s cA X ad (fun x => x < 11 ∨ x = 19 ∨ x = ta ∨ x = tb ∨ x = to) G V V_482 (G_478, B_479) := w2s_mono (w2s_tr S_474 s_483) (sc_149 hta hta2 htb htb2 htab hto hto2 hkk ht1 ht2)
    have bl_505 : B_479.1 ≤ MC := Nat.le_trans (w2_le W_503).1 hX1
    have bl_506 : B_479.2 ≤ MS := Nat.le_trans (w2_le W_503).2 hX2
    have hfs := fr_sum (N1 := p1) (N2 := -p2) hq01 hq02 hco1 (by rw [Int.natAbs_neg]; exact hco2) hg (t := (N1 + N2).natAbs) (by rw [hN1, hN2]) hg2
    have hsg : sgI (N1 + N2) = sgI (frn (p1 * q2 + (-p2) * q1) (q1 * q2)) := by
      rw [frn_sg, ← sgI_mulp (p := N1 + N2) hg0]
      congr 1
      rw [hN1, hN2, Int.add_mul, Int.mul_assoc, Int.mul_assoc, ← Int.natCast_mul, ← Int.natCast_mul, Nat.div_mul_cancel (by rw [hg]; exact Nat.gcd_dvd_right _ _), Nat.div_mul_cancel (by rw [hg]; exact Nat.gcd_dvd_left _ _)]
    exact hret 173 _ _ _ d_Ca_setSum_173 bl_505 bl_506 ⟨V_482, S_504, k_497.trans (hfs.1.trans (frn_abs _ _).symm), k_484.trans hfs.2, by rw [← hsg]; exact f_489, cdO_i f_490⟩
