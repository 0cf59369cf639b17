set_option maxHeartbeats 4000000 in
set_option maxRecDepth 100000 in
theorem n_joinParts (l : Launch) (D : va_G) (cA : Nat → ClassId) (lo MC MS : Nat) (G : gT) (B : Nat × Nat) (X : Nat × Nat) (ad V : Nat → Nat) (hW : w2 cA X ad V (G, B)) (hX1 : X.1 ≤ MC) (hX2 : X.2 ≤ MS) (hk hd hc : Nat) (hhk : G hk = some (30, .inr (0, [.ref hd, .ref hc, .ref (ad 5), .ref (ad 6), .ref (ad 7), .ref (ad 8), .ref (ad 9), .ref (ad 10)]))) (hhd : G hd = some (30, .inr (2, [.ref (ad 0), .ref (ad 1), .ref (ad 2)]))) (hcd : cdO ad hd hc G) (N1 N2 : Int) (kj : Nat) (hV6 : V 6 = N1.natAbs) (hV8 : V 8 = N2.natAbs) (hl6 : N1.natAbs < 1000000000 ^ kj) (hl8 : N2.natAbs < 1000000000 ^ kj) (hkj : kj + 1 ≤ 1499) : gMet l y_Ca_joinParts w_Ca_joinParts 4 110 D clS (gtys cA) lo MC MS [.ref hk, .int (sgI N1), .int (sgI N2)] G B (gQi D clS lo (fun r u => r = sgI (N1 + N2) ∧ ∃ V1, w2s cA X ad (fun x => x = 10) G V V1 u ∧ V1 10 = (N1 + N2).natAbs)) := by
  refine g_meti (cc := prog_2_method_9_code) (nL := 4) (L := [(0, .ref hk), (1, .int (sgI N1)), (2, .int (sgI N2))]) (by decide +kernel) rfl (Nat.le_of_ble_eq_true rfl) rfl ?_
  intro p e R s m args below meth c Q hF hRc hRs hRf hRl hret
  obtain ⟨hx, hb, hr, hml, hts0, hown, hlocks, hin, hK, hlo, hZ⟩ := hF
  have hts : ∀ w ∈ tbg, w.before args s = true := fun w h => hts0 w (List.mem_cons_of_mem _ h)
  obtain ⟨ga0, gb0, gc0, gd0, hhc⟩ := id hcd
  have hS0 : w2s cA X ad (fun x => x = 10) G V V (G, B) := w2s_rf hW
  have bl_1 := w2_le hW
  refine gs (pc' := 1) (fun _ _ _ _ _ hl => lv_iload_n hx hb d_Ca_joinParts_0 rfl (lv_at hl 1 rfl)) ?_
  refine gs (pc' := 2) (fun _ _ _ _ _ hl => lv_iload_n hx hb d_Ca_joinParts_1 rfl (lv_at hl 2 rfl)) ?_
  refine gs (pc' := 3) (fun _ _ _ _ _ hl => lv_imul hx hb d_Ca_joinParts_2) ?_
  refine g_eqi (show (sgI N1) * (sgI N2) = sgI (N1 * N2) from sgI_mul N1 N2) ?_
  refine gsb (pc1 := 31) (pc2 := 6) (fun _ _ _ _ _ => lv_if_lt (tgt := 31) hx hb d_Ca_joinParts_3 (by decide)) (fun c_2 => ?_) (fun c_2 => ?_)
  · skip
    have hlt : N1 * N2 < 0 := sgI_lt.mp c_2
    have hab := ab_sub hlt
    refine gs (pc' := 32) (fun _ _ _ _ _ hl => lv_aload_n hx hb d_Ca_joinParts_31 rfl (lv_at hl 0 rfl)) ?_
    refine g_get hx hb hts hin_Ca hown hK hhk rfl 3 (by decide) (hts _ wm133) (fun _ h9 => h9) rfl d_Ca_joinParts_32 ?_
    refine gs (pc' := 36) (fun _ _ _ _ _ hl => lv_aload_n hx hb d_Ca_joinParts_35 rfl (lv_at hl 0 rfl)) ?_
    refine g_get hx hb hts hin_Ca hown hK hhk rfl 5 (by decide) (hts _ wm135) (fun _ h9 => h9) rfl d_Ca_joinParts_36 ?_
    obtain ⟨κo_3, ao_3, zo_3, fo_3, hho_3, hao_3, hzo_3, hDo_3, hco_3⟩ := w2_N hW (show 6 < 19 by first | decide | omega)
    rw [hV6] at hDo_3
    have hbo_3 : zo_3 ≤ 3000 := by omega
    refine g_outi hlo (g_runV (As := [.ref (ad 8)]) (rest := []) ⟨hx, hb, hml, hown, hts⟩ hK hZ hRc hRs (n_compare l D cA lo MC MS G B (fun _ => True) (fun _ => True) (ad 6) N1.natAbs (ad 8) N2.natAbs (rd_w2' (P := fun _ => True) hW (by first | decide | omega) (by first | trivial | omega) hV6) (rd_w2' (P := fun _ => True) hW (by first | decide | omega) (by first | trivial | omega) hV8) (show B.1 ≤ MC by omega) (show B.2 ≤ MS by omega)) (fun _ _ => cwV 1 hts (tb_good (tb_cons wm576 (tb_cons wm404 (tb_cons wm405 (tb_cons wm5 k_Na_compare))))) rfl rfl rfl (by decide +kernel) ⟨by rw [hRf]; exact Nat.le_of_ble_eq_true rfl, by rw [hRl]; exact Nat.le_of_ble_eq_true rfl⟩) hho_3 rfl (show B.1 ≤ MC by omega) (show B.2 ≤ MS by omega) rfl (Nat.le_of_ble_eq_true rfl) d_Ca_joinParts_39) (fun r_7 G_4 B_5 p_6 => ?_)
    obtain ⟨u_8, cm_9⟩ := p_6
    cases u_8
    rcases cm_9 with ⟨q_10, hl_11⟩ | ⟨q_10, hl_11⟩ | ⟨q_10, hl_11⟩
    · skip
      subst q_10
      refine gst (pc' := 43) (L' := [(3, .int (-1)), (0, .ref hk), (1, .int (sgI N1)), (2, .int (sgI N2))]) (fun _ _ _ _ _ hl => lv_istore_n hx hb d_Ca_joinParts_42 rfl hl (by decide) rfl) ?_
      refine gs (pc' := 44) (fun _ _ _ _ _ hl => lv_iload_n hx hb d_Ca_joinParts_43 rfl (lv_at hl 0 rfl)) ?_
      refine gsb (pc1 := 65) (pc2 := 47) (fun _ _ _ _ _ => lv_if_lt (tgt := 65) hx hb d_Ca_joinParts_44 (by decide)) (fun c_12 => ?_) (fun c_12 => ?_)
      · skip
        refine gs (pc' := 66) (fun _ _ _ _ _ hl => lv_aload_n hx hb d_Ca_joinParts_65 rfl (lv_at hl 1 rfl)) ?_
        refine g_get hx hb hts hin_Ca hown hK hhk rfl 7 (by decide) (hts _ wm137) (fun _ h9 => h9) rfl d_Ca_joinParts_66 ?_
        refine gs (pc' := 70) (fun _ _ _ _ _ hl => lv_aload_n hx hb d_Ca_joinParts_69 rfl (lv_at hl 1 rfl)) ?_
        refine g_get hx hb hts hin_Ca hown hK hhk rfl 5 (by decide) (hts _ wm135) (fun _ h9 => h9) rfl d_Ca_joinParts_70 ?_
        refine gs (pc' := 74) (fun _ _ _ _ _ hl => lv_aload_n hx hb d_Ca_joinParts_73 rfl (lv_at hl 1 rfl)) ?_
        refine g_get hx hb hts hin_Ca hown hK hhk rfl 3 (by decide) (hts _ wm133) (fun _ h9 => h9) rfl d_Ca_joinParts_74 ?_
        obtain ⟨κo_13, ao_13, zo_13, fo_13, hho_13, hao_13, hzo_13, hDo_13, hco_13⟩ := w2_N hW (show 10 < 19 by first | decide | omega)
        have hbo_13 : zo_13 ≤ 3000 := by omega
        refine g_outv hlo (g_runV (As := [.ref (ad 8), .ref (ad 6)]) (rest := []) ⟨hx, hb, hml, hown, hts⟩ hK hZ hRc hRs (n_setDifference l D cA lo MC MS G B X ad V hW hX1 hX2 10 (by first | decide | omega) (ad 8) N2.natAbs kj (rd_w2' (P := fun x => ¬ x = 10) hW (by first | decide | omega) (by first | trivial | omega) hV8) hl8 (ad 6) N1.natAbs kj (rd_w2' (P := fun x => ¬ x = 10) hW (by first | decide | omega) (by first | trivial | omega) hV6) hl6 (Nat.le_of_lt hl_11) (by omega) (by omega)) (fun _ _ => cwV 2 hts (tb_good (tb_cons wm577 (tb_cons wm578 (tb_cons wm579 (tb_cons wm5 k_Na_setDifference))))) rfl rfl rfl (by decide +kernel) ⟨by rw [hRf]; exact Nat.le_of_ble_eq_true rfl, by rw [hRl]; exact Nat.le_of_ble_eq_true rfl⟩) hho_13 rfl (show B.1 ≤ MC by omega) (show B.2 ≤ MS by omega) rfl (Nat.le_of_ble_eq_true rfl) d_Ca_joinParts_77) (fun G_14 B_15 p_16 => ?_)
        have lt_17 : N2.natAbs - N1.natAbs < 1000000000 ^ kj := Nat.lt_of_le_of_lt (Nat.sub_le _ _) hl8
        obtain ⟨V_18, s_19, k_20⟩ := p_16
        have f_21 : G_14 hk = some (30, .inr (0, [.ref hd, .ref hc, .ref (ad 5), .ref (ad 6), .ref (ad 7), .ref (ad 8), .ref (ad 9), .ref (ad 10)])) := s_19.2.2 _ _ hhk (by first | decide | omega)
        have f_22 : G_14 hd = some (30, .inr (2, [.ref (ad 0), .ref (ad 1), .ref (ad 2)])) := s_19.2.2 _ _ hhd (by first | decide | omega)
        have f_23 : G_14 hc = some (19, .inr (1, [.ref hd, .ref (ad 3), .ref (ad 4), .long ga0, .long gb0, .long gc0, .long gd0])) := s_19.2.2 _ _ hhc (by first | decide | omega)
        have k_24 : V_18 6 = N1.natAbs := (s_19.2.1 6 (by first | decide | omega)).trans hV6
        have k_25 : V_18 8 = N2.natAbs := (s_19.2.1 8 (by first | decide | omega)).trans hV8
        have W_26 := s_19.1
        have S_27 : w2s cA X ad (fun x => x = 10) G V V_18 (G_14, B_15) := w2s_mono (w2s_tr hS0 s_19) (fun _ h => by omega)
        have bl_28 := w2_le W_26
        refine gs (pc' := 81) (fun _ _ _ _ _ hl => lv_iload_n hx hb d_Ca_joinParts_80 rfl (lv_at hl 0 rfl)) ?_
        refine gs (pc' := 82) (fun _ _ _ _ _ hl => lv_iload_n hx hb d_Ca_joinParts_81 rfl (lv_at hl 2 rfl)) ?_
        refine gs (pc' := 83) (fun _ _ _ _ _ hl => lv_imul hx hb d_Ca_joinParts_82) ?_
        exact hret 83 _ _ _ _ d_Ca_joinParts_83 (show B_15.1 ≤ MC by omega) (show B_15.2 ≤ MS by omega) ⟨(hab.2.2.1 hl_11), V_18, S_27, k_20.trans (hab.2.1 hl_11).symm⟩
      · skip
        exact absurd (show (-1 : Int32) < 0 by decide) c_12
    · skip
      subst q_10
      refine gst (pc' := 43) (L' := [(3, .int (nI 0)), (0, .ref hk), (1, .int (sgI N1)), (2, .int (sgI N2))]) (fun _ _ _ _ _ hl => lv_istore_n hx hb d_Ca_joinParts_42 rfl hl (by decide) rfl) ?_
      refine gs (pc' := 44) (fun _ _ _ _ _ hl => lv_iload_n hx hb d_Ca_joinParts_43 rfl (lv_at hl 0 rfl)) ?_
      refine gsb (pc1 := 65) (pc2 := 47) (fun _ _ _ _ _ => lv_if_lt (tgt := 65) hx hb d_Ca_joinParts_44 (by decide)) (fun c_29 => ?_) (fun c_29 => ?_)
      · skip
        have nc_29 : 0 < 0 := (n0_lt (a := 0) (by omega)).1 c_29
        exact absurd nc_29 (by omega)
      · skip
        have nc_29 : 0 ≥ 0 := (n0_lt (a := 0) (by omega)).2 c_29
        refine gs (pc' := 48) (fun _ _ _ _ _ hl => lv_aload_n hx hb d_Ca_joinParts_47 rfl (lv_at hl 1 rfl)) ?_
        refine g_get hx hb hts hin_Ca hown hK hhk rfl 7 (by decide) (hts _ wm137) (fun _ h9 => h9) rfl d_Ca_joinParts_48 ?_
        refine gs (pc' := 52) (fun _ _ _ _ _ hl => lv_aload_n hx hb d_Ca_joinParts_51 rfl (lv_at hl 1 rfl)) ?_
        refine g_get hx hb hts hin_Ca hown hK hhk rfl 3 (by decide) (hts _ wm133) (fun _ h9 => h9) rfl d_Ca_joinParts_52 ?_
        refine gs (pc' := 56) (fun _ _ _ _ _ hl => lv_aload_n hx hb d_Ca_joinParts_55 rfl (lv_at hl 1 rfl)) ?_
        refine g_get hx hb hts hin_Ca hown hK hhk rfl 5 (by decide) (hts _ wm135) (fun _ h9 => h9) rfl d_Ca_joinParts_56 ?_
        obtain ⟨κo_30, ao_30, zo_30, fo_30, hho_30, hao_30, hzo_30, hDo_30, hco_30⟩ := w2_N hW (show 10 < 19 by first | decide | omega)
        have hbo_30 : zo_30 ≤ 3000 := by omega
        refine g_outv hlo (g_runV (As := [.ref (ad 6), .ref (ad 8)]) (rest := []) ⟨hx, hb, hml, hown, hts⟩ hK hZ hRc hRs (n_setDifference l D cA lo MC MS G B X ad V hW hX1 hX2 10 (by first | decide | omega) (ad 6) N1.natAbs kj (rd_w2' (P := fun x => ¬ x = 10) hW (by first | decide | omega) (by first | trivial | omega) hV6) hl6 (ad 8) N2.natAbs kj (rd_w2' (P := fun x => ¬ x = 10) hW (by first | decide | omega) (by first | trivial | omega) hV8) hl8 (Nat.le_of_eq hl_11.symm) (by omega) (by omega)) (fun _ _ => cwV 2 hts (tb_good (tb_cons wm577 (tb_cons wm578 (tb_cons wm579 (tb_cons wm5 k_Na_setDifference))))) rfl rfl rfl (by decide +kernel) ⟨by rw [hRf]; exact Nat.le_of_ble_eq_true rfl, by rw [hRl]; exact Nat.le_of_ble_eq_true rfl⟩) hho_30 rfl (show B.1 ≤ MC by omega) (show B.2 ≤ MS by omega) rfl (Nat.le_of_ble_eq_true rfl) d_Ca_joinParts_59) (fun G_31 B_32 p_33 => ?_)
        have lt_34 : N1.natAbs - N2.natAbs < 1000000000 ^ kj := Nat.lt_of_le_of_lt (Nat.sub_le _ _) hl6
        obtain ⟨V_35, s_36, k_37⟩ := p_33
        have f_38 : G_31 hk = some (30, .inr (0, [.ref hd, .ref hc, .ref (ad 5), .ref (ad 6), .ref (ad 7), .ref (ad 8), .ref (ad 9), .ref (ad 10)])) := s_36.2.2 _ _ hhk (by first | decide | omega)
        have f_39 : G_31 hd = some (30, .inr (2, [.ref (ad 0), .ref (ad 1), .ref (ad 2)])) := s_36.2.2 _ _ hhd (by first | decide | omega)
        have f_40 : G_31 hc = some (19, .inr (1, [.ref hd, .ref (ad 3), .ref (ad 4), .long ga0, .long gb0, .long gc0, .long gd0])) := s_36.2.2 _ _ hhc (by first | decide | omega)
        have k_41 : V_35 6 = N1.natAbs := (s_36.2.1 6 (by first | decide | omega)).trans hV6
        have k_42 : V_35 8 = N2.natAbs := (s_36.2.1 8 (by first | decide | omega)).trans hV8
        have W_43 := s_36.1
        have S_44 : w2s cA X ad (fun x => x = 10) G V V_35 (G_31, B_32) := w2s_mono (w2s_tr hS0 s_36) (fun _ h => by omega)
        have bl_45 := w2_le W_43
        refine gs (pc' := 80) (fun _ _ _ _ _ hl => lv_goto (tgt := 80) hx hb d_Ca_joinParts_62 (by decide)) ?_
        refine gs (pc' := 81) (fun _ _ _ _ _ hl => lv_iload_n hx hb d_Ca_joinParts_80 rfl (lv_at hl 0 rfl)) ?_
        refine gs (pc' := 82) (fun _ _ _ _ _ hl => lv_iload_n hx hb d_Ca_joinParts_81 rfl (lv_at hl 2 rfl)) ?_
        refine gs (pc' := 83) (fun _ _ _ _ _ hl => lv_imul hx hb d_Ca_joinParts_82) ?_
        exact hret 83 _ _ _ _ d_Ca_joinParts_83 (show B_32.1 ≤ MC by omega) (show B_32.2 ≤ MS by omega) ⟨(hab.2.2.2.1 hl_11), V_35, S_44, k_37.trans (hab.1 (Nat.le_of_eq hl_11.symm)).symm⟩
    · skip
      subst q_10
      refine gst (pc' := 43) (L' := [(3, .int (nI 1)), (0, .ref hk), (1, .int (sgI N1)), (2, .int (sgI N2))]) (fun _ _ _ _ _ hl => lv_istore_n hx hb d_Ca_joinParts_42 rfl hl (by decide) rfl) ?_
      refine gs (pc' := 44) (fun _ _ _ _ _ hl => lv_iload_n hx hb d_Ca_joinParts_43 rfl (lv_at hl 0 rfl)) ?_
      refine gsb (pc1 := 65) (pc2 := 47) (fun _ _ _ _ _ => lv_if_lt (tgt := 65) hx hb d_Ca_joinParts_44 (by decide)) (fun c_46 => ?_) (fun c_46 => ?_)
      · skip
        have nc_46 : 1 < 0 := (n0_lt (a := 1) (by omega)).1 c_46
        exact absurd nc_46 (by omega)
      · skip
        have nc_46 : 1 ≥ 0 := (n0_lt (a := 1) (by omega)).2 c_46
        refine gs (pc' := 48) (fun _ _ _ _ _ hl => lv_aload_n hx hb d_Ca_joinParts_47 rfl (lv_at hl 1 rfl)) ?_
        refine g_get hx hb hts hin_Ca hown hK hhk rfl 7 (by decide) (hts _ wm137) (fun _ h9 => h9) rfl d_Ca_joinParts_48 ?_
        refine gs (pc' := 52) (fun _ _ _ _ _ hl => lv_aload_n hx hb d_Ca_joinParts_51 rfl (lv_at hl 1 rfl)) ?_
        refine g_get hx hb hts hin_Ca hown hK hhk rfl 3 (by decide) (hts _ wm133) (fun _ h9 => h9) rfl d_Ca_joinParts_52 ?_
        refine gs (pc' := 56) (fun _ _ _ _ _ hl => lv_aload_n hx hb d_Ca_joinParts_55 rfl (lv_at hl 1 rfl)) ?_
        refine g_get hx hb hts hin_Ca hown hK hhk rfl 5 (by decide) (hts _ wm135) (fun _ h9 => h9) rfl d_Ca_joinParts_56 ?_
        obtain ⟨κo_47, ao_47, zo_47, fo_47, hho_47, hao_47, hzo_47, hDo_47, hco_47⟩ := w2_N hW (show 10 < 19 by first | decide | omega)
        have hbo_47 : zo_47 ≤ 3000 := by omega
        refine g_outv hlo (g_runV (As := [.ref (ad 6), .ref (ad 8)]) (rest := []) ⟨hx, hb, hml, hown, hts⟩ hK hZ hRc hRs (n_setDifference l D cA lo MC MS G B X ad V hW hX1 hX2 10 (by first | decide | omega) (ad 6) N1.natAbs kj (rd_w2' (P := fun x => ¬ x = 10) hW (by first | decide | omega) (by first | trivial | omega) hV6) hl6 (ad 8) N2.natAbs kj (rd_w2' (P := fun x => ¬ x = 10) hW (by first | decide | omega) (by first | trivial | omega) hV8) hl8 (Nat.le_of_lt hl_11) (by omega) (by omega)) (fun _ _ => cwV 2 hts (tb_good (tb_cons wm577 (tb_cons wm578 (tb_cons wm579 (tb_cons wm5 k_Na_setDifference))))) rfl rfl rfl (by decide +kernel) ⟨by rw [hRf]; exact Nat.le_of_ble_eq_true rfl, by rw [hRl]; exact Nat.le_of_ble_eq_true rfl⟩) hho_47 rfl (show B.1 ≤ MC by omega) (show B.2 ≤ MS by omega) rfl (Nat.le_of_ble_eq_true rfl) d_Ca_joinParts_59) (fun G_48 B_49 p_50 => ?_)
        have lt_51 : N1.natAbs - N2.natAbs < 1000000000 ^ kj := Nat.lt_of_le_of_lt (Nat.sub_le _ _) hl6
        obtain ⟨V_52, s_53, k_54⟩ := p_50
        have f_55 : G_48 hk = some (30, .inr (0, [.ref hd, .ref hc, .ref (ad 5), .ref (ad 6), .ref (ad 7), .ref (ad 8), .ref (ad 9), .ref (ad 10)])) := s_53.2.2 _ _ hhk (by first | decide | omega)
        have f_56 : G_48 hd = some (30, .inr (2, [.ref (ad 0), .ref (ad 1), .ref (ad 2)])) := s_53.2.2 _ _ hhd (by first | decide | omega)
        have f_57 : G_48 hc = some (19, .inr (1, [.ref hd, .ref (ad 3), .ref (ad 4), .long ga0, .long gb0, .long gc0, .long gd0])) := s_53.2.2 _ _ hhc (by first | decide | omega)
        have k_58 : V_52 6 = N1.natAbs := (s_53.2.1 6 (by first | decide | omega)).trans hV6
        have k_59 : V_52 8 = N2.natAbs := (s_53.2.1 8 (by first | decide | omega)).trans hV8
        have W_60 := s_53.1
        have S_61 : w2s cA X ad (fun x => x = 10) G V V_52 (G_48, B_49) := w2s_mono (w2s_tr hS0 s_53) (fun _ h => by omega)
        have bl_62 := w2_le W_60
        refine gs (pc' := 80) (fun _ _ _ _ _ hl => lv_goto (tgt := 80) hx hb d_Ca_joinParts_62 (by decide)) ?_
        refine gs (pc' := 81) (fun _ _ _ _ _ hl => lv_iload_n hx hb d_Ca_joinParts_80 rfl (lv_at hl 0 rfl)) ?_
        refine gs (pc' := 82) (fun _ _ _ _ _ hl => lv_iload_n hx hb d_Ca_joinParts_81 rfl (lv_at hl 2 rfl)) ?_
        refine gs (pc' := 83) (fun _ _ _ _ _ hl => lv_imul hx hb d_Ca_joinParts_82) ?_
        exact hret 83 _ _ _ _ d_Ca_joinParts_83 (show B_49.1 ≤ MC by omega) (show B_49.2 ≤ MS by omega) ⟨(hab.2.2.2.2 hl_11), V_52, S_61, k_54.trans (hab.1 (Nat.le_of_lt hl_11)).symm⟩
  · skip
    have hge : 0 ≤ N1 * N2 := Int.not_lt.mp (fun z => c_2 (sgI_lt.mpr z))
    have hab := ab_add hge
    refine gs (pc' := 7) (fun _ _ _ _ _ hl => lv_aload_n hx hb d_Ca_joinParts_6 rfl (lv_at hl 0 rfl)) ?_
    refine g_get hx hb hts hin_Ca hown hK hhk rfl 7 (by decide) (hts _ wm137) (fun _ h9 => h9) rfl d_Ca_joinParts_7 ?_
    refine gs (pc' := 11) (fun _ _ _ _ _ hl => lv_aload_n hx hb d_Ca_joinParts_10 rfl (lv_at hl 0 rfl)) ?_
    refine g_get hx hb hts hin_Ca hown hK hhk rfl 3 (by decide) (hts _ wm133) (fun _ h9 => h9) rfl d_Ca_joinParts_11 ?_
    refine gs (pc' := 15) (fun _ _ _ _ _ hl => lv_aload_n hx hb d_Ca_joinParts_14 rfl (lv_at hl 0 rfl)) ?_
    refine g_get hx hb hts hin_Ca hown hK hhk rfl 5 (by decide) (hts _ wm135) (fun _ h9 => h9) rfl d_Ca_joinParts_15 ?_
    obtain ⟨κo_63, ao_63, zo_63, fo_63, hho_63, hao_63, hzo_63, hDo_63, hco_63⟩ := w2_N hW (show 10 < 19 by first | decide | omega)
    have hbo_63 : zo_63 ≤ 3000 := by omega
    refine g_outv hlo (g_runV (As := [.ref (ad 6), .ref (ad 8)]) (rest := []) ⟨hx, hb, hml, hown, hts⟩ hK hZ hRc hRs (n_setSum l D cA lo MC MS G B X ad V hW hX1 hX2 10 (by first | decide | omega) (ad 6) N1.natAbs kj (rd_w2' (P := fun x => ¬ x = 10) hW (by first | decide | omega) (by first | trivial | omega) hV6) hl6 (ad 8) N2.natAbs kj (rd_w2' (P := fun x => ¬ x = 10) hW (by first | decide | omega) (by first | trivial | omega) hV8) hl8 (by omega) (by omega)) (fun _ _ => cwV 2 hts (tb_good (tb_cons wm572 (tb_cons wm573 (tb_cons wm574 (tb_cons wm5 k_Na_setSum))))) rfl rfl rfl (by decide +kernel) ⟨by rw [hRf]; exact Nat.le_of_ble_eq_true rfl, by rw [hRl]; exact Nat.le_of_ble_eq_true rfl⟩) hho_63 rfl (show B.1 ≤ MC by omega) (show B.2 ≤ MS by omega) rfl (Nat.le_of_ble_eq_true rfl) d_Ca_joinParts_18) (fun G_64 B_65 p_66 => ?_)
    have lt_67 : N1.natAbs + N2.natAbs < 1000000000 ^ (kj + kj + 1) := lb_add hl6 hl8
    obtain ⟨V_68, s_69, k_70⟩ := p_66
    have f_71 : G_64 hk = some (30, .inr (0, [.ref hd, .ref hc, .ref (ad 5), .ref (ad 6), .ref (ad 7), .ref (ad 8), .ref (ad 9), .ref (ad 10)])) := s_69.2.2 _ _ hhk (by first | decide | omega)
    have f_72 : G_64 hd = some (30, .inr (2, [.ref (ad 0), .ref (ad 1), .ref (ad 2)])) := s_69.2.2 _ _ hhd (by first | decide | omega)
    have f_73 : G_64 hc = some (19, .inr (1, [.ref hd, .ref (ad 3), .ref (ad 4), .long ga0, .long gb0, .long gc0, .long gd0])) := s_69.2.2 _ _ hhc (by first | decide | omega)
    have k_74 : V_68 6 = N1.natAbs := (s_69.2.1 6 (by first | decide | omega)).trans hV6
    have k_75 : V_68 8 = N2.natAbs := (s_69.2.1 8 (by first | decide | omega)).trans hV8
    have W_76 := s_69.1
    have S_77 : w2s cA X ad (fun x => x = 10) G V V_68 (G_64, B_65) := w2s_mono (w2s_tr hS0 s_69) (fun _ h => by omega)
    have bl_78 := w2_le W_76
    refine gs (pc' := 22) (fun _ _ _ _ _ hl => lv_iload_n hx hb d_Ca_joinParts_21 rfl (lv_at hl 1 rfl)) ?_
    refine gsb (pc1 := 29) (pc2 := 25) (fun _ _ _ _ _ => lv_if_eq (tgt := 29) hx hb d_Ca_joinParts_22 (by decide)) (fun c_79 => ?_) (fun c_79 => ?_)
    · skip
      have hN0 : N1 = 0 := sgI_eq0.mp c_79
      refine gs (pc' := 30) (fun _ _ _ _ _ hl => lv_iload_n hx hb d_Ca_joinParts_29 rfl (lv_at hl 2 rfl)) ?_
      exact hret 30 _ _ _ _ d_Ca_joinParts_30 (show B_65.1 ≤ MC by omega) (show B_65.2 ≤ MS by omega) ⟨(by rw [hN0, Int.zero_add]), V_68, S_77, k_70.trans hab.1.symm⟩
    · skip
      have hN0 : N1 ≠ 0 := fun z => c_79 (sgI_eq0.mpr z)
      refine gs (pc' := 26) (fun _ _ _ _ _ hl => lv_iload_n hx hb d_Ca_joinParts_25 rfl (lv_at hl 1 rfl)) ?_
      refine gs (pc' := 30) (fun _ _ _ _ _ hl => lv_goto (tgt := 30) hx hb d_Ca_joinParts_26 (by decide)) ?_
      exact hret 30 _ _ _ _ d_Ca_joinParts_30 (show B_65.1 ≤ MC by omega) (show B_65.2 ≤ MS by omega) ⟨(hab.2 hN0), V_68, S_77, k_70.trans hab.1.symm⟩
set_option maxHeartbeats 4000000 in
set_option maxRecDepth 100000 in
theorem n_setSumF (l : Launch) (D : va_G) (cA : Nat → ClassId) (lo MC MS : Nat) (G : gT) (B : Nat × Nat) (X : Nat × Nat) (ad V : Nat → Nat) (hW : w2 cA X ad V (G, B)) (hX1 : X.1 ≤ MC) (hX2 : X.2 ≤ MS) (hk hd hc : Nat) (hhk : G hk = some (30, .inr (0, [.ref hd, .ref hc, .ref (ad 5), .ref (ad 6), .ref (ad 7), .ref (ad 8), .ref (ad 9), .ref (ad 10)]))) (hhd : G hd = some (30, .inr (2, [.ref (ad 0), .ref (ad 1), .ref (ad 2)]))) (hcd : cdO ad hd hc G) (hf ta tb to : Nat) (sf : Int32) (hhf : G hf = some (to, .inr (3, [.int sf, .ref (ad ta), .ref (ad tb)]))) (hta : 11 ≤ ta) (hta2 : ta < 19) (htb : 11 ≤ tb) (htb2 : tb < 19) (htab : ¬ ta = tb) (hto : 20 ≤ to) (hto2 : to ≤ 23) (h1 : Nat) (p1 : Int) (q1 k1 : Nat) (hr1 : rf cA G (fun x => 11 ≤ x ∧ ¬ x = 19 ∧ ¬ x = ta ∧ ¬ x = tb ∧ ¬ x = to) h1 p1 q1) (hp1 : p1.natAbs < 1000000000 ^ k1) (hq1 : q1 < 1000000000 ^ k1) (hq01 : 0 < q1) (hco1 : Nat.Coprime p1.natAbs q1) (h2 : Nat) (p2 : Int) (q2 k2 : Nat) (hr2 : rf cA G (fun x => 11 ≤ x ∧ ¬ x = 19 ∧ ¬ x = ta ∧ ¬ x = tb ∧ ¬ x = to) h2 p2 q2) (hp2 : p2.natAbs < 1000000000 ^ k2) (hq2 : q2 < 1000000000 ^ k2) (hq02 : 0 < q2) (hco2 : Nat.Coprime p2.natAbs q2) (le : Int32) (hkk : k1 + k2 + 1 ≤ 1499) : gMet l y_Ca_setSum w_Ca_setSum 6 163 D clS (gtys cA) lo MC MS [.ref hk, .ref hf, .ref h1, .ref h2, .int le] G B (gQv D clS lo (fT cA X ad hd hc (fun x => x < 11 ∨ x = 19 ∨ x = ta ∨ x = tb ∨ x = to) G V hf ta tb to (frn (p1 * q2 + (if le = 0 then p2 else -p2) * q1) (q1 * q2)) (rdd (p1 * q2 + (if le = 0 then p2 else -p2) * q1).natAbs (q1 * q2)))) := by
  refine g_metv (cc := prog_2_method_3_code) (nL := 6) (L := [(0, .ref hk), (1, .ref hf), (2, .ref h1), (3, .ref h2), (4, .int le)]) (by decide +kernel) rfl (Nat.le_of_ble_eq_true rfl) rfl ?_
  intro p e R s m args below meth c Q hF hRc hRs hRf hRl hret
  obtain ⟨hx, hb, hr, hml, hts0, hown, hlocks, hin, hK, hlo, hZ⟩ := hF
  have hts : ∀ w ∈ tbg, w.before args s = true := fun w h => hts0 w (List.mem_cons_of_mem _ h)
  obtain ⟨t1, a1, b1, ht1, hh1, hra1, hrb1⟩ := id hr1
  have ht1 : 11 ≤ t1 ∧ ¬ t1 = 19 ∧ ¬ t1 = ta ∧ ¬ t1 = tb ∧ ¬ t1 = to := ht1
  obtain ⟨t2, a2, b2, ht2, hh2, hra2, hrb2⟩ := id hr2
  have ht2 : 11 ≤ t2 ∧ ¬ t2 = 19 ∧ ¬ t2 = ta ∧ ¬ t2 = tb ∧ ¬ t2 = to := ht2
  obtain ⟨ga0, gb0, gc0, gd0, hhc⟩ := id hcd
  have hS0 : w2s cA X ad (fun x => x < 11 ∨ x = 19 ∨ x = ta ∨ x = tb ∨ x = to) G V V (G, B) := w2s_rf hW
  have bl_1 := w2_le hW
  obtain ⟨g, hg⟩ : ∃ g, g = Nat.gcd q1 q2 := ⟨_, rfl⟩
  have hg0 : 0 < g := by rw [hg]; exact Nat.gcd_pos_of_pos_left q2 hq01
  refine gs (pc' := 1) (fun _ _ _ _ _ hl => lv_aload_n hx hb d_Ca_setSum_0 rfl (lv_at hl 0 rfl)) ?_
  refine g_get hx hb hts hin_Ca hown hK hhk rfl 2 (by decide) (hts _ wm132) (fun _ h9 => h9) rfl d_Ca_setSum_1 ?_
  refine gs (pc' := 5) (fun _ _ _ _ _ hl => lv_aload_n hx hb d_Ca_setSum_4 rfl (lv_at hl 0 rfl)) ?_
  refine g_get hx hb hts hin_Ca hown hK hhk rfl 1 (by decide) (hts _ wm131) (fun _ h9 => h9) rfl d_Ca_setSum_5 ?_
  refine gs (pc' := 9) (fun _ _ _ _ _ hl => lv_aload_n hx hb d_Ca_setSum_8 rfl (lv_at hl 2 rfl)) ?_
  refine g_get hx hb hts hin_Fr hown hK hh1 rfl 2 (by decide) (hts _ wm170) (fun _ h9 => h9) rfl d_Ca_setSum_9 ?_
  refine gs (pc' := 13) (fun _ _ _ _ _ hl => lv_aload_n hx hb d_Ca_setSum_12 rfl (lv_at hl 3 rfl)) ?_
  refine g_get hx hb hts hin_Fr hown hK hh2 rfl 2 (by decide) (hts _ wm170) (fun _ h9 => h9) rfl d_Ca_setSum_13 ?_
  have lt_2 : q1 < 1000000000 ^ (k1 + k2) := lb_up hq1 (by omega)
  have lt_3 : q2 < 1000000000 ^ (k1 + k2) := lb_up hq2 (by omega)
  refine g_outr hlo (g_runV (As := [.ref b1, .ref b2]) (rest := [.ref (ad 5)]) ⟨hx, hb, hml, hown, hts⟩ hK hZ hRc hRs (n_find l D cA lo MC MS G B X ad V hW hX1 hX2 hd hc ga0 gb0 gc0 gd0 hhc hhd b1 q1 b2 q2 (k1 + k2) (rd_mono (P1 := fun x => 5 ≤ x ∧ ¬ x = 19) hrb1 (fun _ h => by first | trivial | omega)) (rd_mono (P1 := fun x => 5 ≤ x ∧ ¬ x = 19) hrb2 (fun _ h => by first | trivial | omega)) lt_2 lt_3 (by omega)) (fun _ _ => cwV 2 hts (tb_good (tb_cons wm399 (tb_cons wm400 (tb_cons wm401 (tb_cons wm7 k_Cd_find))))) rfl rfl rfl (by decide +kernel) ⟨by rw [hRf]; exact Nat.le_of_ble_eq_true rfl, by rw [hRl]; exact Nat.le_of_ble_eq_true rfl⟩) hhc rfl (show B.1 ≤ MC by omega) (show B.2 ≤ MS by omega) rfl (Nat.le_of_ble_eq_true rfl) d_Ca_setSum_16) (fun r_7 G_4 B_5 p_6 => ?_)
  obtain ⟨e_11, V_8, s_9, k_10, g_13, g_14, g_15, g_16, f_12⟩ := p_6
  subst e_11
  have lt_17 : Nat.gcd q1 q2 < 1000000000 ^ (k1 + k2) := lb_gcd lt_2 lt_3
  have f_18 : G_4 hk = some (30, .inr (0, [.ref hd, .ref hc, .ref (ad 5), .ref (ad 6), .ref (ad 7), .ref (ad 8), .ref (ad 9), .ref (ad 10)])) := s_9.2.2 _ _ hhk (by first | decide | omega)
  have f_19 : G_4 hd = some (30, .inr (2, [.ref (ad 0), .ref (ad 1), .ref (ad 2)])) := s_9.2.2 _ _ hhd (by first | decide | omega)
  have f_20 : G_4 hf = some (to, .inr (3, [.int sf, .ref (ad ta), .ref (ad tb)])) := s_9.2.2 _ _ hhf (by first | decide | omega)
  have f_21 : G_4 h1 = some (t1, .inr (3, [.int (sgI p1), .ref a1, .ref b1])) := s_9.2.2 _ _ hh1 (by first | decide | omega)
  have f_22 : G_4 h2 = some (t2, .inr (3, [.int (sgI p2), .ref a2, .ref b2])) := s_9.2.2 _ _ hh2 (by first | decide | omega)
  have rd_23 := rd_fr hra1 s_9.2.2 (fun _ h => by omega)
  have rd_24 := rd_fr hrb1 s_9.2.2 (fun _ h => by omega)
  have rd_25 := rd_fr hra2 s_9.2.2 (fun _ h => by omega)
  have rd_26 := rd_fr hrb2 s_9.2.2 (fun _ h => by omega)
  have W_27 := s_9.1
  have S_28 : w2s cA X ad (fun x => x < 11 ∨ x = 19 ∨ x = ta ∨ x = tb ∨ x = to) G V V_8 (G_4, B_5) := w2s_mono (w2s_tr hS0 s_9) (fun _ h => by omega)
  have bl_29 := w2_le W_27
  obtain ⟨κo_30, ao_30, zo_30, fo_30, hho_30, hao_30, hzo_30, hDo_30, hco_30⟩ := w2_N W_27 (show 5 < 19 by first | decide | omega)
  have hbo_30 : zo_30 ≤ 3000 := by omega
  refine g_outv hlo (g_runV (As := [.ref (ad 3)]) (rest := []) ⟨hx, hb, hml, hown, hts⟩ hK hZ hRc hRs (n_setTo l D cA lo MC MS G_4 B_5 X ad V_8 W_27 hX1 hX2 5 (by first | decide | omega) (ad 3) (Nat.gcd q1 q2) (k1 + k2) (rd_w2' (P := fun x => ¬ x = 5) W_27 (by first | decide | omega) (by first | trivial | omega) k_10) lt_17 (by omega)) (fun _ _ => cwV 1 hts (tb_good (tb_cons wm494 (tb_cons wm408 (tb_cons wm409 (tb_cons wm5 k_Na_setTo))))) rfl rfl rfl (by decide +kernel) ⟨by rw [hRf]; exact Nat.le_of_ble_eq_true rfl, by rw [hRl]; exact Nat.le_of_ble_eq_true rfl⟩) hho_30 rfl (show B_5.1 ≤ MC by omega) (show B_5.2 ≤ MS by omega) rfl (Nat.le_of_ble_eq_true rfl) d_Ca_setSum_19) (fun G_31 B_32 p_33 => ?_)
  obtain ⟨V_34, s_35, k_36⟩ := p_33
  have f_37 : G_31 hk = some (30, .inr (0, [.ref hd, .ref hc, .ref (ad 5), .ref (ad 6), .ref (ad 7), .ref (ad 8), .ref (ad 9), .ref (ad 10)])) := s_35.2.2 _ _ f_18 (by first | decide | omega)
  have f_38 : G_31 hd = some (30, .inr (2, [.ref (ad 0), .ref (ad 1), .ref (ad 2)])) := s_35.2.2 _ _ f_19 (by first | decide | omega)
  have f_39 : G_31 hf = some (to, .inr (3, [.int sf, .ref (ad ta), .ref (ad tb)])) := s_35.2.2 _ _ f_20 (by first | decide | omega)
  have f_40 : G_31 h1 = some (t1, .inr (3, [.int (sgI p1), .ref a1, .ref b1])) := s_35.2.2 _ _ f_21 (by first | decide | omega)
  have f_41 : G_31 h2 = some (t2, .inr (3, [.int (sgI p2), .ref a2, .ref b2])) := s_35.2.2 _ _ f_22 (by first | decide | omega)
  have f_42 : G_31 hc = some (19, .inr (1, [.ref hd, .ref (ad 3), .ref (ad 4), .long g_13, .long g_14, .long g_15, .long g_16])) := s_35.2.2 _ _ f_12 (by first | decide | omega)
  have k_43 : V_34 3 = Nat.gcd q1 q2 := (s_35.2.1 3 (by first | decide | omega)).trans k_10
  have rd_44 := rd_fr rd_23 s_35.2.2 (fun _ h => by omega)
  have rd_45 := rd_fr rd_24 s_35.2.2 (fun _ h => by omega)
  have rd_46 := rd_fr rd_25 s_35.2.2 (fun _ h => by omega)
  have rd_47 := rd_fr rd_26 s_35.2.2 (fun _ h => by omega)
  have W_48 := s_35.1
  have S_49 : w2s cA X ad (fun x => x < 11 ∨ x = 19 ∨ x = ta ∨ x = tb ∨ x = to) G V V_34 (G_31, B_32) := w2s_mono (w2s_tr S_28 s_35) (fun _ h => by omega)
  have bl_50 := w2_le W_48
  rw [← hg] at k_43 lt_17
  rw [← hg] at k_36
  refine gs (pc' := 23) (fun _ _ _ _ _ hl => lv_aload_n hx hb d_Ca_setSum_22 rfl (lv_at hl 0 rfl)) ?_
  refine gs (pc' := 24) (fun _ _ _ _ _ hl => lv_aload_n hx hb d_Ca_setSum_23 rfl (lv_at hl 0 rfl)) ?_
  refine g_get hx hb hts hin_Ca hown hK f_37 rfl 4 (by decide) (hts _ wm134) (fun _ h9 => h9) rfl d_Ca_setSum_24 ?_
  refine gs (pc' := 28) (fun _ _ _ _ _ hl => lv_aload_n hx hb d_Ca_setSum_27 rfl (lv_at hl 2 rfl)) ?_
  refine g_get hx hb hts hin_Fr hown hK f_40 rfl 2 (by decide) (hts _ wm170) (fun _ h9 => h9) rfl d_Ca_setSum_28 ?_
  refine gs (pc' := 32) (fun _ _ _ _ _ hl => lv_aload_n hx hb d_Ca_setSum_31 rfl (lv_at hl 0 rfl)) ?_
  refine g_get hx hb hts hin_Ca hown hK f_37 rfl 2 (by decide) (hts _ wm132) (fun _ h9 => h9) rfl d_Ca_setSum_32 ?_
  refine g_outv hlo (g_runV (As := [.ref (ad 7), .ref b1, .ref (ad 5)]) (rest := []) ⟨hx, hb, hml, hown, hts⟩ hK hZ hRc hRs (n_setQuotient l D cA lo MC MS G_31 B_32 X ad V_34 W_48 hX1 hX2 hk hd hc f_37 f_38 (cdO_i f_42) 7 (by first | decide | omega) (by first | decide | omega) b1 q1 (ad 5) g k1 (rd_mono (P1 := fun x => 3 ≤ x) rd_45 (fun _ h => by first | trivial | omega)) (rd_w2' (P := fun x => 3 ≤ x) W_48 (by first | decide | omega) (by first | trivial | omega) k_36) hq1 (by omega) hg0) (fun _ _ => cwV 3 hts (tb_good (tb_cons wm489 (tb_cons wm491 (tb_cons ws9 (tb_cons wm3 k_Ca_setQuotient))))) rfl rfl rfl (by decide +kernel) ⟨by rw [hRf]; exact Nat.le_of_ble_eq_true rfl, by rw [hRl]; exact Nat.le_of_ble_eq_true rfl⟩) f_37 rfl (show B_32.1 ≤ MC by omega) (show B_32.2 ≤ MS by omega) rfl (Nat.le_of_ble_eq_true rfl) d_Ca_setSum_35) (fun G_51 B_52 p_53 => ?_)
  obtain ⟨V_54, s_55, k_56⟩ := p_53
  have lt_57 : q1 / g < 1000000000 ^ k1 := Nat.lt_of_le_of_lt (Nat.div_le_self _ _) hq1
  have f_58 : G_51 hk = some (30, .inr (0, [.ref hd, .ref hc, .ref (ad 5), .ref (ad 6), .ref (ad 7), .ref (ad 8), .ref (ad 9), .ref (ad 10)])) := s_55.2.2 _ _ f_37 (by first | decide | omega)
  have f_59 : G_51 hd = some (30, .inr (2, [.ref (ad 0), .ref (ad 1), .ref (ad 2)])) := s_55.2.2 _ _ f_38 (by first | decide | omega)
  have f_60 : G_51 hf = some (to, .inr (3, [.int sf, .ref (ad ta), .ref (ad tb)])) := s_55.2.2 _ _ f_39 (by first | decide | omega)
  have f_61 : G_51 h1 = some (t1, .inr (3, [.int (sgI p1), .ref a1, .ref b1])) := s_55.2.2 _ _ f_40 (by first | decide | omega)
  have f_62 : G_51 h2 = some (t2, .inr (3, [.int (sgI p2), .ref a2, .ref b2])) := s_55.2.2 _ _ f_41 (by first | decide | omega)
  have f_63 : G_51 hc = some (19, .inr (1, [.ref hd, .ref (ad 3), .ref (ad 4), .long g_13, .long g_14, .long g_15, .long g_16])) := s_55.2.2 _ _ f_42 (by first | decide | omega)
  have k_64 : V_54 3 = g := (s_55.2.1 3 (by first | decide | omega)).trans k_43
  have k_65 : V_54 5 = g := (s_55.2.1 5 (by first | decide | omega)).trans k_36
  have rd_66 := rd_fr rd_44 s_55.2.2 (fun _ h => by omega)
  have rd_67 := rd_fr rd_45 s_55.2.2 (fun _ h => by omega)
  have rd_68 := rd_fr rd_46 s_55.2.2 (fun _ h => by omega)
  have rd_69 := rd_fr rd_47 s_55.2.2 (fun _ h => by omega)
  have W_70 := s_55.1
  have S_71 : w2s cA X ad (fun x => x < 11 ∨ x = 19 ∨ x = ta ∨ x = tb ∨ x = to) G V V_54 (G_51, B_52) := w2s_mono (w2s_tr S_49 s_55) (fun _ h => by omega)
  have bl_72 := w2_le W_70
  refine gs (pc' := 39) (fun _ _ _ _ _ hl => lv_aload_n hx hb d_Ca_setSum_38 rfl (lv_at hl 0 rfl)) ?_
  refine gs (pc' := 40) (fun _ _ _ _ _ hl => lv_aload_n hx hb d_Ca_setSum_39 rfl (lv_at hl 0 rfl)) ?_
  refine g_get hx hb hts hin_Ca hown hK f_58 rfl 6 (by decide) (hts _ wm136) (fun _ h9 => h9) rfl d_Ca_setSum_40 ?_
  refine gs (pc' := 44) (fun _ _ _ _ _ hl => lv_aload_n hx hb d_Ca_setSum_43 rfl (lv_at hl 3 rfl)) ?_
  refine g_get hx hb hts hin_Fr hown hK f_62 rfl 2 (by decide) (hts _ wm170) (fun _ h9 => h9) rfl d_Ca_setSum_44 ?_
  refine gs (pc' := 48) (fun _ _ _ _ _ hl => lv_aload_n hx hb d_Ca_setSum_47 rfl (lv_at hl 0 rfl)) ?_
  refine g_get hx hb hts hin_Ca hown hK f_58 rfl 2 (by decide) (hts _ wm132) (fun _ h9 => h9) rfl d_Ca_setSum_48 ?_
  refine g_outv hlo (g_runV (As := [.ref (ad 9), .ref b2, .ref (ad 5)]) (rest := []) ⟨hx, hb, hml, hown, hts⟩ hK hZ hRc hRs (n_setQuotient l D cA lo MC MS G_51 B_52 X ad V_54 W_70 hX1 hX2 hk hd hc f_58 f_59 (cdO_i f_63) 9 (by first | decide | omega) (by first | decide | omega) b2 q2 (ad 5) g k2 (rd_mono (P1 := fun x => 3 ≤ x) rd_69 (fun _ h => by first | trivial | omega)) (rd_w2' (P := fun x => 3 ≤ x) W_70 (by first | decide | omega) (by first | trivial | omega) k_65) hq2 (by omega) hg0) (fun _ _ => cwV 3 hts (tb_good (tb_cons wm489 (tb_cons wm491 (tb_cons ws9 (tb_cons wm3 k_Ca_setQuotient))))) rfl rfl rfl (by decide +kernel) ⟨by rw [hRf]; exact Nat.le_of_ble_eq_true rfl, by rw [hRl]; exact Nat.le_of_ble_eq_true rfl⟩) f_58 rfl (show B_52.1 ≤ MC by omega) (show B_52.2 ≤ MS by omega) rfl (Nat.le_of_ble_eq_true rfl) d_Ca_setSum_51) (fun G_73 B_74 p_75 => ?_)
  obtain ⟨V_76, s_77, k_78⟩ := p_75
  have lt_79 : q2 / g < 1000000000 ^ k2 := Nat.lt_of_le_of_lt (Nat.div_le_self _ _) hq2
  have f_80 : G_73 hk = some (30, .inr (0, [.ref hd, .ref hc, .ref (ad 5), .ref (ad 6), .ref (ad 7), .ref (ad 8), .ref (ad 9), .ref (ad 10)])) := s_77.2.2 _ _ f_58 (by first | decide | omega)
  have f_81 : G_73 hd = some (30, .inr (2, [.ref (ad 0), .ref (ad 1), .ref (ad 2)])) := s_77.2.2 _ _ f_59 (by first | decide | omega)
  have f_82 : G_73 hf = some (to, .inr (3, [.int sf, .ref (ad ta), .ref (ad tb)])) := s_77.2.2 _ _ f_60 (by first | decide | omega)
  have f_83 : G_73 h1 = some (t1, .inr (3, [.int (sgI p1), .ref a1, .ref b1])) := s_77.2.2 _ _ f_61 (by first | decide | omega)
  have f_84 : G_73 h2 = some (t2, .inr (3, [.int (sgI p2), .ref a2, .ref b2])) := s_77.2.2 _ _ f_62 (by first | decide | omega)
  have f_85 : G_73 hc = some (19, .inr (1, [.ref hd, .ref (ad 3), .ref (ad 4), .long g_13, .long g_14, .long g_15, .long g_16])) := s_77.2.2 _ _ f_63 (by first | decide | omega)
  have k_86 : V_76 3 = g := (s_77.2.1 3 (by first | decide | omega)).trans k_64
  have k_87 : V_76 5 = g := (s_77.2.1 5 (by first | decide | omega)).trans k_65
  have k_88 : V_76 7 = q1 / g := (s_77.2.1 7 (by first | decide | omega)).trans k_56
  have rd_89 := rd_fr rd_66 s_77.2.2 (fun _ h => by omega)
  have rd_90 := rd_fr rd_67 s_77.2.2 (fun _ h => by omega)
  have rd_91 := rd_fr rd_68 s_77.2.2 (fun _ h => by omega)
  have rd_92 := rd_fr rd_69 s_77.2.2 (fun _ h => by omega)
  have W_93 := s_77.1
  have S_94 : w2s cA X ad (fun x => x < 11 ∨ x = 19 ∨ x = ta ∨ x = tb ∨ x = to) G V V_76 (G_73, B_74) := w2s_mono (w2s_tr S_71 s_77) (fun _ h => by omega)
  have bl_95 := w2_le W_93
  refine gs (pc' := 55) (fun _ _ _ _ _ hl => lv_aload_n hx hb d_Ca_setSum_54 rfl (lv_at hl 0 rfl)) ?_
  refine g_get hx hb hts hin_Ca hown hK f_80 rfl 3 (by decide) (hts _ wm133) (fun _ h9 => h9) rfl d_Ca_setSum_55 ?_
  refine gs (pc' := 59) (fun _ _ _ _ _ hl => lv_aload_n hx hb d_Ca_setSum_58 rfl (lv_at hl 2 rfl)) ?_
  refine g_get hx hb hts hin_Fr hown hK f_83 rfl 1 (by decide) (hts _ wm167) (fun _ h9 => h9) rfl d_Ca_setSum_59 ?_
  refine gs (pc' := 63) (fun _ _ _ _ _ hl => lv_aload_n hx hb d_Ca_setSum_62 rfl (lv_at hl 0 rfl)) ?_
  refine g_get hx hb hts hin_Ca hown hK f_80 rfl 6 (by decide) (hts _ wm136) (fun _ h9 => h9) rfl d_Ca_setSum_63 ?_
  obtain ⟨κo_96, ao_96, zo_96, fo_96, hho_96, hao_96, hzo_96, hDo_96, hco_96⟩ := w2_N W_93 (show 6 < 19 by first | decide | omega)
  have hbo_96 : zo_96 ≤ 3000 := by omega
  refine g_outv hlo (g_runV (As := [.ref a1, .ref (ad 9)]) (rest := []) ⟨hx, hb, hml, hown, hts⟩ hK hZ hRc hRs (n_setProduct l D cA lo MC MS G_73 B_74 X ad V_76 W_93 hX1 hX2 6 (by first | decide | omega) a1 p1.natAbs k1 (rd_mono (P1 := fun x => ¬ x = 6) rd_89 (fun _ h => by first | trivial | omega)) hp1 (ad 9) (q2 / g) k2 (rd_w2' (P := fun x => ¬ x = 6) W_93 (by first | decide | omega) (by first | trivial | omega) k_78) lt_79 (by omega)) (fun _ _ => cwV 2 hts (tb_good (tb_cons wm563 (tb_cons wm564 (tb_cons wm565 (tb_cons wm5 k_Na_setProduct))))) rfl rfl rfl (by decide +kernel) ⟨by rw [hRf]; exact Nat.le_of_ble_eq_true rfl, by rw [hRl]; exact Nat.le_of_ble_eq_true rfl⟩) hho_96 rfl (show B_74.1 ≤ MC by omega) (show B_74.2 ≤ MS by omega) rfl (Nat.le_of_ble_eq_true rfl) d_Ca_setSum_66) (fun G_97 B_98 p_99 => ?_)
  have lt_100 : p1.natAbs * (q2 / g) < 1000000000 ^ (k1 + k2) := lb_mul hp1 lt_79
  obtain ⟨V_101, s_102, k_103⟩ := p_99
  have f_104 : G_97 hk = some (30, .inr (0, [.ref hd, .ref hc, .ref (ad 5), .ref (ad 6), .ref (ad 7), .ref (ad 8), .ref (ad 9), .ref (ad 10)])) := s_102.2.2 _ _ f_80 (by first | decide | omega)
  have f_105 : G_97 hd = some (30, .inr (2, [.ref (ad 0), .ref (ad 1), .ref (ad 2)])) := s_102.2.2 _ _ f_81 (by first | decide | omega)
  have f_106 : G_97 hf = some (to, .inr (3, [.int sf, .ref (ad ta), .ref (ad tb)])) := s_102.2.2 _ _ f_82 (by first | decide | omega)
  have f_107 : G_97 h1 = some (t1, .inr (3, [.int (sgI p1), .ref a1, .ref b1])) := s_102.2.2 _ _ f_83 (by first | decide | omega)
  have f_108 : G_97 h2 = some (t2, .inr (3, [.int (sgI p2), .ref a2, .ref b2])) := s_102.2.2 _ _ f_84 (by first | decide | omega)
  have f_109 : G_97 hc = some (19, .inr (1, [.ref hd, .ref (ad 3), .ref (ad 4), .long g_13, .long g_14, .long g_15, .long g_16])) := s_102.2.2 _ _ f_85 (by first | decide | omega)
  have k_110 : V_101 3 = g := (s_102.2.1 3 (by first | decide | omega)).trans k_86
  have k_111 : V_101 5 = g := (s_102.2.1 5 (by first | decide | omega)).trans k_87
  have k_112 : V_101 7 = q1 / g := (s_102.2.1 7 (by first | decide | omega)).trans k_88
  have k_113 : V_101 9 = q2 / g := (s_102.2.1 9 (by first | decide | omega)).trans k_78
  have rd_114 := rd_fr rd_89 s_102.2.2 (fun _ h => by omega)
  have rd_115 := rd_fr rd_90 s_102.2.2 (fun _ h => by omega)
  have rd_116 := rd_fr rd_91 s_102.2.2 (fun _ h => by omega)
  have rd_117 := rd_fr rd_92 s_102.2.2 (fun _ h => by omega)
  have W_118 := s_102.1
  have S_119 : w2s cA X ad (fun x => x < 11 ∨ x = 19 ∨ x = ta ∨ x = tb ∨ x = to) G V V_101 (G_97, B_98) := w2s_mono (w2s_tr S_94 s_102) (fun _ h => by omega)
  have bl_120 := w2_le W_118
  refine gs (pc' := 70) (fun _ _ _ _ _ hl => lv_aload_n hx hb d_Ca_setSum_69 rfl (lv_at hl 0 rfl)) ?_
  refine g_get hx hb hts hin_Ca hown hK f_104 rfl 5 (by decide) (hts _ wm135) (fun _ h9 => h9) rfl d_Ca_setSum_70 ?_
  refine gs (pc' := 74) (fun _ _ _ _ _ hl => lv_aload_n hx hb d_Ca_setSum_73 rfl (lv_at hl 3 rfl)) ?_
  refine g_get hx hb hts hin_Fr hown hK f_108 rfl 1 (by decide) (hts _ wm167) (fun _ h9 => h9) rfl d_Ca_setSum_74 ?_
  refine gs (pc' := 78) (fun _ _ _ _ _ hl => lv_aload_n hx hb d_Ca_setSum_77 rfl (lv_at hl 0 rfl)) ?_
  refine g_get hx hb hts hin_Ca hown hK f_104 rfl 4 (by decide) (hts _ wm134) (fun _ h9 => h9) rfl d_Ca_setSum_78 ?_
  obtain ⟨κo_121, ao_121, zo_121, fo_121, hho_121, hao_121, hzo_121, hDo_121, hco_121⟩ := w2_N W_118 (show 8 < 19 by first | decide | omega)
  have hbo_121 : zo_121 ≤ 3000 := by omega
  refine g_outv hlo (g_runV (As := [.ref a2, .ref (ad 7)]) (rest := []) ⟨hx, hb, hml, hown, hts⟩ hK hZ hRc hRs (n_setProduct l D cA lo MC MS G_97 B_98 X ad V_101 W_118 hX1 hX2 8 (by first | decide | omega) a2 p2.natAbs k2 (rd_mono (P1 := fun x => ¬ x = 8) rd_116 (fun _ h => by first | trivial | omega)) hp2 (ad 7) (q1 / g) k1 (rd_w2' (P := fun x => ¬ x = 8) W_118 (by first | decide | omega) (by first | trivial | omega) k_112) lt_57 (by omega)) (fun _ _ => cwV 2 hts (tb_good (tb_cons wm563 (tb_cons wm564 (tb_cons wm565 (tb_cons wm5 k_Na_setProduct))))) rfl rfl rfl (by decide +kernel) ⟨by rw [hRf]; exact Nat.le_of_ble_eq_true rfl, by rw [hRl]; exact Nat.le_of_ble_eq_true rfl⟩) hho_121 rfl (show B_98.1 ≤ MC by omega) (show B_98.2 ≤ MS by omega) rfl (Nat.le_of_ble_eq_true rfl) d_Ca_setSum_81) (fun G_122 B_123 p_124 => ?_)
  have lt_125 : p2.natAbs * (q1 / g) < 1000000000 ^ (k2 + k1) := lb_mul hp2 lt_57
  obtain ⟨V_126, s_127, k_128⟩ := p_124
  have f_129 : G_122 hk = some (30, .inr (0, [.ref hd, .ref hc, .ref (ad 5), .ref (ad 6), .ref (ad 7), .ref (ad 8), .ref (ad 9), .ref (ad 10)])) := s_127.2.2 _ _ f_104 (by first | decide | omega)
  have f_130 : G_122 hd = some (30, .inr (2, [.ref (ad 0), .ref (ad 1), .ref (ad 2)])) := s_127.2.2 _ _ f_105 (by first | decide | omega)
  have f_131 : G_122 hf = some (to, .inr (3, [.int sf, .ref (ad ta), .ref (ad tb)])) := s_127.2.2 _ _ f_106 (by first | decide | omega)
  have f_132 : G_122 h1 = some (t1, .inr (3, [.int (sgI p1), .ref a1, .ref b1])) := s_127.2.2 _ _ f_107 (by first | decide | omega)
  have f_133 : G_122 h2 = some (t2, .inr (3, [.int (sgI p2), .ref a2, .ref b2])) := s_127.2.2 _ _ f_108 (by first | decide | omega)
  have f_134 : G_122 hc = some (19, .inr (1, [.ref hd, .ref (ad 3), .ref (ad 4), .long g_13, .long g_14, .long g_15, .long g_16])) := s_127.2.2 _ _ f_109 (by first | decide | omega)
  have k_135 : V_126 3 = g := (s_127.2.1 3 (by first | decide | omega)).trans k_110
  have k_136 : V_126 5 = g := (s_127.2.1 5 (by first | decide | omega)).trans k_111
  have k_137 : V_126 7 = q1 / g := (s_127.2.1 7 (by first | decide | omega)).trans k_112
  have k_138 : V_126 9 = q2 / g := (s_127.2.1 9 (by first | decide | omega)).trans k_113
  have k_139 : V_126 6 = p1.natAbs * (q2 / g) := (s_127.2.1 6 (by first | decide | omega)).trans k_103
  have rd_140 := rd_fr rd_114 s_127.2.2 (fun _ h => by omega)
  have rd_141 := rd_fr rd_115 s_127.2.2 (fun _ h => by omega)
  have rd_142 := rd_fr rd_116 s_127.2.2 (fun _ h => by omega)
  have rd_143 := rd_fr rd_117 s_127.2.2 (fun _ h => by omega)
  have W_144 := s_127.1
  have S_145 : w2s cA X ad (fun x => x < 11 ∨ x = 19 ∨ x = ta ∨ x = tb ∨ x = to) G V V_126 (G_122, B_123) := w2s_mono (w2s_tr S_119 s_127) (fun _ h => by omega)
  have bl_146 := w2_le W_144
  refine gs (pc' := 85) (fun _ _ _ _ _ hl => lv_aload_n hx hb d_Ca_setSum_84 rfl (lv_at hl 1 rfl)) ?_
  refine gs (pc' := 86) (fun _ _ _ _ _ hl => lv_aload_n hx hb d_Ca_setSum_85 rfl (lv_at hl 0 rfl)) ?_
  refine gs (pc' := 87) (fun _ _ _ _ _ hl => lv_aload_n hx hb d_Ca_setSum_86 rfl (lv_at hl 2 rfl)) ?_
  refine g_get hx hb hts hin_Fr hown hK f_132 rfl 0 (by decide) (hts _ wm164) (fun _ h9 => h9) rfl d_Ca_setSum_87 ?_
  obtain ⟨N1, hN1⟩ : ∃ N1 : Int, N1 = p1 * ((q2 / g : Nat) : Int) := ⟨_, rfl⟩
  have hq2g : 0 < q2 / g := Nat.div_pos (by rw [hg]; exact Nat.gcd_le_right _ hq02) hg0
  have hq1g : 0 < q1 / g := Nat.div_pos (by rw [hg]; exact Nat.gcd_le_left _ hq01) hg0
  have hn1 : p1.natAbs * (q2 / g) = N1.natAbs := by rw [hN1]; exact nab_mul _ _
  refine g_eqi (show sgI p1 = sgI N1 from by rw [hN1]; exact (sgI_mulp hq2g).symm) ?_
  refine gs (pc' := 92) (fun _ _ _ _ _ hl => lv_iload hx hb d_Ca_setSum_90 (lv_at hl 4 rfl)) ?_
  refine gsb (pc1 := 103) (pc2 := 95) (fun _ _ _ _ _ => lv_if_eq (tgt := 103) hx hb d_Ca_setSum_92 (by decide)) (fun c_147 => ?_) (fun c_147 => ?_)
  · skip
    have hle : (if le = 0 then p2 else -p2) = p2 := if_pos c_147
    rw [hle] at hret
    refine gs (pc' := 104) (fun _ _ _ _ _ hl => lv_aload_n hx hb d_Ca_setSum_103 rfl (lv_at hl 3 rfl)) ?_
    refine g_get hx hb hts hin_Fr hown hK f_133 rfl 0 (by decide) (hts _ wm164) (fun _ h9 => h9) rfl d_Ca_setSum_104 ?_
    obtain ⟨N2, hN2⟩ : ∃ N2 : Int, N2 = p2 * ((q1 / g : Nat) : Int) := ⟨_, rfl⟩
    have hn2 : p2.natAbs * (q1 / g) = N2.natAbs := by rw [hN2, ← nab_mul]
    refine g_eqi (show sgI p2 = sgI N2 from by rw [hN2]; exact (sgI_mulp hq1g).symm) ?_
    refine g_outi hlo (g_runV (As := [.int (sgI N1), .int (sgI N2)]) (rest := [.ref hf]) ⟨hx, hb, hml, hown, hts⟩ hK hZ hRc hRs (n_joinParts l D cA lo MC MS G_122 B_123 X ad V_126 W_144 hX1 hX2 hk hd hc f_129 f_130 (cdO_i f_134) N1 N2 (k1 + k2) (k_139.trans hn1) (k_128.trans hn2) (by rw [← hn1]; exact lb_up lt_100 (by omega)) (by rw [← hn2]; exact lb_up lt_125 (by omega)) (by omega)) (fun _ _ => cwV 2 hts (tb_good (tb_cons wm568 (tb_cons wm570 (tb_cons ws12 (tb_cons wm3 k_Ca_joinParts))))) rfl rfl rfl (by decide +kernel) ⟨by rw [hRf]; exact Nat.le_of_ble_eq_true rfl, by rw [hRl]; exact Nat.le_of_ble_eq_true rfl⟩) f_129 rfl (show B_123.1 ≤ MC by omega) (show B_123.2 ≤ MS by omega) rfl (Nat.le_of_ble_eq_true rfl) d_Ca_setSum_107) (fun r_151 G_148 B_149 p_150 => ?_)
    have lt_156 : (N1 + N2).natAbs < 1000000000 ^ (k1 + k2 + 1) := lb_sum (by rw [← hn1]; exact lb_up lt_100 (by omega)) (by rw [← hn2]; exact lb_up lt_125 (by omega))
    obtain ⟨e_155, V_152, s_153, k_154⟩ := p_150
    subst e_155
    have f_157 : G_148 hk = some (30, .inr (0, [.ref hd, .ref hc, .ref (ad 5), .ref (ad 6), .ref (ad 7), .ref (ad 8), .ref (ad 9), .ref (ad 10)])) := s_153.2.2 _ _ f_129 (by first | decide | omega)
    have f_158 : G_148 hd = some (30, .inr (2, [.ref (ad 0), .ref (ad 1), .ref (ad 2)])) := s_153.2.2 _ _ f_130 (by first | decide | omega)
    have f_159 : G_148 hf = some (to, .inr (3, [.int sf, .ref (ad ta), .ref (ad tb)])) := s_153.2.2 _ _ f_131 (by first | decide | omega)
    have f_160 : G_148 h1 = some (t1, .inr (3, [.int (sgI p1), .ref a1, .ref b1])) := s_153.2.2 _ _ f_132 (by first | decide | omega)
    have f_161 : G_148 h2 = some (t2, .inr (3, [.int (sgI p2), .ref a2, .ref b2])) := s_153.2.2 _ _ f_133 (by first | decide | omega)
    have f_162 : G_148 hc = some (19, .inr (1, [.ref hd, .ref (ad 3), .ref (ad 4), .long g_13, .long g_14, .long g_15, .long g_16])) := s_153.2.2 _ _ f_134 (by first | decide | omega)
    have k_163 : V_152 3 = g := (s_153.2.1 3 (by first | decide | omega)).trans k_135
    have k_164 : V_152 5 = g := (s_153.2.1 5 (by first | decide | omega)).trans k_136
    have k_165 : V_152 7 = q1 / g := (s_153.2.1 7 (by first | decide | omega)).trans k_137
    have k_166 : V_152 9 = q2 / g := (s_153.2.1 9 (by first | decide | omega)).trans k_138
    have k_167 : V_152 6 = p1.natAbs * (q2 / g) := (s_153.2.1 6 (by first | decide | omega)).trans k_139
    have k_168 : V_152 8 = p2.natAbs * (q1 / g) := (s_153.2.1 8 (by first | decide | omega)).trans k_128
    have rd_169 := rd_fr rd_140 s_153.2.2 (fun _ h => by omega)
    have rd_170 := rd_fr rd_141 s_153.2.2 (fun _ h => by omega)
    have rd_171 := rd_fr rd_142 s_153.2.2 (fun _ h => by omega)
    have rd_172 := rd_fr rd_143 s_153.2.2 (fun _ h => by omega)
    have W_173 := s_153.1
    have S_174 : w2s cA X ad (fun x => x < 11 ∨ x = 19 ∨ x = ta ∨ x = tb ∨ x = to) G V V_152 (G_148, B_149) := w2s_mono (w2s_tr S_145 s_153) (fun _ h => by omega)
    have bl_175 := w2_le W_173
    refine g_put (ty := .int) hx hb hts hin_Fr ty_Fr ty_Fr_ok nm_Fr hown hK f_159 rfl 0 (by decide) (hts _ wm164) (fun _ h9 => h9) rfl (by decide +kernel) rfl rfl (Nat.le_of_ble_eq_true rfl) d_Ca_setSum_110 (fun G_176 f_177 o_178 => ?_)
    have f_179 : G_176 hf = some (to, .inr (3, [.int (sgI (N1 + N2)), .ref (ad ta), .ref (ad tb)])) := f_177
    have fr_180 : gfr (fun x => x = to) G_148 G_176 := gfr_put gfr_rf f_159 rfl o_178
    have s_181 : w2s cA X ad (fun x => x = to) G_148 V_152 V_152 (G_176, B_149) := ⟨w2_fr W_173 fr_180 (fun _ _ => by omega), fun _ _ => rfl, fr_180⟩
    have f_182 : G_176 hk = some (30, .inr (0, [.ref hd, .ref hc, .ref (ad 5), .ref (ad 6), .ref (ad 7), .ref (ad 8), .ref (ad 9), .ref (ad 10)])) := s_181.2.2 _ _ f_157 (by first | decide | omega)
    have f_183 : G_176 hd = some (30, .inr (2, [.ref (ad 0), .ref (ad 1), .ref (ad 2)])) := s_181.2.2 _ _ f_158 (by first | decide | omega)
    have f_184 : G_176 h1 = some (t1, .inr (3, [.int (sgI p1), .ref a1, .ref b1])) := s_181.2.2 _ _ f_160 (by first | decide | omega)
    have f_185 : G_176 h2 = some (t2, .inr (3, [.int (sgI p2), .ref a2, .ref b2])) := s_181.2.2 _ _ f_161 (by first | decide | omega)
    have f_186 : G_176 hc = some (19, .inr (1, [.ref hd, .ref (ad 3), .ref (ad 4), .long g_13, .long g_14, .long g_15, .long g_16])) := s_181.2.2 _ _ f_162 (by first | decide | omega)
    have k_187 : V_152 3 = g := (s_181.2.1 3 (by first | decide | omega)).trans k_163
    have k_188 : V_152 5 = g := (s_181.2.1 5 (by first | decide | omega)).trans k_164
    have k_189 : V_152 7 = q1 / g := (s_181.2.1 7 (by first | decide | omega)).trans k_165
    have k_190 : V_152 9 = q2 / g := (s_181.2.1 9 (by first | decide | omega)).trans k_166
    have k_191 : V_152 6 = p1.natAbs * (q2 / g) := (s_181.2.1 6 (by first | decide | omega)).trans k_167
    have k_192 : V_152 8 = p2.natAbs * (q1 / g) := (s_181.2.1 8 (by first | decide | omega)).trans k_168
    have k_193 : V_152 10 = (N1 + N2).natAbs := (s_181.2.1 10 (by first | decide | omega)).trans k_154
    have rd_194 := rd_fr rd_169 s_181.2.2 (fun _ h => by omega)
    have rd_195 := rd_fr rd_170 s_181.2.2 (fun _ h => by omega)
    have rd_196 := rd_fr rd_171 s_181.2.2 (fun _ h => by omega)
    have rd_197 := rd_fr rd_172 s_181.2.2 (fun _ h => by omega)
    have W_198 := s_181.1
    have S_199 : w2s cA X ad (fun x => x < 11 ∨ x = 19 ∨ x = ta ∨ x = tb ∨ x = to) G V V_152 (G_176, B_149) := w2s_mono (w2s_tr S_174 s_181) (fun _ h => by omega)
    have bl_200 := w2_le W_198
    refine gs (pc' := 114) (fun _ _ _ _ _ hl => lv_aload_n hx hb d_Ca_setSum_113 rfl (lv_at hl 0 rfl)) ?_
    refine g_get hx hb hts hin_Ca hown hK f_182 rfl 1 (by decide) (hts _ wm131) (fun _ h9 => h9) rfl d_Ca_setSum_114 ?_
    refine gs (pc' := 118) (fun _ _ _ _ _ hl => lv_aload_n hx hb d_Ca_setSum_117 rfl (lv_at hl 0 rfl)) ?_
    refine g_get hx hb hts hin_Ca hown hK f_182 rfl 7 (by decide) (hts _ wm137) (fun _ h9 => h9) rfl d_Ca_setSum_118 ?_
    refine gs (pc' := 122) (fun _ _ _ _ _ hl => lv_aload_n hx hb d_Ca_setSum_121 rfl (lv_at hl 0 rfl)) ?_
    refine g_get hx hb hts hin_Ca hown hK f_182 rfl 2 (by decide) (hts _ wm132) (fun _ h9 => h9) rfl d_Ca_setSum_122 ?_
    have lt_201 : (N1 + N2).natAbs < 1000000000 ^ (k1 + k2 + 1) := lb_up lt_156 (by omega)
    have lt_202 : g < 1000000000 ^ (k1 + k2 + 1) := lb_up lt_17 (by omega)
    refine g_outr hlo (g_runV (As := [.ref (ad 10), .ref (ad 5)]) (rest := []) ⟨hx, hb, hml, hown, hts⟩ hK hZ hRc hRs (n_find l D cA lo MC MS G_176 B_149 X ad V_152 W_198 hX1 hX2 hd hc g_13 g_14 g_15 g_16 f_186 f_183 (ad 10) ((N1 + N2).natAbs) (ad 5) g (k1 + k2 + 1) (rd_w2' (P := fun x => 5 ≤ x ∧ ¬ x = 19) W_198 (by first | decide | omega) (by first | trivial | omega) k_193) (rd_w2' (P := fun x => 5 ≤ x ∧ ¬ x = 19) W_198 (by first | decide | omega) (by first | trivial | omega) k_188) lt_201 lt_202 (by omega)) (fun _ _ => cwV 2 hts (tb_good (tb_cons wm399 (tb_cons wm400 (tb_cons wm401 (tb_cons wm7 k_Cd_find))))) rfl rfl rfl (by decide +kernel) ⟨by rw [hRf]; exact Nat.le_of_ble_eq_true rfl, by rw [hRl]; exact Nat.le_of_ble_eq_true rfl⟩) f_186 rfl (show B_149.1 ≤ MC by omega) (show B_149.2 ≤ MS by omega) rfl (Nat.le_of_ble_eq_true rfl) d_Ca_setSum_125) (fun r_206 G_203 B_204 p_205 => ?_)
    obtain ⟨e_210, V_207, s_208, k_209, g_212, g_213, g_214, g_215, f_211⟩ := p_205
    subst e_210
    have lt_216 : Nat.gcd ((N1 + N2).natAbs) g < 1000000000 ^ (k1 + k2 + 1) := lb_gcd lt_201 lt_202
    have f_217 : G_203 hk = some (30, .inr (0, [.ref hd, .ref hc, .ref (ad 5), .ref (ad 6), .ref (ad 7), .ref (ad 8), .ref (ad 9), .ref (ad 10)])) := s_208.2.2 _ _ f_182 (by first | decide | omega)
    have f_218 : G_203 hd = some (30, .inr (2, [.ref (ad 0), .ref (ad 1), .ref (ad 2)])) := s_208.2.2 _ _ f_183 (by first | decide | omega)
    have f_219 : G_203 h1 = some (t1, .inr (3, [.int (sgI p1), .ref a1, .ref b1])) := s_208.2.2 _ _ f_184 (by first | decide | omega)
    have f_220 : G_203 h2 = some (t2, .inr (3, [.int (sgI p2), .ref a2, .ref b2])) := s_208.2.2 _ _ f_185 (by first | decide | omega)
    have f_221 : G_203 hf = some (to, .inr (3, [.int (sgI (N1 + N2)), .ref (ad ta), .ref (ad tb)])) := s_208.2.2 _ _ f_179 (by first | decide | omega)
    have k_222 : V_207 5 = g := (s_208.2.1 5 (by first | decide | omega)).trans k_188
    have k_223 : V_207 7 = q1 / g := (s_208.2.1 7 (by first | decide | omega)).trans k_189
    have k_224 : V_207 9 = q2 / g := (s_208.2.1 9 (by first | decide | omega)).trans k_190
    have k_225 : V_207 6 = p1.natAbs * (q2 / g) := (s_208.2.1 6 (by first | decide | omega)).trans k_191
    have k_226 : V_207 8 = p2.natAbs * (q1 / g) := (s_208.2.1 8 (by first | decide | omega)).trans k_192
    have k_227 : V_207 10 = (N1 + N2).natAbs := (s_208.2.1 10 (by first | decide | omega)).trans k_193
    have rd_228 := rd_fr rd_194 s_208.2.2 (fun _ h => by omega)
    have rd_229 := rd_fr rd_195 s_208.2.2 (fun _ h => by omega)
    have rd_230 := rd_fr rd_196 s_208.2.2 (fun _ h => by omega)
    have rd_231 := rd_fr rd_197 s_208.2.2 (fun _ h => by omega)
    have W_232 := s_208.1
    have S_233 : w2s cA X ad (fun x => x < 11 ∨ x = 19 ∨ x = ta ∨ x = tb ∨ x = to) G V V_207 (G_203, B_204) := w2s_mono (w2s_tr S_199 s_208) (fun _ h => by omega)
    have bl_234 := w2_le W_232
    refine gst (pc' := 130) (L' := [(5, .ref (ad 3)), (0, .ref hk), (1, .ref hf), (2, .ref h1), (3, .ref h2), (4, .int le)]) (fun _ _ _ _ _ hl => lv_astore hx hb d_Ca_setSum_128 hl (by decide) rfl) ?_
    obtain ⟨g2, hg2⟩ : ∃ g2, g2 = Nat.gcd (N1 + N2).natAbs g := ⟨_, rfl⟩
    have hg20 : 0 < g2 := by rw [hg2]; exact Nat.gcd_pos_of_pos_right _ hg0
    rw [← hg2] at k_209 lt_216
    refine gs (pc' := 131) (fun _ _ _ _ _ hl => lv_aload_n hx hb d_Ca_setSum_130 rfl (lv_at hl 1 rfl)) ?_
    refine gs (pc' := 132) (fun _ _ _ _ _ hl => lv_aload_n hx hb d_Ca_setSum_131 rfl (lv_at hl 2 rfl)) ?_
    refine g_get hx hb hts hin_Fr hown hK f_221 rfl 1 (by decide) (hts _ wm167) (fun _ h9 => h9) rfl d_Ca_setSum_132 ?_
    refine gs (pc' := 136) (fun _ _ _ _ _ hl => lv_aload_n hx hb d_Ca_setSum_135 rfl (lv_at hl 1 rfl)) ?_
    refine g_get hx hb hts hin_Ca hown hK f_217 rfl 7 (by decide) (hts _ wm137) (fun _ h9 => h9) rfl d_Ca_setSum_136 ?_
    refine gs (pc' := 141) (fun _ _ _ _ _ hl => lv_aload hx hb d_Ca_setSum_139 (lv_at hl 0 rfl)) ?_
    refine g_outv hlo (g_runV (As := [.ref (ad ta), .ref (ad 10), .ref (ad 3)]) (rest := []) ⟨hx, hb, hml, hown, hts⟩ hK hZ hRc hRs (n_setQuotient l D cA lo MC MS G_203 B_204 X ad V_207 W_232 hX1 hX2 hk hd hc f_217 f_218 (cdO_i f_211) ta (by first | decide | omega) (by first | decide | omega) (ad 10) ((N1 + N2).natAbs) (ad 3) g2 (k1 + k2 + 1) (rd_w2' (P := fun x => 3 ≤ x) W_232 (by first | decide | omega) (by first | trivial | omega) k_227) (rd_w2' (P := fun x => 3 ≤ x) W_232 (by first | decide | omega) (by first | trivial | omega) k_209) lt_156 (by omega) hg20) (fun _ _ => cwV 3 hts (tb_good (tb_cons wm489 (tb_cons wm491 (tb_cons ws9 (tb_cons wm3 k_Ca_setQuotient))))) rfl rfl rfl (by decide +kernel) ⟨by rw [hRf]; exact Nat.le_of_ble_eq_true rfl, by rw [hRl]; exact Nat.le_of_ble_eq_true rfl⟩) f_217 rfl (show B_204.1 ≤ MC by omega) (show B_204.2 ≤ MS by omega) rfl (Nat.le_of_ble_eq_true rfl) d_Ca_setSum_141) (fun G_235 B_236 p_237 => ?_)
    obtain ⟨V_238, s_239, k_240⟩ := p_237
    have lt_241 : ((N1 + N2).natAbs) / g2 < 1000000000 ^ (k1 + k2 + 1) := Nat.lt_of_le_of_lt (Nat.div_le_self _ _) lt_156
    have f_242 : G_235 hk = some (30, .inr (0, [.ref hd, .ref hc, .ref (ad 5), .ref (ad 6), .ref (ad 7), .ref (ad 8), .ref (ad 9), .ref (ad 10)])) := s_239.2.2 _ _ f_217 (by first | decide | omega)
    have f_243 : G_235 hd = some (30, .inr (2, [.ref (ad 0), .ref (ad 1), .ref (ad 2)])) := s_239.2.2 _ _ f_218 (by first | decide | omega)
    have f_244 : G_235 h1 = some (t1, .inr (3, [.int (sgI p1), .ref a1, .ref b1])) := s_239.2.2 _ _ f_219 (by first | decide | omega)
    have f_245 : G_235 h2 = some (t2, .inr (3, [.int (sgI p2), .ref a2, .ref b2])) := s_239.2.2 _ _ f_220 (by first | decide | omega)
    have f_246 : G_235 hf = some (to, .inr (3, [.int (sgI (N1 + N2)), .ref (ad ta), .ref (ad tb)])) := s_239.2.2 _ _ f_221 (by first | decide | omega)
    have f_247 : G_235 hc = some (19, .inr (1, [.ref hd, .ref (ad 3), .ref (ad 4), .long g_212, .long g_213, .long g_214, .long g_215])) := s_239.2.2 _ _ f_211 (by first | decide | omega)
    have k_248 : V_238 5 = g := (s_239.2.1 5 (by first | decide | omega)).trans k_222
    have k_249 : V_238 7 = q1 / g := (s_239.2.1 7 (by first | decide | omega)).trans k_223
    have k_250 : V_238 9 = q2 / g := (s_239.2.1 9 (by first | decide | omega)).trans k_224
    have k_251 : V_238 6 = p1.natAbs * (q2 / g) := (s_239.2.1 6 (by first | decide | omega)).trans k_225
    have k_252 : V_238 8 = p2.natAbs * (q1 / g) := (s_239.2.1 8 (by first | decide | omega)).trans k_226
    have k_253 : V_238 10 = (N1 + N2).natAbs := (s_239.2.1 10 (by first | decide | omega)).trans k_227
    have k_254 : V_238 3 = g2 := (s_239.2.1 3 (by first | decide | omega)).trans k_209
    have rd_255 := rd_fr rd_228 s_239.2.2 (fun _ h => by omega)
    have rd_256 := rd_fr rd_229 s_239.2.2 (fun _ h => by omega)
    have rd_257 := rd_fr rd_230 s_239.2.2 (fun _ h => by omega)
    have rd_258 := rd_fr rd_231 s_239.2.2 (fun _ h => by omega)
    have W_259 := s_239.1
    have S_260 : w2s cA X ad (fun x => x < 11 ∨ x = 19 ∨ x = ta ∨ x = tb ∨ x = to) G V V_238 (G_235, B_236) := w2s_mono (w2s_tr S_233 s_239) (fun _ h => by omega)
    have bl_261 := w2_le W_259
    refine gs (pc' := 145) (fun _ _ _ _ _ hl => lv_aload_n hx hb d_Ca_setSum_144 rfl (lv_at hl 1 rfl)) ?_
    refine gs (pc' := 146) (fun _ _ _ _ _ hl => lv_aload_n hx hb d_Ca_setSum_145 rfl (lv_at hl 1 rfl)) ?_
    refine g_get hx hb hts hin_Ca hown hK f_242 rfl 6 (by decide) (hts _ wm136) (fun _ h9 => h9) rfl d_Ca_setSum_146 ?_
    refine gs (pc' := 150) (fun _ _ _ _ _ hl => lv_aload_n hx hb d_Ca_setSum_149 rfl (lv_at hl 4 rfl)) ?_
    refine g_get hx hb hts hin_Fr hown hK f_245 rfl 2 (by decide) (hts _ wm170) (fun _ h9 => h9) rfl d_Ca_setSum_150 ?_
    refine gs (pc' := 155) (fun _ _ _ _ _ hl => lv_aload hx hb d_Ca_setSum_153 (lv_at hl 0 rfl)) ?_
    refine g_outv hlo (g_runV (As := [.ref (ad 9), .ref b2, .ref (ad 3)]) (rest := []) ⟨hx, hb, hml, hown, hts⟩ hK hZ hRc hRs (n_setQuotient l D cA lo MC MS G_235 B_236 X ad V_238 W_259 hX1 hX2 hk hd hc f_242 f_243 (cdO_i f_247) 9 (by first | decide | omega) (by first | decide | omega) b2 q2 (ad 3) g2 k2 (rd_mono (P1 := fun x => 3 ≤ x) rd_258 (fun _ h => by first | trivial | omega)) (rd_w2' (P := fun x => 3 ≤ x) W_259 (by first | decide | omega) (by first | trivial | omega) k_254) hq2 (by omega) hg20) (fun _ _ => cwV 3 hts (tb_good (tb_cons wm489 (tb_cons wm491 (tb_cons ws9 (tb_cons wm3 k_Ca_setQuotient))))) rfl rfl rfl (by decide +kernel) ⟨by rw [hRf]; exact Nat.le_of_ble_eq_true rfl, by rw [hRl]; exact Nat.le_of_ble_eq_true rfl⟩) f_242 rfl (show B_236.1 ≤ MC by omega) (show B_236.2 ≤ MS by omega) rfl (Nat.le_of_ble_eq_true rfl) d_Ca_setSum_155) (fun G_262 B_263 p_264 => ?_)
    obtain ⟨V_265, s_266, k_267⟩ := p_264
    have lt_268 : q2 / g2 < 1000000000 ^ k2 := Nat.lt_of_le_of_lt (Nat.div_le_self _ _) hq2
    have f_269 : G_262 hk = some (30, .inr (0, [.ref hd, .ref hc, .ref (ad 5), .ref (ad 6), .ref (ad 7), .ref (ad 8), .ref (ad 9), .ref (ad 10)])) := s_266.2.2 _ _ f_242 (by first | decide | omega)
    have f_270 : G_262 hd = some (30, .inr (2, [.ref (ad 0), .ref (ad 1), .ref (ad 2)])) := s_266.2.2 _ _ f_243 (by first | decide | omega)
    have f_271 : G_262 h1 = some (t1, .inr (3, [.int (sgI p1), .ref a1, .ref b1])) := s_266.2.2 _ _ f_244 (by first | decide | omega)
    have f_272 : G_262 h2 = some (t2, .inr (3, [.int (sgI p2), .ref a2, .ref b2])) := s_266.2.2 _ _ f_245 (by first | decide | omega)
    have f_273 : G_262 hf = some (to, .inr (3, [.int (sgI (N1 + N2)), .ref (ad ta), .ref (ad tb)])) := s_266.2.2 _ _ f_246 (by first | decide | omega)
    have f_274 : G_262 hc = some (19, .inr (1, [.ref hd, .ref (ad 3), .ref (ad 4), .long g_212, .long g_213, .long g_214, .long g_215])) := s_266.2.2 _ _ f_247 (by first | decide | omega)
    have k_275 : V_265 5 = g := (s_266.2.1 5 (by first | decide | omega)).trans k_248
    have k_276 : V_265 7 = q1 / g := (s_266.2.1 7 (by first | decide | omega)).trans k_249
    have k_277 : V_265 6 = p1.natAbs * (q2 / g) := (s_266.2.1 6 (by first | decide | omega)).trans k_251
    have k_278 : V_265 8 = p2.natAbs * (q1 / g) := (s_266.2.1 8 (by first | decide | omega)).trans k_252
    have k_279 : V_265 10 = (N1 + N2).natAbs := (s_266.2.1 10 (by first | decide | omega)).trans k_253
    have k_280 : V_265 3 = g2 := (s_266.2.1 3 (by first | decide | omega)).trans k_254
    have k_281 : V_265 ta = ((N1 + N2).natAbs) / g2 := (s_266.2.1 ta (by first | decide | omega)).trans k_240
    have rd_282 := rd_fr rd_255 s_266.2.2 (fun _ h => by omega)
    have rd_283 := rd_fr rd_256 s_266.2.2 (fun _ h => by omega)
    have rd_284 := rd_fr rd_257 s_266.2.2 (fun _ h => by omega)
    have rd_285 := rd_fr rd_258 s_266.2.2 (fun _ h => by omega)
    have W_286 := s_266.1
    have S_287 : w2s cA X ad (fun x => x < 11 ∨ x = 19 ∨ x = ta ∨ x = tb ∨ x = to) G V V_265 (G_262, B_263) := w2s_mono (w2s_tr S_260 s_266) (fun _ h => by omega)
    have bl_288 := w2_le W_286
    refine gs (pc' := 159) (fun _ _ _ _ _ hl => lv_aload_n hx hb d_Ca_setSum_158 rfl (lv_at hl 2 rfl)) ?_
    refine g_get hx hb hts hin_Fr hown hK f_273 rfl 2 (by decide) (hts _ wm170) (fun _ h9 => h9) rfl d_Ca_setSum_159 ?_
    refine gs (pc' := 163) (fun _ _ _ _ _ hl => lv_aload_n hx hb d_Ca_setSum_162 rfl (lv_at hl 1 rfl)) ?_
    refine g_get hx hb hts hin_Ca hown hK f_269 rfl 4 (by decide) (hts _ wm134) (fun _ h9 => h9) rfl d_Ca_setSum_163 ?_
    refine gs (pc' := 167) (fun _ _ _ _ _ hl => lv_aload_n hx hb d_Ca_setSum_166 rfl (lv_at hl 1 rfl)) ?_
    refine g_get hx hb hts hin_Ca hown hK f_269 rfl 6 (by decide) (hts _ wm136) (fun _ h9 => h9) rfl d_Ca_setSum_167 ?_
    obtain ⟨κo_289, ao_289, zo_289, fo_289, hho_289, hao_289, hzo_289, hDo_289, hco_289⟩ := w2_N W_286 (show tb < 19 by first | decide | omega)
    have hbo_289 : zo_289 ≤ 3000 := by omega
    refine g_outv hlo (g_runV (As := [.ref (ad 7), .ref (ad 9)]) (rest := []) ⟨hx, hb, hml, hown, hts⟩ hK hZ hRc hRs (n_setProduct l D cA lo MC MS G_262 B_263 X ad V_265 W_286 hX1 hX2 tb (by first | decide | omega) (ad 7) (q1 / g) k1 (rd_w2' (P := fun x => ¬ x = tb) W_286 (by first | decide | omega) (by first | trivial | omega) k_276) lt_57 (ad 9) (q2 / g2) k2 (rd_w2' (P := fun x => ¬ x = tb) W_286 (by first | decide | omega) (by first | trivial | omega) k_267) lt_268 (by omega)) (fun _ _ => cwV 2 hts (tb_good (tb_cons wm563 (tb_cons wm564 (tb_cons wm565 (tb_cons wm5 k_Na_setProduct))))) rfl rfl rfl (by decide +kernel) ⟨by rw [hRf]; exact Nat.le_of_ble_eq_true rfl, by rw [hRl]; exact Nat.le_of_ble_eq_true rfl⟩) hho_289 rfl (show B_263.1 ≤ MC by omega) (show B_263.2 ≤ MS by omega) rfl (Nat.le_of_ble_eq_true rfl) d_Ca_setSum_170) (fun G_290 B_291 p_292 => ?_)
    have lt_293 : (q1 / g) * (q2 / g2) < 1000000000 ^ (k1 + k2) := lb_mul lt_57 lt_268
    obtain ⟨V_294, s_295, k_296⟩ := p_292
    have f_297 : G_290 hk = some (30, .inr (0, [.ref hd, .ref hc, .ref (ad 5), .ref (ad 6), .ref (ad 7), .ref (ad 8), .ref (ad 9), .ref (ad 10)])) := s_295.2.2 _ _ f_269 (by first | decide | omega)
    have f_298 : G_290 hd = some (30, .inr (2, [.ref (ad 0), .ref (ad 1), .ref (ad 2)])) := s_295.2.2 _ _ f_270 (by first | decide | omega)
    have f_299 : G_290 h1 = some (t1, .inr (3, [.int (sgI p1), .ref a1, .ref b1])) := s_295.2.2 _ _ f_271 (by first | decide | omega)
    have f_300 : G_290 h2 = some (t2, .inr (3, [.int (sgI p2), .ref a2, .ref b2])) := s_295.2.2 _ _ f_272 (by first | decide | omega)
    have f_301 : G_290 hf = some (to, .inr (3, [.int (sgI (N1 + N2)), .ref (ad ta), .ref (ad tb)])) := s_295.2.2 _ _ f_273 (by first | decide | omega)
    have f_302 : G_290 hc = some (19, .inr (1, [.ref hd, .ref (ad 3), .ref (ad 4), .long g_212, .long g_213, .long g_214, .long g_215])) := s_295.2.2 _ _ f_274 (by first | decide | omega)
    have k_303 : V_294 5 = g := (s_295.2.1 5 (by first | decide | omega)).trans k_275
    have k_304 : V_294 7 = q1 / g := (s_295.2.1 7 (by first | decide | omega)).trans k_276
    have k_305 : V_294 6 = p1.natAbs * (q2 / g) := (s_295.2.1 6 (by first | decide | omega)).trans k_277
    have k_306 : V_294 8 = p2.natAbs * (q1 / g) := (s_295.2.1 8 (by first | decide | omega)).trans k_278
    have k_307 : V_294 10 = (N1 + N2).natAbs := (s_295.2.1 10 (by first | decide | omega)).trans k_279
    have k_308 : V_294 3 = g2 := (s_295.2.1 3 (by first | decide | omega)).trans k_280
    have k_309 : V_294 ta = ((N1 + N2).natAbs) / g2 := (s_295.2.1 ta (by first | decide | omega)).trans k_281
    have k_310 : V_294 9 = q2 / g2 := (s_295.2.1 9 (by first | decide | omega)).trans k_267
    have rd_311 := rd_fr rd_282 s_295.2.2 (fun _ h => by omega)
    have rd_312 := rd_fr rd_283 s_295.2.2 (fun _ h => by omega)
    have rd_313 := rd_fr rd_284 s_295.2.2 (fun _ h => by omega)
    have rd_314 := rd_fr rd_285 s_295.2.2 (fun _ h => by omega)
    have W_315 := s_295.1
    have S_316 : w2s cA X ad (fun x => x < 11 ∨ x = 19 ∨ x = ta ∨ x = tb ∨ x = to) G V V_294 (G_290, B_291) := w2s_mono (w2s_tr S_287 s_295) (fun _ h => by omega)
    have bl_317 := w2_le W_315
    have hfs := fr_sum (N1 := p1) (N2 := p2) hq01 hq02 hco1 (hco2) hg (t := (N1 + N2).natAbs) (by rw [hN1, hN2]) hg2
    have hsg : sgI (N1 + N2) = sgI (frn (p1 * q2 + p2 * q1) (q1 * q2)) := by
      rw [frn_sg, ← sgI_mulp (p := N1 + N2) hg0]
      congr 1
      rw [hN1, hN2, Int.add_mul, Int.mul_assoc, Int.mul_assoc, ← Int.natCast_mul, ← Int.natCast_mul, Nat.div_mul_cancel (by rw [hg]; exact Nat.gcd_dvd_right _ _), Nat.div_mul_cancel (by rw [hg]; exact Nat.gcd_dvd_left _ _)]
    exact hret 173 _ _ _ d_Ca_setSum_173 (show B_291.1 ≤ MC by omega) (show B_291.2 ≤ MS by omega) ⟨V_294, S_316, k_309.trans (hfs.1.trans (frn_abs _ _).symm), k_296.trans hfs.2, by rw [← hsg]; exact f_301, cdO_i f_302⟩
  · skip
    have hle : (if le = 0 then p2 else -p2) = -p2 := if_neg c_147
    rw [hle] at hret
    refine gs (pc' := 96) (fun _ _ _ _ _ hl => lv_aload_n hx hb d_Ca_setSum_95 rfl (lv_at hl 3 rfl)) ?_
    refine g_get hx hb hts hin_Fr hown hK f_133 rfl 0 (by decide) (hts _ wm164) (fun _ h9 => h9) rfl d_Ca_setSum_96 ?_
    refine gs (pc' := 100) (fun _ _ _ _ _ hl => lv_ineg hx hb d_Ca_setSum_99) ?_
    obtain ⟨N2, hN2⟩ : ∃ N2 : Int, N2 = (-p2) * ((q1 / g : Nat) : Int) := ⟨_, rfl⟩
    have hn2 : p2.natAbs * (q1 / g) = N2.natAbs := by rw [hN2, ← nab_mul, Int.natAbs_neg]
    refine g_eqi (show -(sgI p2) = sgI N2 from (sgI_opp p2).trans (by rw [hN2]; exact (sgI_mulp hq1g).symm)) ?_
    refine gs (pc' := 107) (fun _ _ _ _ _ hl => lv_goto (tgt := 107) hx hb d_Ca_setSum_100 (by decide)) ?_
    refine g_outi hlo (g_runV (As := [.int (sgI N1), .int (sgI N2)]) (rest := [.ref hf]) ⟨hx, hb, hml, hown, hts⟩ hK hZ hRc hRs (n_joinParts l D cA lo MC MS G_122 B_123 X ad V_126 W_144 hX1 hX2 hk hd hc f_129 f_130 (cdO_i f_134) N1 N2 (k1 + k2) (k_139.trans hn1) (k_128.trans hn2) (by rw [← hn1]; exact lb_up lt_100 (by omega)) (by rw [← hn2]; exact lb_up lt_125 (by omega)) (by omega)) (fun _ _ => cwV 2 hts (tb_good (tb_cons wm568 (tb_cons wm570 (tb_cons ws12 (tb_cons wm3 k_Ca_joinParts))))) rfl rfl rfl (by decide +kernel) ⟨by rw [hRf]; exact Nat.le_of_ble_eq_true rfl, by rw [hRl]; exact Nat.le_of_ble_eq_true rfl⟩) f_129 rfl (show B_123.1 ≤ MC by omega) (show B_123.2 ≤ MS by omega) rfl (Nat.le_of_ble_eq_true rfl) d_Ca_setSum_107) (fun r_321 G_318 B_319 p_320 => ?_)
    have lt_326 : (N1 + N2).natAbs < 1000000000 ^ (k1 + k2 + 1) := lb_sum (by rw [← hn1]; exact lb_up lt_100 (by omega)) (by rw [← hn2]; exact lb_up lt_125 (by omega))
    obtain ⟨e_325, V_322, s_323, k_324⟩ := p_320
    subst e_325
    have f_327 : G_318 hk = some (30, .inr (0, [.ref hd, .ref hc, .ref (ad 5), .ref (ad 6), .ref (ad 7), .ref (ad 8), .ref (ad 9), .ref (ad 10)])) := s_323.2.2 _ _ f_129 (by first | decide | omega)
    have f_328 : G_318 hd = some (30, .inr (2, [.ref (ad 0), .ref (ad 1), .ref (ad 2)])) := s_323.2.2 _ _ f_130 (by first | decide | omega)
    have f_329 : G_318 hf = some (to, .inr (3, [.int sf, .ref (ad ta), .ref (ad tb)])) := s_323.2.2 _ _ f_131 (by first | decide | omega)
    have f_330 : G_318 h1 = some (t1, .inr (3, [.int (sgI p1), .ref a1, .ref b1])) := s_323.2.2 _ _ f_132 (by first | decide | omega)
    have f_331 : G_318 h2 = some (t2, .inr (3, [.int (sgI p2), .ref a2, .ref b2])) := s_323.2.2 _ _ f_133 (by first | decide | omega)
    have f_332 : G_318 hc = some (19, .inr (1, [.ref hd, .ref (ad 3), .ref (ad 4), .long g_13, .long g_14, .long g_15, .long g_16])) := s_323.2.2 _ _ f_134 (by first | decide | omega)
    have k_333 : V_322 3 = g := (s_323.2.1 3 (by first | decide | omega)).trans k_135
    have k_334 : V_322 5 = g := (s_323.2.1 5 (by first | decide | omega)).trans k_136
    have k_335 : V_322 7 = q1 / g := (s_323.2.1 7 (by first | decide | omega)).trans k_137
    have k_336 : V_322 9 = q2 / g := (s_323.2.1 9 (by first | decide | omega)).trans k_138
    have k_337 : V_322 6 = p1.natAbs * (q2 / g) := (s_323.2.1 6 (by first | decide | omega)).trans k_139
    have k_338 : V_322 8 = p2.natAbs * (q1 / g) := (s_323.2.1 8 (by first | decide | omega)).trans k_128
    have rd_339 := rd_fr rd_140 s_323.2.2 (fun _ h => by omega)
    have rd_340 := rd_fr rd_141 s_323.2.2 (fun _ h => by omega)
    have rd_341 := rd_fr rd_142 s_323.2.2 (fun _ h => by omega)
    have rd_342 := rd_fr rd_143 s_323.2.2 (fun _ h => by omega)
    have W_343 := s_323.1
    have S_344 : w2s cA X ad (fun x => x < 11 ∨ x = 19 ∨ x = ta ∨ x = tb ∨ x = to) G V V_322 (G_318, B_319) := w2s_mono (w2s_tr S_145 s_323) (fun _ h => by omega)
    have bl_345 := w2_le W_343
    refine g_put (ty := .int) hx hb hts hin_Fr ty_Fr ty_Fr_ok nm_Fr hown hK f_329 rfl 0 (by decide) (hts _ wm164) (fun _ h9 => h9) rfl (by decide +kernel) rfl rfl (Nat.le_of_ble_eq_true rfl) d_Ca_setSum_110 (fun G_346 f_347 o_348 => ?_)
    have f_349 : G_346 hf = some (to, .inr (3, [.int (sgI (N1 + N2)), .ref (ad ta), .ref (ad tb)])) := f_347
    have fr_350 : gfr (fun x => x = to) G_318 G_346 := gfr_put gfr_rf f_329 rfl o_348
    have s_351 : w2s cA X ad (fun x => x = to) G_318 V_322 V_322 (G_346, B_319) := ⟨w2_fr W_343 fr_350 (fun _ _ => by omega), fun _ _ => rfl, fr_350⟩
    have f_352 : G_346 hk = some (30, .inr (0, [.ref hd, .ref hc, .ref (ad 5), .ref (ad 6), .ref (ad 7), .ref (ad 8), .ref (ad 9), .ref (ad 10)])) := s_351.2.2 _ _ f_327 (by first | decide | omega)
    have f_353 : G_346 hd = some (30, .inr (2, [.ref (ad 0), .ref (ad 1), .ref (ad 2)])) := s_351.2.2 _ _ f_328 (by first | decide | omega)
    have f_354 : G_346 h1 = some (t1, .inr (3, [.int (sgI p1), .ref a1, .ref b1])) := s_351.2.2 _ _ f_330 (by first | decide | omega)
    have f_355 : G_346 h2 = some (t2, .inr (3, [.int (sgI p2), .ref a2, .ref b2])) := s_351.2.2 _ _ f_331 (by first | decide | omega)
    have f_356 : G_346 hc = some (19, .inr (1, [.ref hd, .ref (ad 3), .ref (ad 4), .long g_13, .long g_14, .long g_15, .long g_16])) := s_351.2.2 _ _ f_332 (by first | decide | omega)
    have k_357 : V_322 3 = g := (s_351.2.1 3 (by first | decide | omega)).trans k_333
    have k_358 : V_322 5 = g := (s_351.2.1 5 (by first | decide | omega)).trans k_334
    have k_359 : V_322 7 = q1 / g := (s_351.2.1 7 (by first | decide | omega)).trans k_335
    have k_360 : V_322 9 = q2 / g := (s_351.2.1 9 (by first | decide | omega)).trans k_336
    have k_361 : V_322 6 = p1.natAbs * (q2 / g) := (s_351.2.1 6 (by first | decide | omega)).trans k_337
    have k_362 : V_322 8 = p2.natAbs * (q1 / g) := (s_351.2.1 8 (by first | decide | omega)).trans k_338
    have k_363 : V_322 10 = (N1 + N2).natAbs := (s_351.2.1 10 (by first | decide | omega)).trans k_324
    have rd_364 := rd_fr rd_339 s_351.2.2 (fun _ h => by omega)
    have rd_365 := rd_fr rd_340 s_351.2.2 (fun _ h => by omega)
    have rd_366 := rd_fr rd_341 s_351.2.2 (fun _ h => by omega)
    have rd_367 := rd_fr rd_342 s_351.2.2 (fun _ h => by omega)
    have W_368 := s_351.1
    have S_369 : w2s cA X ad (fun x => x < 11 ∨ x = 19 ∨ x = ta ∨ x = tb ∨ x = to) G V V_322 (G_346, B_319) := w2s_mono (w2s_tr S_344 s_351) (fun _ h => by omega)
    have bl_370 := w2_le W_368
    refine gs (pc' := 114) (fun _ _ _ _ _ hl => lv_aload_n hx hb d_Ca_setSum_113 rfl (lv_at hl 0 rfl)) ?_
    refine g_get hx hb hts hin_Ca hown hK f_352 rfl 1 (by decide) (hts _ wm131) (fun _ h9 => h9) rfl d_Ca_setSum_114 ?_
    refine gs (pc' := 118) (fun _ _ _ _ _ hl => lv_aload_n hx hb d_Ca_setSum_117 rfl (lv_at hl 0 rfl)) ?_
    refine g_get hx hb hts hin_Ca hown hK f_352 rfl 7 (by decide) (hts _ wm137) (fun _ h9 => h9) rfl d_Ca_setSum_118 ?_
    refine gs (pc' := 122) (fun _ _ _ _ _ hl => lv_aload_n hx hb d_Ca_setSum_121 rfl (lv_at hl 0 rfl)) ?_
    refine g_get hx hb hts hin_Ca hown hK f_352 rfl 2 (by decide) (hts _ wm132) (fun _ h9 => h9) rfl d_Ca_setSum_122 ?_
    have lt_371 : (N1 + N2).natAbs < 1000000000 ^ (k1 + k2 + 1) := lb_up lt_326 (by omega)
    have lt_372 : g < 1000000000 ^ (k1 + k2 + 1) := lb_up lt_17 (by omega)
    refine g_outr hlo (g_runV (As := [.ref (ad 10), .ref (ad 5)]) (rest := []) ⟨hx, hb, hml, hown, hts⟩ hK hZ hRc hRs (n_find l D cA lo MC MS G_346 B_319 X ad V_322 W_368 hX1 hX2 hd hc g_13 g_14 g_15 g_16 f_356 f_353 (ad 10) ((N1 + N2).natAbs) (ad 5) g (k1 + k2 + 1) (rd_w2' (P := fun x => 5 ≤ x ∧ ¬ x = 19) W_368 (by first | decide | omega) (by first | trivial | omega) k_363) (rd_w2' (P := fun x => 5 ≤ x ∧ ¬ x = 19) W_368 (by first | decide | omega) (by first | trivial | omega) k_358) lt_371 lt_372 (by omega)) (fun _ _ => cwV 2 hts (tb_good (tb_cons wm399 (tb_cons wm400 (tb_cons wm401 (tb_cons wm7 k_Cd_find))))) rfl rfl rfl (by decide +kernel) ⟨by rw [hRf]; exact Nat.le_of_ble_eq_true rfl, by rw [hRl]; exact Nat.le_of_ble_eq_true rfl⟩) f_356 rfl (show B_319.1 ≤ MC by omega) (show B_319.2 ≤ MS by omega) rfl (Nat.le_of_ble_eq_true rfl) d_Ca_setSum_125) (fun r_376 G_373 B_374 p_375 => ?_)
    obtain ⟨e_380, V_377, s_378, k_379, g_382, g_383, g_384, g_385, f_381⟩ := p_375
    subst e_380
    have lt_386 : Nat.gcd ((N1 + N2).natAbs) g < 1000000000 ^ (k1 + k2 + 1) := lb_gcd lt_371 lt_372
    have f_387 : G_373 hk = some (30, .inr (0, [.ref hd, .ref hc, .ref (ad 5), .ref (ad 6), .ref (ad 7), .ref (ad 8), .ref (ad 9), .ref (ad 10)])) := s_378.2.2 _ _ f_352 (by first | decide | omega)
    have f_388 : G_373 hd = some (30, .inr (2, [.ref (ad 0), .ref (ad 1), .ref (ad 2)])) := s_378.2.2 _ _ f_353 (by first | decide | omega)
    have f_389 : G_373 h1 = some (t1, .inr (3, [.int (sgI p1), .ref a1, .ref b1])) := s_378.2.2 _ _ f_354 (by first | decide | omega)
    have f_390 : G_373 h2 = some (t2, .inr (3, [.int (sgI p2), .ref a2, .ref b2])) := s_378.2.2 _ _ f_355 (by first | decide | omega)
    have f_391 : G_373 hf = some (to, .inr (3, [.int (sgI (N1 + N2)), .ref (ad ta), .ref (ad tb)])) := s_378.2.2 _ _ f_349 (by first | decide | omega)
    have k_392 : V_377 5 = g := (s_378.2.1 5 (by first | decide | omega)).trans k_358
    have k_393 : V_377 7 = q1 / g := (s_378.2.1 7 (by first | decide | omega)).trans k_359
    have k_394 : V_377 9 = q2 / g := (s_378.2.1 9 (by first | decide | omega)).trans k_360
    have k_395 : V_377 6 = p1.natAbs * (q2 / g) := (s_378.2.1 6 (by first | decide | omega)).trans k_361
    have k_396 : V_377 8 = p2.natAbs * (q1 / g) := (s_378.2.1 8 (by first | decide | omega)).trans k_362
    have k_397 : V_377 10 = (N1 + N2).natAbs := (s_378.2.1 10 (by first | decide | omega)).trans k_363
    have rd_398 := rd_fr rd_364 s_378.2.2 (fun _ h => by omega)
    have rd_399 := rd_fr rd_365 s_378.2.2 (fun _ h => by omega)
    have rd_400 := rd_fr rd_366 s_378.2.2 (fun _ h => by omega)
    have rd_401 := rd_fr rd_367 s_378.2.2 (fun _ h => by omega)
    have W_402 := s_378.1
    have S_403 : w2s cA X ad (fun x => x < 11 ∨ x = 19 ∨ x = ta ∨ x = tb ∨ x = to) G V V_377 (G_373, B_374) := w2s_mono (w2s_tr S_369 s_378) (fun _ h => by omega)
    have bl_404 := w2_le W_402
    refine gst (pc' := 130) (L' := [(5, .ref (ad 3)), (0, .ref hk), (1, .ref hf), (2, .ref h1), (3, .ref h2), (4, .int le)]) (fun _ _ _ _ _ hl => lv_astore hx hb d_Ca_setSum_128 hl (by decide) rfl) ?_
    obtain ⟨g2, hg2⟩ : ∃ g2, g2 = Nat.gcd (N1 + N2).natAbs g := ⟨_, rfl⟩
    have hg20 : 0 < g2 := by rw [hg2]; exact Nat.gcd_pos_of_pos_right _ hg0
    rw [← hg2] at k_379 lt_386
    refine gs (pc' := 131) (fun _ _ _ _ _ hl => lv_aload_n hx hb d_Ca_setSum_130 rfl (lv_at hl 1 rfl)) ?_
    refine gs (pc' := 132) (fun _ _ _ _ _ hl => lv_aload_n hx hb d_Ca_setSum_131 rfl (lv_at hl 2 rfl)) ?_
    refine g_get hx hb hts hin_Fr hown hK f_391 rfl 1 (by decide) (hts _ wm167) (fun _ h9 => h9) rfl d_Ca_setSum_132 ?_
    refine gs (pc' := 136) (fun _ _ _ _ _ hl => lv_aload_n hx hb d_Ca_setSum_135 rfl (lv_at hl 1 rfl)) ?_
    refine g_get hx hb hts hin_Ca hown hK f_387 rfl 7 (by decide) (hts _ wm137) (fun _ h9 => h9) rfl d_Ca_setSum_136 ?_
    refine gs (pc' := 141) (fun _ _ _ _ _ hl => lv_aload hx hb d_Ca_setSum_139 (lv_at hl 0 rfl)) ?_
    refine g_outv hlo (g_runV (As := [.ref (ad ta), .ref (ad 10), .ref (ad 3)]) (rest := []) ⟨hx, hb, hml, hown, hts⟩ hK hZ hRc hRs (n_setQuotient l D cA lo MC MS G_373 B_374 X ad V_377 W_402 hX1 hX2 hk hd hc f_387 f_388 (cdO_i f_381) ta (by first | decide | omega) (by first | decide | omega) (ad 10) ((N1 + N2).natAbs) (ad 3) g2 (k1 + k2 + 1) (rd_w2' (P := fun x => 3 ≤ x) W_402 (by first | decide | omega) (by first | trivial | omega) k_397) (rd_w2' (P := fun x => 3 ≤ x) W_402 (by first | decide | omega) (by first | trivial | omega) k_379) lt_326 (by omega) hg20) (fun _ _ => cwV 3 hts (tb_good (tb_cons wm489 (tb_cons wm491 (tb_cons ws9 (tb_cons wm3 k_Ca_setQuotient))))) rfl rfl rfl (by decide +kernel) ⟨by rw [hRf]; exact Nat.le_of_ble_eq_true rfl, by rw [hRl]; exact Nat.le_of_ble_eq_true rfl⟩) f_387 rfl (show B_374.1 ≤ MC by omega) (show B_374.2 ≤ MS by omega) rfl (Nat.le_of_ble_eq_true rfl) d_Ca_setSum_141) (fun G_405 B_406 p_407 => ?_)
    obtain ⟨V_408, s_409, k_410⟩ := p_407
    have lt_411 : ((N1 + N2).natAbs) / g2 < 1000000000 ^ (k1 + k2 + 1) := Nat.lt_of_le_of_lt (Nat.div_le_self _ _) lt_326
    have f_412 : G_405 hk = some (30, .inr (0, [.ref hd, .ref hc, .ref (ad 5), .ref (ad 6), .ref (ad 7), .ref (ad 8), .ref (ad 9), .ref (ad 10)])) := s_409.2.2 _ _ f_387 (by first | decide | omega)
    have f_413 : G_405 hd = some (30, .inr (2, [.ref (ad 0), .ref (ad 1), .ref (ad 2)])) := s_409.2.2 _ _ f_388 (by first | decide | omega)
    have f_414 : G_405 h1 = some (t1, .inr (3, [.int (sgI p1), .ref a1, .ref b1])) := s_409.2.2 _ _ f_389 (by first | decide | omega)
    have f_415 : G_405 h2 = some (t2, .inr (3, [.int (sgI p2), .ref a2, .ref b2])) := s_409.2.2 _ _ f_390 (by first | decide | omega)
    have f_416 : G_405 hf = some (to, .inr (3, [.int (sgI (N1 + N2)), .ref (ad ta), .ref (ad tb)])) := s_409.2.2 _ _ f_391 (by first | decide | omega)
    have f_417 : G_405 hc = some (19, .inr (1, [.ref hd, .ref (ad 3), .ref (ad 4), .long g_382, .long g_383, .long g_384, .long g_385])) := s_409.2.2 _ _ f_381 (by first | decide | omega)
    have k_418 : V_408 5 = g := (s_409.2.1 5 (by first | decide | omega)).trans k_392
    have k_419 : V_408 7 = q1 / g := (s_409.2.1 7 (by first | decide | omega)).trans k_393
    have k_420 : V_408 9 = q2 / g := (s_409.2.1 9 (by first | decide | omega)).trans k_394
    have k_421 : V_408 6 = p1.natAbs * (q2 / g) := (s_409.2.1 6 (by first | decide | omega)).trans k_395
    have k_422 : V_408 8 = p2.natAbs * (q1 / g) := (s_409.2.1 8 (by first | decide | omega)).trans k_396
    have k_423 : V_408 10 = (N1 + N2).natAbs := (s_409.2.1 10 (by first | decide | omega)).trans k_397
    have k_424 : V_408 3 = g2 := (s_409.2.1 3 (by first | decide | omega)).trans k_379
    have rd_425 := rd_fr rd_398 s_409.2.2 (fun _ h => by omega)
    have rd_426 := rd_fr rd_399 s_409.2.2 (fun _ h => by omega)
    have rd_427 := rd_fr rd_400 s_409.2.2 (fun _ h => by omega)
    have rd_428 := rd_fr rd_401 s_409.2.2 (fun _ h => by omega)
    have W_429 := s_409.1
    have S_430 : w2s cA X ad (fun x => x < 11 ∨ x = 19 ∨ x = ta ∨ x = tb ∨ x = to) G V V_408 (G_405, B_406) := w2s_mono (w2s_tr S_403 s_409) (fun _ h => by omega)
    have bl_431 := w2_le W_429
    refine gs (pc' := 145) (fun _ _ _ _ _ hl => lv_aload_n hx hb d_Ca_setSum_144 rfl (lv_at hl 1 rfl)) ?_
    refine gs (pc' := 146) (fun _ _ _ _ _ hl => lv_aload_n hx hb d_Ca_setSum_145 rfl (lv_at hl 1 rfl)) ?_
    refine g_get hx hb hts hin_Ca hown hK f_412 rfl 6 (by decide) (hts _ wm136) (fun _ h9 => h9) rfl d_Ca_setSum_146 ?_
    refine gs (pc' := 150) (fun _ _ _ _ _ hl => lv_aload_n hx hb d_Ca_setSum_149 rfl (lv_at hl 4 rfl)) ?_
    refine g_get hx hb hts hin_Fr hown hK f_415 rfl 2 (by decide) (hts _ wm170) (fun _ h9 => h9) rfl d_Ca_setSum_150 ?_
    refine gs (pc' := 155) (fun _ _ _ _ _ hl => lv_aload hx hb d_Ca_setSum_153 (lv_at hl 0 rfl)) ?_
    refine g_outv hlo (g_runV (As := [.ref (ad 9), .ref b2, .ref (ad 3)]) (rest := []) ⟨hx, hb, hml, hown, hts⟩ hK hZ hRc hRs (n_setQuotient l D cA lo MC MS G_405 B_406 X ad V_408 W_429 hX1 hX2 hk hd hc f_412 f_413 (cdO_i f_417) 9 (by first | decide | omega) (by first | decide | omega) b2 q2 (ad 3) g2 k2 (rd_mono (P1 := fun x => 3 ≤ x) rd_428 (fun _ h => by first | trivial | omega)) (rd_w2' (P := fun x => 3 ≤ x) W_429 (by first | decide | omega) (by first | trivial | omega) k_424) hq2 (by omega) hg20) (fun _ _ => cwV 3 hts (tb_good (tb_cons wm489 (tb_cons wm491 (tb_cons ws9 (tb_cons wm3 k_Ca_setQuotient))))) rfl rfl rfl (by decide +kernel) ⟨by rw [hRf]; exact Nat.le_of_ble_eq_true rfl, by rw [hRl]; exact Nat.le_of_ble_eq_true rfl⟩) f_412 rfl (show B_406.1 ≤ MC by omega) (show B_406.2 ≤ MS by omega) rfl (Nat.le_of_ble_eq_true rfl) d_Ca_setSum_155) (fun G_432 B_433 p_434 => ?_)
    obtain ⟨V_435, s_436, k_437⟩ := p_434
    have lt_438 : q2 / g2 < 1000000000 ^ k2 := Nat.lt_of_le_of_lt (Nat.div_le_self _ _) hq2
    have f_439 : G_432 hk = some (30, .inr (0, [.ref hd, .ref hc, .ref (ad 5), .ref (ad 6), .ref (ad 7), .ref (ad 8), .ref (ad 9), .ref (ad 10)])) := s_436.2.2 _ _ f_412 (by first | decide | omega)
    have f_440 : G_432 hd = some (30, .inr (2, [.ref (ad 0), .ref (ad 1), .ref (ad 2)])) := s_436.2.2 _ _ f_413 (by first | decide | omega)
    have f_441 : G_432 h1 = some (t1, .inr (3, [.int (sgI p1), .ref a1, .ref b1])) := s_436.2.2 _ _ f_414 (by first | decide | omega)
    have f_442 : G_432 h2 = some (t2, .inr (3, [.int (sgI p2), .ref a2, .ref b2])) := s_436.2.2 _ _ f_415 (by first | decide | omega)
    have f_443 : G_432 hf = some (to, .inr (3, [.int (sgI (N1 + N2)), .ref (ad ta), .ref (ad tb)])) := s_436.2.2 _ _ f_416 (by first | decide | omega)
    have f_444 : G_432 hc = some (19, .inr (1, [.ref hd, .ref (ad 3), .ref (ad 4), .long g_382, .long g_383, .long g_384, .long g_385])) := s_436.2.2 _ _ f_417 (by first | decide | omega)
    have k_445 : V_435 5 = g := (s_436.2.1 5 (by first | decide | omega)).trans k_418
    have k_446 : V_435 7 = q1 / g := (s_436.2.1 7 (by first | decide | omega)).trans k_419
    have k_447 : V_435 6 = p1.natAbs * (q2 / g) := (s_436.2.1 6 (by first | decide | omega)).trans k_421
    have k_448 : V_435 8 = p2.natAbs * (q1 / g) := (s_436.2.1 8 (by first | decide | omega)).trans k_422
    have k_449 : V_435 10 = (N1 + N2).natAbs := (s_436.2.1 10 (by first | decide | omega)).trans k_423
    have k_450 : V_435 3 = g2 := (s_436.2.1 3 (by first | decide | omega)).trans k_424
    have k_451 : V_435 ta = ((N1 + N2).natAbs) / g2 := (s_436.2.1 ta (by first | decide | omega)).trans k_410
    have rd_452 := rd_fr rd_425 s_436.2.2 (fun _ h => by omega)
    have rd_453 := rd_fr rd_426 s_436.2.2 (fun _ h => by omega)
    have rd_454 := rd_fr rd_427 s_436.2.2 (fun _ h => by omega)
    have rd_455 := rd_fr rd_428 s_436.2.2 (fun _ h => by omega)
    have W_456 := s_436.1
    have S_457 : w2s cA X ad (fun x => x < 11 ∨ x = 19 ∨ x = ta ∨ x = tb ∨ x = to) G V V_435 (G_432, B_433) := w2s_mono (w2s_tr S_430 s_436) (fun _ h => by omega)
    have bl_458 := w2_le W_456
    refine gs (pc' := 159) (fun _ _ _ _ _ hl => lv_aload_n hx hb d_Ca_setSum_158 rfl (lv_at hl 2 rfl)) ?_
    refine g_get hx hb hts hin_Fr hown hK f_443 rfl 2 (by decide) (hts _ wm170) (fun _ h9 => h9) rfl d_Ca_setSum_159 ?_
    refine gs (pc' := 163) (fun _ _ _ _ _ hl => lv_aload_n hx hb d_Ca_setSum_162 rfl (lv_at hl 1 rfl)) ?_
    refine g_get hx hb hts hin_Ca hown hK f_439 rfl 4 (by decide) (hts _ wm134) (fun _ h9 => h9) rfl d_Ca_setSum_163 ?_
    refine gs (pc' := 167) (fun _ _ _ _ _ hl => lv_aload_n hx hb d_Ca_setSum_166 rfl (lv_at hl 1 rfl)) ?_
    refine g_get hx hb hts hin_Ca hown hK f_439 rfl 6 (by decide) (hts _ wm136) (fun _ h9 => h9) rfl d_Ca_setSum_167 ?_
    obtain ⟨κo_459, ao_459, zo_459, fo_459, hho_459, hao_459, hzo_459, hDo_459, hco_459⟩ := w2_N W_456 (show tb < 19 by first | decide | omega)
    have hbo_459 : zo_459 ≤ 3000 := by omega
    refine g_outv hlo (g_runV (As := [.ref (ad 7), .ref (ad 9)]) (rest := []) ⟨hx, hb, hml, hown, hts⟩ hK hZ hRc hRs (n_setProduct l D cA lo MC MS G_432 B_433 X ad V_435 W_456 hX1 hX2 tb (by first | decide | omega) (ad 7) (q1 / g) k1 (rd_w2' (P := fun x => ¬ x = tb) W_456 (by first | decide | omega) (by first | trivial | omega) k_446) lt_57 (ad 9) (q2 / g2) k2 (rd_w2' (P := fun x => ¬ x = tb) W_456 (by first | decide | omega) (by first | trivial | omega) k_437) lt_438 (by omega)) (fun _ _ => cwV 2 hts (tb_good (tb_cons wm563 (tb_cons wm564 (tb_cons wm565 (tb_cons wm5 k_Na_setProduct))))) rfl rfl rfl (by decide +kernel) ⟨by rw [hRf]; exact Nat.le_of_ble_eq_true rfl, by rw [hRl]; exact Nat.le_of_ble_eq_true rfl⟩) hho_459 rfl (show B_433.1 ≤ MC by omega) (show B_433.2 ≤ MS by omega) rfl (Nat.le_of_ble_eq_true rfl) d_Ca_setSum_170) (fun G_460 B_461 p_462 => ?_)
    have lt_463 : (q1 / g) * (q2 / g2) < 1000000000 ^ (k1 + k2) := lb_mul lt_57 lt_438
    obtain ⟨V_464, s_465, k_466⟩ := p_462
    have f_467 : G_460 hk = some (30, .inr (0, [.ref hd, .ref hc, .ref (ad 5), .ref (ad 6), .ref (ad 7), .ref (ad 8), .ref (ad 9), .ref (ad 10)])) := s_465.2.2 _ _ f_439 (by first | decide | omega)
    have f_468 : G_460 hd = some (30, .inr (2, [.ref (ad 0), .ref (ad 1), .ref (ad 2)])) := s_465.2.2 _ _ f_440 (by first | decide | omega)
    have f_469 : G_460 h1 = some (t1, .inr (3, [.int (sgI p1), .ref a1, .ref b1])) := s_465.2.2 _ _ f_441 (by first | decide | omega)
    have f_470 : G_460 h2 = some (t2, .inr (3, [.int (sgI p2), .ref a2, .ref b2])) := s_465.2.2 _ _ f_442 (by first | decide | omega)
    have f_471 : G_460 hf = some (to, .inr (3, [.int (sgI (N1 + N2)), .ref (ad ta), .ref (ad tb)])) := s_465.2.2 _ _ f_443 (by first | decide | omega)
    have f_472 : G_460 hc = some (19, .inr (1, [.ref hd, .ref (ad 3), .ref (ad 4), .long g_382, .long g_383, .long g_384, .long g_385])) := s_465.2.2 _ _ f_444 (by first | decide | omega)
    have k_473 : V_464 5 = g := (s_465.2.1 5 (by first | decide | omega)).trans k_445
    have k_474 : V_464 7 = q1 / g := (s_465.2.1 7 (by first | decide | omega)).trans k_446
    have k_475 : V_464 6 = p1.natAbs * (q2 / g) := (s_465.2.1 6 (by first | decide | omega)).trans k_447
    have k_476 : V_464 8 = p2.natAbs * (q1 / g) := (s_465.2.1 8 (by first | decide | omega)).trans k_448
    have k_477 : V_464 10 = (N1 + N2).natAbs := (s_465.2.1 10 (by first | decide | omega)).trans k_449
    have k_478 : V_464 3 = g2 := (s_465.2.1 3 (by first | decide | omega)).trans k_450
    have k_479 : V_464 ta = ((N1 + N2).natAbs) / g2 := (s_465.2.1 ta (by first | decide | omega)).trans k_451
    have k_480 : V_464 9 = q2 / g2 := (s_465.2.1 9 (by first | decide | omega)).trans k_437
    have rd_481 := rd_fr rd_452 s_465.2.2 (fun _ h => by omega)
    have rd_482 := rd_fr rd_453 s_465.2.2 (fun _ h => by omega)
    have rd_483 := rd_fr rd_454 s_465.2.2 (fun _ h => by omega)
    have rd_484 := rd_fr rd_455 s_465.2.2 (fun _ h => by omega)
    have W_485 := s_465.1
    have S_486 : w2s cA X ad (fun x => x < 11 ∨ x = 19 ∨ x = ta ∨ x = tb ∨ x = to) G V V_464 (G_460, B_461) := w2s_mono (w2s_tr S_457 s_465) (fun _ h => by omega)
    have bl_487 := w2_le W_485
    have hfs := fr_sum (N1 := p1) (N2 := -p2) hq01 hq02 hco1 (by rw [Int.natAbs_neg]; exact hco2) hg (t := (N1 + N2).natAbs) (by rw [hN1, hN2]) hg2
    have hsg : sgI (N1 + N2) = sgI (frn (p1 * q2 + (-p2) * q1) (q1 * q2)) := by
      rw [frn_sg, ← sgI_mulp (p := N1 + N2) hg0]
      congr 1
      rw [hN1, hN2, Int.add_mul, Int.mul_assoc, Int.mul_assoc, ← Int.natCast_mul, ← Int.natCast_mul, Nat.div_mul_cancel (by rw [hg]; exact Nat.gcd_dvd_right _ _), Nat.div_mul_cancel (by rw [hg]; exact Nat.gcd_dvd_left _ _)]
    exact hret 173 _ _ _ d_Ca_setSum_173 (show B_461.1 ≤ MC by omega) (show B_461.2 ≤ MS by omega) ⟨V_464, S_486, k_479.trans (hfs.1.trans (frn_abs _ _).symm), k_466.trans hfs.2, by rw [← hsg]; exact f_471, cdO_i f_472⟩
