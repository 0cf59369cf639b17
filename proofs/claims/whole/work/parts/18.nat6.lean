set_option maxHeartbeats 4000000 in
set_option maxRecDepth 100000 in
theorem c_Math_abs (l : Launch) (D : va_G) (cA : Nat → ClassId) (lo MC MS : Nat) (G : gT) (B : Nat × Nat) (x : Int64) (hB1 : B.1 ≤ MC) (hB2 : B.2 ≤ MS) : gMet l y_Math_abs w_Math_abs 0 0 D clS (gtys cA) lo MC MS [.long x] G B (gQl D clS lo (fun r u => u = (G, B) ∧ r = absL x)) := by
  refine g_metl (cc := prog_17_method_61_code) (nL := 2) (L := [(0, .long x)]) (by decide +kernel) rfl (Nat.le_of_ble_eq_true rfl) rfl ?_
  intro p e R s m args below meth c Q hF hRc hRs hRf hRl hret
  obtain ⟨hx, hb, hr, hml, hts0, hown, hlocks, hin, hK, hlo, hZ⟩ := hF
  have hts : ∀ w ∈ tbg, w.before args s = true := fun w h => hts0 w (List.mem_cons_of_mem _ h)
  refine gs (pc' := 1) (fun _ _ _ _ _ hl => lv_lload_n hx hb d_Math_abs_0 rfl (lv_at hl 0 rfl)) ?_
  refine gs (pc' := 2) (fun _ _ _ _ _ hl => lv_lconst (v := lN 0) hx hb d_Math_abs_1 (by decide)) ?_
  refine gs (pc' := 3) (fun _ _ _ _ _ hl => W.lcmp hx hb d_Math_abs_2) ?_
  refine gsb (pc1 := 11) (pc2 := 6) (fun _ _ _ _ _ => lv_if_ge (tgt := 11) hx hb d_Math_abs_3 (by decide)) (fun c_1 => ?_) (fun c_1 => ?_)
  · skip
    have hm : ¬ x < 0 := (lc_ge x (lN 0)).mp c_1
    refine gs (pc' := 12) (fun _ _ _ _ _ hl => lv_lload_n hx hb d_Math_abs_11 rfl (lv_at hl 0 rfl)) ?_
    exact hret 12 _ _ _ _ d_Math_abs_12 hB1 hB2 ⟨rfl, by unfold absL; first | rw [if_neg hm] | rw [if_pos hm]⟩
  · skip
    have hm : x < 0 := Decidable.not_not.mp (fun z => c_1 ((lc_ge x (lN 0)).mpr z))
    refine gs (pc' := 7) (fun _ _ _ _ _ hl => lv_lload_n hx hb d_Math_abs_6 rfl (lv_at hl 0 rfl)) ?_
    refine gs (pc' := 8) (fun _ _ _ _ _ hl => lv_lneg hx hb d_Math_abs_7) ?_
    refine gs (pc' := 12) (fun _ _ _ _ _ hl => lv_goto (tgt := 12) hx hb d_Math_abs_8 (by decide)) ?_
    exact hret 12 _ _ _ _ d_Math_abs_12 hB1 hB2 ⟨rfl, by unfold absL; first | rw [if_neg hm] | rw [if_pos hm]⟩
set_option maxHeartbeats 4000000 in
set_option maxRecDepth 100000 in
/-- setMagnitude -/
theorem c_Na_setMagnitude (l : Launch) (D : va_G) (cA : Nat → ClassId) (lo MC MS : Nat) (G : gT) (B : Nat × Nat) (t h a cap : Nat) (zv : Int32) (f : Nat → Int32) (hh : G h = some (t, .inr (4, [.ref a, .int zv]))) (ha : G a = some (t, .inl (cA 0, cap, .inl f))) (hc : cap ≤ 50000) (x : Int64) (hC : B.1 + (gcap cap (3) - cap) ≤ MC) (hS : B.2 + 2 * (gcap cap (3) - cap) ≤ MS) (hB1 : B.1 ≤ MC) (hB2 : B.2 ≤ MS) : gMet l y_Na_setMagnitude w_Na_setMagnitude 3 83 D clS (gtys cA) lo MC MS [.ref h, .long x] G B (gQv D clS lo (nres cA G B t h cap 3 x.toInt.natAbs)) := by
  refine g_metv (cc := prog_6_method_14_code) (nL := 6) (L := [(0, .ref h), (1, .long x)]) (by decide +kernel) rfl (Nat.le_of_ble_eq_true rfl) rfl ?_
  intro p e R s m args below meth c Q hF hRc hRs hRf hRl hret
  obtain ⟨hx, hb, hr, hml, hts0, hown, hlocks, hin, hK, hlo, hZ⟩ := hF
  have hts : ∀ w ∈ tbg, w.before args s = true := fun w h => hts0 w (List.mem_cons_of_mem _ h)
  obtain ⟨v, hv⟩ : ∃ v, x.toInt.natAbs = v := ⟨_, rfl⟩
  rw [hv] at hret
  have hvb : v ≤ 9223372036854775808 := by
    have h1 : -9223372036854775808 ≤ x.toInt := by simpa using x.minValue_le_toInt
    have h2 : x.toInt < 9223372036854775808 := by simpa using x.toInt_lt
    omega
  refine gs (pc' := 1) (fun _ _ _ _ _ hl => lv_aload_n hx hb d_Na_setMagnitude_0 rfl (lv_at hl 0 rfl)) ?_
  refine gs (pc' := 2) (fun _ _ _ _ _ hl => lv_iconst (v := nI 3) hx hb d_Na_setMagnitude_1 (by decide)) ?_
  refine g_outv hlo (g_runV (As := [.int (nI 3)]) (rest := []) ⟨hx, hb, hml, hown, hts⟩ hK hZ hRc hRs (c_Na_grow l D cA lo MC MS G B t h a cap 3 zv f hh ha (by omega) (by omega) (by omega) (by omega) hB1 hB2) (fun _ _ => cwV 1 hts (tb_good (tb_cons wm188 (tb_cons wm189 (tb_cons wm190 (tb_cons wm5 k_Na_grow))))) rfl rfl rfl (by decide +kernel) ⟨by rw [hRf]; exact Nat.le_of_ble_eq_true rfl, by rw [hRl]; exact Nat.le_of_ble_eq_true rfl⟩) hh rfl hB1 hB2 rfl (Nat.le_of_ble_eq_true rfl) d_Na_setMagnitude_2) (fun G_1 B_2 p_3 => ?_)
  obtain ⟨a_4, g_5, e_6, e_7, e_8, e_9, e_10, e_11⟩ := p_3
  have e_10 : B_2.1 + cap ≤ B.1 + gcap cap 3 := e_10
  have e_11 : B_2.2 + 2 * cap ≤ B.2 + 2 * gcap cap 3 := e_11
  have gg_12 := gcap_ge cap 3
  have gg_13 : gcap cap 3 ≤ 2 * 50000 := gcap_le (by omega) (by omega)
  refine gs (pc' := 6) (fun _ _ _ _ _ hl => lv_lload_n hx hb d_Na_setMagnitude_5 rfl (lv_at hl 1 rfl)) ?_
  refine gst (pc' := 7) (L' := [(3, .long x), (0, .ref h), (1, .long x)]) (fun _ _ _ _ _ hl => lv_lstore_n hx hb d_Na_setMagnitude_6 rfl hl (by decide) rfl) ?_
  refine gs (pc' := 8) (fun _ _ _ _ _ hl => lv_iconst (v := nI 0) hx hb d_Na_setMagnitude_7 (by decide)) ?_
  refine gst (pc' := 10) (L' := [(5, .int (nI 0)), (3, .long x), (0, .ref h), (1, .long x)]) (fun _ _ _ _ _ hl => lv_istore hx hb d_Na_setMagnitude_8 hl (by decide) rfl) ?_
  refine gs (pc' := 12) (fun _ _ _ _ _ hl => lv_iload hx hb d_Na_setMagnitude_10 (lv_at hl 0 rfl)) ?_
  refine gs (pc' := 13) (fun _ _ _ _ _ hl => lv_iconst (v := nI 3) hx hb d_Na_setMagnitude_12 (by decide)) ?_
  refine gsb (pc1 := 44) (pc2 := 16) (fun _ _ _ _ _ => lv_icmp_ge (tgt := 44) hx hb d_Na_setMagnitude_13 (by decide)) (fun c_14 => ?_) (fun c_14 => ?_)
  · skip
    have nc_14 : 0 ≥ 3 := (nn_ge (a := 0) (b := 3) (by omega) (by omega)).1 c_14
    exact absurd nc_14 (by omega)
  · skip
    have nc_14 : 0 < 3 := (nn_ge (a := 0) (b := 3) (by omega) (by omega)).2 c_14
    refine gs (pc' := 17) (fun _ _ _ _ _ hl => lv_aload_n hx hb d_Na_setMagnitude_16 rfl (lv_at hl 2 rfl)) ?_
    refine g_get hx hb hts hin_Na hown hK e_6 rfl 0 (by decide) (hts _ wm72) (fun _ h9 => h9) rfl d_Na_setMagnitude_17 ?_
    refine gs (pc' := 22) (fun _ _ _ _ _ hl => lv_iload hx hb d_Na_setMagnitude_20 (lv_at hl 0 rfl)) ?_
    refine gs (pc' := 23) (fun _ _ _ _ _ hl => lv_lload_n hx hb d_Na_setMagnitude_22 rfl (lv_at hl 1 rfl)) ?_
    refine gs (pc' := 26) (fun _ _ _ _ _ hl => lv_ldc2 (v := 1000000000) hx hb hown (hts _ wm208) d_Na_setMagnitude_23) ?_
    refine g_eql (show 1000000000 = lN 1000000000 from rfl) ?_
    refine gs (pc' := 27) (fun _ _ _ _ _ hl => lv_lrem hx hb d_Na_setMagnitude_26 (by decide)) ?_
    refine g_outl hlo (g_runS (As := [.long (x - x / (lN 1000000000) * (lN 1000000000))]) (rest := [.int (nI 0), .ref a_4]) ⟨hx, hb, hml, hown, hts⟩ hK hZ hRc hRs (c_Math_abs l D cA lo MC MS G_1 B_2 (x - x / (lN 1000000000) * (lN 1000000000)) (show B_2.1 ≤ MC by omega) (show B_2.2 ≤ MS by omega)) (fun _ _ => va_cwS 1 hts (tb_good (tb_cons wm209 (tb_cons wm210 (tb_cons wm6 k_Math_abs)))) rfl rfl rfl (by decide +kernel) ⟨by rw [hRf]; exact Nat.le_of_ble_eq_true rfl, by rw [hRl]; exact Nat.le_of_ble_eq_true rfl⟩) (show B_2.1 ≤ MC by omega) (show B_2.2 ≤ MS by omega) rfl (Nat.le_of_ble_eq_true rfl) d_Na_setMagnitude_27) (fun r_18 G_15 B_16 p_17 => ?_)
    obtain ⟨u_19, v_20⟩ := p_17
    cases u_19
    subst v_20
    refine gs (pc' := 31) (fun _ _ _ _ _ hl => lv_l2i (v := nI (v % 1000000000)) hx hb d_Na_setMagnitude_30 (mg_limb hv)) ?_
    refine g_iast hx hb hK 0 e_7 rfl (show vp_in (nI 0) (gcap cap 3) from vp_in_nI (by omega) (by omega)) d_Na_setMagnitude_31 (fun G_21 f_22 o_23 => ?_)
    rw [nI_clamp (by omega)] at f_22
    have f_24 : G_21 h = some (t, .inr (4, [.ref a_4, .int zv])) := (o_23 _ (gne e_6 e_7 (fun e => by cases e))).trans e_6
    have w_25 : gfr (fun x => x = t) G G_21 := gfr_put e_9 e_7 rfl o_23
    refine gs (pc' := 33) (fun _ _ _ _ _ hl => lv_lload_n hx hb d_Na_setMagnitude_32 rfl (lv_at hl 1 rfl)) ?_
    refine gs (pc' := 36) (fun _ _ _ _ _ hl => lv_ldc2 (v := 1000000000) hx hb hown (hts _ wm208) d_Na_setMagnitude_33) ?_
    refine g_eql (show 1000000000 = lN 1000000000 from rfl) ?_
    refine gs (pc' := 37) (fun _ _ _ _ _ hl => lv_ldiv hx hb d_Na_setMagnitude_36 (by decide)) ?_
    refine g_topl (fun y_26 ey_26 => ?_)
    have hy_27 : y_26.toInt.natAbs = v / 1000000000 := by rw [ey_26]; exact mg_rest hv
    refine gst (pc' := 38) (L' := [(3, .long y_26), (5, .int (nI 0)), (0, .ref h), (1, .long x)]) (fun _ _ _ _ _ hl => lv_lstore_n hx hb d_Na_setMagnitude_37 rfl hl (by decide) rfl) ?_
    refine gst (pc' := 41) (L' := [(5, .int (nI 1)), (3, .long y_26), (0, .ref h), (1, .long x)]) (fun _ _ _ _ _ hl => lv_iinc (v := nI 1) hx hb d_Na_setMagnitude_38 hl (k := 1) rfl (by decide) (by decide) rfl) ?_
    refine gs (pc' := 10) (fun _ _ _ _ _ hl => lv_goto (tgt := 10) hx hb d_Na_setMagnitude_41 (by decide)) ?_
    refine gs (pc' := 12) (fun _ _ _ _ _ hl => lv_iload hx hb d_Na_setMagnitude_10 (lv_at hl 0 rfl)) ?_
    refine gs (pc' := 13) (fun _ _ _ _ _ hl => lv_iconst (v := nI 3) hx hb d_Na_setMagnitude_12 (by decide)) ?_
    refine gsb (pc1 := 44) (pc2 := 16) (fun _ _ _ _ _ => lv_icmp_ge (tgt := 44) hx hb d_Na_setMagnitude_13 (by decide)) (fun c_28 => ?_) (fun c_28 => ?_)
    · skip
      have nc_28 : 1 ≥ 3 := (nn_ge (a := 1) (b := 3) (by omega) (by omega)).1 c_28
      exact absurd nc_28 (by omega)
    · skip
      have nc_28 : 1 < 3 := (nn_ge (a := 1) (b := 3) (by omega) (by omega)).2 c_28
      refine gs (pc' := 17) (fun _ _ _ _ _ hl => lv_aload_n hx hb d_Na_setMagnitude_16 rfl (lv_at hl 2 rfl)) ?_
      refine g_get hx hb hts hin_Na hown hK f_24 rfl 0 (by decide) (hts _ wm72) (fun _ h9 => h9) rfl d_Na_setMagnitude_17 ?_
      refine gs (pc' := 22) (fun _ _ _ _ _ hl => lv_iload hx hb d_Na_setMagnitude_20 (lv_at hl 0 rfl)) ?_
      refine gs (pc' := 23) (fun _ _ _ _ _ hl => lv_lload_n hx hb d_Na_setMagnitude_22 rfl (lv_at hl 1 rfl)) ?_
      refine gs (pc' := 26) (fun _ _ _ _ _ hl => lv_ldc2 (v := 1000000000) hx hb hown (hts _ wm208) d_Na_setMagnitude_23) ?_
      refine g_eql (show 1000000000 = lN 1000000000 from rfl) ?_
      refine gs (pc' := 27) (fun _ _ _ _ _ hl => lv_lrem hx hb d_Na_setMagnitude_26 (by decide)) ?_
      refine g_outl hlo (g_runS (As := [.long (y_26 - y_26 / (lN 1000000000) * (lN 1000000000))]) (rest := [.int (nI 1), .ref a_4]) ⟨hx, hb, hml, hown, hts⟩ hK hZ hRc hRs (c_Math_abs l D cA lo MC MS G_21 B_2 (y_26 - y_26 / (lN 1000000000) * (lN 1000000000)) (show B_2.1 ≤ MC by omega) (show B_2.2 ≤ MS by omega)) (fun _ _ => va_cwS 1 hts (tb_good (tb_cons wm209 (tb_cons wm210 (tb_cons wm6 k_Math_abs)))) rfl rfl rfl (by decide +kernel) ⟨by rw [hRf]; exact Nat.le_of_ble_eq_true rfl, by rw [hRl]; exact Nat.le_of_ble_eq_true rfl⟩) (show B_2.1 ≤ MC by omega) (show B_2.2 ≤ MS by omega) rfl (Nat.le_of_ble_eq_true rfl) d_Na_setMagnitude_27) (fun r_32 G_29 B_30 p_31 => ?_)
      obtain ⟨u_33, v_34⟩ := p_31
      cases u_33
      subst v_34
      refine gs (pc' := 31) (fun _ _ _ _ _ hl => lv_l2i (v := nI (v / 1000000000 % 1000000000)) hx hb d_Na_setMagnitude_30 (mg_limb hy_27)) ?_
      refine g_iast hx hb hK 0 f_22 rfl (show vp_in (nI 1) (gcap cap 3) from vp_in_nI (by omega) (by omega)) d_Na_setMagnitude_31 (fun G_35 f_36 o_37 => ?_)
      rw [nI_clamp (by omega)] at f_36
      have f_38 : G_35 h = some (t, .inr (4, [.ref a_4, .int zv])) := (o_37 _ (gne f_24 f_22 (fun e => by cases e))).trans f_24
      have w_39 : gfr (fun x => x = t) G G_35 := gfr_put w_25 f_22 rfl o_37
      refine gs (pc' := 33) (fun _ _ _ _ _ hl => lv_lload_n hx hb d_Na_setMagnitude_32 rfl (lv_at hl 1 rfl)) ?_
      refine gs (pc' := 36) (fun _ _ _ _ _ hl => lv_ldc2 (v := 1000000000) hx hb hown (hts _ wm208) d_Na_setMagnitude_33) ?_
      refine g_eql (show 1000000000 = lN 1000000000 from rfl) ?_
      refine gs (pc' := 37) (fun _ _ _ _ _ hl => lv_ldiv hx hb d_Na_setMagnitude_36 (by decide)) ?_
      refine g_topl (fun y_40 ey_40 => ?_)
      have hy_41 : y_40.toInt.natAbs = v / 1000000000 / 1000000000 := by rw [ey_40]; exact mg_rest hy_27
      refine gst (pc' := 38) (L' := [(3, .long y_40), (5, .int (nI 1)), (0, .ref h), (1, .long x)]) (fun _ _ _ _ _ hl => lv_lstore_n hx hb d_Na_setMagnitude_37 rfl hl (by decide) rfl) ?_
      refine gst (pc' := 41) (L' := [(5, .int (nI 2)), (3, .long y_40), (0, .ref h), (1, .long x)]) (fun _ _ _ _ _ hl => lv_iinc (v := nI 2) hx hb d_Na_setMagnitude_38 hl (k := 1) rfl (by decide) (by decide) rfl) ?_
      refine gs (pc' := 10) (fun _ _ _ _ _ hl => lv_goto (tgt := 10) hx hb d_Na_setMagnitude_41 (by decide)) ?_
      refine gs (pc' := 12) (fun _ _ _ _ _ hl => lv_iload hx hb d_Na_setMagnitude_10 (lv_at hl 0 rfl)) ?_
      refine gs (pc' := 13) (fun _ _ _ _ _ hl => lv_iconst (v := nI 3) hx hb d_Na_setMagnitude_12 (by decide)) ?_
      refine gsb (pc1 := 44) (pc2 := 16) (fun _ _ _ _ _ => lv_icmp_ge (tgt := 44) hx hb d_Na_setMagnitude_13 (by decide)) (fun c_42 => ?_) (fun c_42 => ?_)
      · skip
        have nc_42 : 2 ≥ 3 := (nn_ge (a := 2) (b := 3) (by omega) (by omega)).1 c_42
        exact absurd nc_42 (by omega)
      · skip
        have nc_42 : 2 < 3 := (nn_ge (a := 2) (b := 3) (by omega) (by omega)).2 c_42
        refine gs (pc' := 17) (fun _ _ _ _ _ hl => lv_aload_n hx hb d_Na_setMagnitude_16 rfl (lv_at hl 2 rfl)) ?_
        refine g_get hx hb hts hin_Na hown hK f_38 rfl 0 (by decide) (hts _ wm72) (fun _ h9 => h9) rfl d_Na_setMagnitude_17 ?_
        refine gs (pc' := 22) (fun _ _ _ _ _ hl => lv_iload hx hb d_Na_setMagnitude_20 (lv_at hl 0 rfl)) ?_
        refine gs (pc' := 23) (fun _ _ _ _ _ hl => lv_lload_n hx hb d_Na_setMagnitude_22 rfl (lv_at hl 1 rfl)) ?_
        refine gs (pc' := 26) (fun _ _ _ _ _ hl => lv_ldc2 (v := 1000000000) hx hb hown (hts _ wm208) d_Na_setMagnitude_23) ?_
        refine g_eql (show 1000000000 = lN 1000000000 from rfl) ?_
        refine gs (pc' := 27) (fun _ _ _ _ _ hl => lv_lrem hx hb d_Na_setMagnitude_26 (by decide)) ?_
        refine g_outl hlo (g_runS (As := [.long (y_40 - y_40 / (lN 1000000000) * (lN 1000000000))]) (rest := [.int (nI 2), .ref a_4]) ⟨hx, hb, hml, hown, hts⟩ hK hZ hRc hRs (c_Math_abs l D cA lo MC MS G_35 B_2 (y_40 - y_40 / (lN 1000000000) * (lN 1000000000)) (show B_2.1 ≤ MC by omega) (show B_2.2 ≤ MS by omega)) (fun _ _ => va_cwS 1 hts (tb_good (tb_cons wm209 (tb_cons wm210 (tb_cons wm6 k_Math_abs)))) rfl rfl rfl (by decide +kernel) ⟨by rw [hRf]; exact Nat.le_of_ble_eq_true rfl, by rw [hRl]; exact Nat.le_of_ble_eq_true rfl⟩) (show B_2.1 ≤ MC by omega) (show B_2.2 ≤ MS by omega) rfl (Nat.le_of_ble_eq_true rfl) d_Na_setMagnitude_27) (fun r_46 G_43 B_44 p_45 => ?_)
        obtain ⟨u_47, v_48⟩ := p_45
        cases u_47
        subst v_48
        refine gs (pc' := 31) (fun _ _ _ _ _ hl => lv_l2i (v := nI (v / 1000000000 / 1000000000 % 1000000000)) hx hb d_Na_setMagnitude_30 (mg_limb hy_41)) ?_
        refine g_iast hx hb hK 0 f_36 rfl (show vp_in (nI 2) (gcap cap 3) from vp_in_nI (by omega) (by omega)) d_Na_setMagnitude_31 (fun G_49 f_50 o_51 => ?_)
        rw [nI_clamp (by omega)] at f_50
        have f_52 : G_49 h = some (t, .inr (4, [.ref a_4, .int zv])) := (o_51 _ (gne f_38 f_36 (fun e => by cases e))).trans f_38
        have w_53 : gfr (fun x => x = t) G G_49 := gfr_put w_39 f_36 rfl o_51
        refine gs (pc' := 33) (fun _ _ _ _ _ hl => lv_lload_n hx hb d_Na_setMagnitude_32 rfl (lv_at hl 1 rfl)) ?_
        refine gs (pc' := 36) (fun _ _ _ _ _ hl => lv_ldc2 (v := 1000000000) hx hb hown (hts _ wm208) d_Na_setMagnitude_33) ?_
        refine g_eql (show 1000000000 = lN 1000000000 from rfl) ?_
        refine gs (pc' := 37) (fun _ _ _ _ _ hl => lv_ldiv hx hb d_Na_setMagnitude_36 (by decide)) ?_
        refine g_topl (fun y_54 ey_54 => ?_)
        have hy_55 : y_54.toInt.natAbs = v / 1000000000 / 1000000000 / 1000000000 := by rw [ey_54]; exact mg_rest hy_41
        refine gst (pc' := 38) (L' := [(3, .long y_54), (5, .int (nI 2)), (0, .ref h), (1, .long x)]) (fun _ _ _ _ _ hl => lv_lstore_n hx hb d_Na_setMagnitude_37 rfl hl (by decide) rfl) ?_
        refine gst (pc' := 41) (L' := [(5, .int (nI 3)), (3, .long y_54), (0, .ref h), (1, .long x)]) (fun _ _ _ _ _ hl => lv_iinc (v := nI 3) hx hb d_Na_setMagnitude_38 hl (k := 1) rfl (by decide) (by decide) rfl) ?_
        refine gs (pc' := 10) (fun _ _ _ _ _ hl => lv_goto (tgt := 10) hx hb d_Na_setMagnitude_41 (by decide)) ?_
        refine gs (pc' := 12) (fun _ _ _ _ _ hl => lv_iload hx hb d_Na_setMagnitude_10 (lv_at hl 0 rfl)) ?_
        refine gs (pc' := 13) (fun _ _ _ _ _ hl => lv_iconst (v := nI 3) hx hb d_Na_setMagnitude_12 (by decide)) ?_
        refine gsb (pc1 := 44) (pc2 := 16) (fun _ _ _ _ _ => lv_icmp_ge (tgt := 44) hx hb d_Na_setMagnitude_13 (by decide)) (fun c_56 => ?_) (fun c_56 => ?_)
        · skip
          have nc_56 : 3 ≥ 3 := (nn_ge (a := 3) (b := 3) (by omega) (by omega)).1 c_56
          refine gs (pc' := 45) (fun _ _ _ _ _ hl => lv_aload_n hx hb d_Na_setMagnitude_44 rfl (lv_at hl 2 rfl)) ?_
          refine gs (pc' := 46) (fun _ _ _ _ _ hl => lv_iconst (v := nI 3) hx hb d_Na_setMagnitude_45 (by decide)) ?_
          refine g_put (ty := .int) hx hb hts hin_Na ty_Na ty_Na_ok nm_Na hown hK f_52 rfl 1 (by decide) (hts _ wm75) (fun _ h9 => h9) rfl (by decide +kernel) rfl rfl (Nat.le_of_ble_eq_true rfl) d_Na_setMagnitude_46 (fun G_57 f_58 o_59 => ?_)
          have f_60 : G_57 h = some (t, .inr (4, [.ref a_4, .int (nI 3)])) := f_58
          have f_61 : G_57 a_4 = some (t, .inl (cA 0, (gcap cap 3), .inl (upd (upd (upd g_5 0 (nI (v % 1000000000))) 1 (nI (v / 1000000000 % 1000000000))) 2 (nI (v / 1000000000 / 1000000000 % 1000000000))))) := (o_59 _ (gne f_50 f_52 (fun e => by cases e))).trans f_50
          have w_62 : gfr (fun x => x = t) G G_57 := gfr_put w_53 f_52 rfl o_59
          have hx0 : lim (upd (upd (upd g_5 0 (nI (v % 1000000000))) 1 (nI (v / 1000000000 % 1000000000))) 2 (nI (v / 1000000000 / 1000000000 % 1000000000))) 3 := lim_upd_s (lim_upd_s (lim_upd_s (fun i hi => absurd hi (Nat.not_lt_zero i)) (by omega)) (by omega)) (by omega)
          have hx1 : dv (df (upd (upd (upd g_5 0 (nI (v % 1000000000))) 1 (nI (v / 1000000000 % 1000000000))) 2 (nI (v / 1000000000 / 1000000000 % 1000000000)))) 3 = v := by
            rw [dv_upd_s (by omega), dv_upd_s (by omega), dv_upd_s (by omega), dv_0]
            simp only [Nat.reducePow]
            omega
          refine gs (pc' := 50) (fun _ _ _ _ _ hl => lv_aload_n hx hb d_Na_setMagnitude_49 rfl (lv_at hl 2 rfl)) ?_
          refine g_outv hlo (g_runV (As := []) (rest := []) ⟨hx, hb, hml, hown, hts⟩ hK hZ hRc hRs (c_Na_trim l D cA lo MC MS G_57 B_2 t h a_4 3 (gcap cap 3) (upd (upd (upd g_5 0 (nI (v % 1000000000))) 1 (nI (v / 1000000000 % 1000000000))) 2 (nI (v / 1000000000 / 1000000000 % 1000000000))) f_60 f_61 (by omega) (by omega) hx0 (show B_2.1 ≤ MC by omega) (show B_2.2 ≤ MS by omega)) (fun _ _ => cwV 0 hts (tb_good (tb_cons wm212 (tb_cons wm213 (tb_cons wm214 (tb_cons wm5 k_Na_trim))))) rfl rfl rfl (by decide +kernel) ⟨by rw [hRf]; exact Nat.le_of_ble_eq_true rfl, by rw [hRl]; exact Nat.le_of_ble_eq_true rfl⟩) f_60 rfl (show B_2.1 ≤ MC by omega) (show B_2.2 ≤ MS by omega) rfl (Nat.le_of_ble_eq_true rfl) d_Na_setMagnitude_50) (fun G_63 B_64 p_65 => ?_)
          obtain ⟨e_66, z_67, e_68, e_69, e_70, f_71, o_72⟩ := p_65
          have e_66 : B_2 = B_64 := (show B_64 = B_2 from e_66).symm
          subst e_66
          have f_73 : G_63 a_4 = some (t, .inl (cA 0, (gcap cap 3), .inl (upd (upd (upd g_5 0 (nI (v % 1000000000))) 1 (nI (v / 1000000000 % 1000000000))) 2 (nI (v / 1000000000 / 1000000000 % 1000000000))))) := (o_72 _ (gne f_61 f_60 (fun e => by cases e))).trans f_61
          exact hret 53 _ _ _ d_Na_setMagnitude_53 (show B_2.1 ≤ MC by omega) (show B_2.2 ≤ MS by omega) ⟨a_4, z_67, _, f_71, f_73, e_68, ⟨lim_le hx0 e_68, e_69, by rw [e_70]; exact hx1⟩, gfr_put w_62 f_60 rfl o_72, e_10, e_11⟩
        · skip
          have nc_56 : 3 < 3 := (nn_ge (a := 3) (b := 3) (by omega) (by omega)).2 c_56
          exact absurd nc_56 (by omega)
set_option maxHeartbeats 4000000 in
set_option maxRecDepth 100000 in
theorem c_Na_isOdd (l : Launch) (D : va_G) (cA : Nat → ClassId) (lo MC MS : Nat) (G : gT) (B : Nat × Nat) (t h a z cap : Nat) (f : Nat → Int32) (hh : G h = some (t, .inr (4, [.ref a, .int (nI z)]))) (ha : G a = some (t, .inl (cA 0, cap, .inl f))) (hz : z ≤ cap) (hc : cap ≤ 50000) (v : Nat) (hD : isD f z v) (hB1 : B.1 ≤ MC) (hB2 : B.2 ≤ MS) : gMet l y_Na_isOdd w_Na_isOdd 1 21 D clS (gtys cA) lo MC MS [.ref h] G B (gQi D clS lo (fun r u => u = (G, B) ∧ r = nI (v % 2))) := by
  refine g_metz (cc := prog_6_method_7_code) (nL := 1) (L := [(0, .ref h)]) (by decide +kernel) rfl (Nat.le_of_ble_eq_true rfl) rfl ?_
  intro p e R s m args below meth c Q hF hRc hRs hRf hRl hret
  obtain ⟨hx, hb, hr, hml, hts0, hown, hlocks, hin, hK, hlo, hZ⟩ := hF
  have hts : ∀ w ∈ tbg, w.before args s = true := fun w h => hts0 w (List.mem_cons_of_mem _ h)
  have hl := hD.1
  refine gs (pc' := 1) (fun _ _ _ _ _ hl => lv_aload_n hx hb d_Na_isOdd_0 rfl (lv_at hl 0 rfl)) ?_
  refine gs (pc' := 2) (fun _ _ _ _ _ hl => lv_iconst (v := nI 0) hx hb d_Na_isOdd_1 (by decide)) ?_
  refine g_outi hlo (g_runV (As := [.int (nI 0)]) (rest := []) ⟨hx, hb, hml, hown, hts⟩ hK hZ hRc hRs (c_Na_limb l D cA lo MC MS G B t h a z cap f hh ha (by omega) (by omega) (nI 0) hB1 hB2) (fun _ _ => cwV 1 hts (tb_good (tb_cons wm430 (tb_cons wm418 (tb_cons wm419 (tb_cons wm5 k_Na_limb))))) rfl rfl rfl (by decide +kernel) ⟨by rw [hRf]; exact Nat.le_of_ble_eq_true rfl, by rw [hRl]; exact Nat.le_of_ble_eq_true rfl⟩) hh rfl hB1 hB2 rfl (Nat.le_of_ble_eq_true rfl) d_Na_isOdd_2) (fun r_4 G_1 B_2 p_3 => ?_)
  obtain ⟨u_5, v_6⟩ := p_3
  cases u_5
  rw [limb_dx hl (by omega)] at v_6
  subst v_6
  have b_7 : dx f z 0 < 1000000000 := dx_lt hl
  have hdg := dx_dig (q := 0) hD
  rw [Nat.pow_zero, Nat.div_one] at hdg
  refine gs (pc' := 6) (fun _ _ _ _ _ hl => lv_iconst (v := nI 2) hx hb d_Na_isOdd_5 (by decide)) ?_
  refine gs (pc' := 7) (fun _ _ _ _ _ hl => lv_irem hx hb d_Na_isOdd_6 (by decide)) ?_
  refine g_eqi (show (nI (dx f z 0)) - (nI (dx f z 0)) / (nI 2) * (nI 2) = nI ((dx f z 0) % 2) from pk_rem (by omega) (by omega) (by omega)) ?_
  refine gsb (pc1 := 14) (pc2 := 10) (fun _ _ _ _ _ => lv_if_eq (tgt := 14) hx hb d_Na_isOdd_7 (by decide)) (fun c_8 => ?_) (fun c_8 => ?_)
  · skip
    have nc_8 : ((dx f z 0) % 2) = 0 := (n0_eq (a := ((dx f z 0) % 2)) (by omega)).1 c_8
    refine gs (pc' := 15) (fun _ _ _ _ _ hl => lv_iconst (v := nI 0) hx hb d_Na_isOdd_14 (by decide)) ?_
    exact hret 15 _ _ _ _ d_Na_isOdd_15 hB1 hB2 (by decide) ⟨rfl, congrArg nI (by omega)⟩
  · skip
    have nc_8 : ((dx f z 0) % 2) ≠ 0 := (n0_eq (a := ((dx f z 0) % 2)) (by omega)).2 c_8
    refine gs (pc' := 11) (fun _ _ _ _ _ hl => lv_iconst (v := nI 1) hx hb d_Na_isOdd_10 (by decide)) ?_
    refine gs (pc' := 15) (fun _ _ _ _ _ hl => lv_goto (tgt := 15) hx hb d_Na_isOdd_11 (by decide)) ?_
    exact hret 15 _ _ _ _ d_Na_isOdd_15 hB1 hB2 (by decide) ⟨rfl, congrArg nI (by omega)⟩
set_option maxHeartbeats 4000000 in
set_option maxRecDepth 100000 in
theorem c_Na_lowTwo (l : Launch) (D : va_G) (cA : Nat → ClassId) (lo MC MS : Nat) (G : gT) (B : Nat × Nat) (t h a z cap : Nat) (f : Nat → Int32) (hh : G h = some (t, .inr (4, [.ref a, .int (nI z)]))) (ha : G a = some (t, .inl (cA 0, cap, .inl f))) (hz : z ≤ cap) (hc : cap ≤ 50000) (v : Nat) (hD : isD f z v) (hv : v < 1000000000 * 1000000000) (hB1 : B.1 ≤ MC) (hB2 : B.2 ≤ MS) : gMet l y_Na_lowTwo w_Na_lowTwo 1 21 D clS (gtys cA) lo MC MS [.ref h] G B (gQl D clS lo (fun r u => u = (G, B) ∧ r = lN v)) := by
  refine g_metl (cc := prog_6_method_6_code) (nL := 1) (L := [(0, .ref h)]) (by decide +kernel) rfl (Nat.le_of_ble_eq_true rfl) rfl ?_
  intro p e R s m args below meth c Q hF hRc hRs hRf hRl hret
  obtain ⟨hx, hb, hr, hml, hts0, hown, hlocks, hin, hK, hlo, hZ⟩ := hF
  have hts : ∀ w ∈ tbg, w.before args s = true := fun w h => hts0 w (List.mem_cons_of_mem _ h)
  have hl := hD.1
  have hd0 := dx_dig (q := 0) hD
  rw [Nat.pow_zero, Nat.div_one] at hd0
  have hd1 := dx_dig (q := 1) hD
  rw [Nat.pow_one] at hd1
  refine gs (pc' := 1) (fun _ _ _ _ _ hl => lv_aload_n hx hb d_Na_lowTwo_0 rfl (lv_at hl 0 rfl)) ?_
  refine gs (pc' := 2) (fun _ _ _ _ _ hl => lv_iconst (v := nI 1) hx hb d_Na_lowTwo_1 (by decide)) ?_
  refine g_outi hlo (g_runV (As := [.int (nI 1)]) (rest := []) ⟨hx, hb, hml, hown, hts⟩ hK hZ hRc hRs (c_Na_limb l D cA lo MC MS G B t h a z cap f hh ha (by omega) (by omega) (nI 1) hB1 hB2) (fun _ _ => cwV 1 hts (tb_good (tb_cons wm430 (tb_cons wm418 (tb_cons wm419 (tb_cons wm5 k_Na_limb))))) rfl rfl rfl (by decide +kernel) ⟨by rw [hRf]; exact Nat.le_of_ble_eq_true rfl, by rw [hRl]; exact Nat.le_of_ble_eq_true rfl⟩) hh rfl hB1 hB2 rfl (Nat.le_of_ble_eq_true rfl) d_Na_lowTwo_2) (fun r_4 G_1 B_2 p_3 => ?_)
  obtain ⟨u_5, v_6⟩ := p_3
  cases u_5
  rw [limb_dx hl (by omega)] at v_6
  subst v_6
  have b_7 : dx f z 1 < 1000000000 := dx_lt hl
  refine gs (pc' := 6) (fun _ _ _ _ _ hl => lv_i2l (v := lN (dx f z 1)) hx hb d_Na_lowTwo_5 (nI_l (by omega))) ?_
  refine gs (pc' := 9) (fun _ _ _ _ _ hl => lv_ldc2 (v := 1000000000) hx hb hown (hts _ wm208) d_Na_lowTwo_6) ?_
  refine g_eql (show 1000000000 = lN 1000000000 from rfl) ?_
  refine gs (pc' := 10) (fun _ _ _ _ _ hl => lv_lmul hx hb d_Na_lowTwo_9) ?_
  refine g_eql (show (lN (dx f z 1)) * (lN 1000000000) = lN ((dx f z 1) * 1000000000) from lN_mul _ _) ?_
  refine gs (pc' := 11) (fun _ _ _ _ _ hl => lv_aload_n hx hb d_Na_lowTwo_10 rfl (lv_at hl 0 rfl)) ?_
  refine gs (pc' := 12) (fun _ _ _ _ _ hl => lv_iconst (v := nI 0) hx hb d_Na_lowTwo_11 (by decide)) ?_
  refine g_outi hlo (g_runV (As := [.int (nI 0)]) (rest := [.long (lN ((dx f z 1) * 1000000000))]) ⟨hx, hb, hml, hown, hts⟩ hK hZ hRc hRs (c_Na_limb l D cA lo MC MS G B t h a z cap f hh ha (by omega) (by omega) (nI 0) hB1 hB2) (fun _ _ => cwV 1 hts (tb_good (tb_cons wm430 (tb_cons wm418 (tb_cons wm419 (tb_cons wm5 k_Na_limb))))) rfl rfl rfl (by decide +kernel) ⟨by rw [hRf]; exact Nat.le_of_ble_eq_true rfl, by rw [hRl]; exact Nat.le_of_ble_eq_true rfl⟩) hh rfl hB1 hB2 rfl (Nat.le_of_ble_eq_true rfl) d_Na_lowTwo_12) (fun r_11 G_8 B_9 p_10 => ?_)
  obtain ⟨u_12, v_13⟩ := p_10
  cases u_12
  rw [limb_dx hl (by omega)] at v_13
  subst v_13
  have b_14 : dx f z 0 < 1000000000 := dx_lt hl
  refine gs (pc' := 16) (fun _ _ _ _ _ hl => lv_i2l (v := lN (dx f z 0)) hx hb d_Na_lowTwo_15 (nI_l (by omega))) ?_
  refine gs (pc' := 17) (fun _ _ _ _ _ hl => lv_ladd hx hb d_Na_lowTwo_16) ?_
  refine g_eql (show (lN ((dx f z 1) * 1000000000)) + (lN (dx f z 0)) = lN (((dx f z 1) * 1000000000) + (dx f z 0)) from lN_add _ _) ?_
  exact hret 17 _ _ _ _ d_Na_lowTwo_17 hB1 hB2 ⟨rfl, congrArg lN (by omega)⟩
set_option maxHeartbeats 4000000 in
set_option maxRecDepth 100000 in
theorem c_Na_digitsOfLimb (l : Launch) (D : va_G) (cA : Nat → ClassId) (lo MC MS : Nat) (G : gT) (B : Nat × Nat) (x : Nat) (hx9 : x < 10 ^ 9) (hB1 : B.1 ≤ MC) (hB2 : B.2 ≤ MS) : gMet l y_Na_digitsOfLimb w_Na_digitsOfLimb 0 0 D clS (gtys cA) lo MC MS [.int (nI x)] G B (gQi D clS lo (fun r u => u = (G, B) ∧ ∃ d : Nat, r = nI d ∧ 1 ≤ d ∧ d ≤ 9 ∧ x < 10 ^ d ∧ (d = 1 ∨ 10 ^ (d - 1) ≤ x))) := by
  refine g_meti (cc := prog_6_method_11_code) (nL := 2) (L := [(0, .int (nI x))]) (by decide +kernel) rfl (Nat.le_of_ble_eq_true rfl) rfl ?_
  intro p e R s m args below meth c Q hF hRc hRs hRf hRl hret
  obtain ⟨hx, hb, hr, hml, hts0, hown, hlocks, hin, hK, hlo, hZ⟩ := hF
  have hts : ∀ w ∈ tbg, w.before args s = true := fun w h => hts0 w (List.mem_cons_of_mem _ h)
  obtain ⟨⟨-, -, -, -, hNw, -, -⟩, aT, hZt, hTt⟩ := id hZ
  refine gs (pc' := 1) (fun _ _ _ _ _ hl => lv_iconst (v := nI 1) hx hb d_Na_digitsOfLimb_0 (by decide)) ?_
  refine gst (pc' := 2) (L' := [(1, .int (nI 1)), (0, .int (nI x))]) (fun _ _ _ _ _ hl => lv_istore_n hx hb d_Na_digitsOfLimb_1 rfl hl (by decide) rfl) ?_
  refine gsub [0, 1] rfl ?_
  have loop : ∀ (n d : Nat), d + n = 9 → 1 ≤ d → (d = 1 ∨ 10 ^ (d - 1) ≤ x) → gV p l e R s m args below meth c D clS lo 2 Q 2 [(1, .int (nI d)), (0, .int (nI x))] [] G B := by
    intro n
    induction n with
    | zero =>
      intro d hd h1 hge
      have h9 : d = 9 := by omega
      refine gs (pc' := 3) (fun _ _ _ _ _ hl => lv_iload_n hx hb d_Na_digitsOfLimb_2 rfl (lv_at hl 0 rfl)) ?_
      refine gs (pc' := 5) (fun _ _ _ _ _ hl => lv_bipush (v := nI 9) hx hb d_Na_digitsOfLimb_3 (by decide)) ?_
      refine gsb (pc1 := 23) (pc2 := 8) (fun _ _ _ _ _ => lv_icmp_ge (tgt := 23) hx hb d_Na_digitsOfLimb_5 (by decide)) (fun c_1 => ?_) (fun c_1 => ?_)
      · skip
        have nc_1 : d ≥ 9 := (nn_ge (a := d) (b := 9) (by omega) (by omega)).1 c_1
        refine gs (pc' := 24) (fun _ _ _ _ _ hl => lv_iload_n hx hb d_Na_digitsOfLimb_23 rfl (lv_at hl 0 rfl)) ?_
        exact hret 24 _ _ _ _ d_Na_digitsOfLimb_24 hB1 hB2 ⟨rfl, d, rfl, h1, by omega, by rw [h9]; exact hx9, hge⟩
      · skip
        have nc_1 : d < 9 := (nn_ge (a := d) (b := 9) (by omega) (by omega)).2 c_1
        exact absurd nc_1 (by omega)
    | succ n ih =>
      intro d hd h1 hge
      refine gs (pc' := 3) (fun _ _ _ _ _ hl => lv_iload_n hx hb d_Na_digitsOfLimb_2 rfl (lv_at hl 0 rfl)) ?_
      refine gs (pc' := 5) (fun _ _ _ _ _ hl => lv_bipush (v := nI 9) hx hb d_Na_digitsOfLimb_3 (by decide)) ?_
      refine gsb (pc1 := 23) (pc2 := 8) (fun _ _ _ _ _ => lv_icmp_ge (tgt := 23) hx hb d_Na_digitsOfLimb_5 (by decide)) (fun c_2 => ?_) (fun c_2 => ?_)
      · skip
        have nc_2 : d ≥ 9 := (nn_ge (a := d) (b := 9) (by omega) (by omega)).1 c_2
        exact absurd nc_2 (by omega)
      · skip
        have nc_2 : d < 9 := (nn_ge (a := d) (b := 9) (by omega) (by omega)).2 c_2
        refine gs (pc' := 9) (fun _ _ _ _ _ hl => lv_iload_n hx hb d_Na_digitsOfLimb_8 rfl (lv_at hl 1 rfl)) ?_
        refine g_gets hx hb hZt hown (va_Nw.use rfl hNw) (fun _ h9 => h9) d_Na_digitsOfLimb_9 ?_
        refine gs (pc' := 13) (fun _ _ _ _ _ hl => lv_iload_n hx hb d_Na_digitsOfLimb_12 rfl (lv_at hl 0 rfl)) ?_
        refine g_ti hx hb hTt (show vp_in (nI d) 10 from vp_in_nI (by omega) (by decide)) (tens_at (by omega)) d_Na_digitsOfLimb_13 ?_
        have b_3 := tens_le (j := d) (by omega)
        have b_4 := tens_pos d
        refine gsb (pc1 := 23) (pc2 := 17) (fun _ _ _ _ _ => lv_icmp_lt (tgt := 23) hx hb d_Na_digitsOfLimb_14 (by decide)) (fun c_5 => ?_) (fun c_5 => ?_)
        · skip
          have nc_5 : x < (10 ^ d) := (nn_lt (a := x) (b := (10 ^ d)) (by omega) (by omega)).1 c_5
          have hfin := nc_5
          refine gs (pc' := 24) (fun _ _ _ _ _ hl => lv_iload_n hx hb d_Na_digitsOfLimb_23 rfl (lv_at hl 0 rfl)) ?_
          exact hret 24 _ _ _ _ d_Na_digitsOfLimb_24 hB1 hB2 ⟨rfl, d, rfl, h1, by omega, hfin, hge⟩
        · skip
          have nc_5 : x ≥ (10 ^ d) := (nn_lt (a := x) (b := (10 ^ d)) (by omega) (by omega)).2 c_5
          have hnext := nc_5
          refine gst (pc' := 20) (L' := [(1, .int (nI (d + 1))), (0, .int (nI x))]) (fun _ _ _ _ _ hl => lv_iinc (v := nI (d + 1)) hx hb d_Na_digitsOfLimb_17 hl (k := 0) rfl (nI_add _ 1) (by decide) rfl) ?_
          refine gs (pc' := 2) (fun _ _ _ _ _ hl => lv_goto (tgt := 2) hx hb d_Na_digitsOfLimb_20 (by decide)) ?_
          exact ih (d + 1) (by omega) (by omega) (Or.inr (by rw [Nat.add_sub_cancel]; exact hnext))
  exact loop 8 1 (by omega) (by omega) (Or.inl rfl)
set_option maxHeartbeats 4000000 in
set_option maxRecDepth 100000 in
theorem c_Na_digits (l : Launch) (D : va_G) (cA : Nat → ClassId) (lo MC MS : Nat) (G : gT) (B : Nat × Nat) (t h a z cap : Nat) (f : Nat → Int32) (hh : G h = some (t, .inr (4, [.ref a, .int (nI z)]))) (ha : G a = some (t, .inl (cA 0, cap, .inl f))) (hz : z ≤ cap) (hc : cap ≤ 50000) (v : Nat) (hD : isD f z v) (hB1 : B.1 ≤ MC) (hB2 : B.2 ≤ MS) : gMet l y_Na_digits w_Na_digits 1 21 D clS (gtys cA) lo MC MS [.ref h] G B (gQi D clS lo (fun r u => u = (G, B) ∧ ∃ K : Nat, r = nI K ∧ isK v K)) := by
  refine g_meti (cc := prog_6_method_9_code) (nL := 1) (L := [(0, .ref h)]) (by decide +kernel) rfl (Nat.le_of_ble_eq_true rfl) rfl ?_
  intro p e R s m args below meth c Q hF hRc hRs hRf hRl hret
  obtain ⟨hx, hb, hr, hml, hts0, hown, hlocks, hin, hK, hlo, hZ⟩ := hF
  have hts : ∀ w ∈ tbg, w.before args s = true := fun w h => hts0 w (List.mem_cons_of_mem _ h)
  have hl := hD.1
  refine gs (pc' := 1) (fun _ _ _ _ _ hl => lv_aload_n hx hb d_Na_digits_0 rfl (lv_at hl 0 rfl)) ?_
  refine g_get hx hb hts hin_Na hown hK hh rfl 1 (by decide) (hts _ wm75) (fun _ h9 => h9) rfl d_Na_digits_1 ?_
  refine gsb (pc1 := 11) (pc2 := 7) (fun _ _ _ _ _ => lv_if_ne (tgt := 11) hx hb d_Na_digits_4 (by decide)) (fun c_1 => ?_) (fun c_1 => ?_)
  · skip
    have nc_1 : z ≠ 0 := (n0_ne (a := z) (by omega)).1 c_1
    have hzp : 0 < z := by omega
    have hdxe : dx f z (z - 1) = df f (z - 1) := dx_in (by omega)
    refine gs (pc' := 12) (fun _ _ _ _ _ hl => lv_aload_n hx hb d_Na_digits_11 rfl (lv_at hl 0 rfl)) ?_
    refine g_get hx hb hts hin_Na hown hK hh rfl 1 (by decide) (hts _ wm75) (fun _ h9 => h9) rfl d_Na_digits_12 ?_
    refine gs (pc' := 16) (fun _ _ _ _ _ hl => lv_iconst (v := nI 1) hx hb d_Na_digits_15 (by decide)) ?_
    refine gs (pc' := 17) (fun _ _ _ _ _ hl => lv_isub hx hb d_Na_digits_16) ?_
    refine g_eqi (show (nI z) - (nI 1) = nI (z - 1) from pk_sub (by omega)) ?_
    refine gs (pc' := 19) (fun _ _ _ _ _ hl => lv_bipush (v := nI 9) hx hb d_Na_digits_17 (by decide)) ?_
    refine gs (pc' := 20) (fun _ _ _ _ _ hl => lv_imul hx hb d_Na_digits_19) ?_
    refine g_eqi (show (nI (z - 1)) * (nI 9) = nI ((z - 1) * 9) from pk_mul _ _) ?_
    refine gs (pc' := 21) (fun _ _ _ _ _ hl => lv_aload_n hx hb d_Na_digits_20 rfl (lv_at hl 0 rfl)) ?_
    refine gs (pc' := 22) (fun _ _ _ _ _ hl => lv_aload_n hx hb d_Na_digits_21 rfl (lv_at hl 0 rfl)) ?_
    refine g_get hx hb hts hin_Na hown hK hh rfl 1 (by decide) (hts _ wm75) (fun _ h9 => h9) rfl d_Na_digits_22 ?_
    refine gs (pc' := 26) (fun _ _ _ _ _ hl => lv_iconst (v := nI 1) hx hb d_Na_digits_25 (by decide)) ?_
    refine gs (pc' := 27) (fun _ _ _ _ _ hl => lv_isub hx hb d_Na_digits_26) ?_
    refine g_eqi (show (nI z) - (nI 1) = nI (z - 1) from pk_sub (by omega)) ?_
    refine g_outi hlo (g_runV (As := [.int (nI (z - 1))]) (rest := [.int (nI ((z - 1) * 9))]) ⟨hx, hb, hml, hown, hts⟩ hK hZ hRc hRs (c_Na_limb l D cA lo MC MS G B t h a z cap f hh ha (by omega) (by omega) (nI (z - 1)) hB1 hB2) (fun _ _ => cwV 1 hts (tb_good (tb_cons wm430 (tb_cons wm418 (tb_cons wm419 (tb_cons wm5 k_Na_limb))))) rfl rfl rfl (by decide +kernel) ⟨by rw [hRf]; exact Nat.le_of_ble_eq_true rfl, by rw [hRl]; exact Nat.le_of_ble_eq_true rfl⟩) hh rfl hB1 hB2 rfl (Nat.le_of_ble_eq_true rfl) d_Na_digits_27) (fun r_5 G_2 B_3 p_4 => ?_)
    obtain ⟨u_6, v_7⟩ := p_4
    cases u_6
    rw [limb_dx hl (by omega)] at v_7
    subst v_7
    have b_8 : dx f z (z - 1) < 1000000000 := dx_lt hl
    refine g_outi hlo (g_runS (As := [.int (nI (dx f z (z - 1)))]) (rest := [.int (nI ((z - 1) * 9))]) ⟨hx, hb, hml, hown, hts⟩ hK hZ hRc hRs (c_Na_digitsOfLimb l D cA lo MC MS G B (dx f z (z - 1)) (by simp only [Nat.reducePow]; omega) hB1 hB2) (fun _ _ => va_cwS 1 hts (tb_good (tb_cons wm507 (tb_cons wm422 (tb_cons wm5 k_Na_digitsOfLimb)))) rfl rfl rfl (by decide +kernel) ⟨by rw [hRf]; exact Nat.le_of_ble_eq_true rfl, by rw [hRl]; exact Nat.le_of_ble_eq_true rfl⟩) hB1 hB2 rfl (Nat.le_of_ble_eq_true rfl) d_Na_digits_30) (fun r_12 G_9 B_10 p_11 => ?_)
    obtain ⟨e_14, d_13, e_15, e_16, e_17, e_18, e_19⟩ := p_11
    cases e_14
    subst e_15
    refine gs (pc' := 34) (fun _ _ _ _ _ hl => lv_iadd hx hb d_Na_digits_33) ?_
    refine g_eqi (show (nI ((z - 1) * 9)) + (nI d_13) = nI (((z - 1) * 9) + d_13) from nI_add _ _) ?_
    exact hret 34 _ _ _ _ d_Na_digits_34 hB1 hB2 ⟨rfl, _, rfl, isK_of hD hzp e_16 (by rw [← hdxe]; exact e_18) (by rw [← hdxe]; exact e_19)⟩
  · skip
    have nc_1 : z = 0 := (n0_ne (a := z) (by omega)).2 c_1
    have hz0 := (isD_z0 hD).mp nc_1
    refine gs (pc' := 8) (fun _ _ _ _ _ hl => lv_iconst (v := nI 1) hx hb d_Na_digits_7 (by decide)) ?_
    refine gs (pc' := 34) (fun _ _ _ _ _ hl => lv_goto (tgt := 34) hx hb d_Na_digits_8 (by decide)) ?_
    exact hret 34 _ _ _ _ d_Na_digits_34 hB1 hB2 ⟨rfl, 1, rfl, Or.inl ⟨hz0, rfl⟩⟩
set_option maxHeartbeats 4000000 in
set_option maxRecDepth 100000 in
theorem c_Na_decimal (l : Launch) (D : va_G) (cA : Nat → ClassId) (lo MC MS : Nat) (G : gT) (B : Nat × Nat) (t h a z cap : Nat) (f : Nat → Int32) (hh : G h = some (t, .inr (4, [.ref a, .int (nI z)]))) (ha : G a = some (t, .inl (cA 0, cap, .inl f))) (hz : z ≤ cap) (hc : cap ≤ 50000) (v i : Nat) (hi : i < 2 ^ 31) (hD : isD f z v) (hB1 : B.1 ≤ MC) (hB2 : B.2 ≤ MS) : gMet l y_Na_decimal w_Na_decimal 1 21 D clS (gtys cA) lo MC MS [.ref h, .int (nI i)] G B (gQi D clS lo (fun r u => u = (G, B) ∧ r = nI (v / 10 ^ i % 10))) := by
  refine g_meti (cc := prog_6_method_10_code) (nL := 2) (L := [(0, .ref h), (1, .int (nI i))]) (by decide +kernel) rfl (Nat.le_of_ble_eq_true rfl) rfl ?_
  intro p e R s m args below meth c Q hF hRc hRs hRf hRl hret
  obtain ⟨hx, hb, hr, hml, hts0, hown, hlocks, hin, hK, hlo, hZ⟩ := hF
  have hts : ∀ w ∈ tbg, w.before args s = true := fun w h => hts0 w (List.mem_cons_of_mem _ h)
  obtain ⟨⟨-, -, -, -, hNw, -, -⟩, aT, hZt, hTt⟩ := id hZ
  have hl := hD.1
  refine gs (pc' := 1) (fun _ _ _ _ _ hl => lv_iload_n hx hb d_Na_decimal_0 rfl (lv_at hl 1 rfl)) ?_
  refine gsb (pc1 := 8) (pc2 := 4) (fun _ _ _ _ _ => lv_if_ge (tgt := 8) hx hb d_Na_decimal_1 (by decide)) (fun c_1 => ?_) (fun c_1 => ?_)
  · skip
    have nc_1 : i ≥ 0 := (n0_ge (a := i) (by omega)).1 c_1
    refine gs (pc' := 9) (fun _ _ _ _ _ hl => lv_aload_n hx hb d_Na_decimal_8 rfl (lv_at hl 0 rfl)) ?_
    refine gs (pc' := 10) (fun _ _ _ _ _ hl => lv_iload_n hx hb d_Na_decimal_9 rfl (lv_at hl 1 rfl)) ?_
    refine gs (pc' := 12) (fun _ _ _ _ _ hl => lv_bipush (v := nI 9) hx hb d_Na_decimal_10 (by decide)) ?_
    refine gs (pc' := 13) (fun _ _ _ _ _ hl => lv_idiv hx hb d_Na_decimal_12 (by decide)) ?_
    refine g_eqi (show (nI i) / (nI 9) = nI (i / 9) from pk_div (by omega) (by omega) (by omega)) ?_
    refine g_outi hlo (g_runV (As := [.int (nI (i / 9))]) (rest := []) ⟨hx, hb, hml, hown, hts⟩ hK hZ hRc hRs (c_Na_limb l D cA lo MC MS G B t h a z cap f hh ha (by omega) (by omega) (nI (i / 9)) hB1 hB2) (fun _ _ => cwV 1 hts (tb_good (tb_cons wm430 (tb_cons wm418 (tb_cons wm419 (tb_cons wm5 k_Na_limb))))) rfl rfl rfl (by decide +kernel) ⟨by rw [hRf]; exact Nat.le_of_ble_eq_true rfl, by rw [hRl]; exact Nat.le_of_ble_eq_true rfl⟩) hh rfl hB1 hB2 rfl (Nat.le_of_ble_eq_true rfl) d_Na_decimal_13) (fun r_5 G_2 B_3 p_4 => ?_)
    obtain ⟨u_6, v_7⟩ := p_4
    cases u_6
    rw [limb_dx hl (by omega)] at v_7
    subst v_7
    have b_8 : dx f z (i / 9) < 1000000000 := dx_lt hl
    refine g_gets hx hb hZt hown (va_Nw.use rfl hNw) (fun _ h9 => h9) d_Na_decimal_16 ?_
    refine gs (pc' := 20) (fun _ _ _ _ _ hl => lv_iload_n hx hb d_Na_decimal_19 rfl (lv_at hl 1 rfl)) ?_
    refine gs (pc' := 22) (fun _ _ _ _ _ hl => lv_bipush (v := nI 9) hx hb d_Na_decimal_20 (by decide)) ?_
    refine gs (pc' := 23) (fun _ _ _ _ _ hl => lv_irem hx hb d_Na_decimal_22 (by decide)) ?_
    refine g_eqi (show (nI i) - (nI i) / (nI 9) * (nI 9) = nI (i % 9) from pk_rem (by omega) (by omega) (by omega)) ?_
    refine g_ti hx hb hTt (show vp_in (nI (i % 9)) 10 from vp_in_nI (by omega) (by decide)) (tens_at (by omega)) d_Na_decimal_23 ?_
    have b_9 := tens_le (j := (i % 9)) (by omega)
    have b_10 := tens_pos (i % 9)
    have hdb : dx f z (i / 9) / 10 ^ (i % 9) ≤ dx f z (i / 9) := Nat.div_le_self _ _
    refine gs (pc' := 25) (fun _ _ _ _ _ hl => lv_idiv hx hb d_Na_decimal_24 (fun e => absurd ((nI_eq (by omega) (by omega)).mp (e.trans (show _ = nI 0 from rfl))) (by omega))) ?_
    refine g_eqi (show (nI (dx f z (i / 9))) / (nI (10 ^ (i % 9))) = nI ((dx f z (i / 9)) / (10 ^ (i % 9))) from pk_div (by omega) (by omega) (by omega)) ?_
    refine gs (pc' := 27) (fun _ _ _ _ _ hl => lv_bipush (v := nI 10) hx hb d_Na_decimal_25 (by decide)) ?_
    refine gs (pc' := 28) (fun _ _ _ _ _ hl => lv_irem hx hb d_Na_decimal_27 (by decide)) ?_
    refine g_eqi (show (nI ((dx f z (i / 9)) / (10 ^ (i % 9)))) - (nI ((dx f z (i / 9)) / (10 ^ (i % 9)))) / (nI 10) * (nI 10) = nI (((dx f z (i / 9)) / (10 ^ (i % 9))) % 10) from pk_rem (by omega) (by omega) (by omega)) ?_
    exact hret 28 _ _ _ _ d_Na_decimal_28 hB1 hB2 ⟨rfl, congrArg nI (dec_at hD)⟩
  · skip
    have nc_1 : i < 0 := (n0_ge (a := i) (by omega)).2 c_1
    exact absurd nc_1 (by omega)
set_option maxHeartbeats 4000000 in
set_option maxRecDepth 100000 in
theorem c_Na_leading (l : Launch) (D : va_G) (cA : Nat → ClassId) (lo MC MS : Nat) (G : gT) (B : Nat × Nat) (t h a z cap : Nat) (f : Nat → Int32) (hh : G h = some (t, .inr (4, [.ref a, .int (nI z)]))) (ha : G a = some (t, .inl (cA 0, cap, .inl f))) (hz : z ≤ cap) (hc : cap ≤ 50000) (v k td : Nat) (hk : k ≤ 50000) (hD : isD f z v) (hv : v < 1000000000 ^ (k + 3)) (htd1 : 1 ≤ td) (htd9 : td ≤ 9) (hB1 : B.1 ≤ MC) (hB2 : B.2 ≤ MS) : gMet l y_Na_leading w_Na_leading 1 21 D clS (gtys cA) lo MC MS [.ref h, .int (nI (k + 3)), .int (nI td)] G B (gQl D clS lo (fun r u => u = (G, B) ∧ r = lN (v / (1000000000 ^ k * 10 ^ td)))) := by
  refine g_metl (cc := prog_6_method_12_code) (nL := 5) (L := [(0, .ref h), (1, .int (nI (k + 3))), (2, .int (nI td))]) (by decide +kernel) rfl (Nat.le_of_ble_eq_true rfl) rfl ?_
  intro p e R s m args below meth c Q hF hRc hRs hRf hRl hret
  obtain ⟨hx, hb, hr, hml, hts0, hown, hlocks, hin, hK, hlo, hZ⟩ := hF
  have hts : ∀ w ∈ tbg, w.before args s = true := fun w h => hts0 w (List.mem_cons_of_mem _ h)
  obtain ⟨⟨-, -, -, -, hNw, -, -⟩, aT, hZt, hTt⟩ := id hZ
  have hl := hD.1
  refine gs (pc' := 1) (fun _ _ _ _ _ hl => lv_iload_n hx hb d_Na_leading_0 rfl (lv_at hl 2 rfl)) ?_
  refine gs (pc' := 2) (fun _ _ _ _ _ hl => lv_iconst (v := nI 1) hx hb d_Na_leading_1 (by decide)) ?_
  refine gsb (pc1 := 11) (pc2 := 5) (fun _ _ _ _ _ => lv_icmp_lt (tgt := 11) hx hb d_Na_leading_2 (by decide)) (fun c_1 => ?_) (fun c_1 => ?_)
  · skip
    have nc_1 : td < 1 := (nn_lt (a := td) (b := 1) (by omega) (by omega)).1 c_1
    exact absurd nc_1 (by omega)
  · skip
    have nc_1 : td ≥ 1 := (nn_lt (a := td) (b := 1) (by omega) (by omega)).2 c_1
    refine gs (pc' := 6) (fun _ _ _ _ _ hl => lv_iload_n hx hb d_Na_leading_5 rfl (lv_at hl 2 rfl)) ?_
    refine gs (pc' := 8) (fun _ _ _ _ _ hl => lv_bipush (v := nI 9) hx hb d_Na_leading_6 (by decide)) ?_
    refine gsb (pc1 := 13) (pc2 := 11) (fun _ _ _ _ _ => lv_icmp_le (tgt := 13) hx hb d_Na_leading_8 (by decide)) (fun c_2 => ?_) (fun c_2 => ?_)
    · skip
      have nc_2 : td ≤ 9 := (nn_le (a := td) (b := 9) (by omega) (by omega)).1 c_2
      refine gs (pc' := 14) (fun _ _ _ _ _ hl => lv_aload_n hx hb d_Na_leading_13 rfl (lv_at hl 0 rfl)) ?_
      refine gs (pc' := 15) (fun _ _ _ _ _ hl => lv_iload_n hx hb d_Na_leading_14 rfl (lv_at hl 1 rfl)) ?_
      refine gs (pc' := 16) (fun _ _ _ _ _ hl => lv_iconst (v := nI 1) hx hb d_Na_leading_15 (by decide)) ?_
      refine gs (pc' := 17) (fun _ _ _ _ _ hl => lv_isub hx hb d_Na_leading_16) ?_
      refine g_eqi (show (nI (k + 3)) - (nI 1) = nI (k + 2) from (pk_sub (by omega)).trans (congrArg nI (show (k + 3) - 1 = k + 2 by omega))) ?_
      refine g_outi hlo (g_runV (As := [.int (nI (k + 2))]) (rest := []) ⟨hx, hb, hml, hown, hts⟩ hK hZ hRc hRs (c_Na_limb l D cA lo MC MS G B t h a z cap f hh ha (by omega) (by omega) (nI (k + 2)) hB1 hB2) (fun _ _ => cwV 1 hts (tb_good (tb_cons wm430 (tb_cons wm418 (tb_cons wm419 (tb_cons wm5 k_Na_limb))))) rfl rfl rfl (by decide +kernel) ⟨by rw [hRf]; exact Nat.le_of_ble_eq_true rfl, by rw [hRl]; exact Nat.le_of_ble_eq_true rfl⟩) hh rfl hB1 hB2 rfl (Nat.le_of_ble_eq_true rfl) d_Na_leading_17) (fun r_6 G_3 B_4 p_5 => ?_)
      obtain ⟨u_7, v_8⟩ := p_5
      cases u_7
      rw [limb_dx hl (by omega)] at v_8
      subst v_8
      have b_9 : dx f z (k + 2) < 1000000000 := dx_lt hl
      refine gs (pc' := 21) (fun _ _ _ _ _ hl => lv_i2l (v := lN (dx f z (k + 2))) hx hb d_Na_leading_20 (nI_l (by omega))) ?_
      refine gs (pc' := 24) (fun _ _ _ _ _ hl => lv_ldc2 (v := 1000000000) hx hb hown (hts _ wm208) d_Na_leading_21) ?_
      refine g_eql (show 1000000000 = lN 1000000000 from rfl) ?_
      refine gs (pc' := 25) (fun _ _ _ _ _ hl => lv_lmul hx hb d_Na_leading_24) ?_
      refine g_eql (show (lN (dx f z (k + 2))) * (lN 1000000000) = lN ((dx f z (k + 2)) * 1000000000) from lN_mul _ _) ?_
      refine gs (pc' := 26) (fun _ _ _ _ _ hl => lv_aload_n hx hb d_Na_leading_25 rfl (lv_at hl 0 rfl)) ?_
      refine gs (pc' := 27) (fun _ _ _ _ _ hl => lv_iload_n hx hb d_Na_leading_26 rfl (lv_at hl 1 rfl)) ?_
      refine gs (pc' := 28) (fun _ _ _ _ _ hl => lv_iconst (v := nI 2) hx hb d_Na_leading_27 (by decide)) ?_
      refine gs (pc' := 29) (fun _ _ _ _ _ hl => lv_isub hx hb d_Na_leading_28) ?_
      refine g_eqi (show (nI (k + 3)) - (nI 2) = nI (k + 1) from (pk_sub (by omega)).trans (congrArg nI (show (k + 3) - 2 = k + 1 by omega))) ?_
      refine g_outi hlo (g_runV (As := [.int (nI (k + 1))]) (rest := [.long (lN ((dx f z (k + 2)) * 1000000000))]) ⟨hx, hb, hml, hown, hts⟩ hK hZ hRc hRs (c_Na_limb l D cA lo MC MS G B t h a z cap f hh ha (by omega) (by omega) (nI (k + 1)) hB1 hB2) (fun _ _ => cwV 1 hts (tb_good (tb_cons wm430 (tb_cons wm418 (tb_cons wm419 (tb_cons wm5 k_Na_limb))))) rfl rfl rfl (by decide +kernel) ⟨by rw [hRf]; exact Nat.le_of_ble_eq_true rfl, by rw [hRl]; exact Nat.le_of_ble_eq_true rfl⟩) hh rfl hB1 hB2 rfl (Nat.le_of_ble_eq_true rfl) d_Na_leading_29) (fun r_13 G_10 B_11 p_12 => ?_)
      obtain ⟨u_14, v_15⟩ := p_12
      cases u_14
      rw [limb_dx hl (by omega)] at v_15
      subst v_15
      have b_16 : dx f z (k + 1) < 1000000000 := dx_lt hl
      refine gs (pc' := 33) (fun _ _ _ _ _ hl => lv_i2l (v := lN (dx f z (k + 1))) hx hb d_Na_leading_32 (nI_l (by omega))) ?_
      refine gs (pc' := 34) (fun _ _ _ _ _ hl => lv_ladd hx hb d_Na_leading_33) ?_
      refine g_eql (show (lN ((dx f z (k + 2)) * 1000000000)) + (lN (dx f z (k + 1))) = lN (((dx f z (k + 2)) * 1000000000) + (dx f z (k + 1))) from lN_add _ _) ?_
      refine gst (pc' := 35) (L' := [(3, .long (lN (((dx f z (k + 2)) * 1000000000) + (dx f z (k + 1))))), (0, .ref h), (1, .int (nI (k + 3))), (2, .int (nI td))]) (fun _ _ _ _ _ hl => lv_lstore_n hx hb d_Na_leading_34 rfl hl (by decide) rfl) ?_
      refine gs (pc' := 36) (fun _ _ _ _ _ hl => lv_lload_n hx hb d_Na_leading_35 rfl (lv_at hl 0 rfl)) ?_
      refine g_gets hx hb hZt hown (va_Nw.use rfl hNw) (fun _ h9 => h9) d_Na_leading_36 ?_
      refine gs (pc' := 41) (fun _ _ _ _ _ hl => lv_bipush (v := nI 9) hx hb d_Na_leading_39 (by decide)) ?_
      refine gs (pc' := 42) (fun _ _ _ _ _ hl => lv_iload_n hx hb d_Na_leading_41 rfl (lv_at hl 3 rfl)) ?_
      refine gs (pc' := 43) (fun _ _ _ _ _ hl => lv_isub hx hb d_Na_leading_42) ?_
      refine g_eqi (show (nI 9) - (nI td) = nI (9 - td) from pk_sub (by omega)) ?_
      refine g_ti hx hb hTt (show vp_in (nI (9 - td)) 10 from vp_in_nI (by omega) (by decide)) (tens_at (by omega)) d_Na_leading_43 ?_
      have b_17 := tens_le (j := (9 - td)) (by omega)
      have b_18 := tens_pos (9 - td)
      refine gs (pc' := 45) (fun _ _ _ _ _ hl => lv_i2l (v := lN (10 ^ (9 - td))) hx hb d_Na_leading_44 (nI_l (by omega))) ?_
      refine gs (pc' := 46) (fun _ _ _ _ _ hl => lv_lmul hx hb d_Na_leading_45) ?_
      refine g_eql (show (lN (((dx f z (k + 2)) * 1000000000) + (dx f z (k + 1)))) * (lN (10 ^ (9 - td))) = lN ((((dx f z (k + 2)) * 1000000000) + (dx f z (k + 1))) * (10 ^ (9 - td))) from lN_mul _ _) ?_
      refine gs (pc' := 47) (fun _ _ _ _ _ hl => lv_aload_n hx hb d_Na_leading_46 rfl (lv_at hl 1 rfl)) ?_
      refine gs (pc' := 48) (fun _ _ _ _ _ hl => lv_iload_n hx hb d_Na_leading_47 rfl (lv_at hl 2 rfl)) ?_
      refine gs (pc' := 49) (fun _ _ _ _ _ hl => lv_iconst (v := nI 3) hx hb d_Na_leading_48 (by decide)) ?_
      refine gs (pc' := 50) (fun _ _ _ _ _ hl => lv_isub hx hb d_Na_leading_49) ?_
      refine g_eqi (show (nI (k + 3)) - (nI 3) = nI k from (pk_sub (by omega)).trans (congrArg nI (show (k + 3) - 3 = k by omega))) ?_
      refine g_outi hlo (g_runV (As := [.int (nI k)]) (rest := [.long (lN ((((dx f z (k + 2)) * 1000000000) + (dx f z (k + 1))) * (10 ^ (9 - td))))]) ⟨hx, hb, hml, hown, hts⟩ hK hZ hRc hRs (c_Na_limb l D cA lo MC MS G B t h a z cap f hh ha (by omega) (by omega) (nI k) hB1 hB2) (fun _ _ => cwV 1 hts (tb_good (tb_cons wm430 (tb_cons wm418 (tb_cons wm419 (tb_cons wm5 k_Na_limb))))) rfl rfl rfl (by decide +kernel) ⟨by rw [hRf]; exact Nat.le_of_ble_eq_true rfl, by rw [hRl]; exact Nat.le_of_ble_eq_true rfl⟩) hh rfl hB1 hB2 rfl (Nat.le_of_ble_eq_true rfl) d_Na_leading_50) (fun r_22 G_19 B_20 p_21 => ?_)
      obtain ⟨u_23, v_24⟩ := p_21
      cases u_23
      rw [limb_dx hl (by omega)] at v_24
      subst v_24
      have b_25 : dx f z k < 1000000000 := dx_lt hl
      refine g_gets hx hb hZt hown (va_Nw.use rfl hNw) (fun _ h9 => h9) d_Na_leading_53 ?_
      refine gs (pc' := 57) (fun _ _ _ _ _ hl => lv_iload_n hx hb d_Na_leading_56 rfl (lv_at hl 3 rfl)) ?_
      refine g_ti hx hb hTt (show vp_in (nI td) 10 from vp_in_nI (by omega) (by decide)) (tens_at (by omega)) d_Na_leading_57 ?_
      have b_26 := tens_le (j := td) (by omega)
      have b_27 := tens_pos td
      refine gs (pc' := 59) (fun _ _ _ _ _ hl => lv_idiv hx hb d_Na_leading_58 (fun e => absurd ((nI_eq (by omega) (by omega)).mp (e.trans (show _ = nI 0 from rfl))) (by omega))) ?_
      refine g_eqi (show (nI (dx f z k)) / (nI (10 ^ td)) = nI ((dx f z k) / (10 ^ td)) from pk_div (by omega) (by omega) (by omega)) ?_
      have hdb : dx f z k / 10 ^ td ≤ dx f z k := Nat.div_le_self _ _
      refine gs (pc' := 60) (fun _ _ _ _ _ hl => lv_i2l (v := lN ((dx f z k) / (10 ^ td))) hx hb d_Na_leading_59 (nI_l (by omega))) ?_
      refine gs (pc' := 61) (fun _ _ _ _ _ hl => lv_ladd hx hb d_Na_leading_60) ?_
      refine g_eql (show (lN ((((dx f z (k + 2)) * 1000000000) + (dx f z (k + 1))) * (10 ^ (9 - td)))) + (lN ((dx f z k) / (10 ^ td))) = lN (((((dx f z (k + 2)) * 1000000000) + (dx f z (k + 1))) * (10 ^ (9 - td))) + ((dx f z k) / (10 ^ td))) from lN_add _ _) ?_
      exact hret 61 _ _ _ _ d_Na_leading_61 hB1 hB2 ⟨rfl, congrArg lN (lead_at hD hv htd1 htd9)⟩
    · skip
      have nc_2 : td > 9 := (nn_le (a := td) (b := 9) (by omega) (by omega)).2 c_2
      exact absurd nc_2 (by omega)
