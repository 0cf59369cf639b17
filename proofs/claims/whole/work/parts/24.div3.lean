set_option maxHeartbeats 4000000 in
set_option maxRecDepth 100000 in
theorem n_divide (l : Launch) (D : va_G) (cA : Nat → ClassId) (lo MC MS : Nat) (G : gT) (B : Nat × Nat) (X : Nat × Nat) (ad V : Nat → Nat) (hW : w2 cA X ad V (G, B)) (hX1 : X.1 ≤ MC) (hX2 : X.2 ≤ MS) (hd : Nat) (hhd : G hd = some (30, .inr (2, [.ref (ad 0), .ref (ad 1), .ref (ad 2)]))) (h1 v1 h2 v2 k1 : Nat) (hr1 : rd cA G (fun x => 3 ≤ x) h1 v1) (hr2 : rd cA G (fun x => 3 ≤ x) h2 v2) (hk1 : v1 < 1000000000 ^ k1) (hkk : k1 ≤ 1499) (hv0 : 0 < v2) : gMet l y_Di_divide w_Di_divide 4 110 D clS (gtys cA) lo MC MS [.ref hd, .ref h1, .ref h2] G B (gQv D clS lo (fun u => ∃ V1, w2s cA X ad (fun x => x < 3) G V V1 u ∧ V1 0 = v1 / v2 ∧ V1 1 = v1 % v2)) := by
  refine g_metv (cc := prog_4_method_2_code) (nL := 5) (L := [(0, .ref hd), (1, .ref h1), (2, .ref h2)]) (by decide +kernel) rfl (Nat.le_of_ble_eq_true rfl) rfl ?_
  intro p e R s m args below meth c Q hF hRc hRs hRf hRl hret
  obtain ⟨hx, hb, hr, hml, hts0, hown, hlocks, hin, hK, hlo, hZ⟩ := hF
  have hts : ∀ w ∈ tbg, w.before args s = true := fun w h => hts0 w (List.mem_cons_of_mem _ h)
  have hB := w2_le hW
  have hr1s := hr1
  have hr2s := hr2
  have hW0 := hW
  obtain ⟨κ, hκ, hb1, hb2⟩ := hW
  have hb1 : B.1 + 57000 ≤ X.1 + ks κ 19 := hb1
  have hb2 : B.2 + 114000 ≤ X.2 + 2 * ks κ 19 := hb2
  have hk3 := ks_3 hκ
  obtain ⟨⟨b0, y0, p0, gh0, ga0, gz0, gD0⟩, gc0⟩ := hκ 0 (by decide)
  obtain ⟨⟨b1, y1, p1, gh1, ga1, gz1, gD1⟩, gc1⟩ := hκ 1 (by decide)
  obtain ⟨⟨b2, y2, p2, gh2, ga2, gz2, gD2⟩, gc2⟩ := hκ 2 (by decide)
  obtain ⟨ta, κa, hta, hca, a1, z1, f1, hh1, ha1, hz1, hD1⟩ := hr1s
  obtain ⟨tb, κb, htb, hcb, a2, z2, f2, hh2, ha2, hz2, hD2⟩ := hr2s
  have hta : 3 ≤ ta := hta
  have htb : 3 ≤ tb := htb
  have nta0 : ¬ ta = 0 := by omega
  have nta1 : ¬ ta = 1 := by omega
  have nta2 : ¬ ta = 2 := by omega
  have ntb0 : ¬ tb = 0 := by omega
  have ntb1 : ¬ tb = 1 := by omega
  have ntb2 : ¬ tb = 2 := by omega
  have hzk := isD_size hD1 hk1
  have hl1 := hD1.1
  have hl2 := hD2.1
  have hl0 := gD0.1
  obtain ⟨zb, hzb⟩ : ∃ zb, z2 = zb + 1 := ⟨z2 - 1, by have := isD_z0 hD2; omega⟩
  subst hzb
  have htop0 : df f2 zb ≠ 0 := hD2.2.1.elim (fun q => absurd q (by omega)) (fun q => q)
  have htopB : df f2 zb < 1000000000 := (hl2 zb (by omega)).2
  refine gs (pc' := 1) (fun _ _ _ _ _ hl => lv_aload_n hx hb d_Di_divide_0 rfl (lv_at hl 2 rfl)) ?_
  refine gs (pc' := 2) (fun _ _ _ _ _ hl => lv_aload_n hx hb d_Di_divide_1 rfl (lv_at hl 2 rfl)) ?_
  refine g_get hx hb hts hin_Na hown hK hh2 rfl 1 (by decide) (hts _ wm76) (fun _ h9 => h9) rfl d_Di_divide_2 ?_
  refine gs (pc' := 6) (fun _ _ _ _ _ hl => lv_iconst (v := nI 1) hx hb d_Di_divide_5 (by decide)) ?_
  refine gs (pc' := 7) (fun _ _ _ _ _ hl => lv_isub hx hb d_Di_divide_6) ?_
  refine g_eqi (show (nI (zb + 1)) - (nI 1) = nI zb from (pk_sub (by omega)).trans (congrArg nI (show (zb + 1) - 1 = zb by omega))) ?_
  refine g_outi hlo (g_runV (As := [.int (nI zb)]) (rest := []) ⟨hx, hb, hml, hown, hts⟩ hK hZ hRc hRs (c_Na_limb l D cA lo MC MS G B tb h2 a2 (zb + 1) (κb) f2 hh2 ha2 (by omega) (by omega) (nI zb) (show B.1 ≤ MC by omega) (show B.2 ≤ MS by omega)) (fun _ _ => cwV 1 hts (tb_good (tb_cons wm450 (tb_cons wm418 (tb_cons wm419 (tb_cons wm5 k_Na_limb))))) rfl rfl rfl (by decide +kernel) ⟨by rw [hRf]; exact Nat.le_of_ble_eq_true rfl, by rw [hRl]; exact Nat.le_of_ble_eq_true rfl⟩) hh2 rfl (show B.1 ≤ MC by omega) (show B.2 ≤ MS by omega) rfl (Nat.le_of_ble_eq_true rfl) d_Di_divide_7) (fun r_4 G_1 B_2 p_3 => ?_)
  obtain ⟨u_5, v_6⟩ := p_3
  cases u_5
  rw [limb_dx hl2 (by omega)] at v_6
  subst v_6
  have b_7 : dx f2 (zb + 1) zb < 1000000000 := dx_lt hl2
  refine g_eqi (show nI (dx f2 (zb + 1) zb) = nI (df f2 zb) from congrArg nI (dx_in (by omega))) ?_
  refine gst (pc' := 11) (L' := [(3, .int (nI (df f2 zb))), (0, .ref hd), (1, .ref h1), (2, .ref h2)]) (fun _ _ _ _ _ hl => lv_istore_n hx hb d_Di_divide_10 rfl hl (by decide) rfl) ?_
  refine gs (pc' := 12) (fun _ _ _ _ _ hl => lv_iload_n hx hb d_Di_divide_11 rfl (lv_at hl 0 rfl)) ?_
  refine gsb (pc1 := 23) (pc2 := 15) (fun _ _ _ _ _ => lv_if_eq (tgt := 23) hx hb d_Di_divide_12 (by decide)) (fun c_8 => ?_) (fun c_8 => ?_)
  · skip
    have nc_8 : (df f2 zb) = 0 := (n0_eq (a := (df f2 zb)) (by omega)).1 c_8
    exact absurd nc_8 htop0
  · skip
    have nc_8 : (df f2 zb) ≠ 0 := (n0_eq (a := (df f2 zb)) (by omega)).2 c_8
    refine gs (pc' := 16) (fun _ _ _ _ _ hl => lv_aload_n hx hb d_Di_divide_15 rfl (lv_at hl 2 rfl)) ?_
    refine gs (pc' := 17) (fun _ _ _ _ _ hl => lv_aload_n hx hb d_Di_divide_16 rfl (lv_at hl 3 rfl)) ?_
    refine g_outi hlo (g_runV (As := [.ref h2]) (rest := []) ⟨hx, hb, hml, hown, hts⟩ hK hZ hRc hRs (n_compare l D cA lo MC MS G B _ _ h1 v1 h2 v2 hr1 hr2 (show B.1 ≤ MC by omega) (show B.2 ≤ MS by omega)) (fun _ _ => cwV 1 hts (tb_good (tb_cons wm451 (tb_cons wm404 (tb_cons wm405 (tb_cons wm5 k_Na_compare))))) rfl rfl rfl (by decide +kernel) ⟨by rw [hRf]; exact Nat.le_of_ble_eq_true rfl, by rw [hRl]; exact Nat.le_of_ble_eq_true rfl⟩) hh1 rfl (show B.1 ≤ MC by omega) (show B.2 ≤ MS by omega) rfl (Nat.le_of_ble_eq_true rfl) d_Di_divide_17) (fun r_12 G_9 B_10 p_11 => ?_)
    obtain ⟨hu9, hcmp⟩ := p_11
    cases hu9
    rcases hcmp with ⟨hc9, hlt⟩ | ⟨hc9, hlt⟩ | ⟨hc9, hlt⟩
    · skip
      subst hc9
      refine gsb (pc1 := 42) (pc2 := 23) (fun _ _ _ _ _ => lv_if_ge (tgt := 42) hx hb d_Di_divide_20 (by decide)) (fun c_13 => ?_) (fun c_13 => ?_)
      · skip
        exact absurd c_13 (by decide)
      · skip
        refine gs (pc' := 24) (fun _ _ _ _ _ hl => lv_aload_n hx hb d_Di_divide_23 rfl (lv_at hl 1 rfl)) ?_
        refine g_get hx hb hts hin_Di hown hK hhd rfl 0 (by decide) (hts _ wm85) (fun _ h9 => h9) rfl d_Di_divide_24 ?_
        refine gs (pc' := 28) (fun _ _ _ _ _ hl => lv_iconst (v := nI 0) hx hb d_Di_divide_27 (by decide)) ?_
        refine g_put (ty := .int) hx hb hts hin_Na ty_Na ty_Na_ok nm_Na hown hK gh0 rfl 1 (by decide) (hts _ wm76) (fun _ h9 => h9) rfl (by decide +kernel) rfl rfl (Nat.le_of_ble_eq_true rfl) d_Di_divide_28 (fun G_14 f_15 o_16 => ?_)
        have f_17 : G_14 (ad 0) = some (0, .inr (4, [.ref b0, .int (nI 0)])) := f_15
        have f_18 : G_14 hd = some (30, .inr (2, [.ref (ad 0), .ref (ad 1), .ref (ad 2)])) := (o_16 _ (gne hhd gh0 (fun e => by cases e))).trans hhd
        have f_19 : G_14 b0 = some (0, .inl (cA 0, (κ 0), .inl p0)) := (o_16 _ (gne ga0 gh0 (fun e => by cases e))).trans ga0
        have f_20 : G_14 (ad 1) = some (1, .inr (4, [.ref b1, .int (nI y1)])) := (o_16 _ (gne gh1 gh0 (by simp))).trans gh1
        have f_21 : G_14 b1 = some (1, .inl (cA 0, (κ 1), .inl p1)) := (o_16 _ (gne ga1 gh0 (fun e => by cases e))).trans ga1
        have f_22 : G_14 (ad 2) = some (2, .inr (4, [.ref b2, .int (nI y2)])) := (o_16 _ (gne gh2 gh0 (by simp))).trans gh2
        have f_23 : G_14 b2 = some (2, .inl (cA 0, (κ 2), .inl p2)) := (o_16 _ (gne ga2 gh0 (fun e => by cases e))).trans ga2
        have f_24 : G_14 h1 = some (ta, .inr (4, [.ref a1, .int (nI z1)])) := (o_16 _ (gne hh1 gh0 (fun e => nta0 (congrArg Prod.fst e)))).trans hh1
        have f_25 : G_14 a1 = some (ta, .inl (cA 0, (κa), .inl f1)) := (o_16 _ (gne ha1 gh0 (fun e => by cases e))).trans ha1
        have f_26 : G_14 h2 = some (tb, .inr (4, [.ref a2, .int (nI (zb + 1))])) := (o_16 _ (gne hh2 gh0 (fun e => ntb0 (congrArg Prod.fst e)))).trans hh2
        have f_27 : G_14 a2 = some (tb, .inl (cA 0, (κb), .inl f2)) := (o_16 _ (gne ha2 gh0 (fun e => by cases e))).trans ha2
        have w_28 : gfr (fun x => x = 0) G G_14 := gfr_put gfr_rf gh0 rfl o_16
        refine gs (pc' := 32) (fun _ _ _ _ _ hl => lv_aload_n hx hb d_Di_divide_31 rfl (lv_at hl 1 rfl)) ?_
        refine g_get hx hb hts hin_Di hown hK f_18 rfl 1 (by decide) (hts _ wm87) (fun _ h9 => h9) rfl d_Di_divide_32 ?_
        refine gs (pc' := 36) (fun _ _ _ _ _ hl => lv_aload_n hx hb d_Di_divide_35 rfl (lv_at hl 2 rfl)) ?_
        have gg_29 := gcap_3 (c := (κ 1)) (k := z1) (by omega) (by omega)
        have gg_30 := gcap_ge (κ 1) z1
        refine g_outv hlo (g_runV (As := [.ref h1]) (rest := []) ⟨hx, hb, hml, hown, hts⟩ hK hZ hRc hRs (c_Na_setTo l D cA lo MC MS G_14 B 1 (ad 1) b1 (κ 1) (nI y1) p1 f_20 f_21 (by omega) ta h1 a1 z1 (κa) f1 f_24 f_25 (by omega) (by omega) v1 nta1 hD1 (by omega) (by omega) (show B.1 ≤ MC by omega) (show B.2 ≤ MS by omega)) (fun _ _ => cwV 1 hts (tb_good (tb_cons wm452 (tb_cons wm408 (tb_cons wm409 (tb_cons wm5 k_Na_setTo))))) rfl rfl rfl (by decide +kernel) ⟨by rw [hRf]; exact Nat.le_of_ble_eq_true rfl, by rw [hRl]; exact Nat.le_of_ble_eq_true rfl⟩) f_20 rfl (show B.1 ≤ MC by omega) (show B.2 ≤ MS by omega) rfl (Nat.le_of_ble_eq_true rfl) d_Di_divide_36) (fun G_31 B_32 p_33 => ?_)
        obtain ⟨a_34, z_35, g_36, e_37, e_38, e_39, e_40, e_41, e_42, e_43⟩ := p_33
        have e_42 : B_32.1 + (κ 1) ≤ B.1 + gcap (κ 1) z1 := e_42
        have e_43 : B_32.2 + 2 * (κ 1) ≤ B.2 + 2 * gcap (κ 1) z1 := e_43
        have f_46 : G_31 hd = some (30, .inr (2, [.ref (ad 0), .ref (ad 1), .ref (ad 2)])) := e_41 _ _ f_18 (by simp)
        have f_47 : G_31 b0 = some (0, .inl (cA 0, (κ 0), .inl p0)) := e_41 _ _ f_19 (by simp)
        have f_48 : G_31 (ad 2) = some (2, .inr (4, [.ref b2, .int (nI y2)])) := e_41 _ _ f_22 (by simp)
        have f_49 : G_31 b2 = some (2, .inl (cA 0, (κ 2), .inl p2)) := e_41 _ _ f_23 (by simp)
        have f_50 : G_31 h1 = some (ta, .inr (4, [.ref a1, .int (nI z1)])) := e_41 _ _ f_24 nta1
        have f_51 : G_31 a1 = some (ta, .inl (cA 0, (κa), .inl f1)) := e_41 _ _ f_25 nta1
        have f_52 : G_31 h2 = some (tb, .inr (4, [.ref a2, .int (nI (zb + 1))])) := e_41 _ _ f_26 ntb1
        have f_53 : G_31 a2 = some (tb, .inl (cA 0, (κb), .inl f2)) := e_41 _ _ f_27 ntb1
        have f_54 : G_31 (ad 0) = some (0, .inr (4, [.ref b0, .int (nI 0)])) := e_41 _ _ f_17 (by simp)
        refine gs (pc' := 130) (fun _ _ _ _ _ hl => lv_goto (tgt := 130) hx hb d_Di_divide_39 (by decide)) ?_
        have hfrX : gfr (fun x => x < 3) G G_31 := gfr_mono (gfr_tr w_28 e_41) (fun _ h => by omega)
        obtain ⟨V1, hs, e0, e1⟩ := w2_three (u := (G_31, B_32)) hκ hb1 hb2 hfrX ⟨b0, 0, p0, f_54, f_47, by omega, isD_0⟩ ⟨_, _, _, e_37, e_38, by omega, e_40⟩ ⟨b2, y2, p2, f_48, f_49, gz2, gD2⟩ (by omega) (by omega) (by omega) (by show B_32.1 + _ + _ + _ ≤ _; omega) (by show B_32.2 + _ + _ + _ ≤ _; omega)
        exact hret 130 _ _ _ d_Di_divide_130 (show B_32.1 ≤ MC by omega) (show B_32.2 ≤ MS by omega) ⟨V1, hs, e0.trans (Nat.div_eq_of_lt hlt).symm, e1.trans (Nat.mod_eq_of_lt hlt).symm⟩
    · skip
      subst hc9
      have hge : v2 ≤ v1 := by omega
      refine gsb (pc1 := 42) (pc2 := 23) (fun _ _ _ _ _ => lv_if_ge (tgt := 42) hx hb d_Di_divide_20 (by decide)) (fun c_55 => ?_) (fun c_55 => ?_)
      · skip
        have nc_55 : 0 ≥ 0 := (n0_ge (a := 0) (by omega)).1 c_55
        refine gs (pc' := 43) (fun _ _ _ _ _ hl => lv_aload_n hx hb d_Di_divide_42 rfl (lv_at hl 3 rfl)) ?_
        refine g_get hx hb hts hin_Na hown hK hh2 rfl 1 (by decide) (hts _ wm76) (fun _ h9 => h9) rfl d_Di_divide_43 ?_
        refine gs (pc' := 47) (fun _ _ _ _ _ hl => lv_iconst (v := nI 1) hx hb d_Di_divide_46 (by decide)) ?_
        refine gsb (pc1 := 76) (pc2 := 50) (fun _ _ _ _ _ => lv_icmp_ne (tgt := 76) hx hb d_Di_divide_47 (by decide)) (fun c_56 => ?_) (fun c_56 => ?_)
        · skip
          have nc_56 : (zb + 1) ≠ 1 := (nn_ne (a := (zb + 1)) (b := 1) (by omega) (by omega)).1 c_56
          obtain ⟨md, hmd⟩ : ∃ md, zb = md + 1 := ⟨zb - 1, by omega⟩
          subst hmd
          have hv2ge : 1000000000 ^ (md + 1) ≤ v2 := isD_ge hD2 (by omega)
          have hzz : md + 2 ≤ z1 := isD_size hD2 (Nat.lt_of_le_of_lt hge (isD_lt hD1))
          obtain ⟨sh, hsh⟩ : ∃ sh, z1 = sh + md + 2 := ⟨z1 - (md + 2), by omega⟩
          obtain ⟨sc, hsc⟩ : ∃ sc, sc = 1000000000 / (df f2 (md + 1) + 1) := ⟨_, rfl⟩
          have hks := kd_scale (by omega) htopB hsc
          have hscB : sc ≤ 500000000 := by have := Nat.mul_le_mul_left sc (show 2 ≤ df f2 (md + 1) + 1 by omega); have := hks.2.1; omega
          have hvs := sd_lt hD2 hks.2.1 (by omega)
          refine gs (pc' := 79) (fun _ _ _ _ _ hl => lv_ldc2 (v := 1000000000) hx hb hown (hts _ wm458) d_Di_divide_76) ?_
          refine g_eql (show 1000000000 = lN 1000000000 from rfl) ?_
          refine gs (pc' := 80) (fun _ _ _ _ _ hl => lv_iload_n hx hb d_Di_divide_79 rfl (lv_at hl 0 rfl)) ?_
          refine gs (pc' := 81) (fun _ _ _ _ _ hl => lv_i2l (v := lN (df f2 (md + 1))) hx hb d_Di_divide_80 (nI_l (by omega))) ?_
          refine gs (pc' := 82) (fun _ _ _ _ _ hl => lv_lconst (v := lN 1) hx hb d_Di_divide_81 (by decide)) ?_
          refine gs (pc' := 83) (fun _ _ _ _ _ hl => lv_ladd hx hb d_Di_divide_82) ?_
          refine g_eql (show (lN (df f2 (md + 1))) + (lN 1) = lN ((df f2 (md + 1)) + 1) from lN_add _ _) ?_
          refine gs (pc' := 84) (fun _ _ _ _ _ hl => lv_ldiv hx hb d_Di_divide_83 (fun e => absurd ((pk_lEQ (by omega) (by omega)).mp (e.trans (show _ = lN 0 from rfl))) (by omega))) ?_
          refine g_eql (show (lN 1000000000) / (lN ((df f2 (md + 1)) + 1)) = lN (1000000000 / ((df f2 (md + 1)) + 1)) from pk_lDiv (by omega) (by omega) (by omega)) ?_
          refine g_eql (show lN (1000000000 / ((df f2 (md + 1)) + 1)) = lN sc from congrArg lN hsc.symm) ?_
          refine gs (pc' := 85) (fun _ _ _ _ _ hl => lv_l2i (v := nI sc) hx hb d_Di_divide_84 (lN_i _)) ?_
          refine gst (pc' := 87) (L' := [(4, .int (nI sc)), (3, .int (nI (df f2 (md + 1)))), (0, .ref hd), (1, .ref h1), (2, .ref h2)]) (fun _ _ _ _ _ hl => lv_istore hx hb d_Di_divide_85 hl (by decide) rfl) ?_
          refine gs (pc' := 88) (fun _ _ _ _ _ hl => lv_aload_n hx hb d_Di_divide_87 rfl (lv_at hl 2 rfl)) ?_
          refine g_get hx hb hts hin_Di hown hK hhd rfl 1 (by decide) (hts _ wm87) (fun _ h9 => h9) rfl d_Di_divide_88 ?_
          refine gs (pc' := 92) (fun _ _ _ _ _ hl => lv_aload_n hx hb d_Di_divide_91 rfl (lv_at hl 3 rfl)) ?_
          refine gs (pc' := 94) (fun _ _ _ _ _ hl => lv_iload hx hb d_Di_divide_92 (lv_at hl 0 rfl)) ?_
          have gg_57 := gcap_3 (c := (κ 1)) (k := (z1 + 1)) (by omega) (by omega)
          have gg_58 := gcap_ge (κ 1) (z1 + 1)
          refine g_outv hlo (g_runV (As := [.ref h1, .int (nI sc)]) (rest := []) ⟨hx, hb, hml, hown, hts⟩ hK hZ hRc hRs (c_Na_setScaled l D cA lo MC MS G B 1 (ad 1) b1 (κ 1) (nI y1) p1 gh1 ga1 (by omega) ta h1 a1 z1 (κa) f1 hh1 ha1 (by omega) (by omega) v1 (sc) nta1 hD1 (by omega) (by omega) (by omega) (by omega) (show B.1 ≤ MC by omega) (show B.2 ≤ MS by omega)) (fun _ _ => cwV 2 hts (tb_good (tb_cons wm459 (tb_cons wm460 (tb_cons wm461 (tb_cons wm5 k_Na_setScaled))))) rfl rfl rfl (by decide +kernel) ⟨by rw [hRf]; exact Nat.le_of_ble_eq_true rfl, by rw [hRl]; exact Nat.le_of_ble_eq_true rfl⟩) gh1 rfl (show B.1 ≤ MC by omega) (show B.2 ≤ MS by omega) rfl (Nat.le_of_ble_eq_true rfl) d_Di_divide_94) (fun G_59 B_60 p_61 => ?_)
          obtain ⟨a_62, z_63, g_64, e_65, e_66, e_67, e_68, e_72, e_73, e_69, e_70, e_71⟩ := p_61
          have e_70 : B_60.1 + (κ 1) ≤ B.1 + gcap (κ 1) (z1 + 1) := e_70
          have e_71 : B_60.2 + 2 * (κ 1) ≤ B.2 + 2 * gcap (κ 1) (z1 + 1) := e_71
          have f_74 : G_59 hd = some (30, .inr (2, [.ref (ad 0), .ref (ad 1), .ref (ad 2)])) := e_69 _ _ hhd (by simp)
          have f_75 : G_59 (ad 0) = some (0, .inr (4, [.ref b0, .int (nI y0)])) := e_69 _ _ gh0 (by simp)
          have f_76 : G_59 b0 = some (0, .inl (cA 0, (κ 0), .inl p0)) := e_69 _ _ ga0 (by simp)
          have f_77 : G_59 (ad 2) = some (2, .inr (4, [.ref b2, .int (nI y2)])) := e_69 _ _ gh2 (by simp)
          have f_78 : G_59 b2 = some (2, .inl (cA 0, (κ 2), .inl p2)) := e_69 _ _ ga2 (by simp)
          have f_79 : G_59 h1 = some (ta, .inr (4, [.ref a1, .int (nI z1)])) := e_69 _ _ hh1 nta1
          have f_80 : G_59 a1 = some (ta, .inl (cA 0, (κa), .inl f1)) := e_69 _ _ ha1 nta1
          have f_81 : G_59 h2 = some (tb, .inr (4, [.ref a2, .int (nI (md + 2))])) := e_69 _ _ hh2 ntb1
          have f_82 : G_59 a2 = some (tb, .inl (cA 0, (κb), .inl f2)) := e_69 _ _ ha2 ntb1
          have hval1 : dv (df g_64) (sh + md + 3) = v1 * sc := by rw [← e_73]; congr 1; omega
          refine gs (pc' := 98) (fun _ _ _ _ _ hl => lv_aload_n hx hb d_Di_divide_97 rfl (lv_at hl 2 rfl)) ?_
          refine g_get hx hb hts hin_Di hown hK f_74 rfl 2 (by decide) (hts _ wm90) (fun _ h9 => h9) rfl d_Di_divide_98 ?_
          refine gs (pc' := 102) (fun _ _ _ _ _ hl => lv_aload_n hx hb d_Di_divide_101 rfl (lv_at hl 4 rfl)) ?_
          refine gs (pc' := 104) (fun _ _ _ _ _ hl => lv_iload hx hb d_Di_divide_102 (lv_at hl 0 rfl)) ?_
          have gg_83 := gcap_3 (c := (κ 2)) (k := (md + 2 + 1)) (by omega) (by omega)
          have gg_84 := gcap_ge (κ 2) (md + 2 + 1)
          refine g_outv hlo (g_runV (As := [.ref h2, .int (nI sc)]) (rest := []) ⟨hx, hb, hml, hown, hts⟩ hK hZ hRc hRs (c_Na_setScaled l D cA lo MC MS G_59 B_60 2 (ad 2) b2 (κ 2) (nI y2) p2 f_77 f_78 (by omega) tb h2 a2 (md + 2) (κb) f2 f_81 f_82 (by omega) (by omega) v2 (sc) ntb2 hD2 (by omega) (by omega) (by omega) (by omega) (show B_60.1 ≤ MC by omega) (show B_60.2 ≤ MS by omega)) (fun _ _ => cwV 2 hts (tb_good (tb_cons wm459 (tb_cons wm460 (tb_cons wm461 (tb_cons wm5 k_Na_setScaled))))) rfl rfl rfl (by decide +kernel) ⟨by rw [hRf]; exact Nat.le_of_ble_eq_true rfl, by rw [hRl]; exact Nat.le_of_ble_eq_true rfl⟩) f_77 rfl (show B_60.1 ≤ MC by omega) (show B_60.2 ≤ MS by omega) rfl (Nat.le_of_ble_eq_true rfl) d_Di_divide_104) (fun G_85 B_86 p_87 => ?_)
          obtain ⟨a_88, z_89, g_90, e_91, e_92, e_93, e_94, e_98, e_99, e_95, e_96, e_97⟩ := p_87
          have e_96 : B_86.1 + (κ 2) ≤ B_60.1 + gcap (κ 2) (md + 2 + 1) := e_96
          have e_97 : B_86.2 + 2 * (κ 2) ≤ B_60.2 + 2 * gcap (κ 2) (md + 2 + 1) := e_97
          have f_100 : G_85 hd = some (30, .inr (2, [.ref (ad 0), .ref (ad 1), .ref (ad 2)])) := e_95 _ _ f_74 (by simp)
          have f_101 : G_85 (ad 0) = some (0, .inr (4, [.ref b0, .int (nI y0)])) := e_95 _ _ f_75 (by simp)
          have f_102 : G_85 b0 = some (0, .inl (cA 0, (κ 0), .inl p0)) := e_95 _ _ f_76 (by simp)
          have f_103 : G_85 h1 = some (ta, .inr (4, [.ref a1, .int (nI z1)])) := e_95 _ _ f_79 nta2
          have f_104 : G_85 a1 = some (ta, .inl (cA 0, (κa), .inl f1)) := e_95 _ _ f_80 nta2
          have f_105 : G_85 h2 = some (tb, .inr (4, [.ref a2, .int (nI (md + 2))])) := e_95 _ _ f_81 ntb2
          have f_106 : G_85 a2 = some (tb, .inl (cA 0, (κb), .inl f2)) := e_95 _ _ f_82 ntb2
          have f_107 : G_85 (ad 1) = some (1, .inr (4, [.ref a_62, .int (nI z_63)])) := e_95 _ _ e_65 (by simp)
          have f_108 : G_85 a_62 = some (1, .inl (cA 0, (gcap (κ 1) (z1 + 1)), .inl g_64)) := e_95 _ _ e_66 (by simp)
          have hDd := e_94
          have hsd := sd_top hD2 hks.2.2 hDd hvs
          have hzd := hsd.1
          have htop5 := hsd.2
          have hhdv : G_85 (ad 2) = some (2, .inr (4, [.ref a_88, .int (nI (md + 2))])) := by rw [← hzd]; exact e_91
          rw [hzd] at hDd
          have hgs := gcap_3 (c := κ 0) (k := sh + 1) (by omega) (by omega)
          have hgs2 := gcap_ge (κ 0) (sh + 1)
          refine gs (pc' := 108) (fun _ _ _ _ _ hl => lv_aload_n hx hb d_Di_divide_107 rfl (lv_at hl 2 rfl)) ?_
          refine gs (pc' := 109) (fun _ _ _ _ _ hl => lv_aload_n hx hb d_Di_divide_108 rfl (lv_at hl 3 rfl)) ?_
          refine g_get hx hb hts hin_Na hown hK f_103 rfl 1 (by decide) (hts _ wm76) (fun _ h9 => h9) rfl d_Di_divide_109 ?_
          refine gs (pc' := 113) (fun _ _ _ _ _ hl => lv_aload_n hx hb d_Di_divide_112 rfl (lv_at hl 4 rfl)) ?_
          refine g_get hx hb hts hin_Na hown hK f_105 rfl 1 (by decide) (hts _ wm76) (fun _ h9 => h9) rfl d_Di_divide_113 ?_
          refine gs (pc' := 117) (fun _ _ _ _ _ hl => lv_isub hx hb d_Di_divide_116) ?_
          refine g_eqi (show (nI z1) - (nI (md + 2)) = nI sh from (pk_sub (by omega)).trans (congrArg nI (show z1 - (md + 2) = sh by omega))) ?_
          refine g_outv hlo (g_runV (As := [.int (nI sh)]) (rest := []) ⟨hx, hb, hml, hown, hts⟩ hK hZ hRc hRs (c_Di_divideScaled l D cA lo MC MS G_85 B_86 30 hd (ad 0) (ad 1) (ad 2) f_100 2 a_88 (gcap (κ 2) (md + 2 + 1)) md g_90 hhdv e_92 (by omega) (by omega) (lim_le hDd.1 (by omega)) 1 a_62 (gcap (κ 1) (z1 + 1)) (nI z_63) g_64 f_107 f_108 (by omega) 0 b0 (κ 0) sh (v2 * sc) (v1 * sc) (nI y0) p0 f_101 f_102 (by omega) (by decide) (by decide) (by decide) (by decide) (by decide) (by decide) (by omega) (by omega) (lim_le e_72 (by omega)) hDd.2.2 (Nat.mul_pos (by omega) (by omega)) (Nat.le_of_lt hvs) htop5 (sd_R0 hval1 (by rw [show sh + md + 2 = z1 by omega]; exact isD_lt hD1) hv2ge (by omega)) hval1.symm (by omega) (by omega) (show B_86.1 ≤ MC by omega) (show B_86.2 ≤ MS by omega)) (fun _ _ => cwV 1 hts (tb_good (tb_cons wm463 (tb_cons wm465 (tb_cons ws5 (tb_cons wm4 k_Di_divideScaled))))) rfl rfl rfl (by decide +kernel) ⟨by rw [hRf]; exact Nat.le_of_ble_eq_true rfl, by rw [hRl]; exact Nat.le_of_ble_eq_true rfl⟩) f_100 rfl (show B_86.1 ≤ MC by omega) (show B_86.2 ≤ MS by omega) rfl (Nat.le_of_ble_eq_true rfl) d_Di_divide_117) (fun G_109 B_110 p_111 => ?_)
          obtain ⟨a7, z7, f7, g7, q1, q2, q3, q4, q5, q6, q7, q8, q9, q10, q11⟩ := p_111
          have q10 : B_110.1 + (κ 0) ≤ B_86.1 + gcap (κ 0) (sh + 1) := q10
          have q11 : B_110.2 + 2 * (κ 0) ≤ B_86.2 + 2 * gcap (κ 0) (sh + 1) := q11
          have f_112 : G_109 hd = some (30, .inr (2, [.ref (ad 0), .ref (ad 1), .ref (ad 2)])) := q9 _ _ f_100 (by simp)
          have f_113 : G_109 h1 = some (ta, .inr (4, [.ref a1, .int (nI z1)])) := q9 _ _ f_103 (by omega)
          have f_114 : G_109 a1 = some (ta, .inl (cA 0, (κa), .inl f1)) := q9 _ _ f_104 (by omega)
          have f_115 : G_109 h2 = some (tb, .inr (4, [.ref a2, .int (nI (md + 2))])) := q9 _ _ f_105 (by omega)
          have f_116 : G_109 a2 = some (tb, .inl (cA 0, (κb), .inl f2)) := q9 _ _ f_106 (by omega)
          have f_117 : G_109 (ad 2) = some (2, .inr (4, [.ref a_88, .int (nI (md + 2))])) := q9 _ _ hhdv (by simp)
          have f_118 : G_109 a_88 = some (2, .inl (cA 0, (gcap (κ 2) (md + 2 + 1)), .inl g_90)) := q9 _ _ e_92 (by simp)
          refine gs (pc' := 121) (fun _ _ _ _ _ hl => lv_aload_n hx hb d_Di_divide_120 rfl (lv_at hl 2 rfl)) ?_
          refine g_get hx hb hts hin_Di hown hK f_112 rfl 1 (by decide) (hts _ wm87) (fun _ h9 => h9) rfl d_Di_divide_121 ?_
          refine gs (pc' := 126) (fun _ _ _ _ _ hl => lv_iload hx hb d_Di_divide_124 (lv_at hl 0 rfl)) ?_
          refine g_outl hlo (g_runV (As := [.int (nI sc)]) (rest := []) ⟨hx, hb, hml, hown, hts⟩ hK hZ hRc hRs (c_Na_reduce l D cA lo MC MS G_109 B_110 1 (ad 1) a_62 (md + 2) (gcap (κ 1) (z1 + 1)) g7 q5 q6 (by omega) (by omega) ((v1 * sc) % (v2 * sc)) sc q7 q8 (by omega) (by omega) (show B_110.1 ≤ MC by omega) (show B_110.2 ≤ MS by omega)) (fun _ _ => cwV 1 hts (tb_good (tb_cons wm453 (tb_cons wm454 (tb_cons wm455 (tb_cons wm5 k_Na_reduce))))) rfl rfl rfl (by decide +kernel) ⟨by rw [hRf]; exact Nat.le_of_ble_eq_true rfl, by rw [hRl]; exact Nat.le_of_ble_eq_true rfl⟩) q5 rfl (show B_110.1 ≤ MC by omega) (show B_110.2 ≤ MS by omega) rfl (Nat.le_of_ble_eq_true rfl) d_Di_divide_126) (fun r_122 G_119 B_120 p_121 => ?_)
          obtain ⟨e_125, e_126, z_123, g_124, e_127, e_128, e_129, e_130, e_131⟩ := p_121
          subst e_125
          have e_126 : B_110 = B_120 := (show B_120 = B_110 from e_126).symm
          subst e_126
          have f_132 : G_119 hd = some (30, .inr (2, [.ref (ad 0), .ref (ad 1), .ref (ad 2)])) := e_131 _ _ f_112 (by simp)
          have f_133 : G_119 h1 = some (ta, .inr (4, [.ref a1, .int (nI z1)])) := e_131 _ _ f_113 nta1
          have f_134 : G_119 a1 = some (ta, .inl (cA 0, (κa), .inl f1)) := e_131 _ _ f_114 nta1
          have f_135 : G_119 h2 = some (tb, .inr (4, [.ref a2, .int (nI (md + 2))])) := e_131 _ _ f_115 ntb1
          have f_136 : G_119 a2 = some (tb, .inl (cA 0, (κb), .inl f2)) := e_131 _ _ f_116 ntb1
          have f_137 : G_119 (ad 2) = some (2, .inr (4, [.ref a_88, .int (nI (md + 2))])) := e_131 _ _ f_117 (by simp)
          have f_138 : G_119 a_88 = some (2, .inl (cA 0, (gcap (κ 2) (md + 2 + 1)), .inl g_90)) := e_131 _ _ f_118 (by simp)
          have f_139 : G_119 (ad 0) = some (0, .inr (4, [.ref a7, .int (nI z7)])) := e_131 _ _ q1 (by simp)
          have f_140 : G_119 a7 = some (0, .inl (cA 0, (gcap (κ 0) (sh + 1)), .inl f7)) := e_131 _ _ q2 (by simp)
          refine gs (pc' := 130) (fun _ _ _ _ _ hl => lv_pop2_2 hx hb d_Di_divide_129 rfl) ?_
          have hqr := sd_qr (a := v1) (b := v2) (show 0 < sc by omega)
          have hfrX : gfr (fun x => x < 3) G G_119 := gfr_mono (gfr_tr (gfr_tr (gfr_tr e_69 e_95) q9) e_131) (fun _ h => by omega)
          obtain ⟨V1, hs, e0, e1⟩ := w2_three (u := (G_119, B_110)) hκ hb1 hb2 hfrX ⟨_, _, _, f_139, f_140, by omega, q4⟩ ⟨_, _, _, e_127, e_128, by omega, e_130⟩ ⟨_, _, _, f_137, f_138, by omega, hDd⟩ (by omega) (by omega) (by omega) (by show B_110.1 + _ + _ + _ ≤ _; omega) (by show B_110.2 + _ + _ + _ ≤ _; omega)
          exact hret 130 _ _ _ d_Di_divide_130 (show B_110.1 ≤ MC by omega) (show B_110.2 ≤ MS by omega) ⟨V1, hs, e0.trans hqr.1, e1.trans hqr.2⟩
        · skip
          have nc_56 : (zb + 1) = 1 := (nn_ne (a := (zb + 1)) (b := 1) (by omega) (by omega)).2 c_56
          have hzb0 : zb = 0 := by omega
          subst hzb0
          have hv2e : v2 = df f2 0 := by rw [← hD2.2.2]; simp [dv]
          refine gs (pc' := 51) (fun _ _ _ _ _ hl => lv_aload_n hx hb d_Di_divide_50 rfl (lv_at hl 1 rfl)) ?_
          refine g_get hx hb hts hin_Di hown hK hhd rfl 0 (by decide) (hts _ wm85) (fun _ h9 => h9) rfl d_Di_divide_51 ?_
          refine gs (pc' := 55) (fun _ _ _ _ _ hl => lv_aload_n hx hb d_Di_divide_54 rfl (lv_at hl 2 rfl)) ?_
          have gg_141 := gcap_3 (c := (κ 0)) (k := z1) (by omega) (by omega)
          have gg_142 := gcap_ge (κ 0) z1
          refine g_outv hlo (g_runV (As := [.ref h1]) (rest := []) ⟨hx, hb, hml, hown, hts⟩ hK hZ hRc hRs (c_Na_setTo l D cA lo MC MS G B 0 (ad 0) b0 (κ 0) (nI y0) p0 gh0 ga0 (by omega) ta h1 a1 z1 (κa) f1 hh1 ha1 (by omega) (by omega) v1 nta0 hD1 (by omega) (by omega) (show B.1 ≤ MC by omega) (show B.2 ≤ MS by omega)) (fun _ _ => cwV 1 hts (tb_good (tb_cons wm452 (tb_cons wm408 (tb_cons wm409 (tb_cons wm5 k_Na_setTo))))) rfl rfl rfl (by decide +kernel) ⟨by rw [hRf]; exact Nat.le_of_ble_eq_true rfl, by rw [hRl]; exact Nat.le_of_ble_eq_true rfl⟩) gh0 rfl (show B.1 ≤ MC by omega) (show B.2 ≤ MS by omega) rfl (Nat.le_of_ble_eq_true rfl) d_Di_divide_55) (fun G_143 B_144 p_145 => ?_)
          obtain ⟨a_146, z_147, g_148, e_149, e_150, e_151, e_152, e_153, e_154, e_155⟩ := p_145
          have e_154 : B_144.1 + (κ 0) ≤ B.1 + gcap (κ 0) z1 := e_154
          have e_155 : B_144.2 + 2 * (κ 0) ≤ B.2 + 2 * gcap (κ 0) z1 := e_155
          have f_158 : G_143 hd = some (30, .inr (2, [.ref (ad 0), .ref (ad 1), .ref (ad 2)])) := e_153 _ _ hhd (by simp)
          have f_159 : G_143 (ad 1) = some (1, .inr (4, [.ref b1, .int (nI y1)])) := e_153 _ _ gh1 (by simp)
          have f_160 : G_143 b1 = some (1, .inl (cA 0, (κ 1), .inl p1)) := e_153 _ _ ga1 (by simp)
          have f_161 : G_143 (ad 2) = some (2, .inr (4, [.ref b2, .int (nI y2)])) := e_153 _ _ gh2 (by simp)
          have f_162 : G_143 b2 = some (2, .inl (cA 0, (κ 2), .inl p2)) := e_153 _ _ ga2 (by simp)
          have f_163 : G_143 h1 = some (ta, .inr (4, [.ref a1, .int (nI z1)])) := e_153 _ _ hh1 nta0
          have f_164 : G_143 a1 = some (ta, .inl (cA 0, (κa), .inl f1)) := e_153 _ _ ha1 nta0
          have f_165 : G_143 h2 = some (tb, .inr (4, [.ref a2, .int (nI (0 + 1))])) := e_153 _ _ hh2 ntb0
          have f_166 : G_143 a2 = some (tb, .inl (cA 0, (κb), .inl f2)) := e_153 _ _ ha2 ntb0
          refine gs (pc' := 59) (fun _ _ _ _ _ hl => lv_aload_n hx hb d_Di_divide_58 rfl (lv_at hl 1 rfl)) ?_
          refine g_get hx hb hts hin_Di hown hK f_158 rfl 1 (by decide) (hts _ wm87) (fun _ h9 => h9) rfl d_Di_divide_59 ?_
          refine gs (pc' := 63) (fun _ _ _ _ _ hl => lv_aload_n hx hb d_Di_divide_62 rfl (lv_at hl 1 rfl)) ?_
          refine g_get hx hb hts hin_Di hown hK f_158 rfl 0 (by decide) (hts _ wm85) (fun _ h9 => h9) rfl d_Di_divide_63 ?_
          refine gs (pc' := 67) (fun _ _ _ _ _ hl => lv_iload_n hx hb d_Di_divide_66 rfl (lv_at hl 0 rfl)) ?_
          refine g_outl hlo (g_runV (As := [.int (nI (df f2 0))]) (rest := [.ref (ad 1)]) ⟨hx, hb, hml, hown, hts⟩ hK hZ hRc hRs (c_Na_reduce l D cA lo MC MS G_143 B_144 0 (ad 0) a_146 z_147 (gcap (κ 0) z1) g_148 e_149 e_150 (by omega) (by omega) v1 (df f2 0) e_152.1 e_152.2.2 (by omega) (by omega) (show B_144.1 ≤ MC by omega) (show B_144.2 ≤ MS by omega)) (fun _ _ => cwV 1 hts (tb_good (tb_cons wm453 (tb_cons wm454 (tb_cons wm455 (tb_cons wm5 k_Na_reduce))))) rfl rfl rfl (by decide +kernel) ⟨by rw [hRf]; exact Nat.le_of_ble_eq_true rfl, by rw [hRl]; exact Nat.le_of_ble_eq_true rfl⟩) e_149 rfl (show B_144.1 ≤ MC by omega) (show B_144.2 ≤ MS by omega) rfl (Nat.le_of_ble_eq_true rfl) d_Di_divide_67) (fun r_170 G_167 B_168 p_169 => ?_)
          obtain ⟨e_173, e_174, z_171, g_172, e_175, e_176, e_177, e_178, e_179⟩ := p_169
          subst e_173
          have e_174 : B_144 = B_168 := (show B_168 = B_144 from e_174).symm
          subst e_174
          have f_180 : G_167 hd = some (30, .inr (2, [.ref (ad 0), .ref (ad 1), .ref (ad 2)])) := e_179 _ _ f_158 (by simp)
          have f_181 : G_167 (ad 1) = some (1, .inr (4, [.ref b1, .int (nI y1)])) := e_179 _ _ f_159 (by simp)
          have f_182 : G_167 b1 = some (1, .inl (cA 0, (κ 1), .inl p1)) := e_179 _ _ f_160 (by simp)
          have f_183 : G_167 (ad 2) = some (2, .inr (4, [.ref b2, .int (nI y2)])) := e_179 _ _ f_161 (by simp)
          have f_184 : G_167 b2 = some (2, .inl (cA 0, (κ 2), .inl p2)) := e_179 _ _ f_162 (by simp)
          have f_185 : G_167 h1 = some (ta, .inr (4, [.ref a1, .int (nI z1)])) := e_179 _ _ f_163 nta0
          have f_186 : G_167 a1 = some (ta, .inl (cA 0, (κa), .inl f1)) := e_179 _ _ f_164 nta0
          have f_187 : G_167 h2 = some (tb, .inr (4, [.ref a2, .int (nI (0 + 1))])) := e_179 _ _ f_165 ntb0
          have f_188 : G_167 a2 = some (tb, .inl (cA 0, (κb), .inl f2)) := e_179 _ _ f_166 ntb0
          have hmlt := Nat.mod_lt v1 (show 0 < df f2 0 by omega)
          have gg_189 := gcap_3 (c := (κ 1)) (k := 3) (by omega) (by omega)
          have gg_190 := gcap_ge (κ 1) 3
          refine g_outv hlo (g_runV (As := [.long (lN (v1 % (df f2 0)))]) (rest := []) ⟨hx, hb, hml, hown, hts⟩ hK hZ hRc hRs (c_Na_setMagnitude l D cA lo MC MS G_167 B_144 1 (ad 1) b1 (κ 1) (nI y1) p1 f_181 f_182 (by omega) (lN (v1 % (df f2 0))) (by omega) (by omega) (show B_144.1 ≤ MC by omega) (show B_144.2 ≤ MS by omega)) (fun _ _ => cwV 1 hts (tb_good (tb_cons wm457 (tb_cons wm185 (tb_cons wm186 (tb_cons wm5 k_Na_setMagnitude))))) rfl rfl rfl (by decide +kernel) ⟨by rw [hRf]; exact Nat.le_of_ble_eq_true rfl, by rw [hRl]; exact Nat.le_of_ble_eq_true rfl⟩) f_181 rfl (show B_144.1 ≤ MC by omega) (show B_144.2 ≤ MS by omega) rfl (Nat.le_of_ble_eq_true rfl) d_Di_divide_70) (fun G_191 B_192 p_193 => ?_)
          obtain ⟨a_194, z_195, g_196, e_197, e_198, e_199, e_200, e_201, e_202, e_203⟩ := p_193
          have e_202 : B_192.1 + (κ 1) ≤ B_144.1 + gcap (κ 1) 3 := e_202
          have e_203 : B_192.2 + 2 * (κ 1) ≤ B_144.2 + 2 * gcap (κ 1) 3 := e_203
          have f_206 : G_191 hd = some (30, .inr (2, [.ref (ad 0), .ref (ad 1), .ref (ad 2)])) := e_201 _ _ f_180 (by simp)
          have f_207 : G_191 (ad 2) = some (2, .inr (4, [.ref b2, .int (nI y2)])) := e_201 _ _ f_183 (by simp)
          have f_208 : G_191 b2 = some (2, .inl (cA 0, (κ 2), .inl p2)) := e_201 _ _ f_184 (by simp)
          have f_209 : G_191 h1 = some (ta, .inr (4, [.ref a1, .int (nI z1)])) := e_201 _ _ f_185 nta1
          have f_210 : G_191 a1 = some (ta, .inl (cA 0, (κa), .inl f1)) := e_201 _ _ f_186 nta1
          have f_211 : G_191 h2 = some (tb, .inr (4, [.ref a2, .int (nI (0 + 1))])) := e_201 _ _ f_187 ntb1
          have f_212 : G_191 a2 = some (tb, .inl (cA 0, (κb), .inl f2)) := e_201 _ _ f_188 ntb1
          have f_213 : G_191 (ad 0) = some (0, .inr (4, [.ref a_146, .int (nI z_171)])) := e_201 _ _ e_175 (by simp)
          have f_214 : G_191 a_146 = some (0, .inl (cA 0, (gcap (κ 0) z1), .inl g_172)) := e_201 _ _ e_176 (by simp)
          refine gs (pc' := 130) (fun _ _ _ _ _ hl => lv_goto (tgt := 130) hx hb d_Di_divide_73 (by decide)) ?_
          have hfrX : gfr (fun x => x < 3) G G_191 := gfr_mono (gfr_tr (gfr_tr e_153 e_179) e_201) (fun _ h => by omega)
          obtain ⟨V1, hs, e0, e1⟩ := w2_three (u := (G_191, B_192)) hκ hb1 hb2 hfrX ⟨_, _, _, f_213, f_214, by omega, e_178⟩ ⟨_, _, _, e_197, e_198, by omega, e_200⟩ ⟨b2, y2, p2, f_207, f_208, gz2, gD2⟩ (by omega) (by omega) (by omega) (by show B_192.1 + _ + _ + _ ≤ _; omega) (by show B_192.2 + _ + _ + _ ≤ _; omega)
          exact hret 130 _ _ _ d_Di_divide_130 (show B_192.1 ≤ MC by omega) (show B_192.2 ≤ MS by omega) ⟨V1, hs, e0.trans (by rw [hv2e]), e1.trans ((lN_natAbs (by omega)).trans (by rw [hv2e]))⟩
      · skip
        have nc_55 : 0 < 0 := (n0_ge (a := 0) (by omega)).2 c_55
        exact absurd nc_55 (by omega)
    · skip
      subst hc9
      have hge : v2 ≤ v1 := by omega
      refine gsb (pc1 := 42) (pc2 := 23) (fun _ _ _ _ _ => lv_if_ge (tgt := 42) hx hb d_Di_divide_20 (by decide)) (fun c_215 => ?_) (fun c_215 => ?_)
      · skip
        have nc_215 : 1 ≥ 0 := (n0_ge (a := 1) (by omega)).1 c_215
        refine gs (pc' := 43) (fun _ _ _ _ _ hl => lv_aload_n hx hb d_Di_divide_42 rfl (lv_at hl 3 rfl)) ?_
        refine g_get hx hb hts hin_Na hown hK hh2 rfl 1 (by decide) (hts _ wm76) (fun _ h9 => h9) rfl d_Di_divide_43 ?_
        refine gs (pc' := 47) (fun _ _ _ _ _ hl => lv_iconst (v := nI 1) hx hb d_Di_divide_46 (by decide)) ?_
        refine gsb (pc1 := 76) (pc2 := 50) (fun _ _ _ _ _ => lv_icmp_ne (tgt := 76) hx hb d_Di_divide_47 (by decide)) (fun c_216 => ?_) (fun c_216 => ?_)
        · skip
          have nc_216 : (zb + 1) ≠ 1 := (nn_ne (a := (zb + 1)) (b := 1) (by omega) (by omega)).1 c_216
          obtain ⟨md, hmd⟩ : ∃ md, zb = md + 1 := ⟨zb - 1, by omega⟩
          subst hmd
          have hv2ge : 1000000000 ^ (md + 1) ≤ v2 := isD_ge hD2 (by omega)
          have hzz : md + 2 ≤ z1 := isD_size hD2 (Nat.lt_of_le_of_lt hge (isD_lt hD1))
          obtain ⟨sh, hsh⟩ : ∃ sh, z1 = sh + md + 2 := ⟨z1 - (md + 2), by omega⟩
          obtain ⟨sc, hsc⟩ : ∃ sc, sc = 1000000000 / (df f2 (md + 1) + 1) := ⟨_, rfl⟩
          have hks := kd_scale (by omega) htopB hsc
          have hscB : sc ≤ 500000000 := by have := Nat.mul_le_mul_left sc (show 2 ≤ df f2 (md + 1) + 1 by omega); have := hks.2.1; omega
          have hvs := sd_lt hD2 hks.2.1 (by omega)
          refine gs (pc' := 79) (fun _ _ _ _ _ hl => lv_ldc2 (v := 1000000000) hx hb hown (hts _ wm458) d_Di_divide_76) ?_
          refine g_eql (show 1000000000 = lN 1000000000 from rfl) ?_
          refine gs (pc' := 80) (fun _ _ _ _ _ hl => lv_iload_n hx hb d_Di_divide_79 rfl (lv_at hl 0 rfl)) ?_
          refine gs (pc' := 81) (fun _ _ _ _ _ hl => lv_i2l (v := lN (df f2 (md + 1))) hx hb d_Di_divide_80 (nI_l (by omega))) ?_
          refine gs (pc' := 82) (fun _ _ _ _ _ hl => lv_lconst (v := lN 1) hx hb d_Di_divide_81 (by decide)) ?_
          refine gs (pc' := 83) (fun _ _ _ _ _ hl => lv_ladd hx hb d_Di_divide_82) ?_
          refine g_eql (show (lN (df f2 (md + 1))) + (lN 1) = lN ((df f2 (md + 1)) + 1) from lN_add _ _) ?_
          refine gs (pc' := 84) (fun _ _ _ _ _ hl => lv_ldiv hx hb d_Di_divide_83 (fun e => absurd ((pk_lEQ (by omega) (by omega)).mp (e.trans (show _ = lN 0 from rfl))) (by omega))) ?_
          refine g_eql (show (lN 1000000000) / (lN ((df f2 (md + 1)) + 1)) = lN (1000000000 / ((df f2 (md + 1)) + 1)) from pk_lDiv (by omega) (by omega) (by omega)) ?_
          refine g_eql (show lN (1000000000 / ((df f2 (md + 1)) + 1)) = lN sc from congrArg lN hsc.symm) ?_
          refine gs (pc' := 85) (fun _ _ _ _ _ hl => lv_l2i (v := nI sc) hx hb d_Di_divide_84 (lN_i _)) ?_
          refine gst (pc' := 87) (L' := [(4, .int (nI sc)), (3, .int (nI (df f2 (md + 1)))), (0, .ref hd), (1, .ref h1), (2, .ref h2)]) (fun _ _ _ _ _ hl => lv_istore hx hb d_Di_divide_85 hl (by decide) rfl) ?_
          refine gs (pc' := 88) (fun _ _ _ _ _ hl => lv_aload_n hx hb d_Di_divide_87 rfl (lv_at hl 2 rfl)) ?_
          refine g_get hx hb hts hin_Di hown hK hhd rfl 1 (by decide) (hts _ wm87) (fun _ h9 => h9) rfl d_Di_divide_88 ?_
          refine gs (pc' := 92) (fun _ _ _ _ _ hl => lv_aload_n hx hb d_Di_divide_91 rfl (lv_at hl 3 rfl)) ?_
          refine gs (pc' := 94) (fun _ _ _ _ _ hl => lv_iload hx hb d_Di_divide_92 (lv_at hl 0 rfl)) ?_
          have gg_217 := gcap_3 (c := (κ 1)) (k := (z1 + 1)) (by omega) (by omega)
          have gg_218 := gcap_ge (κ 1) (z1 + 1)
          refine g_outv hlo (g_runV (As := [.ref h1, .int (nI sc)]) (rest := []) ⟨hx, hb, hml, hown, hts⟩ hK hZ hRc hRs (c_Na_setScaled l D cA lo MC MS G B 1 (ad 1) b1 (κ 1) (nI y1) p1 gh1 ga1 (by omega) ta h1 a1 z1 (κa) f1 hh1 ha1 (by omega) (by omega) v1 (sc) nta1 hD1 (by omega) (by omega) (by omega) (by omega) (show B.1 ≤ MC by omega) (show B.2 ≤ MS by omega)) (fun _ _ => cwV 2 hts (tb_good (tb_cons wm459 (tb_cons wm460 (tb_cons wm461 (tb_cons wm5 k_Na_setScaled))))) rfl rfl rfl (by decide +kernel) ⟨by rw [hRf]; exact Nat.le_of_ble_eq_true rfl, by rw [hRl]; exact Nat.le_of_ble_eq_true rfl⟩) gh1 rfl (show B.1 ≤ MC by omega) (show B.2 ≤ MS by omega) rfl (Nat.le_of_ble_eq_true rfl) d_Di_divide_94) (fun G_219 B_220 p_221 => ?_)
          obtain ⟨a_222, z_223, g_224, e_225, e_226, e_227, e_228, e_232, e_233, e_229, e_230, e_231⟩ := p_221
          have e_230 : B_220.1 + (κ 1) ≤ B.1 + gcap (κ 1) (z1 + 1) := e_230
          have e_231 : B_220.2 + 2 * (κ 1) ≤ B.2 + 2 * gcap (κ 1) (z1 + 1) := e_231
          have f_234 : G_219 hd = some (30, .inr (2, [.ref (ad 0), .ref (ad 1), .ref (ad 2)])) := e_229 _ _ hhd (by simp)
          have f_235 : G_219 (ad 0) = some (0, .inr (4, [.ref b0, .int (nI y0)])) := e_229 _ _ gh0 (by simp)
          have f_236 : G_219 b0 = some (0, .inl (cA 0, (κ 0), .inl p0)) := e_229 _ _ ga0 (by simp)
          have f_237 : G_219 (ad 2) = some (2, .inr (4, [.ref b2, .int (nI y2)])) := e_229 _ _ gh2 (by simp)
          have f_238 : G_219 b2 = some (2, .inl (cA 0, (κ 2), .inl p2)) := e_229 _ _ ga2 (by simp)
          have f_239 : G_219 h1 = some (ta, .inr (4, [.ref a1, .int (nI z1)])) := e_229 _ _ hh1 nta1
          have f_240 : G_219 a1 = some (ta, .inl (cA 0, (κa), .inl f1)) := e_229 _ _ ha1 nta1
          have f_241 : G_219 h2 = some (tb, .inr (4, [.ref a2, .int (nI (md + 2))])) := e_229 _ _ hh2 ntb1
          have f_242 : G_219 a2 = some (tb, .inl (cA 0, (κb), .inl f2)) := e_229 _ _ ha2 ntb1
          have hval1 : dv (df g_224) (sh + md + 3) = v1 * sc := by rw [← e_233]; congr 1; omega
          refine gs (pc' := 98) (fun _ _ _ _ _ hl => lv_aload_n hx hb d_Di_divide_97 rfl (lv_at hl 2 rfl)) ?_
          refine g_get hx hb hts hin_Di hown hK f_234 rfl 2 (by decide) (hts _ wm90) (fun _ h9 => h9) rfl d_Di_divide_98 ?_
          refine gs (pc' := 102) (fun _ _ _ _ _ hl => lv_aload_n hx hb d_Di_divide_101 rfl (lv_at hl 4 rfl)) ?_
          refine gs (pc' := 104) (fun _ _ _ _ _ hl => lv_iload hx hb d_Di_divide_102 (lv_at hl 0 rfl)) ?_
          have gg_243 := gcap_3 (c := (κ 2)) (k := (md + 2 + 1)) (by omega) (by omega)
          have gg_244 := gcap_ge (κ 2) (md + 2 + 1)
          refine g_outv hlo (g_runV (As := [.ref h2, .int (nI sc)]) (rest := []) ⟨hx, hb, hml, hown, hts⟩ hK hZ hRc hRs (c_Na_setScaled l D cA lo MC MS G_219 B_220 2 (ad 2) b2 (κ 2) (nI y2) p2 f_237 f_238 (by omega) tb h2 a2 (md + 2) (κb) f2 f_241 f_242 (by omega) (by omega) v2 (sc) ntb2 hD2 (by omega) (by omega) (by omega) (by omega) (show B_220.1 ≤ MC by omega) (show B_220.2 ≤ MS by omega)) (fun _ _ => cwV 2 hts (tb_good (tb_cons wm459 (tb_cons wm460 (tb_cons wm461 (tb_cons wm5 k_Na_setScaled))))) rfl rfl rfl (by decide +kernel) ⟨by rw [hRf]; exact Nat.le_of_ble_eq_true rfl, by rw [hRl]; exact Nat.le_of_ble_eq_true rfl⟩) f_237 rfl (show B_220.1 ≤ MC by omega) (show B_220.2 ≤ MS by omega) rfl (Nat.le_of_ble_eq_true rfl) d_Di_divide_104) (fun G_245 B_246 p_247 => ?_)
          obtain ⟨a_248, z_249, g_250, e_251, e_252, e_253, e_254, e_258, e_259, e_255, e_256, e_257⟩ := p_247
          have e_256 : B_246.1 + (κ 2) ≤ B_220.1 + gcap (κ 2) (md + 2 + 1) := e_256
          have e_257 : B_246.2 + 2 * (κ 2) ≤ B_220.2 + 2 * gcap (κ 2) (md + 2 + 1) := e_257
          have f_260 : G_245 hd = some (30, .inr (2, [.ref (ad 0), .ref (ad 1), .ref (ad 2)])) := e_255 _ _ f_234 (by simp)
          have f_261 : G_245 (ad 0) = some (0, .inr (4, [.ref b0, .int (nI y0)])) := e_255 _ _ f_235 (by simp)
          have f_262 : G_245 b0 = some (0, .inl (cA 0, (κ 0), .inl p0)) := e_255 _ _ f_236 (by simp)
          have f_263 : G_245 h1 = some (ta, .inr (4, [.ref a1, .int (nI z1)])) := e_255 _ _ f_239 nta2
          have f_264 : G_245 a1 = some (ta, .inl (cA 0, (κa), .inl f1)) := e_255 _ _ f_240 nta2
          have f_265 : G_245 h2 = some (tb, .inr (4, [.ref a2, .int (nI (md + 2))])) := e_255 _ _ f_241 ntb2
          have f_266 : G_245 a2 = some (tb, .inl (cA 0, (κb), .inl f2)) := e_255 _ _ f_242 ntb2
          have f_267 : G_245 (ad 1) = some (1, .inr (4, [.ref a_222, .int (nI z_223)])) := e_255 _ _ e_225 (by simp)
          have f_268 : G_245 a_222 = some (1, .inl (cA 0, (gcap (κ 1) (z1 + 1)), .inl g_224)) := e_255 _ _ e_226 (by simp)
          have hDd := e_254
          have hsd := sd_top hD2 hks.2.2 hDd hvs
          have hzd := hsd.1
          have htop5 := hsd.2
          have hhdv : G_245 (ad 2) = some (2, .inr (4, [.ref a_248, .int (nI (md + 2))])) := by rw [← hzd]; exact e_251
          rw [hzd] at hDd
          have hgs := gcap_3 (c := κ 0) (k := sh + 1) (by omega) (by omega)
          have hgs2 := gcap_ge (κ 0) (sh + 1)
          refine gs (pc' := 108) (fun _ _ _ _ _ hl => lv_aload_n hx hb d_Di_divide_107 rfl (lv_at hl 2 rfl)) ?_
          refine gs (pc' := 109) (fun _ _ _ _ _ hl => lv_aload_n hx hb d_Di_divide_108 rfl (lv_at hl 3 rfl)) ?_
          refine g_get hx hb hts hin_Na hown hK f_263 rfl 1 (by decide) (hts _ wm76) (fun _ h9 => h9) rfl d_Di_divide_109 ?_
          refine gs (pc' := 113) (fun _ _ _ _ _ hl => lv_aload_n hx hb d_Di_divide_112 rfl (lv_at hl 4 rfl)) ?_
          refine g_get hx hb hts hin_Na hown hK f_265 rfl 1 (by decide) (hts _ wm76) (fun _ h9 => h9) rfl d_Di_divide_113 ?_
          refine gs (pc' := 117) (fun _ _ _ _ _ hl => lv_isub hx hb d_Di_divide_116) ?_
          refine g_eqi (show (nI z1) - (nI (md + 2)) = nI sh from (pk_sub (by omega)).trans (congrArg nI (show z1 - (md + 2) = sh by omega))) ?_
          refine g_outv hlo (g_runV (As := [.int (nI sh)]) (rest := []) ⟨hx, hb, hml, hown, hts⟩ hK hZ hRc hRs (c_Di_divideScaled l D cA lo MC MS G_245 B_246 30 hd (ad 0) (ad 1) (ad 2) f_260 2 a_248 (gcap (κ 2) (md + 2 + 1)) md g_250 hhdv e_252 (by omega) (by omega) (lim_le hDd.1 (by omega)) 1 a_222 (gcap (κ 1) (z1 + 1)) (nI z_223) g_224 f_267 f_268 (by omega) 0 b0 (κ 0) sh (v2 * sc) (v1 * sc) (nI y0) p0 f_261 f_262 (by omega) (by decide) (by decide) (by decide) (by decide) (by decide) (by decide) (by omega) (by omega) (lim_le e_232 (by omega)) hDd.2.2 (Nat.mul_pos (by omega) (by omega)) (Nat.le_of_lt hvs) htop5 (sd_R0 hval1 (by rw [show sh + md + 2 = z1 by omega]; exact isD_lt hD1) hv2ge (by omega)) hval1.symm (by omega) (by omega) (show B_246.1 ≤ MC by omega) (show B_246.2 ≤ MS by omega)) (fun _ _ => cwV 1 hts (tb_good (tb_cons wm463 (tb_cons wm465 (tb_cons ws5 (tb_cons wm4 k_Di_divideScaled))))) rfl rfl rfl (by decide +kernel) ⟨by rw [hRf]; exact Nat.le_of_ble_eq_true rfl, by rw [hRl]; exact Nat.le_of_ble_eq_true rfl⟩) f_260 rfl (show B_246.1 ≤ MC by omega) (show B_246.2 ≤ MS by omega) rfl (Nat.le_of_ble_eq_true rfl) d_Di_divide_117) (fun G_269 B_270 p_271 => ?_)
          obtain ⟨a7, z7, f7, g7, q1, q2, q3, q4, q5, q6, q7, q8, q9, q10, q11⟩ := p_271
          have q10 : B_270.1 + (κ 0) ≤ B_246.1 + gcap (κ 0) (sh + 1) := q10
          have q11 : B_270.2 + 2 * (κ 0) ≤ B_246.2 + 2 * gcap (κ 0) (sh + 1) := q11
          have f_272 : G_269 hd = some (30, .inr (2, [.ref (ad 0), .ref (ad 1), .ref (ad 2)])) := q9 _ _ f_260 (by simp)
          have f_273 : G_269 h1 = some (ta, .inr (4, [.ref a1, .int (nI z1)])) := q9 _ _ f_263 (by omega)
          have f_274 : G_269 a1 = some (ta, .inl (cA 0, (κa), .inl f1)) := q9 _ _ f_264 (by omega)
          have f_275 : G_269 h2 = some (tb, .inr (4, [.ref a2, .int (nI (md + 2))])) := q9 _ _ f_265 (by omega)
          have f_276 : G_269 a2 = some (tb, .inl (cA 0, (κb), .inl f2)) := q9 _ _ f_266 (by omega)
          have f_277 : G_269 (ad 2) = some (2, .inr (4, [.ref a_248, .int (nI (md + 2))])) := q9 _ _ hhdv (by simp)
          have f_278 : G_269 a_248 = some (2, .inl (cA 0, (gcap (κ 2) (md + 2 + 1)), .inl g_250)) := q9 _ _ e_252 (by simp)
          refine gs (pc' := 121) (fun _ _ _ _ _ hl => lv_aload_n hx hb d_Di_divide_120 rfl (lv_at hl 2 rfl)) ?_
          refine g_get hx hb hts hin_Di hown hK f_272 rfl 1 (by decide) (hts _ wm87) (fun _ h9 => h9) rfl d_Di_divide_121 ?_
          refine gs (pc' := 126) (fun _ _ _ _ _ hl => lv_iload hx hb d_Di_divide_124 (lv_at hl 0 rfl)) ?_
          refine g_outl hlo (g_runV (As := [.int (nI sc)]) (rest := []) ⟨hx, hb, hml, hown, hts⟩ hK hZ hRc hRs (c_Na_reduce l D cA lo MC MS G_269 B_270 1 (ad 1) a_222 (md + 2) (gcap (κ 1) (z1 + 1)) g7 q5 q6 (by omega) (by omega) ((v1 * sc) % (v2 * sc)) sc q7 q8 (by omega) (by omega) (show B_270.1 ≤ MC by omega) (show B_270.2 ≤ MS by omega)) (fun _ _ => cwV 1 hts (tb_good (tb_cons wm453 (tb_cons wm454 (tb_cons wm455 (tb_cons wm5 k_Na_reduce))))) rfl rfl rfl (by decide +kernel) ⟨by rw [hRf]; exact Nat.le_of_ble_eq_true rfl, by rw [hRl]; exact Nat.le_of_ble_eq_true rfl⟩) q5 rfl (show B_270.1 ≤ MC by omega) (show B_270.2 ≤ MS by omega) rfl (Nat.le_of_ble_eq_true rfl) d_Di_divide_126) (fun r_282 G_279 B_280 p_281 => ?_)
          obtain ⟨e_285, e_286, z_283, g_284, e_287, e_288, e_289, e_290, e_291⟩ := p_281
          subst e_285
          have e_286 : B_270 = B_280 := (show B_280 = B_270 from e_286).symm
          subst e_286
          have f_292 : G_279 hd = some (30, .inr (2, [.ref (ad 0), .ref (ad 1), .ref (ad 2)])) := e_291 _ _ f_272 (by simp)
          have f_293 : G_279 h1 = some (ta, .inr (4, [.ref a1, .int (nI z1)])) := e_291 _ _ f_273 nta1
          have f_294 : G_279 a1 = some (ta, .inl (cA 0, (κa), .inl f1)) := e_291 _ _ f_274 nta1
          have f_295 : G_279 h2 = some (tb, .inr (4, [.ref a2, .int (nI (md + 2))])) := e_291 _ _ f_275 ntb1
          have f_296 : G_279 a2 = some (tb, .inl (cA 0, (κb), .inl f2)) := e_291 _ _ f_276 ntb1
          have f_297 : G_279 (ad 2) = some (2, .inr (4, [.ref a_248, .int (nI (md + 2))])) := e_291 _ _ f_277 (by simp)
          have f_298 : G_279 a_248 = some (2, .inl (cA 0, (gcap (κ 2) (md + 2 + 1)), .inl g_250)) := e_291 _ _ f_278 (by simp)
          have f_299 : G_279 (ad 0) = some (0, .inr (4, [.ref a7, .int (nI z7)])) := e_291 _ _ q1 (by simp)
          have f_300 : G_279 a7 = some (0, .inl (cA 0, (gcap (κ 0) (sh + 1)), .inl f7)) := e_291 _ _ q2 (by simp)
          refine gs (pc' := 130) (fun _ _ _ _ _ hl => lv_pop2_2 hx hb d_Di_divide_129 rfl) ?_
          have hqr := sd_qr (a := v1) (b := v2) (show 0 < sc by omega)
          have hfrX : gfr (fun x => x < 3) G G_279 := gfr_mono (gfr_tr (gfr_tr (gfr_tr e_229 e_255) q9) e_291) (fun _ h => by omega)
          obtain ⟨V1, hs, e0, e1⟩ := w2_three (u := (G_279, B_270)) hκ hb1 hb2 hfrX ⟨_, _, _, f_299, f_300, by omega, q4⟩ ⟨_, _, _, e_287, e_288, by omega, e_290⟩ ⟨_, _, _, f_297, f_298, by omega, hDd⟩ (by omega) (by omega) (by omega) (by show B_270.1 + _ + _ + _ ≤ _; omega) (by show B_270.2 + _ + _ + _ ≤ _; omega)
          exact hret 130 _ _ _ d_Di_divide_130 (show B_270.1 ≤ MC by omega) (show B_270.2 ≤ MS by omega) ⟨V1, hs, e0.trans hqr.1, e1.trans hqr.2⟩
        · skip
          have nc_216 : (zb + 1) = 1 := (nn_ne (a := (zb + 1)) (b := 1) (by omega) (by omega)).2 c_216
          have hzb0 : zb = 0 := by omega
          subst hzb0
          have hv2e : v2 = df f2 0 := by rw [← hD2.2.2]; simp [dv]
          refine gs (pc' := 51) (fun _ _ _ _ _ hl => lv_aload_n hx hb d_Di_divide_50 rfl (lv_at hl 1 rfl)) ?_
          refine g_get hx hb hts hin_Di hown hK hhd rfl 0 (by decide) (hts _ wm85) (fun _ h9 => h9) rfl d_Di_divide_51 ?_
          refine gs (pc' := 55) (fun _ _ _ _ _ hl => lv_aload_n hx hb d_Di_divide_54 rfl (lv_at hl 2 rfl)) ?_
          have gg_301 := gcap_3 (c := (κ 0)) (k := z1) (by omega) (by omega)
          have gg_302 := gcap_ge (κ 0) z1
          refine g_outv hlo (g_runV (As := [.ref h1]) (rest := []) ⟨hx, hb, hml, hown, hts⟩ hK hZ hRc hRs (c_Na_setTo l D cA lo MC MS G B 0 (ad 0) b0 (κ 0) (nI y0) p0 gh0 ga0 (by omega) ta h1 a1 z1 (κa) f1 hh1 ha1 (by omega) (by omega) v1 nta0 hD1 (by omega) (by omega) (show B.1 ≤ MC by omega) (show B.2 ≤ MS by omega)) (fun _ _ => cwV 1 hts (tb_good (tb_cons wm452 (tb_cons wm408 (tb_cons wm409 (tb_cons wm5 k_Na_setTo))))) rfl rfl rfl (by decide +kernel) ⟨by rw [hRf]; exact Nat.le_of_ble_eq_true rfl, by rw [hRl]; exact Nat.le_of_ble_eq_true rfl⟩) gh0 rfl (show B.1 ≤ MC by omega) (show B.2 ≤ MS by omega) rfl (Nat.le_of_ble_eq_true rfl) d_Di_divide_55) (fun G_303 B_304 p_305 => ?_)
          obtain ⟨a_306, z_307, g_308, e_309, e_310, e_311, e_312, e_313, e_314, e_315⟩ := p_305
          have e_314 : B_304.1 + (κ 0) ≤ B.1 + gcap (κ 0) z1 := e_314
          have e_315 : B_304.2 + 2 * (κ 0) ≤ B.2 + 2 * gcap (κ 0) z1 := e_315
          have f_318 : G_303 hd = some (30, .inr (2, [.ref (ad 0), .ref (ad 1), .ref (ad 2)])) := e_313 _ _ hhd (by simp)
          have f_319 : G_303 (ad 1) = some (1, .inr (4, [.ref b1, .int (nI y1)])) := e_313 _ _ gh1 (by simp)
          have f_320 : G_303 b1 = some (1, .inl (cA 0, (κ 1), .inl p1)) := e_313 _ _ ga1 (by simp)
          have f_321 : G_303 (ad 2) = some (2, .inr (4, [.ref b2, .int (nI y2)])) := e_313 _ _ gh2 (by simp)
          have f_322 : G_303 b2 = some (2, .inl (cA 0, (κ 2), .inl p2)) := e_313 _ _ ga2 (by simp)
          have f_323 : G_303 h1 = some (ta, .inr (4, [.ref a1, .int (nI z1)])) := e_313 _ _ hh1 nta0
          have f_324 : G_303 a1 = some (ta, .inl (cA 0, (κa), .inl f1)) := e_313 _ _ ha1 nta0
          have f_325 : G_303 h2 = some (tb, .inr (4, [.ref a2, .int (nI (0 + 1))])) := e_313 _ _ hh2 ntb0
          have f_326 : G_303 a2 = some (tb, .inl (cA 0, (κb), .inl f2)) := e_313 _ _ ha2 ntb0
          refine gs (pc' := 59) (fun _ _ _ _ _ hl => lv_aload_n hx hb d_Di_divide_58 rfl (lv_at hl 1 rfl)) ?_
          refine g_get hx hb hts hin_Di hown hK f_318 rfl 1 (by decide) (hts _ wm87) (fun _ h9 => h9) rfl d_Di_divide_59 ?_
          refine gs (pc' := 63) (fun _ _ _ _ _ hl => lv_aload_n hx hb d_Di_divide_62 rfl (lv_at hl 1 rfl)) ?_
          refine g_get hx hb hts hin_Di hown hK f_318 rfl 0 (by decide) (hts _ wm85) (fun _ h9 => h9) rfl d_Di_divide_63 ?_
          refine gs (pc' := 67) (fun _ _ _ _ _ hl => lv_iload_n hx hb d_Di_divide_66 rfl (lv_at hl 0 rfl)) ?_
          refine g_outl hlo (g_runV (As := [.int (nI (df f2 0))]) (rest := [.ref (ad 1)]) ⟨hx, hb, hml, hown, hts⟩ hK hZ hRc hRs (c_Na_reduce l D cA lo MC MS G_303 B_304 0 (ad 0) a_306 z_307 (gcap (κ 0) z1) g_308 e_309 e_310 (by omega) (by omega) v1 (df f2 0) e_312.1 e_312.2.2 (by omega) (by omega) (show B_304.1 ≤ MC by omega) (show B_304.2 ≤ MS by omega)) (fun _ _ => cwV 1 hts (tb_good (tb_cons wm453 (tb_cons wm454 (tb_cons wm455 (tb_cons wm5 k_Na_reduce))))) rfl rfl rfl (by decide +kernel) ⟨by rw [hRf]; exact Nat.le_of_ble_eq_true rfl, by rw [hRl]; exact Nat.le_of_ble_eq_true rfl⟩) e_309 rfl (show B_304.1 ≤ MC by omega) (show B_304.2 ≤ MS by omega) rfl (Nat.le_of_ble_eq_true rfl) d_Di_divide_67) (fun r_330 G_327 B_328 p_329 => ?_)
          obtain ⟨e_333, e_334, z_331, g_332, e_335, e_336, e_337, e_338, e_339⟩ := p_329
          subst e_333
          have e_334 : B_304 = B_328 := (show B_328 = B_304 from e_334).symm
          subst e_334
          have f_340 : G_327 hd = some (30, .inr (2, [.ref (ad 0), .ref (ad 1), .ref (ad 2)])) := e_339 _ _ f_318 (by simp)
          have f_341 : G_327 (ad 1) = some (1, .inr (4, [.ref b1, .int (nI y1)])) := e_339 _ _ f_319 (by simp)
          have f_342 : G_327 b1 = some (1, .inl (cA 0, (κ 1), .inl p1)) := e_339 _ _ f_320 (by simp)
          have f_343 : G_327 (ad 2) = some (2, .inr (4, [.ref b2, .int (nI y2)])) := e_339 _ _ f_321 (by simp)
          have f_344 : G_327 b2 = some (2, .inl (cA 0, (κ 2), .inl p2)) := e_339 _ _ f_322 (by simp)
          have f_345 : G_327 h1 = some (ta, .inr (4, [.ref a1, .int (nI z1)])) := e_339 _ _ f_323 nta0
          have f_346 : G_327 a1 = some (ta, .inl (cA 0, (κa), .inl f1)) := e_339 _ _ f_324 nta0
          have f_347 : G_327 h2 = some (tb, .inr (4, [.ref a2, .int (nI (0 + 1))])) := e_339 _ _ f_325 ntb0
          have f_348 : G_327 a2 = some (tb, .inl (cA 0, (κb), .inl f2)) := e_339 _ _ f_326 ntb0
          have hmlt := Nat.mod_lt v1 (show 0 < df f2 0 by omega)
          have gg_349 := gcap_3 (c := (κ 1)) (k := 3) (by omega) (by omega)
          have gg_350 := gcap_ge (κ 1) 3
          refine g_outv hlo (g_runV (As := [.long (lN (v1 % (df f2 0)))]) (rest := []) ⟨hx, hb, hml, hown, hts⟩ hK hZ hRc hRs (c_Na_setMagnitude l D cA lo MC MS G_327 B_304 1 (ad 1) b1 (κ 1) (nI y1) p1 f_341 f_342 (by omega) (lN (v1 % (df f2 0))) (by omega) (by omega) (show B_304.1 ≤ MC by omega) (show B_304.2 ≤ MS by omega)) (fun _ _ => cwV 1 hts (tb_good (tb_cons wm457 (tb_cons wm185 (tb_cons wm186 (tb_cons wm5 k_Na_setMagnitude))))) rfl rfl rfl (by decide +kernel) ⟨by rw [hRf]; exact Nat.le_of_ble_eq_true rfl, by rw [hRl]; exact Nat.le_of_ble_eq_true rfl⟩) f_341 rfl (show B_304.1 ≤ MC by omega) (show B_304.2 ≤ MS by omega) rfl (Nat.le_of_ble_eq_true rfl) d_Di_divide_70) (fun G_351 B_352 p_353 => ?_)
          obtain ⟨a_354, z_355, g_356, e_357, e_358, e_359, e_360, e_361, e_362, e_363⟩ := p_353
          have e_362 : B_352.1 + (κ 1) ≤ B_304.1 + gcap (κ 1) 3 := e_362
          have e_363 : B_352.2 + 2 * (κ 1) ≤ B_304.2 + 2 * gcap (κ 1) 3 := e_363
          have f_366 : G_351 hd = some (30, .inr (2, [.ref (ad 0), .ref (ad 1), .ref (ad 2)])) := e_361 _ _ f_340 (by simp)
          have f_367 : G_351 (ad 2) = some (2, .inr (4, [.ref b2, .int (nI y2)])) := e_361 _ _ f_343 (by simp)
          have f_368 : G_351 b2 = some (2, .inl (cA 0, (κ 2), .inl p2)) := e_361 _ _ f_344 (by simp)
          have f_369 : G_351 h1 = some (ta, .inr (4, [.ref a1, .int (nI z1)])) := e_361 _ _ f_345 nta1
          have f_370 : G_351 a1 = some (ta, .inl (cA 0, (κa), .inl f1)) := e_361 _ _ f_346 nta1
          have f_371 : G_351 h2 = some (tb, .inr (4, [.ref a2, .int (nI (0 + 1))])) := e_361 _ _ f_347 ntb1
          have f_372 : G_351 a2 = some (tb, .inl (cA 0, (κb), .inl f2)) := e_361 _ _ f_348 ntb1
          have f_373 : G_351 (ad 0) = some (0, .inr (4, [.ref a_306, .int (nI z_331)])) := e_361 _ _ e_335 (by simp)
          have f_374 : G_351 a_306 = some (0, .inl (cA 0, (gcap (κ 0) z1), .inl g_332)) := e_361 _ _ e_336 (by simp)
          refine gs (pc' := 130) (fun _ _ _ _ _ hl => lv_goto (tgt := 130) hx hb d_Di_divide_73 (by decide)) ?_
          have hfrX : gfr (fun x => x < 3) G G_351 := gfr_mono (gfr_tr (gfr_tr e_313 e_339) e_361) (fun _ h => by omega)
          obtain ⟨V1, hs, e0, e1⟩ := w2_three (u := (G_351, B_352)) hκ hb1 hb2 hfrX ⟨_, _, _, f_373, f_374, by omega, e_338⟩ ⟨_, _, _, e_357, e_358, by omega, e_360⟩ ⟨b2, y2, p2, f_367, f_368, gz2, gD2⟩ (by omega) (by omega) (by omega) (by show B_352.1 + _ + _ + _ ≤ _; omega) (by show B_352.2 + _ + _ + _ ≤ _; omega)
          exact hret 130 _ _ _ d_Di_divide_130 (show B_352.1 ≤ MC by omega) (show B_352.2 ≤ MS by omega) ⟨V1, hs, e0.trans (by rw [hv2e]), e1.trans ((lN_natAbs (by omega)).trans (by rw [hv2e]))⟩
      · skip
        have nc_215 : 1 < 0 := (n0_ge (a := 1) (by omega)).2 c_215
        exact absurd nc_215 (by omega)
