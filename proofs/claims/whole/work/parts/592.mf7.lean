set_option maxHeartbeats 4000000 in
set_option maxRecDepth 100000 in
theorem c_Mf_at (l : Launch) (D : va_G) (cA : Nat → ClassId) (lo MC MS : Nat) (G : gT) (B : Nat × Nat) (X : Nat × Nat) (a : AX) (S : St) (F : Nat → Option Rat) (V : Nat → Nat) (hC : CW cA X a S F V (G, B)) (hW : WF S) (g : Int) (hg1 : -2147483648 ≤ g) (hg2 : g < 2147483648) (x : Int) (hx1 : -2147483648 ≤ x) (hx2 : x < 2147483648) (hk : (sp_at S (iI g) (iI x)).1 = 0) (hY1 : X.1 + 6 ≤ MC) (hY2 : X.2 + 209 ≤ MS) : gMet l y_Mf_at w_Mf_at 8 217 D clS (gtys cA) lo MC MS [.ref a.x, .int (iI g), .int (iI x)] G B (gQi D clS lo (fun r u => r = iI (sp_at S (iI g) (iI x)).2.1 ∧ CW3 cA (X.1 + 6, X.2 + 209) a (sp_at S (iI g) (iI x)).2.2 u ∧ gfr (fun x => x < 70) G u.1)) := by
  refine g_meti (cc := prog_1_method_14_code) (nL := 6) (L := [(0, .ref a.x), (1, .int (iI g)), (2, .int (iI x))]) (by decide +kernel) rfl (Nat.le_of_ble_eq_true rfl) rfl ?_
  intro p e R s m args below meth c Q hF hRc hRs hRf hRl hret
  obtain ⟨hx, hb, hr, hml, hts0, hown, hlocks, hin, hK, hlo, hZ⟩ := hF
  have hts : ∀ w ∈ tbg, w.before args s = true := fun w h => hts0 w (List.mem_cons_of_mem _ h)
  have hX1 : X.1 ≤ MC := by omega
  have hX2 : X.2 ≤ MS := by omega
  have hn := hW.n
  have hrn := hW.rn
  have hwn := hW.wn
  have bl_1 : B.1 ≤ MC := Nat.le_trans (w2_le hC.w).1 hX1
  have bl_2 : B.2 ≤ MS := Nat.le_trans (w2_le hC.w).2 hX2
  have hv : ri S (iI g) ∧ vi S (iI x) := by
    by_cases z9 : ri S (iI g) ∧ vi S (iI x)
    · exact z9
    · rw [sp_at, if_pos z9] at hk; exact absurd hk (by decide)
  obtain ⟨k, hi_k, hxe_g, ei_k⟩ := ix_of hv.1.1 hv.1.2
  rw [hxe_g]
  obtain ⟨i, hi_i, hxe_x, ei_i⟩ := ix_of hv.2.1 hv.2.2
  rw [hxe_x]
  have hrc := hW.rc k hi_k
  have hsp : sp_at S (iI g) (iI x) = if S.rc k = 0 then (0, -5, S) else if S.un i ≠ S.un (S.rp k 0) then (0, -2, S) else if cnb S k (S.v i) < 0 then (0, -5, S) else if S.n = 200 then (0, -3, S) else kp S (hgt S k (S.v i) (cnb S k (S.v i)).toNat) (S.un (S.rh k 0)) := by
    rw [sp_at, if_neg (fun z9 => z9 hv), ei_k, ei_i]
    exact at_cnb
  refine gs (pc' := 1) (fun _ _ _ _ _ hl => lv_aload_n hx hb d_Mf_at_0 rfl (lv_at hl 0 rfl)) ?_
  refine gs (pc' := 2) (fun _ _ _ _ _ hl => lv_iload_n hx hb d_Mf_at_1 rfl (lv_at hl 1 rfl)) ?_
  refine g_outr hlo (g_runV (As := [.int (nI k)]) (rest := []) ⟨hx, hb, hml, hown, hts⟩ hK hZ hRc hRs (c_Mf_rowOf l D cA lo MC MS G B X a S F V hC hW k (by omega) hX1 hX2) (fun _ _ => cwV 1 hts (tb_good (tb_cons wm672 (tb_cons wm674 (tb_cons ws14 (tb_cons wm1 k_Mf_rowOf))))) rfl rfl rfl (by decide +kernel) ⟨by rw [hRf]; exact Nat.le_of_ble_eq_true rfl, by rw [hRl]; exact Nat.le_of_ble_eq_true rfl⟩) hC.ob rfl bl_1 bl_2 rfl (Nat.le_of_ble_eq_true rfl) d_Mf_at_2) (fun r_6 G_3 B_4 p_5 => ?_)
  obtain ⟨u_7, e_8⟩ := p_5
  cases u_7
  subst e_8
  refine gst (pc' := 6) (L' := [(3, .ref (a.ro k)), (0, .ref a.x), (1, .int (nI k)), (2, .int (nI i))]) (fun _ _ _ _ _ hl => lv_astore_n hx hb d_Mf_at_5 rfl hl (by decide) rfl) ?_
  refine gs (pc' := 7) (fun _ _ _ _ _ hl => lv_aload_n hx hb d_Mf_at_6 rfl (lv_at hl 1 rfl)) ?_
  refine gs (pc' := 8) (fun _ _ _ _ _ hl => lv_iload_n hx hb d_Mf_at_7 rfl (lv_at hl 3 rfl)) ?_
  refine g_outr hlo (g_runV (As := [.int (nI i)]) (rest := []) ⟨hx, hb, hml, hown, hts⟩ hK hZ hRc hRs (c_Mf_valueOf l D cA lo MC MS G B X a S F V hC hW i (by omega) hX1 hX2) (fun _ _ => cwV 1 hts (tb_good (tb_cons wm539 (tb_cons wm541 (tb_cons ws11 (tb_cons wm1 k_Mf_valueOf))))) rfl rfl rfl (by decide +kernel) ⟨by rw [hRf]; exact Nat.le_of_ble_eq_true rfl, by rw [hRl]; exact Nat.le_of_ble_eq_true rfl⟩) hC.ob rfl bl_1 bl_2 rfl (Nat.le_of_ble_eq_true rfl) d_Mf_at_8) (fun r_12 G_9 B_10 p_11 => ?_)
  obtain ⟨u_13, iv_14⟩ := p_11
  cases u_13
  have rb_15 : rb (S.v i) 100 := rb_of (hW.v _ (by omega)).1
  have ub_16 := (hW.v i (by omega)).2
  have ub_17 := ub_16.1
  have ub_18 := ub_16.2
  refine gst (pc' := 13) (L' := [(4, .ref r_12), (3, .ref (a.ro k)), (0, .ref a.x), (1, .int (nI k)), (2, .int (nI i))]) (fun _ _ _ _ _ hl => lv_astore hx hb d_Mf_at_11 hl (by decide) rfl) ?_
  refine gs (pc' := 14) (fun _ _ _ _ _ hl => lv_aload_n hx hb d_Mf_at_13 rfl (lv_at hl 1 rfl)) ?_
  obtain ⟨rc_19, pf_20, hg_21, f_22, f_23, f_24, g_25⟩ := hC.ro k (by omega)
  obtain ⟨g_26, g_27⟩ := g_25 hi_k
  subst g_26
  refine g_get hx hb hts hin_Ro hown hK f_22 rfl 2 (by decide) (hts _ wm227) (fun _ h9 => h9) rfl d_Mf_at_14 ?_
  refine gsb (pc1 := 23) (pc2 := 20) (fun _ _ _ _ _ => lv_if_ne (tgt := 23) hx hb d_Mf_at_17 (by decide)) (fun c_28 => ?_) (fun c_28 => ?_)
  · skip
    have nc_28 : (S.rc k) ≠ 0 := (n0_ne (a := (S.rc k)) (by omega)).1 c_28
    have hc0 : ¬ S.rc k = 0 := nc_28
    refine gs (pc' := 25) (fun _ _ _ _ _ hl => lv_aload hx hb d_Mf_at_23 (lv_at hl 0 rfl)) ?_
    obtain ⟨hf_29, f_30, kq_31⟩ := id iv_14
    refine g_get hx hb hts hin_Va hown hK f_30 rfl 1 (by decide) (hts _ wm525) (fun _ h9 => h9) rfl d_Mf_at_25 ?_
    refine gs (pc' := 29) (fun _ _ _ _ _ hl => lv_aload_n hx hb d_Mf_at_28 rfl (lv_at hl 1 rfl)) ?_
    refine g_get hx hb hts hin_Ro hown hK f_22 rfl 0 (by decide) (hts _ wm223) (fun _ h9 => h9) rfl d_Mf_at_29 ?_
    refine gs (pc' := 33) (fun _ _ _ _ _ hl => lv_iconst (v := nI 0) hx hb d_Mf_at_32 (by decide)) ?_
    obtain ⟨h_32, h_33, e_34, e_35, iv_36, iv_37⟩ := g_27 0 (by omega)
    have rb_38 : rb (S.v (S.rp k 0)) 100 := rb_of (hW.v _ (hW.rp k hi_k 0 (by omega)).1).1
    have rb_39 : rb (S.v (S.rh k 0)) 100 := rb_of (hW.v _ (hW.rp k hi_k 0 (by omega)).2.1).1
    have wr_40 := hW.rp k hi_k 0 (by omega)
    have ub_41 := (hW.v _ wr_40.1).2
    have ub_41a := ub_41.1
    have ub_41b := ub_41.2
    have ub_42 := (hW.v _ wr_40.2.1).2
    have ub_42a := ub_42.1
    have ub_42b := ub_42.2
    refine g_aalS hx hb hK 2 f_23 rfl (by omega) (by decide) e_34 d_Mf_at_33 ?_
    obtain ⟨hf_43, f_44, kq_45⟩ := id iv_36
    refine g_get hx hb hts hin_Va hown hK f_44 rfl 1 (by decide) (hts _ wm525) (fun _ h9 => h9) rfl d_Mf_at_34 ?_
    refine gsb (pc1 := 43) (pc2 := 40) (fun _ _ _ _ _ => lv_icmp_eq (tgt := 43) hx hb d_Mf_at_37 (by decide)) (fun c_46 => ?_) (fun c_46 => ?_)
    · skip
      have nc_46 : (S.un i) = (S.un (S.rp k 0)) := (ii_eq (a := (S.un i)) (b := (S.un (S.rp k 0))) (by omega) (by omega) (by omega) (by omega)).1 (by first | exact c_46 | (have z9 := c_46; simp only [nI_iI] at z9; exact z9))
      have hu : ¬ S.un i ≠ S.un (S.rp k 0) := fun z9 => z9 nc_46
      refine gs (pc' := 44) (fun _ _ _ _ _ hl => lv_aload_n hx hb d_Mf_at_43 rfl (lv_at hl 2 rfl)) ?_
      refine gs (pc' := 45) (fun _ _ _ _ _ hl => lv_aload_n hx hb d_Mf_at_44 rfl (lv_at hl 1 rfl)) ?_
      refine gs (pc' := 47) (fun _ _ _ _ _ hl => lv_aload hx hb d_Mf_at_45 (lv_at hl 0 rfl)) ?_
      refine g_get hx hb hts hin_Va hown hK f_30 rfl 0 (by decide) (hts _ wm523) (fun _ h9 => h9) rfl d_Mf_at_47 ?_
      refine g_outi hlo (g_runV (As := [.ref (a.ro k), .ref hf_29]) (rest := []) ⟨hx, hb, hml, hown, hts⟩ hK hZ hRc hRs (c_Mf_cnb l D cA lo MC MS G B X a S F V hC hW k hi_k hf_29 (S.v i) kq_31 rb_15 hX1 hX2) (fun _ _ => cwV 2 hts (tb_good (tb_cons wm688 (tb_cons wm690 (tb_cons ws15 (tb_cons wm1 k_Mf_cornerNotBefore))))) rfl rfl rfl (by decide +kernel) ⟨by rw [hRf]; exact Nat.le_of_ble_eq_true rfl, by rw [hRl]; exact Nat.le_of_ble_eq_true rfl⟩) hC.ob rfl bl_1 bl_2 rfl (Nat.le_of_ble_eq_true rfl) d_Mf_at_50) (fun r_50 G_47 B_48 p_49 => ?_)
      obtain ⟨e_51, p_52⟩ := p_49
      subst e_51
      obtain ⟨V_53, C_54, fr_55⟩ := p_52
      have iv_56 : isV cA G_47 r_12 (S.v i) (S.un i) := isV_24 iv_14 fr_55
      have iv_57 : isV cA G_47 h_32 (S.v (S.rp k 0)) (S.un (S.rp k 0)) := isV_24 iv_36 fr_55
      have iv_58 : isV cA G_47 h_33 (S.v (S.rh k 0)) (S.un (S.rh k 0)) := isV_24 iv_37 fr_55
      have kq_59 : kq cA G_47 hf_29 (S.v i) := kq_24 kq_31 fr_55
      have kq_60 : kq cA G_47 hf_43 (S.v (S.rp k 0)) := kq_24 kq_45 fr_55
      have fr_61 : gfr (fun x => x < 24) G G_47 := gfr_24 gfr_rf fr_55
      have f_62 : G_47 r_12 = some (30, .inr (6, [.ref hf_29, .int (iI (S.un i))])) := fr_55 _ _ f_30 (show ¬ (30 : Nat) < 24 by decide)
      have f_63 : G_47 h_32 = some (30, .inr (6, [.ref hf_43, .int (iI (S.un (S.rp k 0)))])) := fr_55 _ _ f_44 (show ¬ (30 : Nat) < 24 by decide)
      have bl_64 : B_48.1 ≤ MC := Nat.le_trans (w2_le C_54.w).1 hX1
      have bl_65 : B_48.2 ≤ MS := Nat.le_trans (w2_le C_54.w).2 hX2
      have hcb := cnb_bd k (S.v i) S
      refine gst (pc' := 55) (L' := [(5, .int (iI (cnb S k (S.v i)))), (4, .ref r_12), (3, .ref (a.ro k)), (0, .ref a.x), (1, .int (nI k)), (2, .int (nI i))]) (fun _ _ _ _ _ hl => lv_istore hx hb d_Mf_at_53 hl (by decide) rfl) ?_
      refine gs (pc' := 57) (fun _ _ _ _ _ hl => lv_iload hx hb d_Mf_at_55 (lv_at hl 0 rfl)) ?_
      refine gsb (pc1 := 63) (pc2 := 60) (fun _ _ _ _ _ => lv_if_ge (tgt := 63) hx hb d_Mf_at_57 (by decide)) (fun c_66 => ?_) (fun c_66 => ?_)
      · skip
        have nc_66 : (cnb S k (S.v i)) ≥ 0 := (ii_ge (a := (cnb S k (S.v i))) (b := 0) (by omega) (by omega) (by omega) (by omega)).1 (by first | exact c_66 | (have z9 := c_66; simp only [nI_iI] at z9; exact z9))
        have hcn : ¬ cnb S k (S.v i) < 0 := by omega
        obtain ⟨jn, hjn⟩ : ∃ jn : Nat, cnb S k (S.v i) = (jn : Int) := ⟨(cnb S k (S.v i)).toNat, by omega⟩
        have hjr : jn < S.rc k := (cnb_of hjn).1
        have hj0 : jn = 0 → S.v i = S.v (S.rp k 0) := (cnb_of hjn).2
        rw [hjn, ← nI_iI]
        refine gs (pc' := 64) (fun _ _ _ _ _ hl => lv_aload_n hx hb d_Mf_at_63 rfl (lv_at hl 3 rfl)) ?_
        refine g_outi hlo (g_runV (As := []) (rest := []) ⟨hx, hb, hml, hown, hts⟩ hK hZ hRc hRs (c_Mf_isFull l D cA lo MC MS G_47 B_48 X a S F V_53 C_54 hW hX1 hX2) (fun _ _ => cwV 0 hts (tb_good (tb_cons wm386 (tb_cons wm388 (tb_cons ws1 (tb_cons wm1 k_Mf_isFull))))) rfl rfl rfl (by decide +kernel) ⟨by rw [hRf]; exact Nat.le_of_ble_eq_true rfl, by rw [hRl]; exact Nat.le_of_ble_eq_true rfl⟩) C_54.ob rfl bl_64 bl_65 rfl (Nat.le_of_ble_eq_true rfl) d_Mf_at_64) (fun r_70 G_67 B_68 p_69 => ?_)
        obtain ⟨u_71, e_72⟩ := p_69
        cases u_71
        subst e_72
        have bd_73 := b01_le (decide (S.n = 200))
        refine gsb (pc1 := 73) (pc2 := 70) (fun _ _ _ _ _ => lv_if_eq (tgt := 73) hx hb d_Mf_at_67 (by decide)) (fun c_74 => ?_) (fun c_74 => ?_)
        · skip
          have nc_74 : (b01 (decide (S.n = 200))) = 0 := (n0_eq (a := (b01 (decide (S.n = 200)))) (by omega)).1 c_74
          have hnf := b01_0 nc_74
          refine gs (pc' := 74) (fun _ _ _ _ _ hl => lv_aload_n hx hb d_Mf_at_73 rfl (lv_at hl 3 rfl)) ?_
          refine gs (pc' := 75) (fun _ _ _ _ _ hl => lv_aload_n hx hb d_Mf_at_74 rfl (lv_at hl 2 rfl)) ?_
          refine gs (pc' := 77) (fun _ _ _ _ _ hl => lv_iload hx hb d_Mf_at_75 (lv_at hl 0 rfl)) ?_
          refine gs (pc' := 79) (fun _ _ _ _ _ hl => lv_aload hx hb d_Mf_at_77 (lv_at hl 1 rfl)) ?_
          refine g_get hx hb hts hin_Va hown hK f_62 rfl 0 (by decide) (hts _ wm523) (fun _ h9 => h9) rfl d_Mf_at_79 ?_
          refine g_outv hlo (g_runV (As := [.ref (a.ro k), .int (nI jn), .ref hf_29]) (rest := []) ⟨hx, hb, hml, hown, hts⟩ hK hZ hRc hRs (c_Mf_setHeight l D cA lo MC MS G_47 B_48 X a S F V_53 C_54 hW k hi_k hf_29 (S.v i) kq_59 rb_15 jn hjr hj0 hX1 hX2) (fun _ _ => cwV 3 hts (tb_good (tb_cons wm692 (tb_cons wm694 (tb_cons ws16 (tb_cons wm1 k_Mf_setHeight))))) rfl rfl rfl (by decide +kernel) ⟨by rw [hRf]; exact Nat.le_of_ble_eq_true rfl, by rw [hRl]; exact Nat.le_of_ble_eq_true rfl⟩) C_54.ob rfl bl_64 bl_65 rfl (Nat.le_of_ble_eq_true rfl) d_Mf_at_82) (fun G_75 B_76 p_77 => ?_)
          obtain ⟨F_78, V_79, C_80, e_81, rb_82, fr_83⟩ := p_77
          have iv_84 : isV cA G_75 r_12 (S.v i) (S.un i) := isV_24 iv_56 fr_83
          have iv_85 : isV cA G_75 h_32 (S.v (S.rp k 0)) (S.un (S.rp k 0)) := isV_24 iv_57 fr_83
          have iv_86 : isV cA G_75 h_33 (S.v (S.rh k 0)) (S.un (S.rh k 0)) := isV_24 iv_58 fr_83
          have kq_87 : kq cA G_75 hf_29 (S.v i) := kq_24 kq_59 fr_83
          have kq_88 : kq cA G_75 hf_43 (S.v (S.rp k 0)) := kq_24 kq_60 fr_83
          have fr_89 : gfr (fun x => x < 24) G G_75 := gfr_24 fr_61 fr_83
          have f_90 : G_75 r_12 = some (30, .inr (6, [.ref hf_29, .int (iI (S.un i))])) := fr_83 _ _ f_62 (show ¬ (30 : Nat) < 24 by decide)
          have f_91 : G_75 h_32 = some (30, .inr (6, [.ref hf_43, .int (iI (S.un (S.rp k 0)))])) := fr_83 _ _ f_63 (show ¬ (30 : Nat) < 24 by decide)
          have bl_92 : B_76.1 ≤ MC := Nat.le_trans (w2_le C_80.w).1 hX1
          have bl_93 : B_76.2 ≤ MS := Nat.le_trans (w2_le C_80.w).2 hX2
          refine gs (pc' := 86) (fun _ _ _ _ _ hl => lv_aload_n hx hb d_Mf_at_85 rfl (lv_at hl 3 rfl)) ?_
          refine gs (pc' := 87) (fun _ _ _ _ _ hl => lv_aload_n hx hb d_Mf_at_86 rfl (lv_at hl 3 rfl)) ?_
          refine g_get hx hb hts hin_Mf hown hK C_80.ob rfl 6 (by decide) (hts _ wm241) (fun _ h9 => h9) rfl d_Mf_at_87 ?_
          refine gs (pc' := 91) (fun _ _ _ _ _ hl => lv_aload_n hx hb d_Mf_at_90 rfl (lv_at hl 2 rfl)) ?_
          obtain ⟨rc_94, pf_95, hg_96, f_97, f_98, f_99, g_100⟩ := C_80.ro k (by omega)
          obtain ⟨g_101, g_102⟩ := g_100 hi_k
          subst g_101
          refine g_get hx hb hts hin_Ro hown hK f_97 rfl 1 (by decide) (hts _ wm225) (fun _ h9 => h9) rfl d_Mf_at_91 ?_
          refine gs (pc' := 95) (fun _ _ _ _ _ hl => lv_iconst (v := nI 0) hx hb d_Mf_at_94 (by decide)) ?_
          obtain ⟨h_103, h_104, e_105, e_106, iv_107, iv_108⟩ := g_102 0 (by omega)
          have wr_109 := hW.rp k hi_k 0 (by omega)
          have ub_110 := (hW.v _ wr_109.1).2
          have ub_110a := ub_110.1
          have ub_110b := ub_110.2
          have ub_111 := (hW.v _ wr_109.2.1).2
          have ub_111a := ub_111.1
          have ub_111b := ub_111.2
          refine g_aalS hx hb hK 2 f_99 rfl (by omega) (by decide) e_106 d_Mf_at_95 ?_
          obtain ⟨hf_112, f_113, kq_114⟩ := id iv_108
          refine g_get hx hb hts hin_Va hown hK f_113 rfl 1 (by decide) (hts _ wm525) (fun _ h9 => h9) rfl d_Mf_at_96 ?_
          refine g_outi hlo (g_runV (As := [.ref (a.fr 0), .int (iI (S.un (S.rh k 0)))]) (rest := []) ⟨hx, hb, hml, hown, hts⟩ hK hZ hRc hRs (c_Mf_keep0 l D cA lo MC MS G_75 B_76 X a S F_78 V_79 C_80 hW (hgt S k (S.v i) jn) e_81 710 rb_82 (by decide) (S.un (S.rh k 0)) hnf hY1 hY2) (fun _ _ => cwV 2 hts (tb_good (tb_cons wm495 (tb_cons wm497 (tb_cons ws10 (tb_cons wm1 k_Mf_keep))))) rfl rfl rfl (by decide +kernel) ⟨by rw [hRf]; exact Nat.le_of_ble_eq_true rfl, by rw [hRl]; exact Nat.le_of_ble_eq_true rfl⟩) C_80.ob rfl bl_92 bl_93 rfl (Nat.le_of_ble_eq_true rfl) d_Mf_at_99) (fun r_118 G_115 B_116 p_117 => ?_)
          obtain ⟨e_119, C_120, fr_121⟩ := p_117
          subst e_119
          have fr_122 : gfr (fun x => x < 70) G G_115 := gfr_mono (gfr_tr fr_89 fr_121) (fun x h9 => by rcases h9 with h9 | h9 <;> omega)
          have bl_123 := CW3_le C_120
          have hs2 : sp_at S (iI g) (iI x) = kp S (hgt S k (S.v i) jn) (S.un (S.rh k 0)) := by rw [hsp, if_neg hc0, if_neg hu, if_neg hcn, if_neg hnf, hjn, Int.toNat_natCast]
          exact hret 102 _ _ _ _ d_Mf_at_102 (Nat.le_trans bl_123.1 hY1) (Nat.le_trans bl_123.2 hY2) ⟨by rw [hs2], by rw [hs2]; exact C_120, fr_122⟩
        · skip
          have nc_74 : (b01 (decide (S.n = 200))) ≠ 0 := (n0_eq (a := (b01 (decide (S.n = 200)))) (by omega)).2 c_74
          have hnf := b01_1 nc_74
          refine gs (pc' := 72) (fun _ _ _ _ _ hl => lv_bipush (v := (-3)) hx hb d_Mf_at_70 (by decide)) ?_
          refine g_eqi (show (-3) = iI (-3) from by decide) ?_
          have hs2 : sp_at S (iI g) (iI x) = (0, -3, S) := by rw [hsp, if_neg hc0, if_neg hu, if_neg hcn, if_pos hnf]
          exact hret 72 _ _ _ _ d_Mf_at_72 bl_64 bl_65 ⟨by rw [hs2], by rw [hs2]; exact C_54.up (X1 := (X.1 + 6, X.2 + 209)) (show X.1 ≤ X.1 + 6 by omega) (show X.2 ≤ X.2 + 209 by omega), (gfr_mono (M := fun x => x < 24) fr_61 (fun x h9 => by omega))⟩
      · skip
        have nc_66 : (cnb S k (S.v i)) < 0 := (ii_ge (a := (cnb S k (S.v i))) (b := 0) (by omega) (by omega) (by omega) (by omega)).2 (by first | exact c_66 | (have z9 := c_66; simp only [nI_iI] at z9; exact z9))
        have hcn : cnb S k (S.v i) < 0 := by omega
        refine gs (pc' := 62) (fun _ _ _ _ _ hl => lv_bipush (v := (-5)) hx hb d_Mf_at_60 (by decide)) ?_
        refine g_eqi (show (-5) = iI (-5) from by decide) ?_
        have hs2 : sp_at S (iI g) (iI x) = (0, -5, S) := by rw [hsp, if_neg hc0, if_neg hu, if_pos hcn]
        exact hret 62 _ _ _ _ d_Mf_at_62 bl_64 bl_65 ⟨by rw [hs2], by rw [hs2]; exact C_54.up (X1 := (X.1 + 6, X.2 + 209)) (show X.1 ≤ X.1 + 6 by omega) (show X.2 ≤ X.2 + 209 by omega), (gfr_mono (M := fun x => x < 24) fr_61 (fun x h9 => by omega))⟩
    · skip
      have nc_46 : (S.un i) ≠ (S.un (S.rp k 0)) := (ii_eq (a := (S.un i)) (b := (S.un (S.rp k 0))) (by omega) (by omega) (by omega) (by omega)).2 (by first | exact c_46 | (have z9 := c_46; simp only [nI_iI] at z9; exact z9))
      have hu : S.un i ≠ S.un (S.rp k 0) := nc_46
      refine gs (pc' := 42) (fun _ _ _ _ _ hl => lv_bipush (v := (-2)) hx hb d_Mf_at_40 (by decide)) ?_
      refine g_eqi (show (-2) = iI (-2) from by decide) ?_
      have hs2 : sp_at S (iI g) (iI x) = (0, -2, S) := by rw [hsp, if_neg hc0, if_pos hu]
      exact hret 42 _ _ _ _ d_Mf_at_42 bl_1 bl_2 ⟨by rw [hs2], by rw [hs2]; exact hC.up (X1 := (X.1 + 6, X.2 + 209)) (show X.1 ≤ X.1 + 6 by omega) (show X.2 ≤ X.2 + 209 by omega), (gfr_mono (M := fun x => x < 24) gfr_rf (fun x h9 => by omega))⟩
  · skip
    have nc_28 : (S.rc k) = 0 := (n0_ne (a := (S.rc k)) (by omega)).2 c_28
    have hc0 : S.rc k = 0 := nc_28
    refine gs (pc' := 22) (fun _ _ _ _ _ hl => lv_bipush (v := (-5)) hx hb d_Mf_at_20 (by decide)) ?_
    refine g_eqi (show (-5) = iI (-5) from by decide) ?_
    have hs2 : sp_at S (iI g) (iI x) = (0, -5, S) := by rw [hsp, if_pos hc0]
    exact hret 22 _ _ _ _ d_Mf_at_22 bl_1 bl_2 ⟨by rw [hs2], by rw [hs2]; exact hC.up (X1 := (X.1 + 6, X.2 + 209)) (show X.1 ≤ X.1 + 6 by omega) (show X.2 ≤ X.2 + 209 by omega), (gfr_mono (M := fun x => x < 24) gfr_rf (fun x h9 => by omega))⟩
set_option maxHeartbeats 4000000 in
set_option maxRecDepth 100000 in
theorem t_Mf_at1 (l : Launch) (D : va_G) (cA : Nat → ClassId) (lo MC MS : Nat) (G : gT) (B : Nat × Nat) (X : Nat × Nat) (a : AX) (S : St) (F : Nat → Option Rat) (V : Nat → Nat) (hC : CW cA X a S F V (G, B)) (hW : WF S) (g : Int) (hg1 : -2147483648 ≤ g) (hg2 : g < 2147483648) (x : Int) (hx1 : -2147483648 ≤ x) (hx2 : x < 2147483648) (hk : (sp_at S (iI g) (iI x)).1 = 1) (hY1 : X.1 + 1 ≤ MC) (hY2 : X.2 + 6 ≤ MS) (hfl : ∀ e : Env, l.admits e → e.platform.stackTraces = false) : gMetT l y_Mf_at w_Mf_at 7 111 D clS (gtys cA) lo MC MS [.ref a.x, .int (iI g), .int (iI x)] G B (gQx D clS lo "java/lang/IndexOutOfBoundsException" (fun u => u = (G, B.1 + 1, B.2 + 6))) := by
  refine g_mett (cc := prog_1_method_14_code) (nL := 6) (ret := (Option.some .int)) (L := [(0, .ref a.x), (1, .int (iI g)), (2, .int (iI x))]) (by decide +kernel) rfl (Nat.le_of_ble_eq_true rfl) rfl ?_
  intro p e R s m args below meth c Q hF hRc hRs hRf hRl hne hQ
  obtain ⟨hx, hb, hr, hml, hts0, hown, hlocks, hin, hK, hlo, hZ⟩ := hF
  have hts : ∀ w ∈ tbg, w.before args s = true := fun w h => hts0 w (List.mem_cons_of_mem _ h)
  have hX1 : X.1 ≤ MC := by omega
  have hX2 : X.2 ≤ MS := by omega
  have hn := hW.n
  have hrn := hW.rn
  have hwn := hW.wn
  have bl_1 : B.1 ≤ MC := Nat.le_trans (w2_le hC.w).1 hX1
  have bl_2 : B.2 ≤ MS := Nat.le_trans (w2_le hC.w).2 hX2
  have hv : ¬ (ri S (iI g) ∧ vi S (iI x)) := fun z9 => by
    rw [sp_at, if_neg (fun z8 => z8 z9)] at hk
    split at hk
    · exact absurd hk (by decide)
    split at hk
    · exact absurd hk (by decide)
    split at hk
    · exact absurd hk (by decide)
    split at hk
    · exact absurd hk (by decide)
    split at hk
    · exact absurd hk (by decide)
    · rw [kp_0] at hk; exact absurd hk (by decide)
  by_cases hv_g : ri S (iI g)
  · skip
    obtain ⟨k, hi_k, hxe_g, ei_k⟩ := ix_of hv_g.1 hv_g.2
    rw [hxe_g]
    have hv_x : ¬ vi S (iI x) := fun z9 => hv ⟨hv_g, z9⟩
    refine gs (pc' := 1) (fun _ _ _ _ _ hl => lv_aload_n hx hb d_Mf_at_0 rfl (lv_at hl 0 rfl)) ?_
    refine gs (pc' := 2) (fun _ _ _ _ _ hl => lv_iload_n hx hb d_Mf_at_1 rfl (lv_at hl 1 rfl)) ?_
    refine g_outr hlo (g_runV (As := [.int (nI k)]) (rest := []) ⟨hx, hb, hml, hown, hts⟩ hK hZ hRc hRs (c_Mf_rowOf l D cA lo MC MS G B X a S F V hC hW k (by omega) hX1 hX2) (fun _ _ => cwV 1 hts (tb_good (tb_cons wm672 (tb_cons wm674 (tb_cons ws14 (tb_cons wm1 k_Mf_rowOf))))) rfl rfl rfl (by decide +kernel) ⟨by rw [hRf]; exact Nat.le_of_ble_eq_true rfl, by rw [hRl]; exact Nat.le_of_ble_eq_true rfl⟩) hC.ob rfl bl_1 bl_2 rfl (Nat.le_of_ble_eq_true rfl) d_Mf_at_2) (fun r_6 G_3 B_4 p_5 => ?_)
    obtain ⟨u_7, e_8⟩ := p_5
    cases u_7
    subst e_8
    refine gst (pc' := 6) (L' := [(3, .ref (a.ro k)), (0, .ref a.x), (1, .int (nI k)), (2, .int (iI x))]) (fun _ _ _ _ _ hl => lv_astore_n hx hb d_Mf_at_5 rfl hl (by decide) rfl) ?_
    refine gs (pc' := 7) (fun _ _ _ _ _ hl => lv_aload_n hx hb d_Mf_at_6 rfl (lv_at hl 1 rfl)) ?_
    refine gs (pc' := 8) (fun _ _ _ _ _ hl => lv_iload_n hx hb d_Mf_at_7 rfl (lv_at hl 3 rfl)) ?_
    exact g_up hlocks hne bl_1 bl_2 (g_thrV (As := [.int (iI x)]) (rest := []) ⟨hx, hb, hml, hown, hts⟩ hK hZ hRc hRs (t_Mf_valueOf l D cA lo MC MS G B X a S F V hC hW x hx1 hx2 (nvi hx1 hx2 hv_x) hY1 hY2 hfl) (fun _ _ => cwV 1 hts (tb_good (tb_cons wm539 (tb_cons wm541 (tb_cons ws11 (tb_cons wm1 k_Mf_valueOf))))) rfl rfl rfl (by decide +kernel) ⟨by rw [hRf]; exact Nat.le_of_ble_eq_true rfl, by rw [hRl]; exact Nat.le_of_ble_eq_true rfl⟩) hC.ob rfl bl_1 bl_2 rfl (Nat.le_of_ble_eq_true rfl) d_Mf_at_8) (fun _ h => h) hQ
  · skip
    refine gs (pc' := 1) (fun _ _ _ _ _ hl => lv_aload_n hx hb d_Mf_at_0 rfl (lv_at hl 0 rfl)) ?_
    refine gs (pc' := 2) (fun _ _ _ _ _ hl => lv_iload_n hx hb d_Mf_at_1 rfl (lv_at hl 1 rfl)) ?_
    exact g_up hlocks hne bl_1 bl_2 (g_thrV (As := [.int (iI g)]) (rest := []) ⟨hx, hb, hml, hown, hts⟩ hK hZ hRc hRs (t_Mf_rowOf l D cA lo MC MS G B X a S F V hC hW g hg1 hg2 (nri hg1 hg2 hv_g) hY1 hY2 hfl) (fun _ _ => cwV 1 hts (tb_good (tb_cons wm672 (tb_cons wm674 (tb_cons ws14 (tb_cons wm1 k_Mf_rowOf))))) rfl rfl rfl (by decide +kernel) ⟨by rw [hRf]; exact Nat.le_of_ble_eq_true rfl, by rw [hRl]; exact Nat.le_of_ble_eq_true rfl⟩) hC.ob rfl bl_1 bl_2 rfl (Nat.le_of_ble_eq_true rfl) d_Mf_at_2) (fun _ h => h) hQ
set_option maxHeartbeats 4000000 in
set_option maxRecDepth 100000 in
theorem c_Mf_addStrip (l : Launch) (D : va_G) (cA : Nat → ClassId) (lo MC MS : Nat) (G : gT) (B : Nat × Nat) (X : Nat × Nat) (a : AX) (S : St) (F : Nat → Option Rat) (V : Nat → Nat) (hC : CW cA X a S F V (G, B)) (hW : WF S) (k : Nat) (hk : k < S.rn) (j : Nat) (hj : j + 1 < S.rc k) (ss : Rat) (hF : F 3 = some ss) (hrs : rb ss 100) (hY1 : X.1 + 0 ≤ MC) (hY2 : X.2 + 0 ≤ MS) : gMet l y_Mf_addStrip w_Mf_addStrip 7 190 D clS (gtys cA) lo MC MS [.ref a.x, .ref (a.ro k), .int (nI (j + 1))] G B (gQv D clS lo (fun u => ∃ F1 V1, CW cA X a S F1 V1 u ∧ F1 3 = some (ss + strip S k j) ∧ rb (ss + strip S k j) 600 ∧ gfr (fun x => x < 24) G u.1)) := by
  refine g_metv (cc := prog_1_method_26_code) (nL := 3) (L := [(0, .ref a.x), (1, .ref (a.ro k)), (2, .int (nI (j + 1)))]) (by decide +kernel) rfl (Nat.le_of_ble_eq_true rfl) rfl ?_
  intro p e R s m args below meth c Q hF hRc hRs hRf hRl hret
  obtain ⟨hx, hb, hr, hml, hts0, hown, hlocks, hin, hK, hlo, hZ⟩ := hF
  have hts : ∀ w ∈ tbg, w.before args s = true := fun w h => hts0 w (List.mem_cons_of_mem _ h)
  have hX1 : X.1 ≤ MC := by omega
  have hX2 : X.2 ≤ MS := by omega
  have hn := hW.n
  have hrn := hW.rn
  have hwn := hW.wn
  have bl_1 : B.1 ≤ MC := Nat.le_trans (w2_le hC.w).1 hX1
  have bl_2 : B.2 ≤ MS := Nat.le_trans (w2_le hC.w).2 hX2
  have hrc := hW.rc k hk
  obtain ⟨F9, hF9⟩ : ∃ F9, F9 = F := ⟨F, rfl⟩
  refine gs (pc' := 1) (fun _ _ _ _ _ hl => lv_aload_n hx hb d_Mf_addStrip_0 rfl (lv_at hl 0 rfl)) ?_
  refine g_get hx hb hts hin_Mf hown hK hC.ob rfl 5 (by decide) (hts _ wm240) (fun _ h9 => h9) rfl d_Mf_addStrip_1 ?_
  refine gs (pc' := 5) (fun _ _ _ _ _ hl => lv_aload_n hx hb d_Mf_addStrip_4 rfl (lv_at hl 0 rfl)) ?_
  refine g_get hx hb hts hin_Mf hown hK hC.ob rfl 6 (by decide) (hts _ wm241) (fun _ h9 => h9) rfl d_Mf_addStrip_5 ?_
  refine gs (pc' := 9) (fun _ _ _ _ _ hl => lv_aload_n hx hb d_Mf_addStrip_8 rfl (lv_at hl 1 rfl)) ?_
  obtain ⟨rc_3, pf_4, hg_5, f_6, f_7, f_8, g_9⟩ := hC.ro k (by omega)
  obtain ⟨g_10, g_11⟩ := g_9 hk
  subst g_10
  refine g_get hx hb hts hin_Ro hown hK f_6 rfl 0 (by decide) (hts _ wm223) (fun _ h9 => h9) rfl d_Mf_addStrip_9 ?_
  refine gs (pc' := 13) (fun _ _ _ _ _ hl => lv_iload_n hx hb d_Mf_addStrip_12 rfl (lv_at hl 2 rfl)) ?_
  obtain ⟨h_12, h_13, e_14, e_15, iv_16, iv_17⟩ := g_11 (j + 1) (by omega)
  have rb_18 : rb (S.v (S.rp k (j + 1))) 100 := rb_of (hW.v _ (hW.rp k hk (j + 1) (by omega)).1).1
  have rb_19 : rb (S.v (S.rh k (j + 1))) 100 := rb_of (hW.v _ (hW.rp k hk (j + 1) (by omega)).2.1).1
  have wr_20 := hW.rp k hk (j + 1) (by omega)
  have ub_21 := (hW.v _ wr_20.1).2
  have ub_21a := ub_21.1
  have ub_21b := ub_21.2
  have ub_22 := (hW.v _ wr_20.2.1).2
  have ub_22a := ub_22.1
  have ub_22b := ub_22.2
  refine g_aalS hx hb hK 2 f_7 rfl (by omega) (by decide) e_14 d_Mf_addStrip_13 ?_
  obtain ⟨hf_23, f_24, kq_25⟩ := id iv_16
  refine g_get hx hb hts hin_Va hown hK f_24 rfl 0 (by decide) (hts _ wm523) (fun _ h9 => h9) rfl d_Mf_addStrip_14 ?_
  refine gs (pc' := 18) (fun _ _ _ _ _ hl => lv_aload_n hx hb d_Mf_addStrip_17 rfl (lv_at hl 1 rfl)) ?_
  refine g_get hx hb hts hin_Ro hown hK f_6 rfl 0 (by decide) (hts _ wm223) (fun _ h9 => h9) rfl d_Mf_addStrip_18 ?_
  refine gs (pc' := 22) (fun _ _ _ _ _ hl => lv_iload_n hx hb d_Mf_addStrip_21 rfl (lv_at hl 2 rfl)) ?_
  refine gs (pc' := 23) (fun _ _ _ _ _ hl => lv_iconst (v := nI 1) hx hb d_Mf_addStrip_22 (by decide)) ?_
  refine gs (pc' := 24) (fun _ _ _ _ _ hl => lv_isub hx hb d_Mf_addStrip_23) ?_
  refine g_eqi (show (nI (j + 1)) - (nI 1) = nI j from (pk_sub (by omega)).trans (congrArg nI (show (j + 1) - 1 = j by omega))) ?_
  obtain ⟨h_26, h_27, e_28, e_29, iv_30, iv_31⟩ := g_11 j (by omega)
  have rb_32 : rb (S.v (S.rp k j)) 100 := rb_of (hW.v _ (hW.rp k hk j (by omega)).1).1
  have rb_33 : rb (S.v (S.rh k j)) 100 := rb_of (hW.v _ (hW.rp k hk j (by omega)).2.1).1
  have wr_34 := hW.rp k hk j (by omega)
  have ub_35 := (hW.v _ wr_34.1).2
  have ub_35a := ub_35.1
  have ub_35b := ub_35.2
  have ub_36 := (hW.v _ wr_34.2.1).2
  have ub_36a := ub_36.1
  have ub_36b := ub_36.2
  refine g_aalS hx hb hK 2 f_7 rfl (by omega) (by decide) e_28 d_Mf_addStrip_24 ?_
  obtain ⟨hf_37, f_38, kq_39⟩ := id iv_30
  refine g_get hx hb hts hin_Va hown hK f_38 rfl 0 (by decide) (hts _ wm523) (fun _ h9 => h9) rfl d_Mf_addStrip_25 ?_
  refine gs (pc' := 29) (fun _ _ _ _ _ hl => lv_iconst (v := nI 1) hx hb d_Mf_addStrip_28 (by decide)) ?_
  refine g_outv hlo (g_runV (As := [.ref (a.fr 0), .ref hf_23, .ref hf_37, .int (nI 1)]) (rest := []) ⟨hx, hb, hml, hown, hts⟩ hK hZ hRc hRs (c3_sub l D cA lo MC MS G B X a S F V hC hX1 hX2 0 (by decide) hf_23 hf_37 (S.v (S.rp k (j + 1))) (S.v (S.rp k j)) (Or.inr kq_25) (Or.inr kq_39) 100 100 rb_18 rb_32 (by decide)) (fun _ _ => cwV 4 hts (tb_good (tb_cons wm559 (tb_cons wm560 (tb_cons wm561 (tb_cons wm3 k_Ca_setSum))))) rfl rfl rfl (by decide +kernel) ⟨by rw [hRf]; exact Nat.le_of_ble_eq_true rfl, by rw [hRl]; exact Nat.le_of_ble_eq_true rfl⟩) hC.ca rfl bl_1 bl_2 rfl (Nat.le_of_ble_eq_true rfl) d_Mf_addStrip_29) (fun G_40 B_41 p_42 => ?_)
  obtain ⟨V_43, C_44, fr_45⟩ := p_42
  have iv_46 : isV cA G_40 h_12 (S.v (S.rp k (j + 1))) (S.un (S.rp k (j + 1))) := isV_24 iv_16 fr_45
  have iv_47 : isV cA G_40 h_13 (S.v (S.rh k (j + 1))) (S.un (S.rh k (j + 1))) := isV_24 iv_17 fr_45
  have iv_48 : isV cA G_40 h_26 (S.v (S.rp k j)) (S.un (S.rp k j)) := isV_24 iv_30 fr_45
  have iv_49 : isV cA G_40 h_27 (S.v (S.rh k j)) (S.un (S.rh k j)) := isV_24 iv_31 fr_45
  have kq_50 : kq cA G_40 hf_23 (S.v (S.rp k (j + 1))) := kq_24 kq_25 fr_45
  have kq_51 : kq cA G_40 hf_37 (S.v (S.rp k j)) := kq_24 kq_39 fr_45
  have fr_52 : gfr (fun x => x < 24) G G_40 := gfr_24 gfr_rf fr_45
  have f_53 : G_40 h_12 = some (30, .inr (6, [.ref hf_23, .int (iI (S.un (S.rp k (j + 1))))])) := fr_45 _ _ f_24 (show ¬ (30 : Nat) < 24 by decide)
  have f_54 : G_40 h_26 = some (30, .inr (6, [.ref hf_37, .int (iI (S.un (S.rp k j)))])) := fr_45 _ _ f_38 (show ¬ (30 : Nat) < 24 by decide)
  have rb_55 : rb ((S.v (S.rp k (j + 1))) - (S.v (S.rp k j))) 201 := rb_sub rb_18 rb_32
  have bl_56 : B_41.1 ≤ MC := Nat.le_trans (w2_le C_44.w).1 hX1
  have bl_57 : B_41.2 ≤ MS := Nat.le_trans (w2_le C_44.w).2 hX2
  refine gs (pc' := 33) (fun _ _ _ _ _ hl => lv_aload_n hx hb d_Mf_addStrip_32 rfl (lv_at hl 0 rfl)) ?_
  refine g_get hx hb hts hin_Mf hown hK C_44.ob rfl 5 (by decide) (hts _ wm240) (fun _ h9 => h9) rfl d_Mf_addStrip_33 ?_
  refine gs (pc' := 37) (fun _ _ _ _ _ hl => lv_aload_n hx hb d_Mf_addStrip_36 rfl (lv_at hl 0 rfl)) ?_
  refine g_get hx hb hts hin_Mf hown hK C_44.ob rfl 7 (by decide) (hts _ wm242) (fun _ h9 => h9) rfl d_Mf_addStrip_37 ?_
  refine gs (pc' := 41) (fun _ _ _ _ _ hl => lv_aload_n hx hb d_Mf_addStrip_40 rfl (lv_at hl 1 rfl)) ?_
  obtain ⟨rc_58, pf_59, hg_60, f_61, f_62, f_63, g_64⟩ := C_44.ro k (by omega)
  obtain ⟨g_65, g_66⟩ := g_64 hk
  subst g_65
  refine g_get hx hb hts hin_Ro hown hK f_61 rfl 1 (by decide) (hts _ wm225) (fun _ h9 => h9) rfl d_Mf_addStrip_41 ?_
  refine gs (pc' := 45) (fun _ _ _ _ _ hl => lv_iload_n hx hb d_Mf_addStrip_44 rfl (lv_at hl 2 rfl)) ?_
  obtain ⟨h_67, h_68, e_69, e_70, iv_71, iv_72⟩ := g_66 (j + 1) (by omega)
  have wr_73 := hW.rp k hk (j + 1) (by omega)
  have ub_74 := (hW.v _ wr_73.1).2
  have ub_74a := ub_74.1
  have ub_74b := ub_74.2
  have ub_75 := (hW.v _ wr_73.2.1).2
  have ub_75a := ub_75.1
  have ub_75b := ub_75.2
  refine g_aalS hx hb hK 2 f_63 rfl (by omega) (by decide) e_70 d_Mf_addStrip_45 ?_
  obtain ⟨hf_76, f_77, kq_78⟩ := id iv_72
  refine g_get hx hb hts hin_Va hown hK f_77 rfl 0 (by decide) (hts _ wm523) (fun _ h9 => h9) rfl d_Mf_addStrip_46 ?_
  refine gs (pc' := 50) (fun _ _ _ _ _ hl => lv_aload_n hx hb d_Mf_addStrip_49 rfl (lv_at hl 1 rfl)) ?_
  refine g_get hx hb hts hin_Ro hown hK f_61 rfl 1 (by decide) (hts _ wm225) (fun _ h9 => h9) rfl d_Mf_addStrip_50 ?_
  refine gs (pc' := 54) (fun _ _ _ _ _ hl => lv_iload_n hx hb d_Mf_addStrip_53 rfl (lv_at hl 2 rfl)) ?_
  refine gs (pc' := 55) (fun _ _ _ _ _ hl => lv_iconst (v := nI 1) hx hb d_Mf_addStrip_54 (by decide)) ?_
  refine gs (pc' := 56) (fun _ _ _ _ _ hl => lv_isub hx hb d_Mf_addStrip_55) ?_
  refine g_eqi (show (nI (j + 1)) - (nI 1) = nI j from (pk_sub (by omega)).trans (congrArg nI (show (j + 1) - 1 = j by omega))) ?_
  obtain ⟨h_79, h_80, e_81, e_82, iv_83, iv_84⟩ := g_66 j (by omega)
  have wr_85 := hW.rp k hk j (by omega)
  have ub_86 := (hW.v _ wr_85.1).2
  have ub_86a := ub_86.1
  have ub_86b := ub_86.2
  have ub_87 := (hW.v _ wr_85.2.1).2
  have ub_87a := ub_87.1
  have ub_87b := ub_87.2
  refine g_aalS hx hb hK 2 f_63 rfl (by omega) (by decide) e_82 d_Mf_addStrip_56 ?_
  obtain ⟨hf_88, f_89, kq_90⟩ := id iv_84
  refine g_get hx hb hts hin_Va hown hK f_89 rfl 0 (by decide) (hts _ wm523) (fun _ h9 => h9) rfl d_Mf_addStrip_57 ?_
  refine gs (pc' := 61) (fun _ _ _ _ _ hl => lv_iconst (v := nI 0) hx hb d_Mf_addStrip_60 (by decide)) ?_
  refine g_outv hlo (g_runV (As := [.ref (a.fr 1), .ref hf_76, .ref hf_88, .int (nI 0)]) (rest := []) ⟨hx, hb, hml, hown, hts⟩ hK hZ hRc hRs (c3_add l D cA lo MC MS G_40 B_41 X a S (fup F 0 (some ((S.v (S.rp k (j + 1))) - (S.v (S.rp k j))))) V_43 C_44 hX1 hX2 1 (by decide) hf_76 hf_88 (S.v (S.rh k (j + 1))) (S.v (S.rh k j)) (Or.inr kq_78) (Or.inr kq_90) 100 100 rb_19 rb_33 (by decide)) (fun _ _ => cwV 4 hts (tb_good (tb_cons wm559 (tb_cons wm560 (tb_cons wm561 (tb_cons wm3 k_Ca_setSum))))) rfl rfl rfl (by decide +kernel) ⟨by rw [hRf]; exact Nat.le_of_ble_eq_true rfl, by rw [hRl]; exact Nat.le_of_ble_eq_true rfl⟩) C_44.ca rfl bl_56 bl_57 rfl (Nat.le_of_ble_eq_true rfl) d_Mf_addStrip_61) (fun G_91 B_92 p_93 => ?_)
  obtain ⟨V_94, C_95, fr_96⟩ := p_93
  have iv_97 : isV cA G_91 h_12 (S.v (S.rp k (j + 1))) (S.un (S.rp k (j + 1))) := isV_24 iv_46 fr_96
  have iv_98 : isV cA G_91 h_13 (S.v (S.rh k (j + 1))) (S.un (S.rh k (j + 1))) := isV_24 iv_47 fr_96
  have iv_99 : isV cA G_91 h_26 (S.v (S.rp k j)) (S.un (S.rp k j)) := isV_24 iv_48 fr_96
  have iv_100 : isV cA G_91 h_27 (S.v (S.rh k j)) (S.un (S.rh k j)) := isV_24 iv_49 fr_96
  have iv_101 : isV cA G_91 h_67 (S.v (S.rp k (j + 1))) (S.un (S.rp k (j + 1))) := isV_24 iv_71 fr_96
  have iv_102 : isV cA G_91 h_68 (S.v (S.rh k (j + 1))) (S.un (S.rh k (j + 1))) := isV_24 iv_72 fr_96
  have iv_103 : isV cA G_91 h_79 (S.v (S.rp k j)) (S.un (S.rp k j)) := isV_24 iv_83 fr_96
  have iv_104 : isV cA G_91 h_80 (S.v (S.rh k j)) (S.un (S.rh k j)) := isV_24 iv_84 fr_96
  have kq_105 : kq cA G_91 hf_23 (S.v (S.rp k (j + 1))) := kq_24 kq_50 fr_96
  have kq_106 : kq cA G_91 hf_37 (S.v (S.rp k j)) := kq_24 kq_51 fr_96
  have kq_107 : kq cA G_91 hf_76 (S.v (S.rh k (j + 1))) := kq_24 kq_78 fr_96
  have kq_108 : kq cA G_91 hf_88 (S.v (S.rh k j)) := kq_24 kq_90 fr_96
  have fr_109 : gfr (fun x => x < 24) G G_91 := gfr_24 fr_52 fr_96
  have f_110 : G_91 h_12 = some (30, .inr (6, [.ref hf_23, .int (iI (S.un (S.rp k (j + 1))))])) := fr_96 _ _ f_53 (show ¬ (30 : Nat) < 24 by decide)
  have f_111 : G_91 h_26 = some (30, .inr (6, [.ref hf_37, .int (iI (S.un (S.rp k j)))])) := fr_96 _ _ f_54 (show ¬ (30 : Nat) < 24 by decide)
  have f_112 : G_91 h_68 = some (30, .inr (6, [.ref hf_76, .int (iI (S.un (S.rh k (j + 1))))])) := fr_96 _ _ f_77 (show ¬ (30 : Nat) < 24 by decide)
  have f_113 : G_91 h_80 = some (30, .inr (6, [.ref hf_88, .int (iI (S.un (S.rh k j)))])) := fr_96 _ _ f_89 (show ¬ (30 : Nat) < 24 by decide)
  have rb_114 : rb ((S.v (S.rh k (j + 1))) + (S.v (S.rh k j))) 201 := rb_add rb_19 rb_33
  have bl_115 : B_92.1 ≤ MC := Nat.le_trans (w2_le C_95.w).1 hX1
  have bl_116 : B_92.2 ≤ MS := Nat.le_trans (w2_le C_95.w).2 hX2
  refine gs (pc' := 65) (fun _ _ _ _ _ hl => lv_aload_n hx hb d_Mf_addStrip_64 rfl (lv_at hl 0 rfl)) ?_
  refine g_get hx hb hts hin_Mf hown hK C_95.ob rfl 5 (by decide) (hts _ wm240) (fun _ h9 => h9) rfl d_Mf_addStrip_65 ?_
  refine gs (pc' := 69) (fun _ _ _ _ _ hl => lv_aload_n hx hb d_Mf_addStrip_68 rfl (lv_at hl 0 rfl)) ?_
  refine g_get hx hb hts hin_Mf hown hK C_95.ob rfl 8 (by decide) (hts _ wm243) (fun _ h9 => h9) rfl d_Mf_addStrip_69 ?_
  refine gs (pc' := 73) (fun _ _ _ _ _ hl => lv_aload_n hx hb d_Mf_addStrip_72 rfl (lv_at hl 0 rfl)) ?_
  refine g_get hx hb hts hin_Mf hown hK C_95.ob rfl 6 (by decide) (hts _ wm241) (fun _ h9 => h9) rfl d_Mf_addStrip_73 ?_
  refine gs (pc' := 77) (fun _ _ _ _ _ hl => lv_aload_n hx hb d_Mf_addStrip_76 rfl (lv_at hl 0 rfl)) ?_
  refine g_get hx hb hts hin_Mf hown hK C_95.ob rfl 7 (by decide) (hts _ wm242) (fun _ h9 => h9) rfl d_Mf_addStrip_77 ?_
  refine gs (pc' := 81) (fun _ _ _ _ _ hl => lv_iconst (v := nI 0) hx hb d_Mf_addStrip_80 (by decide)) ?_
  refine g_outv hlo (g_runV (As := [.ref (a.fr 2), .ref (a.fr 0), .ref (a.fr 1), .int (nI 0)]) (rest := []) ⟨hx, hb, hml, hown, hts⟩ hK hZ hRc hRs (c3_mul l D cA lo MC MS G_91 B_92 X a S (fup (fup F 0 (some ((S.v (S.rp k (j + 1))) - (S.v (S.rp k j))))) 1 (some ((S.v (S.rh k (j + 1))) + (S.v (S.rh k j))))) V_94 C_95 hX1 hX2 2 (by decide) (a.fr 0) (a.fr 1) ((S.v (S.rp k (j + 1))) - (S.v (S.rp k j))) ((S.v (S.rh k (j + 1))) + (S.v (S.rh k j))) (Or.inl ⟨0, by decide, by decide, rfl, rfl⟩) (Or.inl ⟨1, by decide, by decide, rfl, rfl⟩) 201 201 rb_55 rb_114 (by decide)) (fun _ _ => cwV 4 hts (tb_good (tb_cons wm588 (tb_cons wm589 (tb_cons wm590 (tb_cons wm3 k_Ca_setProduct))))) rfl rfl rfl (by decide +kernel) ⟨by rw [hRf]; exact Nat.le_of_ble_eq_true rfl, by rw [hRl]; exact Nat.le_of_ble_eq_true rfl⟩) C_95.ca rfl bl_115 bl_116 rfl (Nat.le_of_ble_eq_true rfl) d_Mf_addStrip_81) (fun G_117 B_118 p_119 => ?_)
  obtain ⟨V_120, C_121, fr_122⟩ := p_119
  have iv_123 : isV cA G_117 h_12 (S.v (S.rp k (j + 1))) (S.un (S.rp k (j + 1))) := isV_24 iv_97 fr_122
  have iv_124 : isV cA G_117 h_13 (S.v (S.rh k (j + 1))) (S.un (S.rh k (j + 1))) := isV_24 iv_98 fr_122
  have iv_125 : isV cA G_117 h_26 (S.v (S.rp k j)) (S.un (S.rp k j)) := isV_24 iv_99 fr_122
  have iv_126 : isV cA G_117 h_27 (S.v (S.rh k j)) (S.un (S.rh k j)) := isV_24 iv_100 fr_122
  have iv_127 : isV cA G_117 h_67 (S.v (S.rp k (j + 1))) (S.un (S.rp k (j + 1))) := isV_24 iv_101 fr_122
  have iv_128 : isV cA G_117 h_68 (S.v (S.rh k (j + 1))) (S.un (S.rh k (j + 1))) := isV_24 iv_102 fr_122
  have iv_129 : isV cA G_117 h_79 (S.v (S.rp k j)) (S.un (S.rp k j)) := isV_24 iv_103 fr_122
  have iv_130 : isV cA G_117 h_80 (S.v (S.rh k j)) (S.un (S.rh k j)) := isV_24 iv_104 fr_122
  have kq_131 : kq cA G_117 hf_23 (S.v (S.rp k (j + 1))) := kq_24 kq_105 fr_122
  have kq_132 : kq cA G_117 hf_37 (S.v (S.rp k j)) := kq_24 kq_106 fr_122
  have kq_133 : kq cA G_117 hf_76 (S.v (S.rh k (j + 1))) := kq_24 kq_107 fr_122
  have kq_134 : kq cA G_117 hf_88 (S.v (S.rh k j)) := kq_24 kq_108 fr_122
  have fr_135 : gfr (fun x => x < 24) G G_117 := gfr_24 fr_109 fr_122
  have f_136 : G_117 h_12 = some (30, .inr (6, [.ref hf_23, .int (iI (S.un (S.rp k (j + 1))))])) := fr_122 _ _ f_110 (show ¬ (30 : Nat) < 24 by decide)
  have f_137 : G_117 h_26 = some (30, .inr (6, [.ref hf_37, .int (iI (S.un (S.rp k j)))])) := fr_122 _ _ f_111 (show ¬ (30 : Nat) < 24 by decide)
  have f_138 : G_117 h_68 = some (30, .inr (6, [.ref hf_76, .int (iI (S.un (S.rh k (j + 1))))])) := fr_122 _ _ f_112 (show ¬ (30 : Nat) < 24 by decide)
  have f_139 : G_117 h_80 = some (30, .inr (6, [.ref hf_88, .int (iI (S.un (S.rh k j)))])) := fr_122 _ _ f_113 (show ¬ (30 : Nat) < 24 by decide)
  have rb_140 : rb (((S.v (S.rp k (j + 1))) - (S.v (S.rp k j))) * ((S.v (S.rh k (j + 1))) + (S.v (S.rh k j)))) 402 := rb_mul rb_55 rb_114
  have bl_141 : B_118.1 ≤ MC := Nat.le_trans (w2_le C_121.w).1 hX1
  have bl_142 : B_118.2 ≤ MS := Nat.le_trans (w2_le C_121.w).2 hX2
  refine gs (pc' := 85) (fun _ _ _ _ _ hl => lv_aload_n hx hb d_Mf_addStrip_84 rfl (lv_at hl 0 rfl)) ?_
  refine g_get hx hb hts hin_Mf hown hK C_121.ob rfl 5 (by decide) (hts _ wm240) (fun _ h9 => h9) rfl d_Mf_addStrip_85 ?_
  refine gs (pc' := 89) (fun _ _ _ _ _ hl => lv_aload_n hx hb d_Mf_addStrip_88 rfl (lv_at hl 0 rfl)) ?_
  refine g_get hx hb hts hin_Mf hown hK C_121.ob rfl 6 (by decide) (hts _ wm241) (fun _ h9 => h9) rfl d_Mf_addStrip_89 ?_
  refine gs (pc' := 93) (fun _ _ _ _ _ hl => lv_aload_n hx hb d_Mf_addStrip_92 rfl (lv_at hl 0 rfl)) ?_
  refine g_get hx hb hts hin_Mf hown hK C_121.ob rfl 8 (by decide) (hts _ wm243) (fun _ h9 => h9) rfl d_Mf_addStrip_93 ?_
  refine gs (pc' := 97) (fun _ _ _ _ _ hl => lv_aload_n hx hb d_Mf_addStrip_96 rfl (lv_at hl 0 rfl)) ?_
  refine g_get hx hb hts hin_Mf hown hK C_121.ob rfl 12 (by decide) (hts _ wm247) (fun _ h9 => h9) rfl d_Mf_addStrip_97 ?_
  refine gs (pc' := 101) (fun _ _ _ _ _ hl => lv_iconst (v := nI 0) hx hb d_Mf_addStrip_100 (by decide)) ?_
  refine g_outv hlo (g_runV (As := [.ref (a.fr 0), .ref (a.fr 2), .ref a.ha, .int (nI 0)]) (rest := []) ⟨hx, hb, hml, hown, hts⟩ hK hZ hRc hRs (c3_mul l D cA lo MC MS G_117 B_118 X a S (fup (fup (fup F 0 (some ((S.v (S.rp k (j + 1))) - (S.v (S.rp k j))))) 1 (some ((S.v (S.rh k (j + 1))) + (S.v (S.rh k j))))) 2 (some (((S.v (S.rp k (j + 1))) - (S.v (S.rp k j))) * ((S.v (S.rh k (j + 1))) + (S.v (S.rh k j)))))) V_120 C_121 hX1 hX2 0 (by decide) (a.fr 2) a.ha (((S.v (S.rp k (j + 1))) - (S.v (S.rp k j))) * ((S.v (S.rh k (j + 1))) + (S.v (S.rh k j)))) (mkRat 1 2) (Or.inl ⟨2, by decide, by decide, rfl, rfl⟩) (Or.inr C_121.ha) 402 1 rb_140 rb_2 (by decide)) (fun _ _ => cwV 4 hts (tb_good (tb_cons wm588 (tb_cons wm589 (tb_cons wm590 (tb_cons wm3 k_Ca_setProduct))))) rfl rfl rfl (by decide +kernel) ⟨by rw [hRf]; exact Nat.le_of_ble_eq_true rfl, by rw [hRl]; exact Nat.le_of_ble_eq_true rfl⟩) C_121.ca rfl bl_141 bl_142 rfl (Nat.le_of_ble_eq_true rfl) d_Mf_addStrip_101) (fun G_143 B_144 p_145 => ?_)
  obtain ⟨V_146, C_147, fr_148⟩ := p_145
  have iv_149 : isV cA G_143 h_12 (S.v (S.rp k (j + 1))) (S.un (S.rp k (j + 1))) := isV_24 iv_123 fr_148
  have iv_150 : isV cA G_143 h_13 (S.v (S.rh k (j + 1))) (S.un (S.rh k (j + 1))) := isV_24 iv_124 fr_148
  have iv_151 : isV cA G_143 h_26 (S.v (S.rp k j)) (S.un (S.rp k j)) := isV_24 iv_125 fr_148
  have iv_152 : isV cA G_143 h_27 (S.v (S.rh k j)) (S.un (S.rh k j)) := isV_24 iv_126 fr_148
  have iv_153 : isV cA G_143 h_67 (S.v (S.rp k (j + 1))) (S.un (S.rp k (j + 1))) := isV_24 iv_127 fr_148
  have iv_154 : isV cA G_143 h_68 (S.v (S.rh k (j + 1))) (S.un (S.rh k (j + 1))) := isV_24 iv_128 fr_148
  have iv_155 : isV cA G_143 h_79 (S.v (S.rp k j)) (S.un (S.rp k j)) := isV_24 iv_129 fr_148
  have iv_156 : isV cA G_143 h_80 (S.v (S.rh k j)) (S.un (S.rh k j)) := isV_24 iv_130 fr_148
  have kq_157 : kq cA G_143 hf_23 (S.v (S.rp k (j + 1))) := kq_24 kq_131 fr_148
  have kq_158 : kq cA G_143 hf_37 (S.v (S.rp k j)) := kq_24 kq_132 fr_148
  have kq_159 : kq cA G_143 hf_76 (S.v (S.rh k (j + 1))) := kq_24 kq_133 fr_148
  have kq_160 : kq cA G_143 hf_88 (S.v (S.rh k j)) := kq_24 kq_134 fr_148
  have fr_161 : gfr (fun x => x < 24) G G_143 := gfr_24 fr_135 fr_148
  have f_162 : G_143 h_12 = some (30, .inr (6, [.ref hf_23, .int (iI (S.un (S.rp k (j + 1))))])) := fr_148 _ _ f_136 (show ¬ (30 : Nat) < 24 by decide)
  have f_163 : G_143 h_26 = some (30, .inr (6, [.ref hf_37, .int (iI (S.un (S.rp k j)))])) := fr_148 _ _ f_137 (show ¬ (30 : Nat) < 24 by decide)
  have f_164 : G_143 h_68 = some (30, .inr (6, [.ref hf_76, .int (iI (S.un (S.rh k (j + 1))))])) := fr_148 _ _ f_138 (show ¬ (30 : Nat) < 24 by decide)
  have f_165 : G_143 h_80 = some (30, .inr (6, [.ref hf_88, .int (iI (S.un (S.rh k j)))])) := fr_148 _ _ f_139 (show ¬ (30 : Nat) < 24 by decide)
  have rb_166 : rb ((((S.v (S.rp k (j + 1))) - (S.v (S.rp k j))) * ((S.v (S.rh k (j + 1))) + (S.v (S.rh k j)))) * (mkRat 1 2)) 403 := rb_mul rb_140 rb_2
  have bl_167 : B_144.1 ≤ MC := Nat.le_trans (w2_le C_147.w).1 hX1
  have bl_168 : B_144.2 ≤ MS := Nat.le_trans (w2_le C_147.w).2 hX2
  refine gs (pc' := 105) (fun _ _ _ _ _ hl => lv_aload_n hx hb d_Mf_addStrip_104 rfl (lv_at hl 0 rfl)) ?_
  refine g_get hx hb hts hin_Mf hown hK C_147.ob rfl 5 (by decide) (hts _ wm240) (fun _ h9 => h9) rfl d_Mf_addStrip_105 ?_
  refine gs (pc' := 109) (fun _ _ _ _ _ hl => lv_aload_n hx hb d_Mf_addStrip_108 rfl (lv_at hl 0 rfl)) ?_
  refine g_get hx hb hts hin_Mf hown hK C_147.ob rfl 7 (by decide) (hts _ wm242) (fun _ h9 => h9) rfl d_Mf_addStrip_109 ?_
  refine gs (pc' := 113) (fun _ _ _ _ _ hl => lv_aload_n hx hb d_Mf_addStrip_112 rfl (lv_at hl 0 rfl)) ?_
  refine g_get hx hb hts hin_Mf hown hK C_147.ob rfl 9 (by decide) (hts _ wm244) (fun _ h9 => h9) rfl d_Mf_addStrip_113 ?_
  refine gs (pc' := 117) (fun _ _ _ _ _ hl => lv_aload_n hx hb d_Mf_addStrip_116 rfl (lv_at hl 0 rfl)) ?_
  refine g_get hx hb hts hin_Mf hown hK C_147.ob rfl 6 (by decide) (hts _ wm241) (fun _ h9 => h9) rfl d_Mf_addStrip_117 ?_
  refine gs (pc' := 121) (fun _ _ _ _ _ hl => lv_iconst (v := nI 0) hx hb d_Mf_addStrip_120 (by decide)) ?_
  refine g_outv hlo (g_runV (As := [.ref (a.fr 1), .ref (a.fr 3), .ref (a.fr 0), .int (nI 0)]) (rest := []) ⟨hx, hb, hml, hown, hts⟩ hK hZ hRc hRs (c3_add l D cA lo MC MS G_143 B_144 X a S (fup (fup (fup (fup F 0 (some ((S.v (S.rp k (j + 1))) - (S.v (S.rp k j))))) 1 (some ((S.v (S.rh k (j + 1))) + (S.v (S.rh k j))))) 2 (some (((S.v (S.rp k (j + 1))) - (S.v (S.rp k j))) * ((S.v (S.rh k (j + 1))) + (S.v (S.rh k j)))))) 0 (some ((((S.v (S.rp k (j + 1))) - (S.v (S.rp k j))) * ((S.v (S.rh k (j + 1))) + (S.v (S.rh k j)))) * (mkRat 1 2)))) V_146 C_147 hX1 hX2 1 (by decide) (a.fr 3) (a.fr 0) ss ((((S.v (S.rp k (j + 1))) - (S.v (S.rp k j))) * ((S.v (S.rh k (j + 1))) + (S.v (S.rh k j)))) * (mkRat 1 2)) (Or.inl ⟨3, by decide, by decide, rfl, hF⟩) (Or.inl ⟨0, by decide, by decide, rfl, rfl⟩) 100 403 hrs rb_166 (by decide)) (fun _ _ => cwV 4 hts (tb_good (tb_cons wm559 (tb_cons wm560 (tb_cons wm561 (tb_cons wm3 k_Ca_setSum))))) rfl rfl rfl (by decide +kernel) ⟨by rw [hRf]; exact Nat.le_of_ble_eq_true rfl, by rw [hRl]; exact Nat.le_of_ble_eq_true rfl⟩) C_147.ca rfl bl_167 bl_168 rfl (Nat.le_of_ble_eq_true rfl) d_Mf_addStrip_121) (fun G_169 B_170 p_171 => ?_)
  obtain ⟨V_172, C_173, fr_174⟩ := p_171
  have iv_175 : isV cA G_169 h_12 (S.v (S.rp k (j + 1))) (S.un (S.rp k (j + 1))) := isV_24 iv_149 fr_174
  have iv_176 : isV cA G_169 h_13 (S.v (S.rh k (j + 1))) (S.un (S.rh k (j + 1))) := isV_24 iv_150 fr_174
  have iv_177 : isV cA G_169 h_26 (S.v (S.rp k j)) (S.un (S.rp k j)) := isV_24 iv_151 fr_174
  have iv_178 : isV cA G_169 h_27 (S.v (S.rh k j)) (S.un (S.rh k j)) := isV_24 iv_152 fr_174
  have iv_179 : isV cA G_169 h_67 (S.v (S.rp k (j + 1))) (S.un (S.rp k (j + 1))) := isV_24 iv_153 fr_174
  have iv_180 : isV cA G_169 h_68 (S.v (S.rh k (j + 1))) (S.un (S.rh k (j + 1))) := isV_24 iv_154 fr_174
  have iv_181 : isV cA G_169 h_79 (S.v (S.rp k j)) (S.un (S.rp k j)) := isV_24 iv_155 fr_174
  have iv_182 : isV cA G_169 h_80 (S.v (S.rh k j)) (S.un (S.rh k j)) := isV_24 iv_156 fr_174
  have kq_183 : kq cA G_169 hf_23 (S.v (S.rp k (j + 1))) := kq_24 kq_157 fr_174
  have kq_184 : kq cA G_169 hf_37 (S.v (S.rp k j)) := kq_24 kq_158 fr_174
  have kq_185 : kq cA G_169 hf_76 (S.v (S.rh k (j + 1))) := kq_24 kq_159 fr_174
  have kq_186 : kq cA G_169 hf_88 (S.v (S.rh k j)) := kq_24 kq_160 fr_174
  have fr_187 : gfr (fun x => x < 24) G G_169 := gfr_24 fr_161 fr_174
  have f_188 : G_169 h_12 = some (30, .inr (6, [.ref hf_23, .int (iI (S.un (S.rp k (j + 1))))])) := fr_174 _ _ f_162 (show ¬ (30 : Nat) < 24 by decide)
  have f_189 : G_169 h_26 = some (30, .inr (6, [.ref hf_37, .int (iI (S.un (S.rp k j)))])) := fr_174 _ _ f_163 (show ¬ (30 : Nat) < 24 by decide)
  have f_190 : G_169 h_68 = some (30, .inr (6, [.ref hf_76, .int (iI (S.un (S.rh k (j + 1))))])) := fr_174 _ _ f_164 (show ¬ (30 : Nat) < 24 by decide)
  have f_191 : G_169 h_80 = some (30, .inr (6, [.ref hf_88, .int (iI (S.un (S.rh k j)))])) := fr_174 _ _ f_165 (show ¬ (30 : Nat) < 24 by decide)
  have rb_192 : rb (ss + ((((S.v (S.rp k (j + 1))) - (S.v (S.rp k j))) * ((S.v (S.rh k (j + 1))) + (S.v (S.rh k j)))) * (mkRat 1 2))) 504 := rb_add hrs rb_166
  have bl_193 : B_170.1 ≤ MC := Nat.le_trans (w2_le C_173.w).1 hX1
  have bl_194 : B_170.2 ≤ MS := Nat.le_trans (w2_le C_173.w).2 hX2
  refine gs (pc' := 125) (fun _ _ _ _ _ hl => lv_aload_n hx hb d_Mf_addStrip_124 rfl (lv_at hl 0 rfl)) ?_
  refine g_get hx hb hts hin_Mf hown hK C_173.ob rfl 9 (by decide) (hts _ wm244) (fun _ h9 => h9) rfl d_Mf_addStrip_125 ?_
  refine gs (pc' := 129) (fun _ _ _ _ _ hl => lv_aload_n hx hb d_Mf_addStrip_128 rfl (lv_at hl 0 rfl)) ?_
  refine g_get hx hb hts hin_Mf hown hK C_173.ob rfl 7 (by decide) (hts _ wm242) (fun _ h9 => h9) rfl d_Mf_addStrip_129 ?_
  obtain ⟨sg_195, f_196, g_197⟩ := C_173.fr 3 (by decide)
  refine g_outv hlo (g_runV (As := [.ref (a.fr 1)]) (rest := []) ⟨hx, hb, hml, hown, hts⟩ hK hZ hRc hRs (c3_to l D cA lo MC MS G_169 B_170 X a S (fup (fup (fup (fup (fup F 0 (some ((S.v (S.rp k (j + 1))) - (S.v (S.rp k j))))) 1 (some ((S.v (S.rh k (j + 1))) + (S.v (S.rh k j))))) 2 (some (((S.v (S.rp k (j + 1))) - (S.v (S.rp k j))) * ((S.v (S.rh k (j + 1))) + (S.v (S.rh k j)))))) 0 (some ((((S.v (S.rp k (j + 1))) - (S.v (S.rp k j))) * ((S.v (S.rh k (j + 1))) + (S.v (S.rh k j)))) * (mkRat 1 2)))) 1 (some (ss + ((((S.v (S.rp k (j + 1))) - (S.v (S.rp k j))) * ((S.v (S.rh k (j + 1))) + (S.v (S.rh k j)))) * (mkRat 1 2))))) V_172 C_173 hX1 hX2 3 (by decide) (a.fr 1) (ss + ((((S.v (S.rp k (j + 1))) - (S.v (S.rp k j))) * ((S.v (S.rh k (j + 1))) + (S.v (S.rh k j)))) * (mkRat 1 2))) (Or.inl ⟨1, by decide, by decide, rfl, rfl⟩) 504 rb_192 (by decide)) (fun _ _ => cwV 1 hts (tb_good (tb_cons wm696 (tb_cons wm514 (tb_cons wm515 (tb_cons wm8 k_Fr_setTo))))) rfl rfl rfl (by decide +kernel) ⟨by rw [hRf]; exact Nat.le_of_ble_eq_true rfl, by rw [hRl]; exact Nat.le_of_ble_eq_true rfl⟩) f_196 rfl bl_193 bl_194 rfl (Nat.le_of_ble_eq_true rfl) d_Mf_addStrip_132) (fun G_198 B_199 p_200 => ?_)
  obtain ⟨V_201, C_202, fr_203⟩ := p_200
  have iv_204 : isV cA G_198 h_12 (S.v (S.rp k (j + 1))) (S.un (S.rp k (j + 1))) := isV_24 iv_175 fr_203
  have iv_205 : isV cA G_198 h_13 (S.v (S.rh k (j + 1))) (S.un (S.rh k (j + 1))) := isV_24 iv_176 fr_203
  have iv_206 : isV cA G_198 h_26 (S.v (S.rp k j)) (S.un (S.rp k j)) := isV_24 iv_177 fr_203
  have iv_207 : isV cA G_198 h_27 (S.v (S.rh k j)) (S.un (S.rh k j)) := isV_24 iv_178 fr_203
  have iv_208 : isV cA G_198 h_67 (S.v (S.rp k (j + 1))) (S.un (S.rp k (j + 1))) := isV_24 iv_179 fr_203
  have iv_209 : isV cA G_198 h_68 (S.v (S.rh k (j + 1))) (S.un (S.rh k (j + 1))) := isV_24 iv_180 fr_203
  have iv_210 : isV cA G_198 h_79 (S.v (S.rp k j)) (S.un (S.rp k j)) := isV_24 iv_181 fr_203
  have iv_211 : isV cA G_198 h_80 (S.v (S.rh k j)) (S.un (S.rh k j)) := isV_24 iv_182 fr_203
  have kq_212 : kq cA G_198 hf_23 (S.v (S.rp k (j + 1))) := kq_24 kq_183 fr_203
  have kq_213 : kq cA G_198 hf_37 (S.v (S.rp k j)) := kq_24 kq_184 fr_203
  have kq_214 : kq cA G_198 hf_76 (S.v (S.rh k (j + 1))) := kq_24 kq_185 fr_203
  have kq_215 : kq cA G_198 hf_88 (S.v (S.rh k j)) := kq_24 kq_186 fr_203
  have fr_216 : gfr (fun x => x < 24) G G_198 := gfr_24 fr_187 fr_203
  have f_217 : G_198 h_12 = some (30, .inr (6, [.ref hf_23, .int (iI (S.un (S.rp k (j + 1))))])) := fr_203 _ _ f_188 (show ¬ (30 : Nat) < 24 by decide)
  have f_218 : G_198 h_26 = some (30, .inr (6, [.ref hf_37, .int (iI (S.un (S.rp k j)))])) := fr_203 _ _ f_189 (show ¬ (30 : Nat) < 24 by decide)
  have f_219 : G_198 h_68 = some (30, .inr (6, [.ref hf_76, .int (iI (S.un (S.rh k (j + 1))))])) := fr_203 _ _ f_190 (show ¬ (30 : Nat) < 24 by decide)
  have f_220 : G_198 h_80 = some (30, .inr (6, [.ref hf_88, .int (iI (S.un (S.rh k j)))])) := fr_203 _ _ f_191 (show ¬ (30 : Nat) < 24 by decide)
  have bl_221 : B_199.1 ≤ MC := Nat.le_trans (w2_le C_202.w).1 hX1
  have bl_222 : B_199.2 ≤ MS := Nat.le_trans (w2_le C_202.w).2 hX2
  exact hret 135 _ _ _ d_Mf_addStrip_135 bl_221 bl_222 ⟨_, V_201, C_202, rfl, rb_up rb_192 (by decide), fr_216⟩
set_option maxHeartbeats 4000000 in
set_option maxRecDepth 100000 in
theorem c_Mf_area (l : Launch) (D : va_G) (cA : Nat → ClassId) (lo MC MS : Nat) (G : gT) (B : Nat × Nat) (X : Nat × Nat) (a : AX) (S : St) (F : Nat → Option Rat) (V : Nat → Nat) (hC : CW cA X a S F V (G, B)) (hW : WF S) (g : Int) (hg1 : -2147483648 ≤ g) (hg2 : g < 2147483648) (hk : (sp_area S (iI g)).1 = 0) (hY1 : X.1 + 6 ≤ MC) (hY2 : X.2 + 209 ≤ MS) : gMet l y_Mf_area w_Mf_area 8 212 D clS (gtys cA) lo MC MS [.ref a.x, .int (iI g)] G B (gQi D clS lo (fun r u => r = iI (sp_area S (iI g)).2.1 ∧ CW3 cA (X.1 + 6, X.2 + 209) a (sp_area S (iI g)).2.2 u ∧ gfr (fun x => x < 70) G u.1)) := by
  refine g_meti (cc := prog_1_method_15_code) (nL := 5) (L := [(0, .ref a.x), (1, .int (iI g))]) (by decide +kernel) rfl (Nat.le_of_ble_eq_true rfl) rfl ?_
  intro p e R s m args below meth c Q hF hRc hRs hRf hRl hret
  obtain ⟨hx, hb, hr, hml, hts0, hown, hlocks, hin, hK, hlo, hZ⟩ := hF
  have hts : ∀ w ∈ tbg, w.before args s = true := fun w h => hts0 w (List.mem_cons_of_mem _ h)
  have hX1 : X.1 ≤ MC := by omega
  have hX2 : X.2 ≤ MS := by omega
  have hn := hW.n
  have hrn := hW.rn
  have hwn := hW.wn
  have bl_1 : B.1 ≤ MC := Nat.le_trans (w2_le hC.w).1 hX1
  have bl_2 : B.2 ≤ MS := Nat.le_trans (w2_le hC.w).2 hX2
  have hv : ri S (iI g) := by
    by_cases z9 : ri S (iI g)
    · exact z9
    · rw [sp_area, if_pos z9] at hk; exact absurd hk (by decide)
  obtain ⟨k, hi_k, hxe_g, ei_k⟩ := ix_of hv.1 hv.2
  rw [hxe_g]
  have hrc := hW.rc k hi_k
  have hsp : sp_area S (iI g) = if S.rc k < 2 then (0, -5, S) else if ¬ uok (S.un (S.rp k 0) + S.un (S.rh k 0)) then (0, -2, S) else if S.n = 200 then (0, -3, S) else match ars (strip S k) (S.rc k - 1) with
    | none => (0, -4, S)
    | some s => kp S s (S.un (S.rp k 0) + S.un (S.rh k 0)) := by
    rw [sp_area, if_neg (fun z9 => z9 hv), ei_k]
  refine gs (pc' := 1) (fun _ _ _ _ _ hl => lv_aload_n hx hb d_Mf_area_0 rfl (lv_at hl 0 rfl)) ?_
  refine gs (pc' := 2) (fun _ _ _ _ _ hl => lv_iload_n hx hb d_Mf_area_1 rfl (lv_at hl 1 rfl)) ?_
  refine g_outr hlo (g_runV (As := [.int (nI k)]) (rest := []) ⟨hx, hb, hml, hown, hts⟩ hK hZ hRc hRs (c_Mf_rowOf l D cA lo MC MS G B X a S F V hC hW k (by omega) hX1 hX2) (fun _ _ => cwV 1 hts (tb_good (tb_cons wm672 (tb_cons wm674 (tb_cons ws14 (tb_cons wm1 k_Mf_rowOf))))) rfl rfl rfl (by decide +kernel) ⟨by rw [hRf]; exact Nat.le_of_ble_eq_true rfl, by rw [hRl]; exact Nat.le_of_ble_eq_true rfl⟩) hC.ob rfl bl_1 bl_2 rfl (Nat.le_of_ble_eq_true rfl) d_Mf_area_2) (fun r_6 G_3 B_4 p_5 => ?_)
  obtain ⟨u_7, e_8⟩ := p_5
  cases u_7
  subst e_8
  refine gst (pc' := 6) (L' := [(2, .ref (a.ro k)), (0, .ref a.x), (1, .int (nI k))]) (fun _ _ _ _ _ hl => lv_astore_n hx hb d_Mf_area_5 rfl hl (by decide) rfl) ?_
  refine gs (pc' := 7) (fun _ _ _ _ _ hl => lv_aload_n hx hb d_Mf_area_6 rfl (lv_at hl 0 rfl)) ?_
  obtain ⟨rc_9, pf_10, hg_11, f_12, f_13, f_14, g_15⟩ := hC.ro k (by omega)
  obtain ⟨g_16, g_17⟩ := g_15 hi_k
  subst g_16
  refine g_get hx hb hts hin_Ro hown hK f_12 rfl 2 (by decide) (hts _ wm227) (fun _ h9 => h9) rfl d_Mf_area_7 ?_
  refine gs (pc' := 11) (fun _ _ _ _ _ hl => lv_iconst (v := nI 2) hx hb d_Mf_area_10 (by decide)) ?_
  refine gsb (pc1 := 17) (pc2 := 14) (fun _ _ _ _ _ => lv_icmp_ge (tgt := 17) hx hb d_Mf_area_11 (by decide)) (fun c_18 => ?_) (fun c_18 => ?_)
  · skip
    have nc_18 : (S.rc k) ≥ 2 := (nn_ge (a := (S.rc k)) (b := 2) (by omega) (by omega)).1 c_18
    have hc2 : ¬ S.rc k < 2 := by omega
    refine gs (pc' := 18) (fun _ _ _ _ _ hl => lv_aload_n hx hb d_Mf_area_17 rfl (lv_at hl 0 rfl)) ?_
    refine g_get hx hb hts hin_Ro hown hK f_12 rfl 0 (by decide) (hts _ wm223) (fun _ h9 => h9) rfl d_Mf_area_18 ?_
    refine gs (pc' := 22) (fun _ _ _ _ _ hl => lv_iconst (v := nI 0) hx hb d_Mf_area_21 (by decide)) ?_
    obtain ⟨h_19, h_20, e_21, e_22, iv_23, iv_24⟩ := g_17 0 (by omega)
    have rb_25 : rb (S.v (S.rp k 0)) 100 := rb_of (hW.v _ (hW.rp k hi_k 0 (by omega)).1).1
    have rb_26 : rb (S.v (S.rh k 0)) 100 := rb_of (hW.v _ (hW.rp k hi_k 0 (by omega)).2.1).1
    have wr_27 := hW.rp k hi_k 0 (by omega)
    have ub_28 := (hW.v _ wr_27.1).2
    have ub_28a := ub_28.1
    have ub_28b := ub_28.2
    have ub_29 := (hW.v _ wr_27.2.1).2
    have ub_29a := ub_29.1
    have ub_29b := ub_29.2
    refine g_aalS hx hb hK 2 f_13 rfl (by omega) (by decide) e_21 d_Mf_area_22 ?_
    obtain ⟨hf_30, f_31, kq_32⟩ := id iv_23
    refine g_get hx hb hts hin_Va hown hK f_31 rfl 1 (by decide) (hts _ wm525) (fun _ h9 => h9) rfl d_Mf_area_23 ?_
    refine gs (pc' := 27) (fun _ _ _ _ _ hl => lv_aload_n hx hb d_Mf_area_26 rfl (lv_at hl 0 rfl)) ?_
    refine g_get hx hb hts hin_Ro hown hK f_12 rfl 1 (by decide) (hts _ wm225) (fun _ h9 => h9) rfl d_Mf_area_27 ?_
    refine gs (pc' := 31) (fun _ _ _ _ _ hl => lv_iconst (v := nI 0) hx hb d_Mf_area_30 (by decide)) ?_
    obtain ⟨h_33, h_34, e_35, e_36, iv_37, iv_38⟩ := g_17 0 (by omega)
    have wr_39 := hW.rp k hi_k 0 (by omega)
    have ub_40 := (hW.v _ wr_39.1).2
    have ub_40a := ub_40.1
    have ub_40b := ub_40.2
    have ub_41 := (hW.v _ wr_39.2.1).2
    have ub_41a := ub_41.1
    have ub_41b := ub_41.2
    refine g_aalS hx hb hK 2 f_14 rfl (by omega) (by decide) e_36 d_Mf_area_31 ?_
    obtain ⟨hf_42, f_43, kq_44⟩ := id iv_38
    refine g_get hx hb hts hin_Va hown hK f_43 rfl 1 (by decide) (hts _ wm525) (fun _ h9 => h9) rfl d_Mf_area_32 ?_
    refine gs (pc' := 36) (fun _ _ _ _ _ hl => lv_iadd hx hb d_Mf_area_35) ?_
    refine g_eqi (show (iI (S.un (S.rp k 0))) + (iI (S.un (S.rh k 0))) = iI ((S.un (S.rp k 0)) + (S.un (S.rh k 0))) from by exact iI_add _ _) ?_
    refine gst (pc' := 37) (L' := [(3, .int (iI ((S.un (S.rp k 0)) + (S.un (S.rh k 0))))), (2, .ref (a.ro k)), (0, .ref a.x), (1, .int (nI k))]) (fun _ _ _ _ _ hl => lv_istore_n hx hb d_Mf_area_36 rfl hl (by decide) rfl) ?_
    refine gs (pc' := 38) (fun _ _ _ _ _ hl => lv_iload_n hx hb d_Mf_area_37 rfl (lv_at hl 0 rfl)) ?_
    refine g_outi hlo (g_runS (As := [.int (iI ((S.un (S.rp k 0)) + (S.un (S.rh k 0))))]) (rest := []) ⟨hx, hb, hml, hown, hts⟩ hK hZ hRc hRs (c_Mf_isUnit l D cA lo MC MS G B ((S.un (S.rp k 0)) + (S.un (S.rh k 0))) (by omega) (by omega) bl_1 bl_2) (fun _ _ => va_cwS 1 hts (tb_good (tb_cons wm367 (tb_cons wm368 (tb_cons wm1 k_Mf_isUnit)))) rfl rfl rfl (by decide +kernel) ⟨by rw [hRf]; exact Nat.le_of_ble_eq_true rfl, by rw [hRl]; exact Nat.le_of_ble_eq_true rfl⟩) bl_1 bl_2 rfl (Nat.le_of_ble_eq_true rfl) d_Mf_area_38) (fun r_48 G_45 B_46 p_47 => ?_)
    obtain ⟨u_49, e_50⟩ := p_47
    cases u_49
    subst e_50
    have bd_51 := b01_le (decide (uok ((S.un (S.rp k 0)) + (S.un (S.rh k 0)))))
    refine gsb (pc1 := 47) (pc2 := 44) (fun _ _ _ _ _ => lv_if_ne (tgt := 47) hx hb d_Mf_area_41 (by decide)) (fun c_52 => ?_) (fun c_52 => ?_)
    · skip
      have nc_52 : (b01 (decide (uok ((S.un (S.rp k 0)) + (S.un (S.rh k 0)))))) ≠ 0 := (n0_ne (a := (b01 (decide (uok ((S.un (S.rp k 0)) + (S.un (S.rh k 0))))))) (by omega)).1 c_52
      have hu : ¬ ¬ uok (S.un (S.rp k 0) + S.un (S.rh k 0)) := fun z9 => z9 (b01_1 nc_52)
      refine gs (pc' := 48) (fun _ _ _ _ _ hl => lv_aload_n hx hb d_Mf_area_47 rfl (lv_at hl 2 rfl)) ?_
      refine g_outi hlo (g_runV (As := []) (rest := []) ⟨hx, hb, hml, hown, hts⟩ hK hZ hRc hRs (c_Mf_isFull l D cA lo MC MS G B X a S F V hC hW hX1 hX2) (fun _ _ => cwV 0 hts (tb_good (tb_cons wm386 (tb_cons wm388 (tb_cons ws1 (tb_cons wm1 k_Mf_isFull))))) rfl rfl rfl (by decide +kernel) ⟨by rw [hRf]; exact Nat.le_of_ble_eq_true rfl, by rw [hRl]; exact Nat.le_of_ble_eq_true rfl⟩) hC.ob rfl bl_1 bl_2 rfl (Nat.le_of_ble_eq_true rfl) d_Mf_area_48) (fun r_56 G_53 B_54 p_55 => ?_)
      obtain ⟨u_57, e_58⟩ := p_55
      cases u_57
      subst e_58
      have bd_59 := b01_le (decide (S.n = 200))
      refine gsb (pc1 := 57) (pc2 := 54) (fun _ _ _ _ _ => lv_if_eq (tgt := 57) hx hb d_Mf_area_51 (by decide)) (fun c_60 => ?_) (fun c_60 => ?_)
      · skip
        have nc_60 : (b01 (decide (S.n = 200))) = 0 := (n0_eq (a := (b01 (decide (S.n = 200)))) (by omega)).1 c_60
        have hnf := b01_0 nc_60
        refine gs (pc' := 58) (fun _ _ _ _ _ hl => lv_aload_n hx hb d_Mf_area_57 rfl (lv_at hl 2 rfl)) ?_
        refine g_get hx hb hts hin_Mf hown hK hC.ob rfl 9 (by decide) (hts _ wm244) (fun _ h9 => h9) rfl d_Mf_area_58 ?_
        refine gs (pc' := 62) (fun _ _ _ _ _ hl => lv_aload_n hx hb d_Mf_area_61 rfl (lv_at hl 2 rfl)) ?_
        refine g_get hx hb hts hin_Mf hown hK hC.ob rfl 10 (by decide) (hts _ wm245) (fun _ h9 => h9) rfl d_Mf_area_62 ?_
        obtain ⟨sg_61, f_62, g_63⟩ := hC.fr 3 (by decide)
        refine g_outv hlo (g_runV (As := [.ref a.zr]) (rest := []) ⟨hx, hb, hml, hown, hts⟩ hK hZ hRc hRs (c3_to l D cA lo MC MS G B X a S F V hC hX1 hX2 3 (by decide) a.zr 0 (Or.inr hC.zr) 1 rb_0 (by decide)) (fun _ _ => cwV 1 hts (tb_good (tb_cons wm696 (tb_cons wm514 (tb_cons wm515 (tb_cons wm8 k_Fr_setTo))))) rfl rfl rfl (by decide +kernel) ⟨by rw [hRf]; exact Nat.le_of_ble_eq_true rfl, by rw [hRl]; exact Nat.le_of_ble_eq_true rfl⟩) f_62 rfl bl_1 bl_2 rfl (Nat.le_of_ble_eq_true rfl) d_Mf_area_65) (fun G_64 B_65 p_66 => ?_)
        obtain ⟨V_67, C_68, fr_69⟩ := p_66
        have iv_70 : isV cA G_64 h_19 (S.v (S.rp k 0)) (S.un (S.rp k 0)) := isV_24 iv_23 fr_69
        have iv_71 : isV cA G_64 h_20 (S.v (S.rh k 0)) (S.un (S.rh k 0)) := isV_24 iv_24 fr_69
        have iv_72 : isV cA G_64 h_33 (S.v (S.rp k 0)) (S.un (S.rp k 0)) := isV_24 iv_37 fr_69
        have iv_73 : isV cA G_64 h_34 (S.v (S.rh k 0)) (S.un (S.rh k 0)) := isV_24 iv_38 fr_69
        have kq_74 : kq cA G_64 hf_30 (S.v (S.rp k 0)) := kq_24 kq_32 fr_69
        have kq_75 : kq cA G_64 hf_42 (S.v (S.rh k 0)) := kq_24 kq_44 fr_69
        have fr_76 : gfr (fun x => x < 24) G G_64 := gfr_24 gfr_rf fr_69
        have f_77 : G_64 h_19 = some (30, .inr (6, [.ref hf_30, .int (iI (S.un (S.rp k 0)))])) := fr_69 _ _ f_31 (show ¬ (30 : Nat) < 24 by decide)
        have f_78 : G_64 h_34 = some (30, .inr (6, [.ref hf_42, .int (iI (S.un (S.rh k 0)))])) := fr_69 _ _ f_43 (show ¬ (30 : Nat) < 24 by decide)
        have bl_79 : B_65.1 ≤ MC := Nat.le_trans (w2_le C_68.w).1 hX1
        have bl_80 : B_65.2 ≤ MS := Nat.le_trans (w2_le C_68.w).2 hX2
        refine gs (pc' := 69) (fun _ _ _ _ _ hl => lv_iconst (v := nI 1) hx hb d_Mf_area_68 (by decide)) ?_
        refine gst (pc' := 71) (L' := [(4, .int (nI 1)), (3, .int (iI ((S.un (S.rp k 0)) + (S.un (S.rh k 0))))), (2, .ref (a.ro k)), (0, .ref a.x), (1, .int (nI k))]) (fun _ _ _ _ _ hl => lv_istore hx hb d_Mf_area_69 hl (by decide) rfl) ?_
        refine gsub [0, 1, 2, 3] rfl ?_
        have loop : ∀ (q j : Nat) (ss : Rat) (F1 : Nat → Option Rat) (V1 : Nat → Nat) (Gk : gT) (Bk : Nat × Nat), j + 1 + q = S.rc k → ars (strip S k) j = some ss → ¬ lng ss → CW cA X a S F1 V1 (Gk, Bk) → F1 3 = some ss → gfr (fun x => x < 24) G Gk → gV p l e R s m args below meth c D clS lo 5 Q 71 [(4, .int (nI (j + 1))), (3, .int (iI (S.un (S.rp k 0) + S.un (S.rh k 0)))), (2, .ref (a.ro k)), (0, .ref a.x)] [] Gk Bk := by
          intro q
          induction q with
          | zero =>
            intro j ss F1 V1 Gk Bk hj has hnl hC1 hF1 hfr1
            have hrs := rb_of hnl
            have bl_81 : Bk.1 ≤ MC := Nat.le_trans (w2_le hC1.w).1 hX1
            have bl_82 : Bk.2 ≤ MS := Nat.le_trans (w2_le hC1.w).2 hX2
            have hjn : S.rc k - 1 = j := by omega
            refine gs (pc' := 73) (fun _ _ _ _ _ hl => lv_iload hx hb d_Mf_area_71 (lv_at hl 0 rfl)) ?_
            refine gs (pc' := 74) (fun _ _ _ _ _ hl => lv_aload_n hx hb d_Mf_area_73 rfl (lv_at hl 2 rfl)) ?_
            obtain ⟨rc_83, pf_84, hg_85, f_86, f_87, f_88, g_89⟩ := hC1.ro k (by omega)
            obtain ⟨g_90, g_91⟩ := g_89 hi_k
            subst g_90
            refine g_get hx hb hts hin_Ro hown hK f_86 rfl 2 (by decide) (hts _ wm227) (fun _ h9 => h9) rfl d_Mf_area_74 ?_
            refine gsb (pc1 := 106) (pc2 := 80) (fun _ _ _ _ _ => lv_icmp_ge (tgt := 106) hx hb d_Mf_area_77 (by decide)) (fun c_92 => ?_) (fun c_92 => ?_)
            · skip
              have nc_92 : (j + 1) ≥ (S.rc k) := (nn_ge (a := (j + 1)) (b := (S.rc k)) (by omega) (by omega)).1 c_92
              refine gs (pc' := 107) (fun _ _ _ _ _ hl => lv_aload_n hx hb d_Mf_area_106 rfl (lv_at hl 3 rfl)) ?_
              refine gs (pc' := 108) (fun _ _ _ _ _ hl => lv_aload_n hx hb d_Mf_area_107 rfl (lv_at hl 3 rfl)) ?_
              refine g_get hx hb hts hin_Mf hown hK hC1.ob rfl 9 (by decide) (hts _ wm244) (fun _ h9 => h9) rfl d_Mf_area_108 ?_
              refine gs (pc' := 112) (fun _ _ _ _ _ hl => lv_iload_n hx hb d_Mf_area_111 rfl (lv_at hl 1 rfl)) ?_
              refine g_outi hlo (g_runV (As := [.ref (a.fr 3), .int (iI (S.un (S.rp k 0) + S.un (S.rh k 0)))]) (rest := []) ⟨hx, hb, hml, hown, hts⟩ hK hZ hRc hRs (c_Mf_keep3 l D cA lo MC MS Gk Bk X a S F1 V1 hC1 hW ss hF1 100 hrs (by decide) (S.un (S.rp k 0) + S.un (S.rh k 0)) hnf hY1 hY2) (fun _ _ => cwV 2 hts (tb_good (tb_cons wm495 (tb_cons wm497 (tb_cons ws10 (tb_cons wm1 k_Mf_keep))))) rfl rfl rfl (by decide +kernel) ⟨by rw [hRf]; exact Nat.le_of_ble_eq_true rfl, by rw [hRl]; exact Nat.le_of_ble_eq_true rfl⟩) hC1.ob rfl bl_81 bl_82 rfl (Nat.le_of_ble_eq_true rfl) d_Mf_area_112) (fun r_96 G_93 B_94 p_95 => ?_)
              obtain ⟨e_97, C_98, fr_99⟩ := p_95
              subst e_97
              have fr_100 : gfr (fun x => x < 70) G G_93 := gfr_mono (gfr_tr hfr1 fr_99) (fun x h9 => by rcases h9 with h9 | h9 <;> omega)
              have bl_101 := CW3_le C_98
              have hs2 : sp_area S (iI g) = kp S ss (S.un (S.rp k 0) + S.un (S.rh k 0)) := by rw [hsp, if_neg hc2, if_neg hu, if_neg hnf, hjn, has]
              exact hret 115 _ _ _ _ d_Mf_area_115 (Nat.le_trans bl_101.1 hY1) (Nat.le_trans bl_101.2 hY2) ⟨by rw [hs2], by rw [hs2]; exact C_98, fr_100⟩
            · skip
              have nc_92 : (j + 1) < (S.rc k) := (nn_ge (a := (j + 1)) (b := (S.rc k)) (by omega) (by omega)).2 c_92
              exact absurd nc_92 (by omega)
          | succ q ih =>
            intro j ss F1 V1 Gk Bk hj has hnl hC1 hF1 hfr1
            have hrs := rb_of hnl
            have bl_102 : Bk.1 ≤ MC := Nat.le_trans (w2_le hC1.w).1 hX1
            have bl_103 : Bk.2 ≤ MS := Nat.le_trans (w2_le hC1.w).2 hX2
            refine gs (pc' := 73) (fun _ _ _ _ _ hl => lv_iload hx hb d_Mf_area_71 (lv_at hl 0 rfl)) ?_
            refine gs (pc' := 74) (fun _ _ _ _ _ hl => lv_aload_n hx hb d_Mf_area_73 rfl (lv_at hl 2 rfl)) ?_
            obtain ⟨rc_104, pf_105, hg_106, f_107, f_108, f_109, g_110⟩ := hC1.ro k (by omega)
            obtain ⟨g_111, g_112⟩ := g_110 hi_k
            subst g_111
            refine g_get hx hb hts hin_Ro hown hK f_107 rfl 2 (by decide) (hts _ wm227) (fun _ h9 => h9) rfl d_Mf_area_74 ?_
            refine gsb (pc1 := 106) (pc2 := 80) (fun _ _ _ _ _ => lv_icmp_ge (tgt := 106) hx hb d_Mf_area_77 (by decide)) (fun c_113 => ?_) (fun c_113 => ?_)
            · skip
              have nc_113 : (j + 1) ≥ (S.rc k) := (nn_ge (a := (j + 1)) (b := (S.rc k)) (by omega) (by omega)).1 c_113
              exact absurd nc_113 (by omega)
            · skip
              have nc_113 : (j + 1) < (S.rc k) := (nn_ge (a := (j + 1)) (b := (S.rc k)) (by omega) (by omega)).2 c_113
              refine gs (pc' := 81) (fun _ _ _ _ _ hl => lv_aload_n hx hb d_Mf_area_80 rfl (lv_at hl 3 rfl)) ?_
              refine gs (pc' := 82) (fun _ _ _ _ _ hl => lv_aload_n hx hb d_Mf_area_81 rfl (lv_at hl 2 rfl)) ?_
              refine gs (pc' := 84) (fun _ _ _ _ _ hl => lv_iload hx hb d_Mf_area_82 (lv_at hl 0 rfl)) ?_
              refine g_outv hlo (g_runV (As := [.ref (a.ro k), .int (nI (j + 1))]) (rest := []) ⟨hx, hb, hml, hown, hts⟩ hK hZ hRc hRs (c_Mf_addStrip l D cA lo MC MS Gk Bk X a S F1 V1 hC1 hW k hi_k j (by omega) ss hF1 hrs hX1 hX2) (fun _ _ => cwV 2 hts (tb_good (tb_cons wm704 (tb_cons wm706 (tb_cons ws17 (tb_cons wm1 k_Mf_addStrip))))) rfl rfl rfl (by decide +kernel) ⟨by rw [hRf]; exact Nat.le_of_ble_eq_true rfl, by rw [hRl]; exact Nat.le_of_ble_eq_true rfl⟩) hC1.ob rfl bl_102 bl_103 rfl (Nat.le_of_ble_eq_true rfl) d_Mf_area_84) (fun G_114 B_115 p_116 => ?_)
              obtain ⟨F_117, V_118, C_119, e_120, rb_121, fr_122⟩ := p_116
              have fr_123 : gfr (fun x => x < 24) G G_114 := gfr_24 hfr1 fr_122
              have bl_124 : B_115.1 ≤ MC := Nat.le_trans (w2_le C_119.w).1 hX1
              have bl_125 : B_115.2 ≤ MS := Nat.le_trans (w2_le C_119.w).2 hX2
              refine gs (pc' := 88) (fun _ _ _ _ _ hl => lv_aload_n hx hb d_Mf_area_87 rfl (lv_at hl 3 rfl)) ?_
              refine g_get hx hb hts hin_Mf hown hK C_119.ob rfl 9 (by decide) (hts _ wm244) (fun _ h9 => h9) rfl d_Mf_area_88 ?_
              obtain ⟨sg_126, f_127, g_128⟩ := C_119.fr 3 (by decide)
              refine g_outi hlo (g_runV (As := []) (rest := []) ⟨hx, hb, hml, hown, hts⟩ hK hZ hRc hRs (c3_long l D cA lo MC MS G_114 B_115 X a S F_117 V_118 C_119 hX1 hX2 3 (by decide) (ss + strip S k j) e_120 600 rb_121 (by decide)) (fun _ _ => cwV 0 hts (tb_good (tb_cons wm499 (tb_cons wm500 (tb_cons wm501 (tb_cons wm8 k_Fr_isLong))))) rfl rfl rfl (by decide +kernel) ⟨by rw [hRf]; exact Nat.le_of_ble_eq_true rfl, by rw [hRl]; exact Nat.le_of_ble_eq_true rfl⟩) f_127 rfl bl_124 bl_125 rfl (Nat.le_of_ble_eq_true rfl) d_Mf_area_91) (fun r_132 G_129 B_130 p_131 => ?_)
              obtain ⟨u_133, v_134⟩ := p_131
              cases u_133
              have e_135 := b01_or v_134
              subst e_135
              have bd_136 := b01_le (decide (lng (ss + strip S k j)))
              refine gsb (pc1 := 100) (pc2 := 97) (fun _ _ _ _ _ => lv_if_eq (tgt := 100) hx hb d_Mf_area_94 (by decide)) (fun c_137 => ?_) (fun c_137 => ?_)
              · skip
                have nc_137 : (b01 (decide (lng (ss + strip S k j)))) = 0 := (n0_eq (a := (b01 (decide (lng (ss + strip S k j))))) (by omega)).1 c_137
                have hl2 := b01_0 nc_137
                have has2 : ars (strip S k) (j + 1) = some (ss + strip S k j) := by rw [ars, has]; exact if_neg hl2
                refine gst (pc' := 103) (L' := [(4, .int (nI (j + 1 + 1))), (3, .int (iI (S.un (S.rp k 0) + S.un (S.rh k 0)))), (2, .ref (a.ro k)), (0, .ref a.x)]) (fun _ _ _ _ _ hl => lv_iinc (v := nI (j + 1 + 1)) hx hb d_Mf_area_100 hl (k := 0) rfl (nI_add _ 1) (by decide) rfl) ?_
                refine gs (pc' := 71) (fun _ _ _ _ _ hl => lv_goto (tgt := 71) hx hb d_Mf_area_103 (by decide)) ?_
                refine gsub [0, 1, 2, 3] rfl ?_
                exact ih (j + 1) (ss + strip S k j) F_117 V_118 G_114 B_115 (by omega) has2 hl2 C_119 e_120 fr_123
              · skip
                have nc_137 : (b01 (decide (lng (ss + strip S k j)))) ≠ 0 := (n0_eq (a := (b01 (decide (lng (ss + strip S k j))))) (by omega)).2 c_137
                have hl2 := b01_1 nc_137
                have has2 : ars (strip S k) (j + 1) = none := by rw [ars, has]; exact if_pos hl2
                refine gs (pc' := 99) (fun _ _ _ _ _ hl => lv_bipush (v := (-4)) hx hb d_Mf_area_97 (by decide)) ?_
                refine g_eqi (show (-4) = iI (-4) from by decide) ?_
                have hs2 : sp_area S (iI g) = (0, -4, S) := by rw [hsp, if_neg hc2, if_neg hu, if_neg hnf, ars_none has2 (by omega)]
                exact hret 99 _ _ _ _ d_Mf_area_99 bl_124 bl_125 ⟨by rw [hs2], by rw [hs2]; exact C_119.up (X1 := (X.1 + 6, X.2 + 209)) (show X.1 ≤ X.1 + 6 by omega) (show X.2 ≤ X.2 + 209 by omega), (gfr_mono (M := fun x => x < 24) fr_123 (fun x h9 => by omega))⟩
        exact loop (S.rc k - 1) 0 0 (fup F 3 (some 0)) V_67 G_64 B_65 (by omega) rfl z_lng C_68 rfl fr_76
      · skip
        have nc_60 : (b01 (decide (S.n = 200))) ≠ 0 := (n0_eq (a := (b01 (decide (S.n = 200)))) (by omega)).2 c_60
        have hnf := b01_1 nc_60
        refine gs (pc' := 56) (fun _ _ _ _ _ hl => lv_bipush (v := (-3)) hx hb d_Mf_area_54 (by decide)) ?_
        refine g_eqi (show (-3) = iI (-3) from by decide) ?_
        have hs2 : sp_area S (iI g) = (0, -3, S) := by rw [hsp, if_neg hc2, if_neg hu, if_pos hnf]
        exact hret 56 _ _ _ _ d_Mf_area_56 bl_1 bl_2 ⟨by rw [hs2], by rw [hs2]; exact hC.up (X1 := (X.1 + 6, X.2 + 209)) (show X.1 ≤ X.1 + 6 by omega) (show X.2 ≤ X.2 + 209 by omega), (gfr_mono (M := fun x => x < 24) gfr_rf (fun x h9 => by omega))⟩
    · skip
      have nc_52 : (b01 (decide (uok ((S.un (S.rp k 0)) + (S.un (S.rh k 0)))))) = 0 := (n0_ne (a := (b01 (decide (uok ((S.un (S.rp k 0)) + (S.un (S.rh k 0))))))) (by omega)).2 c_52
      have hu := b01_0 nc_52
      refine gs (pc' := 46) (fun _ _ _ _ _ hl => lv_bipush (v := (-2)) hx hb d_Mf_area_44 (by decide)) ?_
      refine g_eqi (show (-2) = iI (-2) from by decide) ?_
      have hs2 : sp_area S (iI g) = (0, -2, S) := by rw [hsp, if_neg hc2, if_pos hu]
      exact hret 46 _ _ _ _ d_Mf_area_46 bl_1 bl_2 ⟨by rw [hs2], by rw [hs2]; exact hC.up (X1 := (X.1 + 6, X.2 + 209)) (show X.1 ≤ X.1 + 6 by omega) (show X.2 ≤ X.2 + 209 by omega), (gfr_mono (M := fun x => x < 24) gfr_rf (fun x h9 => by omega))⟩
  · skip
    have nc_18 : (S.rc k) < 2 := (nn_ge (a := (S.rc k)) (b := 2) (by omega) (by omega)).2 c_18
    have hc2 : S.rc k < 2 := nc_18
    refine gs (pc' := 16) (fun _ _ _ _ _ hl => lv_bipush (v := (-5)) hx hb d_Mf_area_14 (by decide)) ?_
    refine g_eqi (show (-5) = iI (-5) from by decide) ?_
    have hs2 : sp_area S (iI g) = (0, -5, S) := by rw [hsp, if_pos hc2]
    exact hret 16 _ _ _ _ d_Mf_area_16 bl_1 bl_2 ⟨by rw [hs2], by rw [hs2]; exact hC.up (X1 := (X.1 + 6, X.2 + 209)) (show X.1 ≤ X.1 + 6 by omega) (show X.2 ≤ X.2 + 209 by omega), (gfr_mono (M := fun x => x < 24) gfr_rf (fun x h9 => by omega))⟩
set_option maxHeartbeats 4000000 in
set_option maxRecDepth 100000 in
theorem t_Mf_area1 (l : Launch) (D : va_G) (cA : Nat → ClassId) (lo MC MS : Nat) (G : gT) (B : Nat × Nat) (X : Nat × Nat) (a : AX) (S : St) (F : Nat → Option Rat) (V : Nat → Nat) (hC : CW cA X a S F V (G, B)) (hW : WF S) (g : Int) (hg1 : -2147483648 ≤ g) (hg2 : g < 2147483648) (hk : (sp_area S (iI g)).1 = 1) (hY1 : X.1 + 1 ≤ MC) (hY2 : X.2 + 6 ≤ MS) (hfl : ∀ e : Env, l.admits e → e.platform.stackTraces = false) : gMetT l y_Mf_area w_Mf_area 7 111 D clS (gtys cA) lo MC MS [.ref a.x, .int (iI g)] G B (gQx D clS lo "java/lang/IndexOutOfBoundsException" (fun u => u = (G, B.1 + 1, B.2 + 6))) := by
  refine g_mett (cc := prog_1_method_15_code) (nL := 5) (ret := (Option.some .int)) (L := [(0, .ref a.x), (1, .int (iI g))]) (by decide +kernel) rfl (Nat.le_of_ble_eq_true rfl) rfl ?_
  intro p e R s m args below meth c Q hF hRc hRs hRf hRl hne hQ
  obtain ⟨hx, hb, hr, hml, hts0, hown, hlocks, hin, hK, hlo, hZ⟩ := hF
  have hts : ∀ w ∈ tbg, w.before args s = true := fun w h => hts0 w (List.mem_cons_of_mem _ h)
  have hX1 : X.1 ≤ MC := by omega
  have hX2 : X.2 ≤ MS := by omega
  have hn := hW.n
  have hrn := hW.rn
  have hwn := hW.wn
  have bl_1 : B.1 ≤ MC := Nat.le_trans (w2_le hC.w).1 hX1
  have bl_2 : B.2 ≤ MS := Nat.le_trans (w2_le hC.w).2 hX2
  have hv : ¬ ri S (iI g) := fun z9 => by
    rw [sp_area, if_neg (fun z8 => z8 z9)] at hk
    split at hk
    · exact absurd hk (by decide)
    split at hk
    · exact absurd hk (by decide)
    split at hk
    · exact absurd hk (by decide)
    split at hk
    · exact absurd hk (by decide)
    · rw [kp_0] at hk; exact absurd hk (by decide)
  refine gs (pc' := 1) (fun _ _ _ _ _ hl => lv_aload_n hx hb d_Mf_area_0 rfl (lv_at hl 0 rfl)) ?_
  refine gs (pc' := 2) (fun _ _ _ _ _ hl => lv_iload_n hx hb d_Mf_area_1 rfl (lv_at hl 1 rfl)) ?_
  exact g_up hlocks hne bl_1 bl_2 (g_thrV (As := [.int (iI g)]) (rest := []) ⟨hx, hb, hml, hown, hts⟩ hK hZ hRc hRs (t_Mf_rowOf l D cA lo MC MS G B X a S F V hC hW g hg1 hg2 (nri hg1 hg2 hv) hY1 hY2 hfl) (fun _ _ => cwV 1 hts (tb_good (tb_cons wm672 (tb_cons wm674 (tb_cons ws14 (tb_cons wm1 k_Mf_rowOf))))) rfl rfl rfl (by decide +kernel) ⟨by rw [hRf]; exact Nat.le_of_ble_eq_true rfl, by rw [hRl]; exact Nat.le_of_ble_eq_true rfl⟩) hC.ob rfl bl_1 bl_2 rfl (Nat.le_of_ble_eq_true rfl) d_Mf_area_2) (fun _ h => h) hQ
