set_option maxHeartbeats 4000000 in
set_option maxRecDepth 100000 in
theorem c_Mf_at (l : Launch) (D : va_G) (cA : Nat → ClassId) (lo MC MS : Nat) (G : gT) (B : Nat × Nat) (X : Nat × Nat) (a : AX) (S : St) (F : Nat → Option Rat) (V : Nat → Nat) (hC : CW cA X a S F V (G, B)) (hW : WF S) (g : Int) (hg1 : -2147483648 ≤ g) (hg2 : g < 2147483648) (x : Int) (hx1 : -2147483648 ≤ x) (hx2 : x < 2147483648) (hk : (sp_at S (iI g) (iI x)).1 = 0) (hY1 : X.1 + 6 ≤ MC) (hY2 : X.2 + 209 ≤ MS) : gMet l y_Mf_at w_Mf_at 8 217 D clS (gtys cA) lo MC MS [.ref a.x, .int (iI g), .int (iI x)] G B (gQi D clS lo (fun r u => r = iI (sp_at S (iI g) (iI x)).2.1 ∧ CW3 cA (X.1 + 6, X.2 + 209) a (sp_at S (iI g) (iI x)).2.2 u ∧ gfr (fun x => x < 70) G u.1)) := by
  refine g_meti (cc := prog_1_method_14_code) (nL := 6) (L := [(0, .ref a.x), (1, .int (iI g)), (2, .int (iI x))]) (by decide +kernel) rfl (Nat.le_of_ble_eq_true rfl) rfl ?_
  intro p e R s m args below meth c Q hF hRc hRs hRf hRl hret
  obtain ⟨hx, hb, hr, hml, hts0, hown, hlocks, hin, hK, hlo, hZ⟩ := hF
  have hts : ∀ w ∈ tbg, w.before args s = true := fun w h => hts0 w (List.mem_cons_of_mem _ h)
  have hX1 : X.1 ≤ MC := by omega
  have hX2 : X.2 ≤ MS := by omega
  have hn := hW.n
  have hrn := hW.rn
  have hwn := hW.wn
  have bl_1 : B.1 ≤ MC := Nat.le_trans (w2_le hC.w).1 hX1
  have bl_2 : B.2 ≤ MS := Nat.le_trans (w2_le hC.w).2 hX2
  have hv : ri S (iI g) ∧ vi S (iI x) := by
    by_cases z9 : ri S (iI g) ∧ vi S (iI x)
    · exact z9
    · rw [sp_at, if_pos z9] at hk; simp at hk
  obtain ⟨k, hi_k, hxe_g, ei_k⟩ := ix_of hv.1.1 hv.1.2
  rw [hxe_g]
  obtain ⟨i, hi_i, hxe_x, ei_i⟩ := ix_of hv.2.1 hv.2.2
  rw [hxe_x]
  have hrc := hW.rc k hi_k
  have hsp : sp_at S (iI g) (iI x) = if S.rc k = 0 then (0, -5, S) else if S.un i ≠ S.un (S.rp k 0) then (0, -2, S) else if cnb S k (S.v i) < 0 then (0, -5, S) else if S.n = 200 then (0, -3, S) else kp S (hgt S k (S.v i) (cnb S k (S.v i)).toNat) (S.un (S.rh k 0)) := by
    rw [sp_at, if_neg (fun z9 => z9 hv), ei_k, ei_i]
    exact at_cnb
  refine gs (pc' := 1) (fun _ _ _ _ _ hl => lv_aload_n hx hb d_Mf_at_0 rfl (lv_at hl 0 rfl)) ?_
  refine gs (pc' := 2) (fun _ _ _ _ _ hl => lv_iload_n hx hb d_Mf_at_1 rfl (lv_at hl 1 rfl)) ?_
  have f_3 : G a.x = some (31, .inr (8, [.ref a.vs, .int (nI S.n), .ref a.rs, .int (nI S.rn), .ref a.ws, .ref a.ca, .ref (a.fr 0), .ref (a.fr 1), .ref (a.fr 2), .ref (a.fr 3), .ref a.zr, .ref a.fo, .ref a.ha, .ref a.si])) := hC.ob
  refine g_outr hlo (g_runV (As := [.int (nI k)]) (rest := []) ⟨hx, hb, hml, hown, hts⟩ hK hZ hRc hRs (c_Mf_rowOf l D cA lo MC MS G B X a S F V hC hW k (by omega) hX1 hX2) (fun _ _ => cwV 1 hts (tb_good (tb_cons wm672 (tb_cons wm674 (tb_cons ws14 (tb_cons wm1 k_Mf_rowOf))))) rfl rfl rfl (by decide +kernel) ⟨by rw [hRf]; exact Nat.le_of_ble_eq_true rfl, by rw [hRl]; exact Nat.le_of_ble_eq_true rfl⟩) f_3 rfl bl_1 bl_2 rfl (Nat.le_of_ble_eq_true rfl) d_Mf_at_2) (fun r_7 G_4 B_5 p_6 => ?_)
  obtain ⟨u_8, e_9⟩ := p_6
  cases u_8
  subst e_9
  refine gst (pc' := 6) (L' := [(3, .ref (a.ro k)), (0, .ref a.x), (1, .int (nI k)), (2, .int (nI i))]) (fun _ _ _ _ _ hl => lv_astore_n hx hb d_Mf_at_5 rfl hl (by decide) rfl) ?_
  refine gs (pc' := 7) (fun _ _ _ _ _ hl => lv_aload_n hx hb d_Mf_at_6 rfl (lv_at hl 1 rfl)) ?_
  refine gs (pc' := 8) (fun _ _ _ _ _ hl => lv_iload_n hx hb d_Mf_at_7 rfl (lv_at hl 3 rfl)) ?_
  refine g_outr hlo (g_runV (As := [.int (nI i)]) (rest := []) ⟨hx, hb, hml, hown, hts⟩ hK hZ hRc hRs (c_Mf_valueOf l D cA lo MC MS G B X a S F V hC hW i (by omega) hX1 hX2) (fun _ _ => cwV 1 hts (tb_good (tb_cons wm539 (tb_cons wm541 (tb_cons ws11 (tb_cons wm1 k_Mf_valueOf))))) rfl rfl rfl (by decide +kernel) ⟨by rw [hRf]; exact Nat.le_of_ble_eq_true rfl, by rw [hRl]; exact Nat.le_of_ble_eq_true rfl⟩) f_3 rfl bl_1 bl_2 rfl (Nat.le_of_ble_eq_true rfl) d_Mf_at_8) (fun r_13 G_10 B_11 p_12 => ?_)
  obtain ⟨u_14, iv_15⟩ := p_12
  cases u_14
  have rb_16 : rb (S.v i) 100 := rb_of (hW.v _ (by omega)).1
  have ub_17 := (hW.v i (by omega)).2
  have ub_18 := ub_17.1
  have ub_19 := ub_17.2
  refine gst (pc' := 13) (L' := [(4, .ref r_13), (3, .ref (a.ro k)), (0, .ref a.x), (1, .int (nI k)), (2, .int (nI i))]) (fun _ _ _ _ _ hl => lv_astore hx hb d_Mf_at_11 hl (by decide) rfl) ?_
  refine gs (pc' := 14) (fun _ _ _ _ _ hl => lv_aload_n hx hb d_Mf_at_13 rfl (lv_at hl 1 rfl)) ?_
  obtain ⟨rc_20, pf_21, hg_22, f_23, f_24, f_25, g_26⟩ := hC.ro k (by omega)
  obtain ⟨g_27, g_28⟩ := g_26 hi_k
  subst g_27
  have f_29 : G (a.ro k) = some (40 + k, .inr (5, [.ref (a.rp k), .ref (a.rh k), .int (nI (S.rc k))])) := f_23
  have f_30 : G (a.rp k) = some (50 + k, .inl (cA 2, 16, .inr (.inr (.inr (.inr pf_21))))) := f_24
  have f_31 : G (a.rh k) = some (60 + k, .inl (cA 2, 16, .inr (.inr (.inr (.inr hg_22))))) := f_25
  refine g_get hx hb hts hin_Ro hown hK f_29 rfl 2 (by decide) (hts _ wm227) (fun _ h9 => h9) rfl d_Mf_at_14 ?_
  refine gsb (pc1 := 23) (pc2 := 20) (fun _ _ _ _ _ => lv_if_ne (tgt := 23) hx hb d_Mf_at_17 (by decide)) (fun c_32 => ?_) (fun c_32 => ?_)
  · skip
    have nc_32 : (S.rc k) ≠ 0 := (n0_ne (a := (S.rc k)) (by omega)).1 c_32
    have hc0 : ¬ S.rc k = 0 := nc_32
    refine gs (pc' := 25) (fun _ _ _ _ _ hl => lv_aload hx hb d_Mf_at_23 (lv_at hl 0 rfl)) ?_
    obtain ⟨hf_33, f_34, kq_35⟩ := id iv_15
    have f_36 : G r_13 = some (30, .inr (6, [.ref hf_33, .int (iI (S.un i))])) := f_34
    refine g_get hx hb hts hin_Va hown hK f_36 rfl 1 (by decide) (hts _ wm525) (fun _ h9 => h9) rfl d_Mf_at_25 ?_
    refine gs (pc' := 29) (fun _ _ _ _ _ hl => lv_aload_n hx hb d_Mf_at_28 rfl (lv_at hl 1 rfl)) ?_
    refine g_get hx hb hts hin_Ro hown hK f_29 rfl 0 (by decide) (hts _ wm223) (fun _ h9 => h9) rfl d_Mf_at_29 ?_
    refine gs (pc' := 33) (fun _ _ _ _ _ hl => lv_iconst (v := nI 0) hx hb d_Mf_at_32 (by decide)) ?_
    obtain ⟨h_37, h_38, e_39, e_40, iv_41, iv_42⟩ := g_28 0 (by omega)
    have rb_43 : rb (S.v (S.rp k 0)) 100 := rb_of (hW.v _ (hW.rp k hi_k 0 (by omega)).1).1
    have rb_44 : rb (S.v (S.rh k 0)) 100 := rb_of (hW.v _ (hW.rp k hi_k 0 (by omega)).2.1).1
    have wr_45 := hW.rp k hi_k 0 (by omega)
    have ub_46 := (hW.v _ wr_45.1).2
    have ub_46a := ub_46.1
    have ub_46b := ub_46.2
    have ub_47 := (hW.v _ wr_45.2.1).2
    have ub_47a := ub_47.1
    have ub_47b := ub_47.2
    refine g_aalS hx hb hK 2 f_30 rfl (by omega) (by decide) e_39 d_Mf_at_33 ?_
    obtain ⟨hf_48, f_49, kq_50⟩ := id iv_41
    have f_51 : G h_37 = some (30, .inr (6, [.ref hf_48, .int (iI (S.un (S.rp k 0)))])) := f_49
    refine g_get hx hb hts hin_Va hown hK f_51 rfl 1 (by decide) (hts _ wm525) (fun _ h9 => h9) rfl d_Mf_at_34 ?_
    refine gsb (pc1 := 43) (pc2 := 40) (fun _ _ _ _ _ => lv_icmp_eq (tgt := 43) hx hb d_Mf_at_37 (by decide)) (fun c_52 => ?_) (fun c_52 => ?_)
    · skip
      have nc_52 : (S.un i) = (S.un (S.rp k 0)) := (ii_eq (a := (S.un i)) (b := (S.un (S.rp k 0))) (by omega) (by omega) (by omega) (by omega)).1 (by first | exact c_52 | (have z9 := c_52; simp only [nI_iI] at z9; exact z9))
      have hu : ¬ S.un i ≠ S.un (S.rp k 0) := fun z9 => z9 nc_52
      refine gs (pc' := 44) (fun _ _ _ _ _ hl => lv_aload_n hx hb d_Mf_at_43 rfl (lv_at hl 2 rfl)) ?_
      refine gs (pc' := 45) (fun _ _ _ _ _ hl => lv_aload_n hx hb d_Mf_at_44 rfl (lv_at hl 1 rfl)) ?_
      refine gs (pc' := 47) (fun _ _ _ _ _ hl => lv_aload hx hb d_Mf_at_45 (lv_at hl 0 rfl)) ?_
      refine g_get hx hb hts hin_Va hown hK f_36 rfl 0 (by decide) (hts _ wm523) (fun _ h9 => h9) rfl d_Mf_at_47 ?_
      refine g_outi hlo (g_runV (As := [.ref (a.ro k), .ref hf_33]) (rest := []) ⟨hx, hb, hml, hown, hts⟩ hK hZ hRc hRs (c_Mf_cnb l D cA lo MC MS G B X a S F V hC hW k hi_k hf_33 (S.v i) kq_35 rb_16 hX1 hX2) (fun _ _ => cwV 2 hts (tb_good (tb_cons wm688 (tb_cons wm690 (tb_cons ws15 (tb_cons wm1 k_Mf_cornerNotBefore))))) rfl rfl rfl (by decide +kernel) ⟨by rw [hRf]; exact Nat.le_of_ble_eq_true rfl, by rw [hRl]; exact Nat.le_of_ble_eq_true rfl⟩) f_3 rfl bl_1 bl_2 rfl (Nat.le_of_ble_eq_true rfl) d_Mf_at_50) (fun r_56 G_53 B_54 p_55 => ?_)
      obtain ⟨e_57, p_58⟩ := p_55
      subst e_57
      obtain ⟨V_59, C_60, fr_61⟩ := p_58
      have iv_62 : isV cA G_53 r_13 (S.v i) (S.un i) := isV_24 iv_15 fr_61
      have iv_63 : isV cA G_53 h_37 (S.v (S.rp k 0)) (S.un (S.rp k 0)) := isV_24 iv_41 fr_61
      have iv_64 : isV cA G_53 h_38 (S.v (S.rh k 0)) (S.un (S.rh k 0)) := isV_24 iv_42 fr_61
      have kq_65 : kq cA G_53 hf_33 (S.v i) := kq_24 kq_35 fr_61
      have kq_66 : kq cA G_53 hf_48 (S.v (S.rp k 0)) := kq_24 kq_50 fr_61
      have fr_67 : gfr (fun x => x < 24) G G_53 := gfr_24 gfr_rf fr_61
      have f_68 : G_53 r_13 = some (30, .inr (6, [.ref hf_33, .int (iI (S.un i))])) := fr_61 _ _ f_36 (show ¬ (30 : Nat) < 24 by decide)
      have f_69 : G_53 h_37 = some (30, .inr (6, [.ref hf_48, .int (iI (S.un (S.rp k 0)))])) := fr_61 _ _ f_51 (show ¬ (30 : Nat) < 24 by decide)
      have bl_70 : B_54.1 ≤ MC := Nat.le_trans (w2_le C_60.w).1 hX1
      have bl_71 : B_54.2 ≤ MS := Nat.le_trans (w2_le C_60.w).2 hX2
      have hcb := cnb_bd k (S.v i) S
      refine gst (pc' := 55) (L' := [(5, .int (iI (cnb S k (S.v i)))), (4, .ref r_13), (3, .ref (a.ro k)), (0, .ref a.x), (1, .int (nI k)), (2, .int (nI i))]) (fun _ _ _ _ _ hl => lv_istore hx hb d_Mf_at_53 hl (by decide) rfl) ?_
      refine gs (pc' := 57) (fun _ _ _ _ _ hl => lv_iload hx hb d_Mf_at_55 (lv_at hl 0 rfl)) ?_
      refine gsb (pc1 := 63) (pc2 := 60) (fun _ _ _ _ _ => lv_if_ge (tgt := 63) hx hb d_Mf_at_57 (by decide)) (fun c_72 => ?_) (fun c_72 => ?_)
      · skip
        have nc_72 : (cnb S k (S.v i)) ≥ 0 := (ii_ge (a := (cnb S k (S.v i))) (b := 0) (by omega) (by omega) (by omega) (by omega)).1 (by first | exact c_72 | (have z9 := c_72; simp only [nI_iI] at z9; exact z9))
        have hcn : ¬ cnb S k (S.v i) < 0 := by omega
        obtain ⟨jn, hjn⟩ : ∃ jn : Nat, cnb S k (S.v i) = (jn : Int) := ⟨(cnb S k (S.v i)).toNat, by omega⟩
        have hjr : jn < S.rc k := (cnb_of hjn).1
        have hj0 : jn = 0 → S.v i = S.v (S.rp k 0) := (cnb_of hjn).2
        rw [hjn, ← nI_iI]
        refine gs (pc' := 64) (fun _ _ _ _ _ hl => lv_aload_n hx hb d_Mf_at_63 rfl (lv_at hl 3 rfl)) ?_
        have f_73 : G_53 a.x = some (31, .inr (8, [.ref a.vs, .int (nI S.n), .ref a.rs, .int (nI S.rn), .ref a.ws, .ref a.ca, .ref (a.fr 0), .ref (a.fr 1), .ref (a.fr 2), .ref (a.fr 3), .ref a.zr, .ref a.fo, .ref a.ha, .ref a.si])) := C_60.ob
        refine g_outi hlo (g_runV (As := []) (rest := []) ⟨hx, hb, hml, hown, hts⟩ hK hZ hRc hRs (c_Mf_isFull l D cA lo MC MS G_53 B_54 X a S F V_59 C_60 hW hX1 hX2) (fun _ _ => cwV 0 hts (tb_good (tb_cons wm386 (tb_cons wm388 (tb_cons ws1 (tb_cons wm1 k_Mf_isFull))))) rfl rfl rfl (by decide +kernel) ⟨by rw [hRf]; exact Nat.le_of_ble_eq_true rfl, by rw [hRl]; exact Nat.le_of_ble_eq_true rfl⟩) f_73 rfl bl_70 bl_71 rfl (Nat.le_of_ble_eq_true rfl) d_Mf_at_64) (fun r_77 G_74 B_75 p_76 => ?_)
        obtain ⟨u_78, e_79⟩ := p_76
        cases u_78
        subst e_79
        have bd_80 := b01_le (decide (S.n = 200))
        refine gsb (pc1 := 73) (pc2 := 70) (fun _ _ _ _ _ => lv_if_eq (tgt := 73) hx hb d_Mf_at_67 (by decide)) (fun c_81 => ?_) (fun c_81 => ?_)
        · skip
          have nc_81 : (b01 (decide (S.n = 200))) = 0 := (n0_eq (a := (b01 (decide (S.n = 200)))) (by omega)).1 c_81
          have hnf := b01_0 nc_81
          refine gs (pc' := 74) (fun _ _ _ _ _ hl => lv_aload_n hx hb d_Mf_at_73 rfl (lv_at hl 3 rfl)) ?_
          refine gs (pc' := 75) (fun _ _ _ _ _ hl => lv_aload_n hx hb d_Mf_at_74 rfl (lv_at hl 2 rfl)) ?_
          refine gs (pc' := 77) (fun _ _ _ _ _ hl => lv_iload hx hb d_Mf_at_75 (lv_at hl 0 rfl)) ?_
          refine gs (pc' := 79) (fun _ _ _ _ _ hl => lv_aload hx hb d_Mf_at_77 (lv_at hl 1 rfl)) ?_
          refine g_get hx hb hts hin_Va hown hK f_68 rfl 0 (by decide) (hts _ wm523) (fun _ h9 => h9) rfl d_Mf_at_79 ?_
          refine g_outv hlo (g_runV (As := [.ref (a.ro k), .int (nI jn), .ref hf_33]) (rest := []) ⟨hx, hb, hml, hown, hts⟩ hK hZ hRc hRs (c_Mf_setHeight l D cA lo MC MS G_53 B_54 X a S F V_59 C_60 hW k hi_k hf_33 (S.v i) kq_65 rb_16 jn hjr hj0 hX1 hX2) (fun _ _ => cwV 3 hts (tb_good (tb_cons wm692 (tb_cons wm694 (tb_cons ws16 (tb_cons wm1 k_Mf_setHeight))))) rfl rfl rfl (by decide +kernel) ⟨by rw [hRf]; exact Nat.le_of_ble_eq_true rfl, by rw [hRl]; exact Nat.le_of_ble_eq_true rfl⟩) f_73 rfl bl_70 bl_71 rfl (Nat.le_of_ble_eq_true rfl) d_Mf_at_82) (fun G_82 B_83 p_84 => ?_)
          obtain ⟨F_85, V_86, C_87, e_88, rb_89, fr_90⟩ := p_84
          have iv_91 : isV cA G_82 r_13 (S.v i) (S.un i) := isV_24 iv_62 fr_90
          have iv_92 : isV cA G_82 h_37 (S.v (S.rp k 0)) (S.un (S.rp k 0)) := isV_24 iv_63 fr_90
          have iv_93 : isV cA G_82 h_38 (S.v (S.rh k 0)) (S.un (S.rh k 0)) := isV_24 iv_64 fr_90
          have kq_94 : kq cA G_82 hf_33 (S.v i) := kq_24 kq_65 fr_90
          have kq_95 : kq cA G_82 hf_48 (S.v (S.rp k 0)) := kq_24 kq_66 fr_90
          have fr_96 : gfr (fun x => x < 24) G G_82 := gfr_24 fr_67 fr_90
          have f_97 : G_82 r_13 = some (30, .inr (6, [.ref hf_33, .int (iI (S.un i))])) := fr_90 _ _ f_68 (show ¬ (30 : Nat) < 24 by decide)
          have f_98 : G_82 h_37 = some (30, .inr (6, [.ref hf_48, .int (iI (S.un (S.rp k 0)))])) := fr_90 _ _ f_69 (show ¬ (30 : Nat) < 24 by decide)
          have bl_99 : B_83.1 ≤ MC := Nat.le_trans (w2_le C_87.w).1 hX1
          have bl_100 : B_83.2 ≤ MS := Nat.le_trans (w2_le C_87.w).2 hX2
          refine gs (pc' := 86) (fun _ _ _ _ _ hl => lv_aload_n hx hb d_Mf_at_85 rfl (lv_at hl 3 rfl)) ?_
          refine gs (pc' := 87) (fun _ _ _ _ _ hl => lv_aload_n hx hb d_Mf_at_86 rfl (lv_at hl 3 rfl)) ?_
          have f_101 : G_82 a.x = some (31, .inr (8, [.ref a.vs, .int (nI S.n), .ref a.rs, .int (nI S.rn), .ref a.ws, .ref a.ca, .ref (a.fr 0), .ref (a.fr 1), .ref (a.fr 2), .ref (a.fr 3), .ref a.zr, .ref a.fo, .ref a.ha, .ref a.si])) := C_87.ob
          refine g_get hx hb hts hin_Mf hown hK f_101 rfl 6 (by decide) (hts _ wm241) (fun _ h9 => h9) rfl d_Mf_at_87 ?_
          refine gs (pc' := 91) (fun _ _ _ _ _ hl => lv_aload_n hx hb d_Mf_at_90 rfl (lv_at hl 2 rfl)) ?_
          obtain ⟨rc_102, pf_103, hg_104, f_105, f_106, f_107, g_108⟩ := C_87.ro k (by omega)
          obtain ⟨g_109, g_110⟩ := g_108 hi_k
          subst g_109
          have f_111 : G_82 (a.ro k) = some (40 + k, .inr (5, [.ref (a.rp k), .ref (a.rh k), .int (nI (S.rc k))])) := f_105
          have f_112 : G_82 (a.rp k) = some (50 + k, .inl (cA 2, 16, .inr (.inr (.inr (.inr pf_103))))) := f_106
          have f_113 : G_82 (a.rh k) = some (60 + k, .inl (cA 2, 16, .inr (.inr (.inr (.inr hg_104))))) := f_107
          refine g_get hx hb hts hin_Ro hown hK f_111 rfl 1 (by decide) (hts _ wm225) (fun _ h9 => h9) rfl d_Mf_at_91 ?_
          refine gs (pc' := 95) (fun _ _ _ _ _ hl => lv_iconst (v := nI 0) hx hb d_Mf_at_94 (by decide)) ?_
          obtain ⟨h_114, h_115, e_116, e_117, iv_118, iv_119⟩ := g_110 0 (by omega)
          have wr_120 := hW.rp k hi_k 0 (by omega)
          have ub_121 := (hW.v _ wr_120.1).2
          have ub_121a := ub_121.1
          have ub_121b := ub_121.2
          have ub_122 := (hW.v _ wr_120.2.1).2
          have ub_122a := ub_122.1
          have ub_122b := ub_122.2
          refine g_aalS hx hb hK 2 f_113 rfl (by omega) (by decide) e_117 d_Mf_at_95 ?_
          obtain ⟨hf_123, f_124, kq_125⟩ := id iv_119
          have f_126 : G_82 h_115 = some (30, .inr (6, [.ref hf_123, .int (iI (S.un (S.rh k 0)))])) := f_124
          refine g_get hx hb hts hin_Va hown hK f_126 rfl 1 (by decide) (hts _ wm525) (fun _ h9 => h9) rfl d_Mf_at_96 ?_
          refine g_outi hlo (g_runV (As := [.ref (a.fr 0), .int (iI (S.un (S.rh k 0)))]) (rest := []) ⟨hx, hb, hml, hown, hts⟩ hK hZ hRc hRs (c_Mf_keep0 l D cA lo MC MS G_82 B_83 X a S F_85 V_86 C_87 hW (hgt S k (S.v i) jn) e_88 710 rb_89 (by decide) (S.un (S.rh k 0)) hnf hY1 hY2) (fun _ _ => cwV 2 hts (tb_good (tb_cons wm495 (tb_cons wm497 (tb_cons ws10 (tb_cons wm1 k_Mf_keep))))) rfl rfl rfl (by decide +kernel) ⟨by rw [hRf]; exact Nat.le_of_ble_eq_true rfl, by rw [hRl]; exact Nat.le_of_ble_eq_true rfl⟩) f_101 rfl bl_99 bl_100 rfl (Nat.le_of_ble_eq_true rfl) d_Mf_at_99) (fun r_130 G_127 B_128 p_129 => ?_)
          obtain ⟨e_131, C_132, fr_133⟩ := p_129
          subst e_131
          have fr_134 : gfr (fun x => x < 70) G G_127 := gfr_mono (gfr_tr fr_96 fr_133) (fun x h9 => by rcases h9 with h9 | h9 <;> omega)
          have bl_135 := CW3_le C_132
          have hs2 : sp_at S (iI g) (iI x) = kp S (hgt S k (S.v i) jn) (S.un (S.rh k 0)) := by rw [hsp, if_neg hc0, if_neg hu, if_neg hcn, if_neg hnf, hjn, Int.toNat_natCast]
          exact hret 102 _ _ _ _ d_Mf_at_102 (Nat.le_trans bl_135.1 hY1) (Nat.le_trans bl_135.2 hY2) ⟨by rw [hs2], by rw [hs2]; exact C_132, fr_134⟩
        · skip
          have nc_81 : (b01 (decide (S.n = 200))) ≠ 0 := (n0_eq (a := (b01 (decide (S.n = 200)))) (by omega)).2 c_81
          have hnf := b01_1 nc_81
          refine gs (pc' := 72) (fun _ _ _ _ _ hl => lv_bipush (v := (-3)) hx hb d_Mf_at_70 (by decide)) ?_
          refine g_eqi (show (-3) = iI (-3) from by decide) ?_
          have hs2 : sp_at S (iI g) (iI x) = (0, -3, S) := by rw [hsp, if_neg hc0, if_neg hu, if_neg hcn, if_pos hnf]
          exact hret 72 _ _ _ _ d_Mf_at_72 bl_70 bl_71 ⟨by rw [hs2], by rw [hs2]; exact C_60.up (X1 := (X.1 + 6, X.2 + 209)) (show X.1 ≤ X.1 + 6 by omega) (show X.2 ≤ X.2 + 209 by omega), (gfr_mono (M := fun x => x < 24) fr_67 (fun x h9 => by omega))⟩
      · skip
        have nc_72 : (cnb S k (S.v i)) < 0 := (ii_ge (a := (cnb S k (S.v i))) (b := 0) (by omega) (by omega) (by omega) (by omega)).2 (by first | exact c_72 | (have z9 := c_72; simp only [nI_iI] at z9; exact z9))
        have hcn : cnb S k (S.v i) < 0 := by omega
        refine gs (pc' := 62) (fun _ _ _ _ _ hl => lv_bipush (v := (-5)) hx hb d_Mf_at_60 (by decide)) ?_
        refine g_eqi (show (-5) = iI (-5) from by decide) ?_
        have hs2 : sp_at S (iI g) (iI x) = (0, -5, S) := by rw [hsp, if_neg hc0, if_neg hu, if_pos hcn]
        exact hret 62 _ _ _ _ d_Mf_at_62 bl_70 bl_71 ⟨by rw [hs2], by rw [hs2]; exact C_60.up (X1 := (X.1 + 6, X.2 + 209)) (show X.1 ≤ X.1 + 6 by omega) (show X.2 ≤ X.2 + 209 by omega), (gfr_mono (M := fun x => x < 24) fr_67 (fun x h9 => by omega))⟩
    · skip
      have nc_52 : (S.un i) ≠ (S.un (S.rp k 0)) := (ii_eq (a := (S.un i)) (b := (S.un (S.rp k 0))) (by omega) (by omega) (by omega) (by omega)).2 (by first | exact c_52 | (have z9 := c_52; simp only [nI_iI] at z9; exact z9))
      have hu : S.un i ≠ S.un (S.rp k 0) := nc_52
      refine gs (pc' := 42) (fun _ _ _ _ _ hl => lv_bipush (v := (-2)) hx hb d_Mf_at_40 (by decide)) ?_
      refine g_eqi (show (-2) = iI (-2) from by decide) ?_
      have hs2 : sp_at S (iI g) (iI x) = (0, -2, S) := by rw [hsp, if_neg hc0, if_pos hu]
      exact hret 42 _ _ _ _ d_Mf_at_42 bl_1 bl_2 ⟨by rw [hs2], by rw [hs2]; exact hC.up (X1 := (X.1 + 6, X.2 + 209)) (show X.1 ≤ X.1 + 6 by omega) (show X.2 ≤ X.2 + 209 by omega), (gfr_mono (M := fun x => x < 24) gfr_rf (fun x h9 => by omega))⟩
  · skip
    have nc_32 : (S.rc k) = 0 := (n0_ne (a := (S.rc k)) (by omega)).2 c_32
    have hc0 : S.rc k = 0 := nc_32
    refine gs (pc' := 22) (fun _ _ _ _ _ hl => lv_bipush (v := (-5)) hx hb d_Mf_at_20 (by decide)) ?_
    refine g_eqi (show (-5) = iI (-5) from by decide) ?_
    have hs2 : sp_at S (iI g) (iI x) = (0, -5, S) := by rw [hsp, if_pos hc0]
    exact hret 22 _ _ _ _ d_Mf_at_22 bl_1 bl_2 ⟨by rw [hs2], by rw [hs2]; exact hC.up (X1 := (X.1 + 6, X.2 + 209)) (show X.1 ≤ X.1 + 6 by omega) (show X.2 ≤ X.2 + 209 by omega), (gfr_mono (M := fun x => x < 24) gfr_rf (fun x h9 => by omega))⟩
set_option maxHeartbeats 4000000 in
set_option maxRecDepth 100000 in
theorem t_Mf_at1 (l : Launch) (D : va_G) (cA : Nat → ClassId) (lo MC MS : Nat) (G : gT) (B : Nat × Nat) (X : Nat × Nat) (a : AX) (S : St) (F : Nat → Option Rat) (V : Nat → Nat) (hC : CW cA X a S F V (G, B)) (hW : WF S) (g : Int) (hg1 : -2147483648 ≤ g) (hg2 : g < 2147483648) (x : Int) (hx1 : -2147483648 ≤ x) (hx2 : x < 2147483648) (hk : (sp_at S (iI g) (iI x)).1 = 1) (hY1 : X.1 + 1 ≤ MC) (hY2 : X.2 + 6 ≤ MS) (hfl : ∀ e : Env, l.admits e → e.platform.stackTraces = false) : gMetT l y_Mf_at w_Mf_at 7 111 D clS (gtys cA) lo MC MS [.ref a.x, .int (iI g), .int (iI x)] G B (gQx D clS lo "java/lang/IndexOutOfBoundsException" (fun u => u = (G, B.1 + 1, B.2 + 6))) := by
  refine g_mett (cc := prog_1_method_14_code) (nL := 6) (ret := (Option.some .int)) (L := [(0, .ref a.x), (1, .int (iI g)), (2, .int (iI x))]) (by decide +kernel) rfl (Nat.le_of_ble_eq_true rfl) rfl ?_
  intro p e R s m args below meth c Q hF hRc hRs hRf hRl hne hQ
  obtain ⟨hx, hb, hr, hml, hts0, hown, hlocks, hin, hK, hlo, hZ⟩ := hF
  have hts : ∀ w ∈ tbg, w.before args s = true := fun w h => hts0 w (List.mem_cons_of_mem _ h)
  have hX1 : X.1 ≤ MC := by omega
  have hX2 : X.2 ≤ MS := by omega
  have hn := hW.n
  have hrn := hW.rn
  have hwn := hW.wn
  have bl_1 : B.1 ≤ MC := Nat.le_trans (w2_le hC.w).1 hX1
  have bl_2 : B.2 ≤ MS := Nat.le_trans (w2_le hC.w).2 hX2
  have hv : ¬ (ri S (iI g) ∧ vi S (iI x)) := fun z9 => by
    rw [sp_at, if_neg (fun z8 => z8 z9)] at hk
    split at hk
    · simp at hk
    split at hk
    · simp at hk
    split at hk
    · simp at hk
    split at hk
    · simp at hk
    split at hk
    · simp at hk
    · rw [kp_0] at hk; simp at hk
  by_cases hv_g : ri S (iI g)
  · skip
    obtain ⟨k, hi_k, hxe_g, ei_k⟩ := ix_of hv_g.1 hv_g.2
    rw [hxe_g]
    have hv_x : ¬ vi S (iI x) := fun z9 => hv ⟨hv_g, z9⟩
    refine gs (pc' := 1) (fun _ _ _ _ _ hl => lv_aload_n hx hb d_Mf_at_0 rfl (lv_at hl 0 rfl)) ?_
    refine gs (pc' := 2) (fun _ _ _ _ _ hl => lv_iload_n hx hb d_Mf_at_1 rfl (lv_at hl 1 rfl)) ?_
    have f_3 : G a.x = some (31, .inr (8, [.ref a.vs, .int (nI S.n), .ref a.rs, .int (nI S.rn), .ref a.ws, .ref a.ca, .ref (a.fr 0), .ref (a.fr 1), .ref (a.fr 2), .ref (a.fr 3), .ref a.zr, .ref a.fo, .ref a.ha, .ref a.si])) := hC.ob
    refine g_outr hlo (g_runV (As := [.int (nI k)]) (rest := []) ⟨hx, hb, hml, hown, hts⟩ hK hZ hRc hRs (c_Mf_rowOf l D cA lo MC MS G B X a S F V hC hW k (by omega) hX1 hX2) (fun _ _ => cwV 1 hts (tb_good (tb_cons wm672 (tb_cons wm674 (tb_cons ws14 (tb_cons wm1 k_Mf_rowOf))))) rfl rfl rfl (by decide +kernel) ⟨by rw [hRf]; exact Nat.le_of_ble_eq_true rfl, by rw [hRl]; exact Nat.le_of_ble_eq_true rfl⟩) f_3 rfl bl_1 bl_2 rfl (Nat.le_of_ble_eq_true rfl) d_Mf_at_2) (fun r_7 G_4 B_5 p_6 => ?_)
    obtain ⟨u_8, e_9⟩ := p_6
    cases u_8
    subst e_9
    refine gst (pc' := 6) (L' := [(3, .ref (a.ro k)), (0, .ref a.x), (1, .int (nI k)), (2, .int (iI x))]) (fun _ _ _ _ _ hl => lv_astore_n hx hb d_Mf_at_5 rfl hl (by decide) rfl) ?_
    refine gs (pc' := 7) (fun _ _ _ _ _ hl => lv_aload_n hx hb d_Mf_at_6 rfl (lv_at hl 1 rfl)) ?_
    refine gs (pc' := 8) (fun _ _ _ _ _ hl => lv_iload_n hx hb d_Mf_at_7 rfl (lv_at hl 3 rfl)) ?_
    exact g_up hlocks hne bl_1 bl_2 (g_thrV (As := [.int (iI x)]) (rest := []) ⟨hx, hb, hml, hown, hts⟩ hK hZ hRc hRs (t_Mf_valueOf l D cA lo MC MS G B X a S F V hC hW x hx1 hx2 (nvi hx1 hx2 hv_x) hY1 hY2 hfl) (fun _ _ => cwV 1 hts (tb_good (tb_cons wm539 (tb_cons wm541 (tb_cons ws11 (tb_cons wm1 k_Mf_valueOf))))) rfl rfl rfl (by decide +kernel) ⟨by rw [hRf]; exact Nat.le_of_ble_eq_true rfl, by rw [hRl]; exact Nat.le_of_ble_eq_true rfl⟩) f_3 rfl bl_1 bl_2 rfl (Nat.le_of_ble_eq_true rfl) d_Mf_at_8) (fun _ h => h) hQ
  · skip
    refine gs (pc' := 1) (fun _ _ _ _ _ hl => lv_aload_n hx hb d_Mf_at_0 rfl (lv_at hl 0 rfl)) ?_
    refine gs (pc' := 2) (fun _ _ _ _ _ hl => lv_iload_n hx hb d_Mf_at_1 rfl (lv_at hl 1 rfl)) ?_
    have f_10 : G a.x = some (31, .inr (8, [.ref a.vs, .int (nI S.n), .ref a.rs, .int (nI S.rn), .ref a.ws, .ref a.ca, .ref (a.fr 0), .ref (a.fr 1), .ref (a.fr 2), .ref (a.fr 3), .ref a.zr, .ref a.fo, .ref a.ha, .ref a.si])) := hC.ob
    exact g_up hlocks hne bl_1 bl_2 (g_thrV (As := [.int (iI g)]) (rest := []) ⟨hx, hb, hml, hown, hts⟩ hK hZ hRc hRs (t_Mf_rowOf l D cA lo MC MS G B X a S F V hC hW g hg1 hg2 (nri hg1 hg2 hv_g) hY1 hY2 hfl) (fun _ _ => cwV 1 hts (tb_good (tb_cons wm672 (tb_cons wm674 (tb_cons ws14 (tb_cons wm1 k_Mf_rowOf))))) rfl rfl rfl (by decide +kernel) ⟨by rw [hRf]; exact Nat.le_of_ble_eq_true rfl, by rw [hRl]; exact Nat.le_of_ble_eq_true rfl⟩) f_10 rfl bl_1 bl_2 rfl (Nat.le_of_ble_eq_true rfl) d_Mf_at_2) (fun _ h => h) hQ
set_option maxHeartbeats 4000000 in
set_option maxRecDepth 100000 in
theorem c_Mf_addStrip (l : Launch) (D : va_G) (cA : Nat → ClassId) (lo MC MS : Nat) (G : gT) (B : Nat × Nat) (X : Nat × Nat) (a : AX) (S : St) (F : Nat → Option Rat) (V : Nat → Nat) (hC : CW cA X a S F V (G, B)) (hW : WF S) (k : Nat) (hk : k < S.rn) (j : Nat) (hj : j + 1 < S.rc k) (ss : Rat) (hF : F 3 = some ss) (hrs : rb ss 100) (hY1 : X.1 + 0 ≤ MC) (hY2 : X.2 + 0 ≤ MS) : gMet l y_Mf_addStrip w_Mf_addStrip 7 190 D clS (gtys cA) lo MC MS [.ref a.x, .ref (a.ro k), .int (nI (j + 1))] G B (gQv D clS lo (fun u => ∃ F1 V1, CW cA X a S F1 V1 u ∧ F1 3 = some (ss + strip S k j) ∧ rb (ss + strip S k j) 600 ∧ gfr (fun x => x < 24) G u.1)) := by
  refine g_metv (cc := prog_1_method_26_code) (nL := 3) (L := [(0, .ref a.x), (1, .ref (a.ro k)), (2, .int (nI (j + 1)))]) (by decide +kernel) rfl (Nat.le_of_ble_eq_true rfl) rfl ?_
  intro p e R s m args below meth c Q hF hRc hRs hRf hRl hret
  obtain ⟨hx, hb, hr, hml, hts0, hown, hlocks, hin, hK, hlo, hZ⟩ := hF
  have hts : ∀ w ∈ tbg, w.before args s = true := fun w h => hts0 w (List.mem_cons_of_mem _ h)
  have hX1 : X.1 ≤ MC := by omega
  have hX2 : X.2 ≤ MS := by omega
  have hn := hW.n
  have hrn := hW.rn
  have hwn := hW.wn
  have bl_1 : B.1 ≤ MC := Nat.le_trans (w2_le hC.w).1 hX1
  have bl_2 : B.2 ≤ MS := Nat.le_trans (w2_le hC.w).2 hX2
  have hrc := hW.rc k hk
  obtain ⟨F9, hF9⟩ : ∃ F9, F9 = F := ⟨F, rfl⟩
  refine gs (pc' := 1) (fun _ _ _ _ _ hl => lv_aload_n hx hb d_Mf_addStrip_0 rfl (lv_at hl 0 rfl)) ?_
  have f_3 : G a.x = some (31, .inr (8, [.ref a.vs, .int (nI S.n), .ref a.rs, .int (nI S.rn), .ref a.ws, .ref a.ca, .ref (a.fr 0), .ref (a.fr 1), .ref (a.fr 2), .ref (a.fr 3), .ref a.zr, .ref a.fo, .ref a.ha, .ref a.si])) := hC.ob
  refine g_get hx hb hts hin_Mf hown hK f_3 rfl 5 (by decide) (hts _ wm240) (fun _ h9 => h9) rfl d_Mf_addStrip_1 ?_
  refine gs (pc' := 5) (fun _ _ _ _ _ hl => lv_aload_n hx hb d_Mf_addStrip_4 rfl (lv_at hl 0 rfl)) ?_
  refine g_get hx hb hts hin_Mf hown hK f_3 rfl 6 (by decide) (hts _ wm241) (fun _ h9 => h9) rfl d_Mf_addStrip_5 ?_
  refine gs (pc' := 9) (fun _ _ _ _ _ hl => lv_aload_n hx hb d_Mf_addStrip_8 rfl (lv_at hl 1 rfl)) ?_
  obtain ⟨rc_4, pf_5, hg_6, f_7, f_8, f_9, g_10⟩ := hC.ro k (by omega)
  obtain ⟨g_11, g_12⟩ := g_10 hk
  subst g_11
  have f_13 : G (a.ro k) = some (40 + k, .inr (5, [.ref (a.rp k), .ref (a.rh k), .int (nI (S.rc k))])) := f_7
  have f_14 : G (a.rp k) = some (50 + k, .inl (cA 2, 16, .inr (.inr (.inr (.inr pf_5))))) := f_8
  have f_15 : G (a.rh k) = some (60 + k, .inl (cA 2, 16, .inr (.inr (.inr (.inr hg_6))))) := f_9
  refine g_get hx hb hts hin_Ro hown hK f_13 rfl 0 (by decide) (hts _ wm223) (fun _ h9 => h9) rfl d_Mf_addStrip_9 ?_
  refine gs (pc' := 13) (fun _ _ _ _ _ hl => lv_iload_n hx hb d_Mf_addStrip_12 rfl (lv_at hl 2 rfl)) ?_
  obtain ⟨h_16, h_17, e_18, e_19, iv_20, iv_21⟩ := g_12 (j + 1) (by omega)
  have rb_22 : rb (S.v (S.rp k (j + 1))) 100 := rb_of (hW.v _ (hW.rp k hk (j + 1) (by omega)).1).1
  have rb_23 : rb (S.v (S.rh k (j + 1))) 100 := rb_of (hW.v _ (hW.rp k hk (j + 1) (by omega)).2.1).1
  have wr_24 := hW.rp k hk (j + 1) (by omega)
  have ub_25 := (hW.v _ wr_24.1).2
  have ub_25a := ub_25.1
  have ub_25b := ub_25.2
  have ub_26 := (hW.v _ wr_24.2.1).2
  have ub_26a := ub_26.1
  have ub_26b := ub_26.2
  refine g_aalS hx hb hK 2 f_14 rfl (by omega) (by decide) e_18 d_Mf_addStrip_13 ?_
  obtain ⟨hf_27, f_28, kq_29⟩ := id iv_20
  have f_30 : G h_16 = some (30, .inr (6, [.ref hf_27, .int (iI (S.un (S.rp k (j + 1))))])) := f_28
  refine g_get hx hb hts hin_Va hown hK f_30 rfl 0 (by decide) (hts _ wm523) (fun _ h9 => h9) rfl d_Mf_addStrip_14 ?_
  refine gs (pc' := 18) (fun _ _ _ _ _ hl => lv_aload_n hx hb d_Mf_addStrip_17 rfl (lv_at hl 1 rfl)) ?_
  refine g_get hx hb hts hin_Ro hown hK f_13 rfl 0 (by decide) (hts _ wm223) (fun _ h9 => h9) rfl d_Mf_addStrip_18 ?_
  refine gs (pc' := 22) (fun _ _ _ _ _ hl => lv_iload_n hx hb d_Mf_addStrip_21 rfl (lv_at hl 2 rfl)) ?_
  refine gs (pc' := 23) (fun _ _ _ _ _ hl => lv_iconst (v := nI 1) hx hb d_Mf_addStrip_22 (by decide)) ?_
  refine gs (pc' := 24) (fun _ _ _ _ _ hl => lv_isub hx hb d_Mf_addStrip_23) ?_
  refine g_eqi (show (nI (j + 1)) - (nI 1) = nI j from (pk_sub (by omega)).trans (congrArg nI (show (j + 1) - 1 = j by omega))) ?_
  obtain ⟨h_31, h_32, e_33, e_34, iv_35, iv_36⟩ := g_12 j (by omega)
  have rb_37 : rb (S.v (S.rp k j)) 100 := rb_of (hW.v _ (hW.rp k hk j (by omega)).1).1
  have rb_38 : rb (S.v (S.rh k j)) 100 := rb_of (hW.v _ (hW.rp k hk j (by omega)).2.1).1
  have wr_39 := hW.rp k hk j (by omega)
  have ub_40 := (hW.v _ wr_39.1).2
  have ub_40a := ub_40.1
  have ub_40b := ub_40.2
  have ub_41 := (hW.v _ wr_39.2.1).2
  have ub_41a := ub_41.1
  have ub_41b := ub_41.2
  refine g_aalS hx hb hK 2 f_14 rfl (by omega) (by decide) e_33 d_Mf_addStrip_24 ?_
  obtain ⟨hf_42, f_43, kq_44⟩ := id iv_35
  have f_45 : G h_31 = some (30, .inr (6, [.ref hf_42, .int (iI (S.un (S.rp k j)))])) := f_43
  refine g_get hx hb hts hin_Va hown hK f_45 rfl 0 (by decide) (hts _ wm523) (fun _ h9 => h9) rfl d_Mf_addStrip_25 ?_
  refine gs (pc' := 29) (fun _ _ _ _ _ hl => lv_iconst (v := nI 1) hx hb d_Mf_addStrip_28 (by decide)) ?_
  have f_46 : G a.ca = some (30, .inr (0, [.ref a.hd, .ref a.hc, .ref (a.ad 5), .ref (a.ad 6), .ref (a.ad 7), .ref (a.ad 8), .ref (a.ad 9), .ref (a.ad 10)])) := hC.ca
  refine g_outv hlo (g_runV (As := [.ref (a.fr 0), .ref hf_27, .ref hf_42, .int (nI 1)]) (rest := []) ⟨hx, hb, hml, hown, hts⟩ hK hZ hRc hRs (c3_sub l D cA lo MC MS G B X a S F V hC hX1 hX2 0 (by decide) hf_27 hf_42 (S.v (S.rp k (j + 1))) (S.v (S.rp k j)) (Or.inr kq_29) (Or.inr kq_44) 100 100 rb_22 rb_37 (by decide)) (fun _ _ => cwV 4 hts (tb_good (tb_cons wm559 (tb_cons wm560 (tb_cons wm561 (tb_cons wm3 k_Ca_setSum))))) rfl rfl rfl (by decide +kernel) ⟨by rw [hRf]; exact Nat.le_of_ble_eq_true rfl, by rw [hRl]; exact Nat.le_of_ble_eq_true rfl⟩) f_46 rfl bl_1 bl_2 rfl (Nat.le_of_ble_eq_true rfl) d_Mf_addStrip_29) (fun G_47 B_48 p_49 => ?_)
  obtain ⟨V_50, C_51, fr_52⟩ := p_49
  have iv_53 : isV cA G_47 h_16 (S.v (S.rp k (j + 1))) (S.un (S.rp k (j + 1))) := isV_24 iv_20 fr_52
  have iv_54 : isV cA G_47 h_17 (S.v (S.rh k (j + 1))) (S.un (S.rh k (j + 1))) := isV_24 iv_21 fr_52
  have iv_55 : isV cA G_47 h_31 (S.v (S.rp k j)) (S.un (S.rp k j)) := isV_24 iv_35 fr_52
  have iv_56 : isV cA G_47 h_32 (S.v (S.rh k j)) (S.un (S.rh k j)) := isV_24 iv_36 fr_52
  have kq_57 : kq cA G_47 hf_27 (S.v (S.rp k (j + 1))) := kq_24 kq_29 fr_52
  have kq_58 : kq cA G_47 hf_42 (S.v (S.rp k j)) := kq_24 kq_44 fr_52
  have fr_59 : gfr (fun x => x < 24) G G_47 := gfr_24 gfr_rf fr_52
  have f_60 : G_47 h_16 = some (30, .inr (6, [.ref hf_27, .int (iI (S.un (S.rp k (j + 1))))])) := fr_52 _ _ f_30 (show ¬ (30 : Nat) < 24 by decide)
  have f_61 : G_47 h_31 = some (30, .inr (6, [.ref hf_42, .int (iI (S.un (S.rp k j)))])) := fr_52 _ _ f_45 (show ¬ (30 : Nat) < 24 by decide)
  have rb_62 : rb ((S.v (S.rp k (j + 1))) - (S.v (S.rp k j))) 201 := rb_sub (j := 100) (k := 100) rb_22 rb_37
  have bl_63 : B_48.1 ≤ MC := Nat.le_trans (w2_le C_51.w).1 hX1
  have bl_64 : B_48.2 ≤ MS := Nat.le_trans (w2_le C_51.w).2 hX2
  refine gs (pc' := 33) (fun _ _ _ _ _ hl => lv_aload_n hx hb d_Mf_addStrip_32 rfl (lv_at hl 0 rfl)) ?_
  have f_65 : G_47 a.x = some (31, .inr (8, [.ref a.vs, .int (nI S.n), .ref a.rs, .int (nI S.rn), .ref a.ws, .ref a.ca, .ref (a.fr 0), .ref (a.fr 1), .ref (a.fr 2), .ref (a.fr 3), .ref a.zr, .ref a.fo, .ref a.ha, .ref a.si])) := C_51.ob
  refine g_get hx hb hts hin_Mf hown hK f_65 rfl 5 (by decide) (hts _ wm240) (fun _ h9 => h9) rfl d_Mf_addStrip_33 ?_
  refine gs (pc' := 37) (fun _ _ _ _ _ hl => lv_aload_n hx hb d_Mf_addStrip_36 rfl (lv_at hl 0 rfl)) ?_
  refine g_get hx hb hts hin_Mf hown hK f_65 rfl 7 (by decide) (hts _ wm242) (fun _ h9 => h9) rfl d_Mf_addStrip_37 ?_
  refine gs (pc' := 41) (fun _ _ _ _ _ hl => lv_aload_n hx hb d_Mf_addStrip_40 rfl (lv_at hl 1 rfl)) ?_
  obtain ⟨rc_66, pf_67, hg_68, f_69, f_70, f_71, g_72⟩ := C_51.ro k (by omega)
  obtain ⟨g_73, g_74⟩ := g_72 hk
  subst g_73
  have f_75 : G_47 (a.ro k) = some (40 + k, .inr (5, [.ref (a.rp k), .ref (a.rh k), .int (nI (S.rc k))])) := f_69
  have f_76 : G_47 (a.rp k) = some (50 + k, .inl (cA 2, 16, .inr (.inr (.inr (.inr pf_67))))) := f_70
  have f_77 : G_47 (a.rh k) = some (60 + k, .inl (cA 2, 16, .inr (.inr (.inr (.inr hg_68))))) := f_71
  refine g_get hx hb hts hin_Ro hown hK f_75 rfl 1 (by decide) (hts _ wm225) (fun _ h9 => h9) rfl d_Mf_addStrip_41 ?_
  refine gs (pc' := 45) (fun _ _ _ _ _ hl => lv_iload_n hx hb d_Mf_addStrip_44 rfl (lv_at hl 2 rfl)) ?_
  obtain ⟨h_78, h_79, e_80, e_81, iv_82, iv_83⟩ := g_74 (j + 1) (by omega)
  have wr_84 := hW.rp k hk (j + 1) (by omega)
  have ub_85 := (hW.v _ wr_84.1).2
  have ub_85a := ub_85.1
  have ub_85b := ub_85.2
  have ub_86 := (hW.v _ wr_84.2.1).2
  have ub_86a := ub_86.1
  have ub_86b := ub_86.2
  refine g_aalS hx hb hK 2 f_77 rfl (by omega) (by decide) e_81 d_Mf_addStrip_45 ?_
  obtain ⟨hf_87, f_88, kq_89⟩ := id iv_83
  have f_90 : G_47 h_79 = some (30, .inr (6, [.ref hf_87, .int (iI (S.un (S.rh k (j + 1))))])) := f_88
  refine g_get hx hb hts hin_Va hown hK f_90 rfl 0 (by decide) (hts _ wm523) (fun _ h9 => h9) rfl d_Mf_addStrip_46 ?_
  refine gs (pc' := 50) (fun _ _ _ _ _ hl => lv_aload_n hx hb d_Mf_addStrip_49 rfl (lv_at hl 1 rfl)) ?_
  refine g_get hx hb hts hin_Ro hown hK f_75 rfl 1 (by decide) (hts _ wm225) (fun _ h9 => h9) rfl d_Mf_addStrip_50 ?_
  refine gs (pc' := 54) (fun _ _ _ _ _ hl => lv_iload_n hx hb d_Mf_addStrip_53 rfl (lv_at hl 2 rfl)) ?_
  refine gs (pc' := 55) (fun _ _ _ _ _ hl => lv_iconst (v := nI 1) hx hb d_Mf_addStrip_54 (by decide)) ?_
  refine gs (pc' := 56) (fun _ _ _ _ _ hl => lv_isub hx hb d_Mf_addStrip_55) ?_
  refine g_eqi (show (nI (j + 1)) - (nI 1) = nI j from (pk_sub (by omega)).trans (congrArg nI (show (j + 1) - 1 = j by omega))) ?_
  obtain ⟨h_91, h_92, e_93, e_94, iv_95, iv_96⟩ := g_74 j (by omega)
  have wr_97 := hW.rp k hk j (by omega)
  have ub_98 := (hW.v _ wr_97.1).2
  have ub_98a := ub_98.1
  have ub_98b := ub_98.2
  have ub_99 := (hW.v _ wr_97.2.1).2
  have ub_99a := ub_99.1
  have ub_99b := ub_99.2
  refine g_aalS hx hb hK 2 f_77 rfl (by omega) (by decide) e_94 d_Mf_addStrip_56 ?_
  obtain ⟨hf_100, f_101, kq_102⟩ := id iv_96
  have f_103 : G_47 h_92 = some (30, .inr (6, [.ref hf_100, .int (iI (S.un (S.rh k j)))])) := f_101
  refine g_get hx hb hts hin_Va hown hK f_103 rfl 0 (by decide) (hts _ wm523) (fun _ h9 => h9) rfl d_Mf_addStrip_57 ?_
  refine gs (pc' := 61) (fun _ _ _ _ _ hl => lv_iconst (v := nI 0) hx hb d_Mf_addStrip_60 (by decide)) ?_
  have f_104 : G_47 a.ca = some (30, .inr (0, [.ref a.hd, .ref a.hc, .ref (a.ad 5), .ref (a.ad 6), .ref (a.ad 7), .ref (a.ad 8), .ref (a.ad 9), .ref (a.ad 10)])) := C_51.ca
  refine g_outv hlo (g_runV (As := [.ref (a.fr 1), .ref hf_87, .ref hf_100, .int (nI 0)]) (rest := []) ⟨hx, hb, hml, hown, hts⟩ hK hZ hRc hRs (c3_add l D cA lo MC MS G_47 B_48 X a S (fup F 0 (some ((S.v (S.rp k (j + 1))) - (S.v (S.rp k j))))) V_50 C_51 hX1 hX2 1 (by decide) hf_87 hf_100 (S.v (S.rh k (j + 1))) (S.v (S.rh k j)) (Or.inr kq_89) (Or.inr kq_102) 100 100 rb_23 rb_38 (by decide)) (fun _ _ => cwV 4 hts (tb_good (tb_cons wm559 (tb_cons wm560 (tb_cons wm561 (tb_cons wm3 k_Ca_setSum))))) rfl rfl rfl (by decide +kernel) ⟨by rw [hRf]; exact Nat.le_of_ble_eq_true rfl, by rw [hRl]; exact Nat.le_of_ble_eq_true rfl⟩) f_104 rfl bl_63 bl_64 rfl (Nat.le_of_ble_eq_true rfl) d_Mf_addStrip_61) (fun G_105 B_106 p_107 => ?_)
  obtain ⟨V_108, C_109, fr_110⟩ := p_107
  have iv_111 : isV cA G_105 h_16 (S.v (S.rp k (j + 1))) (S.un (S.rp k (j + 1))) := isV_24 iv_53 fr_110
  have iv_112 : isV cA G_105 h_17 (S.v (S.rh k (j + 1))) (S.un (S.rh k (j + 1))) := isV_24 iv_54 fr_110
  have iv_113 : isV cA G_105 h_31 (S.v (S.rp k j)) (S.un (S.rp k j)) := isV_24 iv_55 fr_110
  have iv_114 : isV cA G_105 h_32 (S.v (S.rh k j)) (S.un (S.rh k j)) := isV_24 iv_56 fr_110
  have iv_115 : isV cA G_105 h_78 (S.v (S.rp k (j + 1))) (S.un (S.rp k (j + 1))) := isV_24 iv_82 fr_110
  have iv_116 : isV cA G_105 h_79 (S.v (S.rh k (j + 1))) (S.un (S.rh k (j + 1))) := isV_24 iv_83 fr_110
  have iv_117 : isV cA G_105 h_91 (S.v (S.rp k j)) (S.un (S.rp k j)) := isV_24 iv_95 fr_110
  have iv_118 : isV cA G_105 h_92 (S.v (S.rh k j)) (S.un (S.rh k j)) := isV_24 iv_96 fr_110
  have kq_119 : kq cA G_105 hf_27 (S.v (S.rp k (j + 1))) := kq_24 kq_57 fr_110
  have kq_120 : kq cA G_105 hf_42 (S.v (S.rp k j)) := kq_24 kq_58 fr_110
  have kq_121 : kq cA G_105 hf_87 (S.v (S.rh k (j + 1))) := kq_24 kq_89 fr_110
  have kq_122 : kq cA G_105 hf_100 (S.v (S.rh k j)) := kq_24 kq_102 fr_110
  have fr_123 : gfr (fun x => x < 24) G G_105 := gfr_24 fr_59 fr_110
  have f_124 : G_105 h_16 = some (30, .inr (6, [.ref hf_27, .int (iI (S.un (S.rp k (j + 1))))])) := fr_110 _ _ f_60 (show ¬ (30 : Nat) < 24 by decide)
  have f_125 : G_105 h_31 = some (30, .inr (6, [.ref hf_42, .int (iI (S.un (S.rp k j)))])) := fr_110 _ _ f_61 (show ¬ (30 : Nat) < 24 by decide)
  have f_126 : G_105 h_79 = some (30, .inr (6, [.ref hf_87, .int (iI (S.un (S.rh k (j + 1))))])) := fr_110 _ _ f_90 (show ¬ (30 : Nat) < 24 by decide)
  have f_127 : G_105 h_92 = some (30, .inr (6, [.ref hf_100, .int (iI (S.un (S.rh k j)))])) := fr_110 _ _ f_103 (show ¬ (30 : Nat) < 24 by decide)
  have rb_128 : rb ((S.v (S.rh k (j + 1))) + (S.v (S.rh k j))) 201 := rb_add (j := 100) (k := 100) rb_23 rb_38
  have bl_129 : B_106.1 ≤ MC := Nat.le_trans (w2_le C_109.w).1 hX1
  have bl_130 : B_106.2 ≤ MS := Nat.le_trans (w2_le C_109.w).2 hX2
  refine gs (pc' := 65) (fun _ _ _ _ _ hl => lv_aload_n hx hb d_Mf_addStrip_64 rfl (lv_at hl 0 rfl)) ?_
  have f_131 : G_105 a.x = some (31, .inr (8, [.ref a.vs, .int (nI S.n), .ref a.rs, .int (nI S.rn), .ref a.ws, .ref a.ca, .ref (a.fr 0), .ref (a.fr 1), .ref (a.fr 2), .ref (a.fr 3), .ref a.zr, .ref a.fo, .ref a.ha, .ref a.si])) := C_109.ob
  refine g_get hx hb hts hin_Mf hown hK f_131 rfl 5 (by decide) (hts _ wm240) (fun _ h9 => h9) rfl d_Mf_addStrip_65 ?_
  refine gs (pc' := 69) (fun _ _ _ _ _ hl => lv_aload_n hx hb d_Mf_addStrip_68 rfl (lv_at hl 0 rfl)) ?_
  refine g_get hx hb hts hin_Mf hown hK f_131 rfl 8 (by decide) (hts _ wm243) (fun _ h9 => h9) rfl d_Mf_addStrip_69 ?_
  refine gs (pc' := 73) (fun _ _ _ _ _ hl => lv_aload_n hx hb d_Mf_addStrip_72 rfl (lv_at hl 0 rfl)) ?_
  refine g_get hx hb hts hin_Mf hown hK f_131 rfl 6 (by decide) (hts _ wm241) (fun _ h9 => h9) rfl d_Mf_addStrip_73 ?_
  refine gs (pc' := 77) (fun _ _ _ _ _ hl => lv_aload_n hx hb d_Mf_addStrip_76 rfl (lv_at hl 0 rfl)) ?_
  refine g_get hx hb hts hin_Mf hown hK f_131 rfl 7 (by decide) (hts _ wm242) (fun _ h9 => h9) rfl d_Mf_addStrip_77 ?_
  refine gs (pc' := 81) (fun _ _ _ _ _ hl => lv_iconst (v := nI 0) hx hb d_Mf_addStrip_80 (by decide)) ?_
  have f_132 : G_105 a.ca = some (30, .inr (0, [.ref a.hd, .ref a.hc, .ref (a.ad 5), .ref (a.ad 6), .ref (a.ad 7), .ref (a.ad 8), .ref (a.ad 9), .ref (a.ad 10)])) := C_109.ca
  refine g_outv hlo (g_runV (As := [.ref (a.fr 2), .ref (a.fr 0), .ref (a.fr 1), .int (nI 0)]) (rest := []) ⟨hx, hb, hml, hown, hts⟩ hK hZ hRc hRs (c3_mul l D cA lo MC MS G_105 B_106 X a S (fup (fup F 0 (some ((S.v (S.rp k (j + 1))) - (S.v (S.rp k j))))) 1 (some ((S.v (S.rh k (j + 1))) + (S.v (S.rh k j))))) V_108 C_109 hX1 hX2 2 (by decide) (a.fr 0) (a.fr 1) ((S.v (S.rp k (j + 1))) - (S.v (S.rp k j))) ((S.v (S.rh k (j + 1))) + (S.v (S.rh k j))) (Or.inl ⟨0, by decide, by decide, rfl, rfl⟩) (Or.inl ⟨1, by decide, by decide, rfl, rfl⟩) 201 201 rb_62 rb_128 (by decide)) (fun _ _ => cwV 4 hts (tb_good (tb_cons wm588 (tb_cons wm589 (tb_cons wm590 (tb_cons wm3 k_Ca_setProduct))))) rfl rfl rfl (by decide +kernel) ⟨by rw [hRf]; exact Nat.le_of_ble_eq_true rfl, by rw [hRl]; exact Nat.le_of_ble_eq_true rfl⟩) f_132 rfl bl_129 bl_130 rfl (Nat.le_of_ble_eq_true rfl) d_Mf_addStrip_81) (fun G_133 B_134 p_135 => ?_)
  obtain ⟨V_136, C_137, fr_138⟩ := p_135
  have iv_139 : isV cA G_133 h_16 (S.v (S.rp k (j + 1))) (S.un (S.rp k (j + 1))) := isV_24 iv_111 fr_138
  have iv_140 : isV cA G_133 h_17 (S.v (S.rh k (j + 1))) (S.un (S.rh k (j + 1))) := isV_24 iv_112 fr_138
  have iv_141 : isV cA G_133 h_31 (S.v (S.rp k j)) (S.un (S.rp k j)) := isV_24 iv_113 fr_138
  have iv_142 : isV cA G_133 h_32 (S.v (S.rh k j)) (S.un (S.rh k j)) := isV_24 iv_114 fr_138
  have iv_143 : isV cA G_133 h_78 (S.v (S.rp k (j + 1))) (S.un (S.rp k (j + 1))) := isV_24 iv_115 fr_138
  have iv_144 : isV cA G_133 h_79 (S.v (S.rh k (j + 1))) (S.un (S.rh k (j + 1))) := isV_24 iv_116 fr_138
  have iv_145 : isV cA G_133 h_91 (S.v (S.rp k j)) (S.un (S.rp k j)) := isV_24 iv_117 fr_138
  have iv_146 : isV cA G_133 h_92 (S.v (S.rh k j)) (S.un (S.rh k j)) := isV_24 iv_118 fr_138
  have kq_147 : kq cA G_133 hf_27 (S.v (S.rp k (j + 1))) := kq_24 kq_119 fr_138
  have kq_148 : kq cA G_133 hf_42 (S.v (S.rp k j)) := kq_24 kq_120 fr_138
  have kq_149 : kq cA G_133 hf_87 (S.v (S.rh k (j + 1))) := kq_24 kq_121 fr_138
  have kq_150 : kq cA G_133 hf_100 (S.v (S.rh k j)) := kq_24 kq_122 fr_138
  have fr_151 : gfr (fun x => x < 24) G G_133 := gfr_24 fr_123 fr_138
  have f_152 : G_133 h_16 = some (30, .inr (6, [.ref hf_27, .int (iI (S.un (S.rp k (j + 1))))])) := fr_138 _ _ f_124 (show ¬ (30 : Nat) < 24 by decide)
  have f_153 : G_133 h_31 = some (30, .inr (6, [.ref hf_42, .int (iI (S.un (S.rp k j)))])) := fr_138 _ _ f_125 (show ¬ (30 : Nat) < 24 by decide)
  have f_154 : G_133 h_79 = some (30, .inr (6, [.ref hf_87, .int (iI (S.un (S.rh k (j + 1))))])) := fr_138 _ _ f_126 (show ¬ (30 : Nat) < 24 by decide)
  have f_155 : G_133 h_92 = some (30, .inr (6, [.ref hf_100, .int (iI (S.un (S.rh k j)))])) := fr_138 _ _ f_127 (show ¬ (30 : Nat) < 24 by decide)
  have rb_156 : rb (((S.v (S.rp k (j + 1))) - (S.v (S.rp k j))) * ((S.v (S.rh k (j + 1))) + (S.v (S.rh k j)))) 402 := rb_mul (j := 201) (k := 201) rb_62 rb_128
  have bl_157 : B_134.1 ≤ MC := Nat.le_trans (w2_le C_137.w).1 hX1
  have bl_158 : B_134.2 ≤ MS := Nat.le_trans (w2_le C_137.w).2 hX2
  refine gs (pc' := 85) (fun _ _ _ _ _ hl => lv_aload_n hx hb d_Mf_addStrip_84 rfl (lv_at hl 0 rfl)) ?_
  have f_159 : G_133 a.x = some (31, .inr (8, [.ref a.vs, .int (nI S.n), .ref a.rs, .int (nI S.rn), .ref a.ws, .ref a.ca, .ref (a.fr 0), .ref (a.fr 1), .ref (a.fr 2), .ref (a.fr 3), .ref a.zr, .ref a.fo, .ref a.ha, .ref a.si])) := C_137.ob
  refine g_get hx hb hts hin_Mf hown hK f_159 rfl 5 (by decide) (hts _ wm240) (fun _ h9 => h9) rfl d_Mf_addStrip_85 ?_
  refine gs (pc' := 89) (fun _ _ _ _ _ hl => lv_aload_n hx hb d_Mf_addStrip_88 rfl (lv_at hl 0 rfl)) ?_
  refine g_get hx hb hts hin_Mf hown hK f_159 rfl 6 (by decide) (hts _ wm241) (fun _ h9 => h9) rfl d_Mf_addStrip_89 ?_
  refine gs (pc' := 93) (fun _ _ _ _ _ hl => lv_aload_n hx hb d_Mf_addStrip_92 rfl (lv_at hl 0 rfl)) ?_
  refine g_get hx hb hts hin_Mf hown hK f_159 rfl 8 (by decide) (hts _ wm243) (fun _ h9 => h9) rfl d_Mf_addStrip_93 ?_
  refine gs (pc' := 97) (fun _ _ _ _ _ hl => lv_aload_n hx hb d_Mf_addStrip_96 rfl (lv_at hl 0 rfl)) ?_
  refine g_get hx hb hts hin_Mf hown hK f_159 rfl 12 (by decide) (hts _ wm247) (fun _ h9 => h9) rfl d_Mf_addStrip_97 ?_
  refine gs (pc' := 101) (fun _ _ _ _ _ hl => lv_iconst (v := nI 0) hx hb d_Mf_addStrip_100 (by decide)) ?_
  have f_160 : G_133 a.ca = some (30, .inr (0, [.ref a.hd, .ref a.hc, .ref (a.ad 5), .ref (a.ad 6), .ref (a.ad 7), .ref (a.ad 8), .ref (a.ad 9), .ref (a.ad 10)])) := C_137.ca
  refine g_outv hlo (g_runV (As := [.ref (a.fr 0), .ref (a.fr 2), .ref a.ha, .int (nI 0)]) (rest := []) ⟨hx, hb, hml, hown, hts⟩ hK hZ hRc hRs (c3_mul l D cA lo MC MS G_133 B_134 X a S (fup (fup (fup F 0 (some ((S.v (S.rp k (j + 1))) - (S.v (S.rp k j))))) 1 (some ((S.v (S.rh k (j + 1))) + (S.v (S.rh k j))))) 2 (some (((S.v (S.rp k (j + 1))) - (S.v (S.rp k j))) * ((S.v (S.rh k (j + 1))) + (S.v (S.rh k j)))))) V_136 C_137 hX1 hX2 0 (by decide) (a.fr 2) a.ha (((S.v (S.rp k (j + 1))) - (S.v (S.rp k j))) * ((S.v (S.rh k (j + 1))) + (S.v (S.rh k j)))) (mkRat 1 2) (Or.inl ⟨2, by decide, by decide, rfl, rfl⟩) (Or.inr C_137.ha) 402 1 rb_156 rb_2 (by decide)) (fun _ _ => cwV 4 hts (tb_good (tb_cons wm588 (tb_cons wm589 (tb_cons wm590 (tb_cons wm3 k_Ca_setProduct))))) rfl rfl rfl (by decide +kernel) ⟨by rw [hRf]; exact Nat.le_of_ble_eq_true rfl, by rw [hRl]; exact Nat.le_of_ble_eq_true rfl⟩) f_160 rfl bl_157 bl_158 rfl (Nat.le_of_ble_eq_true rfl) d_Mf_addStrip_101) (fun G_161 B_162 p_163 => ?_)
  obtain ⟨V_164, C_165, fr_166⟩ := p_163
  have iv_167 : isV cA G_161 h_16 (S.v (S.rp k (j + 1))) (S.un (S.rp k (j + 1))) := isV_24 iv_139 fr_166
  have iv_168 : isV cA G_161 h_17 (S.v (S.rh k (j + 1))) (S.un (S.rh k (j + 1))) := isV_24 iv_140 fr_166
  have iv_169 : isV cA G_161 h_31 (S.v (S.rp k j)) (S.un (S.rp k j)) := isV_24 iv_141 fr_166
  have iv_170 : isV cA G_161 h_32 (S.v (S.rh k j)) (S.un (S.rh k j)) := isV_24 iv_142 fr_166
  have iv_171 : isV cA G_161 h_78 (S.v (S.rp k (j + 1))) (S.un (S.rp k (j + 1))) := isV_24 iv_143 fr_166
  have iv_172 : isV cA G_161 h_79 (S.v (S.rh k (j + 1))) (S.un (S.rh k (j + 1))) := isV_24 iv_144 fr_166
  have iv_173 : isV cA G_161 h_91 (S.v (S.rp k j)) (S.un (S.rp k j)) := isV_24 iv_145 fr_166
  have iv_174 : isV cA G_161 h_92 (S.v (S.rh k j)) (S.un (S.rh k j)) := isV_24 iv_146 fr_166
  have kq_175 : kq cA G_161 hf_27 (S.v (S.rp k (j + 1))) := kq_24 kq_147 fr_166
  have kq_176 : kq cA G_161 hf_42 (S.v (S.rp k j)) := kq_24 kq_148 fr_166
  have kq_177 : kq cA G_161 hf_87 (S.v (S.rh k (j + 1))) := kq_24 kq_149 fr_166
  have kq_178 : kq cA G_161 hf_100 (S.v (S.rh k j)) := kq_24 kq_150 fr_166
  have fr_179 : gfr (fun x => x < 24) G G_161 := gfr_24 fr_151 fr_166
  have f_180 : G_161 h_16 = some (30, .inr (6, [.ref hf_27, .int (iI (S.un (S.rp k (j + 1))))])) := fr_166 _ _ f_152 (show ¬ (30 : Nat) < 24 by decide)
  have f_181 : G_161 h_31 = some (30, .inr (6, [.ref hf_42, .int (iI (S.un (S.rp k j)))])) := fr_166 _ _ f_153 (show ¬ (30 : Nat) < 24 by decide)
  have f_182 : G_161 h_79 = some (30, .inr (6, [.ref hf_87, .int (iI (S.un (S.rh k (j + 1))))])) := fr_166 _ _ f_154 (show ¬ (30 : Nat) < 24 by decide)
  have f_183 : G_161 h_92 = some (30, .inr (6, [.ref hf_100, .int (iI (S.un (S.rh k j)))])) := fr_166 _ _ f_155 (show ¬ (30 : Nat) < 24 by decide)
  have rb_184 : rb ((((S.v (S.rp k (j + 1))) - (S.v (S.rp k j))) * ((S.v (S.rh k (j + 1))) + (S.v (S.rh k j)))) * (mkRat 1 2)) 403 := rb_mul (j := 402) (k := 1) rb_156 rb_2
  have bl_185 : B_162.1 ≤ MC := Nat.le_trans (w2_le C_165.w).1 hX1
  have bl_186 : B_162.2 ≤ MS := Nat.le_trans (w2_le C_165.w).2 hX2
  refine gs (pc' := 105) (fun _ _ _ _ _ hl => lv_aload_n hx hb d_Mf_addStrip_104 rfl (lv_at hl 0 rfl)) ?_
  have f_187 : G_161 a.x = some (31, .inr (8, [.ref a.vs, .int (nI S.n), .ref a.rs, .int (nI S.rn), .ref a.ws, .ref a.ca, .ref (a.fr 0), .ref (a.fr 1), .ref (a.fr 2), .ref (a.fr 3), .ref a.zr, .ref a.fo, .ref a.ha, .ref a.si])) := C_165.ob
  refine g_get hx hb hts hin_Mf hown hK f_187 rfl 5 (by decide) (hts _ wm240) (fun _ h9 => h9) rfl d_Mf_addStrip_105 ?_
  refine gs (pc' := 109) (fun _ _ _ _ _ hl => lv_aload_n hx hb d_Mf_addStrip_108 rfl (lv_at hl 0 rfl)) ?_
  refine g_get hx hb hts hin_Mf hown hK f_187 rfl 7 (by decide) (hts _ wm242) (fun _ h9 => h9) rfl d_Mf_addStrip_109 ?_
  refine gs (pc' := 113) (fun _ _ _ _ _ hl => lv_aload_n hx hb d_Mf_addStrip_112 rfl (lv_at hl 0 rfl)) ?_
  refine g_get hx hb hts hin_Mf hown hK f_187 rfl 9 (by decide) (hts _ wm244) (fun _ h9 => h9) rfl d_Mf_addStrip_113 ?_
  refine gs (pc' := 117) (fun _ _ _ _ _ hl => lv_aload_n hx hb d_Mf_addStrip_116 rfl (lv_at hl 0 rfl)) ?_
  refine g_get hx hb hts hin_Mf hown hK f_187 rfl 6 (by decide) (hts _ wm241) (fun _ h9 => h9) rfl d_Mf_addStrip_117 ?_
  refine gs (pc' := 121) (fun _ _ _ _ _ hl => lv_iconst (v := nI 0) hx hb d_Mf_addStrip_120 (by decide)) ?_
  have f_188 : G_161 a.ca = some (30, .inr (0, [.ref a.hd, .ref a.hc, .ref (a.ad 5), .ref (a.ad 6), .ref (a.ad 7), .ref (a.ad 8), .ref (a.ad 9), .ref (a.ad 10)])) := C_165.ca
  refine g_outv hlo (g_runV (As := [.ref (a.fr 1), .ref (a.fr 3), .ref (a.fr 0), .int (nI 0)]) (rest := []) ⟨hx, hb, hml, hown, hts⟩ hK hZ hRc hRs (c3_add l D cA lo MC MS G_161 B_162 X a S (fup (fup (fup (fup F 0 (some ((S.v (S.rp k (j + 1))) - (S.v (S.rp k j))))) 1 (some ((S.v (S.rh k (j + 1))) + (S.v (S.rh k j))))) 2 (some (((S.v (S.rp k (j + 1))) - (S.v (S.rp k j))) * ((S.v (S.rh k (j + 1))) + (S.v (S.rh k j)))))) 0 (some ((((S.v (S.rp k (j + 1))) - (S.v (S.rp k j))) * ((S.v (S.rh k (j + 1))) + (S.v (S.rh k j)))) * (mkRat 1 2)))) V_164 C_165 hX1 hX2 1 (by decide) (a.fr 3) (a.fr 0) ss ((((S.v (S.rp k (j + 1))) - (S.v (S.rp k j))) * ((S.v (S.rh k (j + 1))) + (S.v (S.rh k j)))) * (mkRat 1 2)) (Or.inl ⟨3, by decide, by decide, rfl, hF⟩) (Or.inl ⟨0, by decide, by decide, rfl, rfl⟩) 100 403 hrs rb_184 (by decide)) (fun _ _ => cwV 4 hts (tb_good (tb_cons wm559 (tb_cons wm560 (tb_cons wm561 (tb_cons wm3 k_Ca_setSum))))) rfl rfl rfl (by decide +kernel) ⟨by rw [hRf]; exact Nat.le_of_ble_eq_true rfl, by rw [hRl]; exact Nat.le_of_ble_eq_true rfl⟩) f_188 rfl bl_185 bl_186 rfl (Nat.le_of_ble_eq_true rfl) d_Mf_addStrip_121) (fun G_189 B_190 p_191 => ?_)
  obtain ⟨V_192, C_193, fr_194⟩ := p_191
  have iv_195 : isV cA G_189 h_16 (S.v (S.rp k (j + 1))) (S.un (S.rp k (j + 1))) := isV_24 iv_167 fr_194
  have iv_196 : isV cA G_189 h_17 (S.v (S.rh k (j + 1))) (S.un (S.rh k (j + 1))) := isV_24 iv_168 fr_194
  have iv_197 : isV cA G_189 h_31 (S.v (S.rp k j)) (S.un (S.rp k j)) := isV_24 iv_169 fr_194
  have iv_198 : isV cA G_189 h_32 (S.v (S.rh k j)) (S.un (S.rh k j)) := isV_24 iv_170 fr_194
  have iv_199 : isV cA G_189 h_78 (S.v (S.rp k (j + 1))) (S.un (S.rp k (j + 1))) := isV_24 iv_171 fr_194
  have iv_200 : isV cA G_189 h_79 (S.v (S.rh k (j + 1))) (S.un (S.rh k (j + 1))) := isV_24 iv_172 fr_194
  have iv_201 : isV cA G_189 h_91 (S.v (S.rp k j)) (S.un (S.rp k j)) := isV_24 iv_173 fr_194
  have iv_202 : isV cA G_189 h_92 (S.v (S.rh k j)) (S.un (S.rh k j)) := isV_24 iv_174 fr_194
  have kq_203 : kq cA G_189 hf_27 (S.v (S.rp k (j + 1))) := kq_24 kq_175 fr_194
  have kq_204 : kq cA G_189 hf_42 (S.v (S.rp k j)) := kq_24 kq_176 fr_194
  have kq_205 : kq cA G_189 hf_87 (S.v (S.rh k (j + 1))) := kq_24 kq_177 fr_194
  have kq_206 : kq cA G_189 hf_100 (S.v (S.rh k j)) := kq_24 kq_178 fr_194
  have fr_207 : gfr (fun x => x < 24) G G_189 := gfr_24 fr_179 fr_194
  have f_208 : G_189 h_16 = some (30, .inr (6, [.ref hf_27, .int (iI (S.un (S.rp k (j + 1))))])) := fr_194 _ _ f_180 (show ¬ (30 : Nat) < 24 by decide)
  have f_209 : G_189 h_31 = some (30, .inr (6, [.ref hf_42, .int (iI (S.un (S.rp k j)))])) := fr_194 _ _ f_181 (show ¬ (30 : Nat) < 24 by decide)
  have f_210 : G_189 h_79 = some (30, .inr (6, [.ref hf_87, .int (iI (S.un (S.rh k (j + 1))))])) := fr_194 _ _ f_182 (show ¬ (30 : Nat) < 24 by decide)
  have f_211 : G_189 h_92 = some (30, .inr (6, [.ref hf_100, .int (iI (S.un (S.rh k j)))])) := fr_194 _ _ f_183 (show ¬ (30 : Nat) < 24 by decide)
  have rb_212 : rb (ss + ((((S.v (S.rp k (j + 1))) - (S.v (S.rp k j))) * ((S.v (S.rh k (j + 1))) + (S.v (S.rh k j)))) * (mkRat 1 2))) 504 := rb_add (j := 100) (k := 403) hrs rb_184
  have bl_213 : B_190.1 ≤ MC := Nat.le_trans (w2_le C_193.w).1 hX1
  have bl_214 : B_190.2 ≤ MS := Nat.le_trans (w2_le C_193.w).2 hX2
  refine gs (pc' := 125) (fun _ _ _ _ _ hl => lv_aload_n hx hb d_Mf_addStrip_124 rfl (lv_at hl 0 rfl)) ?_
  have f_215 : G_189 a.x = some (31, .inr (8, [.ref a.vs, .int (nI S.n), .ref a.rs, .int (nI S.rn), .ref a.ws, .ref a.ca, .ref (a.fr 0), .ref (a.fr 1), .ref (a.fr 2), .ref (a.fr 3), .ref a.zr, .ref a.fo, .ref a.ha, .ref a.si])) := C_193.ob
  refine g_get hx hb hts hin_Mf hown hK f_215 rfl 9 (by decide) (hts _ wm244) (fun _ h9 => h9) rfl d_Mf_addStrip_125 ?_
  refine gs (pc' := 129) (fun _ _ _ _ _ hl => lv_aload_n hx hb d_Mf_addStrip_128 rfl (lv_at hl 0 rfl)) ?_
  refine g_get hx hb hts hin_Mf hown hK f_215 rfl 7 (by decide) (hts _ wm242) (fun _ h9 => h9) rfl d_Mf_addStrip_129 ?_
  obtain ⟨sg_216, f_217, g_218⟩ := C_193.fr 3 (by decide)
  have f_219 : G_189 (a.fr 3) = some (20 + 3, .inr (3, [.int sg_216, .ref (a.ad (11 + 2 * 3)), .ref (a.ad (12 + 2 * 3))])) := f_217
  refine g_outv hlo (g_runV (As := [.ref (a.fr 1)]) (rest := []) ⟨hx, hb, hml, hown, hts⟩ hK hZ hRc hRs (c3_to l D cA lo MC MS G_189 B_190 X a S (fup (fup (fup (fup (fup F 0 (some ((S.v (S.rp k (j + 1))) - (S.v (S.rp k j))))) 1 (some ((S.v (S.rh k (j + 1))) + (S.v (S.rh k j))))) 2 (some (((S.v (S.rp k (j + 1))) - (S.v (S.rp k j))) * ((S.v (S.rh k (j + 1))) + (S.v (S.rh k j)))))) 0 (some ((((S.v (S.rp k (j + 1))) - (S.v (S.rp k j))) * ((S.v (S.rh k (j + 1))) + (S.v (S.rh k j)))) * (mkRat 1 2)))) 1 (some (ss + ((((S.v (S.rp k (j + 1))) - (S.v (S.rp k j))) * ((S.v (S.rh k (j + 1))) + (S.v (S.rh k j)))) * (mkRat 1 2))))) V_192 C_193 hX1 hX2 3 (by decide) (a.fr 1) (ss + ((((S.v (S.rp k (j + 1))) - (S.v (S.rp k j))) * ((S.v (S.rh k (j + 1))) + (S.v (S.rh k j)))) * (mkRat 1 2))) (Or.inl ⟨1, by decide, by decide, rfl, rfl⟩) 504 rb_212 (by decide)) (fun _ _ => cwV 1 hts (tb_good (tb_cons wm696 (tb_cons wm514 (tb_cons wm515 (tb_cons wm8 k_Fr_setTo))))) rfl rfl rfl (by decide +kernel) ⟨by rw [hRf]; exact Nat.le_of_ble_eq_true rfl, by rw [hRl]; exact Nat.le_of_ble_eq_true rfl⟩) f_219 rfl bl_213 bl_214 rfl (Nat.le_of_ble_eq_true rfl) d_Mf_addStrip_132) (fun G_220 B_221 p_222 => ?_)
  obtain ⟨V_223, C_224, fr_225⟩ := p_222
  have iv_226 : isV cA G_220 h_16 (S.v (S.rp k (j + 1))) (S.un (S.rp k (j + 1))) := isV_24 iv_195 fr_225
  have iv_227 : isV cA G_220 h_17 (S.v (S.rh k (j + 1))) (S.un (S.rh k (j + 1))) := isV_24 iv_196 fr_225
  have iv_228 : isV cA G_220 h_31 (S.v (S.rp k j)) (S.un (S.rp k j)) := isV_24 iv_197 fr_225
  have iv_229 : isV cA G_220 h_32 (S.v (S.rh k j)) (S.un (S.rh k j)) := isV_24 iv_198 fr_225
  have iv_230 : isV cA G_220 h_78 (S.v (S.rp k (j + 1))) (S.un (S.rp k (j + 1))) := isV_24 iv_199 fr_225
  have iv_231 : isV cA G_220 h_79 (S.v (S.rh k (j + 1))) (S.un (S.rh k (j + 1))) := isV_24 iv_200 fr_225
  have iv_232 : isV cA G_220 h_91 (S.v (S.rp k j)) (S.un (S.rp k j)) := isV_24 iv_201 fr_225
  have iv_233 : isV cA G_220 h_92 (S.v (S.rh k j)) (S.un (S.rh k j)) := isV_24 iv_202 fr_225
  have kq_234 : kq cA G_220 hf_27 (S.v (S.rp k (j + 1))) := kq_24 kq_203 fr_225
  have kq_235 : kq cA G_220 hf_42 (S.v (S.rp k j)) := kq_24 kq_204 fr_225
  have kq_236 : kq cA G_220 hf_87 (S.v (S.rh k (j + 1))) := kq_24 kq_205 fr_225
  have kq_237 : kq cA G_220 hf_100 (S.v (S.rh k j)) := kq_24 kq_206 fr_225
  have fr_238 : gfr (fun x => x < 24) G G_220 := gfr_24 fr_207 fr_225
  have f_239 : G_220 h_16 = some (30, .inr (6, [.ref hf_27, .int (iI (S.un (S.rp k (j + 1))))])) := fr_225 _ _ f_208 (show ¬ (30 : Nat) < 24 by decide)
  have f_240 : G_220 h_31 = some (30, .inr (6, [.ref hf_42, .int (iI (S.un (S.rp k j)))])) := fr_225 _ _ f_209 (show ¬ (30 : Nat) < 24 by decide)
  have f_241 : G_220 h_79 = some (30, .inr (6, [.ref hf_87, .int (iI (S.un (S.rh k (j + 1))))])) := fr_225 _ _ f_210 (show ¬ (30 : Nat) < 24 by decide)
  have f_242 : G_220 h_92 = some (30, .inr (6, [.ref hf_100, .int (iI (S.un (S.rh k j)))])) := fr_225 _ _ f_211 (show ¬ (30 : Nat) < 24 by decide)
  have bl_243 : B_221.1 ≤ MC := Nat.le_trans (w2_le C_224.w).1 hX1
  have bl_244 : B_221.2 ≤ MS := Nat.le_trans (w2_le C_224.w).2 hX2
  exact hret 135 _ _ _ d_Mf_addStrip_135 bl_243 bl_244 ⟨_, V_223, C_224, rfl, rb_up rb_212 (by decide), fr_238⟩
set_option maxHeartbeats 4000000 in
set_option maxRecDepth 100000 in
theorem c_Mf_area (l : Launch) (D : va_G) (cA : Nat → ClassId) (lo MC MS : Nat) (G : gT) (B : Nat × Nat) (X : Nat × Nat) (a : AX) (S : St) (F : Nat → Option Rat) (V : Nat → Nat) (hC : CW cA X a S F V (G, B)) (hW : WF S) (g : Int) (hg1 : -2147483648 ≤ g) (hg2 : g < 2147483648) (hk : (sp_area S (iI g)).1 = 0) (hY1 : X.1 + 6 ≤ MC) (hY2 : X.2 + 209 ≤ MS) : gMet l y_Mf_area w_Mf_area 8 212 D clS (gtys cA) lo MC MS [.ref a.x, .int (iI g)] G B (gQi D clS lo (fun r u => r = iI (sp_area S (iI g)).2.1 ∧ CW3 cA (X.1 + 6, X.2 + 209) a (sp_area S (iI g)).2.2 u ∧ gfr (fun x => x < 70) G u.1)) := by
  refine g_meti (cc := prog_1_method_15_code) (nL := 5) (L := [(0, .ref a.x), (1, .int (iI g))]) (by decide +kernel) rfl (Nat.le_of_ble_eq_true rfl) rfl ?_
  intro p e R s m args below meth c Q hF hRc hRs hRf hRl hret
  obtain ⟨hx, hb, hr, hml, hts0, hown, hlocks, hin, hK, hlo, hZ⟩ := hF
  have hts : ∀ w ∈ tbg, w.before args s = true := fun w h => hts0 w (List.mem_cons_of_mem _ h)
  have hX1 : X.1 ≤ MC := by omega
  have hX2 : X.2 ≤ MS := by omega
  have hn := hW.n
  have hrn := hW.rn
  have hwn := hW.wn
  have bl_1 : B.1 ≤ MC := Nat.le_trans (w2_le hC.w).1 hX1
  have bl_2 : B.2 ≤ MS := Nat.le_trans (w2_le hC.w).2 hX2
  have hv : ri S (iI g) := by
    by_cases z9 : ri S (iI g)
    · exact z9
    · rw [sp_area, if_pos z9] at hk; simp at hk
  obtain ⟨k, hi_k, hxe_g, ei_k⟩ := ix_of hv.1 hv.2
  rw [hxe_g]
  have hrc := hW.rc k hi_k
  have hsp : sp_area S (iI g) = if S.rc k < 2 then (0, -5, S) else if ¬ uok (S.un (S.rp k 0) + S.un (S.rh k 0)) then (0, -2, S) else if S.n = 200 then (0, -3, S) else match ars (strip S k) (S.rc k - 1) with
    | none => (0, -4, S)
    | some s => kp S s (S.un (S.rp k 0) + S.un (S.rh k 0)) := by
    rw [sp_area, if_neg (fun z9 => z9 hv), ei_k]
    rfl
  refine gs (pc' := 1) (fun _ _ _ _ _ hl => lv_aload_n hx hb d_Mf_area_0 rfl (lv_at hl 0 rfl)) ?_
  refine gs (pc' := 2) (fun _ _ _ _ _ hl => lv_iload_n hx hb d_Mf_area_1 rfl (lv_at hl 1 rfl)) ?_
  have f_3 : G a.x = some (31, .inr (8, [.ref a.vs, .int (nI S.n), .ref a.rs, .int (nI S.rn), .ref a.ws, .ref a.ca, .ref (a.fr 0), .ref (a.fr 1), .ref (a.fr 2), .ref (a.fr 3), .ref a.zr, .ref a.fo, .ref a.ha, .ref a.si])) := hC.ob
  refine g_outr hlo (g_runV (As := [.int (nI k)]) (rest := []) ⟨hx, hb, hml, hown, hts⟩ hK hZ hRc hRs (c_Mf_rowOf l D cA lo MC MS G B X a S F V hC hW k (by omega) hX1 hX2) (fun _ _ => cwV 1 hts (tb_good (tb_cons wm672 (tb_cons wm674 (tb_cons ws14 (tb_cons wm1 k_Mf_rowOf))))) rfl rfl rfl (by decide +kernel) ⟨by rw [hRf]; exact Nat.le_of_ble_eq_true rfl, by rw [hRl]; exact Nat.le_of_ble_eq_true rfl⟩) f_3 rfl bl_1 bl_2 rfl (Nat.le_of_ble_eq_true rfl) d_Mf_area_2) (fun r_7 G_4 B_5 p_6 => ?_)
  obtain ⟨u_8, e_9⟩ := p_6
  cases u_8
  subst e_9
  refine gst (pc' := 6) (L' := [(2, .ref (a.ro k)), (0, .ref a.x), (1, .int (nI k))]) (fun _ _ _ _ _ hl => lv_astore_n hx hb d_Mf_area_5 rfl hl (by decide) rfl) ?_
  refine gs (pc' := 7) (fun _ _ _ _ _ hl => lv_aload_n hx hb d_Mf_area_6 rfl (lv_at hl 0 rfl)) ?_
  obtain ⟨rc_10, pf_11, hg_12, f_13, f_14, f_15, g_16⟩ := hC.ro k (by omega)
  obtain ⟨g_17, g_18⟩ := g_16 hi_k
  subst g_17
  have f_19 : G (a.ro k) = some (40 + k, .inr (5, [.ref (a.rp k), .ref (a.rh k), .int (nI (S.rc k))])) := f_13
  have f_20 : G (a.rp k) = some (50 + k, .inl (cA 2, 16, .inr (.inr (.inr (.inr pf_11))))) := f_14
  have f_21 : G (a.rh k) = some (60 + k, .inl (cA 2, 16, .inr (.inr (.inr (.inr hg_12))))) := f_15
  refine g_get hx hb hts hin_Ro hown hK f_19 rfl 2 (by decide) (hts _ wm227) (fun _ h9 => h9) rfl d_Mf_area_7 ?_
  refine gs (pc' := 11) (fun _ _ _ _ _ hl => lv_iconst (v := nI 2) hx hb d_Mf_area_10 (by decide)) ?_
  refine gsb (pc1 := 17) (pc2 := 14) (fun _ _ _ _ _ => lv_icmp_ge (tgt := 17) hx hb d_Mf_area_11 (by decide)) (fun c_22 => ?_) (fun c_22 => ?_)
  · skip
    have nc_22 : (S.rc k) ≥ 2 := (nn_ge (a := (S.rc k)) (b := 2) (by omega) (by omega)).1 c_22
    have hc2 : ¬ S.rc k < 2 := by omega
    refine gs (pc' := 18) (fun _ _ _ _ _ hl => lv_aload_n hx hb d_Mf_area_17 rfl (lv_at hl 0 rfl)) ?_
    refine g_get hx hb hts hin_Ro hown hK f_19 rfl 0 (by decide) (hts _ wm223) (fun _ h9 => h9) rfl d_Mf_area_18 ?_
    refine gs (pc' := 22) (fun _ _ _ _ _ hl => lv_iconst (v := nI 0) hx hb d_Mf_area_21 (by decide)) ?_
    obtain ⟨h_23, h_24, e_25, e_26, iv_27, iv_28⟩ := g_18 0 (by omega)
    have rb_29 : rb (S.v (S.rp k 0)) 100 := rb_of (hW.v _ (hW.rp k hi_k 0 (by omega)).1).1
    have rb_30 : rb (S.v (S.rh k 0)) 100 := rb_of (hW.v _ (hW.rp k hi_k 0 (by omega)).2.1).1
    have wr_31 := hW.rp k hi_k 0 (by omega)
    have ub_32 := (hW.v _ wr_31.1).2
    have ub_32a := ub_32.1
    have ub_32b := ub_32.2
    have ub_33 := (hW.v _ wr_31.2.1).2
    have ub_33a := ub_33.1
    have ub_33b := ub_33.2
    refine g_aalS hx hb hK 2 f_20 rfl (by omega) (by decide) e_25 d_Mf_area_22 ?_
    obtain ⟨hf_34, f_35, kq_36⟩ := id iv_27
    have f_37 : G h_23 = some (30, .inr (6, [.ref hf_34, .int (iI (S.un (S.rp k 0)))])) := f_35
    refine g_get hx hb hts hin_Va hown hK f_37 rfl 1 (by decide) (hts _ wm525) (fun _ h9 => h9) rfl d_Mf_area_23 ?_
    refine gs (pc' := 27) (fun _ _ _ _ _ hl => lv_aload_n hx hb d_Mf_area_26 rfl (lv_at hl 0 rfl)) ?_
    refine g_get hx hb hts hin_Ro hown hK f_19 rfl 1 (by decide) (hts _ wm225) (fun _ h9 => h9) rfl d_Mf_area_27 ?_
    refine gs (pc' := 31) (fun _ _ _ _ _ hl => lv_iconst (v := nI 0) hx hb d_Mf_area_30 (by decide)) ?_
    obtain ⟨h_38, h_39, e_40, e_41, iv_42, iv_43⟩ := g_18 0 (by omega)
    have wr_44 := hW.rp k hi_k 0 (by omega)
    have ub_45 := (hW.v _ wr_44.1).2
    have ub_45a := ub_45.1
    have ub_45b := ub_45.2
    have ub_46 := (hW.v _ wr_44.2.1).2
    have ub_46a := ub_46.1
    have ub_46b := ub_46.2
    refine g_aalS hx hb hK 2 f_21 rfl (by omega) (by decide) e_41 d_Mf_area_31 ?_
    obtain ⟨hf_47, f_48, kq_49⟩ := id iv_43
    have f_50 : G h_39 = some (30, .inr (6, [.ref hf_47, .int (iI (S.un (S.rh k 0)))])) := f_48
    refine g_get hx hb hts hin_Va hown hK f_50 rfl 1 (by decide) (hts _ wm525) (fun _ h9 => h9) rfl d_Mf_area_32 ?_
    refine gs (pc' := 36) (fun _ _ _ _ _ hl => lv_iadd hx hb d_Mf_area_35) ?_
    refine g_eqi (show (iI (S.un (S.rp k 0))) + (iI (S.un (S.rh k 0))) = iI ((S.un (S.rp k 0)) + (S.un (S.rh k 0))) from by exact iI_add _ _) ?_
    refine gst (pc' := 37) (L' := [(3, .int (iI ((S.un (S.rp k 0)) + (S.un (S.rh k 0))))), (2, .ref (a.ro k)), (0, .ref a.x), (1, .int (nI k))]) (fun _ _ _ _ _ hl => lv_istore_n hx hb d_Mf_area_36 rfl hl (by decide) rfl) ?_
    refine gs (pc' := 38) (fun _ _ _ _ _ hl => lv_iload_n hx hb d_Mf_area_37 rfl (lv_at hl 0 rfl)) ?_
    refine g_outi hlo (g_runS (As := [.int (iI ((S.un (S.rp k 0)) + (S.un (S.rh k 0))))]) (rest := []) ⟨hx, hb, hml, hown, hts⟩ hK hZ hRc hRs (c_Mf_isUnit l D cA lo MC MS G B ((S.un (S.rp k 0)) + (S.un (S.rh k 0))) (by omega) (by omega) bl_1 bl_2) (fun _ _ => va_cwS 1 hts (tb_good (tb_cons wm367 (tb_cons wm368 (tb_cons wm1 k_Mf_isUnit)))) rfl rfl rfl (by decide +kernel) ⟨by rw [hRf]; exact Nat.le_of_ble_eq_true rfl, by rw [hRl]; exact Nat.le_of_ble_eq_true rfl⟩) bl_1 bl_2 rfl (Nat.le_of_ble_eq_true rfl) d_Mf_area_38) (fun r_54 G_51 B_52 p_53 => ?_)
    obtain ⟨u_55, e_56⟩ := p_53
    cases u_55
    subst e_56
    have bd_57 := b01_le (decide (uok ((S.un (S.rp k 0)) + (S.un (S.rh k 0)))))
    refine gsb (pc1 := 47) (pc2 := 44) (fun _ _ _ _ _ => lv_if_ne (tgt := 47) hx hb d_Mf_area_41 (by decide)) (fun c_58 => ?_) (fun c_58 => ?_)
    · skip
      have nc_58 : (b01 (decide (uok ((S.un (S.rp k 0)) + (S.un (S.rh k 0)))))) ≠ 0 := (n0_ne (a := (b01 (decide (uok ((S.un (S.rp k 0)) + (S.un (S.rh k 0))))))) (by omega)).1 c_58
      have hu : ¬ ¬ uok (S.un (S.rp k 0) + S.un (S.rh k 0)) := fun z9 => z9 (b01_1 nc_58)
      refine gs (pc' := 48) (fun _ _ _ _ _ hl => lv_aload_n hx hb d_Mf_area_47 rfl (lv_at hl 2 rfl)) ?_
      refine g_outi hlo (g_runV (As := []) (rest := []) ⟨hx, hb, hml, hown, hts⟩ hK hZ hRc hRs (c_Mf_isFull l D cA lo MC MS G B X a S F V hC hW hX1 hX2) (fun _ _ => cwV 0 hts (tb_good (tb_cons wm386 (tb_cons wm388 (tb_cons ws1 (tb_cons wm1 k_Mf_isFull))))) rfl rfl rfl (by decide +kernel) ⟨by rw [hRf]; exact Nat.le_of_ble_eq_true rfl, by rw [hRl]; exact Nat.le_of_ble_eq_true rfl⟩) f_3 rfl bl_1 bl_2 rfl (Nat.le_of_ble_eq_true rfl) d_Mf_area_48) (fun r_62 G_59 B_60 p_61 => ?_)
      obtain ⟨u_63, e_64⟩ := p_61
      cases u_63
      subst e_64
      have bd_65 := b01_le (decide (S.n = 200))
      refine gsb (pc1 := 57) (pc2 := 54) (fun _ _ _ _ _ => lv_if_eq (tgt := 57) hx hb d_Mf_area_51 (by decide)) (fun c_66 => ?_) (fun c_66 => ?_)
      · skip
        have nc_66 : (b01 (decide (S.n = 200))) = 0 := (n0_eq (a := (b01 (decide (S.n = 200)))) (by omega)).1 c_66
        have hnf := b01_0 nc_66
        refine gs (pc' := 58) (fun _ _ _ _ _ hl => lv_aload_n hx hb d_Mf_area_57 rfl (lv_at hl 2 rfl)) ?_
        refine g_get hx hb hts hin_Mf hown hK f_3 rfl 9 (by decide) (hts _ wm244) (fun _ h9 => h9) rfl d_Mf_area_58 ?_
        refine gs (pc' := 62) (fun _ _ _ _ _ hl => lv_aload_n hx hb d_Mf_area_61 rfl (lv_at hl 2 rfl)) ?_
        refine g_get hx hb hts hin_Mf hown hK f_3 rfl 10 (by decide) (hts _ wm245) (fun _ h9 => h9) rfl d_Mf_area_62 ?_
        obtain ⟨sg_67, f_68, g_69⟩ := hC.fr 3 (by decide)
        have f_70 : G (a.fr 3) = some (20 + 3, .inr (3, [.int sg_67, .ref (a.ad (11 + 2 * 3)), .ref (a.ad (12 + 2 * 3))])) := f_68
        refine g_outv hlo (g_runV (As := [.ref a.zr]) (rest := []) ⟨hx, hb, hml, hown, hts⟩ hK hZ hRc hRs (c3_to l D cA lo MC MS G B X a S F V hC hX1 hX2 3 (by decide) a.zr 0 (Or.inr hC.zr) 1 rb_0 (by decide)) (fun _ _ => cwV 1 hts (tb_good (tb_cons wm696 (tb_cons wm514 (tb_cons wm515 (tb_cons wm8 k_Fr_setTo))))) rfl rfl rfl (by decide +kernel) ⟨by rw [hRf]; exact Nat.le_of_ble_eq_true rfl, by rw [hRl]; exact Nat.le_of_ble_eq_true rfl⟩) f_70 rfl bl_1 bl_2 rfl (Nat.le_of_ble_eq_true rfl) d_Mf_area_65) (fun G_71 B_72 p_73 => ?_)
        obtain ⟨V_74, C_75, fr_76⟩ := p_73
        have iv_77 : isV cA G_71 h_23 (S.v (S.rp k 0)) (S.un (S.rp k 0)) := isV_24 iv_27 fr_76
        have iv_78 : isV cA G_71 h_24 (S.v (S.rh k 0)) (S.un (S.rh k 0)) := isV_24 iv_28 fr_76
        have iv_79 : isV cA G_71 h_38 (S.v (S.rp k 0)) (S.un (S.rp k 0)) := isV_24 iv_42 fr_76
        have iv_80 : isV cA G_71 h_39 (S.v (S.rh k 0)) (S.un (S.rh k 0)) := isV_24 iv_43 fr_76
        have kq_81 : kq cA G_71 hf_34 (S.v (S.rp k 0)) := kq_24 kq_36 fr_76
        have kq_82 : kq cA G_71 hf_47 (S.v (S.rh k 0)) := kq_24 kq_49 fr_76
        have fr_83 : gfr (fun x => x < 24) G G_71 := gfr_24 gfr_rf fr_76
        have f_84 : G_71 h_23 = some (30, .inr (6, [.ref hf_34, .int (iI (S.un (S.rp k 0)))])) := fr_76 _ _ f_37 (show ¬ (30 : Nat) < 24 by decide)
        have f_85 : G_71 h_39 = some (30, .inr (6, [.ref hf_47, .int (iI (S.un (S.rh k 0)))])) := fr_76 _ _ f_50 (show ¬ (30 : Nat) < 24 by decide)
        have bl_86 : B_72.1 ≤ MC := Nat.le_trans (w2_le C_75.w).1 hX1
        have bl_87 : B_72.2 ≤ MS := Nat.le_trans (w2_le C_75.w).2 hX2
        refine gs (pc' := 69) (fun _ _ _ _ _ hl => lv_iconst (v := nI 1) hx hb d_Mf_area_68 (by decide)) ?_
        refine gst (pc' := 71) (L' := [(4, .int (nI 1)), (3, .int (iI ((S.un (S.rp k 0)) + (S.un (S.rh k 0))))), (2, .ref (a.ro k)), (0, .ref a.x), (1, .int (nI k))]) (fun _ _ _ _ _ hl => lv_istore hx hb d_Mf_area_69 hl (by decide) rfl) ?_
        refine gsub [0, 1, 2, 3] rfl ?_
        have loop : ∀ (q j : Nat) (ss : Rat) (F1 : Nat → Option Rat) (V1 : Nat → Nat) (Gk : gT) (Bk : Nat × Nat), j + 1 + q = S.rc k → ars (strip S k) j = some ss → ¬ lng ss → CW cA X a S F1 V1 (Gk, Bk) → F1 3 = some ss → gfr (fun x => x < 24) G Gk → gV p l e R s m args below meth c D clS lo 5 Q 71 [(4, .int (nI (j + 1))), (3, .int (iI (S.un (S.rp k 0) + S.un (S.rh k 0)))), (2, .ref (a.ro k)), (0, .ref a.x)] [] Gk Bk := by
          intro q
          induction q with
          | zero =>
            intro j ss F1 V1 Gk Bk hj has hnl hC1 hF1 hfr1
            have hrs := rb_of hnl
            have bl_88 : Bk.1 ≤ MC := Nat.le_trans (w2_le hC1.w).1 hX1
            have bl_89 : Bk.2 ≤ MS := Nat.le_trans (w2_le hC1.w).2 hX2
            have hjn : S.rc k - 1 = j := by omega
            refine gs (pc' := 73) (fun _ _ _ _ _ hl => lv_iload hx hb d_Mf_area_71 (lv_at hl 0 rfl)) ?_
            refine gs (pc' := 74) (fun _ _ _ _ _ hl => lv_aload_n hx hb d_Mf_area_73 rfl (lv_at hl 2 rfl)) ?_
            obtain ⟨rc_90, pf_91, hg_92, f_93, f_94, f_95, g_96⟩ := hC1.ro k (by omega)
            obtain ⟨g_97, g_98⟩ := g_96 hi_k
            subst g_97
            have f_99 : Gk (a.ro k) = some (40 + k, .inr (5, [.ref (a.rp k), .ref (a.rh k), .int (nI (S.rc k))])) := f_93
            have f_100 : Gk (a.rp k) = some (50 + k, .inl (cA 2, 16, .inr (.inr (.inr (.inr pf_91))))) := f_94
            have f_101 : Gk (a.rh k) = some (60 + k, .inl (cA 2, 16, .inr (.inr (.inr (.inr hg_92))))) := f_95
            refine g_get hx hb hts hin_Ro hown hK f_99 rfl 2 (by decide) (hts _ wm227) (fun _ h9 => h9) rfl d_Mf_area_74 ?_
            refine gsb (pc1 := 106) (pc2 := 80) (fun _ _ _ _ _ => lv_icmp_ge (tgt := 106) hx hb d_Mf_area_77 (by decide)) (fun c_102 => ?_) (fun c_102 => ?_)
            · skip
              have nc_102 : (j + 1) ≥ (S.rc k) := (nn_ge (a := (j + 1)) (b := (S.rc k)) (by omega) (by omega)).1 c_102
              refine gs (pc' := 107) (fun _ _ _ _ _ hl => lv_aload_n hx hb d_Mf_area_106 rfl (lv_at hl 3 rfl)) ?_
              refine gs (pc' := 108) (fun _ _ _ _ _ hl => lv_aload_n hx hb d_Mf_area_107 rfl (lv_at hl 3 rfl)) ?_
              have f_103 : Gk a.x = some (31, .inr (8, [.ref a.vs, .int (nI S.n), .ref a.rs, .int (nI S.rn), .ref a.ws, .ref a.ca, .ref (a.fr 0), .ref (a.fr 1), .ref (a.fr 2), .ref (a.fr 3), .ref a.zr, .ref a.fo, .ref a.ha, .ref a.si])) := hC1.ob
              refine g_get hx hb hts hin_Mf hown hK f_103 rfl 9 (by decide) (hts _ wm244) (fun _ h9 => h9) rfl d_Mf_area_108 ?_
              refine gs (pc' := 112) (fun _ _ _ _ _ hl => lv_iload_n hx hb d_Mf_area_111 rfl (lv_at hl 1 rfl)) ?_
              refine g_outi hlo (g_runV (As := [.ref (a.fr 3), .int (iI (S.un (S.rp k 0) + S.un (S.rh k 0)))]) (rest := []) ⟨hx, hb, hml, hown, hts⟩ hK hZ hRc hRs (c_Mf_keep3 l D cA lo MC MS Gk Bk X a S F1 V1 hC1 hW ss hF1 100 hrs (by decide) (S.un (S.rp k 0) + S.un (S.rh k 0)) hnf hY1 hY2) (fun _ _ => cwV 2 hts (tb_good (tb_cons wm495 (tb_cons wm497 (tb_cons ws10 (tb_cons wm1 k_Mf_keep))))) rfl rfl rfl (by decide +kernel) ⟨by rw [hRf]; exact Nat.le_of_ble_eq_true rfl, by rw [hRl]; exact Nat.le_of_ble_eq_true rfl⟩) f_103 rfl bl_88 bl_89 rfl (Nat.le_of_ble_eq_true rfl) d_Mf_area_112) (fun r_107 G_104 B_105 p_106 => ?_)
              obtain ⟨e_108, C_109, fr_110⟩ := p_106
              subst e_108
              have fr_111 : gfr (fun x => x < 70) G G_104 := gfr_mono (gfr_tr hfr1 fr_110) (fun x h9 => by rcases h9 with h9 | h9 <;> omega)
              have bl_112 := CW3_le C_109
              have hs2 : sp_area S (iI g) = kp S ss (S.un (S.rp k 0) + S.un (S.rh k 0)) := by rw [hsp, if_neg hc2, if_neg hu, if_neg hnf, hjn, has]
              exact hret 115 _ _ _ _ d_Mf_area_115 (Nat.le_trans bl_112.1 hY1) (Nat.le_trans bl_112.2 hY2) ⟨by rw [hs2], by rw [hs2]; exact C_109, fr_111⟩
            · skip
              have nc_102 : (j + 1) < (S.rc k) := (nn_ge (a := (j + 1)) (b := (S.rc k)) (by omega) (by omega)).2 c_102
              exact absurd nc_102 (by omega)
          | succ q ih =>
            intro j ss F1 V1 Gk Bk hj has hnl hC1 hF1 hfr1
            have hrs := rb_of hnl
            have bl_113 : Bk.1 ≤ MC := Nat.le_trans (w2_le hC1.w).1 hX1
            have bl_114 : Bk.2 ≤ MS := Nat.le_trans (w2_le hC1.w).2 hX2
            refine gs (pc' := 73) (fun _ _ _ _ _ hl => lv_iload hx hb d_Mf_area_71 (lv_at hl 0 rfl)) ?_
            refine gs (pc' := 74) (fun _ _ _ _ _ hl => lv_aload_n hx hb d_Mf_area_73 rfl (lv_at hl 2 rfl)) ?_
            obtain ⟨rc_115, pf_116, hg_117, f_118, f_119, f_120, g_121⟩ := hC1.ro k (by omega)
            obtain ⟨g_122, g_123⟩ := g_121 hi_k
            subst g_122
            have f_124 : Gk (a.ro k) = some (40 + k, .inr (5, [.ref (a.rp k), .ref (a.rh k), .int (nI (S.rc k))])) := f_118
            have f_125 : Gk (a.rp k) = some (50 + k, .inl (cA 2, 16, .inr (.inr (.inr (.inr pf_116))))) := f_119
            have f_126 : Gk (a.rh k) = some (60 + k, .inl (cA 2, 16, .inr (.inr (.inr (.inr hg_117))))) := f_120
            refine g_get hx hb hts hin_Ro hown hK f_124 rfl 2 (by decide) (hts _ wm227) (fun _ h9 => h9) rfl d_Mf_area_74 ?_
            refine gsb (pc1 := 106) (pc2 := 80) (fun _ _ _ _ _ => lv_icmp_ge (tgt := 106) hx hb d_Mf_area_77 (by decide)) (fun c_127 => ?_) (fun c_127 => ?_)
            · skip
              have nc_127 : (j + 1) ≥ (S.rc k) := (nn_ge (a := (j + 1)) (b := (S.rc k)) (by omega) (by omega)).1 c_127
              exact absurd nc_127 (by omega)
            · skip
              have nc_127 : (j + 1) < (S.rc k) := (nn_ge (a := (j + 1)) (b := (S.rc k)) (by omega) (by omega)).2 c_127
              refine gs (pc' := 81) (fun _ _ _ _ _ hl => lv_aload_n hx hb d_Mf_area_80 rfl (lv_at hl 3 rfl)) ?_
              refine gs (pc' := 82) (fun _ _ _ _ _ hl => lv_aload_n hx hb d_Mf_area_81 rfl (lv_at hl 2 rfl)) ?_
              refine gs (pc' := 84) (fun _ _ _ _ _ hl => lv_iload hx hb d_Mf_area_82 (lv_at hl 0 rfl)) ?_
              have f_128 : Gk a.x = some (31, .inr (8, [.ref a.vs, .int (nI S.n), .ref a.rs, .int (nI S.rn), .ref a.ws, .ref a.ca, .ref (a.fr 0), .ref (a.fr 1), .ref (a.fr 2), .ref (a.fr 3), .ref a.zr, .ref a.fo, .ref a.ha, .ref a.si])) := hC1.ob
              refine g_outv hlo (g_runV (As := [.ref (a.ro k), .int (nI (j + 1))]) (rest := []) ⟨hx, hb, hml, hown, hts⟩ hK hZ hRc hRs (c_Mf_addStrip l D cA lo MC MS Gk Bk X a S F1 V1 hC1 hW k hi_k j (by omega) ss hF1 hrs hX1 hX2) (fun _ _ => cwV 2 hts (tb_good (tb_cons wm704 (tb_cons wm706 (tb_cons ws17 (tb_cons wm1 k_Mf_addStrip))))) rfl rfl rfl (by decide +kernel) ⟨by rw [hRf]; exact Nat.le_of_ble_eq_true rfl, by rw [hRl]; exact Nat.le_of_ble_eq_true rfl⟩) f_128 rfl bl_113 bl_114 rfl (Nat.le_of_ble_eq_true rfl) d_Mf_area_84) (fun G_129 B_130 p_131 => ?_)
              obtain ⟨F_132, V_133, C_134, e_135, rb_136, fr_137⟩ := p_131
              have fr_138 : gfr (fun x => x < 24) G G_129 := gfr_24 hfr1 fr_137
              have bl_139 : B_130.1 ≤ MC := Nat.le_trans (w2_le C_134.w).1 hX1
              have bl_140 : B_130.2 ≤ MS := Nat.le_trans (w2_le C_134.w).2 hX2
              refine gs (pc' := 88) (fun _ _ _ _ _ hl => lv_aload_n hx hb d_Mf_area_87 rfl (lv_at hl 3 rfl)) ?_
              have f_141 : G_129 a.x = some (31, .inr (8, [.ref a.vs, .int (nI S.n), .ref a.rs, .int (nI S.rn), .ref a.ws, .ref a.ca, .ref (a.fr 0), .ref (a.fr 1), .ref (a.fr 2), .ref (a.fr 3), .ref a.zr, .ref a.fo, .ref a.ha, .ref a.si])) := C_134.ob
              refine g_get hx hb hts hin_Mf hown hK f_141 rfl 9 (by decide) (hts _ wm244) (fun _ h9 => h9) rfl d_Mf_area_88 ?_
              obtain ⟨sg_142, f_143, g_144⟩ := C_134.fr 3 (by decide)
              have f_145 : G_129 (a.fr 3) = some (20 + 3, .inr (3, [.int sg_142, .ref (a.ad (11 + 2 * 3)), .ref (a.ad (12 + 2 * 3))])) := f_143
              refine g_outi hlo (g_runV (As := []) (rest := []) ⟨hx, hb, hml, hown, hts⟩ hK hZ hRc hRs (c3_long l D cA lo MC MS G_129 B_130 X a S F_132 V_133 C_134 hX1 hX2 3 (by decide) (ss + strip S k j) e_135 600 rb_136 (by decide)) (fun _ _ => cwV 0 hts (tb_good (tb_cons wm499 (tb_cons wm500 (tb_cons wm501 (tb_cons wm8 k_Fr_isLong))))) rfl rfl rfl (by decide +kernel) ⟨by rw [hRf]; exact Nat.le_of_ble_eq_true rfl, by rw [hRl]; exact Nat.le_of_ble_eq_true rfl⟩) f_145 rfl bl_139 bl_140 rfl (Nat.le_of_ble_eq_true rfl) d_Mf_area_91) (fun r_149 G_146 B_147 p_148 => ?_)
              obtain ⟨u_150, v_151⟩ := p_148
              cases u_150
              have e_152 := b01_or v_151
              subst e_152
              have bd_153 := b01_le (decide (lng (ss + strip S k j)))
              refine gsb (pc1 := 100) (pc2 := 97) (fun _ _ _ _ _ => lv_if_eq (tgt := 100) hx hb d_Mf_area_94 (by decide)) (fun c_154 => ?_) (fun c_154 => ?_)
              · skip
                have nc_154 : (b01 (decide (lng (ss + strip S k j)))) = 0 := (n0_eq (a := (b01 (decide (lng (ss + strip S k j))))) (by omega)).1 c_154
                have hl2 := b01_0 nc_154
                have has2 : ars (strip S k) (j + 1) = some (ss + strip S k j) := by rw [ars, has]; exact if_neg hl2
                refine gst (pc' := 103) (L' := [(4, .int (nI (j + 1 + 1))), (3, .int (iI (S.un (S.rp k 0) + S.un (S.rh k 0)))), (2, .ref (a.ro k)), (0, .ref a.x)]) (fun _ _ _ _ _ hl => lv_iinc (v := nI (j + 1 + 1)) hx hb d_Mf_area_100 hl (k := 0) rfl (nI_add _ 1) (by decide) rfl) ?_
                refine gs (pc' := 71) (fun _ _ _ _ _ hl => lv_goto (tgt := 71) hx hb d_Mf_area_103 (by decide)) ?_
                refine gsub [0, 1, 2, 3] rfl ?_
                exact ih (j + 1) (ss + strip S k j) F_132 V_133 G_129 B_130 (by omega) has2 hl2 C_134 e_135 fr_138
              · skip
                have nc_154 : (b01 (decide (lng (ss + strip S k j)))) ≠ 0 := (n0_eq (a := (b01 (decide (lng (ss + strip S k j))))) (by omega)).2 c_154
                have hl2 := b01_1 nc_154
                have has2 : ars (strip S k) (j + 1) = none := by rw [ars, has]; exact if_pos hl2
                refine gs (pc' := 99) (fun _ _ _ _ _ hl => lv_bipush (v := (-4)) hx hb d_Mf_area_97 (by decide)) ?_
                refine g_eqi (show (-4) = iI (-4) from by decide) ?_
                have hs2 : sp_area S (iI g) = (0, -4, S) := by rw [hsp, if_neg hc2, if_neg hu, if_neg hnf, ars_none has2 (by omega)]
                exact hret 99 _ _ _ _ d_Mf_area_99 bl_139 bl_140 ⟨by rw [hs2], by rw [hs2]; exact C_134.up (X1 := (X.1 + 6, X.2 + 209)) (show X.1 ≤ X.1 + 6 by omega) (show X.2 ≤ X.2 + 209 by omega), (gfr_mono (M := fun x => x < 24) fr_138 (fun x h9 => by omega))⟩
        exact loop (S.rc k - 1) 0 0 (fup F 3 (some 0)) V_74 G_71 B_72 (by omega) rfl z_lng C_75 rfl fr_83
      · skip
        have nc_66 : (b01 (decide (S.n = 200))) ≠ 0 := (n0_eq (a := (b01 (decide (S.n = 200)))) (by omega)).2 c_66
        have hnf := b01_1 nc_66
        refine gs (pc' := 56) (fun _ _ _ _ _ hl => lv_bipush (v := (-3)) hx hb d_Mf_area_54 (by decide)) ?_
        refine g_eqi (show (-3) = iI (-3) from by decide) ?_
        have hs2 : sp_area S (iI g) = (0, -3, S) := by rw [hsp, if_neg hc2, if_neg hu, if_pos hnf]
        exact hret 56 _ _ _ _ d_Mf_area_56 bl_1 bl_2 ⟨by rw [hs2], by rw [hs2]; exact hC.up (X1 := (X.1 + 6, X.2 + 209)) (show X.1 ≤ X.1 + 6 by omega) (show X.2 ≤ X.2 + 209 by omega), (gfr_mono (M := fun x => x < 24) gfr_rf (fun x h9 => by omega))⟩
    · skip
      have nc_58 : (b01 (decide (uok ((S.un (S.rp k 0)) + (S.un (S.rh k 0)))))) = 0 := (n0_ne (a := (b01 (decide (uok ((S.un (S.rp k 0)) + (S.un (S.rh k 0))))))) (by omega)).2 c_58
      have hu := b01_0 nc_58
      refine gs (pc' := 46) (fun _ _ _ _ _ hl => lv_bipush (v := (-2)) hx hb d_Mf_area_44 (by decide)) ?_
      refine g_eqi (show (-2) = iI (-2) from by decide) ?_
      have hs2 : sp_area S (iI g) = (0, -2, S) := by rw [hsp, if_neg hc2, if_pos hu]
      exact hret 46 _ _ _ _ d_Mf_area_46 bl_1 bl_2 ⟨by rw [hs2], by rw [hs2]; exact hC.up (X1 := (X.1 + 6, X.2 + 209)) (show X.1 ≤ X.1 + 6 by omega) (show X.2 ≤ X.2 + 209 by omega), (gfr_mono (M := fun x => x < 24) gfr_rf (fun x h9 => by omega))⟩
  · skip
    have nc_22 : (S.rc k) < 2 := (nn_ge (a := (S.rc k)) (b := 2) (by omega) (by omega)).2 c_22
    have hc2 : S.rc k < 2 := nc_22
    refine gs (pc' := 16) (fun _ _ _ _ _ hl => lv_bipush (v := (-5)) hx hb d_Mf_area_14 (by decide)) ?_
    refine g_eqi (show (-5) = iI (-5) from by decide) ?_
    have hs2 : sp_area S (iI g) = (0, -5, S) := by rw [hsp, if_pos hc2]
    exact hret 16 _ _ _ _ d_Mf_area_16 bl_1 bl_2 ⟨by rw [hs2], by rw [hs2]; exact hC.up (X1 := (X.1 + 6, X.2 + 209)) (show X.1 ≤ X.1 + 6 by omega) (show X.2 ≤ X.2 + 209 by omega), (gfr_mono (M := fun x => x < 24) gfr_rf (fun x h9 => by omega))⟩
set_option maxHeartbeats 4000000 in
set_option maxRecDepth 100000 in
theorem t_Mf_area1 (l : Launch) (D : va_G) (cA : Nat → ClassId) (lo MC MS : Nat) (G : gT) (B : Nat × Nat) (X : Nat × Nat) (a : AX) (S : St) (F : Nat → Option Rat) (V : Nat → Nat) (hC : CW cA X a S F V (G, B)) (hW : WF S) (g : Int) (hg1 : -2147483648 ≤ g) (hg2 : g < 2147483648) (hk : (sp_area S (iI g)).1 = 1) (hY1 : X.1 + 1 ≤ MC) (hY2 : X.2 + 6 ≤ MS) (hfl : ∀ e : Env, l.admits e → e.platform.stackTraces = false) : gMetT l y_Mf_area w_Mf_area 7 111 D clS (gtys cA) lo MC MS [.ref a.x, .int (iI g)] G B (gQx D clS lo "java/lang/IndexOutOfBoundsException" (fun u => u = (G, B.1 + 1, B.2 + 6))) := by
  refine g_mett (cc := prog_1_method_15_code) (nL := 5) (ret := (Option.some .int)) (L := [(0, .ref a.x), (1, .int (iI g))]) (by decide +kernel) rfl (Nat.le_of_ble_eq_true rfl) rfl ?_
  intro p e R s m args below meth c Q hF hRc hRs hRf hRl hne hQ
  obtain ⟨hx, hb, hr, hml, hts0, hown, hlocks, hin, hK, hlo, hZ⟩ := hF
  have hts : ∀ w ∈ tbg, w.before args s = true := fun w h => hts0 w (List.mem_cons_of_mem _ h)
  have hX1 : X.1 ≤ MC := by omega
  have hX2 : X.2 ≤ MS := by omega
  have hn := hW.n
  have hrn := hW.rn
  have hwn := hW.wn
  have bl_1 : B.1 ≤ MC := Nat.le_trans (w2_le hC.w).1 hX1
  have bl_2 : B.2 ≤ MS := Nat.le_trans (w2_le hC.w).2 hX2
  have hv : ¬ ri S (iI g) := fun z9 => by
    rw [sp_area, if_neg (fun z8 => z8 z9)] at hk
    split at hk
    · simp at hk
    split at hk
    · simp at hk
    split at hk
    · simp at hk
    split at hk
    · simp at hk
    · rw [kp_0] at hk; simp at hk
  refine gs (pc' := 1) (fun _ _ _ _ _ hl => lv_aload_n hx hb d_Mf_area_0 rfl (lv_at hl 0 rfl)) ?_
  refine gs (pc' := 2) (fun _ _ _ _ _ hl => lv_iload_n hx hb d_Mf_area_1 rfl (lv_at hl 1 rfl)) ?_
  have f_3 : G a.x = some (31, .inr (8, [.ref a.vs, .int (nI S.n), .ref a.rs, .int (nI S.rn), .ref a.ws, .ref a.ca, .ref (a.fr 0), .ref (a.fr 1), .ref (a.fr 2), .ref (a.fr 3), .ref a.zr, .ref a.fo, .ref a.ha, .ref a.si])) := hC.ob
  exact g_up hlocks hne bl_1 bl_2 (g_thrV (As := [.int (iI g)]) (rest := []) ⟨hx, hb, hml, hown, hts⟩ hK hZ hRc hRs (t_Mf_rowOf l D cA lo MC MS G B X a S F V hC hW g hg1 hg2 (nri hg1 hg2 hv) hY1 hY2 hfl) (fun _ _ => cwV 1 hts (tb_good (tb_cons wm672 (tb_cons wm674 (tb_cons ws14 (tb_cons wm1 k_Mf_rowOf))))) rfl rfl rfl (by decide +kernel) ⟨by rw [hRf]; exact Nat.le_of_ble_eq_true rfl, by rw [hRl]; exact Nat.le_of_ble_eq_true rfl⟩) f_3 rfl bl_1 bl_2 rfl (Nat.le_of_ble_eq_true rfl) d_Mf_area_2) (fun _ h => h) hQ
