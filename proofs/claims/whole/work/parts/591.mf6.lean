set_option maxHeartbeats 4000000 in
set_option maxRecDepth 100000 in
theorem c_Mf_cnb (l : Launch) (D : va_G) (cA : Nat → ClassId) (lo MC MS : Nat) (G : gT) (B : Nat × Nat) (X : Nat × Nat) (a : AX) (S : St) (F : Nat → Option Rat) (V : Nat → Nat) (hC : CW cA X a S F V (G, B)) (hW : WF S) (k : Nat) (hk : k < S.rn) (hf : Nat) (rr : Rat) (hkq : kq cA G hf rr) (hrb : rb rr 100) (hY1 : X.1 + 0 ≤ MC) (hY2 : X.2 + 0 ≤ MS) : gMet l y_Mf_cornerNotBefore w_Mf_cornerNotBefore 6 158 D clS (gtys cA) lo MC MS [.ref a.x, .ref (a.ro k), .ref hf] G B (gQi D clS lo (fun r u => r = iI (cnb S k rr) ∧ ∃ V1, CW cA X a S F V1 u ∧ gfr (fun x => x < 24) G u.1)) := by
  refine g_meti (cc := prog_1_method_24_code) (nL := 5) (L := [(0, .ref a.x), (1, .ref (a.ro k)), (2, .ref hf)]) (by decide +kernel) rfl (Nat.le_of_ble_eq_true rfl) rfl ?_
  intro p e R s m args below meth c Q hF hRc hRs hRf hRl hret
  obtain ⟨hx, hb, hr, hml, hts0, hown, hlocks, hin, hK, hlo, hZ⟩ := hF
  have hts : ∀ w ∈ tbg, w.before args s = true := fun w h => hts0 w (List.mem_cons_of_mem _ h)
  have hX1 : X.1 ≤ MC := by omega
  have hX2 : X.2 ≤ MS := by omega
  have hn := hW.n
  have hrn := hW.rn
  have hwn := hW.wn
  have bl_1 : B.1 ≤ MC := Nat.le_trans (w2_le hC.w).1 hX1
  have bl_2 : B.2 ≤ MS := Nat.le_trans (w2_le hC.w).2 hX2
  have hrc := hW.rc k hk
  refine gs (pc' := 1) (fun _ _ _ _ _ hl => lv_iconst (v := nI 0) hx hb d_Mf_cornerNotBefore_0 (by decide)) ?_
  refine gst (pc' := 2) (L' := [(3, .int (nI 0)), (0, .ref a.x), (1, .ref (a.ro k)), (2, .ref hf)]) (fun _ _ _ _ _ hl => lv_istore_n hx hb d_Mf_cornerNotBefore_1 rfl hl (by decide) rfl) ?_
  refine gsub [0, 1, 2, 3] rfl ?_
  have loop : ∀ (q j : Nat) (V1 : Nat → Nat) (Gk : gT) (Bk : Nat × Nat), j + q = S.rc k → fg (fun j => S.v (S.rp k j)) rr j = none → CW cA X a S F V1 (Gk, Bk) → kq cA Gk hf rr → gfr (fun x => x < 24) G Gk → gV p l e R s m args below meth c D clS lo 5 Q 2 [(3, .int (nI j)), (0, .ref a.x), (1, .ref (a.ro k)), (2, .ref hf)] [] Gk Bk := by
    intro q
    induction q with
    | zero =>
      intro j V1 Gk Bk hj hfg hC1 hkq1 hfr1
      have bl_3 : Bk.1 ≤ MC := Nat.le_trans (w2_le hC1.w).1 hX1
      have bl_4 : Bk.2 ≤ MS := Nat.le_trans (w2_le hC1.w).2 hX2
      have hjn : S.rc k = j := by omega
      refine gs (pc' := 3) (fun _ _ _ _ _ hl => lv_iload_n hx hb d_Mf_cornerNotBefore_2 rfl (lv_at hl 0 rfl)) ?_
      refine gs (pc' := 4) (fun _ _ _ _ _ hl => lv_aload_n hx hb d_Mf_cornerNotBefore_3 rfl (lv_at hl 2 rfl)) ?_
      obtain ⟨rc_5, pf_6, hg_7, f_8, f_9, f_10, g_11⟩ := hC1.ro k (by omega)
      obtain ⟨g_12, g_13⟩ := g_11 hk
      subst g_12
      refine g_get hx hb hts hin_Ro hown hK f_8 rfl 2 (by decide) (hts _ wm227) (fun _ h9 => h9) rfl d_Mf_cornerNotBefore_4 ?_
      refine gsb (pc1 := 57) (pc2 := 10) (fun _ _ _ _ _ => lv_icmp_ge (tgt := 57) hx hb d_Mf_cornerNotBefore_7 (by decide)) (fun c_14 => ?_) (fun c_14 => ?_)
      · skip
        have nc_14 : j ≥ (S.rc k) := (nn_ge (a := j) (b := (S.rc k)) (by omega) (by omega)).1 c_14
        refine gs (pc' := 58) (fun _ _ _ _ _ hl => lv_iconst (v := (-1)) hx hb d_Mf_cornerNotBefore_57 (by decide)) ?_
        refine g_eqi (show (-1) = iI (-1) from by decide) ?_
        exact hret 58 _ _ _ _ d_Mf_cornerNotBefore_58 bl_3 bl_4 ⟨by unfold cnb; rw [hjn, hfg], V1, hC1, hfr1⟩
      · skip
        have nc_14 : j < (S.rc k) := (nn_ge (a := j) (b := (S.rc k)) (by omega) (by omega)).2 c_14
        exact absurd nc_14 (by omega)
    | succ q ih =>
      intro j V1 Gk Bk hj hfg hC1 hkq1 hfr1
      have bl_15 : Bk.1 ≤ MC := Nat.le_trans (w2_le hC1.w).1 hX1
      have bl_16 : Bk.2 ≤ MS := Nat.le_trans (w2_le hC1.w).2 hX2
      refine gs (pc' := 3) (fun _ _ _ _ _ hl => lv_iload_n hx hb d_Mf_cornerNotBefore_2 rfl (lv_at hl 0 rfl)) ?_
      refine gs (pc' := 4) (fun _ _ _ _ _ hl => lv_aload_n hx hb d_Mf_cornerNotBefore_3 rfl (lv_at hl 2 rfl)) ?_
      obtain ⟨rc_17, pf_18, hg_19, f_20, f_21, f_22, g_23⟩ := hC1.ro k (by omega)
      obtain ⟨g_24, g_25⟩ := g_23 hk
      subst g_24
      refine g_get hx hb hts hin_Ro hown hK f_20 rfl 2 (by decide) (hts _ wm227) (fun _ h9 => h9) rfl d_Mf_cornerNotBefore_4 ?_
      refine gsb (pc1 := 57) (pc2 := 10) (fun _ _ _ _ _ => lv_icmp_ge (tgt := 57) hx hb d_Mf_cornerNotBefore_7 (by decide)) (fun c_26 => ?_) (fun c_26 => ?_)
      · skip
        have nc_26 : j ≥ (S.rc k) := (nn_ge (a := j) (b := (S.rc k)) (by omega) (by omega)).1 c_26
        exact absurd nc_26 (by omega)
      · skip
        have nc_26 : j < (S.rc k) := (nn_ge (a := j) (b := (S.rc k)) (by omega) (by omega)).2 c_26
        refine gs (pc' := 11) (fun _ _ _ _ _ hl => lv_aload_n hx hb d_Mf_cornerNotBefore_10 rfl (lv_at hl 1 rfl)) ?_
        refine g_get hx hb hts hin_Mf hown hK hC1.ob rfl 5 (by decide) (hts _ wm240) (fun _ h9 => h9) rfl d_Mf_cornerNotBefore_11 ?_
        refine gs (pc' := 15) (fun _ _ _ _ _ hl => lv_aload_n hx hb d_Mf_cornerNotBefore_14 rfl (lv_at hl 3 rfl)) ?_
        refine gs (pc' := 16) (fun _ _ _ _ _ hl => lv_aload_n hx hb d_Mf_cornerNotBefore_15 rfl (lv_at hl 2 rfl)) ?_
        refine g_get hx hb hts hin_Ro hown hK f_20 rfl 0 (by decide) (hts _ wm223) (fun _ h9 => h9) rfl d_Mf_cornerNotBefore_16 ?_
        refine gs (pc' := 20) (fun _ _ _ _ _ hl => lv_iload_n hx hb d_Mf_cornerNotBefore_19 rfl (lv_at hl 0 rfl)) ?_
        obtain ⟨h_27, h_28, e_29, e_30, iv_31, iv_32⟩ := g_25 j (by omega)
        have rb_33 : rb (S.v (S.rp k j)) 100 := rb_of (hW.v _ (hW.rp k hk j (by omega)).1).1
        have rb_34 : rb (S.v (S.rh k j)) 100 := rb_of (hW.v _ (hW.rp k hk j (by omega)).2.1).1
        have wr_35 := hW.rp k hk j (by omega)
        have ub_36 := (hW.v _ wr_35.1).2
        have ub_36a := ub_36.1
        have ub_36b := ub_36.2
        have ub_37 := (hW.v _ wr_35.2.1).2
        have ub_37a := ub_37.1
        have ub_37b := ub_37.2
        refine g_aalS hx hb hK 2 f_21 rfl (by omega) (by decide) e_29 d_Mf_cornerNotBefore_20 ?_
        obtain ⟨hf_38, f_39, kq_40⟩ := id iv_31
        refine g_get hx hb hts hin_Va hown hK f_39 rfl 0 (by decide) (hts _ wm523) (fun _ h9 => h9) rfl d_Mf_cornerNotBefore_21 ?_
        refine g_outi hlo (g_runV (As := [.ref hf, .ref hf_38]) (rest := []) ⟨hx, hb, hml, hown, hts⟩ hK hZ hRc hRs (c3_cmp l D cA lo MC MS Gk Bk X a S F V1 hC1 hX1 hX2 hf hf_38 rr (S.v (S.rp k j)) (Or.inr hkq1) (Or.inr kq_40) 100 100 hrb rb_33 (by decide)) (fun _ _ => cwV 2 hts (tb_good (tb_cons wm606 (tb_cons wm607 (tb_cons wm608 (tb_cons wm3 k_Ca_compare))))) rfl rfl rfl (by decide +kernel) ⟨by rw [hRf]; exact Nat.le_of_ble_eq_true rfl, by rw [hRl]; exact Nat.le_of_ble_eq_true rfl⟩) hC1.ca rfl bl_15 bl_16 rfl (Nat.le_of_ble_eq_true rfl) d_Mf_cornerNotBefore_24) (fun r_44 G_41 B_42 p_43 => ?_)
        obtain ⟨e_45, p_46⟩ := p_43
        subst e_45
        obtain ⟨V_47, C_48, fr_49⟩ := p_46
        have iv_50 : isV cA G_41 h_27 (S.v (S.rp k j)) (S.un (S.rp k j)) := isV_24 iv_31 fr_49
        have iv_51 : isV cA G_41 h_28 (S.v (S.rh k j)) (S.un (S.rh k j)) := isV_24 iv_32 fr_49
        have kq_52 : kq cA G_41 hf rr := kq_24 hkq1 fr_49
        have kq_53 : kq cA G_41 hf_38 (S.v (S.rp k j)) := kq_24 kq_40 fr_49
        have fr_54 : gfr (fun x => x < 24) G G_41 := gfr_24 hfr1 fr_49
        have f_55 : G_41 h_27 = some (30, .inr (6, [.ref hf_38, .int (iI (S.un (S.rp k j)))])) := fr_49 _ _ f_39 (show ¬ (30 : Nat) < 24 by decide)
        have bl_56 : B_42.1 ≤ MC := Nat.le_trans (w2_le C_48.w).1 hX1
        have bl_57 : B_42.2 ≤ MS := Nat.le_trans (w2_le C_48.w).2 hX2
        have bd_58 := rcmp_bd rr (S.v (S.rp k j))
        refine gst (pc' := 29) (L' := [(4, .int (iI (rcmp rr (S.v (S.rp k j))))), (3, .int (nI j)), (0, .ref a.x), (1, .ref (a.ro k)), (2, .ref hf)]) (fun _ _ _ _ _ hl => lv_istore hx hb d_Mf_cornerNotBefore_27 hl (by decide) rfl) ?_
        refine gs (pc' := 31) (fun _ _ _ _ _ hl => lv_iload hx hb d_Mf_cornerNotBefore_29 (lv_at hl 0 rfl)) ?_
        refine gsb (pc1 := 36) (pc2 := 34) (fun _ _ _ _ _ => lv_if_ne (tgt := 36) hx hb d_Mf_cornerNotBefore_31 (by decide)) (fun c_59 => ?_) (fun c_59 => ?_)
        · skip
          have nc_59 : (rcmp rr (S.v (S.rp k j))) ≠ 0 := (ii_ne (a := (rcmp rr (S.v (S.rp k j)))) (b := 0) (by omega) (by omega) (by omega) (by omega)).1 (by first | exact c_59 | (have z9 := c_59; simp only [nI_iI] at z9; exact z9))
          have hne : rr ≠ S.v (S.rp k j) := fun z9 => nc_59 (rcmp_0.mpr z9)
          refine gs (pc' := 38) (fun _ _ _ _ _ hl => lv_iload hx hb d_Mf_cornerNotBefore_36 (lv_at hl 0 rfl)) ?_
          refine gsb (pc1 := 51) (pc2 := 41) (fun _ _ _ _ _ => lv_if_ge (tgt := 51) hx hb d_Mf_cornerNotBefore_38 (by decide)) (fun c_60 => ?_) (fun c_60 => ?_)
          · skip
            have nc_60 : (rcmp rr (S.v (S.rp k j))) ≥ 0 := (ii_ge (a := (rcmp rr (S.v (S.rp k j)))) (b := 0) (by omega) (by omega) (by omega) (by omega)).1 (by first | exact c_60 | (have z9 := c_60; simp only [nI_iI] at z9; exact z9))
            have hgt : S.v (S.rp k j) < rr := Rat.not_le.mp fun z9 => by have := rcmp_le.mpr z9; rcases Int.lt_or_eq_of_le this with y9 | y9; (omega); (exact hne (rcmp_0.mp y9))
            have hfg2 : fg (fun j => S.v (S.rp k j)) rr (j + 1) = none := fg_none.mpr fun i9 h9 => by
              by_cases e9 : i9 = j
              · subst e9; exact hgt
              · exact fg_none.mp hfg i9 (by omega)
            refine gst (pc' := 54) (L' := [(3, .int (nI (j + 1))), (4, .int (iI (rcmp rr (S.v (S.rp k j))))), (0, .ref a.x), (1, .ref (a.ro k)), (2, .ref hf)]) (fun _ _ _ _ _ hl => lv_iinc (v := nI (j + 1)) hx hb d_Mf_cornerNotBefore_51 hl (k := 1) rfl (nI_add _ 1) (by decide) rfl) ?_
            refine gs (pc' := 2) (fun _ _ _ _ _ hl => lv_goto (tgt := 2) hx hb d_Mf_cornerNotBefore_54 (by decide)) ?_
            refine gsub [0, 2, 3, 4] rfl ?_
            exact ih (j + 1) V_47 G_41 B_42 (by omega) hfg2 C_48 kq_52 fr_54
          · skip
            have nc_60 : (rcmp rr (S.v (S.rp k j))) < 0 := (ii_ge (a := (rcmp rr (S.v (S.rp k j)))) (b := 0) (by omega) (by omega) (by omega) (by omega)).2 (by first | exact c_60 | (have z9 := c_60; simp only [nI_iI] at z9; exact z9))
            have hlt : rr < S.v (S.rp k j) := rcmp_lt.mp nc_60
            have hfs : fg (fun j => S.v (S.rp k j)) rr (S.rc k) = some j := fg_some.mpr ⟨by omega, Rat.le_of_lt hlt, fg_none.mp hfg⟩
            refine gs (pc' := 42) (fun _ _ _ _ _ hl => lv_iload_n hx hb d_Mf_cornerNotBefore_41 rfl (lv_at hl 1 rfl)) ?_
            refine gsb (pc1 := 49) (pc2 := 45) (fun _ _ _ _ _ => lv_if_ne (tgt := 49) hx hb d_Mf_cornerNotBefore_42 (by decide)) (fun c_61 => ?_) (fun c_61 => ?_)
            · skip
              have nc_61 : j ≠ 0 := (n0_ne (a := j) (by omega)).1 c_61
              have hj0 : ¬ j = 0 := nc_61
              refine gs (pc' := 50) (fun _ _ _ _ _ hl => lv_iload_n hx hb d_Mf_cornerNotBefore_49 rfl (lv_at hl 1 rfl)) ?_
              exact hret 50 _ _ _ _ d_Mf_cornerNotBefore_50 bl_56 bl_57 ⟨by unfold cnb; rw [hfs]; show _ = iI (if j = 0 ∧ rr ≠ S.v (S.rp k 0) then -1 else (j : Int)); rw [if_neg (fun z9 => hj0 z9.1), ← nI_iI], V_47, C_48, fr_54⟩
            · skip
              have nc_61 : j = 0 := (n0_ne (a := j) (by omega)).2 c_61
              have hj0 : j = 0 := nc_61
              refine gs (pc' := 46) (fun _ _ _ _ _ hl => lv_iconst (v := (-1)) hx hb d_Mf_cornerNotBefore_45 (by decide)) ?_
              refine g_eqi (show (-1) = iI (-1) from by decide) ?_
              refine gs (pc' := 50) (fun _ _ _ _ _ hl => lv_goto (tgt := 50) hx hb d_Mf_cornerNotBefore_46 (by decide)) ?_
              exact hret 50 _ _ _ _ d_Mf_cornerNotBefore_50 bl_56 bl_57 ⟨by unfold cnb; rw [hfs]; show _ = iI (if j = 0 ∧ rr ≠ S.v (S.rp k 0) then -1 else (j : Int)); rw [if_pos ⟨hj0, by rw [← hj0]; exact hne⟩], V_47, C_48, fr_54⟩
        · skip
          have nc_59 : (rcmp rr (S.v (S.rp k j))) = 0 := (ii_ne (a := (rcmp rr (S.v (S.rp k j)))) (b := 0) (by omega) (by omega) (by omega) (by omega)).2 (by first | exact c_59 | (have z9 := c_59; simp only [nI_iI] at z9; exact z9))
          have hxe : rr = S.v (S.rp k j) := rcmp_0.mp nc_59
          have hfs : fg (fun j => S.v (S.rp k j)) rr (S.rc k) = some j := fg_some.mpr ⟨by omega, by rw [hxe]; exact Rat.le_refl, fg_none.mp hfg⟩
          refine gs (pc' := 35) (fun _ _ _ _ _ hl => lv_iload_n hx hb d_Mf_cornerNotBefore_34 rfl (lv_at hl 1 rfl)) ?_
          exact hret 35 _ _ _ _ d_Mf_cornerNotBefore_35 bl_56 bl_57 ⟨by unfold cnb; rw [hfs]; show _ = iI (if j = 0 ∧ rr ≠ S.v (S.rp k 0) then -1 else (j : Int)); rw [if_neg (fun z9 => z9.2 (by rw [hxe, z9.1])), ← nI_iI], V_47, C_48, fr_54⟩
  exact loop (S.rc k) 0 V G B (by omega) rfl hC hkq gfr_rf
set_option maxHeartbeats 4000000 in
set_option maxRecDepth 100000 in
theorem c_Mf_setHeight (l : Launch) (D : va_G) (cA : Nat → ClassId) (lo MC MS : Nat) (G : gT) (B : Nat × Nat) (X : Nat × Nat) (a : AX) (S : St) (F : Nat → Option Rat) (V : Nat → Nat) (hC : CW cA X a S F V (G, B)) (hW : WF S) (k : Nat) (hk : k < S.rn) (hf : Nat) (rr : Rat) (hkq : kq cA G hf rr) (hrb : rb rr 100) (j : Nat) (hj : j < S.rc k) (hj0 : j = 0 → rr = S.v (S.rp k 0)) (hY1 : X.1 + 0 ≤ MC) (hY2 : X.2 + 0 ≤ MS) : gMet l y_Mf_setHeight w_Mf_setHeight 7 190 D clS (gtys cA) lo MC MS [.ref a.x, .ref (a.ro k), .int (nI j), .ref hf] G B (gQv D clS lo (fun u => ∃ F1 V1, CW cA X a S F1 V1 u ∧ F1 0 = some (hgt S k rr j) ∧ rb (hgt S k rr j) 710 ∧ gfr (fun x => x < 24) G u.1)) := by
  refine g_metv (cc := prog_1_method_25_code) (nL := 8) (L := [(0, .ref a.x), (1, .ref (a.ro k)), (2, .int (nI j)), (3, .ref hf)]) (by decide +kernel) rfl (Nat.le_of_ble_eq_true rfl) rfl ?_
  intro p e R s m args below meth c Q hF hRc hRs hRf hRl hret
  obtain ⟨hx, hb, hr, hml, hts0, hown, hlocks, hin, hK, hlo, hZ⟩ := hF
  have hts : ∀ w ∈ tbg, w.before args s = true := fun w h => hts0 w (List.mem_cons_of_mem _ h)
  have hX1 : X.1 ≤ MC := by omega
  have hX2 : X.2 ≤ MS := by omega
  have hn := hW.n
  have hrn := hW.rn
  have hwn := hW.wn
  have bl_1 : B.1 ≤ MC := Nat.le_trans (w2_le hC.w).1 hX1
  have bl_2 : B.2 ≤ MS := Nat.le_trans (w2_le hC.w).2 hX2
  have hrc := hW.rc k hk
  refine gs (pc' := 1) (fun _ _ _ _ _ hl => lv_aload_n hx hb d_Mf_setHeight_0 rfl (lv_at hl 1 rfl)) ?_
  obtain ⟨rc_3, pf_4, hg_5, f_6, f_7, f_8, g_9⟩ := hC.ro k (by omega)
  obtain ⟨g_10, g_11⟩ := g_9 hk
  subst g_10
  refine g_get hx hb hts hin_Ro hown hK f_6 rfl 0 (by decide) (hts _ wm223) (fun _ h9 => h9) rfl d_Mf_setHeight_1 ?_
  refine gs (pc' := 5) (fun _ _ _ _ _ hl => lv_iload_n hx hb d_Mf_setHeight_4 rfl (lv_at hl 2 rfl)) ?_
  obtain ⟨h_12, h_13, e_14, e_15, iv_16, iv_17⟩ := g_11 j (by omega)
  have rb_18 : rb (S.v (S.rp k j)) 100 := rb_of (hW.v _ (hW.rp k hk j (by omega)).1).1
  have rb_19 : rb (S.v (S.rh k j)) 100 := rb_of (hW.v _ (hW.rp k hk j (by omega)).2.1).1
  have wr_20 := hW.rp k hk j (by omega)
  have ub_21 := (hW.v _ wr_20.1).2
  have ub_21a := ub_21.1
  have ub_21b := ub_21.2
  have ub_22 := (hW.v _ wr_20.2.1).2
  have ub_22a := ub_22.1
  have ub_22b := ub_22.2
  refine g_aalS hx hb hK 2 f_7 rfl (by omega) (by decide) e_14 d_Mf_setHeight_5 ?_
  obtain ⟨hf_23, f_24, kq_25⟩ := id iv_16
  refine g_get hx hb hts hin_Va hown hK f_24 rfl 0 (by decide) (hts _ wm523) (fun _ h9 => h9) rfl d_Mf_setHeight_6 ?_
  refine gst (pc' := 11) (L' := [(4, .ref hf_23), (0, .ref a.x), (1, .ref (a.ro k)), (2, .int (nI j)), (3, .ref hf)]) (fun _ _ _ _ _ hl => lv_astore hx hb d_Mf_setHeight_9 hl (by decide) rfl) ?_
  refine gs (pc' := 12) (fun _ _ _ _ _ hl => lv_aload_n hx hb d_Mf_setHeight_11 rfl (lv_at hl 2 rfl)) ?_
  refine g_get hx hb hts hin_Ro hown hK f_6 rfl 1 (by decide) (hts _ wm225) (fun _ h9 => h9) rfl d_Mf_setHeight_12 ?_
  refine gs (pc' := 16) (fun _ _ _ _ _ hl => lv_iload_n hx hb d_Mf_setHeight_15 rfl (lv_at hl 3 rfl)) ?_
  obtain ⟨h_26, h_27, e_28, e_29, iv_30, iv_31⟩ := g_11 j (by omega)
  have wr_32 := hW.rp k hk j (by omega)
  have ub_33 := (hW.v _ wr_32.1).2
  have ub_33a := ub_33.1
  have ub_33b := ub_33.2
  have ub_34 := (hW.v _ wr_32.2.1).2
  have ub_34a := ub_34.1
  have ub_34b := ub_34.2
  refine g_aalS hx hb hK 2 f_8 rfl (by omega) (by decide) e_29 d_Mf_setHeight_16 ?_
  obtain ⟨hf_35, f_36, kq_37⟩ := id iv_31
  refine g_get hx hb hts hin_Va hown hK f_36 rfl 0 (by decide) (hts _ wm523) (fun _ h9 => h9) rfl d_Mf_setHeight_17 ?_
  refine gst (pc' := 22) (L' := [(5, .ref hf_35), (4, .ref hf_23), (0, .ref a.x), (1, .ref (a.ro k)), (2, .int (nI j)), (3, .ref hf)]) (fun _ _ _ _ _ hl => lv_astore hx hb d_Mf_setHeight_20 hl (by decide) rfl) ?_
  refine gs (pc' := 23) (fun _ _ _ _ _ hl => lv_iload_n hx hb d_Mf_setHeight_22 rfl (lv_at hl 4 rfl)) ?_
  refine gsb (pc1 := 39) (pc2 := 26) (fun _ _ _ _ _ => lv_if_eq (tgt := 39) hx hb d_Mf_setHeight_23 (by decide)) (fun c_38 => ?_) (fun c_38 => ?_)
  · skip
    have nc_38 : j = 0 := (n0_eq (a := j) (by omega)).1 c_38
    have hx0 : rr = S.v (S.rp k j) := by have z9 := nc_38; rw [z9]; exact hj0 z9
    refine gs (pc' := 40) (fun _ _ _ _ _ hl => lv_aload_n hx hb d_Mf_setHeight_39 rfl (lv_at hl 2 rfl)) ?_
    refine g_get hx hb hts hin_Mf hown hK hC.ob rfl 6 (by decide) (hts _ wm241) (fun _ h9 => h9) rfl d_Mf_setHeight_40 ?_
    refine gs (pc' := 45) (fun _ _ _ _ _ hl => lv_aload hx hb d_Mf_setHeight_43 (lv_at hl 0 rfl)) ?_
    obtain ⟨sg_39, f_40, g_41⟩ := hC.fr 0 (by decide)
    refine g_outv hlo (g_runV (As := [.ref hf_35]) (rest := []) ⟨hx, hb, hml, hown, hts⟩ hK hZ hRc hRs (c3_to l D cA lo MC MS G B X a S F V hC hX1 hX2 0 (by decide) hf_35 (S.v (S.rh k j)) (Or.inr kq_37) 100 rb_19 (by decide)) (fun _ _ => cwV 1 hts (tb_good (tb_cons wm696 (tb_cons wm514 (tb_cons wm515 (tb_cons wm8 k_Fr_setTo))))) rfl rfl rfl (by decide +kernel) ⟨by rw [hRf]; exact Nat.le_of_ble_eq_true rfl, by rw [hRl]; exact Nat.le_of_ble_eq_true rfl⟩) f_40 rfl bl_1 bl_2 rfl (Nat.le_of_ble_eq_true rfl) d_Mf_setHeight_45) (fun G_42 B_43 p_44 => ?_)
    obtain ⟨V_45, C_46, fr_47⟩ := p_44
    have iv_48 : isV cA G_42 h_12 (S.v (S.rp k j)) (S.un (S.rp k j)) := isV_24 iv_16 fr_47
    have iv_49 : isV cA G_42 h_13 (S.v (S.rh k j)) (S.un (S.rh k j)) := isV_24 iv_17 fr_47
    have iv_50 : isV cA G_42 h_26 (S.v (S.rp k j)) (S.un (S.rp k j)) := isV_24 iv_30 fr_47
    have iv_51 : isV cA G_42 h_27 (S.v (S.rh k j)) (S.un (S.rh k j)) := isV_24 iv_31 fr_47
    have kq_52 : kq cA G_42 hf rr := kq_24 hkq fr_47
    have kq_53 : kq cA G_42 hf_23 (S.v (S.rp k j)) := kq_24 kq_25 fr_47
    have kq_54 : kq cA G_42 hf_35 (S.v (S.rh k j)) := kq_24 kq_37 fr_47
    have fr_55 : gfr (fun x => x < 24) G G_42 := gfr_24 gfr_rf fr_47
    have f_56 : G_42 h_12 = some (30, .inr (6, [.ref hf_23, .int (iI (S.un (S.rp k j)))])) := fr_47 _ _ f_24 (show ¬ (30 : Nat) < 24 by decide)
    have f_57 : G_42 h_27 = some (30, .inr (6, [.ref hf_35, .int (iI (S.un (S.rh k j)))])) := fr_47 _ _ f_36 (show ¬ (30 : Nat) < 24 by decide)
    have bl_58 : B_43.1 ≤ MC := Nat.le_trans (w2_le C_46.w).1 hX1
    have bl_59 : B_43.2 ≤ MS := Nat.le_trans (w2_le C_46.w).2 hX2
    exact hret 48 _ _ _ d_Mf_setHeight_48 bl_58 bl_59 ⟨_, V_45, C_46, by show some _ = _; unfold hgt; rw [if_pos hx0], by unfold hgt; rw [if_pos hx0]; exact rb_up rb_19 (by decide), fr_55⟩
  · skip
    have nc_38 : j ≠ 0 := (n0_eq (a := j) (by omega)).2 c_38
    refine gs (pc' := 27) (fun _ _ _ _ _ hl => lv_aload_n hx hb d_Mf_setHeight_26 rfl (lv_at hl 2 rfl)) ?_
    refine g_get hx hb hts hin_Mf hown hK hC.ob rfl 5 (by decide) (hts _ wm240) (fun _ h9 => h9) rfl d_Mf_setHeight_27 ?_
    refine gs (pc' := 31) (fun _ _ _ _ _ hl => lv_aload_n hx hb d_Mf_setHeight_30 rfl (lv_at hl 5 rfl)) ?_
    refine gs (pc' := 33) (fun _ _ _ _ _ hl => lv_aload hx hb d_Mf_setHeight_31 (lv_at hl 1 rfl)) ?_
    refine g_outi hlo (g_runV (As := [.ref hf, .ref hf_23]) (rest := []) ⟨hx, hb, hml, hown, hts⟩ hK hZ hRc hRs (c3_cmp l D cA lo MC MS G B X a S F V hC hX1 hX2 hf hf_23 rr (S.v (S.rp k j)) (Or.inr hkq) (Or.inr kq_25) 100 100 hrb rb_18 (by decide)) (fun _ _ => cwV 2 hts (tb_good (tb_cons wm606 (tb_cons wm607 (tb_cons wm608 (tb_cons wm3 k_Ca_compare))))) rfl rfl rfl (by decide +kernel) ⟨by rw [hRf]; exact Nat.le_of_ble_eq_true rfl, by rw [hRl]; exact Nat.le_of_ble_eq_true rfl⟩) hC.ca rfl bl_1 bl_2 rfl (Nat.le_of_ble_eq_true rfl) d_Mf_setHeight_33) (fun r_63 G_60 B_61 p_62 => ?_)
    obtain ⟨e_64, p_65⟩ := p_62
    subst e_64
    obtain ⟨V_66, C_67, fr_68⟩ := p_65
    have iv_69 : isV cA G_60 h_12 (S.v (S.rp k j)) (S.un (S.rp k j)) := isV_24 iv_16 fr_68
    have iv_70 : isV cA G_60 h_13 (S.v (S.rh k j)) (S.un (S.rh k j)) := isV_24 iv_17 fr_68
    have iv_71 : isV cA G_60 h_26 (S.v (S.rp k j)) (S.un (S.rp k j)) := isV_24 iv_30 fr_68
    have iv_72 : isV cA G_60 h_27 (S.v (S.rh k j)) (S.un (S.rh k j)) := isV_24 iv_31 fr_68
    have kq_73 : kq cA G_60 hf rr := kq_24 hkq fr_68
    have kq_74 : kq cA G_60 hf_23 (S.v (S.rp k j)) := kq_24 kq_25 fr_68
    have kq_75 : kq cA G_60 hf_35 (S.v (S.rh k j)) := kq_24 kq_37 fr_68
    have fr_76 : gfr (fun x => x < 24) G G_60 := gfr_24 gfr_rf fr_68
    have f_77 : G_60 h_12 = some (30, .inr (6, [.ref hf_23, .int (iI (S.un (S.rp k j)))])) := fr_68 _ _ f_24 (show ¬ (30 : Nat) < 24 by decide)
    have f_78 : G_60 h_27 = some (30, .inr (6, [.ref hf_35, .int (iI (S.un (S.rh k j)))])) := fr_68 _ _ f_36 (show ¬ (30 : Nat) < 24 by decide)
    have bl_79 : B_61.1 ≤ MC := Nat.le_trans (w2_le C_67.w).1 hX1
    have bl_80 : B_61.2 ≤ MS := Nat.le_trans (w2_le C_67.w).2 hX2
    have bd_81 := rcmp_bd rr (S.v (S.rp k j))
    refine gsb (pc1 := 49) (pc2 := 39) (fun _ _ _ _ _ => lv_if_ne (tgt := 49) hx hb d_Mf_setHeight_36 (by decide)) (fun c_82 => ?_) (fun c_82 => ?_)
    · skip
      have nc_82 : (rcmp rr (S.v (S.rp k j))) ≠ 0 := (ii_ne (a := (rcmp rr (S.v (S.rp k j)))) (b := 0) (by omega) (by omega) (by omega) (by omega)).1 (by first | exact c_82 | (have z9 := c_82; simp only [nI_iI] at z9; exact z9))
      have hxn : ¬ rr = S.v (S.rp k j) := fun z9 => nc_82 (rcmp_0.mpr z9)
      refine gs (pc' := 50) (fun _ _ _ _ _ hl => lv_aload_n hx hb d_Mf_setHeight_49 rfl (lv_at hl 3 rfl)) ?_
      obtain ⟨rc_83, pf_84, hg_85, f_86, f_87, f_88, g_89⟩ := C_67.ro k (by omega)
      obtain ⟨g_90, g_91⟩ := g_89 hk
      subst g_90
      refine g_get hx hb hts hin_Ro hown hK f_86 rfl 0 (by decide) (hts _ wm223) (fun _ h9 => h9) rfl d_Mf_setHeight_50 ?_
      refine gs (pc' := 54) (fun _ _ _ _ _ hl => lv_iload_n hx hb d_Mf_setHeight_53 rfl (lv_at hl 4 rfl)) ?_
      refine gs (pc' := 55) (fun _ _ _ _ _ hl => lv_iconst (v := nI 1) hx hb d_Mf_setHeight_54 (by decide)) ?_
      refine gs (pc' := 56) (fun _ _ _ _ _ hl => lv_isub hx hb d_Mf_setHeight_55) ?_
      refine g_eqi (show (nI j) - (nI 1) = nI (j - 1) from pk_sub (by omega)) ?_
      obtain ⟨h_92, h_93, e_94, e_95, iv_96, iv_97⟩ := g_91 (j - 1) (by omega)
      have rb_98 : rb (S.v (S.rp k (j - 1))) 100 := rb_of (hW.v _ (hW.rp k hk (j - 1) (by omega)).1).1
      have rb_99 : rb (S.v (S.rh k (j - 1))) 100 := rb_of (hW.v _ (hW.rp k hk (j - 1) (by omega)).2.1).1
      have wr_100 := hW.rp k hk (j - 1) (by omega)
      have ub_101 := (hW.v _ wr_100.1).2
      have ub_101a := ub_101.1
      have ub_101b := ub_101.2
      have ub_102 := (hW.v _ wr_100.2.1).2
      have ub_102a := ub_102.1
      have ub_102b := ub_102.2
      refine g_aalS hx hb hK 2 f_87 rfl (by omega) (by decide) e_94 d_Mf_setHeight_56 ?_
      obtain ⟨hf_103, f_104, kq_105⟩ := id iv_96
      refine g_get hx hb hts hin_Va hown hK f_104 rfl 0 (by decide) (hts _ wm523) (fun _ h9 => h9) rfl d_Mf_setHeight_57 ?_
      refine gst (pc' := 62) (L' := [(6, .ref hf_103), (5, .ref hf_35), (4, .ref hf_23), (0, .ref a.x), (1, .ref (a.ro k)), (2, .int (nI j)), (3, .ref hf)]) (fun _ _ _ _ _ hl => lv_astore hx hb d_Mf_setHeight_60 hl (by decide) rfl) ?_
      refine gs (pc' := 63) (fun _ _ _ _ _ hl => lv_aload_n hx hb d_Mf_setHeight_62 rfl (lv_at hl 4 rfl)) ?_
      refine g_get hx hb hts hin_Ro hown hK f_86 rfl 1 (by decide) (hts _ wm225) (fun _ h9 => h9) rfl d_Mf_setHeight_63 ?_
      refine gs (pc' := 67) (fun _ _ _ _ _ hl => lv_iload_n hx hb d_Mf_setHeight_66 rfl (lv_at hl 5 rfl)) ?_
      refine gs (pc' := 68) (fun _ _ _ _ _ hl => lv_iconst (v := nI 1) hx hb d_Mf_setHeight_67 (by decide)) ?_
      refine gs (pc' := 69) (fun _ _ _ _ _ hl => lv_isub hx hb d_Mf_setHeight_68) ?_
      refine g_eqi (show (nI j) - (nI 1) = nI (j - 1) from pk_sub (by omega)) ?_
      obtain ⟨h_106, h_107, e_108, e_109, iv_110, iv_111⟩ := g_91 (j - 1) (by omega)
      have wr_112 := hW.rp k hk (j - 1) (by omega)
      have ub_113 := (hW.v _ wr_112.1).2
      have ub_113a := ub_113.1
      have ub_113b := ub_113.2
      have ub_114 := (hW.v _ wr_112.2.1).2
      have ub_114a := ub_114.1
      have ub_114b := ub_114.2
      refine g_aalS hx hb hK 2 f_88 rfl (by omega) (by decide) e_109 d_Mf_setHeight_69 ?_
      obtain ⟨hf_115, f_116, kq_117⟩ := id iv_111
      refine g_get hx hb hts hin_Va hown hK f_116 rfl 0 (by decide) (hts _ wm523) (fun _ h9 => h9) rfl d_Mf_setHeight_70 ?_
      refine gst (pc' := 75) (L' := [(7, .ref hf_115), (6, .ref hf_103), (5, .ref hf_35), (4, .ref hf_23), (0, .ref a.x), (1, .ref (a.ro k)), (2, .int (nI j)), (3, .ref hf)]) (fun _ _ _ _ _ hl => lv_astore hx hb d_Mf_setHeight_73 hl (by decide) rfl) ?_
      refine gs (pc' := 76) (fun _ _ _ _ _ hl => lv_aload_n hx hb d_Mf_setHeight_75 rfl (lv_at hl 4 rfl)) ?_
      refine g_get hx hb hts hin_Mf hown hK C_67.ob rfl 5 (by decide) (hts _ wm240) (fun _ h9 => h9) rfl d_Mf_setHeight_76 ?_
      refine gs (pc' := 80) (fun _ _ _ _ _ hl => lv_aload_n hx hb d_Mf_setHeight_79 rfl (lv_at hl 4 rfl)) ?_
      refine g_get hx hb hts hin_Mf hown hK C_67.ob rfl 6 (by decide) (hts _ wm241) (fun _ h9 => h9) rfl d_Mf_setHeight_80 ?_
      refine gs (pc' := 84) (fun _ _ _ _ _ hl => lv_aload_n hx hb d_Mf_setHeight_83 rfl (lv_at hl 7 rfl)) ?_
      refine gs (pc' := 86) (fun _ _ _ _ _ hl => lv_aload hx hb d_Mf_setHeight_84 (lv_at hl 1 rfl)) ?_
      refine gs (pc' := 87) (fun _ _ _ _ _ hl => lv_iconst (v := nI 1) hx hb d_Mf_setHeight_86 (by decide)) ?_
      refine g_outv hlo (g_runV (As := [.ref (a.fr 0), .ref hf, .ref hf_103, .int (nI 1)]) (rest := []) ⟨hx, hb, hml, hown, hts⟩ hK hZ hRc hRs (c3_sub l D cA lo MC MS G_60 B_61 X a S F V_66 C_67 hX1 hX2 0 (by decide) hf hf_103 rr (S.v (S.rp k (j - 1))) (Or.inr kq_73) (Or.inr kq_105) 100 100 hrb rb_98 (by decide)) (fun _ _ => cwV 4 hts (tb_good (tb_cons wm559 (tb_cons wm560 (tb_cons wm561 (tb_cons wm3 k_Ca_setSum))))) rfl rfl rfl (by decide +kernel) ⟨by rw [hRf]; exact Nat.le_of_ble_eq_true rfl, by rw [hRl]; exact Nat.le_of_ble_eq_true rfl⟩) C_67.ca rfl bl_79 bl_80 rfl (Nat.le_of_ble_eq_true rfl) d_Mf_setHeight_87) (fun G_118 B_119 p_120 => ?_)
      obtain ⟨V_121, C_122, fr_123⟩ := p_120
      have iv_124 : isV cA G_118 h_12 (S.v (S.rp k j)) (S.un (S.rp k j)) := isV_24 iv_69 fr_123
      have iv_125 : isV cA G_118 h_13 (S.v (S.rh k j)) (S.un (S.rh k j)) := isV_24 iv_70 fr_123
      have iv_126 : isV cA G_118 h_26 (S.v (S.rp k j)) (S.un (S.rp k j)) := isV_24 iv_71 fr_123
      have iv_127 : isV cA G_118 h_27 (S.v (S.rh k j)) (S.un (S.rh k j)) := isV_24 iv_72 fr_123
      have iv_128 : isV cA G_118 h_92 (S.v (S.rp k (j - 1))) (S.un (S.rp k (j - 1))) := isV_24 iv_96 fr_123
      have iv_129 : isV cA G_118 h_93 (S.v (S.rh k (j - 1))) (S.un (S.rh k (j - 1))) := isV_24 iv_97 fr_123
      have iv_130 : isV cA G_118 h_106 (S.v (S.rp k (j - 1))) (S.un (S.rp k (j - 1))) := isV_24 iv_110 fr_123
      have iv_131 : isV cA G_118 h_107 (S.v (S.rh k (j - 1))) (S.un (S.rh k (j - 1))) := isV_24 iv_111 fr_123
      have kq_132 : kq cA G_118 hf rr := kq_24 kq_73 fr_123
      have kq_133 : kq cA G_118 hf_23 (S.v (S.rp k j)) := kq_24 kq_74 fr_123
      have kq_134 : kq cA G_118 hf_35 (S.v (S.rh k j)) := kq_24 kq_75 fr_123
      have kq_135 : kq cA G_118 hf_103 (S.v (S.rp k (j - 1))) := kq_24 kq_105 fr_123
      have kq_136 : kq cA G_118 hf_115 (S.v (S.rh k (j - 1))) := kq_24 kq_117 fr_123
      have fr_137 : gfr (fun x => x < 24) G G_118 := gfr_24 fr_76 fr_123
      have f_138 : G_118 h_12 = some (30, .inr (6, [.ref hf_23, .int (iI (S.un (S.rp k j)))])) := fr_123 _ _ f_77 (show ¬ (30 : Nat) < 24 by decide)
      have f_139 : G_118 h_27 = some (30, .inr (6, [.ref hf_35, .int (iI (S.un (S.rh k j)))])) := fr_123 _ _ f_78 (show ¬ (30 : Nat) < 24 by decide)
      have f_140 : G_118 h_92 = some (30, .inr (6, [.ref hf_103, .int (iI (S.un (S.rp k (j - 1))))])) := fr_123 _ _ f_104 (show ¬ (30 : Nat) < 24 by decide)
      have f_141 : G_118 h_107 = some (30, .inr (6, [.ref hf_115, .int (iI (S.un (S.rh k (j - 1))))])) := fr_123 _ _ f_116 (show ¬ (30 : Nat) < 24 by decide)
      have rb_142 : rb (rr - (S.v (S.rp k (j - 1)))) 201 := rb_sub hrb rb_98
      have bl_143 : B_119.1 ≤ MC := Nat.le_trans (w2_le C_122.w).1 hX1
      have bl_144 : B_119.2 ≤ MS := Nat.le_trans (w2_le C_122.w).2 hX2
      refine gs (pc' := 91) (fun _ _ _ _ _ hl => lv_aload_n hx hb d_Mf_setHeight_90 rfl (lv_at hl 4 rfl)) ?_
      refine g_get hx hb hts hin_Mf hown hK C_122.ob rfl 5 (by decide) (hts _ wm240) (fun _ h9 => h9) rfl d_Mf_setHeight_91 ?_
      refine gs (pc' := 95) (fun _ _ _ _ _ hl => lv_aload_n hx hb d_Mf_setHeight_94 rfl (lv_at hl 4 rfl)) ?_
      refine g_get hx hb hts hin_Mf hown hK C_122.ob rfl 7 (by decide) (hts _ wm242) (fun _ h9 => h9) rfl d_Mf_setHeight_95 ?_
      refine gs (pc' := 100) (fun _ _ _ _ _ hl => lv_aload hx hb d_Mf_setHeight_98 (lv_at hl 3 rfl)) ?_
      refine gs (pc' := 102) (fun _ _ _ _ _ hl => lv_aload hx hb d_Mf_setHeight_100 (lv_at hl 1 rfl)) ?_
      refine gs (pc' := 103) (fun _ _ _ _ _ hl => lv_iconst (v := nI 1) hx hb d_Mf_setHeight_102 (by decide)) ?_
      refine g_outv hlo (g_runV (As := [.ref (a.fr 1), .ref hf_23, .ref hf_103, .int (nI 1)]) (rest := []) ⟨hx, hb, hml, hown, hts⟩ hK hZ hRc hRs (c3_sub l D cA lo MC MS G_118 B_119 X a S (fup F 0 (some (rr - (S.v (S.rp k (j - 1)))))) V_121 C_122 hX1 hX2 1 (by decide) hf_23 hf_103 (S.v (S.rp k j)) (S.v (S.rp k (j - 1))) (Or.inr kq_133) (Or.inr kq_135) 100 100 rb_18 rb_98 (by decide)) (fun _ _ => cwV 4 hts (tb_good (tb_cons wm559 (tb_cons wm560 (tb_cons wm561 (tb_cons wm3 k_Ca_setSum))))) rfl rfl rfl (by decide +kernel) ⟨by rw [hRf]; exact Nat.le_of_ble_eq_true rfl, by rw [hRl]; exact Nat.le_of_ble_eq_true rfl⟩) C_122.ca rfl bl_143 bl_144 rfl (Nat.le_of_ble_eq_true rfl) d_Mf_setHeight_103) (fun G_145 B_146 p_147 => ?_)
      obtain ⟨V_148, C_149, fr_150⟩ := p_147
      have iv_151 : isV cA G_145 h_12 (S.v (S.rp k j)) (S.un (S.rp k j)) := isV_24 iv_124 fr_150
      have iv_152 : isV cA G_145 h_13 (S.v (S.rh k j)) (S.un (S.rh k j)) := isV_24 iv_125 fr_150
      have iv_153 : isV cA G_145 h_26 (S.v (S.rp k j)) (S.un (S.rp k j)) := isV_24 iv_126 fr_150
      have iv_154 : isV cA G_145 h_27 (S.v (S.rh k j)) (S.un (S.rh k j)) := isV_24 iv_127 fr_150
      have iv_155 : isV cA G_145 h_92 (S.v (S.rp k (j - 1))) (S.un (S.rp k (j - 1))) := isV_24 iv_128 fr_150
      have iv_156 : isV cA G_145 h_93 (S.v (S.rh k (j - 1))) (S.un (S.rh k (j - 1))) := isV_24 iv_129 fr_150
      have iv_157 : isV cA G_145 h_106 (S.v (S.rp k (j - 1))) (S.un (S.rp k (j - 1))) := isV_24 iv_130 fr_150
      have iv_158 : isV cA G_145 h_107 (S.v (S.rh k (j - 1))) (S.un (S.rh k (j - 1))) := isV_24 iv_131 fr_150
      have kq_159 : kq cA G_145 hf rr := kq_24 kq_132 fr_150
      have kq_160 : kq cA G_145 hf_23 (S.v (S.rp k j)) := kq_24 kq_133 fr_150
      have kq_161 : kq cA G_145 hf_35 (S.v (S.rh k j)) := kq_24 kq_134 fr_150
      have kq_162 : kq cA G_145 hf_103 (S.v (S.rp k (j - 1))) := kq_24 kq_135 fr_150
      have kq_163 : kq cA G_145 hf_115 (S.v (S.rh k (j - 1))) := kq_24 kq_136 fr_150
      have fr_164 : gfr (fun x => x < 24) G G_145 := gfr_24 fr_137 fr_150
      have f_165 : G_145 h_12 = some (30, .inr (6, [.ref hf_23, .int (iI (S.un (S.rp k j)))])) := fr_150 _ _ f_138 (show ¬ (30 : Nat) < 24 by decide)
      have f_166 : G_145 h_27 = some (30, .inr (6, [.ref hf_35, .int (iI (S.un (S.rh k j)))])) := fr_150 _ _ f_139 (show ¬ (30 : Nat) < 24 by decide)
      have f_167 : G_145 h_92 = some (30, .inr (6, [.ref hf_103, .int (iI (S.un (S.rp k (j - 1))))])) := fr_150 _ _ f_140 (show ¬ (30 : Nat) < 24 by decide)
      have f_168 : G_145 h_107 = some (30, .inr (6, [.ref hf_115, .int (iI (S.un (S.rh k (j - 1))))])) := fr_150 _ _ f_141 (show ¬ (30 : Nat) < 24 by decide)
      have rb_169 : rb ((S.v (S.rp k j)) - (S.v (S.rp k (j - 1)))) 201 := rb_sub rb_18 rb_98
      have bl_170 : B_146.1 ≤ MC := Nat.le_trans (w2_le C_149.w).1 hX1
      have bl_171 : B_146.2 ≤ MS := Nat.le_trans (w2_le C_149.w).2 hX2
      refine gs (pc' := 107) (fun _ _ _ _ _ hl => lv_aload_n hx hb d_Mf_setHeight_106 rfl (lv_at hl 4 rfl)) ?_
      refine g_get hx hb hts hin_Mf hown hK C_149.ob rfl 5 (by decide) (hts _ wm240) (fun _ h9 => h9) rfl d_Mf_setHeight_107 ?_
      refine gs (pc' := 111) (fun _ _ _ _ _ hl => lv_aload_n hx hb d_Mf_setHeight_110 rfl (lv_at hl 4 rfl)) ?_
      refine g_get hx hb hts hin_Mf hown hK C_149.ob rfl 8 (by decide) (hts _ wm243) (fun _ h9 => h9) rfl d_Mf_setHeight_111 ?_
      refine gs (pc' := 115) (fun _ _ _ _ _ hl => lv_aload_n hx hb d_Mf_setHeight_114 rfl (lv_at hl 4 rfl)) ?_
      refine g_get hx hb hts hin_Mf hown hK C_149.ob rfl 6 (by decide) (hts _ wm241) (fun _ h9 => h9) rfl d_Mf_setHeight_115 ?_
      refine gs (pc' := 119) (fun _ _ _ _ _ hl => lv_aload_n hx hb d_Mf_setHeight_118 rfl (lv_at hl 4 rfl)) ?_
      refine g_get hx hb hts hin_Mf hown hK C_149.ob rfl 7 (by decide) (hts _ wm242) (fun _ h9 => h9) rfl d_Mf_setHeight_119 ?_
      refine gs (pc' := 123) (fun _ _ _ _ _ hl => lv_iconst (v := nI 1) hx hb d_Mf_setHeight_122 (by decide)) ?_
      refine g_outv hlo (g_runV (As := [.ref (a.fr 2), .ref (a.fr 0), .ref (a.fr 1), .int (nI 1)]) (rest := []) ⟨hx, hb, hml, hown, hts⟩ hK hZ hRc hRs (c3_div l D cA lo MC MS G_145 B_146 X a S (fup (fup F 0 (some (rr - (S.v (S.rp k (j - 1)))))) 1 (some ((S.v (S.rp k j)) - (S.v (S.rp k (j - 1)))))) V_148 C_149 hX1 hX2 2 (by decide) (a.fr 0) (a.fr 1) (rr - (S.v (S.rp k (j - 1)))) ((S.v (S.rp k j)) - (S.v (S.rp k (j - 1)))) (Or.inl ⟨0, by decide, by decide, rfl, rfl⟩) (Or.inl ⟨1, by decide, by decide, rfl, rfl⟩) 201 201 rb_142 rb_169 (by decide) (fun z9 => by have h9 := hW.up k hk (j - 1) (by omega); rw [show j - 1 + 1 = j by omega] at h9; have h8 := Rat.num_eq_zero.mp z9; exact absurd h9 (by rw [sub_z h8]; exact Rat.lt_irrefl))) (fun _ _ => cwV 4 hts (tb_good (tb_cons wm588 (tb_cons wm589 (tb_cons wm590 (tb_cons wm3 k_Ca_setProduct))))) rfl rfl rfl (by decide +kernel) ⟨by rw [hRf]; exact Nat.le_of_ble_eq_true rfl, by rw [hRl]; exact Nat.le_of_ble_eq_true rfl⟩) C_149.ca rfl bl_170 bl_171 rfl (Nat.le_of_ble_eq_true rfl) d_Mf_setHeight_123) (fun G_172 B_173 p_174 => ?_)
      obtain ⟨V_175, C_176, fr_177⟩ := p_174
      have iv_178 : isV cA G_172 h_12 (S.v (S.rp k j)) (S.un (S.rp k j)) := isV_24 iv_151 fr_177
      have iv_179 : isV cA G_172 h_13 (S.v (S.rh k j)) (S.un (S.rh k j)) := isV_24 iv_152 fr_177
      have iv_180 : isV cA G_172 h_26 (S.v (S.rp k j)) (S.un (S.rp k j)) := isV_24 iv_153 fr_177
      have iv_181 : isV cA G_172 h_27 (S.v (S.rh k j)) (S.un (S.rh k j)) := isV_24 iv_154 fr_177
      have iv_182 : isV cA G_172 h_92 (S.v (S.rp k (j - 1))) (S.un (S.rp k (j - 1))) := isV_24 iv_155 fr_177
      have iv_183 : isV cA G_172 h_93 (S.v (S.rh k (j - 1))) (S.un (S.rh k (j - 1))) := isV_24 iv_156 fr_177
      have iv_184 : isV cA G_172 h_106 (S.v (S.rp k (j - 1))) (S.un (S.rp k (j - 1))) := isV_24 iv_157 fr_177
      have iv_185 : isV cA G_172 h_107 (S.v (S.rh k (j - 1))) (S.un (S.rh k (j - 1))) := isV_24 iv_158 fr_177
      have kq_186 : kq cA G_172 hf rr := kq_24 kq_159 fr_177
      have kq_187 : kq cA G_172 hf_23 (S.v (S.rp k j)) := kq_24 kq_160 fr_177
      have kq_188 : kq cA G_172 hf_35 (S.v (S.rh k j)) := kq_24 kq_161 fr_177
      have kq_189 : kq cA G_172 hf_103 (S.v (S.rp k (j - 1))) := kq_24 kq_162 fr_177
      have kq_190 : kq cA G_172 hf_115 (S.v (S.rh k (j - 1))) := kq_24 kq_163 fr_177
      have fr_191 : gfr (fun x => x < 24) G G_172 := gfr_24 fr_164 fr_177
      have f_192 : G_172 h_12 = some (30, .inr (6, [.ref hf_23, .int (iI (S.un (S.rp k j)))])) := fr_177 _ _ f_165 (show ¬ (30 : Nat) < 24 by decide)
      have f_193 : G_172 h_27 = some (30, .inr (6, [.ref hf_35, .int (iI (S.un (S.rh k j)))])) := fr_177 _ _ f_166 (show ¬ (30 : Nat) < 24 by decide)
      have f_194 : G_172 h_92 = some (30, .inr (6, [.ref hf_103, .int (iI (S.un (S.rp k (j - 1))))])) := fr_177 _ _ f_167 (show ¬ (30 : Nat) < 24 by decide)
      have f_195 : G_172 h_107 = some (30, .inr (6, [.ref hf_115, .int (iI (S.un (S.rh k (j - 1))))])) := fr_177 _ _ f_168 (show ¬ (30 : Nat) < 24 by decide)
      have rb_196 : rb ((rr - (S.v (S.rp k (j - 1)))) / ((S.v (S.rp k j)) - (S.v (S.rp k (j - 1))))) 402 := rb_div rb_142 rb_169 (fun z9 => by have h9 := hW.up k hk (j - 1) (by omega); rw [show j - 1 + 1 = j by omega] at h9; have h8 := Rat.num_eq_zero.mp z9; exact absurd h9 (by rw [sub_z h8]; exact Rat.lt_irrefl))
      have bl_197 : B_173.1 ≤ MC := Nat.le_trans (w2_le C_176.w).1 hX1
      have bl_198 : B_173.2 ≤ MS := Nat.le_trans (w2_le C_176.w).2 hX2
      refine gs (pc' := 127) (fun _ _ _ _ _ hl => lv_aload_n hx hb d_Mf_setHeight_126 rfl (lv_at hl 4 rfl)) ?_
      refine g_get hx hb hts hin_Mf hown hK C_176.ob rfl 5 (by decide) (hts _ wm240) (fun _ h9 => h9) rfl d_Mf_setHeight_127 ?_
      refine gs (pc' := 131) (fun _ _ _ _ _ hl => lv_aload_n hx hb d_Mf_setHeight_130 rfl (lv_at hl 4 rfl)) ?_
      refine g_get hx hb hts hin_Mf hown hK C_176.ob rfl 6 (by decide) (hts _ wm241) (fun _ h9 => h9) rfl d_Mf_setHeight_131 ?_
      refine gs (pc' := 136) (fun _ _ _ _ _ hl => lv_aload hx hb d_Mf_setHeight_134 (lv_at hl 2 rfl)) ?_
      refine gs (pc' := 138) (fun _ _ _ _ _ hl => lv_aload hx hb d_Mf_setHeight_136 (lv_at hl 0 rfl)) ?_
      refine gs (pc' := 139) (fun _ _ _ _ _ hl => lv_iconst (v := nI 1) hx hb d_Mf_setHeight_138 (by decide)) ?_
      refine g_outv hlo (g_runV (As := [.ref (a.fr 0), .ref hf_35, .ref hf_115, .int (nI 1)]) (rest := []) ⟨hx, hb, hml, hown, hts⟩ hK hZ hRc hRs (c3_sub l D cA lo MC MS G_172 B_173 X a S (fup (fup (fup F 0 (some (rr - (S.v (S.rp k (j - 1)))))) 1 (some ((S.v (S.rp k j)) - (S.v (S.rp k (j - 1)))))) 2 (some ((rr - (S.v (S.rp k (j - 1)))) / ((S.v (S.rp k j)) - (S.v (S.rp k (j - 1))))))) V_175 C_176 hX1 hX2 0 (by decide) hf_35 hf_115 (S.v (S.rh k j)) (S.v (S.rh k (j - 1))) (Or.inr kq_188) (Or.inr kq_190) 100 100 rb_19 rb_99 (by decide)) (fun _ _ => cwV 4 hts (tb_good (tb_cons wm559 (tb_cons wm560 (tb_cons wm561 (tb_cons wm3 k_Ca_setSum))))) rfl rfl rfl (by decide +kernel) ⟨by rw [hRf]; exact Nat.le_of_ble_eq_true rfl, by rw [hRl]; exact Nat.le_of_ble_eq_true rfl⟩) C_176.ca rfl bl_197 bl_198 rfl (Nat.le_of_ble_eq_true rfl) d_Mf_setHeight_139) (fun G_199 B_200 p_201 => ?_)
      obtain ⟨V_202, C_203, fr_204⟩ := p_201
      have iv_205 : isV cA G_199 h_12 (S.v (S.rp k j)) (S.un (S.rp k j)) := isV_24 iv_178 fr_204
      have iv_206 : isV cA G_199 h_13 (S.v (S.rh k j)) (S.un (S.rh k j)) := isV_24 iv_179 fr_204
      have iv_207 : isV cA G_199 h_26 (S.v (S.rp k j)) (S.un (S.rp k j)) := isV_24 iv_180 fr_204
      have iv_208 : isV cA G_199 h_27 (S.v (S.rh k j)) (S.un (S.rh k j)) := isV_24 iv_181 fr_204
      have iv_209 : isV cA G_199 h_92 (S.v (S.rp k (j - 1))) (S.un (S.rp k (j - 1))) := isV_24 iv_182 fr_204
      have iv_210 : isV cA G_199 h_93 (S.v (S.rh k (j - 1))) (S.un (S.rh k (j - 1))) := isV_24 iv_183 fr_204
      have iv_211 : isV cA G_199 h_106 (S.v (S.rp k (j - 1))) (S.un (S.rp k (j - 1))) := isV_24 iv_184 fr_204
      have iv_212 : isV cA G_199 h_107 (S.v (S.rh k (j - 1))) (S.un (S.rh k (j - 1))) := isV_24 iv_185 fr_204
      have kq_213 : kq cA G_199 hf rr := kq_24 kq_186 fr_204
      have kq_214 : kq cA G_199 hf_23 (S.v (S.rp k j)) := kq_24 kq_187 fr_204
      have kq_215 : kq cA G_199 hf_35 (S.v (S.rh k j)) := kq_24 kq_188 fr_204
      have kq_216 : kq cA G_199 hf_103 (S.v (S.rp k (j - 1))) := kq_24 kq_189 fr_204
      have kq_217 : kq cA G_199 hf_115 (S.v (S.rh k (j - 1))) := kq_24 kq_190 fr_204
      have fr_218 : gfr (fun x => x < 24) G G_199 := gfr_24 fr_191 fr_204
      have f_219 : G_199 h_12 = some (30, .inr (6, [.ref hf_23, .int (iI (S.un (S.rp k j)))])) := fr_204 _ _ f_192 (show ¬ (30 : Nat) < 24 by decide)
      have f_220 : G_199 h_27 = some (30, .inr (6, [.ref hf_35, .int (iI (S.un (S.rh k j)))])) := fr_204 _ _ f_193 (show ¬ (30 : Nat) < 24 by decide)
      have f_221 : G_199 h_92 = some (30, .inr (6, [.ref hf_103, .int (iI (S.un (S.rp k (j - 1))))])) := fr_204 _ _ f_194 (show ¬ (30 : Nat) < 24 by decide)
      have f_222 : G_199 h_107 = some (30, .inr (6, [.ref hf_115, .int (iI (S.un (S.rh k (j - 1))))])) := fr_204 _ _ f_195 (show ¬ (30 : Nat) < 24 by decide)
      have rb_223 : rb ((S.v (S.rh k j)) - (S.v (S.rh k (j - 1)))) 201 := rb_sub rb_19 rb_99
      have bl_224 : B_200.1 ≤ MC := Nat.le_trans (w2_le C_203.w).1 hX1
      have bl_225 : B_200.2 ≤ MS := Nat.le_trans (w2_le C_203.w).2 hX2
      refine gs (pc' := 143) (fun _ _ _ _ _ hl => lv_aload_n hx hb d_Mf_setHeight_142 rfl (lv_at hl 4 rfl)) ?_
      refine g_get hx hb hts hin_Mf hown hK C_203.ob rfl 5 (by decide) (hts _ wm240) (fun _ h9 => h9) rfl d_Mf_setHeight_143 ?_
      refine gs (pc' := 147) (fun _ _ _ _ _ hl => lv_aload_n hx hb d_Mf_setHeight_146 rfl (lv_at hl 4 rfl)) ?_
      refine g_get hx hb hts hin_Mf hown hK C_203.ob rfl 7 (by decide) (hts _ wm242) (fun _ h9 => h9) rfl d_Mf_setHeight_147 ?_
      refine gs (pc' := 151) (fun _ _ _ _ _ hl => lv_aload_n hx hb d_Mf_setHeight_150 rfl (lv_at hl 4 rfl)) ?_
      refine g_get hx hb hts hin_Mf hown hK C_203.ob rfl 6 (by decide) (hts _ wm241) (fun _ h9 => h9) rfl d_Mf_setHeight_151 ?_
      refine gs (pc' := 155) (fun _ _ _ _ _ hl => lv_aload_n hx hb d_Mf_setHeight_154 rfl (lv_at hl 4 rfl)) ?_
      refine g_get hx hb hts hin_Mf hown hK C_203.ob rfl 8 (by decide) (hts _ wm243) (fun _ h9 => h9) rfl d_Mf_setHeight_155 ?_
      refine gs (pc' := 159) (fun _ _ _ _ _ hl => lv_iconst (v := nI 0) hx hb d_Mf_setHeight_158 (by decide)) ?_
      refine g_outv hlo (g_runV (As := [.ref (a.fr 1), .ref (a.fr 0), .ref (a.fr 2), .int (nI 0)]) (rest := []) ⟨hx, hb, hml, hown, hts⟩ hK hZ hRc hRs (c3_mul l D cA lo MC MS G_199 B_200 X a S (fup (fup (fup (fup F 0 (some (rr - (S.v (S.rp k (j - 1)))))) 1 (some ((S.v (S.rp k j)) - (S.v (S.rp k (j - 1)))))) 2 (some ((rr - (S.v (S.rp k (j - 1)))) / ((S.v (S.rp k j)) - (S.v (S.rp k (j - 1))))))) 0 (some ((S.v (S.rh k j)) - (S.v (S.rh k (j - 1)))))) V_202 C_203 hX1 hX2 1 (by decide) (a.fr 0) (a.fr 2) ((S.v (S.rh k j)) - (S.v (S.rh k (j - 1)))) ((rr - (S.v (S.rp k (j - 1)))) / ((S.v (S.rp k j)) - (S.v (S.rp k (j - 1))))) (Or.inl ⟨0, by decide, by decide, rfl, rfl⟩) (Or.inl ⟨2, by decide, by decide, rfl, rfl⟩) 201 402 rb_223 rb_196 (by decide)) (fun _ _ => cwV 4 hts (tb_good (tb_cons wm588 (tb_cons wm589 (tb_cons wm590 (tb_cons wm3 k_Ca_setProduct))))) rfl rfl rfl (by decide +kernel) ⟨by rw [hRf]; exact Nat.le_of_ble_eq_true rfl, by rw [hRl]; exact Nat.le_of_ble_eq_true rfl⟩) C_203.ca rfl bl_224 bl_225 rfl (Nat.le_of_ble_eq_true rfl) d_Mf_setHeight_159) (fun G_226 B_227 p_228 => ?_)
      obtain ⟨V_229, C_230, fr_231⟩ := p_228
      have iv_232 : isV cA G_226 h_12 (S.v (S.rp k j)) (S.un (S.rp k j)) := isV_24 iv_205 fr_231
      have iv_233 : isV cA G_226 h_13 (S.v (S.rh k j)) (S.un (S.rh k j)) := isV_24 iv_206 fr_231
      have iv_234 : isV cA G_226 h_26 (S.v (S.rp k j)) (S.un (S.rp k j)) := isV_24 iv_207 fr_231
      have iv_235 : isV cA G_226 h_27 (S.v (S.rh k j)) (S.un (S.rh k j)) := isV_24 iv_208 fr_231
      have iv_236 : isV cA G_226 h_92 (S.v (S.rp k (j - 1))) (S.un (S.rp k (j - 1))) := isV_24 iv_209 fr_231
      have iv_237 : isV cA G_226 h_93 (S.v (S.rh k (j - 1))) (S.un (S.rh k (j - 1))) := isV_24 iv_210 fr_231
      have iv_238 : isV cA G_226 h_106 (S.v (S.rp k (j - 1))) (S.un (S.rp k (j - 1))) := isV_24 iv_211 fr_231
      have iv_239 : isV cA G_226 h_107 (S.v (S.rh k (j - 1))) (S.un (S.rh k (j - 1))) := isV_24 iv_212 fr_231
      have kq_240 : kq cA G_226 hf rr := kq_24 kq_213 fr_231
      have kq_241 : kq cA G_226 hf_23 (S.v (S.rp k j)) := kq_24 kq_214 fr_231
      have kq_242 : kq cA G_226 hf_35 (S.v (S.rh k j)) := kq_24 kq_215 fr_231
      have kq_243 : kq cA G_226 hf_103 (S.v (S.rp k (j - 1))) := kq_24 kq_216 fr_231
      have kq_244 : kq cA G_226 hf_115 (S.v (S.rh k (j - 1))) := kq_24 kq_217 fr_231
      have fr_245 : gfr (fun x => x < 24) G G_226 := gfr_24 fr_218 fr_231
      have f_246 : G_226 h_12 = some (30, .inr (6, [.ref hf_23, .int (iI (S.un (S.rp k j)))])) := fr_231 _ _ f_219 (show ¬ (30 : Nat) < 24 by decide)
      have f_247 : G_226 h_27 = some (30, .inr (6, [.ref hf_35, .int (iI (S.un (S.rh k j)))])) := fr_231 _ _ f_220 (show ¬ (30 : Nat) < 24 by decide)
      have f_248 : G_226 h_92 = some (30, .inr (6, [.ref hf_103, .int (iI (S.un (S.rp k (j - 1))))])) := fr_231 _ _ f_221 (show ¬ (30 : Nat) < 24 by decide)
      have f_249 : G_226 h_107 = some (30, .inr (6, [.ref hf_115, .int (iI (S.un (S.rh k (j - 1))))])) := fr_231 _ _ f_222 (show ¬ (30 : Nat) < 24 by decide)
      have rb_250 : rb (((S.v (S.rh k j)) - (S.v (S.rh k (j - 1)))) * ((rr - (S.v (S.rp k (j - 1)))) / ((S.v (S.rp k j)) - (S.v (S.rp k (j - 1)))))) 603 := rb_mul rb_223 rb_196
      have bl_251 : B_227.1 ≤ MC := Nat.le_trans (w2_le C_230.w).1 hX1
      have bl_252 : B_227.2 ≤ MS := Nat.le_trans (w2_le C_230.w).2 hX2
      refine gs (pc' := 163) (fun _ _ _ _ _ hl => lv_aload_n hx hb d_Mf_setHeight_162 rfl (lv_at hl 4 rfl)) ?_
      refine g_get hx hb hts hin_Mf hown hK C_230.ob rfl 5 (by decide) (hts _ wm240) (fun _ h9 => h9) rfl d_Mf_setHeight_163 ?_
      refine gs (pc' := 167) (fun _ _ _ _ _ hl => lv_aload_n hx hb d_Mf_setHeight_166 rfl (lv_at hl 4 rfl)) ?_
      refine g_get hx hb hts hin_Mf hown hK C_230.ob rfl 6 (by decide) (hts _ wm241) (fun _ h9 => h9) rfl d_Mf_setHeight_167 ?_
      refine gs (pc' := 172) (fun _ _ _ _ _ hl => lv_aload hx hb d_Mf_setHeight_170 (lv_at hl 0 rfl)) ?_
      refine gs (pc' := 173) (fun _ _ _ _ _ hl => lv_aload_n hx hb d_Mf_setHeight_172 rfl (lv_at hl 4 rfl)) ?_
      refine g_get hx hb hts hin_Mf hown hK C_230.ob rfl 7 (by decide) (hts _ wm242) (fun _ h9 => h9) rfl d_Mf_setHeight_173 ?_
      refine gs (pc' := 177) (fun _ _ _ _ _ hl => lv_iconst (v := nI 0) hx hb d_Mf_setHeight_176 (by decide)) ?_
      refine g_outv hlo (g_runV (As := [.ref (a.fr 0), .ref hf_115, .ref (a.fr 1), .int (nI 0)]) (rest := []) ⟨hx, hb, hml, hown, hts⟩ hK hZ hRc hRs (c3_add l D cA lo MC MS G_226 B_227 X a S (fup (fup (fup (fup (fup F 0 (some (rr - (S.v (S.rp k (j - 1)))))) 1 (some ((S.v (S.rp k j)) - (S.v (S.rp k (j - 1)))))) 2 (some ((rr - (S.v (S.rp k (j - 1)))) / ((S.v (S.rp k j)) - (S.v (S.rp k (j - 1))))))) 0 (some ((S.v (S.rh k j)) - (S.v (S.rh k (j - 1)))))) 1 (some (((S.v (S.rh k j)) - (S.v (S.rh k (j - 1)))) * ((rr - (S.v (S.rp k (j - 1)))) / ((S.v (S.rp k j)) - (S.v (S.rp k (j - 1)))))))) V_229 C_230 hX1 hX2 0 (by decide) hf_115 (a.fr 1) (S.v (S.rh k (j - 1))) (((S.v (S.rh k j)) - (S.v (S.rh k (j - 1)))) * ((rr - (S.v (S.rp k (j - 1)))) / ((S.v (S.rp k j)) - (S.v (S.rp k (j - 1)))))) (Or.inr kq_244) (Or.inl ⟨1, by decide, by decide, rfl, rfl⟩) 100 603 rb_99 rb_250 (by decide)) (fun _ _ => cwV 4 hts (tb_good (tb_cons wm559 (tb_cons wm560 (tb_cons wm561 (tb_cons wm3 k_Ca_setSum))))) rfl rfl rfl (by decide +kernel) ⟨by rw [hRf]; exact Nat.le_of_ble_eq_true rfl, by rw [hRl]; exact Nat.le_of_ble_eq_true rfl⟩) C_230.ca rfl bl_251 bl_252 rfl (Nat.le_of_ble_eq_true rfl) d_Mf_setHeight_177) (fun G_253 B_254 p_255 => ?_)
      obtain ⟨V_256, C_257, fr_258⟩ := p_255
      have iv_259 : isV cA G_253 h_12 (S.v (S.rp k j)) (S.un (S.rp k j)) := isV_24 iv_232 fr_258
      have iv_260 : isV cA G_253 h_13 (S.v (S.rh k j)) (S.un (S.rh k j)) := isV_24 iv_233 fr_258
      have iv_261 : isV cA G_253 h_26 (S.v (S.rp k j)) (S.un (S.rp k j)) := isV_24 iv_234 fr_258
      have iv_262 : isV cA G_253 h_27 (S.v (S.rh k j)) (S.un (S.rh k j)) := isV_24 iv_235 fr_258
      have iv_263 : isV cA G_253 h_92 (S.v (S.rp k (j - 1))) (S.un (S.rp k (j - 1))) := isV_24 iv_236 fr_258
      have iv_264 : isV cA G_253 h_93 (S.v (S.rh k (j - 1))) (S.un (S.rh k (j - 1))) := isV_24 iv_237 fr_258
      have iv_265 : isV cA G_253 h_106 (S.v (S.rp k (j - 1))) (S.un (S.rp k (j - 1))) := isV_24 iv_238 fr_258
      have iv_266 : isV cA G_253 h_107 (S.v (S.rh k (j - 1))) (S.un (S.rh k (j - 1))) := isV_24 iv_239 fr_258
      have kq_267 : kq cA G_253 hf rr := kq_24 kq_240 fr_258
      have kq_268 : kq cA G_253 hf_23 (S.v (S.rp k j)) := kq_24 kq_241 fr_258
      have kq_269 : kq cA G_253 hf_35 (S.v (S.rh k j)) := kq_24 kq_242 fr_258
      have kq_270 : kq cA G_253 hf_103 (S.v (S.rp k (j - 1))) := kq_24 kq_243 fr_258
      have kq_271 : kq cA G_253 hf_115 (S.v (S.rh k (j - 1))) := kq_24 kq_244 fr_258
      have fr_272 : gfr (fun x => x < 24) G G_253 := gfr_24 fr_245 fr_258
      have f_273 : G_253 h_12 = some (30, .inr (6, [.ref hf_23, .int (iI (S.un (S.rp k j)))])) := fr_258 _ _ f_246 (show ¬ (30 : Nat) < 24 by decide)
      have f_274 : G_253 h_27 = some (30, .inr (6, [.ref hf_35, .int (iI (S.un (S.rh k j)))])) := fr_258 _ _ f_247 (show ¬ (30 : Nat) < 24 by decide)
      have f_275 : G_253 h_92 = some (30, .inr (6, [.ref hf_103, .int (iI (S.un (S.rp k (j - 1))))])) := fr_258 _ _ f_248 (show ¬ (30 : Nat) < 24 by decide)
      have f_276 : G_253 h_107 = some (30, .inr (6, [.ref hf_115, .int (iI (S.un (S.rh k (j - 1))))])) := fr_258 _ _ f_249 (show ¬ (30 : Nat) < 24 by decide)
      have rb_277 : rb ((S.v (S.rh k (j - 1))) + (((S.v (S.rh k j)) - (S.v (S.rh k (j - 1)))) * ((rr - (S.v (S.rp k (j - 1)))) / ((S.v (S.rp k j)) - (S.v (S.rp k (j - 1))))))) 704 := rb_add rb_99 rb_250
      have bl_278 : B_254.1 ≤ MC := Nat.le_trans (w2_le C_257.w).1 hX1
      have bl_279 : B_254.2 ≤ MS := Nat.le_trans (w2_le C_257.w).2 hX2
      exact hret 180 _ _ _ d_Mf_setHeight_180 bl_278 bl_279 ⟨_, V_256, C_257, by show some _ = _; unfold hgt; rw [if_neg hxn], by unfold hgt; rw [if_neg hxn]; exact rb_up rb_277 (by decide), fr_272⟩
    · skip
      have nc_82 : (rcmp rr (S.v (S.rp k j))) = 0 := (ii_ne (a := (rcmp rr (S.v (S.rp k j)))) (b := 0) (by omega) (by omega) (by omega) (by omega)).2 (by first | exact c_82 | (have z9 := c_82; simp only [nI_iI] at z9; exact z9))
      have hx0 : rr = S.v (S.rp k j) := rcmp_0.mp nc_82
      refine gs (pc' := 40) (fun _ _ _ _ _ hl => lv_aload_n hx hb d_Mf_setHeight_39 rfl (lv_at hl 2 rfl)) ?_
      refine g_get hx hb hts hin_Mf hown hK C_67.ob rfl 6 (by decide) (hts _ wm241) (fun _ h9 => h9) rfl d_Mf_setHeight_40 ?_
      refine gs (pc' := 45) (fun _ _ _ _ _ hl => lv_aload hx hb d_Mf_setHeight_43 (lv_at hl 0 rfl)) ?_
      obtain ⟨sg_280, f_281, g_282⟩ := C_67.fr 0 (by decide)
      refine g_outv hlo (g_runV (As := [.ref hf_35]) (rest := []) ⟨hx, hb, hml, hown, hts⟩ hK hZ hRc hRs (c3_to l D cA lo MC MS G_60 B_61 X a S F V_66 C_67 hX1 hX2 0 (by decide) hf_35 (S.v (S.rh k j)) (Or.inr kq_75) 100 rb_19 (by decide)) (fun _ _ => cwV 1 hts (tb_good (tb_cons wm696 (tb_cons wm514 (tb_cons wm515 (tb_cons wm8 k_Fr_setTo))))) rfl rfl rfl (by decide +kernel) ⟨by rw [hRf]; exact Nat.le_of_ble_eq_true rfl, by rw [hRl]; exact Nat.le_of_ble_eq_true rfl⟩) f_281 rfl bl_79 bl_80 rfl (Nat.le_of_ble_eq_true rfl) d_Mf_setHeight_45) (fun G_283 B_284 p_285 => ?_)
      obtain ⟨V_286, C_287, fr_288⟩ := p_285
      have iv_289 : isV cA G_283 h_12 (S.v (S.rp k j)) (S.un (S.rp k j)) := isV_24 iv_69 fr_288
      have iv_290 : isV cA G_283 h_13 (S.v (S.rh k j)) (S.un (S.rh k j)) := isV_24 iv_70 fr_288
      have iv_291 : isV cA G_283 h_26 (S.v (S.rp k j)) (S.un (S.rp k j)) := isV_24 iv_71 fr_288
      have iv_292 : isV cA G_283 h_27 (S.v (S.rh k j)) (S.un (S.rh k j)) := isV_24 iv_72 fr_288
      have kq_293 : kq cA G_283 hf rr := kq_24 kq_73 fr_288
      have kq_294 : kq cA G_283 hf_23 (S.v (S.rp k j)) := kq_24 kq_74 fr_288
      have kq_295 : kq cA G_283 hf_35 (S.v (S.rh k j)) := kq_24 kq_75 fr_288
      have fr_296 : gfr (fun x => x < 24) G G_283 := gfr_24 fr_76 fr_288
      have f_297 : G_283 h_12 = some (30, .inr (6, [.ref hf_23, .int (iI (S.un (S.rp k j)))])) := fr_288 _ _ f_77 (show ¬ (30 : Nat) < 24 by decide)
      have f_298 : G_283 h_27 = some (30, .inr (6, [.ref hf_35, .int (iI (S.un (S.rh k j)))])) := fr_288 _ _ f_78 (show ¬ (30 : Nat) < 24 by decide)
      have bl_299 : B_284.1 ≤ MC := Nat.le_trans (w2_le C_287.w).1 hX1
      have bl_300 : B_284.2 ≤ MS := Nat.le_trans (w2_le C_287.w).2 hX2
      exact hret 48 _ _ _ d_Mf_setHeight_48 bl_299 bl_300 ⟨_, V_286, C_287, by show some _ = _; unfold hgt; rw [if_pos hx0], by unfold hgt; rw [if_pos hx0]; exact rb_up rb_19 (by decide), fr_296⟩
set_option maxHeartbeats 4000000 in
set_option maxRecDepth 100000 in
theorem c_Mf_corner (l : Launch) (D : va_G) (cA : Nat → ClassId) (lo MC MS : Nat) (G : gT) (B : Nat × Nat) (X : Nat × Nat) (a : AX) (S : St) (F : Nat → Option Rat) (V : Nat → Nat) (hC : CW cA X a S F V (G, B)) (hW : WF S) (g : Int) (hg1 : -2147483648 ≤ g) (hg2 : g < 2147483648) (x : Int) (hx1 : -2147483648 ≤ x) (hx2 : x < 2147483648) (y : Int) (hy1 : -2147483648 ≤ y) (hy2 : y < 2147483648) (hk : (sp_corner S (iI g) (iI x) (iI y)).1 = 0) (hY1 : X.1 + 6 ≤ MC) (hY2 : X.2 + 209 ≤ MS) : gMet l y_Mf_corner w_Mf_corner 6 158 D clS (gtys cA) lo MC MS [.ref a.x, .int (iI g), .int (iI x), .int (iI y)] G B (gQi D clS lo (fun r u => r = iI (sp_corner S (iI g) (iI x) (iI y)).2.1 ∧ CW3 cA (X.1 + 6, X.2 + 209) a (sp_corner S (iI g) (iI x) (iI y)).2.2 u ∧ gfr (fun x => x < 70) G u.1)) := by
  refine g_meti (cc := prog_1_method_13_code) (nL := 8) (L := [(0, .ref a.x), (1, .int (iI g)), (2, .int (iI x)), (3, .int (iI y))]) (by decide +kernel) rfl (Nat.le_of_ble_eq_true rfl) rfl ?_
  intro p e R s m args below meth c Q hF hRc hRs hRf hRl hret
  obtain ⟨hx, hb, hr, hml, hts0, hown, hlocks, hin, hK, hlo, hZ⟩ := hF
  have hts : ∀ w ∈ tbg, w.before args s = true := fun w h => hts0 w (List.mem_cons_of_mem _ h)
  have hX1 : X.1 ≤ MC := by omega
  have hX2 : X.2 ≤ MS := by omega
  have hn := hW.n
  have hrn := hW.rn
  have hwn := hW.wn
  have bl_1 : B.1 ≤ MC := Nat.le_trans (w2_le hC.w).1 hX1
  have bl_2 : B.2 ≤ MS := Nat.le_trans (w2_le hC.w).2 hX2
  have hv : ri S (iI g) ∧ vi S (iI x) ∧ vi S (iI y) := by
    by_cases z9 : ri S (iI g) ∧ vi S (iI x) ∧ vi S (iI y)
    · exact z9
    · rw [sp_corner, if_pos z9] at hk; exact absurd hk (by decide)
  obtain ⟨k, hi_k, hxe_g, ei_k⟩ := ix_of hv.1.1 hv.1.2
  rw [hxe_g]
  obtain ⟨i, hi_i, hxe_x, ei_i⟩ := ix_of hv.2.1.1 hv.2.1.2
  rw [hxe_x]
  obtain ⟨j, hi_j, hxe_y, ei_j⟩ := ix_of hv.2.2.1 hv.2.2.2
  rw [hxe_y]
  have hrc := hW.rc k hi_k
  have hsp : sp_corner S (iI g) (iI x) (iI y) = if 0 < S.rc k ∧ (S.un i ≠ S.un (S.rp k 0) ∨ S.un j ≠ S.un (S.rh k 0)) then (0, -2, S) else if S.rc k = 16 then (0, -3, S) else if 0 < S.rc k ∧ S.v i ≤ S.v (S.rp k (S.rc k - 1)) then (0, -5, S) else (0, (S.rc k : Int) + 1, S.sr S.rn (fup S.rc k (S.rc k + 1)) (fup S.rp k (fup (S.rp k) (S.rc k) i)) (fup S.rh k (fup (S.rh k) (S.rc k) j))) := by
    rw [sp_corner, if_neg (fun z9 => z9 hv), ei_k, ei_i, ei_j]
  refine gs (pc' := 1) (fun _ _ _ _ _ hl => lv_aload_n hx hb d_Mf_corner_0 rfl (lv_at hl 0 rfl)) ?_
  refine gs (pc' := 2) (fun _ _ _ _ _ hl => lv_iload_n hx hb d_Mf_corner_1 rfl (lv_at hl 1 rfl)) ?_
  refine g_outr hlo (g_runV (As := [.int (nI k)]) (rest := []) ⟨hx, hb, hml, hown, hts⟩ hK hZ hRc hRs (c_Mf_rowOf l D cA lo MC MS G B X a S F V hC hW k (by omega) hX1 hX2) (fun _ _ => cwV 1 hts (tb_good (tb_cons wm672 (tb_cons wm674 (tb_cons ws14 (tb_cons wm1 k_Mf_rowOf))))) rfl rfl rfl (by decide +kernel) ⟨by rw [hRf]; exact Nat.le_of_ble_eq_true rfl, by rw [hRl]; exact Nat.le_of_ble_eq_true rfl⟩) hC.ob rfl bl_1 bl_2 rfl (Nat.le_of_ble_eq_true rfl) d_Mf_corner_2) (fun r_6 G_3 B_4 p_5 => ?_)
  obtain ⟨u_7, e_8⟩ := p_5
  cases u_7
  subst e_8
  refine gst (pc' := 7) (L' := [(4, .ref (a.ro k)), (0, .ref a.x), (1, .int (nI k)), (2, .int (nI i)), (3, .int (nI j))]) (fun _ _ _ _ _ hl => lv_astore hx hb d_Mf_corner_5 hl (by decide) rfl) ?_
  refine gs (pc' := 8) (fun _ _ _ _ _ hl => lv_aload_n hx hb d_Mf_corner_7 rfl (lv_at hl 1 rfl)) ?_
  refine gs (pc' := 9) (fun _ _ _ _ _ hl => lv_iload_n hx hb d_Mf_corner_8 rfl (lv_at hl 3 rfl)) ?_
  refine g_outr hlo (g_runV (As := [.int (nI i)]) (rest := []) ⟨hx, hb, hml, hown, hts⟩ hK hZ hRc hRs (c_Mf_valueOf l D cA lo MC MS G B X a S F V hC hW i (by omega) hX1 hX2) (fun _ _ => cwV 1 hts (tb_good (tb_cons wm539 (tb_cons wm541 (tb_cons ws11 (tb_cons wm1 k_Mf_valueOf))))) rfl rfl rfl (by decide +kernel) ⟨by rw [hRf]; exact Nat.le_of_ble_eq_true rfl, by rw [hRl]; exact Nat.le_of_ble_eq_true rfl⟩) hC.ob rfl bl_1 bl_2 rfl (Nat.le_of_ble_eq_true rfl) d_Mf_corner_9) (fun r_12 G_9 B_10 p_11 => ?_)
  obtain ⟨u_13, iv_14⟩ := p_11
  cases u_13
  have rb_15 : rb (S.v i) 100 := rb_of (hW.v _ (by omega)).1
  have ub_16 := (hW.v i (by omega)).2
  have ub_17 := ub_16.1
  have ub_18 := ub_16.2
  refine gst (pc' := 14) (L' := [(5, .ref r_12), (4, .ref (a.ro k)), (0, .ref a.x), (1, .int (nI k)), (2, .int (nI i)), (3, .int (nI j))]) (fun _ _ _ _ _ hl => lv_astore hx hb d_Mf_corner_12 hl (by decide) rfl) ?_
  refine gs (pc' := 15) (fun _ _ _ _ _ hl => lv_aload_n hx hb d_Mf_corner_14 rfl (lv_at hl 2 rfl)) ?_
  refine gs (pc' := 16) (fun _ _ _ _ _ hl => lv_iload_n hx hb d_Mf_corner_15 rfl (lv_at hl 5 rfl)) ?_
  refine g_outr hlo (g_runV (As := [.int (nI j)]) (rest := []) ⟨hx, hb, hml, hown, hts⟩ hK hZ hRc hRs (c_Mf_valueOf l D cA lo MC MS G B X a S F V hC hW j (by omega) hX1 hX2) (fun _ _ => cwV 1 hts (tb_good (tb_cons wm539 (tb_cons wm541 (tb_cons ws11 (tb_cons wm1 k_Mf_valueOf))))) rfl rfl rfl (by decide +kernel) ⟨by rw [hRf]; exact Nat.le_of_ble_eq_true rfl, by rw [hRl]; exact Nat.le_of_ble_eq_true rfl⟩) hC.ob rfl bl_1 bl_2 rfl (Nat.le_of_ble_eq_true rfl) d_Mf_corner_16) (fun r_22 G_19 B_20 p_21 => ?_)
  obtain ⟨u_23, iv_24⟩ := p_21
  cases u_23
  have rb_25 : rb (S.v j) 100 := rb_of (hW.v _ (by omega)).1
  have ub_26 := (hW.v j (by omega)).2
  have ub_27 := ub_26.1
  have ub_28 := ub_26.2
  refine gst (pc' := 21) (L' := [(6, .ref r_22), (5, .ref r_12), (4, .ref (a.ro k)), (0, .ref a.x), (1, .int (nI k)), (2, .int (nI i)), (3, .int (nI j))]) (fun _ _ _ _ _ hl => lv_astore hx hb d_Mf_corner_19 hl (by decide) rfl) ?_
  refine gs (pc' := 23) (fun _ _ _ _ _ hl => lv_aload hx hb d_Mf_corner_21 (lv_at hl 2 rfl)) ?_
  obtain ⟨rc_29, pf_30, hg_31, f_32, f_33, f_34, g_35⟩ := hC.ro k (by omega)
  obtain ⟨g_36, g_37⟩ := g_35 hi_k
  subst g_36
  refine g_get hx hb hts hin_Ro hown hK f_32 rfl 2 (by decide) (hts _ wm227) (fun _ h9 => h9) rfl d_Mf_corner_23 ?_
  refine gsb (pc1 := 121) (pc2 := 29) (fun _ _ _ _ _ => lv_if_le (tgt := 121) hx hb d_Mf_corner_26 (by decide)) (fun c_38 => ?_) (fun c_38 => ?_)
  · skip
    have nc_38 : (S.rc k) ≤ 0 := (n0_le (a := (S.rc k)) (by omega)).1 c_38
    have hu : ¬ (0 < S.rc k ∧ (S.un i ≠ S.un (S.rp k 0) ∨ S.un j ≠ S.un (S.rh k 0))) := fun z9 => absurd z9.1 (by omega)
    have h16 : ¬ S.rc k = 16 := by omega
    have ho : ¬ (0 < S.rc k ∧ S.v i ≤ S.v (S.rp k (S.rc k - 1))) := fun z9 => absurd z9.1 (by omega)
    refine gs (pc' := 123) (fun _ _ _ _ _ hl => lv_aload hx hb d_Mf_corner_121 (lv_at hl 2 rfl)) ?_
    refine gs (pc' := 125) (fun _ _ _ _ _ hl => lv_aload hx hb d_Mf_corner_123 (lv_at hl 1 rfl)) ?_
    refine gs (pc' := 127) (fun _ _ _ _ _ hl => lv_aload hx hb d_Mf_corner_125 (lv_at hl 0 rfl)) ?_
    obtain ⟨hf_39, f_40, kq_41⟩ := id iv_14
    obtain ⟨hf_42, f_43, kq_44⟩ := id iv_24
    refine g_outv hlo (g_runV (As := [.ref r_12, .ref r_22]) (rest := []) ⟨hx, hb, hml, hown, hts⟩ hK hZ hRc hRs (c_Ro_put l D cA lo MC MS G B (40 + k) (50 + k) (60 + k) (a.ro k) (a.rp k) (a.rh k) (S.rc k) r_12 r_22 30 30 hf_39 hf_42 (iI (S.un i)) (iI (S.un j)) pf_30 hg_31 (by omega) (by omega) (by omega) f_32 f_33 f_34 f_40 f_43 (by omega) bl_1 bl_2) (fun _ _ => cwV 2 hts (tb_good (tb_cons wm677 (tb_cons wm678 (tb_cons wm679 (tb_cons wm11 k_Ro_put))))) rfl rfl rfl (by decide +kernel) ⟨by rw [hRf]; exact Nat.le_of_ble_eq_true rfl, by rw [hRl]; exact Nat.le_of_ble_eq_true rfl⟩) f_32 rfl bl_1 bl_2 rfl (Nat.le_of_ble_eq_true rfl) d_Mf_corner_127) (fun G_45 B_46 p_47 => ?_)
    obtain ⟨e_48, f_49, f_50, f_51, gf_52⟩ := p_47
    have e_48b : B_46 = B := e_48
    subst e_48b
    have C_53 := CW.cornerV hC (by omega) hi_k gf_52 g_37 iv_14 iv_24 f_49 f_50 f_51
    refine gs (pc' := 132) (fun _ _ _ _ _ hl => lv_aload hx hb d_Mf_corner_130 (lv_at hl 2 rfl)) ?_
    refine g_get hx hb hts hin_Ro hown hK f_49 rfl 2 (by decide) (hts _ wm227) (fun _ h9 => h9) rfl d_Mf_corner_132 ?_
    rw [hsp, if_neg hu, if_neg h16, if_neg ho] at hret
    exact hret 135 _ _ _ _ d_Mf_corner_135 bl_1 bl_2 ⟨nI_iI _, (CW.up (X1 := (X.1 + 6, X.2 + 209)) C_53 (show X.1 ≤ X.1 + 6 by omega) (show X.2 ≤ X.2 + 209 by omega)), gfr_mono (gfr_tr (M := fun x => x < 24) gfr_rf gf_52) (fun x h9 => by rcases h9 with h9 | h9 <;> omega)⟩
  · skip
    have nc_38 : (S.rc k) > 0 := (n0_le (a := (S.rc k)) (by omega)).2 c_38
    have hc0 : 0 < S.rc k := nc_38
    refine gs (pc' := 31) (fun _ _ _ _ _ hl => lv_aload hx hb d_Mf_corner_29 (lv_at hl 2 rfl)) ?_
    refine g_get hx hb hts hin_Ro hown hK f_32 rfl 2 (by decide) (hts _ wm227) (fun _ h9 => h9) rfl d_Mf_corner_31 ?_
    refine gs (pc' := 35) (fun _ _ _ _ _ hl => lv_iconst (v := nI 1) hx hb d_Mf_corner_34 (by decide)) ?_
    refine gs (pc' := 36) (fun _ _ _ _ _ hl => lv_isub hx hb d_Mf_corner_35) ?_
    refine g_eqi (show (nI (S.rc k)) - (nI 1) = nI ((S.rc k) - 1) from pk_sub (by omega)) ?_
    refine gst (pc' := 38) (L' := [(7, .int (nI ((S.rc k) - 1))), (6, .ref r_22), (5, .ref r_12), (4, .ref (a.ro k)), (0, .ref a.x), (1, .int (nI k)), (2, .int (nI i)), (3, .int (nI j))]) (fun _ _ _ _ _ hl => lv_istore hx hb d_Mf_corner_36 hl (by decide) rfl) ?_
    refine gs (pc' := 40) (fun _ _ _ _ _ hl => lv_aload hx hb d_Mf_corner_38 (lv_at hl 2 rfl)) ?_
    obtain ⟨hf_54, f_55, kq_56⟩ := id iv_14
    refine g_get hx hb hts hin_Va hown hK f_55 rfl 1 (by decide) (hts _ wm525) (fun _ h9 => h9) rfl d_Mf_corner_40 ?_
    refine gs (pc' := 45) (fun _ _ _ _ _ hl => lv_aload hx hb d_Mf_corner_43 (lv_at hl 3 rfl)) ?_
    refine g_get hx hb hts hin_Ro hown hK f_32 rfl 0 (by decide) (hts _ wm223) (fun _ h9 => h9) rfl d_Mf_corner_45 ?_
    refine gs (pc' := 50) (fun _ _ _ _ _ hl => lv_iload hx hb d_Mf_corner_48 (lv_at hl 0 rfl)) ?_
    obtain ⟨h_57, h_58, e_59, e_60, iv_61, iv_62⟩ := g_37 ((S.rc k) - 1) (by omega)
    have rb_63 : rb (S.v (S.rp k ((S.rc k) - 1))) 100 := rb_of (hW.v _ (hW.rp k hi_k ((S.rc k) - 1) (by omega)).1).1
    have rb_64 : rb (S.v (S.rh k ((S.rc k) - 1))) 100 := rb_of (hW.v _ (hW.rp k hi_k ((S.rc k) - 1) (by omega)).2.1).1
    have wr_65 := hW.rp k hi_k ((S.rc k) - 1) (by omega)
    have ub_66 := (hW.v _ wr_65.1).2
    have ub_66a := ub_66.1
    have ub_66b := ub_66.2
    have ub_67 := (hW.v _ wr_65.2.1).2
    have ub_67a := ub_67.1
    have ub_67b := ub_67.2
    refine g_aalS hx hb hK 2 f_33 rfl (by omega) (by decide) e_59 d_Mf_corner_50 ?_
    obtain ⟨hf_68, f_69, kq_70⟩ := id iv_61
    refine g_get hx hb hts hin_Va hown hK f_69 rfl 1 (by decide) (hts _ wm525) (fun _ h9 => h9) rfl d_Mf_corner_51 ?_
    refine gsb (pc1 := 76) (pc2 := 57) (fun _ _ _ _ _ => lv_icmp_ne (tgt := 76) hx hb d_Mf_corner_54 (by decide)) (fun c_71 => ?_) (fun c_71 => ?_)
    · skip
      have nc_71 : (S.un i) ≠ (S.un (S.rp k ((S.rc k) - 1))) := (ii_ne (a := (S.un i)) (b := (S.un (S.rp k ((S.rc k) - 1)))) (by omega) (by omega) (by omega) (by omega)).1 (by first | exact c_71 | (have z9 := c_71; simp only [nI_iI] at z9; exact z9))
      have hu : 0 < S.rc k ∧ (S.un i ≠ S.un (S.rp k 0) ∨ S.un j ≠ S.un (S.rh k 0)) := ⟨hc0, Or.inl (by rw [← wr_65.2.2.1]; exact nc_71)⟩
      refine gs (pc' := 78) (fun _ _ _ _ _ hl => lv_bipush (v := (-2)) hx hb d_Mf_corner_76 (by decide)) ?_
      refine g_eqi (show (-2) = iI (-2) from by decide) ?_
      have hs2 : sp_corner S (iI g) (iI x) (iI y) = (0, -2, S) := by rw [hsp, if_pos hu]
      exact hret 78 _ _ _ _ d_Mf_corner_78 bl_1 bl_2 ⟨by rw [hs2], by rw [hs2]; exact hC.up (X1 := (X.1 + 6, X.2 + 209)) (show X.1 ≤ X.1 + 6 by omega) (show X.2 ≤ X.2 + 209 by omega), (gfr_mono (M := fun x => x < 24) gfr_rf (fun x h9 => by omega))⟩
    · skip
      have nc_71 : (S.un i) = (S.un (S.rp k ((S.rc k) - 1))) := (ii_ne (a := (S.un i)) (b := (S.un (S.rp k ((S.rc k) - 1)))) (by omega) (by omega) (by omega) (by omega)).2 (by first | exact c_71 | (have z9 := c_71; simp only [nI_iI] at z9; exact z9))
      have hu1 := nc_71
      refine gs (pc' := 59) (fun _ _ _ _ _ hl => lv_aload hx hb d_Mf_corner_57 (lv_at hl 1 rfl)) ?_
      obtain ⟨hf_72, f_73, kq_74⟩ := id iv_24
      refine g_get hx hb hts hin_Va hown hK f_73 rfl 1 (by decide) (hts _ wm525) (fun _ h9 => h9) rfl d_Mf_corner_59 ?_
      refine gs (pc' := 64) (fun _ _ _ _ _ hl => lv_aload hx hb d_Mf_corner_62 (lv_at hl 3 rfl)) ?_
      refine g_get hx hb hts hin_Ro hown hK f_32 rfl 1 (by decide) (hts _ wm225) (fun _ h9 => h9) rfl d_Mf_corner_64 ?_
      refine gs (pc' := 69) (fun _ _ _ _ _ hl => lv_iload hx hb d_Mf_corner_67 (lv_at hl 0 rfl)) ?_
      obtain ⟨h_75, h_76, e_77, e_78, iv_79, iv_80⟩ := g_37 ((S.rc k) - 1) (by omega)
      have wr_81 := hW.rp k hi_k ((S.rc k) - 1) (by omega)
      have ub_82 := (hW.v _ wr_81.1).2
      have ub_82a := ub_82.1
      have ub_82b := ub_82.2
      have ub_83 := (hW.v _ wr_81.2.1).2
      have ub_83a := ub_83.1
      have ub_83b := ub_83.2
      refine g_aalS hx hb hK 2 f_34 rfl (by omega) (by decide) e_78 d_Mf_corner_69 ?_
      obtain ⟨hf_84, f_85, kq_86⟩ := id iv_80
      refine g_get hx hb hts hin_Va hown hK f_85 rfl 1 (by decide) (hts _ wm525) (fun _ h9 => h9) rfl d_Mf_corner_70 ?_
      refine gsb (pc1 := 79) (pc2 := 76) (fun _ _ _ _ _ => lv_icmp_eq (tgt := 79) hx hb d_Mf_corner_73 (by decide)) (fun c_87 => ?_) (fun c_87 => ?_)
      · skip
        have nc_87 : (S.un j) = (S.un (S.rh k ((S.rc k) - 1))) := (ii_eq (a := (S.un j)) (b := (S.un (S.rh k ((S.rc k) - 1)))) (by omega) (by omega) (by omega) (by omega)).1 (by first | exact c_87 | (have z9 := c_87; simp only [nI_iI] at z9; exact z9))
        have hu : ¬ (0 < S.rc k ∧ (S.un i ≠ S.un (S.rp k 0) ∨ S.un j ≠ S.un (S.rh k 0))) := fun z9 => by rcases z9.2 with y9 | y9; (exact y9 (by rw [← wr_81.2.2.1]; exact hu1)); (exact y9 (by rw [← wr_81.2.2.2]; exact nc_87))
        refine gs (pc' := 81) (fun _ _ _ _ _ hl => lv_aload hx hb d_Mf_corner_79 (lv_at hl 3 rfl)) ?_
        refine g_get hx hb hts hin_Ro hown hK f_32 rfl 2 (by decide) (hts _ wm227) (fun _ h9 => h9) rfl d_Mf_corner_81 ?_
        refine gs (pc' := 86) (fun _ _ _ _ _ hl => lv_bipush (v := nI 16) hx hb d_Mf_corner_84 (by decide)) ?_
        refine gsb (pc1 := 92) (pc2 := 89) (fun _ _ _ _ _ => lv_icmp_lt (tgt := 92) hx hb d_Mf_corner_86 (by decide)) (fun c_88 => ?_) (fun c_88 => ?_)
        · skip
          have nc_88 : (S.rc k) < 16 := (nn_lt (a := (S.rc k)) (b := 16) (by omega) (by omega)).1 c_88
          have h16 : ¬ S.rc k = 16 := by omega
          refine gs (pc' := 93) (fun _ _ _ _ _ hl => lv_aload_n hx hb d_Mf_corner_92 rfl (lv_at hl 4 rfl)) ?_
          refine g_get hx hb hts hin_Mf hown hK hC.ob rfl 5 (by decide) (hts _ wm240) (fun _ h9 => h9) rfl d_Mf_corner_93 ?_
          refine gs (pc' := 98) (fun _ _ _ _ _ hl => lv_aload hx hb d_Mf_corner_96 (lv_at hl 2 rfl)) ?_
          refine g_get hx hb hts hin_Va hown hK f_55 rfl 0 (by decide) (hts _ wm523) (fun _ h9 => h9) rfl d_Mf_corner_98 ?_
          refine gs (pc' := 103) (fun _ _ _ _ _ hl => lv_aload hx hb d_Mf_corner_101 (lv_at hl 3 rfl)) ?_
          refine g_get hx hb hts hin_Ro hown hK f_32 rfl 0 (by decide) (hts _ wm223) (fun _ h9 => h9) rfl d_Mf_corner_103 ?_
          refine gs (pc' := 108) (fun _ _ _ _ _ hl => lv_iload hx hb d_Mf_corner_106 (lv_at hl 0 rfl)) ?_
          obtain ⟨h_89, h_90, e_91, e_92, iv_93, iv_94⟩ := g_37 ((S.rc k) - 1) (by omega)
          have wr_95 := hW.rp k hi_k ((S.rc k) - 1) (by omega)
          have ub_96 := (hW.v _ wr_95.1).2
          have ub_96a := ub_96.1
          have ub_96b := ub_96.2
          have ub_97 := (hW.v _ wr_95.2.1).2
          have ub_97a := ub_97.1
          have ub_97b := ub_97.2
          refine g_aalS hx hb hK 2 f_33 rfl (by omega) (by decide) e_91 d_Mf_corner_108 ?_
          obtain ⟨hf_98, f_99, kq_100⟩ := id iv_93
          refine g_get hx hb hts hin_Va hown hK f_99 rfl 0 (by decide) (hts _ wm523) (fun _ h9 => h9) rfl d_Mf_corner_109 ?_
          refine g_outi hlo (g_runV (As := [.ref hf_54, .ref hf_98]) (rest := []) ⟨hx, hb, hml, hown, hts⟩ hK hZ hRc hRs (c3_cmp l D cA lo MC MS G B X a S F V hC hX1 hX2 hf_54 hf_98 (S.v i) (S.v (S.rp k ((S.rc k) - 1))) (Or.inr kq_56) (Or.inr kq_100) 100 100 rb_15 rb_63 (by decide)) (fun _ _ => cwV 2 hts (tb_good (tb_cons wm606 (tb_cons wm607 (tb_cons wm608 (tb_cons wm3 k_Ca_compare))))) rfl rfl rfl (by decide +kernel) ⟨by rw [hRf]; exact Nat.le_of_ble_eq_true rfl, by rw [hRl]; exact Nat.le_of_ble_eq_true rfl⟩) hC.ca rfl bl_1 bl_2 rfl (Nat.le_of_ble_eq_true rfl) d_Mf_corner_112) (fun r_104 G_101 B_102 p_103 => ?_)
          obtain ⟨e_105, p_106⟩ := p_103
          subst e_105
          obtain ⟨V_107, C_108, fr_109⟩ := p_106
          have iv_110 : isV cA G_101 r_12 (S.v i) (S.un i) := isV_24 iv_14 fr_109
          have iv_111 : isV cA G_101 r_22 (S.v j) (S.un j) := isV_24 iv_24 fr_109
          have iv_112 : isV cA G_101 h_57 (S.v (S.rp k ((S.rc k) - 1))) (S.un (S.rp k ((S.rc k) - 1))) := isV_24 iv_61 fr_109
          have iv_113 : isV cA G_101 h_58 (S.v (S.rh k ((S.rc k) - 1))) (S.un (S.rh k ((S.rc k) - 1))) := isV_24 iv_62 fr_109
          have iv_114 : isV cA G_101 h_75 (S.v (S.rp k ((S.rc k) - 1))) (S.un (S.rp k ((S.rc k) - 1))) := isV_24 iv_79 fr_109
          have iv_115 : isV cA G_101 h_76 (S.v (S.rh k ((S.rc k) - 1))) (S.un (S.rh k ((S.rc k) - 1))) := isV_24 iv_80 fr_109
          have iv_116 : isV cA G_101 h_89 (S.v (S.rp k ((S.rc k) - 1))) (S.un (S.rp k ((S.rc k) - 1))) := isV_24 iv_93 fr_109
          have iv_117 : isV cA G_101 h_90 (S.v (S.rh k ((S.rc k) - 1))) (S.un (S.rh k ((S.rc k) - 1))) := isV_24 iv_94 fr_109
          have kq_118 : kq cA G_101 hf_54 (S.v i) := kq_24 kq_56 fr_109
          have kq_119 : kq cA G_101 hf_68 (S.v (S.rp k ((S.rc k) - 1))) := kq_24 kq_70 fr_109
          have kq_120 : kq cA G_101 hf_72 (S.v j) := kq_24 kq_74 fr_109
          have kq_121 : kq cA G_101 hf_84 (S.v (S.rh k ((S.rc k) - 1))) := kq_24 kq_86 fr_109
          have kq_122 : kq cA G_101 hf_98 (S.v (S.rp k ((S.rc k) - 1))) := kq_24 kq_100 fr_109
          have fr_123 : gfr (fun x => x < 24) G G_101 := gfr_24 gfr_rf fr_109
          have f_124 : G_101 r_12 = some (30, .inr (6, [.ref hf_54, .int (iI (S.un i))])) := fr_109 _ _ f_55 (show ¬ (30 : Nat) < 24 by decide)
          have f_125 : G_101 h_57 = some (30, .inr (6, [.ref hf_68, .int (iI (S.un (S.rp k ((S.rc k) - 1))))])) := fr_109 _ _ f_69 (show ¬ (30 : Nat) < 24 by decide)
          have f_126 : G_101 r_22 = some (30, .inr (6, [.ref hf_72, .int (iI (S.un j))])) := fr_109 _ _ f_73 (show ¬ (30 : Nat) < 24 by decide)
          have f_127 : G_101 h_76 = some (30, .inr (6, [.ref hf_84, .int (iI (S.un (S.rh k ((S.rc k) - 1))))])) := fr_109 _ _ f_85 (show ¬ (30 : Nat) < 24 by decide)
          have f_128 : G_101 h_89 = some (30, .inr (6, [.ref hf_98, .int (iI (S.un (S.rp k ((S.rc k) - 1))))])) := fr_109 _ _ f_99 (show ¬ (30 : Nat) < 24 by decide)
          have bl_129 : B_102.1 ≤ MC := Nat.le_trans (w2_le C_108.w).1 hX1
          have bl_130 : B_102.2 ≤ MS := Nat.le_trans (w2_le C_108.w).2 hX2
          have bd_131 := rcmp_bd (S.v i) (S.v (S.rp k ((S.rc k) - 1)))
          refine gsb (pc1 := 121) (pc2 := 118) (fun _ _ _ _ _ => lv_if_gt (tgt := 121) hx hb d_Mf_corner_115 (by decide)) (fun c_132 => ?_) (fun c_132 => ?_)
          · skip
            have nc_132 : (rcmp (S.v i) (S.v (S.rp k ((S.rc k) - 1)))) > 0 := (ii_gt (a := (rcmp (S.v i) (S.v (S.rp k ((S.rc k) - 1))))) (b := 0) (by omega) (by omega) (by omega) (by omega)).1 (by first | exact c_132 | (have z9 := c_132; simp only [nI_iI] at z9; exact z9))
            have ho : ¬ (0 < S.rc k ∧ S.v i ≤ S.v (S.rp k (S.rc k - 1))) := fun z9 => absurd (rcmp_le.mpr z9.2) (by omega)
            refine gs (pc' := 123) (fun _ _ _ _ _ hl => lv_aload hx hb d_Mf_corner_121 (lv_at hl 3 rfl)) ?_
            refine gs (pc' := 125) (fun _ _ _ _ _ hl => lv_aload hx hb d_Mf_corner_123 (lv_at hl 2 rfl)) ?_
            refine gs (pc' := 127) (fun _ _ _ _ _ hl => lv_aload hx hb d_Mf_corner_125 (lv_at hl 1 rfl)) ?_
            obtain ⟨rc_133, pf_134, hg_135, f_136, f_137, f_138, g_139⟩ := C_108.ro k (by omega)
            obtain ⟨g_140, g_141⟩ := g_139 hi_k
            subst g_140
            refine g_outv hlo (g_runV (As := [.ref r_12, .ref r_22]) (rest := []) ⟨hx, hb, hml, hown, hts⟩ hK hZ hRc hRs (c_Ro_put l D cA lo MC MS G_101 B_102 (40 + k) (50 + k) (60 + k) (a.ro k) (a.rp k) (a.rh k) (S.rc k) r_12 r_22 30 30 hf_54 hf_72 (iI (S.un i)) (iI (S.un j)) pf_134 hg_135 (by omega) (by omega) (by omega) f_136 f_137 f_138 f_124 f_126 (by omega) bl_129 bl_130) (fun _ _ => cwV 2 hts (tb_good (tb_cons wm677 (tb_cons wm678 (tb_cons wm679 (tb_cons wm11 k_Ro_put))))) rfl rfl rfl (by decide +kernel) ⟨by rw [hRf]; exact Nat.le_of_ble_eq_true rfl, by rw [hRl]; exact Nat.le_of_ble_eq_true rfl⟩) f_136 rfl bl_129 bl_130 rfl (Nat.le_of_ble_eq_true rfl) d_Mf_corner_127) (fun G_142 B_143 p_144 => ?_)
            obtain ⟨e_145, f_146, f_147, f_148, gf_149⟩ := p_144
            have e_145b : B_143 = B_102 := e_145
            subst e_145b
            have C_150 := CW.cornerV C_108 (by omega) hi_k gf_149 g_141 iv_110 iv_111 f_146 f_147 f_148
            refine gs (pc' := 132) (fun _ _ _ _ _ hl => lv_aload hx hb d_Mf_corner_130 (lv_at hl 3 rfl)) ?_
            refine g_get hx hb hts hin_Ro hown hK f_146 rfl 2 (by decide) (hts _ wm227) (fun _ h9 => h9) rfl d_Mf_corner_132 ?_
            rw [hsp, if_neg hu, if_neg h16, if_neg ho] at hret
            exact hret 135 _ _ _ _ d_Mf_corner_135 bl_129 bl_130 ⟨nI_iI _, (CW.up (X1 := (X.1 + 6, X.2 + 209)) C_150 (show X.1 ≤ X.1 + 6 by omega) (show X.2 ≤ X.2 + 209 by omega)), gfr_mono (gfr_tr (M := fun x => x < 24) fr_123 gf_149) (fun x h9 => by rcases h9 with h9 | h9 <;> omega)⟩
          · skip
            have nc_132 : (rcmp (S.v i) (S.v (S.rp k ((S.rc k) - 1)))) ≤ 0 := (ii_gt (a := (rcmp (S.v i) (S.v (S.rp k ((S.rc k) - 1))))) (b := 0) (by omega) (by omega) (by omega) (by omega)).2 (by first | exact c_132 | (have z9 := c_132; simp only [nI_iI] at z9; exact z9))
            have ho : 0 < S.rc k ∧ S.v i ≤ S.v (S.rp k (S.rc k - 1)) := ⟨hc0, rcmp_le.mp nc_132⟩
            refine gs (pc' := 120) (fun _ _ _ _ _ hl => lv_bipush (v := (-5)) hx hb d_Mf_corner_118 (by decide)) ?_
            refine g_eqi (show (-5) = iI (-5) from by decide) ?_
            have hs2 : sp_corner S (iI g) (iI x) (iI y) = (0, -5, S) := by rw [hsp, if_neg hu, if_neg h16, if_pos ho]
            exact hret 120 _ _ _ _ d_Mf_corner_120 bl_129 bl_130 ⟨by rw [hs2], by rw [hs2]; exact C_108.up (X1 := (X.1 + 6, X.2 + 209)) (show X.1 ≤ X.1 + 6 by omega) (show X.2 ≤ X.2 + 209 by omega), (gfr_mono (M := fun x => x < 24) fr_123 (fun x h9 => by omega))⟩
        · skip
          have nc_88 : (S.rc k) ≥ 16 := (nn_lt (a := (S.rc k)) (b := 16) (by omega) (by omega)).2 c_88
          have h16 : S.rc k = 16 := by omega
          refine gs (pc' := 91) (fun _ _ _ _ _ hl => lv_bipush (v := (-3)) hx hb d_Mf_corner_89 (by decide)) ?_
          refine g_eqi (show (-3) = iI (-3) from by decide) ?_
          have hs2 : sp_corner S (iI g) (iI x) (iI y) = (0, -3, S) := by rw [hsp, if_neg hu, if_pos h16]
          exact hret 91 _ _ _ _ d_Mf_corner_91 bl_1 bl_2 ⟨by rw [hs2], by rw [hs2]; exact hC.up (X1 := (X.1 + 6, X.2 + 209)) (show X.1 ≤ X.1 + 6 by omega) (show X.2 ≤ X.2 + 209 by omega), (gfr_mono (M := fun x => x < 24) gfr_rf (fun x h9 => by omega))⟩
      · skip
        have nc_87 : (S.un j) ≠ (S.un (S.rh k ((S.rc k) - 1))) := (ii_eq (a := (S.un j)) (b := (S.un (S.rh k ((S.rc k) - 1)))) (by omega) (by omega) (by omega) (by omega)).2 (by first | exact c_87 | (have z9 := c_87; simp only [nI_iI] at z9; exact z9))
        have hu : 0 < S.rc k ∧ (S.un i ≠ S.un (S.rp k 0) ∨ S.un j ≠ S.un (S.rh k 0)) := ⟨hc0, Or.inr (by rw [← wr_81.2.2.2]; exact nc_87)⟩
        refine gs (pc' := 78) (fun _ _ _ _ _ hl => lv_bipush (v := (-2)) hx hb d_Mf_corner_76 (by decide)) ?_
        refine g_eqi (show (-2) = iI (-2) from by decide) ?_
        have hs2 : sp_corner S (iI g) (iI x) (iI y) = (0, -2, S) := by rw [hsp, if_pos hu]
        exact hret 78 _ _ _ _ d_Mf_corner_78 bl_1 bl_2 ⟨by rw [hs2], by rw [hs2]; exact hC.up (X1 := (X.1 + 6, X.2 + 209)) (show X.1 ≤ X.1 + 6 by omega) (show X.2 ≤ X.2 + 209 by omega), (gfr_mono (M := fun x => x < 24) gfr_rf (fun x h9 => by omega))⟩
set_option maxHeartbeats 4000000 in
set_option maxRecDepth 100000 in
theorem t_Mf_corner1 (l : Launch) (D : va_G) (cA : Nat → ClassId) (lo MC MS : Nat) (G : gT) (B : Nat × Nat) (X : Nat × Nat) (a : AX) (S : St) (F : Nat → Option Rat) (V : Nat → Nat) (hC : CW cA X a S F V (G, B)) (hW : WF S) (g : Int) (hg1 : -2147483648 ≤ g) (hg2 : g < 2147483648) (x : Int) (hx1 : -2147483648 ≤ x) (hx2 : x < 2147483648) (y : Int) (hy1 : -2147483648 ≤ y) (hy2 : y < 2147483648) (hk : (sp_corner S (iI g) (iI x) (iI y)).1 = 1) (hY1 : X.1 + 1 ≤ MC) (hY2 : X.2 + 6 ≤ MS) (hfl : ∀ e : Env, l.admits e → e.platform.stackTraces = false) : gMetT l y_Mf_corner w_Mf_corner 7 111 D clS (gtys cA) lo MC MS [.ref a.x, .int (iI g), .int (iI x), .int (iI y)] G B (gQx D clS lo "java/lang/IndexOutOfBoundsException" (fun u => u = (G, B.1 + 1, B.2 + 6))) := by
  refine g_mett (cc := prog_1_method_13_code) (nL := 8) (ret := (Option.some .int)) (L := [(0, .ref a.x), (1, .int (iI g)), (2, .int (iI x)), (3, .int (iI y))]) (by decide +kernel) rfl (Nat.le_of_ble_eq_true rfl) rfl ?_
  intro p e R s m args below meth c Q hF hRc hRs hRf hRl hne hQ
  obtain ⟨hx, hb, hr, hml, hts0, hown, hlocks, hin, hK, hlo, hZ⟩ := hF
  have hts : ∀ w ∈ tbg, w.before args s = true := fun w h => hts0 w (List.mem_cons_of_mem _ h)
  have hX1 : X.1 ≤ MC := by omega
  have hX2 : X.2 ≤ MS := by omega
  have hn := hW.n
  have hrn := hW.rn
  have hwn := hW.wn
  have bl_1 : B.1 ≤ MC := Nat.le_trans (w2_le hC.w).1 hX1
  have bl_2 : B.2 ≤ MS := Nat.le_trans (w2_le hC.w).2 hX2
  have hv : ¬ (ri S (iI g) ∧ vi S (iI x) ∧ vi S (iI y)) := fun z9 => by
    rw [sp_corner, if_neg (fun z8 => z8 z9)] at hk
    split at hk
    · exact absurd hk (by decide)
    split at hk
    · exact absurd hk (by decide)
    split at hk
    · exact absurd hk (by decide)
    · exact absurd hk (by decide)
  by_cases hv_g : ri S (iI g)
  · skip
    obtain ⟨k, hi_k, hxe_g, ei_k⟩ := ix_of hv_g.1 hv_g.2
    rw [hxe_g]
    by_cases hv_x : vi S (iI x)
    · skip
      obtain ⟨i, hi_i, hxe_x, ei_i⟩ := ix_of hv_x.1 hv_x.2
      rw [hxe_x]
      have hv_y : ¬ vi S (iI y) := fun z9 => hv ⟨hv_g, hv_x, z9⟩
      refine gs (pc' := 1) (fun _ _ _ _ _ hl => lv_aload_n hx hb d_Mf_corner_0 rfl (lv_at hl 0 rfl)) ?_
      refine gs (pc' := 2) (fun _ _ _ _ _ hl => lv_iload_n hx hb d_Mf_corner_1 rfl (lv_at hl 1 rfl)) ?_
      refine g_outr hlo (g_runV (As := [.int (nI k)]) (rest := []) ⟨hx, hb, hml, hown, hts⟩ hK hZ hRc hRs (c_Mf_rowOf l D cA lo MC MS G B X a S F V hC hW k (by omega) hX1 hX2) (fun _ _ => cwV 1 hts (tb_good (tb_cons wm672 (tb_cons wm674 (tb_cons ws14 (tb_cons wm1 k_Mf_rowOf))))) rfl rfl rfl (by decide +kernel) ⟨by rw [hRf]; exact Nat.le_of_ble_eq_true rfl, by rw [hRl]; exact Nat.le_of_ble_eq_true rfl⟩) hC.ob rfl bl_1 bl_2 rfl (Nat.le_of_ble_eq_true rfl) d_Mf_corner_2) (fun r_6 G_3 B_4 p_5 => ?_)
      obtain ⟨u_7, e_8⟩ := p_5
      cases u_7
      subst e_8
      refine gst (pc' := 7) (L' := [(4, .ref (a.ro k)), (0, .ref a.x), (1, .int (nI k)), (2, .int (nI i)), (3, .int (iI y))]) (fun _ _ _ _ _ hl => lv_astore hx hb d_Mf_corner_5 hl (by decide) rfl) ?_
      refine gs (pc' := 8) (fun _ _ _ _ _ hl => lv_aload_n hx hb d_Mf_corner_7 rfl (lv_at hl 1 rfl)) ?_
      refine gs (pc' := 9) (fun _ _ _ _ _ hl => lv_iload_n hx hb d_Mf_corner_8 rfl (lv_at hl 3 rfl)) ?_
      refine g_outr hlo (g_runV (As := [.int (nI i)]) (rest := []) ⟨hx, hb, hml, hown, hts⟩ hK hZ hRc hRs (c_Mf_valueOf l D cA lo MC MS G B X a S F V hC hW i (by omega) hX1 hX2) (fun _ _ => cwV 1 hts (tb_good (tb_cons wm539 (tb_cons wm541 (tb_cons ws11 (tb_cons wm1 k_Mf_valueOf))))) rfl rfl rfl (by decide +kernel) ⟨by rw [hRf]; exact Nat.le_of_ble_eq_true rfl, by rw [hRl]; exact Nat.le_of_ble_eq_true rfl⟩) hC.ob rfl bl_1 bl_2 rfl (Nat.le_of_ble_eq_true rfl) d_Mf_corner_9) (fun r_12 G_9 B_10 p_11 => ?_)
      obtain ⟨u_13, iv_14⟩ := p_11
      cases u_13
      have rb_15 : rb (S.v i) 100 := rb_of (hW.v _ (by omega)).1
      have ub_16 := (hW.v i (by omega)).2
      have ub_17 := ub_16.1
      have ub_18 := ub_16.2
      refine gst (pc' := 14) (L' := [(5, .ref r_12), (4, .ref (a.ro k)), (0, .ref a.x), (1, .int (nI k)), (2, .int (nI i)), (3, .int (iI y))]) (fun _ _ _ _ _ hl => lv_astore hx hb d_Mf_corner_12 hl (by decide) rfl) ?_
      refine gs (pc' := 15) (fun _ _ _ _ _ hl => lv_aload_n hx hb d_Mf_corner_14 rfl (lv_at hl 2 rfl)) ?_
      refine gs (pc' := 16) (fun _ _ _ _ _ hl => lv_iload_n hx hb d_Mf_corner_15 rfl (lv_at hl 5 rfl)) ?_
      exact g_up hlocks hne bl_1 bl_2 (g_thrV (As := [.int (iI y)]) (rest := []) ⟨hx, hb, hml, hown, hts⟩ hK hZ hRc hRs (t_Mf_valueOf l D cA lo MC MS G B X a S F V hC hW y hy1 hy2 (nvi hy1 hy2 hv_y) hY1 hY2 hfl) (fun _ _ => cwV 1 hts (tb_good (tb_cons wm539 (tb_cons wm541 (tb_cons ws11 (tb_cons wm1 k_Mf_valueOf))))) rfl rfl rfl (by decide +kernel) ⟨by rw [hRf]; exact Nat.le_of_ble_eq_true rfl, by rw [hRl]; exact Nat.le_of_ble_eq_true rfl⟩) hC.ob rfl bl_1 bl_2 rfl (Nat.le_of_ble_eq_true rfl) d_Mf_corner_16) (fun _ h => h) hQ
    · skip
      refine gs (pc' := 1) (fun _ _ _ _ _ hl => lv_aload_n hx hb d_Mf_corner_0 rfl (lv_at hl 0 rfl)) ?_
      refine gs (pc' := 2) (fun _ _ _ _ _ hl => lv_iload_n hx hb d_Mf_corner_1 rfl (lv_at hl 1 rfl)) ?_
      refine g_outr hlo (g_runV (As := [.int (nI k)]) (rest := []) ⟨hx, hb, hml, hown, hts⟩ hK hZ hRc hRs (c_Mf_rowOf l D cA lo MC MS G B X a S F V hC hW k (by omega) hX1 hX2) (fun _ _ => cwV 1 hts (tb_good (tb_cons wm672 (tb_cons wm674 (tb_cons ws14 (tb_cons wm1 k_Mf_rowOf))))) rfl rfl rfl (by decide +kernel) ⟨by rw [hRf]; exact Nat.le_of_ble_eq_true rfl, by rw [hRl]; exact Nat.le_of_ble_eq_true rfl⟩) hC.ob rfl bl_1 bl_2 rfl (Nat.le_of_ble_eq_true rfl) d_Mf_corner_2) (fun r_22 G_19 B_20 p_21 => ?_)
      obtain ⟨u_23, e_24⟩ := p_21
      cases u_23
      subst e_24
      refine gst (pc' := 7) (L' := [(4, .ref (a.ro k)), (0, .ref a.x), (1, .int (nI k)), (2, .int (iI x)), (3, .int (iI y))]) (fun _ _ _ _ _ hl => lv_astore hx hb d_Mf_corner_5 hl (by decide) rfl) ?_
      refine gs (pc' := 8) (fun _ _ _ _ _ hl => lv_aload_n hx hb d_Mf_corner_7 rfl (lv_at hl 1 rfl)) ?_
      refine gs (pc' := 9) (fun _ _ _ _ _ hl => lv_iload_n hx hb d_Mf_corner_8 rfl (lv_at hl 3 rfl)) ?_
      exact g_up hlocks hne bl_1 bl_2 (g_thrV (As := [.int (iI x)]) (rest := []) ⟨hx, hb, hml, hown, hts⟩ hK hZ hRc hRs (t_Mf_valueOf l D cA lo MC MS G B X a S F V hC hW x hx1 hx2 (nvi hx1 hx2 hv_x) hY1 hY2 hfl) (fun _ _ => cwV 1 hts (tb_good (tb_cons wm539 (tb_cons wm541 (tb_cons ws11 (tb_cons wm1 k_Mf_valueOf))))) rfl rfl rfl (by decide +kernel) ⟨by rw [hRf]; exact Nat.le_of_ble_eq_true rfl, by rw [hRl]; exact Nat.le_of_ble_eq_true rfl⟩) hC.ob rfl bl_1 bl_2 rfl (Nat.le_of_ble_eq_true rfl) d_Mf_corner_9) (fun _ h => h) hQ
  · skip
    refine gs (pc' := 1) (fun _ _ _ _ _ hl => lv_aload_n hx hb d_Mf_corner_0 rfl (lv_at hl 0 rfl)) ?_
    refine gs (pc' := 2) (fun _ _ _ _ _ hl => lv_iload_n hx hb d_Mf_corner_1 rfl (lv_at hl 1 rfl)) ?_
    exact g_up hlocks hne bl_1 bl_2 (g_thrV (As := [.int (iI g)]) (rest := []) ⟨hx, hb, hml, hown, hts⟩ hK hZ hRc hRs (t_Mf_rowOf l D cA lo MC MS G B X a S F V hC hW g hg1 hg2 (nri hg1 hg2 hv_g) hY1 hY2 hfl) (fun _ _ => cwV 1 hts (tb_good (tb_cons wm672 (tb_cons wm674 (tb_cons ws14 (tb_cons wm1 k_Mf_rowOf))))) rfl rfl rfl (by decide +kernel) ⟨by rw [hRf]; exact Nat.le_of_ble_eq_true rfl, by rw [hRl]; exact Nat.le_of_ble_eq_true rfl⟩) hC.ob rfl bl_1 bl_2 rfl (Nat.le_of_ble_eq_true rfl) d_Mf_corner_2) (fun _ h => h) hQ
