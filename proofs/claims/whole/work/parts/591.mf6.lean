set_option maxHeartbeats 4000000 in
set_option maxRecDepth 100000 in
theorem c_Mf_cnb (l : Launch) (D : va_G) (cA : Nat → ClassId) (lo MC MS : Nat) (G : gT) (B : Nat × Nat) (X : Nat × Nat) (a : AX) (S : St) (F : Nat → Option Rat) (V : Nat → Nat) (hC : CW cA X a S F V (G, B)) (hW : WF S) (k : Nat) (hk : k < S.rn) (hf : Nat) (rr : Rat) (hkq : kq cA G hf rr) (hrb : rb rr 100) (hY1 : X.1 + 0 ≤ MC) (hY2 : X.2 + 0 ≤ MS) : gMet l y_Mf_cornerNotBefore w_Mf_cornerNotBefore 6 158 D clS (gtys cA) lo MC MS [.ref a.x, .ref (a.ro k), .ref hf] G B (gQi D clS lo (fun r u => r = iI (cnb S k rr) ∧ ∃ V1, CW cA X a S F V1 u ∧ gfr (fun x => x < 24) G u.1)) := by
  refine g_meti (cc := prog_1_method_24_code) (nL := 5) (L := [(0, .ref a.x), (1, .ref (a.ro k)), (2, .ref hf)]) (by decide +kernel) rfl (Nat.le_of_ble_eq_true rfl) rfl ?_
  intro p e R s m args below meth c Q hF hRc hRs hRf hRl hret
  obtain ⟨hx, hb, hr, hml, hts0, hown, hlocks, hin, hK, hlo, hZ⟩ := hF
  have hts : ∀ w ∈ tbg, w.before args s = true := fun w h => hts0 w (List.mem_cons_of_mem _ h)
  have hX1 : X.1 ≤ MC := by omega
  have hX2 : X.2 ≤ MS := by omega
  have hn := hW.n
  have hrn := hW.rn
  have hwn := hW.wn
  have bl_1 : B.1 ≤ MC := Nat.le_trans (w2_le hC.w).1 hX1
  have bl_2 : B.2 ≤ MS := Nat.le_trans (w2_le hC.w).2 hX2
  have hrc := hW.rc k hk
  refine gs (pc' := 1) (fun _ _ _ _ _ hl => lv_iconst (v := nI 0) hx hb d_Mf_cornerNotBefore_0 (by decide)) ?_
  refine gst (pc' := 2) (L' := [(3, .int (nI 0)), (0, .ref a.x), (1, .ref (a.ro k)), (2, .ref hf)]) (fun _ _ _ _ _ hl => lv_istore_n hx hb d_Mf_cornerNotBefore_1 rfl hl (by decide) rfl) ?_
  refine gsub [0, 1, 2, 3] rfl ?_
  have loop : ∀ (q j : Nat) (V1 : Nat → Nat) (Gk : gT) (Bk : Nat × Nat), j + q = S.rc k → fg (fun j => S.v (S.rp k j)) rr j = none → CW cA X a S F V1 (Gk, Bk) → kq cA Gk hf rr → gfr (fun x => x < 24) G Gk → gV p l e R s m args below meth c D clS lo 5 Q 2 [(3, .int (nI j)), (0, .ref a.x), (1, .ref (a.ro k)), (2, .ref hf)] [] Gk Bk := by
    intro q
    induction q with
    | zero =>
      intro j V1 Gk Bk hj hfg hC1 hkq1 hfr1
      have bl_3 : Bk.1 ≤ MC := Nat.le_trans (w2_le hC1.w).1 hX1
      have bl_4 : Bk.2 ≤ MS := Nat.le_trans (w2_le hC1.w).2 hX2
      have hjn : S.rc k = j := by omega
      refine gs (pc' := 3) (fun _ _ _ _ _ hl => lv_iload_n hx hb d_Mf_cornerNotBefore_2 rfl (lv_at hl 0 rfl)) ?_
      refine gs (pc' := 4) (fun _ _ _ _ _ hl => lv_aload_n hx hb d_Mf_cornerNotBefore_3 rfl (lv_at hl 2 rfl)) ?_
      obtain ⟨rc_5, pf_6, hg_7, f_8, f_9, f_10, g_11⟩ := hC1.ro k (by omega)
      obtain ⟨g_12, g_13⟩ := g_11 hk
      subst g_12
      have f_14 : Gk (a.ro k) = some (40 + k, .inr (5, [.ref (a.rp k), .ref (a.rh k), .int (nI (S.rc k))])) := f_8
      have f_15 : Gk (a.rp k) = some (50 + k, .inl (cA 2, 16, .inr (.inr (.inr (.inr pf_6))))) := f_9
      have f_16 : Gk (a.rh k) = some (60 + k, .inl (cA 2, 16, .inr (.inr (.inr (.inr hg_7))))) := f_10
      refine g_get hx hb hts hin_Ro hown hK f_14 rfl 2 (by decide) (hts _ wm227) (fun _ h9 => h9) rfl d_Mf_cornerNotBefore_4 ?_
      refine gsb (pc1 := 57) (pc2 := 10) (fun _ _ _ _ _ => lv_icmp_ge (tgt := 57) hx hb d_Mf_cornerNotBefore_7 (by decide)) (fun c_17 => ?_) (fun c_17 => ?_)
      · skip
        have nc_17 : j ≥ (S.rc k) := (nn_ge (a := j) (b := (S.rc k)) (by omega) (by omega)).1 c_17
        refine gs (pc' := 58) (fun _ _ _ _ _ hl => lv_iconst (v := (-1)) hx hb d_Mf_cornerNotBefore_57 (by decide)) ?_
        refine g_eqi (show (-1) = iI (-1) from by decide) ?_
        exact hret 58 _ _ _ _ d_Mf_cornerNotBefore_58 bl_3 bl_4 ⟨by unfold cnb; rw [hjn, hfg], V1, hC1, hfr1⟩
      · skip
        have nc_17 : j < (S.rc k) := (nn_ge (a := j) (b := (S.rc k)) (by omega) (by omega)).2 c_17
        exact absurd nc_17 (by omega)
    | succ q ih =>
      intro j V1 Gk Bk hj hfg hC1 hkq1 hfr1
      have bl_18 : Bk.1 ≤ MC := Nat.le_trans (w2_le hC1.w).1 hX1
      have bl_19 : Bk.2 ≤ MS := Nat.le_trans (w2_le hC1.w).2 hX2
      refine gs (pc' := 3) (fun _ _ _ _ _ hl => lv_iload_n hx hb d_Mf_cornerNotBefore_2 rfl (lv_at hl 0 rfl)) ?_
      refine gs (pc' := 4) (fun _ _ _ _ _ hl => lv_aload_n hx hb d_Mf_cornerNotBefore_3 rfl (lv_at hl 2 rfl)) ?_
      obtain ⟨rc_20, pf_21, hg_22, f_23, f_24, f_25, g_26⟩ := hC1.ro k (by omega)
      obtain ⟨g_27, g_28⟩ := g_26 hk
      subst g_27
      have f_29 : Gk (a.ro k) = some (40 + k, .inr (5, [.ref (a.rp k), .ref (a.rh k), .int (nI (S.rc k))])) := f_23
      have f_30 : Gk (a.rp k) = some (50 + k, .inl (cA 2, 16, .inr (.inr (.inr (.inr pf_21))))) := f_24
      have f_31 : Gk (a.rh k) = some (60 + k, .inl (cA 2, 16, .inr (.inr (.inr (.inr hg_22))))) := f_25
      refine g_get hx hb hts hin_Ro hown hK f_29 rfl 2 (by decide) (hts _ wm227) (fun _ h9 => h9) rfl d_Mf_cornerNotBefore_4 ?_
      refine gsb (pc1 := 57) (pc2 := 10) (fun _ _ _ _ _ => lv_icmp_ge (tgt := 57) hx hb d_Mf_cornerNotBefore_7 (by decide)) (fun c_32 => ?_) (fun c_32 => ?_)
      · skip
        have nc_32 : j ≥ (S.rc k) := (nn_ge (a := j) (b := (S.rc k)) (by omega) (by omega)).1 c_32
        exact absurd nc_32 (by omega)
      · skip
        have nc_32 : j < (S.rc k) := (nn_ge (a := j) (b := (S.rc k)) (by omega) (by omega)).2 c_32
        refine gs (pc' := 11) (fun _ _ _ _ _ hl => lv_aload_n hx hb d_Mf_cornerNotBefore_10 rfl (lv_at hl 1 rfl)) ?_
        have f_33 : Gk a.x = some (31, .inr (8, [.ref a.vs, .int (nI S.n), .ref a.rs, .int (nI S.rn), .ref a.ws, .ref a.ca, .ref (a.fr 0), .ref (a.fr 1), .ref (a.fr 2), .ref (a.fr 3), .ref a.zr, .ref a.fo, .ref a.ha, .ref a.si])) := hC1.ob
        refine g_get hx hb hts hin_Mf hown hK f_33 rfl 5 (by decide) (hts _ wm240) (fun _ h9 => h9) rfl d_Mf_cornerNotBefore_11 ?_
        refine gs (pc' := 15) (fun _ _ _ _ _ hl => lv_aload_n hx hb d_Mf_cornerNotBefore_14 rfl (lv_at hl 3 rfl)) ?_
        refine gs (pc' := 16) (fun _ _ _ _ _ hl => lv_aload_n hx hb d_Mf_cornerNotBefore_15 rfl (lv_at hl 2 rfl)) ?_
        refine g_get hx hb hts hin_Ro hown hK f_29 rfl 0 (by decide) (hts _ wm223) (fun _ h9 => h9) rfl d_Mf_cornerNotBefore_16 ?_
        refine gs (pc' := 20) (fun _ _ _ _ _ hl => lv_iload_n hx hb d_Mf_cornerNotBefore_19 rfl (lv_at hl 0 rfl)) ?_
        obtain ⟨h_34, h_35, e_36, e_37, iv_38, iv_39⟩ := g_28 j (by omega)
        have rb_40 : rb (S.v (S.rp k j)) 100 := rb_of (hW.v _ (hW.rp k hk j (by omega)).1).1
        have rb_41 : rb (S.v (S.rh k j)) 100 := rb_of (hW.v _ (hW.rp k hk j (by omega)).2.1).1
        have wr_42 := hW.rp k hk j (by omega)
        have ub_43 := (hW.v _ wr_42.1).2
        have ub_43a := ub_43.1
        have ub_43b := ub_43.2
        have ub_44 := (hW.v _ wr_42.2.1).2
        have ub_44a := ub_44.1
        have ub_44b := ub_44.2
        refine g_aalS hx hb hK 2 f_30 rfl (by omega) (by decide) e_36 d_Mf_cornerNotBefore_20 ?_
        obtain ⟨hf_45, f_46, kq_47⟩ := id iv_38
        have f_48 : Gk h_34 = some (30, .inr (6, [.ref hf_45, .int (iI (S.un (S.rp k j)))])) := f_46
        refine g_get hx hb hts hin_Va hown hK f_48 rfl 0 (by decide) (hts _ wm523) (fun _ h9 => h9) rfl d_Mf_cornerNotBefore_21 ?_
        have f_49 : Gk a.ca = some (30, .inr (0, [.ref a.hd, .ref a.hc, .ref (a.ad 5), .ref (a.ad 6), .ref (a.ad 7), .ref (a.ad 8), .ref (a.ad 9), .ref (a.ad 10)])) := hC1.ca
        refine g_outi hlo (g_runV (As := [.ref hf, .ref hf_45]) (rest := []) ⟨hx, hb, hml, hown, hts⟩ hK hZ hRc hRs (c3_cmp l D cA lo MC MS Gk Bk X a S F V1 hC1 hX1 hX2 hf hf_45 rr (S.v (S.rp k j)) (Or.inr hkq1) (Or.inr kq_47) 100 100 hrb rb_40 (by decide)) (fun _ _ => cwV 2 hts (tb_good (tb_cons wm606 (tb_cons wm607 (tb_cons wm608 (tb_cons wm3 k_Ca_compare))))) rfl rfl rfl (by decide +kernel) ⟨by rw [hRf]; exact Nat.le_of_ble_eq_true rfl, by rw [hRl]; exact Nat.le_of_ble_eq_true rfl⟩) f_49 rfl bl_18 bl_19 rfl (Nat.le_of_ble_eq_true rfl) d_Mf_cornerNotBefore_24) (fun r_53 G_50 B_51 p_52 => ?_)
        obtain ⟨e_54, p_55⟩ := p_52
        subst e_54
        obtain ⟨V_56, C_57, fr_58⟩ := p_55
        have iv_59 : isV cA G_50 h_34 (S.v (S.rp k j)) (S.un (S.rp k j)) := isV_24 iv_38 fr_58
        have iv_60 : isV cA G_50 h_35 (S.v (S.rh k j)) (S.un (S.rh k j)) := isV_24 iv_39 fr_58
        have kq_61 : kq cA G_50 hf rr := kq_24 hkq1 fr_58
        have kq_62 : kq cA G_50 hf_45 (S.v (S.rp k j)) := kq_24 kq_47 fr_58
        have fr_63 : gfr (fun x => x < 24) G G_50 := gfr_24 hfr1 fr_58
        have f_64 : G_50 h_34 = some (30, .inr (6, [.ref hf_45, .int (iI (S.un (S.rp k j)))])) := fr_58 _ _ f_48 (show ¬ (30 : Nat) < 24 by decide)
        have bl_65 : B_51.1 ≤ MC := Nat.le_trans (w2_le C_57.w).1 hX1
        have bl_66 : B_51.2 ≤ MS := Nat.le_trans (w2_le C_57.w).2 hX2
        have bd_67 := rcmp_bd rr (S.v (S.rp k j))
        refine gst (pc' := 29) (L' := [(4, .int (iI (rcmp rr (S.v (S.rp k j))))), (3, .int (nI j)), (0, .ref a.x), (1, .ref (a.ro k)), (2, .ref hf)]) (fun _ _ _ _ _ hl => lv_istore hx hb d_Mf_cornerNotBefore_27 hl (by decide) rfl) ?_
        refine gs (pc' := 31) (fun _ _ _ _ _ hl => lv_iload hx hb d_Mf_cornerNotBefore_29 (lv_at hl 0 rfl)) ?_
        refine gsb (pc1 := 36) (pc2 := 34) (fun _ _ _ _ _ => lv_if_ne (tgt := 36) hx hb d_Mf_cornerNotBefore_31 (by decide)) (fun c_68 => ?_) (fun c_68 => ?_)
        · skip
          have nc_68 : (rcmp rr (S.v (S.rp k j))) ≠ 0 := (ii_ne (a := (rcmp rr (S.v (S.rp k j)))) (b := 0) (by omega) (by omega) (by omega) (by omega)).1 (by first | exact c_68 | (have z9 := c_68; simp only [nI_iI] at z9; exact z9))
          have hne : rr ≠ S.v (S.rp k j) := fun z9 => nc_68 (rcmp_0.mpr z9)
          refine gs (pc' := 38) (fun _ _ _ _ _ hl => lv_iload hx hb d_Mf_cornerNotBefore_36 (lv_at hl 0 rfl)) ?_
          refine gsb (pc1 := 51) (pc2 := 41) (fun _ _ _ _ _ => lv_if_ge (tgt := 51) hx hb d_Mf_cornerNotBefore_38 (by decide)) (fun c_69 => ?_) (fun c_69 => ?_)
          · skip
            have nc_69 : (rcmp rr (S.v (S.rp k j))) ≥ 0 := (ii_ge (a := (rcmp rr (S.v (S.rp k j)))) (b := 0) (by omega) (by omega) (by omega) (by omega)).1 (by first | exact c_69 | (have z9 := c_69; simp only [nI_iI] at z9; exact z9))
            have hgt : S.v (S.rp k j) < rr := Rat.not_le.mp fun z9 => by have := rcmp_le.mpr z9; rcases Int.lt_or_eq_of_le this with y9 | y9; (omega); (exact hne (rcmp_0.mp y9))
            have hfg2 : fg (fun j => S.v (S.rp k j)) rr (j + 1) = none := fg_none.mpr fun i9 h9 => by
              by_cases e9 : i9 = j
              · subst e9; exact hgt
              · exact fg_none.mp hfg i9 (by omega)
            refine gst (pc' := 54) (L' := [(3, .int (nI (j + 1))), (4, .int (iI (rcmp rr (S.v (S.rp k j))))), (0, .ref a.x), (1, .ref (a.ro k)), (2, .ref hf)]) (fun _ _ _ _ _ hl => lv_iinc (v := nI (j + 1)) hx hb d_Mf_cornerNotBefore_51 hl (k := 1) rfl (nI_add _ 1) (by decide) rfl) ?_
            refine gs (pc' := 2) (fun _ _ _ _ _ hl => lv_goto (tgt := 2) hx hb d_Mf_cornerNotBefore_54 (by decide)) ?_
            refine gsub [0, 2, 3, 4] rfl ?_
            exact ih (j + 1) V_56 G_50 B_51 (by omega) hfg2 C_57 kq_61 fr_63
          · skip
            have nc_69 : (rcmp rr (S.v (S.rp k j))) < 0 := (ii_ge (a := (rcmp rr (S.v (S.rp k j)))) (b := 0) (by omega) (by omega) (by omega) (by omega)).2 (by first | exact c_69 | (have z9 := c_69; simp only [nI_iI] at z9; exact z9))
            have hlt : rr < S.v (S.rp k j) := rcmp_lt.mp nc_69
            have hfs : fg (fun j => S.v (S.rp k j)) rr (S.rc k) = some j := fg_some.mpr ⟨by omega, Rat.le_of_lt hlt, fg_none.mp hfg⟩
            refine gs (pc' := 42) (fun _ _ _ _ _ hl => lv_iload_n hx hb d_Mf_cornerNotBefore_41 rfl (lv_at hl 1 rfl)) ?_
            refine gsb (pc1 := 49) (pc2 := 45) (fun _ _ _ _ _ => lv_if_ne (tgt := 49) hx hb d_Mf_cornerNotBefore_42 (by decide)) (fun c_70 => ?_) (fun c_70 => ?_)
            · skip
              have nc_70 : j ≠ 0 := (n0_ne (a := j) (by omega)).1 c_70
              have hj0 : ¬ j = 0 := nc_70
              refine gs (pc' := 50) (fun _ _ _ _ _ hl => lv_iload_n hx hb d_Mf_cornerNotBefore_49 rfl (lv_at hl 1 rfl)) ?_
              exact hret 50 _ _ _ _ d_Mf_cornerNotBefore_50 bl_65 bl_66 ⟨by unfold cnb; rw [hfs]; show _ = iI (if j = 0 ∧ rr ≠ S.v (S.rp k 0) then -1 else (j : Int)); rw [if_neg (fun z9 => hj0 z9.1), ← nI_iI], V_56, C_57, fr_63⟩
            · skip
              have nc_70 : j = 0 := (n0_ne (a := j) (by omega)).2 c_70
              have hj0 : j = 0 := nc_70
              refine gs (pc' := 46) (fun _ _ _ _ _ hl => lv_iconst (v := (-1)) hx hb d_Mf_cornerNotBefore_45 (by decide)) ?_
              refine g_eqi (show (-1) = iI (-1) from by decide) ?_
              refine gs (pc' := 50) (fun _ _ _ _ _ hl => lv_goto (tgt := 50) hx hb d_Mf_cornerNotBefore_46 (by decide)) ?_
              exact hret 50 _ _ _ _ d_Mf_cornerNotBefore_50 bl_65 bl_66 ⟨by unfold cnb; rw [hfs]; show _ = iI (if j = 0 ∧ rr ≠ S.v (S.rp k 0) then -1 else (j : Int)); rw [if_pos ⟨hj0, by rw [← hj0]; exact hne⟩], V_56, C_57, fr_63⟩
        · skip
          have nc_68 : (rcmp rr (S.v (S.rp k j))) = 0 := (ii_ne (a := (rcmp rr (S.v (S.rp k j)))) (b := 0) (by omega) (by omega) (by omega) (by omega)).2 (by first | exact c_68 | (have z9 := c_68; simp only [nI_iI] at z9; exact z9))
          have hxe : rr = S.v (S.rp k j) := rcmp_0.mp nc_68
          have hfs : fg (fun j => S.v (S.rp k j)) rr (S.rc k) = some j := fg_some.mpr ⟨by omega, by rw [hxe]; exact Rat.le_refl, fg_none.mp hfg⟩
          refine gs (pc' := 35) (fun _ _ _ _ _ hl => lv_iload_n hx hb d_Mf_cornerNotBefore_34 rfl (lv_at hl 1 rfl)) ?_
          exact hret 35 _ _ _ _ d_Mf_cornerNotBefore_35 bl_65 bl_66 ⟨by unfold cnb; rw [hfs]; show _ = iI (if j = 0 ∧ rr ≠ S.v (S.rp k 0) then -1 else (j : Int)); rw [if_neg (fun z9 => z9.2 (by rw [hxe, z9.1])), ← nI_iI], V_56, C_57, fr_63⟩
  exact loop (S.rc k) 0 V G B (by omega) rfl hC hkq gfr_rf
set_option maxHeartbeats 4000000 in
set_option maxRecDepth 100000 in
theorem c_Mf_setHeight (l : Launch) (D : va_G) (cA : Nat → ClassId) (lo MC MS : Nat) (G : gT) (B : Nat × Nat) (X : Nat × Nat) (a : AX) (S : St) (F : Nat → Option Rat) (V : Nat → Nat) (hC : CW cA X a S F V (G, B)) (hW : WF S) (k : Nat) (hk : k < S.rn) (hf : Nat) (rr : Rat) (hkq : kq cA G hf rr) (hrb : rb rr 100) (j : Nat) (hj : j < S.rc k) (hj0 : j = 0 → rr = S.v (S.rp k 0)) (hY1 : X.1 + 0 ≤ MC) (hY2 : X.2 + 0 ≤ MS) : gMet l y_Mf_setHeight w_Mf_setHeight 7 190 D clS (gtys cA) lo MC MS [.ref a.x, .ref (a.ro k), .int (nI j), .ref hf] G B (gQv D clS lo (fun u => ∃ F1 V1, CW cA X a S F1 V1 u ∧ F1 0 = some (hgt S k rr j) ∧ rb (hgt S k rr j) 710 ∧ gfr (fun x => x < 24) G u.1)) := by
  refine g_metv (cc := prog_1_method_25_code) (nL := 8) (L := [(0, .ref a.x), (1, .ref (a.ro k)), (2, .int (nI j)), (3, .ref hf)]) (by decide +kernel) rfl (Nat.le_of_ble_eq_true rfl) rfl ?_
  intro p e R s m args below meth c Q hF hRc hRs hRf hRl hret
  obtain ⟨hx, hb, hr, hml, hts0, hown, hlocks, hin, hK, hlo, hZ⟩ := hF
  have hts : ∀ w ∈ tbg, w.before args s = true := fun w h => hts0 w (List.mem_cons_of_mem _ h)
  have hX1 : X.1 ≤ MC := by omega
  have hX2 : X.2 ≤ MS := by omega
  have hn := hW.n
  have hrn := hW.rn
  have hwn := hW.wn
  have bl_1 : B.1 ≤ MC := Nat.le_trans (w2_le hC.w).1 hX1
  have bl_2 : B.2 ≤ MS := Nat.le_trans (w2_le hC.w).2 hX2
  have hrc := hW.rc k hk
  refine gs (pc' := 1) (fun _ _ _ _ _ hl => lv_aload_n hx hb d_Mf_setHeight_0 rfl (lv_at hl 1 rfl)) ?_
  obtain ⟨rc_3, pf_4, hg_5, f_6, f_7, f_8, g_9⟩ := hC.ro k (by omega)
  obtain ⟨g_10, g_11⟩ := g_9 hk
  subst g_10
  have f_12 : G (a.ro k) = some (40 + k, .inr (5, [.ref (a.rp k), .ref (a.rh k), .int (nI (S.rc k))])) := f_6
  have f_13 : G (a.rp k) = some (50 + k, .inl (cA 2, 16, .inr (.inr (.inr (.inr pf_4))))) := f_7
  have f_14 : G (a.rh k) = some (60 + k, .inl (cA 2, 16, .inr (.inr (.inr (.inr hg_5))))) := f_8
  refine g_get hx hb hts hin_Ro hown hK f_12 rfl 0 (by decide) (hts _ wm223) (fun _ h9 => h9) rfl d_Mf_setHeight_1 ?_
  refine gs (pc' := 5) (fun _ _ _ _ _ hl => lv_iload_n hx hb d_Mf_setHeight_4 rfl (lv_at hl 2 rfl)) ?_
  obtain ⟨h_15, h_16, e_17, e_18, iv_19, iv_20⟩ := g_11 j (by omega)
  have rb_21 : rb (S.v (S.rp k j)) 100 := rb_of (hW.v _ (hW.rp k hk j (by omega)).1).1
  have rb_22 : rb (S.v (S.rh k j)) 100 := rb_of (hW.v _ (hW.rp k hk j (by omega)).2.1).1
  have wr_23 := hW.rp k hk j (by omega)
  have ub_24 := (hW.v _ wr_23.1).2
  have ub_24a := ub_24.1
  have ub_24b := ub_24.2
  have ub_25 := (hW.v _ wr_23.2.1).2
  have ub_25a := ub_25.1
  have ub_25b := ub_25.2
  refine g_aalS hx hb hK 2 f_13 rfl (by omega) (by decide) e_17 d_Mf_setHeight_5 ?_
  obtain ⟨hf_26, f_27, kq_28⟩ := id iv_19
  have f_29 : G h_15 = some (30, .inr (6, [.ref hf_26, .int (iI (S.un (S.rp k j)))])) := f_27
  refine g_get hx hb hts hin_Va hown hK f_29 rfl 0 (by decide) (hts _ wm523) (fun _ h9 => h9) rfl d_Mf_setHeight_6 ?_
  refine gst (pc' := 11) (L' := [(4, .ref hf_26), (0, .ref a.x), (1, .ref (a.ro k)), (2, .int (nI j)), (3, .ref hf)]) (fun _ _ _ _ _ hl => lv_astore hx hb d_Mf_setHeight_9 hl (by decide) rfl) ?_
  refine gs (pc' := 12) (fun _ _ _ _ _ hl => lv_aload_n hx hb d_Mf_setHeight_11 rfl (lv_at hl 2 rfl)) ?_
  refine g_get hx hb hts hin_Ro hown hK f_12 rfl 1 (by decide) (hts _ wm225) (fun _ h9 => h9) rfl d_Mf_setHeight_12 ?_
  refine gs (pc' := 16) (fun _ _ _ _ _ hl => lv_iload_n hx hb d_Mf_setHeight_15 rfl (lv_at hl 3 rfl)) ?_
  obtain ⟨h_30, h_31, e_32, e_33, iv_34, iv_35⟩ := g_11 j (by omega)
  have wr_36 := hW.rp k hk j (by omega)
  have ub_37 := (hW.v _ wr_36.1).2
  have ub_37a := ub_37.1
  have ub_37b := ub_37.2
  have ub_38 := (hW.v _ wr_36.2.1).2
  have ub_38a := ub_38.1
  have ub_38b := ub_38.2
  refine g_aalS hx hb hK 2 f_14 rfl (by omega) (by decide) e_33 d_Mf_setHeight_16 ?_
  obtain ⟨hf_39, f_40, kq_41⟩ := id iv_35
  have f_42 : G h_31 = some (30, .inr (6, [.ref hf_39, .int (iI (S.un (S.rh k j)))])) := f_40
  refine g_get hx hb hts hin_Va hown hK f_42 rfl 0 (by decide) (hts _ wm523) (fun _ h9 => h9) rfl d_Mf_setHeight_17 ?_
  refine gst (pc' := 22) (L' := [(5, .ref hf_39), (4, .ref hf_26), (0, .ref a.x), (1, .ref (a.ro k)), (2, .int (nI j)), (3, .ref hf)]) (fun _ _ _ _ _ hl => lv_astore hx hb d_Mf_setHeight_20 hl (by decide) rfl) ?_
  refine gs (pc' := 23) (fun _ _ _ _ _ hl => lv_iload_n hx hb d_Mf_setHeight_22 rfl (lv_at hl 4 rfl)) ?_
  refine gsb (pc1 := 39) (pc2 := 26) (fun _ _ _ _ _ => lv_if_eq (tgt := 39) hx hb d_Mf_setHeight_23 (by decide)) (fun c_43 => ?_) (fun c_43 => ?_)
  · skip
    have nc_43 : j = 0 := (n0_eq (a := j) (by omega)).1 c_43
    have hx0 : rr = S.v (S.rp k j) := by have z9 := nc_43; rw [z9]; exact hj0 z9
    refine gs (pc' := 40) (fun _ _ _ _ _ hl => lv_aload_n hx hb d_Mf_setHeight_39 rfl (lv_at hl 2 rfl)) ?_
    have f_44 : G a.x = some (31, .inr (8, [.ref a.vs, .int (nI S.n), .ref a.rs, .int (nI S.rn), .ref a.ws, .ref a.ca, .ref (a.fr 0), .ref (a.fr 1), .ref (a.fr 2), .ref (a.fr 3), .ref a.zr, .ref a.fo, .ref a.ha, .ref a.si])) := hC.ob
    refine g_get hx hb hts hin_Mf hown hK f_44 rfl 6 (by decide) (hts _ wm241) (fun _ h9 => h9) rfl d_Mf_setHeight_40 ?_
    refine gs (pc' := 45) (fun _ _ _ _ _ hl => lv_aload hx hb d_Mf_setHeight_43 (lv_at hl 0 rfl)) ?_
    obtain ⟨sg_45, f_46, g_47⟩ := hC.fr 0 (by decide)
    have f_48 : G (a.fr 0) = some (20 + 0, .inr (3, [.int sg_45, .ref (a.ad (11 + 2 * 0)), .ref (a.ad (12 + 2 * 0))])) := f_46
    refine g_outv hlo (g_runV (As := [.ref hf_39]) (rest := []) ⟨hx, hb, hml, hown, hts⟩ hK hZ hRc hRs (c3_to l D cA lo MC MS G B X a S F V hC hX1 hX2 0 (by decide) hf_39 (S.v (S.rh k j)) (Or.inr kq_41) 100 rb_22 (by decide)) (fun _ _ => cwV 1 hts (tb_good (tb_cons wm696 (tb_cons wm514 (tb_cons wm515 (tb_cons wm8 k_Fr_setTo))))) rfl rfl rfl (by decide +kernel) ⟨by rw [hRf]; exact Nat.le_of_ble_eq_true rfl, by rw [hRl]; exact Nat.le_of_ble_eq_true rfl⟩) f_48 rfl bl_1 bl_2 rfl (Nat.le_of_ble_eq_true rfl) d_Mf_setHeight_45) (fun G_49 B_50 p_51 => ?_)
    obtain ⟨V_52, C_53, fr_54⟩ := p_51
    have iv_55 : isV cA G_49 h_15 (S.v (S.rp k j)) (S.un (S.rp k j)) := isV_24 iv_19 fr_54
    have iv_56 : isV cA G_49 h_16 (S.v (S.rh k j)) (S.un (S.rh k j)) := isV_24 iv_20 fr_54
    have iv_57 : isV cA G_49 h_30 (S.v (S.rp k j)) (S.un (S.rp k j)) := isV_24 iv_34 fr_54
    have iv_58 : isV cA G_49 h_31 (S.v (S.rh k j)) (S.un (S.rh k j)) := isV_24 iv_35 fr_54
    have kq_59 : kq cA G_49 hf rr := kq_24 hkq fr_54
    have kq_60 : kq cA G_49 hf_26 (S.v (S.rp k j)) := kq_24 kq_28 fr_54
    have kq_61 : kq cA G_49 hf_39 (S.v (S.rh k j)) := kq_24 kq_41 fr_54
    have fr_62 : gfr (fun x => x < 24) G G_49 := gfr_24 gfr_rf fr_54
    have f_63 : G_49 h_15 = some (30, .inr (6, [.ref hf_26, .int (iI (S.un (S.rp k j)))])) := fr_54 _ _ f_29 (show ¬ (30 : Nat) < 24 by decide)
    have f_64 : G_49 h_31 = some (30, .inr (6, [.ref hf_39, .int (iI (S.un (S.rh k j)))])) := fr_54 _ _ f_42 (show ¬ (30 : Nat) < 24 by decide)
    have bl_65 : B_50.1 ≤ MC := Nat.le_trans (w2_le C_53.w).1 hX1
    have bl_66 : B_50.2 ≤ MS := Nat.le_trans (w2_le C_53.w).2 hX2
    exact hret 48 _ _ _ d_Mf_setHeight_48 bl_65 bl_66 ⟨_, V_52, C_53, by show some _ = _; unfold hgt; rw [if_pos hx0], by unfold hgt; rw [if_pos hx0]; exact rb_up rb_22 (by decide), fr_62⟩
  · skip
    have nc_43 : j ≠ 0 := (n0_eq (a := j) (by omega)).2 c_43
    refine gs (pc' := 27) (fun _ _ _ _ _ hl => lv_aload_n hx hb d_Mf_setHeight_26 rfl (lv_at hl 2 rfl)) ?_
    have f_67 : G a.x = some (31, .inr (8, [.ref a.vs, .int (nI S.n), .ref a.rs, .int (nI S.rn), .ref a.ws, .ref a.ca, .ref (a.fr 0), .ref (a.fr 1), .ref (a.fr 2), .ref (a.fr 3), .ref a.zr, .ref a.fo, .ref a.ha, .ref a.si])) := hC.ob
    refine g_get hx hb hts hin_Mf hown hK f_67 rfl 5 (by decide) (hts _ wm240) (fun _ h9 => h9) rfl d_Mf_setHeight_27 ?_
    refine gs (pc' := 31) (fun _ _ _ _ _ hl => lv_aload_n hx hb d_Mf_setHeight_30 rfl (lv_at hl 5 rfl)) ?_
    refine gs (pc' := 33) (fun _ _ _ _ _ hl => lv_aload hx hb d_Mf_setHeight_31 (lv_at hl 1 rfl)) ?_
    have f_68 : G a.ca = some (30, .inr (0, [.ref a.hd, .ref a.hc, .ref (a.ad 5), .ref (a.ad 6), .ref (a.ad 7), .ref (a.ad 8), .ref (a.ad 9), .ref (a.ad 10)])) := hC.ca
    refine g_outi hlo (g_runV (As := [.ref hf, .ref hf_26]) (rest := []) ⟨hx, hb, hml, hown, hts⟩ hK hZ hRc hRs (c3_cmp l D cA lo MC MS G B X a S F V hC hX1 hX2 hf hf_26 rr (S.v (S.rp k j)) (Or.inr hkq) (Or.inr kq_28) 100 100 hrb rb_21 (by decide)) (fun _ _ => cwV 2 hts (tb_good (tb_cons wm606 (tb_cons wm607 (tb_cons wm608 (tb_cons wm3 k_Ca_compare))))) rfl rfl rfl (by decide +kernel) ⟨by rw [hRf]; exact Nat.le_of_ble_eq_true rfl, by rw [hRl]; exact Nat.le_of_ble_eq_true rfl⟩) f_68 rfl bl_1 bl_2 rfl (Nat.le_of_ble_eq_true rfl) d_Mf_setHeight_33) (fun r_72 G_69 B_70 p_71 => ?_)
    obtain ⟨e_73, p_74⟩ := p_71
    subst e_73
    obtain ⟨V_75, C_76, fr_77⟩ := p_74
    have iv_78 : isV cA G_69 h_15 (S.v (S.rp k j)) (S.un (S.rp k j)) := isV_24 iv_19 fr_77
    have iv_79 : isV cA G_69 h_16 (S.v (S.rh k j)) (S.un (S.rh k j)) := isV_24 iv_20 fr_77
    have iv_80 : isV cA G_69 h_30 (S.v (S.rp k j)) (S.un (S.rp k j)) := isV_24 iv_34 fr_77
    have iv_81 : isV cA G_69 h_31 (S.v (S.rh k j)) (S.un (S.rh k j)) := isV_24 iv_35 fr_77
    have kq_82 : kq cA G_69 hf rr := kq_24 hkq fr_77
    have kq_83 : kq cA G_69 hf_26 (S.v (S.rp k j)) := kq_24 kq_28 fr_77
    have kq_84 : kq cA G_69 hf_39 (S.v (S.rh k j)) := kq_24 kq_41 fr_77
    have fr_85 : gfr (fun x => x < 24) G G_69 := gfr_24 gfr_rf fr_77
    have f_86 : G_69 h_15 = some (30, .inr (6, [.ref hf_26, .int (iI (S.un (S.rp k j)))])) := fr_77 _ _ f_29 (show ¬ (30 : Nat) < 24 by decide)
    have f_87 : G_69 h_31 = some (30, .inr (6, [.ref hf_39, .int (iI (S.un (S.rh k j)))])) := fr_77 _ _ f_42 (show ¬ (30 : Nat) < 24 by decide)
    have bl_88 : B_70.1 ≤ MC := Nat.le_trans (w2_le C_76.w).1 hX1
    have bl_89 : B_70.2 ≤ MS := Nat.le_trans (w2_le C_76.w).2 hX2
    have bd_90 := rcmp_bd rr (S.v (S.rp k j))
    refine gsb (pc1 := 49) (pc2 := 39) (fun _ _ _ _ _ => lv_if_ne (tgt := 49) hx hb d_Mf_setHeight_36 (by decide)) (fun c_91 => ?_) (fun c_91 => ?_)
    · skip
      have nc_91 : (rcmp rr (S.v (S.rp k j))) ≠ 0 := (ii_ne (a := (rcmp rr (S.v (S.rp k j)))) (b := 0) (by omega) (by omega) (by omega) (by omega)).1 (by first | exact c_91 | (have z9 := c_91; simp only [nI_iI] at z9; exact z9))
      have hxn : ¬ rr = S.v (S.rp k j) := fun z9 => nc_91 (rcmp_0.mpr z9)
      refine gs (pc' := 50) (fun _ _ _ _ _ hl => lv_aload_n hx hb d_Mf_setHeight_49 rfl (lv_at hl 3 rfl)) ?_
      obtain ⟨rc_92, pf_93, hg_94, f_95, f_96, f_97, g_98⟩ := C_76.ro k (by omega)
      obtain ⟨g_99, g_100⟩ := g_98 hk
      subst g_99
      have f_101 : G_69 (a.ro k) = some (40 + k, .inr (5, [.ref (a.rp k), .ref (a.rh k), .int (nI (S.rc k))])) := f_95
      have f_102 : G_69 (a.rp k) = some (50 + k, .inl (cA 2, 16, .inr (.inr (.inr (.inr pf_93))))) := f_96
      have f_103 : G_69 (a.rh k) = some (60 + k, .inl (cA 2, 16, .inr (.inr (.inr (.inr hg_94))))) := f_97
      refine g_get hx hb hts hin_Ro hown hK f_101 rfl 0 (by decide) (hts _ wm223) (fun _ h9 => h9) rfl d_Mf_setHeight_50 ?_
      refine gs (pc' := 54) (fun _ _ _ _ _ hl => lv_iload_n hx hb d_Mf_setHeight_53 rfl (lv_at hl 4 rfl)) ?_
      refine gs (pc' := 55) (fun _ _ _ _ _ hl => lv_iconst (v := nI 1) hx hb d_Mf_setHeight_54 (by decide)) ?_
      refine gs (pc' := 56) (fun _ _ _ _ _ hl => lv_isub hx hb d_Mf_setHeight_55) ?_
      refine g_eqi (show (nI j) - (nI 1) = nI (j - 1) from pk_sub (by omega)) ?_
      obtain ⟨h_104, h_105, e_106, e_107, iv_108, iv_109⟩ := g_100 (j - 1) (by omega)
      have rb_110 : rb (S.v (S.rp k (j - 1))) 100 := rb_of (hW.v _ (hW.rp k hk (j - 1) (by omega)).1).1
      have rb_111 : rb (S.v (S.rh k (j - 1))) 100 := rb_of (hW.v _ (hW.rp k hk (j - 1) (by omega)).2.1).1
      have wr_112 := hW.rp k hk (j - 1) (by omega)
      have ub_113 := (hW.v _ wr_112.1).2
      have ub_113a := ub_113.1
      have ub_113b := ub_113.2
      have ub_114 := (hW.v _ wr_112.2.1).2
      have ub_114a := ub_114.1
      have ub_114b := ub_114.2
      refine g_aalS hx hb hK 2 f_102 rfl (by omega) (by decide) e_106 d_Mf_setHeight_56 ?_
      obtain ⟨hf_115, f_116, kq_117⟩ := id iv_108
      have f_118 : G_69 h_104 = some (30, .inr (6, [.ref hf_115, .int (iI (S.un (S.rp k (j - 1))))])) := f_116
      refine g_get hx hb hts hin_Va hown hK f_118 rfl 0 (by decide) (hts _ wm523) (fun _ h9 => h9) rfl d_Mf_setHeight_57 ?_
      refine gst (pc' := 62) (L' := [(6, .ref hf_115), (5, .ref hf_39), (4, .ref hf_26), (0, .ref a.x), (1, .ref (a.ro k)), (2, .int (nI j)), (3, .ref hf)]) (fun _ _ _ _ _ hl => lv_astore hx hb d_Mf_setHeight_60 hl (by decide) rfl) ?_
      refine gs (pc' := 63) (fun _ _ _ _ _ hl => lv_aload_n hx hb d_Mf_setHeight_62 rfl (lv_at hl 4 rfl)) ?_
      refine g_get hx hb hts hin_Ro hown hK f_101 rfl 1 (by decide) (hts _ wm225) (fun _ h9 => h9) rfl d_Mf_setHeight_63 ?_
      refine gs (pc' := 67) (fun _ _ _ _ _ hl => lv_iload_n hx hb d_Mf_setHeight_66 rfl (lv_at hl 5 rfl)) ?_
      refine gs (pc' := 68) (fun _ _ _ _ _ hl => lv_iconst (v := nI 1) hx hb d_Mf_setHeight_67 (by decide)) ?_
      refine gs (pc' := 69) (fun _ _ _ _ _ hl => lv_isub hx hb d_Mf_setHeight_68) ?_
      refine g_eqi (show (nI j) - (nI 1) = nI (j - 1) from pk_sub (by omega)) ?_
      obtain ⟨h_119, h_120, e_121, e_122, iv_123, iv_124⟩ := g_100 (j - 1) (by omega)
      have wr_125 := hW.rp k hk (j - 1) (by omega)
      have ub_126 := (hW.v _ wr_125.1).2
      have ub_126a := ub_126.1
      have ub_126b := ub_126.2
      have ub_127 := (hW.v _ wr_125.2.1).2
      have ub_127a := ub_127.1
      have ub_127b := ub_127.2
      refine g_aalS hx hb hK 2 f_103 rfl (by omega) (by decide) e_122 d_Mf_setHeight_69 ?_
      obtain ⟨hf_128, f_129, kq_130⟩ := id iv_124
      have f_131 : G_69 h_120 = some (30, .inr (6, [.ref hf_128, .int (iI (S.un (S.rh k (j - 1))))])) := f_129
      refine g_get hx hb hts hin_Va hown hK f_131 rfl 0 (by decide) (hts _ wm523) (fun _ h9 => h9) rfl d_Mf_setHeight_70 ?_
      refine gst (pc' := 75) (L' := [(7, .ref hf_128), (6, .ref hf_115), (5, .ref hf_39), (4, .ref hf_26), (0, .ref a.x), (1, .ref (a.ro k)), (2, .int (nI j)), (3, .ref hf)]) (fun _ _ _ _ _ hl => lv_astore hx hb d_Mf_setHeight_73 hl (by decide) rfl) ?_
      refine gs (pc' := 76) (fun _ _ _ _ _ hl => lv_aload_n hx hb d_Mf_setHeight_75 rfl (lv_at hl 4 rfl)) ?_
      have f_132 : G_69 a.x = some (31, .inr (8, [.ref a.vs, .int (nI S.n), .ref a.rs, .int (nI S.rn), .ref a.ws, .ref a.ca, .ref (a.fr 0), .ref (a.fr 1), .ref (a.fr 2), .ref (a.fr 3), .ref a.zr, .ref a.fo, .ref a.ha, .ref a.si])) := C_76.ob
      refine g_get hx hb hts hin_Mf hown hK f_132 rfl 5 (by decide) (hts _ wm240) (fun _ h9 => h9) rfl d_Mf_setHeight_76 ?_
      refine gs (pc' := 80) (fun _ _ _ _ _ hl => lv_aload_n hx hb d_Mf_setHeight_79 rfl (lv_at hl 4 rfl)) ?_
      refine g_get hx hb hts hin_Mf hown hK f_132 rfl 6 (by decide) (hts _ wm241) (fun _ h9 => h9) rfl d_Mf_setHeight_80 ?_
      refine gs (pc' := 84) (fun _ _ _ _ _ hl => lv_aload_n hx hb d_Mf_setHeight_83 rfl (lv_at hl 7 rfl)) ?_
      refine gs (pc' := 86) (fun _ _ _ _ _ hl => lv_aload hx hb d_Mf_setHeight_84 (lv_at hl 1 rfl)) ?_
      refine gs (pc' := 87) (fun _ _ _ _ _ hl => lv_iconst (v := nI 1) hx hb d_Mf_setHeight_86 (by decide)) ?_
      have f_133 : G_69 a.ca = some (30, .inr (0, [.ref a.hd, .ref a.hc, .ref (a.ad 5), .ref (a.ad 6), .ref (a.ad 7), .ref (a.ad 8), .ref (a.ad 9), .ref (a.ad 10)])) := C_76.ca
      refine g_outv hlo (g_runV (As := [.ref (a.fr 0), .ref hf, .ref hf_115, .int (nI 1)]) (rest := []) ⟨hx, hb, hml, hown, hts⟩ hK hZ hRc hRs (c3_sub l D cA lo MC MS G_69 B_70 X a S F V_75 C_76 hX1 hX2 0 (by decide) hf hf_115 rr (S.v (S.rp k (j - 1))) (Or.inr kq_82) (Or.inr kq_117) 100 100 hrb rb_110 (by decide)) (fun _ _ => cwV 4 hts (tb_good (tb_cons wm559 (tb_cons wm560 (tb_cons wm561 (tb_cons wm3 k_Ca_setSum))))) rfl rfl rfl (by decide +kernel) ⟨by rw [hRf]; exact Nat.le_of_ble_eq_true rfl, by rw [hRl]; exact Nat.le_of_ble_eq_true rfl⟩) f_133 rfl bl_88 bl_89 rfl (Nat.le_of_ble_eq_true rfl) d_Mf_setHeight_87) (fun G_134 B_135 p_136 => ?_)
      obtain ⟨V_137, C_138, fr_139⟩ := p_136
      have iv_140 : isV cA G_134 h_15 (S.v (S.rp k j)) (S.un (S.rp k j)) := isV_24 iv_78 fr_139
      have iv_141 : isV cA G_134 h_16 (S.v (S.rh k j)) (S.un (S.rh k j)) := isV_24 iv_79 fr_139
      have iv_142 : isV cA G_134 h_30 (S.v (S.rp k j)) (S.un (S.rp k j)) := isV_24 iv_80 fr_139
      have iv_143 : isV cA G_134 h_31 (S.v (S.rh k j)) (S.un (S.rh k j)) := isV_24 iv_81 fr_139
      have iv_144 : isV cA G_134 h_104 (S.v (S.rp k (j - 1))) (S.un (S.rp k (j - 1))) := isV_24 iv_108 fr_139
      have iv_145 : isV cA G_134 h_105 (S.v (S.rh k (j - 1))) (S.un (S.rh k (j - 1))) := isV_24 iv_109 fr_139
      have iv_146 : isV cA G_134 h_119 (S.v (S.rp k (j - 1))) (S.un (S.rp k (j - 1))) := isV_24 iv_123 fr_139
      have iv_147 : isV cA G_134 h_120 (S.v (S.rh k (j - 1))) (S.un (S.rh k (j - 1))) := isV_24 iv_124 fr_139
      have kq_148 : kq cA G_134 hf rr := kq_24 kq_82 fr_139
      have kq_149 : kq cA G_134 hf_26 (S.v (S.rp k j)) := kq_24 kq_83 fr_139
      have kq_150 : kq cA G_134 hf_39 (S.v (S.rh k j)) := kq_24 kq_84 fr_139
      have kq_151 : kq cA G_134 hf_115 (S.v (S.rp k (j - 1))) := kq_24 kq_117 fr_139
      have kq_152 : kq cA G_134 hf_128 (S.v (S.rh k (j - 1))) := kq_24 kq_130 fr_139
      have fr_153 : gfr (fun x => x < 24) G G_134 := gfr_24 fr_85 fr_139
      have f_154 : G_134 h_15 = some (30, .inr (6, [.ref hf_26, .int (iI (S.un (S.rp k j)))])) := fr_139 _ _ f_86 (show ¬ (30 : Nat) < 24 by decide)
      have f_155 : G_134 h_31 = some (30, .inr (6, [.ref hf_39, .int (iI (S.un (S.rh k j)))])) := fr_139 _ _ f_87 (show ¬ (30 : Nat) < 24 by decide)
      have f_156 : G_134 h_104 = some (30, .inr (6, [.ref hf_115, .int (iI (S.un (S.rp k (j - 1))))])) := fr_139 _ _ f_118 (show ¬ (30 : Nat) < 24 by decide)
      have f_157 : G_134 h_120 = some (30, .inr (6, [.ref hf_128, .int (iI (S.un (S.rh k (j - 1))))])) := fr_139 _ _ f_131 (show ¬ (30 : Nat) < 24 by decide)
      have rb_158 : rb (rr - (S.v (S.rp k (j - 1)))) 201 := rb_sub (j := 100) (k := 100) hrb rb_110
      have bl_159 : B_135.1 ≤ MC := Nat.le_trans (w2_le C_138.w).1 hX1
      have bl_160 : B_135.2 ≤ MS := Nat.le_trans (w2_le C_138.w).2 hX2
      refine gs (pc' := 91) (fun _ _ _ _ _ hl => lv_aload_n hx hb d_Mf_setHeight_90 rfl (lv_at hl 4 rfl)) ?_
      have f_161 : G_134 a.x = some (31, .inr (8, [.ref a.vs, .int (nI S.n), .ref a.rs, .int (nI S.rn), .ref a.ws, .ref a.ca, .ref (a.fr 0), .ref (a.fr 1), .ref (a.fr 2), .ref (a.fr 3), .ref a.zr, .ref a.fo, .ref a.ha, .ref a.si])) := C_138.ob
      refine g_get hx hb hts hin_Mf hown hK f_161 rfl 5 (by decide) (hts _ wm240) (fun _ h9 => h9) rfl d_Mf_setHeight_91 ?_
      refine gs (pc' := 95) (fun _ _ _ _ _ hl => lv_aload_n hx hb d_Mf_setHeight_94 rfl (lv_at hl 4 rfl)) ?_
      refine g_get hx hb hts hin_Mf hown hK f_161 rfl 7 (by decide) (hts _ wm242) (fun _ h9 => h9) rfl d_Mf_setHeight_95 ?_
      refine gs (pc' := 100) (fun _ _ _ _ _ hl => lv_aload hx hb d_Mf_setHeight_98 (lv_at hl 3 rfl)) ?_
      refine gs (pc' := 102) (fun _ _ _ _ _ hl => lv_aload hx hb d_Mf_setHeight_100 (lv_at hl 1 rfl)) ?_
      refine gs (pc' := 103) (fun _ _ _ _ _ hl => lv_iconst (v := nI 1) hx hb d_Mf_setHeight_102 (by decide)) ?_
      have f_162 : G_134 a.ca = some (30, .inr (0, [.ref a.hd, .ref a.hc, .ref (a.ad 5), .ref (a.ad 6), .ref (a.ad 7), .ref (a.ad 8), .ref (a.ad 9), .ref (a.ad 10)])) := C_138.ca
      refine g_outv hlo (g_runV (As := [.ref (a.fr 1), .ref hf_26, .ref hf_115, .int (nI 1)]) (rest := []) ⟨hx, hb, hml, hown, hts⟩ hK hZ hRc hRs (c3_sub l D cA lo MC MS G_134 B_135 X a S (fup F 0 (some (rr - (S.v (S.rp k (j - 1)))))) V_137 C_138 hX1 hX2 1 (by decide) hf_26 hf_115 (S.v (S.rp k j)) (S.v (S.rp k (j - 1))) (Or.inr kq_149) (Or.inr kq_151) 100 100 rb_21 rb_110 (by decide)) (fun _ _ => cwV 4 hts (tb_good (tb_cons wm559 (tb_cons wm560 (tb_cons wm561 (tb_cons wm3 k_Ca_setSum))))) rfl rfl rfl (by decide +kernel) ⟨by rw [hRf]; exact Nat.le_of_ble_eq_true rfl, by rw [hRl]; exact Nat.le_of_ble_eq_true rfl⟩) f_162 rfl bl_159 bl_160 rfl (Nat.le_of_ble_eq_true rfl) d_Mf_setHeight_103) (fun G_163 B_164 p_165 => ?_)
      obtain ⟨V_166, C_167, fr_168⟩ := p_165
      have iv_169 : isV cA G_163 h_15 (S.v (S.rp k j)) (S.un (S.rp k j)) := isV_24 iv_140 fr_168
      have iv_170 : isV cA G_163 h_16 (S.v (S.rh k j)) (S.un (S.rh k j)) := isV_24 iv_141 fr_168
      have iv_171 : isV cA G_163 h_30 (S.v (S.rp k j)) (S.un (S.rp k j)) := isV_24 iv_142 fr_168
      have iv_172 : isV cA G_163 h_31 (S.v (S.rh k j)) (S.un (S.rh k j)) := isV_24 iv_143 fr_168
      have iv_173 : isV cA G_163 h_104 (S.v (S.rp k (j - 1))) (S.un (S.rp k (j - 1))) := isV_24 iv_144 fr_168
      have iv_174 : isV cA G_163 h_105 (S.v (S.rh k (j - 1))) (S.un (S.rh k (j - 1))) := isV_24 iv_145 fr_168
      have iv_175 : isV cA G_163 h_119 (S.v (S.rp k (j - 1))) (S.un (S.rp k (j - 1))) := isV_24 iv_146 fr_168
      have iv_176 : isV cA G_163 h_120 (S.v (S.rh k (j - 1))) (S.un (S.rh k (j - 1))) := isV_24 iv_147 fr_168
      have kq_177 : kq cA G_163 hf rr := kq_24 kq_148 fr_168
      have kq_178 : kq cA G_163 hf_26 (S.v (S.rp k j)) := kq_24 kq_149 fr_168
      have kq_179 : kq cA G_163 hf_39 (S.v (S.rh k j)) := kq_24 kq_150 fr_168
      have kq_180 : kq cA G_163 hf_115 (S.v (S.rp k (j - 1))) := kq_24 kq_151 fr_168
      have kq_181 : kq cA G_163 hf_128 (S.v (S.rh k (j - 1))) := kq_24 kq_152 fr_168
      have fr_182 : gfr (fun x => x < 24) G G_163 := gfr_24 fr_153 fr_168
      have f_183 : G_163 h_15 = some (30, .inr (6, [.ref hf_26, .int (iI (S.un (S.rp k j)))])) := fr_168 _ _ f_154 (show ¬ (30 : Nat) < 24 by decide)
      have f_184 : G_163 h_31 = some (30, .inr (6, [.ref hf_39, .int (iI (S.un (S.rh k j)))])) := fr_168 _ _ f_155 (show ¬ (30 : Nat) < 24 by decide)
      have f_185 : G_163 h_104 = some (30, .inr (6, [.ref hf_115, .int (iI (S.un (S.rp k (j - 1))))])) := fr_168 _ _ f_156 (show ¬ (30 : Nat) < 24 by decide)
      have f_186 : G_163 h_120 = some (30, .inr (6, [.ref hf_128, .int (iI (S.un (S.rh k (j - 1))))])) := fr_168 _ _ f_157 (show ¬ (30 : Nat) < 24 by decide)
      have rb_187 : rb ((S.v (S.rp k j)) - (S.v (S.rp k (j - 1)))) 201 := rb_sub (j := 100) (k := 100) rb_21 rb_110
      have bl_188 : B_164.1 ≤ MC := Nat.le_trans (w2_le C_167.w).1 hX1
      have bl_189 : B_164.2 ≤ MS := Nat.le_trans (w2_le C_167.w).2 hX2
      refine gs (pc' := 107) (fun _ _ _ _ _ hl => lv_aload_n hx hb d_Mf_setHeight_106 rfl (lv_at hl 4 rfl)) ?_
      have f_190 : G_163 a.x = some (31, .inr (8, [.ref a.vs, .int (nI S.n), .ref a.rs, .int (nI S.rn), .ref a.ws, .ref a.ca, .ref (a.fr 0), .ref (a.fr 1), .ref (a.fr 2), .ref (a.fr 3), .ref a.zr, .ref a.fo, .ref a.ha, .ref a.si])) := C_167.ob
      refine g_get hx hb hts hin_Mf hown hK f_190 rfl 5 (by decide) (hts _ wm240) (fun _ h9 => h9) rfl d_Mf_setHeight_107 ?_
      refine gs (pc' := 111) (fun _ _ _ _ _ hl => lv_aload_n hx hb d_Mf_setHeight_110 rfl (lv_at hl 4 rfl)) ?_
      refine g_get hx hb hts hin_Mf hown hK f_190 rfl 8 (by decide) (hts _ wm243) (fun _ h9 => h9) rfl d_Mf_setHeight_111 ?_
      refine gs (pc' := 115) (fun _ _ _ _ _ hl => lv_aload_n hx hb d_Mf_setHeight_114 rfl (lv_at hl 4 rfl)) ?_
      refine g_get hx hb hts hin_Mf hown hK f_190 rfl 6 (by decide) (hts _ wm241) (fun _ h9 => h9) rfl d_Mf_setHeight_115 ?_
      refine gs (pc' := 119) (fun _ _ _ _ _ hl => lv_aload_n hx hb d_Mf_setHeight_118 rfl (lv_at hl 4 rfl)) ?_
      refine g_get hx hb hts hin_Mf hown hK f_190 rfl 7 (by decide) (hts _ wm242) (fun _ h9 => h9) rfl d_Mf_setHeight_119 ?_
      refine gs (pc' := 123) (fun _ _ _ _ _ hl => lv_iconst (v := nI 1) hx hb d_Mf_setHeight_122 (by decide)) ?_
      have f_191 : G_163 a.ca = some (30, .inr (0, [.ref a.hd, .ref a.hc, .ref (a.ad 5), .ref (a.ad 6), .ref (a.ad 7), .ref (a.ad 8), .ref (a.ad 9), .ref (a.ad 10)])) := C_167.ca
      refine g_outv hlo (g_runV (As := [.ref (a.fr 2), .ref (a.fr 0), .ref (a.fr 1), .int (nI 1)]) (rest := []) ⟨hx, hb, hml, hown, hts⟩ hK hZ hRc hRs (c3_div l D cA lo MC MS G_163 B_164 X a S (fup (fup F 0 (some (rr - (S.v (S.rp k (j - 1)))))) 1 (some ((S.v (S.rp k j)) - (S.v (S.rp k (j - 1)))))) V_166 C_167 hX1 hX2 2 (by decide) (a.fr 0) (a.fr 1) (rr - (S.v (S.rp k (j - 1)))) ((S.v (S.rp k j)) - (S.v (S.rp k (j - 1)))) (Or.inl ⟨0, by decide, by decide, rfl, rfl⟩) (Or.inl ⟨1, by decide, by decide, rfl, rfl⟩) 201 201 rb_158 rb_187 (by decide) (fun z9 => by have h9 := hW.up k hk (j - 1) (by omega); rw [show j - 1 + 1 = j by omega] at h9; have h8 := Rat.num_eq_zero.mp z9; exact absurd h9 (by rw [sub_z h8]; exact Rat.lt_irrefl))) (fun _ _ => cwV 4 hts (tb_good (tb_cons wm588 (tb_cons wm589 (tb_cons wm590 (tb_cons wm3 k_Ca_setProduct))))) rfl rfl rfl (by decide +kernel) ⟨by rw [hRf]; exact Nat.le_of_ble_eq_true rfl, by rw [hRl]; exact Nat.le_of_ble_eq_true rfl⟩) f_191 rfl bl_188 bl_189 rfl (Nat.le_of_ble_eq_true rfl) d_Mf_setHeight_123) (fun G_192 B_193 p_194 => ?_)
      obtain ⟨V_195, C_196, fr_197⟩ := p_194
      have iv_198 : isV cA G_192 h_15 (S.v (S.rp k j)) (S.un (S.rp k j)) := isV_24 iv_169 fr_197
      have iv_199 : isV cA G_192 h_16 (S.v (S.rh k j)) (S.un (S.rh k j)) := isV_24 iv_170 fr_197
      have iv_200 : isV cA G_192 h_30 (S.v (S.rp k j)) (S.un (S.rp k j)) := isV_24 iv_171 fr_197
      have iv_201 : isV cA G_192 h_31 (S.v (S.rh k j)) (S.un (S.rh k j)) := isV_24 iv_172 fr_197
      have iv_202 : isV cA G_192 h_104 (S.v (S.rp k (j - 1))) (S.un (S.rp k (j - 1))) := isV_24 iv_173 fr_197
      have iv_203 : isV cA G_192 h_105 (S.v (S.rh k (j - 1))) (S.un (S.rh k (j - 1))) := isV_24 iv_174 fr_197
      have iv_204 : isV cA G_192 h_119 (S.v (S.rp k (j - 1))) (S.un (S.rp k (j - 1))) := isV_24 iv_175 fr_197
      have iv_205 : isV cA G_192 h_120 (S.v (S.rh k (j - 1))) (S.un (S.rh k (j - 1))) := isV_24 iv_176 fr_197
      have kq_206 : kq cA G_192 hf rr := kq_24 kq_177 fr_197
      have kq_207 : kq cA G_192 hf_26 (S.v (S.rp k j)) := kq_24 kq_178 fr_197
      have kq_208 : kq cA G_192 hf_39 (S.v (S.rh k j)) := kq_24 kq_179 fr_197
      have kq_209 : kq cA G_192 hf_115 (S.v (S.rp k (j - 1))) := kq_24 kq_180 fr_197
      have kq_210 : kq cA G_192 hf_128 (S.v (S.rh k (j - 1))) := kq_24 kq_181 fr_197
      have fr_211 : gfr (fun x => x < 24) G G_192 := gfr_24 fr_182 fr_197
      have f_212 : G_192 h_15 = some (30, .inr (6, [.ref hf_26, .int (iI (S.un (S.rp k j)))])) := fr_197 _ _ f_183 (show ¬ (30 : Nat) < 24 by decide)
      have f_213 : G_192 h_31 = some (30, .inr (6, [.ref hf_39, .int (iI (S.un (S.rh k j)))])) := fr_197 _ _ f_184 (show ¬ (30 : Nat) < 24 by decide)
      have f_214 : G_192 h_104 = some (30, .inr (6, [.ref hf_115, .int (iI (S.un (S.rp k (j - 1))))])) := fr_197 _ _ f_185 (show ¬ (30 : Nat) < 24 by decide)
      have f_215 : G_192 h_120 = some (30, .inr (6, [.ref hf_128, .int (iI (S.un (S.rh k (j - 1))))])) := fr_197 _ _ f_186 (show ¬ (30 : Nat) < 24 by decide)
      have rb_216 : rb ((rr - (S.v (S.rp k (j - 1)))) / ((S.v (S.rp k j)) - (S.v (S.rp k (j - 1))))) 402 := rb_div (j := 201) (k := 201) rb_158 rb_187 (fun z9 => by have h9 := hW.up k hk (j - 1) (by omega); rw [show j - 1 + 1 = j by omega] at h9; have h8 := Rat.num_eq_zero.mp z9; exact absurd h9 (by rw [sub_z h8]; exact Rat.lt_irrefl))
      have bl_217 : B_193.1 ≤ MC := Nat.le_trans (w2_le C_196.w).1 hX1
      have bl_218 : B_193.2 ≤ MS := Nat.le_trans (w2_le C_196.w).2 hX2
      refine gs (pc' := 127) (fun _ _ _ _ _ hl => lv_aload_n hx hb d_Mf_setHeight_126 rfl (lv_at hl 4 rfl)) ?_
      have f_219 : G_192 a.x = some (31, .inr (8, [.ref a.vs, .int (nI S.n), .ref a.rs, .int (nI S.rn), .ref a.ws, .ref a.ca, .ref (a.fr 0), .ref (a.fr 1), .ref (a.fr 2), .ref (a.fr 3), .ref a.zr, .ref a.fo, .ref a.ha, .ref a.si])) := C_196.ob
      refine g_get hx hb hts hin_Mf hown hK f_219 rfl 5 (by decide) (hts _ wm240) (fun _ h9 => h9) rfl d_Mf_setHeight_127 ?_
      refine gs (pc' := 131) (fun _ _ _ _ _ hl => lv_aload_n hx hb d_Mf_setHeight_130 rfl (lv_at hl 4 rfl)) ?_
      refine g_get hx hb hts hin_Mf hown hK f_219 rfl 6 (by decide) (hts _ wm241) (fun _ h9 => h9) rfl d_Mf_setHeight_131 ?_
      refine gs (pc' := 136) (fun _ _ _ _ _ hl => lv_aload hx hb d_Mf_setHeight_134 (lv_at hl 2 rfl)) ?_
      refine gs (pc' := 138) (fun _ _ _ _ _ hl => lv_aload hx hb d_Mf_setHeight_136 (lv_at hl 0 rfl)) ?_
      refine gs (pc' := 139) (fun _ _ _ _ _ hl => lv_iconst (v := nI 1) hx hb d_Mf_setHeight_138 (by decide)) ?_
      have f_220 : G_192 a.ca = some (30, .inr (0, [.ref a.hd, .ref a.hc, .ref (a.ad 5), .ref (a.ad 6), .ref (a.ad 7), .ref (a.ad 8), .ref (a.ad 9), .ref (a.ad 10)])) := C_196.ca
      refine g_outv hlo (g_runV (As := [.ref (a.fr 0), .ref hf_39, .ref hf_128, .int (nI 1)]) (rest := []) ⟨hx, hb, hml, hown, hts⟩ hK hZ hRc hRs (c3_sub l D cA lo MC MS G_192 B_193 X a S (fup (fup (fup F 0 (some (rr - (S.v (S.rp k (j - 1)))))) 1 (some ((S.v (S.rp k j)) - (S.v (S.rp k (j - 1)))))) 2 (some ((rr - (S.v (S.rp k (j - 1)))) / ((S.v (S.rp k j)) - (S.v (S.rp k (j - 1))))))) V_195 C_196 hX1 hX2 0 (by decide) hf_39 hf_128 (S.v (S.rh k j)) (S.v (S.rh k (j - 1))) (Or.inr kq_208) (Or.inr kq_210) 100 100 rb_22 rb_111 (by decide)) (fun _ _ => cwV 4 hts (tb_good (tb_cons wm559 (tb_cons wm560 (tb_cons wm561 (tb_cons wm3 k_Ca_setSum))))) rfl rfl rfl (by decide +kernel) ⟨by rw [hRf]; exact Nat.le_of_ble_eq_true rfl, by rw [hRl]; exact Nat.le_of_ble_eq_true rfl⟩) f_220 rfl bl_217 bl_218 rfl (Nat.le_of_ble_eq_true rfl) d_Mf_setHeight_139) (fun G_221 B_222 p_223 => ?_)
      obtain ⟨V_224, C_225, fr_226⟩ := p_223
      have iv_227 : isV cA G_221 h_15 (S.v (S.rp k j)) (S.un (S.rp k j)) := isV_24 iv_198 fr_226
      have iv_228 : isV cA G_221 h_16 (S.v (S.rh k j)) (S.un (S.rh k j)) := isV_24 iv_199 fr_226
      have iv_229 : isV cA G_221 h_30 (S.v (S.rp k j)) (S.un (S.rp k j)) := isV_24 iv_200 fr_226
      have iv_230 : isV cA G_221 h_31 (S.v (S.rh k j)) (S.un (S.rh k j)) := isV_24 iv_201 fr_226
      have iv_231 : isV cA G_221 h_104 (S.v (S.rp k (j - 1))) (S.un (S.rp k (j - 1))) := isV_24 iv_202 fr_226
      have iv_232 : isV cA G_221 h_105 (S.v (S.rh k (j - 1))) (S.un (S.rh k (j - 1))) := isV_24 iv_203 fr_226
      have iv_233 : isV cA G_221 h_119 (S.v (S.rp k (j - 1))) (S.un (S.rp k (j - 1))) := isV_24 iv_204 fr_226
      have iv_234 : isV cA G_221 h_120 (S.v (S.rh k (j - 1))) (S.un (S.rh k (j - 1))) := isV_24 iv_205 fr_226
      have kq_235 : kq cA G_221 hf rr := kq_24 kq_206 fr_226
      have kq_236 : kq cA G_221 hf_26 (S.v (S.rp k j)) := kq_24 kq_207 fr_226
      have kq_237 : kq cA G_221 hf_39 (S.v (S.rh k j)) := kq_24 kq_208 fr_226
      have kq_238 : kq cA G_221 hf_115 (S.v (S.rp k (j - 1))) := kq_24 kq_209 fr_226
      have kq_239 : kq cA G_221 hf_128 (S.v (S.rh k (j - 1))) := kq_24 kq_210 fr_226
      have fr_240 : gfr (fun x => x < 24) G G_221 := gfr_24 fr_211 fr_226
      have f_241 : G_221 h_15 = some (30, .inr (6, [.ref hf_26, .int (iI (S.un (S.rp k j)))])) := fr_226 _ _ f_212 (show ¬ (30 : Nat) < 24 by decide)
      have f_242 : G_221 h_31 = some (30, .inr (6, [.ref hf_39, .int (iI (S.un (S.rh k j)))])) := fr_226 _ _ f_213 (show ¬ (30 : Nat) < 24 by decide)
      have f_243 : G_221 h_104 = some (30, .inr (6, [.ref hf_115, .int (iI (S.un (S.rp k (j - 1))))])) := fr_226 _ _ f_214 (show ¬ (30 : Nat) < 24 by decide)
      have f_244 : G_221 h_120 = some (30, .inr (6, [.ref hf_128, .int (iI (S.un (S.rh k (j - 1))))])) := fr_226 _ _ f_215 (show ¬ (30 : Nat) < 24 by decide)
      have rb_245 : rb ((S.v (S.rh k j)) - (S.v (S.rh k (j - 1)))) 201 := rb_sub (j := 100) (k := 100) rb_22 rb_111
      have bl_246 : B_222.1 ≤ MC := Nat.le_trans (w2_le C_225.w).1 hX1
      have bl_247 : B_222.2 ≤ MS := Nat.le_trans (w2_le C_225.w).2 hX2
      refine gs (pc' := 143) (fun _ _ _ _ _ hl => lv_aload_n hx hb d_Mf_setHeight_142 rfl (lv_at hl 4 rfl)) ?_
      have f_248 : G_221 a.x = some (31, .inr (8, [.ref a.vs, .int (nI S.n), .ref a.rs, .int (nI S.rn), .ref a.ws, .ref a.ca, .ref (a.fr 0), .ref (a.fr 1), .ref (a.fr 2), .ref (a.fr 3), .ref a.zr, .ref a.fo, .ref a.ha, .ref a.si])) := C_225.ob
      refine g_get hx hb hts hin_Mf hown hK f_248 rfl 5 (by decide) (hts _ wm240) (fun _ h9 => h9) rfl d_Mf_setHeight_143 ?_
      refine gs (pc' := 147) (fun _ _ _ _ _ hl => lv_aload_n hx hb d_Mf_setHeight_146 rfl (lv_at hl 4 rfl)) ?_
      refine g_get hx hb hts hin_Mf hown hK f_248 rfl 7 (by decide) (hts _ wm242) (fun _ h9 => h9) rfl d_Mf_setHeight_147 ?_
      refine gs (pc' := 151) (fun _ _ _ _ _ hl => lv_aload_n hx hb d_Mf_setHeight_150 rfl (lv_at hl 4 rfl)) ?_
      refine g_get hx hb hts hin_Mf hown hK f_248 rfl 6 (by decide) (hts _ wm241) (fun _ h9 => h9) rfl d_Mf_setHeight_151 ?_
      refine gs (pc' := 155) (fun _ _ _ _ _ hl => lv_aload_n hx hb d_Mf_setHeight_154 rfl (lv_at hl 4 rfl)) ?_
      refine g_get hx hb hts hin_Mf hown hK f_248 rfl 8 (by decide) (hts _ wm243) (fun _ h9 => h9) rfl d_Mf_setHeight_155 ?_
      refine gs (pc' := 159) (fun _ _ _ _ _ hl => lv_iconst (v := nI 0) hx hb d_Mf_setHeight_158 (by decide)) ?_
      have f_249 : G_221 a.ca = some (30, .inr (0, [.ref a.hd, .ref a.hc, .ref (a.ad 5), .ref (a.ad 6), .ref (a.ad 7), .ref (a.ad 8), .ref (a.ad 9), .ref (a.ad 10)])) := C_225.ca
      refine g_outv hlo (g_runV (As := [.ref (a.fr 1), .ref (a.fr 0), .ref (a.fr 2), .int (nI 0)]) (rest := []) ⟨hx, hb, hml, hown, hts⟩ hK hZ hRc hRs (c3_mul l D cA lo MC MS G_221 B_222 X a S (fup (fup (fup (fup F 0 (some (rr - (S.v (S.rp k (j - 1)))))) 1 (some ((S.v (S.rp k j)) - (S.v (S.rp k (j - 1)))))) 2 (some ((rr - (S.v (S.rp k (j - 1)))) / ((S.v (S.rp k j)) - (S.v (S.rp k (j - 1))))))) 0 (some ((S.v (S.rh k j)) - (S.v (S.rh k (j - 1)))))) V_224 C_225 hX1 hX2 1 (by decide) (a.fr 0) (a.fr 2) ((S.v (S.rh k j)) - (S.v (S.rh k (j - 1)))) ((rr - (S.v (S.rp k (j - 1)))) / ((S.v (S.rp k j)) - (S.v (S.rp k (j - 1))))) (Or.inl ⟨0, by decide, by decide, rfl, rfl⟩) (Or.inl ⟨2, by decide, by decide, rfl, rfl⟩) 201 402 rb_245 rb_216 (by decide)) (fun _ _ => cwV 4 hts (tb_good (tb_cons wm588 (tb_cons wm589 (tb_cons wm590 (tb_cons wm3 k_Ca_setProduct))))) rfl rfl rfl (by decide +kernel) ⟨by rw [hRf]; exact Nat.le_of_ble_eq_true rfl, by rw [hRl]; exact Nat.le_of_ble_eq_true rfl⟩) f_249 rfl bl_246 bl_247 rfl (Nat.le_of_ble_eq_true rfl) d_Mf_setHeight_159) (fun G_250 B_251 p_252 => ?_)
      obtain ⟨V_253, C_254, fr_255⟩ := p_252
      have iv_256 : isV cA G_250 h_15 (S.v (S.rp k j)) (S.un (S.rp k j)) := isV_24 iv_227 fr_255
      have iv_257 : isV cA G_250 h_16 (S.v (S.rh k j)) (S.un (S.rh k j)) := isV_24 iv_228 fr_255
      have iv_258 : isV cA G_250 h_30 (S.v (S.rp k j)) (S.un (S.rp k j)) := isV_24 iv_229 fr_255
      have iv_259 : isV cA G_250 h_31 (S.v (S.rh k j)) (S.un (S.rh k j)) := isV_24 iv_230 fr_255
      have iv_260 : isV cA G_250 h_104 (S.v (S.rp k (j - 1))) (S.un (S.rp k (j - 1))) := isV_24 iv_231 fr_255
      have iv_261 : isV cA G_250 h_105 (S.v (S.rh k (j - 1))) (S.un (S.rh k (j - 1))) := isV_24 iv_232 fr_255
      have iv_262 : isV cA G_250 h_119 (S.v (S.rp k (j - 1))) (S.un (S.rp k (j - 1))) := isV_24 iv_233 fr_255
      have iv_263 : isV cA G_250 h_120 (S.v (S.rh k (j - 1))) (S.un (S.rh k (j - 1))) := isV_24 iv_234 fr_255
      have kq_264 : kq cA G_250 hf rr := kq_24 kq_235 fr_255
      have kq_265 : kq cA G_250 hf_26 (S.v (S.rp k j)) := kq_24 kq_236 fr_255
      have kq_266 : kq cA G_250 hf_39 (S.v (S.rh k j)) := kq_24 kq_237 fr_255
      have kq_267 : kq cA G_250 hf_115 (S.v (S.rp k (j - 1))) := kq_24 kq_238 fr_255
      have kq_268 : kq cA G_250 hf_128 (S.v (S.rh k (j - 1))) := kq_24 kq_239 fr_255
      have fr_269 : gfr (fun x => x < 24) G G_250 := gfr_24 fr_240 fr_255
      have f_270 : G_250 h_15 = some (30, .inr (6, [.ref hf_26, .int (iI (S.un (S.rp k j)))])) := fr_255 _ _ f_241 (show ¬ (30 : Nat) < 24 by decide)
      have f_271 : G_250 h_31 = some (30, .inr (6, [.ref hf_39, .int (iI (S.un (S.rh k j)))])) := fr_255 _ _ f_242 (show ¬ (30 : Nat) < 24 by decide)
      have f_272 : G_250 h_104 = some (30, .inr (6, [.ref hf_115, .int (iI (S.un (S.rp k (j - 1))))])) := fr_255 _ _ f_243 (show ¬ (30 : Nat) < 24 by decide)
      have f_273 : G_250 h_120 = some (30, .inr (6, [.ref hf_128, .int (iI (S.un (S.rh k (j - 1))))])) := fr_255 _ _ f_244 (show ¬ (30 : Nat) < 24 by decide)
      have rb_274 : rb (((S.v (S.rh k j)) - (S.v (S.rh k (j - 1)))) * ((rr - (S.v (S.rp k (j - 1)))) / ((S.v (S.rp k j)) - (S.v (S.rp k (j - 1)))))) 603 := rb_mul (j := 201) (k := 402) rb_245 rb_216
      have bl_275 : B_251.1 ≤ MC := Nat.le_trans (w2_le C_254.w).1 hX1
      have bl_276 : B_251.2 ≤ MS := Nat.le_trans (w2_le C_254.w).2 hX2
      refine gs (pc' := 163) (fun _ _ _ _ _ hl => lv_aload_n hx hb d_Mf_setHeight_162 rfl (lv_at hl 4 rfl)) ?_
      have f_277 : G_250 a.x = some (31, .inr (8, [.ref a.vs, .int (nI S.n), .ref a.rs, .int (nI S.rn), .ref a.ws, .ref a.ca, .ref (a.fr 0), .ref (a.fr 1), .ref (a.fr 2), .ref (a.fr 3), .ref a.zr, .ref a.fo, .ref a.ha, .ref a.si])) := C_254.ob
      refine g_get hx hb hts hin_Mf hown hK f_277 rfl 5 (by decide) (hts _ wm240) (fun _ h9 => h9) rfl d_Mf_setHeight_163 ?_
      refine gs (pc' := 167) (fun _ _ _ _ _ hl => lv_aload_n hx hb d_Mf_setHeight_166 rfl (lv_at hl 4 rfl)) ?_
      refine g_get hx hb hts hin_Mf hown hK f_277 rfl 6 (by decide) (hts _ wm241) (fun _ h9 => h9) rfl d_Mf_setHeight_167 ?_
      refine gs (pc' := 172) (fun _ _ _ _ _ hl => lv_aload hx hb d_Mf_setHeight_170 (lv_at hl 0 rfl)) ?_
      refine gs (pc' := 173) (fun _ _ _ _ _ hl => lv_aload_n hx hb d_Mf_setHeight_172 rfl (lv_at hl 4 rfl)) ?_
      refine g_get hx hb hts hin_Mf hown hK f_277 rfl 7 (by decide) (hts _ wm242) (fun _ h9 => h9) rfl d_Mf_setHeight_173 ?_
      refine gs (pc' := 177) (fun _ _ _ _ _ hl => lv_iconst (v := nI 0) hx hb d_Mf_setHeight_176 (by decide)) ?_
      have f_278 : G_250 a.ca = some (30, .inr (0, [.ref a.hd, .ref a.hc, .ref (a.ad 5), .ref (a.ad 6), .ref (a.ad 7), .ref (a.ad 8), .ref (a.ad 9), .ref (a.ad 10)])) := C_254.ca
      refine g_outv hlo (g_runV (As := [.ref (a.fr 0), .ref hf_128, .ref (a.fr 1), .int (nI 0)]) (rest := []) ⟨hx, hb, hml, hown, hts⟩ hK hZ hRc hRs (c3_add l D cA lo MC MS G_250 B_251 X a S (fup (fup (fup (fup (fup F 0 (some (rr - (S.v (S.rp k (j - 1)))))) 1 (some ((S.v (S.rp k j)) - (S.v (S.rp k (j - 1)))))) 2 (some ((rr - (S.v (S.rp k (j - 1)))) / ((S.v (S.rp k j)) - (S.v (S.rp k (j - 1))))))) 0 (some ((S.v (S.rh k j)) - (S.v (S.rh k (j - 1)))))) 1 (some (((S.v (S.rh k j)) - (S.v (S.rh k (j - 1)))) * ((rr - (S.v (S.rp k (j - 1)))) / ((S.v (S.rp k j)) - (S.v (S.rp k (j - 1)))))))) V_253 C_254 hX1 hX2 0 (by decide) hf_128 (a.fr 1) (S.v (S.rh k (j - 1))) (((S.v (S.rh k j)) - (S.v (S.rh k (j - 1)))) * ((rr - (S.v (S.rp k (j - 1)))) / ((S.v (S.rp k j)) - (S.v (S.rp k (j - 1)))))) (Or.inr kq_268) (Or.inl ⟨1, by decide, by decide, rfl, rfl⟩) 100 603 rb_111 rb_274 (by decide)) (fun _ _ => cwV 4 hts (tb_good (tb_cons wm559 (tb_cons wm560 (tb_cons wm561 (tb_cons wm3 k_Ca_setSum))))) rfl rfl rfl (by decide +kernel) ⟨by rw [hRf]; exact Nat.le_of_ble_eq_true rfl, by rw [hRl]; exact Nat.le_of_ble_eq_true rfl⟩) f_278 rfl bl_275 bl_276 rfl (Nat.le_of_ble_eq_true rfl) d_Mf_setHeight_177) (fun G_279 B_280 p_281 => ?_)
      obtain ⟨V_282, C_283, fr_284⟩ := p_281
      have iv_285 : isV cA G_279 h_15 (S.v (S.rp k j)) (S.un (S.rp k j)) := isV_24 iv_256 fr_284
      have iv_286 : isV cA G_279 h_16 (S.v (S.rh k j)) (S.un (S.rh k j)) := isV_24 iv_257 fr_284
      have iv_287 : isV cA G_279 h_30 (S.v (S.rp k j)) (S.un (S.rp k j)) := isV_24 iv_258 fr_284
      have iv_288 : isV cA G_279 h_31 (S.v (S.rh k j)) (S.un (S.rh k j)) := isV_24 iv_259 fr_284
      have iv_289 : isV cA G_279 h_104 (S.v (S.rp k (j - 1))) (S.un (S.rp k (j - 1))) := isV_24 iv_260 fr_284
      have iv_290 : isV cA G_279 h_105 (S.v (S.rh k (j - 1))) (S.un (S.rh k (j - 1))) := isV_24 iv_261 fr_284
      have iv_291 : isV cA G_279 h_119 (S.v (S.rp k (j - 1))) (S.un (S.rp k (j - 1))) := isV_24 iv_262 fr_284
      have iv_292 : isV cA G_279 h_120 (S.v (S.rh k (j - 1))) (S.un (S.rh k (j - 1))) := isV_24 iv_263 fr_284
      have kq_293 : kq cA G_279 hf rr := kq_24 kq_264 fr_284
      have kq_294 : kq cA G_279 hf_26 (S.v (S.rp k j)) := kq_24 kq_265 fr_284
      have kq_295 : kq cA G_279 hf_39 (S.v (S.rh k j)) := kq_24 kq_266 fr_284
      have kq_296 : kq cA G_279 hf_115 (S.v (S.rp k (j - 1))) := kq_24 kq_267 fr_284
      have kq_297 : kq cA G_279 hf_128 (S.v (S.rh k (j - 1))) := kq_24 kq_268 fr_284
      have fr_298 : gfr (fun x => x < 24) G G_279 := gfr_24 fr_269 fr_284
      have f_299 : G_279 h_15 = some (30, .inr (6, [.ref hf_26, .int (iI (S.un (S.rp k j)))])) := fr_284 _ _ f_270 (show ¬ (30 : Nat) < 24 by decide)
      have f_300 : G_279 h_31 = some (30, .inr (6, [.ref hf_39, .int (iI (S.un (S.rh k j)))])) := fr_284 _ _ f_271 (show ¬ (30 : Nat) < 24 by decide)
      have f_301 : G_279 h_104 = some (30, .inr (6, [.ref hf_115, .int (iI (S.un (S.rp k (j - 1))))])) := fr_284 _ _ f_272 (show ¬ (30 : Nat) < 24 by decide)
      have f_302 : G_279 h_120 = some (30, .inr (6, [.ref hf_128, .int (iI (S.un (S.rh k (j - 1))))])) := fr_284 _ _ f_273 (show ¬ (30 : Nat) < 24 by decide)
      have rb_303 : rb ((S.v (S.rh k (j - 1))) + (((S.v (S.rh k j)) - (S.v (S.rh k (j - 1)))) * ((rr - (S.v (S.rp k (j - 1)))) / ((S.v (S.rp k j)) - (S.v (S.rp k (j - 1))))))) 704 := rb_add (j := 100) (k := 603) rb_111 rb_274
      have bl_304 : B_280.1 ≤ MC := Nat.le_trans (w2_le C_283.w).1 hX1
      have bl_305 : B_280.2 ≤ MS := Nat.le_trans (w2_le C_283.w).2 hX2
      exact hret 180 _ _ _ d_Mf_setHeight_180 bl_304 bl_305 ⟨_, V_282, C_283, by show some _ = _; unfold hgt; rw [if_neg hxn], by unfold hgt; rw [if_neg hxn]; exact rb_up rb_303 (by decide), fr_298⟩
    · skip
      have nc_91 : (rcmp rr (S.v (S.rp k j))) = 0 := (ii_ne (a := (rcmp rr (S.v (S.rp k j)))) (b := 0) (by omega) (by omega) (by omega) (by omega)).2 (by first | exact c_91 | (have z9 := c_91; simp only [nI_iI] at z9; exact z9))
      have hx0 : rr = S.v (S.rp k j) := rcmp_0.mp nc_91
      refine gs (pc' := 40) (fun _ _ _ _ _ hl => lv_aload_n hx hb d_Mf_setHeight_39 rfl (lv_at hl 2 rfl)) ?_
      have f_306 : G_69 a.x = some (31, .inr (8, [.ref a.vs, .int (nI S.n), .ref a.rs, .int (nI S.rn), .ref a.ws, .ref a.ca, .ref (a.fr 0), .ref (a.fr 1), .ref (a.fr 2), .ref (a.fr 3), .ref a.zr, .ref a.fo, .ref a.ha, .ref a.si])) := C_76.ob
      refine g_get hx hb hts hin_Mf hown hK f_306 rfl 6 (by decide) (hts _ wm241) (fun _ h9 => h9) rfl d_Mf_setHeight_40 ?_
      refine gs (pc' := 45) (fun _ _ _ _ _ hl => lv_aload hx hb d_Mf_setHeight_43 (lv_at hl 0 rfl)) ?_
      obtain ⟨sg_307, f_308, g_309⟩ := C_76.fr 0 (by decide)
      have f_310 : G_69 (a.fr 0) = some (20 + 0, .inr (3, [.int sg_307, .ref (a.ad (11 + 2 * 0)), .ref (a.ad (12 + 2 * 0))])) := f_308
      refine g_outv hlo (g_runV (As := [.ref hf_39]) (rest := []) ⟨hx, hb, hml, hown, hts⟩ hK hZ hRc hRs (c3_to l D cA lo MC MS G_69 B_70 X a S F V_75 C_76 hX1 hX2 0 (by decide) hf_39 (S.v (S.rh k j)) (Or.inr kq_84) 100 rb_22 (by decide)) (fun _ _ => cwV 1 hts (tb_good (tb_cons wm696 (tb_cons wm514 (tb_cons wm515 (tb_cons wm8 k_Fr_setTo))))) rfl rfl rfl (by decide +kernel) ⟨by rw [hRf]; exact Nat.le_of_ble_eq_true rfl, by rw [hRl]; exact Nat.le_of_ble_eq_true rfl⟩) f_310 rfl bl_88 bl_89 rfl (Nat.le_of_ble_eq_true rfl) d_Mf_setHeight_45) (fun G_311 B_312 p_313 => ?_)
      obtain ⟨V_314, C_315, fr_316⟩ := p_313
      have iv_317 : isV cA G_311 h_15 (S.v (S.rp k j)) (S.un (S.rp k j)) := isV_24 iv_78 fr_316
      have iv_318 : isV cA G_311 h_16 (S.v (S.rh k j)) (S.un (S.rh k j)) := isV_24 iv_79 fr_316
      have iv_319 : isV cA G_311 h_30 (S.v (S.rp k j)) (S.un (S.rp k j)) := isV_24 iv_80 fr_316
      have iv_320 : isV cA G_311 h_31 (S.v (S.rh k j)) (S.un (S.rh k j)) := isV_24 iv_81 fr_316
      have kq_321 : kq cA G_311 hf rr := kq_24 kq_82 fr_316
      have kq_322 : kq cA G_311 hf_26 (S.v (S.rp k j)) := kq_24 kq_83 fr_316
      have kq_323 : kq cA G_311 hf_39 (S.v (S.rh k j)) := kq_24 kq_84 fr_316
      have fr_324 : gfr (fun x => x < 24) G G_311 := gfr_24 fr_85 fr_316
      have f_325 : G_311 h_15 = some (30, .inr (6, [.ref hf_26, .int (iI (S.un (S.rp k j)))])) := fr_316 _ _ f_86 (show ¬ (30 : Nat) < 24 by decide)
      have f_326 : G_311 h_31 = some (30, .inr (6, [.ref hf_39, .int (iI (S.un (S.rh k j)))])) := fr_316 _ _ f_87 (show ¬ (30 : Nat) < 24 by decide)
      have bl_327 : B_312.1 ≤ MC := Nat.le_trans (w2_le C_315.w).1 hX1
      have bl_328 : B_312.2 ≤ MS := Nat.le_trans (w2_le C_315.w).2 hX2
      exact hret 48 _ _ _ d_Mf_setHeight_48 bl_327 bl_328 ⟨_, V_314, C_315, by show some _ = _; unfold hgt; rw [if_pos hx0], by unfold hgt; rw [if_pos hx0]; exact rb_up rb_22 (by decide), fr_324⟩
set_option maxHeartbeats 4000000 in
set_option maxRecDepth 100000 in
theorem c_Mf_corner (l : Launch) (D : va_G) (cA : Nat → ClassId) (lo MC MS : Nat) (G : gT) (B : Nat × Nat) (X : Nat × Nat) (a : AX) (S : St) (F : Nat → Option Rat) (V : Nat → Nat) (hC : CW cA X a S F V (G, B)) (hW : WF S) (g : Int) (hg1 : -2147483648 ≤ g) (hg2 : g < 2147483648) (x : Int) (hx1 : -2147483648 ≤ x) (hx2 : x < 2147483648) (y : Int) (hy1 : -2147483648 ≤ y) (hy2 : y < 2147483648) (hk : (sp_corner S (iI g) (iI x) (iI y)).1 = 0) (hY1 : X.1 + 6 ≤ MC) (hY2 : X.2 + 209 ≤ MS) : gMet l y_Mf_corner w_Mf_corner 6 158 D clS (gtys cA) lo MC MS [.ref a.x, .int (iI g), .int (iI x), .int (iI y)] G B (gQi D clS lo (fun r u => r = iI (sp_corner S (iI g) (iI x) (iI y)).2.1 ∧ CW3 cA (X.1 + 6, X.2 + 209) a (sp_corner S (iI g) (iI x) (iI y)).2.2 u ∧ gfr (fun x => x < 70) G u.1)) := by
  refine g_meti (cc := prog_1_method_13_code) (nL := 8) (L := [(0, .ref a.x), (1, .int (iI g)), (2, .int (iI x)), (3, .int (iI y))]) (by decide +kernel) rfl (Nat.le_of_ble_eq_true rfl) rfl ?_
  intro p e R s m args below meth c Q hF hRc hRs hRf hRl hret
  obtain ⟨hx, hb, hr, hml, hts0, hown, hlocks, hin, hK, hlo, hZ⟩ := hF
  have hts : ∀ w ∈ tbg, w.before args s = true := fun w h => hts0 w (List.mem_cons_of_mem _ h)
  have hX1 : X.1 ≤ MC := by omega
  have hX2 : X.2 ≤ MS := by omega
  have hn := hW.n
  have hrn := hW.rn
  have hwn := hW.wn
  have bl_1 : B.1 ≤ MC := Nat.le_trans (w2_le hC.w).1 hX1
  have bl_2 : B.2 ≤ MS := Nat.le_trans (w2_le hC.w).2 hX2
  have hv : ri S (iI g) ∧ vi S (iI x) ∧ vi S (iI y) := by
    by_cases z9 : ri S (iI g) ∧ vi S (iI x) ∧ vi S (iI y)
    · exact z9
    · rw [sp_corner, if_pos z9] at hk; simp at hk
  obtain ⟨k, hi_k, hxe_g, ei_k⟩ := ix_of hv.1.1 hv.1.2
  rw [hxe_g]
  obtain ⟨i, hi_i, hxe_x, ei_i⟩ := ix_of hv.2.1.1 hv.2.1.2
  rw [hxe_x]
  obtain ⟨j, hi_j, hxe_y, ei_j⟩ := ix_of hv.2.2.1 hv.2.2.2
  rw [hxe_y]
  have hrc := hW.rc k hi_k
  have hsp : sp_corner S (iI g) (iI x) (iI y) = if 0 < S.rc k ∧ (S.un i ≠ S.un (S.rp k 0) ∨ S.un j ≠ S.un (S.rh k 0)) then (0, -2, S) else if S.rc k = 16 then (0, -3, S) else if 0 < S.rc k ∧ S.v i ≤ S.v (S.rp k (S.rc k - 1)) then (0, -5, S) else (0, (S.rc k : Int) + 1, S.sr S.rn (fup S.rc k (S.rc k + 1)) (fup S.rp k (fup (S.rp k) (S.rc k) i)) (fup S.rh k (fup (S.rh k) (S.rc k) j))) := by
    rw [sp_corner, if_neg (fun z9 => z9 hv), ei_k, ei_i, ei_j]
  refine gs (pc' := 1) (fun _ _ _ _ _ hl => lv_aload_n hx hb d_Mf_corner_0 rfl (lv_at hl 0 rfl)) ?_
  refine gs (pc' := 2) (fun _ _ _ _ _ hl => lv_iload_n hx hb d_Mf_corner_1 rfl (lv_at hl 1 rfl)) ?_
  have f_3 : G a.x = some (31, .inr (8, [.ref a.vs, .int (nI S.n), .ref a.rs, .int (nI S.rn), .ref a.ws, .ref a.ca, .ref (a.fr 0), .ref (a.fr 1), .ref (a.fr 2), .ref (a.fr 3), .ref a.zr, .ref a.fo, .ref a.ha, .ref a.si])) := hC.ob
  refine g_outr hlo (g_runV (As := [.int (nI k)]) (rest := []) ⟨hx, hb, hml, hown, hts⟩ hK hZ hRc hRs (c_Mf_rowOf l D cA lo MC MS G B X a S F V hC hW k (by omega) hX1 hX2) (fun _ _ => cwV 1 hts (tb_good (tb_cons wm672 (tb_cons wm674 (tb_cons ws14 (tb_cons wm1 k_Mf_rowOf))))) rfl rfl rfl (by decide +kernel) ⟨by rw [hRf]; exact Nat.le_of_ble_eq_true rfl, by rw [hRl]; exact Nat.le_of_ble_eq_true rfl⟩) f_3 rfl bl_1 bl_2 rfl (Nat.le_of_ble_eq_true rfl) d_Mf_corner_2) (fun r_7 G_4 B_5 p_6 => ?_)
  obtain ⟨u_8, e_9⟩ := p_6
  cases u_8
  subst e_9
  refine gst (pc' := 7) (L' := [(4, .ref (a.ro k)), (0, .ref a.x), (1, .int (nI k)), (2, .int (nI i)), (3, .int (nI j))]) (fun _ _ _ _ _ hl => lv_astore hx hb d_Mf_corner_5 hl (by decide) rfl) ?_
  refine gs (pc' := 8) (fun _ _ _ _ _ hl => lv_aload_n hx hb d_Mf_corner_7 rfl (lv_at hl 1 rfl)) ?_
  refine gs (pc' := 9) (fun _ _ _ _ _ hl => lv_iload_n hx hb d_Mf_corner_8 rfl (lv_at hl 3 rfl)) ?_
  refine g_outr hlo (g_runV (As := [.int (nI i)]) (rest := []) ⟨hx, hb, hml, hown, hts⟩ hK hZ hRc hRs (c_Mf_valueOf l D cA lo MC MS G B X a S F V hC hW i (by omega) hX1 hX2) (fun _ _ => cwV 1 hts (tb_good (tb_cons wm539 (tb_cons wm541 (tb_cons ws11 (tb_cons wm1 k_Mf_valueOf))))) rfl rfl rfl (by decide +kernel) ⟨by rw [hRf]; exact Nat.le_of_ble_eq_true rfl, by rw [hRl]; exact Nat.le_of_ble_eq_true rfl⟩) f_3 rfl bl_1 bl_2 rfl (Nat.le_of_ble_eq_true rfl) d_Mf_corner_9) (fun r_13 G_10 B_11 p_12 => ?_)
  obtain ⟨u_14, iv_15⟩ := p_12
  cases u_14
  have rb_16 : rb (S.v i) 100 := rb_of (hW.v _ (by omega)).1
  have ub_17 := (hW.v i (by omega)).2
  have ub_18 := ub_17.1
  have ub_19 := ub_17.2
  refine gst (pc' := 14) (L' := [(5, .ref r_13), (4, .ref (a.ro k)), (0, .ref a.x), (1, .int (nI k)), (2, .int (nI i)), (3, .int (nI j))]) (fun _ _ _ _ _ hl => lv_astore hx hb d_Mf_corner_12 hl (by decide) rfl) ?_
  refine gs (pc' := 15) (fun _ _ _ _ _ hl => lv_aload_n hx hb d_Mf_corner_14 rfl (lv_at hl 2 rfl)) ?_
  refine gs (pc' := 16) (fun _ _ _ _ _ hl => lv_iload_n hx hb d_Mf_corner_15 rfl (lv_at hl 5 rfl)) ?_
  refine g_outr hlo (g_runV (As := [.int (nI j)]) (rest := []) ⟨hx, hb, hml, hown, hts⟩ hK hZ hRc hRs (c_Mf_valueOf l D cA lo MC MS G B X a S F V hC hW j (by omega) hX1 hX2) (fun _ _ => cwV 1 hts (tb_good (tb_cons wm539 (tb_cons wm541 (tb_cons ws11 (tb_cons wm1 k_Mf_valueOf))))) rfl rfl rfl (by decide +kernel) ⟨by rw [hRf]; exact Nat.le_of_ble_eq_true rfl, by rw [hRl]; exact Nat.le_of_ble_eq_true rfl⟩) f_3 rfl bl_1 bl_2 rfl (Nat.le_of_ble_eq_true rfl) d_Mf_corner_16) (fun r_23 G_20 B_21 p_22 => ?_)
  obtain ⟨u_24, iv_25⟩ := p_22
  cases u_24
  have rb_26 : rb (S.v j) 100 := rb_of (hW.v _ (by omega)).1
  have ub_27 := (hW.v j (by omega)).2
  have ub_28 := ub_27.1
  have ub_29 := ub_27.2
  refine gst (pc' := 21) (L' := [(6, .ref r_23), (5, .ref r_13), (4, .ref (a.ro k)), (0, .ref a.x), (1, .int (nI k)), (2, .int (nI i)), (3, .int (nI j))]) (fun _ _ _ _ _ hl => lv_astore hx hb d_Mf_corner_19 hl (by decide) rfl) ?_
  refine gs (pc' := 23) (fun _ _ _ _ _ hl => lv_aload hx hb d_Mf_corner_21 (lv_at hl 2 rfl)) ?_
  obtain ⟨rc_30, pf_31, hg_32, f_33, f_34, f_35, g_36⟩ := hC.ro k (by omega)
  obtain ⟨g_37, g_38⟩ := g_36 hi_k
  subst g_37
  have f_39 : G (a.ro k) = some (40 + k, .inr (5, [.ref (a.rp k), .ref (a.rh k), .int (nI (S.rc k))])) := f_33
  have f_40 : G (a.rp k) = some (50 + k, .inl (cA 2, 16, .inr (.inr (.inr (.inr pf_31))))) := f_34
  have f_41 : G (a.rh k) = some (60 + k, .inl (cA 2, 16, .inr (.inr (.inr (.inr hg_32))))) := f_35
  refine g_get hx hb hts hin_Ro hown hK f_39 rfl 2 (by decide) (hts _ wm227) (fun _ h9 => h9) rfl d_Mf_corner_23 ?_
  refine gsb (pc1 := 121) (pc2 := 29) (fun _ _ _ _ _ => lv_if_le (tgt := 121) hx hb d_Mf_corner_26 (by decide)) (fun c_42 => ?_) (fun c_42 => ?_)
  · skip
    have nc_42 : (S.rc k) ≤ 0 := (n0_le (a := (S.rc k)) (by omega)).1 c_42
    have hu : ¬ (0 < S.rc k ∧ (S.un i ≠ S.un (S.rp k 0) ∨ S.un j ≠ S.un (S.rh k 0))) := fun z9 => absurd z9.1 (by omega)
    have h16 : ¬ S.rc k = 16 := by omega
    have ho : ¬ (0 < S.rc k ∧ S.v i ≤ S.v (S.rp k (S.rc k - 1))) := fun z9 => absurd z9.1 (by omega)
    refine gs (pc' := 123) (fun _ _ _ _ _ hl => lv_aload hx hb d_Mf_corner_121 (lv_at hl 2 rfl)) ?_
    refine gs (pc' := 125) (fun _ _ _ _ _ hl => lv_aload hx hb d_Mf_corner_123 (lv_at hl 1 rfl)) ?_
    refine gs (pc' := 127) (fun _ _ _ _ _ hl => lv_aload hx hb d_Mf_corner_125 (lv_at hl 0 rfl)) ?_
    obtain ⟨hf_43, f_44, kq_45⟩ := id iv_15
    have f_46 : G r_13 = some (30, .inr (6, [.ref hf_43, .int (iI (S.un i))])) := f_44
    obtain ⟨hf_47, f_48, kq_49⟩ := id iv_25
    have f_50 : G r_23 = some (30, .inr (6, [.ref hf_47, .int (iI (S.un j))])) := f_48
    refine g_outv hlo (g_runV (As := [.ref r_13, .ref r_23]) (rest := []) ⟨hx, hb, hml, hown, hts⟩ hK hZ hRc hRs (c_Ro_put l D cA lo MC MS G B (40 + k) (50 + k) (60 + k) (a.ro k) (a.rp k) (a.rh k) (S.rc k) r_13 r_23 30 30 hf_43 hf_47 (iI (S.un i)) (iI (S.un j)) pf_31 hg_32 (by omega) (by omega) (by omega) f_39 f_40 f_41 f_46 f_50 (by omega) bl_1 bl_2) (fun _ _ => cwV 2 hts (tb_good (tb_cons wm677 (tb_cons wm678 (tb_cons wm679 (tb_cons wm11 k_Ro_put))))) rfl rfl rfl (by decide +kernel) ⟨by rw [hRf]; exact Nat.le_of_ble_eq_true rfl, by rw [hRl]; exact Nat.le_of_ble_eq_true rfl⟩) f_39 rfl bl_1 bl_2 rfl (Nat.le_of_ble_eq_true rfl) d_Mf_corner_127) (fun G_51 B_52 p_53 => ?_)
    obtain ⟨e_54, f_55, f_56, f_57, gf_58⟩ := p_53
    have e_54b : B_52 = B := e_54
    subst e_54b
    have C_59 := CW.cornerV hC (by omega) hi_k gf_58 g_38 iv_15 iv_25 f_55 f_56 f_57
    refine gs (pc' := 132) (fun _ _ _ _ _ hl => lv_aload hx hb d_Mf_corner_130 (lv_at hl 2 rfl)) ?_
    refine g_get hx hb hts hin_Ro hown hK f_55 rfl 2 (by decide) (hts _ wm227) (fun _ h9 => h9) rfl d_Mf_corner_132 ?_
    rw [hsp, if_neg hu, if_neg h16, if_neg ho] at hret
    exact hret 135 _ _ _ _ d_Mf_corner_135 bl_1 bl_2 ⟨nI_iI _, (CW.up (X1 := (X.1 + 6, X.2 + 209)) C_59 (show X.1 ≤ X.1 + 6 by omega) (show X.2 ≤ X.2 + 209 by omega)), gfr_mono (gfr_tr (M := fun x => x < 24) gfr_rf gf_58) (fun x h9 => by rcases h9 with h9 | h9 <;> omega)⟩
  · skip
    have nc_42 : (S.rc k) > 0 := (n0_le (a := (S.rc k)) (by omega)).2 c_42
    have hc0 : 0 < S.rc k := nc_42
    refine gs (pc' := 31) (fun _ _ _ _ _ hl => lv_aload hx hb d_Mf_corner_29 (lv_at hl 2 rfl)) ?_
    refine g_get hx hb hts hin_Ro hown hK f_39 rfl 2 (by decide) (hts _ wm227) (fun _ h9 => h9) rfl d_Mf_corner_31 ?_
    refine gs (pc' := 35) (fun _ _ _ _ _ hl => lv_iconst (v := nI 1) hx hb d_Mf_corner_34 (by decide)) ?_
    refine gs (pc' := 36) (fun _ _ _ _ _ hl => lv_isub hx hb d_Mf_corner_35) ?_
    refine g_eqi (show (nI (S.rc k)) - (nI 1) = nI ((S.rc k) - 1) from pk_sub (by omega)) ?_
    refine gst (pc' := 38) (L' := [(7, .int (nI ((S.rc k) - 1))), (6, .ref r_23), (5, .ref r_13), (4, .ref (a.ro k)), (0, .ref a.x), (1, .int (nI k)), (2, .int (nI i)), (3, .int (nI j))]) (fun _ _ _ _ _ hl => lv_istore hx hb d_Mf_corner_36 hl (by decide) rfl) ?_
    refine gs (pc' := 40) (fun _ _ _ _ _ hl => lv_aload hx hb d_Mf_corner_38 (lv_at hl 2 rfl)) ?_
    obtain ⟨hf_60, f_61, kq_62⟩ := id iv_15
    have f_63 : G r_13 = some (30, .inr (6, [.ref hf_60, .int (iI (S.un i))])) := f_61
    refine g_get hx hb hts hin_Va hown hK f_63 rfl 1 (by decide) (hts _ wm525) (fun _ h9 => h9) rfl d_Mf_corner_40 ?_
    refine gs (pc' := 45) (fun _ _ _ _ _ hl => lv_aload hx hb d_Mf_corner_43 (lv_at hl 3 rfl)) ?_
    refine g_get hx hb hts hin_Ro hown hK f_39 rfl 0 (by decide) (hts _ wm223) (fun _ h9 => h9) rfl d_Mf_corner_45 ?_
    refine gs (pc' := 50) (fun _ _ _ _ _ hl => lv_iload hx hb d_Mf_corner_48 (lv_at hl 0 rfl)) ?_
    obtain ⟨h_64, h_65, e_66, e_67, iv_68, iv_69⟩ := g_38 ((S.rc k) - 1) (by omega)
    have rb_70 : rb (S.v (S.rp k ((S.rc k) - 1))) 100 := rb_of (hW.v _ (hW.rp k hi_k ((S.rc k) - 1) (by omega)).1).1
    have rb_71 : rb (S.v (S.rh k ((S.rc k) - 1))) 100 := rb_of (hW.v _ (hW.rp k hi_k ((S.rc k) - 1) (by omega)).2.1).1
    have wr_72 := hW.rp k hi_k ((S.rc k) - 1) (by omega)
    have ub_73 := (hW.v _ wr_72.1).2
    have ub_73a := ub_73.1
    have ub_73b := ub_73.2
    have ub_74 := (hW.v _ wr_72.2.1).2
    have ub_74a := ub_74.1
    have ub_74b := ub_74.2
    refine g_aalS hx hb hK 2 f_40 rfl (by omega) (by decide) e_66 d_Mf_corner_50 ?_
    obtain ⟨hf_75, f_76, kq_77⟩ := id iv_68
    have f_78 : G h_64 = some (30, .inr (6, [.ref hf_75, .int (iI (S.un (S.rp k ((S.rc k) - 1))))])) := f_76
    refine g_get hx hb hts hin_Va hown hK f_78 rfl 1 (by decide) (hts _ wm525) (fun _ h9 => h9) rfl d_Mf_corner_51 ?_
    refine gsb (pc1 := 76) (pc2 := 57) (fun _ _ _ _ _ => lv_icmp_ne (tgt := 76) hx hb d_Mf_corner_54 (by decide)) (fun c_79 => ?_) (fun c_79 => ?_)
    · skip
      have nc_79 : (S.un i) ≠ (S.un (S.rp k ((S.rc k) - 1))) := (ii_ne (a := (S.un i)) (b := (S.un (S.rp k ((S.rc k) - 1)))) (by omega) (by omega) (by omega) (by omega)).1 (by first | exact c_79 | (have z9 := c_79; simp only [nI_iI] at z9; exact z9))
      have hu : 0 < S.rc k ∧ (S.un i ≠ S.un (S.rp k 0) ∨ S.un j ≠ S.un (S.rh k 0)) := ⟨hc0, Or.inl (by rw [← wr_72.2.2.1]; exact nc_79)⟩
      refine gs (pc' := 78) (fun _ _ _ _ _ hl => lv_bipush (v := (-2)) hx hb d_Mf_corner_76 (by decide)) ?_
      refine g_eqi (show (-2) = iI (-2) from by decide) ?_
      have hs2 : sp_corner S (iI g) (iI x) (iI y) = (0, -2, S) := by rw [hsp, if_pos hu]
      exact hret 78 _ _ _ _ d_Mf_corner_78 bl_1 bl_2 ⟨by rw [hs2], by rw [hs2]; exact hC.up (X1 := (X.1 + 6, X.2 + 209)) (show X.1 ≤ X.1 + 6 by omega) (show X.2 ≤ X.2 + 209 by omega), (gfr_mono (M := fun x => x < 24) gfr_rf (fun x h9 => by omega))⟩
    · skip
      have nc_79 : (S.un i) = (S.un (S.rp k ((S.rc k) - 1))) := (ii_ne (a := (S.un i)) (b := (S.un (S.rp k ((S.rc k) - 1)))) (by omega) (by omega) (by omega) (by omega)).2 (by first | exact c_79 | (have z9 := c_79; simp only [nI_iI] at z9; exact z9))
      have hu1 := nc_79
      refine gs (pc' := 59) (fun _ _ _ _ _ hl => lv_aload hx hb d_Mf_corner_57 (lv_at hl 1 rfl)) ?_
      obtain ⟨hf_80, f_81, kq_82⟩ := id iv_25
      have f_83 : G r_23 = some (30, .inr (6, [.ref hf_80, .int (iI (S.un j))])) := f_81
      refine g_get hx hb hts hin_Va hown hK f_83 rfl 1 (by decide) (hts _ wm525) (fun _ h9 => h9) rfl d_Mf_corner_59 ?_
      refine gs (pc' := 64) (fun _ _ _ _ _ hl => lv_aload hx hb d_Mf_corner_62 (lv_at hl 3 rfl)) ?_
      refine g_get hx hb hts hin_Ro hown hK f_39 rfl 1 (by decide) (hts _ wm225) (fun _ h9 => h9) rfl d_Mf_corner_64 ?_
      refine gs (pc' := 69) (fun _ _ _ _ _ hl => lv_iload hx hb d_Mf_corner_67 (lv_at hl 0 rfl)) ?_
      obtain ⟨h_84, h_85, e_86, e_87, iv_88, iv_89⟩ := g_38 ((S.rc k) - 1) (by omega)
      have wr_90 := hW.rp k hi_k ((S.rc k) - 1) (by omega)
      have ub_91 := (hW.v _ wr_90.1).2
      have ub_91a := ub_91.1
      have ub_91b := ub_91.2
      have ub_92 := (hW.v _ wr_90.2.1).2
      have ub_92a := ub_92.1
      have ub_92b := ub_92.2
      refine g_aalS hx hb hK 2 f_41 rfl (by omega) (by decide) e_87 d_Mf_corner_69 ?_
      obtain ⟨hf_93, f_94, kq_95⟩ := id iv_89
      have f_96 : G h_85 = some (30, .inr (6, [.ref hf_93, .int (iI (S.un (S.rh k ((S.rc k) - 1))))])) := f_94
      refine g_get hx hb hts hin_Va hown hK f_96 rfl 1 (by decide) (hts _ wm525) (fun _ h9 => h9) rfl d_Mf_corner_70 ?_
      refine gsb (pc1 := 79) (pc2 := 76) (fun _ _ _ _ _ => lv_icmp_eq (tgt := 79) hx hb d_Mf_corner_73 (by decide)) (fun c_97 => ?_) (fun c_97 => ?_)
      · skip
        have nc_97 : (S.un j) = (S.un (S.rh k ((S.rc k) - 1))) := (ii_eq (a := (S.un j)) (b := (S.un (S.rh k ((S.rc k) - 1)))) (by omega) (by omega) (by omega) (by omega)).1 (by first | exact c_97 | (have z9 := c_97; simp only [nI_iI] at z9; exact z9))
        have hu : ¬ (0 < S.rc k ∧ (S.un i ≠ S.un (S.rp k 0) ∨ S.un j ≠ S.un (S.rh k 0))) := fun z9 => by rcases z9.2 with y9 | y9; (exact y9 (by rw [← wr_90.2.2.1]; exact hu1)); (exact y9 (by rw [← wr_90.2.2.2]; exact nc_97))
        refine gs (pc' := 81) (fun _ _ _ _ _ hl => lv_aload hx hb d_Mf_corner_79 (lv_at hl 3 rfl)) ?_
        refine g_get hx hb hts hin_Ro hown hK f_39 rfl 2 (by decide) (hts _ wm227) (fun _ h9 => h9) rfl d_Mf_corner_81 ?_
        refine gs (pc' := 86) (fun _ _ _ _ _ hl => lv_bipush (v := nI 16) hx hb d_Mf_corner_84 (by decide)) ?_
        refine gsb (pc1 := 92) (pc2 := 89) (fun _ _ _ _ _ => lv_icmp_lt (tgt := 92) hx hb d_Mf_corner_86 (by decide)) (fun c_98 => ?_) (fun c_98 => ?_)
        · skip
          have nc_98 : (S.rc k) < 16 := (nn_lt (a := (S.rc k)) (b := 16) (by omega) (by omega)).1 c_98
          have h16 : ¬ S.rc k = 16 := by omega
          refine gs (pc' := 93) (fun _ _ _ _ _ hl => lv_aload_n hx hb d_Mf_corner_92 rfl (lv_at hl 4 rfl)) ?_
          refine g_get hx hb hts hin_Mf hown hK f_3 rfl 5 (by decide) (hts _ wm240) (fun _ h9 => h9) rfl d_Mf_corner_93 ?_
          refine gs (pc' := 98) (fun _ _ _ _ _ hl => lv_aload hx hb d_Mf_corner_96 (lv_at hl 2 rfl)) ?_
          refine g_get hx hb hts hin_Va hown hK f_63 rfl 0 (by decide) (hts _ wm523) (fun _ h9 => h9) rfl d_Mf_corner_98 ?_
          refine gs (pc' := 103) (fun _ _ _ _ _ hl => lv_aload hx hb d_Mf_corner_101 (lv_at hl 3 rfl)) ?_
          refine g_get hx hb hts hin_Ro hown hK f_39 rfl 0 (by decide) (hts _ wm223) (fun _ h9 => h9) rfl d_Mf_corner_103 ?_
          refine gs (pc' := 108) (fun _ _ _ _ _ hl => lv_iload hx hb d_Mf_corner_106 (lv_at hl 0 rfl)) ?_
          obtain ⟨h_99, h_100, e_101, e_102, iv_103, iv_104⟩ := g_38 ((S.rc k) - 1) (by omega)
          have wr_105 := hW.rp k hi_k ((S.rc k) - 1) (by omega)
          have ub_106 := (hW.v _ wr_105.1).2
          have ub_106a := ub_106.1
          have ub_106b := ub_106.2
          have ub_107 := (hW.v _ wr_105.2.1).2
          have ub_107a := ub_107.1
          have ub_107b := ub_107.2
          refine g_aalS hx hb hK 2 f_40 rfl (by omega) (by decide) e_101 d_Mf_corner_108 ?_
          obtain ⟨hf_108, f_109, kq_110⟩ := id iv_103
          have f_111 : G h_99 = some (30, .inr (6, [.ref hf_108, .int (iI (S.un (S.rp k ((S.rc k) - 1))))])) := f_109
          refine g_get hx hb hts hin_Va hown hK f_111 rfl 0 (by decide) (hts _ wm523) (fun _ h9 => h9) rfl d_Mf_corner_109 ?_
          have f_112 : G a.ca = some (30, .inr (0, [.ref a.hd, .ref a.hc, .ref (a.ad 5), .ref (a.ad 6), .ref (a.ad 7), .ref (a.ad 8), .ref (a.ad 9), .ref (a.ad 10)])) := hC.ca
          refine g_outi hlo (g_runV (As := [.ref hf_60, .ref hf_108]) (rest := []) ⟨hx, hb, hml, hown, hts⟩ hK hZ hRc hRs (c3_cmp l D cA lo MC MS G B X a S F V hC hX1 hX2 hf_60 hf_108 (S.v i) (S.v (S.rp k ((S.rc k) - 1))) (Or.inr kq_62) (Or.inr kq_110) 100 100 rb_16 rb_70 (by decide)) (fun _ _ => cwV 2 hts (tb_good (tb_cons wm606 (tb_cons wm607 (tb_cons wm608 (tb_cons wm3 k_Ca_compare))))) rfl rfl rfl (by decide +kernel) ⟨by rw [hRf]; exact Nat.le_of_ble_eq_true rfl, by rw [hRl]; exact Nat.le_of_ble_eq_true rfl⟩) f_112 rfl bl_1 bl_2 rfl (Nat.le_of_ble_eq_true rfl) d_Mf_corner_112) (fun r_116 G_113 B_114 p_115 => ?_)
          obtain ⟨e_117, p_118⟩ := p_115
          subst e_117
          obtain ⟨V_119, C_120, fr_121⟩ := p_118
          have iv_122 : isV cA G_113 r_13 (S.v i) (S.un i) := isV_24 iv_15 fr_121
          have iv_123 : isV cA G_113 r_23 (S.v j) (S.un j) := isV_24 iv_25 fr_121
          have iv_124 : isV cA G_113 h_64 (S.v (S.rp k ((S.rc k) - 1))) (S.un (S.rp k ((S.rc k) - 1))) := isV_24 iv_68 fr_121
          have iv_125 : isV cA G_113 h_65 (S.v (S.rh k ((S.rc k) - 1))) (S.un (S.rh k ((S.rc k) - 1))) := isV_24 iv_69 fr_121
          have iv_126 : isV cA G_113 h_84 (S.v (S.rp k ((S.rc k) - 1))) (S.un (S.rp k ((S.rc k) - 1))) := isV_24 iv_88 fr_121
          have iv_127 : isV cA G_113 h_85 (S.v (S.rh k ((S.rc k) - 1))) (S.un (S.rh k ((S.rc k) - 1))) := isV_24 iv_89 fr_121
          have iv_128 : isV cA G_113 h_99 (S.v (S.rp k ((S.rc k) - 1))) (S.un (S.rp k ((S.rc k) - 1))) := isV_24 iv_103 fr_121
          have iv_129 : isV cA G_113 h_100 (S.v (S.rh k ((S.rc k) - 1))) (S.un (S.rh k ((S.rc k) - 1))) := isV_24 iv_104 fr_121
          have kq_130 : kq cA G_113 hf_60 (S.v i) := kq_24 kq_62 fr_121
          have kq_131 : kq cA G_113 hf_75 (S.v (S.rp k ((S.rc k) - 1))) := kq_24 kq_77 fr_121
          have kq_132 : kq cA G_113 hf_80 (S.v j) := kq_24 kq_82 fr_121
          have kq_133 : kq cA G_113 hf_93 (S.v (S.rh k ((S.rc k) - 1))) := kq_24 kq_95 fr_121
          have kq_134 : kq cA G_113 hf_108 (S.v (S.rp k ((S.rc k) - 1))) := kq_24 kq_110 fr_121
          have fr_135 : gfr (fun x => x < 24) G G_113 := gfr_24 gfr_rf fr_121
          have f_136 : G_113 r_13 = some (30, .inr (6, [.ref hf_60, .int (iI (S.un i))])) := fr_121 _ _ f_63 (show ¬ (30 : Nat) < 24 by decide)
          have f_137 : G_113 h_64 = some (30, .inr (6, [.ref hf_75, .int (iI (S.un (S.rp k ((S.rc k) - 1))))])) := fr_121 _ _ f_78 (show ¬ (30 : Nat) < 24 by decide)
          have f_138 : G_113 r_23 = some (30, .inr (6, [.ref hf_80, .int (iI (S.un j))])) := fr_121 _ _ f_83 (show ¬ (30 : Nat) < 24 by decide)
          have f_139 : G_113 h_85 = some (30, .inr (6, [.ref hf_93, .int (iI (S.un (S.rh k ((S.rc k) - 1))))])) := fr_121 _ _ f_96 (show ¬ (30 : Nat) < 24 by decide)
          have f_140 : G_113 h_99 = some (30, .inr (6, [.ref hf_108, .int (iI (S.un (S.rp k ((S.rc k) - 1))))])) := fr_121 _ _ f_111 (show ¬ (30 : Nat) < 24 by decide)
          have bl_141 : B_114.1 ≤ MC := Nat.le_trans (w2_le C_120.w).1 hX1
          have bl_142 : B_114.2 ≤ MS := Nat.le_trans (w2_le C_120.w).2 hX2
          have bd_143 := rcmp_bd (S.v i) (S.v (S.rp k ((S.rc k) - 1)))
          refine gsb (pc1 := 121) (pc2 := 118) (fun _ _ _ _ _ => lv_if_gt (tgt := 121) hx hb d_Mf_corner_115 (by decide)) (fun c_144 => ?_) (fun c_144 => ?_)
          · skip
            have nc_144 : (rcmp (S.v i) (S.v (S.rp k ((S.rc k) - 1)))) > 0 := (ii_gt (a := (rcmp (S.v i) (S.v (S.rp k ((S.rc k) - 1))))) (b := 0) (by omega) (by omega) (by omega) (by omega)).1 (by first | exact c_144 | (have z9 := c_144; simp only [nI_iI] at z9; exact z9))
            have ho : ¬ (0 < S.rc k ∧ S.v i ≤ S.v (S.rp k (S.rc k - 1))) := fun z9 => absurd (rcmp_le.mpr z9.2) (by omega)
            refine gs (pc' := 123) (fun _ _ _ _ _ hl => lv_aload hx hb d_Mf_corner_121 (lv_at hl 3 rfl)) ?_
            refine gs (pc' := 125) (fun _ _ _ _ _ hl => lv_aload hx hb d_Mf_corner_123 (lv_at hl 2 rfl)) ?_
            refine gs (pc' := 127) (fun _ _ _ _ _ hl => lv_aload hx hb d_Mf_corner_125 (lv_at hl 1 rfl)) ?_
            obtain ⟨rc_145, pf_146, hg_147, f_148, f_149, f_150, g_151⟩ := C_120.ro k (by omega)
            obtain ⟨g_152, g_153⟩ := g_151 hi_k
            subst g_152
            have f_154 : G_113 (a.ro k) = some (40 + k, .inr (5, [.ref (a.rp k), .ref (a.rh k), .int (nI (S.rc k))])) := f_148
            have f_155 : G_113 (a.rp k) = some (50 + k, .inl (cA 2, 16, .inr (.inr (.inr (.inr pf_146))))) := f_149
            have f_156 : G_113 (a.rh k) = some (60 + k, .inl (cA 2, 16, .inr (.inr (.inr (.inr hg_147))))) := f_150
            refine g_outv hlo (g_runV (As := [.ref r_13, .ref r_23]) (rest := []) ⟨hx, hb, hml, hown, hts⟩ hK hZ hRc hRs (c_Ro_put l D cA lo MC MS G_113 B_114 (40 + k) (50 + k) (60 + k) (a.ro k) (a.rp k) (a.rh k) (S.rc k) r_13 r_23 30 30 hf_60 hf_80 (iI (S.un i)) (iI (S.un j)) pf_146 hg_147 (by omega) (by omega) (by omega) f_154 f_155 f_156 f_136 f_138 (by omega) bl_141 bl_142) (fun _ _ => cwV 2 hts (tb_good (tb_cons wm677 (tb_cons wm678 (tb_cons wm679 (tb_cons wm11 k_Ro_put))))) rfl rfl rfl (by decide +kernel) ⟨by rw [hRf]; exact Nat.le_of_ble_eq_true rfl, by rw [hRl]; exact Nat.le_of_ble_eq_true rfl⟩) f_154 rfl bl_141 bl_142 rfl (Nat.le_of_ble_eq_true rfl) d_Mf_corner_127) (fun G_157 B_158 p_159 => ?_)
            obtain ⟨e_160, f_161, f_162, f_163, gf_164⟩ := p_159
            have e_160b : B_158 = B_114 := e_160
            subst e_160b
            have C_165 := CW.cornerV C_120 (by omega) hi_k gf_164 g_153 iv_122 iv_123 f_161 f_162 f_163
            refine gs (pc' := 132) (fun _ _ _ _ _ hl => lv_aload hx hb d_Mf_corner_130 (lv_at hl 3 rfl)) ?_
            refine g_get hx hb hts hin_Ro hown hK f_161 rfl 2 (by decide) (hts _ wm227) (fun _ h9 => h9) rfl d_Mf_corner_132 ?_
            rw [hsp, if_neg hu, if_neg h16, if_neg ho] at hret
            exact hret 135 _ _ _ _ d_Mf_corner_135 bl_141 bl_142 ⟨nI_iI _, (CW.up (X1 := (X.1 + 6, X.2 + 209)) C_165 (show X.1 ≤ X.1 + 6 by omega) (show X.2 ≤ X.2 + 209 by omega)), gfr_mono (gfr_tr (M := fun x => x < 24) fr_135 gf_164) (fun x h9 => by rcases h9 with h9 | h9 <;> omega)⟩
          · skip
            have nc_144 : (rcmp (S.v i) (S.v (S.rp k ((S.rc k) - 1)))) ≤ 0 := (ii_gt (a := (rcmp (S.v i) (S.v (S.rp k ((S.rc k) - 1))))) (b := 0) (by omega) (by omega) (by omega) (by omega)).2 (by first | exact c_144 | (have z9 := c_144; simp only [nI_iI] at z9; exact z9))
            have ho : 0 < S.rc k ∧ S.v i ≤ S.v (S.rp k (S.rc k - 1)) := ⟨hc0, rcmp_le.mp nc_144⟩
            refine gs (pc' := 120) (fun _ _ _ _ _ hl => lv_bipush (v := (-5)) hx hb d_Mf_corner_118 (by decide)) ?_
            refine g_eqi (show (-5) = iI (-5) from by decide) ?_
            have hs2 : sp_corner S (iI g) (iI x) (iI y) = (0, -5, S) := by rw [hsp, if_neg hu, if_neg h16, if_pos ho]
            exact hret 120 _ _ _ _ d_Mf_corner_120 bl_141 bl_142 ⟨by rw [hs2], by rw [hs2]; exact C_120.up (X1 := (X.1 + 6, X.2 + 209)) (show X.1 ≤ X.1 + 6 by omega) (show X.2 ≤ X.2 + 209 by omega), (gfr_mono (M := fun x => x < 24) fr_135 (fun x h9 => by omega))⟩
        · skip
          have nc_98 : (S.rc k) ≥ 16 := (nn_lt (a := (S.rc k)) (b := 16) (by omega) (by omega)).2 c_98
          have h16 : S.rc k = 16 := by omega
          refine gs (pc' := 91) (fun _ _ _ _ _ hl => lv_bipush (v := (-3)) hx hb d_Mf_corner_89 (by decide)) ?_
          refine g_eqi (show (-3) = iI (-3) from by decide) ?_
          have hs2 : sp_corner S (iI g) (iI x) (iI y) = (0, -3, S) := by rw [hsp, if_neg hu, if_pos h16]
          exact hret 91 _ _ _ _ d_Mf_corner_91 bl_1 bl_2 ⟨by rw [hs2], by rw [hs2]; exact hC.up (X1 := (X.1 + 6, X.2 + 209)) (show X.1 ≤ X.1 + 6 by omega) (show X.2 ≤ X.2 + 209 by omega), (gfr_mono (M := fun x => x < 24) gfr_rf (fun x h9 => by omega))⟩
      · skip
        have nc_97 : (S.un j) ≠ (S.un (S.rh k ((S.rc k) - 1))) := (ii_eq (a := (S.un j)) (b := (S.un (S.rh k ((S.rc k) - 1)))) (by omega) (by omega) (by omega) (by omega)).2 (by first | exact c_97 | (have z9 := c_97; simp only [nI_iI] at z9; exact z9))
        have hu : 0 < S.rc k ∧ (S.un i ≠ S.un (S.rp k 0) ∨ S.un j ≠ S.un (S.rh k 0)) := ⟨hc0, Or.inr (by rw [← wr_90.2.2.2]; exact nc_97)⟩
        refine gs (pc' := 78) (fun _ _ _ _ _ hl => lv_bipush (v := (-2)) hx hb d_Mf_corner_76 (by decide)) ?_
        refine g_eqi (show (-2) = iI (-2) from by decide) ?_
        have hs2 : sp_corner S (iI g) (iI x) (iI y) = (0, -2, S) := by rw [hsp, if_pos hu]
        exact hret 78 _ _ _ _ d_Mf_corner_78 bl_1 bl_2 ⟨by rw [hs2], by rw [hs2]; exact hC.up (X1 := (X.1 + 6, X.2 + 209)) (show X.1 ≤ X.1 + 6 by omega) (show X.2 ≤ X.2 + 209 by omega), (gfr_mono (M := fun x => x < 24) gfr_rf (fun x h9 => by omega))⟩
set_option maxHeartbeats 4000000 in
set_option maxRecDepth 100000 in
theorem t_Mf_corner1 (l : Launch) (D : va_G) (cA : Nat → ClassId) (lo MC MS : Nat) (G : gT) (B : Nat × Nat) (X : Nat × Nat) (a : AX) (S : St) (F : Nat → Option Rat) (V : Nat → Nat) (hC : CW cA X a S F V (G, B)) (hW : WF S) (g : Int) (hg1 : -2147483648 ≤ g) (hg2 : g < 2147483648) (x : Int) (hx1 : -2147483648 ≤ x) (hx2 : x < 2147483648) (y : Int) (hy1 : -2147483648 ≤ y) (hy2 : y < 2147483648) (hk : (sp_corner S (iI g) (iI x) (iI y)).1 = 1) (hY1 : X.1 + 1 ≤ MC) (hY2 : X.2 + 6 ≤ MS) (hfl : ∀ e : Env, l.admits e → e.platform.stackTraces = false) : gMetT l y_Mf_corner w_Mf_corner 7 111 D clS (gtys cA) lo MC MS [.ref a.x, .int (iI g), .int (iI x), .int (iI y)] G B (gQx D clS lo "java/lang/IndexOutOfBoundsException" (fun u => u = (G, B.1 + 1, B.2 + 6))) := by
  refine g_mett (cc := prog_1_method_13_code) (nL := 8) (ret := (Option.some .int)) (L := [(0, .ref a.x), (1, .int (iI g)), (2, .int (iI x)), (3, .int (iI y))]) (by decide +kernel) rfl (Nat.le_of_ble_eq_true rfl) rfl ?_
  intro p e R s m args below meth c Q hF hRc hRs hRf hRl hne hQ
  obtain ⟨hx, hb, hr, hml, hts0, hown, hlocks, hin, hK, hlo, hZ⟩ := hF
  have hts : ∀ w ∈ tbg, w.before args s = true := fun w h => hts0 w (List.mem_cons_of_mem _ h)
  have hX1 : X.1 ≤ MC := by omega
  have hX2 : X.2 ≤ MS := by omega
  have hn := hW.n
  have hrn := hW.rn
  have hwn := hW.wn
  have bl_1 : B.1 ≤ MC := Nat.le_trans (w2_le hC.w).1 hX1
  have bl_2 : B.2 ≤ MS := Nat.le_trans (w2_le hC.w).2 hX2
  have hv : ¬ (ri S (iI g) ∧ vi S (iI x) ∧ vi S (iI y)) := fun z9 => by
    rw [sp_corner, if_neg (fun z8 => z8 z9)] at hk
    split at hk
    · simp at hk
    split at hk
    · simp at hk
    split at hk
    · simp at hk
    · simp at hk
  by_cases hv_g : ri S (iI g)
  · skip
    obtain ⟨k, hi_k, hxe_g, ei_k⟩ := ix_of hv_g.1 hv_g.2
    rw [hxe_g]
    by_cases hv_x : vi S (iI x)
    · skip
      obtain ⟨i, hi_i, hxe_x, ei_i⟩ := ix_of hv_x.1 hv_x.2
      rw [hxe_x]
      have hv_y : ¬ vi S (iI y) := fun z9 => hv ⟨hv_g, hv_x, z9⟩
      refine gs (pc' := 1) (fun _ _ _ _ _ hl => lv_aload_n hx hb d_Mf_corner_0 rfl (lv_at hl 0 rfl)) ?_
      refine gs (pc' := 2) (fun _ _ _ _ _ hl => lv_iload_n hx hb d_Mf_corner_1 rfl (lv_at hl 1 rfl)) ?_
      have f_3 : G a.x = some (31, .inr (8, [.ref a.vs, .int (nI S.n), .ref a.rs, .int (nI S.rn), .ref a.ws, .ref a.ca, .ref (a.fr 0), .ref (a.fr 1), .ref (a.fr 2), .ref (a.fr 3), .ref a.zr, .ref a.fo, .ref a.ha, .ref a.si])) := hC.ob
      refine g_outr hlo (g_runV (As := [.int (nI k)]) (rest := []) ⟨hx, hb, hml, hown, hts⟩ hK hZ hRc hRs (c_Mf_rowOf l D cA lo MC MS G B X a S F V hC hW k (by omega) hX1 hX2) (fun _ _ => cwV 1 hts (tb_good (tb_cons wm672 (tb_cons wm674 (tb_cons ws14 (tb_cons wm1 k_Mf_rowOf))))) rfl rfl rfl (by decide +kernel) ⟨by rw [hRf]; exact Nat.le_of_ble_eq_true rfl, by rw [hRl]; exact Nat.le_of_ble_eq_true rfl⟩) f_3 rfl bl_1 bl_2 rfl (Nat.le_of_ble_eq_true rfl) d_Mf_corner_2) (fun r_7 G_4 B_5 p_6 => ?_)
      obtain ⟨u_8, e_9⟩ := p_6
      cases u_8
      subst e_9
      refine gst (pc' := 7) (L' := [(4, .ref (a.ro k)), (0, .ref a.x), (1, .int (nI k)), (2, .int (nI i)), (3, .int (iI y))]) (fun _ _ _ _ _ hl => lv_astore hx hb d_Mf_corner_5 hl (by decide) rfl) ?_
      refine gs (pc' := 8) (fun _ _ _ _ _ hl => lv_aload_n hx hb d_Mf_corner_7 rfl (lv_at hl 1 rfl)) ?_
      refine gs (pc' := 9) (fun _ _ _ _ _ hl => lv_iload_n hx hb d_Mf_corner_8 rfl (lv_at hl 3 rfl)) ?_
      refine g_outr hlo (g_runV (As := [.int (nI i)]) (rest := []) ⟨hx, hb, hml, hown, hts⟩ hK hZ hRc hRs (c_Mf_valueOf l D cA lo MC MS G B X a S F V hC hW i (by omega) hX1 hX2) (fun _ _ => cwV 1 hts (tb_good (tb_cons wm539 (tb_cons wm541 (tb_cons ws11 (tb_cons wm1 k_Mf_valueOf))))) rfl rfl rfl (by decide +kernel) ⟨by rw [hRf]; exact Nat.le_of_ble_eq_true rfl, by rw [hRl]; exact Nat.le_of_ble_eq_true rfl⟩) f_3 rfl bl_1 bl_2 rfl (Nat.le_of_ble_eq_true rfl) d_Mf_corner_9) (fun r_13 G_10 B_11 p_12 => ?_)
      obtain ⟨u_14, iv_15⟩ := p_12
      cases u_14
      have rb_16 : rb (S.v i) 100 := rb_of (hW.v _ (by omega)).1
      have ub_17 := (hW.v i (by omega)).2
      have ub_18 := ub_17.1
      have ub_19 := ub_17.2
      refine gst (pc' := 14) (L' := [(5, .ref r_13), (4, .ref (a.ro k)), (0, .ref a.x), (1, .int (nI k)), (2, .int (nI i)), (3, .int (iI y))]) (fun _ _ _ _ _ hl => lv_astore hx hb d_Mf_corner_12 hl (by decide) rfl) ?_
      refine gs (pc' := 15) (fun _ _ _ _ _ hl => lv_aload_n hx hb d_Mf_corner_14 rfl (lv_at hl 2 rfl)) ?_
      refine gs (pc' := 16) (fun _ _ _ _ _ hl => lv_iload_n hx hb d_Mf_corner_15 rfl (lv_at hl 5 rfl)) ?_
      exact g_up hlocks hne bl_1 bl_2 (g_thrV (As := [.int (iI y)]) (rest := []) ⟨hx, hb, hml, hown, hts⟩ hK hZ hRc hRs (t_Mf_valueOf l D cA lo MC MS G B X a S F V hC hW y hy1 hy2 (nvi hy1 hy2 hv_y) hY1 hY2 hfl) (fun _ _ => cwV 1 hts (tb_good (tb_cons wm539 (tb_cons wm541 (tb_cons ws11 (tb_cons wm1 k_Mf_valueOf))))) rfl rfl rfl (by decide +kernel) ⟨by rw [hRf]; exact Nat.le_of_ble_eq_true rfl, by rw [hRl]; exact Nat.le_of_ble_eq_true rfl⟩) f_3 rfl bl_1 bl_2 rfl (Nat.le_of_ble_eq_true rfl) d_Mf_corner_16) (fun _ h => h) hQ
    · skip
      refine gs (pc' := 1) (fun _ _ _ _ _ hl => lv_aload_n hx hb d_Mf_corner_0 rfl (lv_at hl 0 rfl)) ?_
      refine gs (pc' := 2) (fun _ _ _ _ _ hl => lv_iload_n hx hb d_Mf_corner_1 rfl (lv_at hl 1 rfl)) ?_
      have f_20 : G a.x = some (31, .inr (8, [.ref a.vs, .int (nI S.n), .ref a.rs, .int (nI S.rn), .ref a.ws, .ref a.ca, .ref (a.fr 0), .ref (a.fr 1), .ref (a.fr 2), .ref (a.fr 3), .ref a.zr, .ref a.fo, .ref a.ha, .ref a.si])) := hC.ob
      refine g_outr hlo (g_runV (As := [.int (nI k)]) (rest := []) ⟨hx, hb, hml, hown, hts⟩ hK hZ hRc hRs (c_Mf_rowOf l D cA lo MC MS G B X a S F V hC hW k (by omega) hX1 hX2) (fun _ _ => cwV 1 hts (tb_good (tb_cons wm672 (tb_cons wm674 (tb_cons ws14 (tb_cons wm1 k_Mf_rowOf))))) rfl rfl rfl (by decide +kernel) ⟨by rw [hRf]; exact Nat.le_of_ble_eq_true rfl, by rw [hRl]; exact Nat.le_of_ble_eq_true rfl⟩) f_20 rfl bl_1 bl_2 rfl (Nat.le_of_ble_eq_true rfl) d_Mf_corner_2) (fun r_24 G_21 B_22 p_23 => ?_)
      obtain ⟨u_25, e_26⟩ := p_23
      cases u_25
      subst e_26
      refine gst (pc' := 7) (L' := [(4, .ref (a.ro k)), (0, .ref a.x), (1, .int (nI k)), (2, .int (iI x)), (3, .int (iI y))]) (fun _ _ _ _ _ hl => lv_astore hx hb d_Mf_corner_5 hl (by decide) rfl) ?_
      refine gs (pc' := 8) (fun _ _ _ _ _ hl => lv_aload_n hx hb d_Mf_corner_7 rfl (lv_at hl 1 rfl)) ?_
      refine gs (pc' := 9) (fun _ _ _ _ _ hl => lv_iload_n hx hb d_Mf_corner_8 rfl (lv_at hl 3 rfl)) ?_
      exact g_up hlocks hne bl_1 bl_2 (g_thrV (As := [.int (iI x)]) (rest := []) ⟨hx, hb, hml, hown, hts⟩ hK hZ hRc hRs (t_Mf_valueOf l D cA lo MC MS G B X a S F V hC hW x hx1 hx2 (nvi hx1 hx2 hv_x) hY1 hY2 hfl) (fun _ _ => cwV 1 hts (tb_good (tb_cons wm539 (tb_cons wm541 (tb_cons ws11 (tb_cons wm1 k_Mf_valueOf))))) rfl rfl rfl (by decide +kernel) ⟨by rw [hRf]; exact Nat.le_of_ble_eq_true rfl, by rw [hRl]; exact Nat.le_of_ble_eq_true rfl⟩) f_20 rfl bl_1 bl_2 rfl (Nat.le_of_ble_eq_true rfl) d_Mf_corner_9) (fun _ h => h) hQ
  · skip
    refine gs (pc' := 1) (fun _ _ _ _ _ hl => lv_aload_n hx hb d_Mf_corner_0 rfl (lv_at hl 0 rfl)) ?_
    refine gs (pc' := 2) (fun _ _ _ _ _ hl => lv_iload_n hx hb d_Mf_corner_1 rfl (lv_at hl 1 rfl)) ?_
    have f_27 : G a.x = some (31, .inr (8, [.ref a.vs, .int (nI S.n), .ref a.rs, .int (nI S.rn), .ref a.ws, .ref a.ca, .ref (a.fr 0), .ref (a.fr 1), .ref (a.fr 2), .ref (a.fr 3), .ref a.zr, .ref a.fo, .ref a.ha, .ref a.si])) := hC.ob
    exact g_up hlocks hne bl_1 bl_2 (g_thrV (As := [.int (iI g)]) (rest := []) ⟨hx, hb, hml, hown, hts⟩ hK hZ hRc hRs (t_Mf_rowOf l D cA lo MC MS G B X a S F V hC hW g hg1 hg2 (nri hg1 hg2 hv_g) hY1 hY2 hfl) (fun _ _ => cwV 1 hts (tb_good (tb_cons wm672 (tb_cons wm674 (tb_cons ws14 (tb_cons wm1 k_Mf_rowOf))))) rfl rfl rfl (by decide +kernel) ⟨by rw [hRf]; exact Nat.le_of_ble_eq_true rfl, by rw [hRl]; exact Nat.le_of_ble_eq_true rfl⟩) f_27 rfl bl_1 bl_2 rfl (Nat.le_of_ble_eq_true rfl) d_Mf_corner_2) (fun _ h => h) hQ
