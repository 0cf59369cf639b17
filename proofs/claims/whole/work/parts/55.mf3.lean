set_option maxHeartbeats 4000000 in
set_option maxRecDepth 100000 in
theorem c_Mf_round (l : Launch) (D : va_G) (cA : Nat → ClassId) (lo MC MS : Nat) (G : gT) (B : Nat × Nat) (X : Nat × Nat) (a : AX) (S : St) (F : Nat → Option Rat) (V : Nat → Nat) (hC : CW cA X a S F V (G, B)) (hW : WF S) (x : Int) (hx1 : -2147483648 ≤ x) (hx2 : x < 2147483648) (ru : Int) (hru1 : -2147483648 ≤ ru) (hru2 : ru < 2147483648) (sp : Int) (hsp1 : -2147483648 ≤ sp) (hsp2 : sp < 2147483648) (hk : (sp_round S (iI x) (iI ru) (iI sp)).1 = 0) (hY1 : X.1 + 6 ≤ MC) (hY2 : X.2 + 209 ≤ MS) : gMet l y_Mf_round w_Mf_round 8 211 D clS (gtys cA) lo MC MS [.ref a.x, .int (iI x), .int (iI ru), .int (iI sp)] G B (gQi D clS lo (fun r u => r = iI (sp_round S (iI x) (iI ru) (iI sp)).2.1 ∧ CW3 cA (X.1 + 6, X.2 + 209) a (sp_round S (iI x) (iI ru) (iI sp)).2.2 u ∧ gfr (fun x => x < 70) G u.1)) := by
  refine g_meti (cc := prog_1_method_7_code) (nL := 5) (L := [(0, .ref a.x), (1, .int (iI x)), (2, .int (iI ru)), (3, .int (iI sp))]) (by decide +kernel) rfl (Nat.le_of_ble_eq_true rfl) rfl ?_
  intro p e R s m args below meth c Q hF hRc hRs hRf hRl hret
  obtain ⟨hx, hb, hr, hml, hts0, hown, hlocks, hin, hK, hlo, hZ⟩ := hF
  have hts : ∀ w ∈ tbg, w.before args s = true := fun w h => hts0 w (List.mem_cons_of_mem _ h)
  have hX1 : X.1 ≤ MC := by omega
  have hX2 : X.2 ≤ MS := by omega
  have hn := hW.n
  have hrn := hW.rn
  have hwn := hW.wn
  have bl_1 : B.1 ≤ MC := Nat.le_trans (w2_le hC.w).1 hX1
  have bl_2 : B.2 ≤ MS := Nat.le_trans (w2_le hC.w).2 hX2
  have hv : vi S (iI x) := by
    by_cases z9 : vi S (iI x)
    · exact z9
    · rw [sp_round, if_pos z9] at hk; exact absurd hk (by decide)
  have hq : (0 ≤ (iI ru).toInt ∧ (iI ru).toInt ≤ 3 ∧ 1 ≤ (iI sp).toInt ∧ (iI sp).toInt ≤ 1000000000) := by
    by_cases z9 : (0 ≤ (iI ru).toInt ∧ (iI ru).toInt ≤ 3 ∧ 1 ≤ (iI sp).toInt ∧ (iI sp).toInt ≤ 1000000000)
    · exact z9
    · rw [sp_round, if_neg (fun z8 => z8 hv), if_pos z9] at hk; exact absurd hk (by decide)
  obtain ⟨hq1, hq2, hq3, hq4⟩ := id hq
  obtain ⟨i, hi_i, hxe_x, ei_i⟩ := ix_of hv.1 hv.2
  rw [hxe_x]
  obtain ⟨rn, hrn4, hxe_ru, ei_rn⟩ := ix_of (n := 4) hq1 (by omega)
  obtain ⟨sn, hsn4, hxe_sp, ei_sn⟩ := ix_of (n := 1000000001) (x := iI sp) (by omega) (by omega)
  have hsn1 : 1 ≤ sn := by
    have z9 := ei_sn
    show 1 ≤ sn
    rw [← ei_sn]
    show 1 ≤ (iI sp).toInt.toNat
    omega
  rw [hxe_ru]
  rw [hxe_sp]
  have hsp : sp_round S (iI x) (iI ru) (iI sp) = if S.n = 200 then (0, -3, S) else kp S (rnd (S.v i) rn sn) (S.un i) := by
    rw [sp_round, if_neg (fun z9 => z9 hv), if_neg (fun z9 => z9 hq), ei_i, ei_rn, ei_sn]
  refine gs (pc' := 1) (fun _ _ _ _ _ hl => lv_aload_n hx hb d_Mf_round_0 rfl (lv_at hl 0 rfl)) ?_
  refine gs (pc' := 2) (fun _ _ _ _ _ hl => lv_iload_n hx hb d_Mf_round_1 rfl (lv_at hl 1 rfl)) ?_
  refine g_outr hlo (g_runV (As := [.int (nI i)]) (rest := []) ⟨hx, hb, hml, hown, hts⟩ hK hZ hRc hRs (c_Mf_valueOf l D cA lo MC MS G B X a S F V hC hW i (by omega) hX1 hX2) (fun _ _ => cwV 1 hts (tb_good (tb_cons wm539 (tb_cons wm541 (tb_cons ws11 (tb_cons wm1 k_Mf_valueOf))))) rfl rfl rfl (by decide +kernel) ⟨by rw [hRf]; exact Nat.le_of_ble_eq_true rfl, by rw [hRl]; exact Nat.le_of_ble_eq_true rfl⟩) hC.ob rfl bl_1 bl_2 rfl (Nat.le_of_ble_eq_true rfl) d_Mf_round_2) (fun r_6 G_3 B_4 p_5 => ?_)
  obtain ⟨u_7, iv_8⟩ := p_5
  cases u_7
  have rb_9 : rb (S.v i) 100 := rb_of (hW.v _ (by omega)).1
  have ub_10 := (hW.v i (by omega)).2
  have ub_11 := ub_10.1
  have ub_12 := ub_10.2
  refine gst (pc' := 7) (L' := [(4, .ref r_6), (0, .ref a.x), (1, .int (nI i)), (2, .int (nI rn)), (3, .int (nI sn))]) (fun _ _ _ _ _ hl => lv_astore hx hb d_Mf_round_5 hl (by decide) rfl) ?_
  refine gs (pc' := 8) (fun _ _ _ _ _ hl => lv_iload_n hx hb d_Mf_round_7 rfl (lv_at hl 3 rfl)) ?_
  refine gsb (pc1 := 16) (pc2 := 11) (fun _ _ _ _ _ => lv_if_lt (tgt := 16) hx hb d_Mf_round_8 (by decide)) (fun c_13 => ?_) (fun c_13 => ?_)
  · skip
    have nc_13 : rn < 0 := (n0_lt (a := rn) (by omega)).1 c_13
    exact absurd nc_13 (by omega)
  · skip
    have nc_13 : rn ≥ 0 := (n0_lt (a := rn) (by omega)).2 c_13
    refine gs (pc' := 12) (fun _ _ _ _ _ hl => lv_iload_n hx hb d_Mf_round_11 rfl (lv_at hl 3 rfl)) ?_
    refine gs (pc' := 13) (fun _ _ _ _ _ hl => lv_iconst (v := nI 3) hx hb d_Mf_round_12 (by decide)) ?_
    refine gsb (pc1 := 26) (pc2 := 16) (fun _ _ _ _ _ => lv_icmp_le (tgt := 26) hx hb d_Mf_round_13 (by decide)) (fun c_14 => ?_) (fun c_14 => ?_)
    · skip
      have nc_14 : rn ≤ 3 := (nn_le (a := rn) (b := 3) (by omega) (by omega)).1 c_14
      refine gs (pc' := 27) (fun _ _ _ _ _ hl => lv_iload_n hx hb d_Mf_round_26 rfl (lv_at hl 4 rfl)) ?_
      refine gs (pc' := 28) (fun _ _ _ _ _ hl => lv_iconst (v := nI 1) hx hb d_Mf_round_27 (by decide)) ?_
      refine gsb (pc1 := 37) (pc2 := 31) (fun _ _ _ _ _ => lv_icmp_lt (tgt := 37) hx hb d_Mf_round_28 (by decide)) (fun c_15 => ?_) (fun c_15 => ?_)
      · skip
        have nc_15 : sn < 1 := (nn_lt (a := sn) (b := 1) (by omega) (by omega)).1 c_15
        exact absurd nc_15 (by omega)
      · skip
        have nc_15 : sn ≥ 1 := (nn_lt (a := sn) (b := 1) (by omega) (by omega)).2 c_15
        refine gs (pc' := 32) (fun _ _ _ _ _ hl => lv_iload_n hx hb d_Mf_round_31 rfl (lv_at hl 4 rfl)) ?_
        refine gs (pc' := 34) (fun _ _ _ _ _ hl => lv_ldc (v := 1000000000) hx hb hown (hts _ wm618) d_Mf_round_32) ?_
        refine g_eqi (show 1000000000 = nI 1000000000 from rfl) ?_
        refine gsb (pc1 := 47) (pc2 := 37) (fun _ _ _ _ _ => lv_icmp_le (tgt := 47) hx hb d_Mf_round_34 (by decide)) (fun c_16 => ?_) (fun c_16 => ?_)
        · skip
          have nc_16 : sn ≤ 1000000000 := (nn_le (a := sn) (b := 1000000000) (by omega) (by omega)).1 c_16
          refine gs (pc' := 48) (fun _ _ _ _ _ hl => lv_aload_n hx hb d_Mf_round_47 rfl (lv_at hl 1 rfl)) ?_
          refine g_outi hlo (g_runV (As := []) (rest := []) ⟨hx, hb, hml, hown, hts⟩ hK hZ hRc hRs (c_Mf_isFull l D cA lo MC MS G B X a S F V hC hW hX1 hX2) (fun _ _ => cwV 0 hts (tb_good (tb_cons wm386 (tb_cons wm388 (tb_cons ws1 (tb_cons wm1 k_Mf_isFull))))) rfl rfl rfl (by decide +kernel) ⟨by rw [hRf]; exact Nat.le_of_ble_eq_true rfl, by rw [hRl]; exact Nat.le_of_ble_eq_true rfl⟩) hC.ob rfl bl_1 bl_2 rfl (Nat.le_of_ble_eq_true rfl) d_Mf_round_48) (fun r_20 G_17 B_18 p_19 => ?_)
          obtain ⟨u_21, e_22⟩ := p_19
          cases u_21
          subst e_22
          have bd_23 := b01_le (decide (S.n = 200))
          refine gsb (pc1 := 57) (pc2 := 54) (fun _ _ _ _ _ => lv_if_eq (tgt := 57) hx hb d_Mf_round_51 (by decide)) (fun c_24 => ?_) (fun c_24 => ?_)
          · skip
            have nc_24 : (b01 (decide (S.n = 200))) = 0 := (n0_eq (a := (b01 (decide (S.n = 200)))) (by omega)).1 c_24
            have hnf := b01_0 nc_24
            refine gs (pc' := 58) (fun _ _ _ _ _ hl => lv_aload_n hx hb d_Mf_round_57 rfl (lv_at hl 1 rfl)) ?_
            refine g_get hx hb hts hin_Mf hown hK hC.ob rfl 5 (by decide) (hts _ wm240) (fun _ h9 => h9) rfl d_Mf_round_58 ?_
            refine gs (pc' := 62) (fun _ _ _ _ _ hl => lv_aload_n hx hb d_Mf_round_61 rfl (lv_at hl 1 rfl)) ?_
            refine g_get hx hb hts hin_Mf hown hK hC.ob rfl 6 (by decide) (hts _ wm241) (fun _ h9 => h9) rfl d_Mf_round_62 ?_
            refine gs (pc' := 67) (fun _ _ _ _ _ hl => lv_aload hx hb d_Mf_round_65 (lv_at hl 0 rfl)) ?_
            obtain ⟨hf_25, f_26, kq_27⟩ := id iv_8
            refine g_get hx hb hts hin_Va hown hK f_26 rfl 0 (by decide) (hts _ wm523) (fun _ h9 => h9) rfl d_Mf_round_67 ?_
            refine gs (pc' := 71) (fun _ _ _ _ _ hl => lv_iload_n hx hb d_Mf_round_70 rfl (lv_at hl 3 rfl)) ?_
            refine gs (pc' := 72) (fun _ _ _ _ _ hl => lv_iload_n hx hb d_Mf_round_71 rfl (lv_at hl 4 rfl)) ?_
            refine g_outv hlo (g_runV (As := [.ref (a.fr 0), .ref hf_25, .int (nI rn), .int (nI sn)]) (rest := []) ⟨hx, hb, hml, hown, hts⟩ hK hZ hRc hRs (c3_round l D cA lo MC MS G B X a S F V hC hX1 hX2 0 (by decide) hf_25 (S.v i) (Or.inr kq_27) 100 rb_9 rn sn (by omega) (by omega) (by omega) (by decide)) (fun _ _ => cwV 4 hts (tb_good (tb_cons wm620 (tb_cons wm621 (tb_cons wm622 (tb_cons wm3 k_Ca_setRounded))))) rfl rfl rfl (by decide +kernel) ⟨by rw [hRf]; exact Nat.le_of_ble_eq_true rfl, by rw [hRl]; exact Nat.le_of_ble_eq_true rfl⟩) hC.ca rfl bl_1 bl_2 rfl (Nat.le_of_ble_eq_true rfl) d_Mf_round_72) (fun G_28 B_29 p_30 => ?_)
            obtain ⟨V_31, C_32, fr_33⟩ := p_30
            have iv_34 : isV cA G_28 r_6 (S.v i) (S.un i) := isV_24 iv_8 fr_33
            have kq_35 : kq cA G_28 hf_25 (S.v i) := kq_24 kq_27 fr_33
            have fr_36 : gfr (fun x => x < 24) G G_28 := gfr_24 gfr_rf fr_33
            have f_37 : G_28 r_6 = some (30, .inr (6, [.ref hf_25, .int (iI (S.un i))])) := fr_33 _ _ f_26 (show ¬ (30 : Nat) < 24 by decide)
            have rb_38 : rb (rnd (S.v i) rn sn) 103 := rb_rnd rb_9 (by omega) (by omega)
            have bl_39 : B_29.1 ≤ MC := Nat.le_trans (w2_le C_32.w).1 hX1
            have bl_40 : B_29.2 ≤ MS := Nat.le_trans (w2_le C_32.w).2 hX2
            refine gs (pc' := 76) (fun _ _ _ _ _ hl => lv_aload_n hx hb d_Mf_round_75 rfl (lv_at hl 1 rfl)) ?_
            refine gs (pc' := 77) (fun _ _ _ _ _ hl => lv_aload_n hx hb d_Mf_round_76 rfl (lv_at hl 1 rfl)) ?_
            refine g_get hx hb hts hin_Mf hown hK C_32.ob rfl 6 (by decide) (hts _ wm241) (fun _ h9 => h9) rfl d_Mf_round_77 ?_
            refine gs (pc' := 82) (fun _ _ _ _ _ hl => lv_aload hx hb d_Mf_round_80 (lv_at hl 0 rfl)) ?_
            refine g_get hx hb hts hin_Va hown hK f_37 rfl 1 (by decide) (hts _ wm525) (fun _ h9 => h9) rfl d_Mf_round_82 ?_
            refine g_outi hlo (g_runV (As := [.ref (a.fr 0), .int (iI (S.un i))]) (rest := []) ⟨hx, hb, hml, hown, hts⟩ hK hZ hRc hRs (c_Mf_keep0 l D cA lo MC MS G_28 B_29 X a S (fup F 0 (some (rnd (S.v i) rn sn))) V_31 C_32 hW (rnd (S.v i) rn sn) rfl 103 rb_38 (by decide) (S.un i) hnf hY1 hY2) (fun _ _ => cwV 2 hts (tb_good (tb_cons wm495 (tb_cons wm497 (tb_cons ws10 (tb_cons wm1 k_Mf_keep))))) rfl rfl rfl (by decide +kernel) ⟨by rw [hRf]; exact Nat.le_of_ble_eq_true rfl, by rw [hRl]; exact Nat.le_of_ble_eq_true rfl⟩) C_32.ob rfl bl_39 bl_40 rfl (Nat.le_of_ble_eq_true rfl) d_Mf_round_85) (fun r_44 G_41 B_42 p_43 => ?_)
            obtain ⟨e_45, C_46, fr_47⟩ := p_43
            subst e_45
            have fr_48 : gfr (fun x => x < 70) G G_41 := gfr_mono (gfr_tr fr_36 fr_47) (fun x h9 => by rcases h9 with h9 | h9 <;> omega)
            have bl_49 := CW3_le C_46
            have hs2 : sp_round S (iI x) (iI ru) (iI sp) = kp S (rnd (S.v i) rn sn) (S.un i) := by rw [hsp, if_neg hnf]
            exact hret 88 _ _ _ _ d_Mf_round_88 (Nat.le_trans bl_49.1 hY1) (Nat.le_trans bl_49.2 hY2) ⟨by rw [hs2], by rw [hs2]; exact C_46, fr_48⟩
          · skip
            have nc_24 : (b01 (decide (S.n = 200))) ≠ 0 := (n0_eq (a := (b01 (decide (S.n = 200)))) (by omega)).2 c_24
            have hnf := b01_1 nc_24
            refine gs (pc' := 56) (fun _ _ _ _ _ hl => lv_bipush (v := (-3)) hx hb d_Mf_round_54 (by decide)) ?_
            refine g_eqi (show (-3) = iI (-3) from by decide) ?_
            have hs2 : sp_round S (iI x) (iI ru) (iI sp) = (0, -3, S) := by rw [hsp, if_pos hnf]
            exact hret 56 _ _ _ _ d_Mf_round_56 bl_1 bl_2 ⟨by rw [hs2], by rw [hs2]; exact hC.up (X1 := (X.1 + 6, X.2 + 209)) (show X.1 ≤ X.1 + 6 by omega) (show X.2 ≤ X.2 + 209 by omega), (gfr_mono (M := fun x => x < 24) gfr_rf (fun x h9 => by omega))⟩
        · skip
          have nc_16 : sn > 1000000000 := (nn_le (a := sn) (b := 1000000000) (by omega) (by omega)).2 c_16
          exact absurd nc_16 (by omega)
    · skip
      have nc_14 : rn > 3 := (nn_le (a := rn) (b := 3) (by omega) (by omega)).2 c_14
      exact absurd nc_14 (by omega)
set_option maxHeartbeats 4000000 in
set_option maxRecDepth 100000 in
theorem t_Mf_round1 (l : Launch) (D : va_G) (cA : Nat → ClassId) (lo MC MS : Nat) (G : gT) (B : Nat × Nat) (X : Nat × Nat) (a : AX) (S : St) (F : Nat → Option Rat) (V : Nat → Nat) (hC : CW cA X a S F V (G, B)) (hW : WF S) (x : Int) (hx1 : -2147483648 ≤ x) (hx2 : x < 2147483648) (ru : Int) (hru1 : -2147483648 ≤ ru) (hru2 : ru < 2147483648) (sp : Int) (hsp1 : -2147483648 ≤ sp) (hsp2 : sp < 2147483648) (hk : (sp_round S (iI x) (iI ru) (iI sp)).1 = 1) (hY1 : X.1 + 1 ≤ MC) (hY2 : X.2 + 6 ≤ MS) (hfl : ∀ e : Env, l.admits e → e.platform.stackTraces = false) : gMetT l y_Mf_round w_Mf_round 7 111 D clS (gtys cA) lo MC MS [.ref a.x, .int (iI x), .int (iI ru), .int (iI sp)] G B (gQx D clS lo "java/lang/IndexOutOfBoundsException" (fun u => u = (G, B.1 + 1, B.2 + 6))) := by
  refine g_mett (cc := prog_1_method_7_code) (nL := 5) (ret := (Option.some .int)) (L := [(0, .ref a.x), (1, .int (iI x)), (2, .int (iI ru)), (3, .int (iI sp))]) (by decide +kernel) rfl (Nat.le_of_ble_eq_true rfl) rfl ?_
  intro p e R s m args below meth c Q hF hRc hRs hRf hRl hne hQ
  obtain ⟨hx, hb, hr, hml, hts0, hown, hlocks, hin, hK, hlo, hZ⟩ := hF
  have hts : ∀ w ∈ tbg, w.before args s = true := fun w h => hts0 w (List.mem_cons_of_mem _ h)
  have hX1 : X.1 ≤ MC := by omega
  have hX2 : X.2 ≤ MS := by omega
  have hn := hW.n
  have hrn := hW.rn
  have hwn := hW.wn
  have bl_1 : B.1 ≤ MC := Nat.le_trans (w2_le hC.w).1 hX1
  have bl_2 : B.2 ≤ MS := Nat.le_trans (w2_le hC.w).2 hX2
  have hv : ¬ vi S (iI x) := fun z9 => by
    rw [sp_round, if_neg (fun z8 => z8 z9)] at hk
    split at hk
    · exact absurd hk (by decide)
    split at hk
    · exact absurd hk (by decide)
    · rw [kp_0] at hk; exact absurd hk (by decide)
  refine gs (pc' := 1) (fun _ _ _ _ _ hl => lv_aload_n hx hb d_Mf_round_0 rfl (lv_at hl 0 rfl)) ?_
  refine gs (pc' := 2) (fun _ _ _ _ _ hl => lv_iload_n hx hb d_Mf_round_1 rfl (lv_at hl 1 rfl)) ?_
  exact g_up hlocks hne bl_1 bl_2 (g_thrV (As := [.int (iI x)]) (rest := []) ⟨hx, hb, hml, hown, hts⟩ hK hZ hRc hRs (t_Mf_valueOf l D cA lo MC MS G B X a S F V hC hW x hx1 hx2 (nvi hx1 hx2 hv) hY1 hY2 hfl) (fun _ _ => cwV 1 hts (tb_good (tb_cons wm539 (tb_cons wm541 (tb_cons ws11 (tb_cons wm1 k_Mf_valueOf))))) rfl rfl rfl (by decide +kernel) ⟨by rw [hRf]; exact Nat.le_of_ble_eq_true rfl, by rw [hRl]; exact Nat.le_of_ble_eq_true rfl⟩) hC.ob rfl bl_1 bl_2 rfl (Nat.le_of_ble_eq_true rfl) d_Mf_round_2) (fun _ h => h) hQ
set_option maxHeartbeats 4000000 in
set_option maxRecDepth 100000 in
theorem t_Mf_round2 (l : Launch) (D : va_G) (cA : Nat → ClassId) (lo MC MS : Nat) (G : gT) (B : Nat × Nat) (X : Nat × Nat) (a : AX) (S : St) (F : Nat → Option Rat) (V : Nat → Nat) (hC : CW cA X a S F V (G, B)) (hW : WF S) (x : Int) (hx1 : -2147483648 ≤ x) (hx2 : x < 2147483648) (ru : Int) (hru1 : -2147483648 ≤ ru) (hru2 : ru < 2147483648) (sp : Int) (hsp1 : -2147483648 ≤ sp) (hsp2 : sp < 2147483648) (hk : (sp_round S (iI x) (iI ru) (iI sp)).1 = 2) (hY1 : X.1 + 1 ≤ MC) (hY2 : X.2 + 6 ≤ MS) (hfl : ∀ e : Env, l.admits e → e.platform.stackTraces = false) : gMetT l y_Mf_round w_Mf_round 6 90 D clS (gtys cA) lo MC MS [.ref a.x, .int (iI x), .int (iI ru), .int (iI sp)] G B (gQx D clS lo "java/lang/IllegalArgumentException" (fun u => u = (G, B.1 + 1, B.2 + 6))) := by
  refine g_mett (cc := prog_1_method_7_code) (nL := 5) (ret := (Option.some .int)) (L := [(0, .ref a.x), (1, .int (iI x)), (2, .int (iI ru)), (3, .int (iI sp))]) (by decide +kernel) rfl (Nat.le_of_ble_eq_true rfl) rfl ?_
  intro p e R s m args below meth c Q hF hRc hRs hRf hRl hne hQ
  obtain ⟨hx, hb, hr, hml, hts0, hown, hlocks, hin, hK, hlo, hZ⟩ := hF
  have hts : ∀ w ∈ tbg, w.before args s = true := fun w h => hts0 w (List.mem_cons_of_mem _ h)
  have hX1 : X.1 ≤ MC := by omega
  have hX2 : X.2 ≤ MS := by omega
  have hn := hW.n
  have hrn := hW.rn
  have hwn := hW.wn
  have bl_1 : B.1 ≤ MC := Nat.le_trans (w2_le hC.w).1 hX1
  have bl_2 : B.2 ≤ MS := Nat.le_trans (w2_le hC.w).2 hX2
  have hv : vi S (iI x) := by
    by_cases z9 : vi S (iI x)
    · exact z9
    · rw [sp_round, if_pos z9] at hk; exact absurd hk (by decide)
  have hq : ¬ (0 ≤ (iI ru).toInt ∧ (iI ru).toInt ≤ 3 ∧ 1 ≤ (iI sp).toInt ∧ (iI sp).toInt ≤ 1000000000) := fun z9 => by
    rw [sp_round, if_neg (fun z8 => z8 hv), if_neg (fun z8 => z8 z9)] at hk
    split at hk
    · exact absurd hk (by decide)
    · rw [kp_0] at hk; exact absurd hk (by decide)
  rw [iI_toInt hru1 hru2, iI_toInt hsp1 hsp2] at hq
  obtain ⟨i, hi_i, hxe_x, ei_i⟩ := ix_of hv.1 hv.2
  rw [hxe_x]
  refine gs (pc' := 1) (fun _ _ _ _ _ hl => lv_aload_n hx hb d_Mf_round_0 rfl (lv_at hl 0 rfl)) ?_
  refine gs (pc' := 2) (fun _ _ _ _ _ hl => lv_iload_n hx hb d_Mf_round_1 rfl (lv_at hl 1 rfl)) ?_
  refine g_outr hlo (g_runV (As := [.int (nI i)]) (rest := []) ⟨hx, hb, hml, hown, hts⟩ hK hZ hRc hRs (c_Mf_valueOf l D cA lo MC MS G B X a S F V hC hW i (by omega) hX1 hX2) (fun _ _ => cwV 1 hts (tb_good (tb_cons wm539 (tb_cons wm541 (tb_cons ws11 (tb_cons wm1 k_Mf_valueOf))))) rfl rfl rfl (by decide +kernel) ⟨by rw [hRf]; exact Nat.le_of_ble_eq_true rfl, by rw [hRl]; exact Nat.le_of_ble_eq_true rfl⟩) hC.ob rfl bl_1 bl_2 rfl (Nat.le_of_ble_eq_true rfl) d_Mf_round_2) (fun r_6 G_3 B_4 p_5 => ?_)
  obtain ⟨u_7, iv_8⟩ := p_5
  cases u_7
  have rb_9 : rb (S.v i) 100 := rb_of (hW.v _ (by omega)).1
  have ub_10 := (hW.v i (by omega)).2
  have ub_11 := ub_10.1
  have ub_12 := ub_10.2
  refine gst (pc' := 7) (L' := [(4, .ref r_6), (0, .ref a.x), (1, .int (nI i)), (2, .int (iI ru)), (3, .int (iI sp))]) (fun _ _ _ _ _ hl => lv_astore hx hb d_Mf_round_5 hl (by decide) rfl) ?_
  refine gs (pc' := 8) (fun _ _ _ _ _ hl => lv_iload_n hx hb d_Mf_round_7 rfl (lv_at hl 3 rfl)) ?_
  refine gsb (pc1 := 16) (pc2 := 11) (fun _ _ _ _ _ => lv_if_lt (tgt := 16) hx hb d_Mf_round_8 (by decide)) (fun c_13 => ?_) (fun c_13 => ?_)
  · skip
    have nc_13 : ru < 0 := (ii_lt (a := ru) (b := 0) (by omega) (by omega) (by omega) (by omega)).1 (by first | exact c_13 | (have z9 := c_13; simp only [nI_iI] at z9; exact z9))
    have le_14 := w2_le hC.w
    exact g_throw hx hb hml hown hts hlo hZ hfl hlocks hne (fun U h h1 h2 => own_Iae h h1 h2) (by decide +kernel) wm370 wm371 wm17 (by decide) hRc hRs (by rw [hRf]; exact Nat.le_of_ble_eq_true rfl) (by rw [hRl]; exact Nat.le_of_ble_eq_true rfl) (by have := le_14.1; omega) (by have := le_14.2; omega) d_Mf_round_16 d_Mf_round_19 d_Mf_round_20 d_Mf_round_22 d_Mf_round_25 rfl hQ
  · skip
    have nc_13 : ru ≥ 0 := (ii_lt (a := ru) (b := 0) (by omega) (by omega) (by omega) (by omega)).2 (by first | exact c_13 | (have z9 := c_13; simp only [nI_iI] at z9; exact z9))
    refine gs (pc' := 12) (fun _ _ _ _ _ hl => lv_iload_n hx hb d_Mf_round_11 rfl (lv_at hl 3 rfl)) ?_
    refine gs (pc' := 13) (fun _ _ _ _ _ hl => lv_iconst (v := nI 3) hx hb d_Mf_round_12 (by decide)) ?_
    refine gsb (pc1 := 26) (pc2 := 16) (fun _ _ _ _ _ => lv_icmp_le (tgt := 26) hx hb d_Mf_round_13 (by decide)) (fun c_15 => ?_) (fun c_15 => ?_)
    · skip
      have nc_15 : ru ≤ ((3 : Nat) : Int) := (ii_le (a := ru) (b := ((3 : Nat) : Int)) (by omega) (by omega) (by omega) (by omega)).1 (by first | exact c_15 | (have z9 := c_15; simp only [nI_iI] at z9; exact z9))
      refine gs (pc' := 27) (fun _ _ _ _ _ hl => lv_iload_n hx hb d_Mf_round_26 rfl (lv_at hl 4 rfl)) ?_
      refine gs (pc' := 28) (fun _ _ _ _ _ hl => lv_iconst (v := nI 1) hx hb d_Mf_round_27 (by decide)) ?_
      refine gsb (pc1 := 37) (pc2 := 31) (fun _ _ _ _ _ => lv_icmp_lt (tgt := 37) hx hb d_Mf_round_28 (by decide)) (fun c_16 => ?_) (fun c_16 => ?_)
      · skip
        have nc_16 : sp < ((1 : Nat) : Int) := (ii_lt (a := sp) (b := ((1 : Nat) : Int)) (by omega) (by omega) (by omega) (by omega)).1 (by first | exact c_16 | (have z9 := c_16; simp only [nI_iI] at z9; exact z9))
        have le_17 := w2_le hC.w
        exact g_throw hx hb hml hown hts hlo hZ hfl hlocks hne (fun U h h1 h2 => own_Iae h h1 h2) (by decide +kernel) wm370 wm371 wm17 (by decide) hRc hRs (by rw [hRf]; exact Nat.le_of_ble_eq_true rfl) (by rw [hRl]; exact Nat.le_of_ble_eq_true rfl) (by have := le_17.1; omega) (by have := le_17.2; omega) d_Mf_round_37 d_Mf_round_40 d_Mf_round_41 d_Mf_round_43 d_Mf_round_46 rfl hQ
      · skip
        have nc_16 : sp ≥ ((1 : Nat) : Int) := (ii_lt (a := sp) (b := ((1 : Nat) : Int)) (by omega) (by omega) (by omega) (by omega)).2 (by first | exact c_16 | (have z9 := c_16; simp only [nI_iI] at z9; exact z9))
        refine gs (pc' := 32) (fun _ _ _ _ _ hl => lv_iload_n hx hb d_Mf_round_31 rfl (lv_at hl 4 rfl)) ?_
        refine gs (pc' := 34) (fun _ _ _ _ _ hl => lv_ldc (v := 1000000000) hx hb hown (hts _ wm618) d_Mf_round_32) ?_
        refine g_eqi (show 1000000000 = nI 1000000000 from rfl) ?_
        refine gsb (pc1 := 47) (pc2 := 37) (fun _ _ _ _ _ => lv_icmp_le (tgt := 47) hx hb d_Mf_round_34 (by decide)) (fun c_18 => ?_) (fun c_18 => ?_)
        · skip
          have nc_18 : sp ≤ ((1000000000 : Nat) : Int) := (ii_le (a := sp) (b := ((1000000000 : Nat) : Int)) (by omega) (by omega) (by omega) (by omega)).1 (by first | exact c_18 | (have z9 := c_18; simp only [nI_iI] at z9; exact z9))
          exact absurd nc_18 (fun z9 => hq ⟨by omega, by omega, by omega, by omega⟩)
        · skip
          have nc_18 : sp > ((1000000000 : Nat) : Int) := (ii_le (a := sp) (b := ((1000000000 : Nat) : Int)) (by omega) (by omega) (by omega) (by omega)).2 (by first | exact c_18 | (have z9 := c_18; simp only [nI_iI] at z9; exact z9))
          have le_19 := w2_le hC.w
          exact g_throw hx hb hml hown hts hlo hZ hfl hlocks hne (fun U h h1 h2 => own_Iae h h1 h2) (by decide +kernel) wm370 wm371 wm17 (by decide) hRc hRs (by rw [hRf]; exact Nat.le_of_ble_eq_true rfl) (by rw [hRl]; exact Nat.le_of_ble_eq_true rfl) (by have := le_19.1; omega) (by have := le_19.2; omega) d_Mf_round_37 d_Mf_round_40 d_Mf_round_41 d_Mf_round_43 d_Mf_round_46 rfl hQ
    · skip
      have nc_15 : ru > ((3 : Nat) : Int) := (ii_le (a := ru) (b := ((3 : Nat) : Int)) (by omega) (by omega) (by omega) (by omega)).2 (by first | exact c_15 | (have z9 := c_15; simp only [nI_iI] at z9; exact z9))
      have le_20 := w2_le hC.w
      exact g_throw hx hb hml hown hts hlo hZ hfl hlocks hne (fun U h h1 h2 => own_Iae h h1 h2) (by decide +kernel) wm370 wm371 wm17 (by decide) hRc hRs (by rw [hRf]; exact Nat.le_of_ble_eq_true rfl) (by rw [hRl]; exact Nat.le_of_ble_eq_true rfl) (by have := le_20.1; omega) (by have := le_20.2; omega) d_Mf_round_16 d_Mf_round_19 d_Mf_round_20 d_Mf_round_22 d_Mf_round_25 rfl hQ
set_option maxHeartbeats 4000000 in
set_option maxRecDepth 100000 in
theorem c_Mf_prism (l : Launch) (D : va_G) (cA : Nat → ClassId) (lo MC MS : Nat) (G : gT) (B : Nat × Nat) (X : Nat × Nat) (a : AX) (S : St) (F : Nat → Option Rat) (V : Nat → Nat) (hC : CW cA X a S F V (G, B)) (hW : WF S) (xa : Int) (hxa1 : -2147483648 ≤ xa) (hxa2 : xa < 2147483648) (xb : Int) (hxb1 : -2147483648 ≤ xb) (hxb2 : xb < 2147483648) (xc : Int) (hxc1 : -2147483648 ≤ xc) (hxc2 : xc < 2147483648) (xd : Int) (hxd1 : -2147483648 ≤ xd) (hxd2 : xd < 2147483648) (hk : (sp_prism S (iI xa) (iI xb) (iI xc) (iI xd)).1 = 0) (hY1 : X.1 + 6 ≤ MC) (hY2 : X.2 + 209 ≤ MS) : gMet l y_Mf_prism w_Mf_prism 7 190 D clS (gtys cA) lo MC MS [.ref a.x, .int (iI xa), .int (iI xb), .int (iI xc), .int (iI xd)] G B (gQi D clS lo (fun r u => r = iI (sp_prism S (iI xa) (iI xb) (iI xc) (iI xd)).2.1 ∧ CW3 cA (X.1 + 6, X.2 + 209) a (sp_prism S (iI xa) (iI xb) (iI xc) (iI xd)).2.2 u ∧ gfr (fun x => x < 70) G u.1)) := by
  refine g_meti (cc := prog_1_method_8_code) (nL := 10) (L := [(0, .ref a.x), (1, .int (iI xa)), (2, .int (iI xb)), (3, .int (iI xc)), (4, .int (iI xd))]) (by decide +kernel) rfl (Nat.le_of_ble_eq_true rfl) rfl ?_
  intro p e R s m args below meth c Q hF hRc hRs hRf hRl hret
  obtain ⟨hx, hb, hr, hml, hts0, hown, hlocks, hin, hK, hlo, hZ⟩ := hF
  have hts : ∀ w ∈ tbg, w.before args s = true := fun w h => hts0 w (List.mem_cons_of_mem _ h)
  have hX1 : X.1 ≤ MC := by omega
  have hX2 : X.2 ≤ MS := by omega
  have hn := hW.n
  have hrn := hW.rn
  have hwn := hW.wn
  have bl_1 : B.1 ≤ MC := Nat.le_trans (w2_le hC.w).1 hX1
  have bl_2 : B.2 ≤ MS := Nat.le_trans (w2_le hC.w).2 hX2
  have hv : vi S (iI xa) ∧ vi S (iI xb) ∧ vi S (iI xc) ∧ vi S (iI xd) := by
    by_cases z9 : vi S (iI xa) ∧ vi S (iI xb) ∧ vi S (iI xc) ∧ vi S (iI xd)
    · exact z9
    · rw [sp_prism, if_pos z9] at hk; exact absurd hk (by decide)
  obtain ⟨i, hi_i, hxe_xa, ei_i⟩ := ix_of hv.1.1 hv.1.2
  rw [hxe_xa]
  obtain ⟨j, hi_j, hxe_xb, ei_j⟩ := ix_of hv.2.1.1 hv.2.1.2
  rw [hxe_xb]
  obtain ⟨k, hi_k, hxe_xc, ei_k⟩ := ix_of hv.2.2.1.1 hv.2.2.1.2
  rw [hxe_xc]
  obtain ⟨o, hi_o, hxe_xd, ei_o⟩ := ix_of hv.2.2.2.1 hv.2.2.2.2
  rw [hxe_xd]
  have hsp : sp_prism S (iI xa) (iI xb) (iI xc) (iI xd) = if ¬ (S.un i = S.un j ∧ S.un i = S.un k ∧ uok (S.un i + S.un o)) then (0, -2, S) else if S.n = 200 then (0, -3, S) else kp S ((S.v i + S.v j * 4 + S.v k) * S.v o * (mkRat 1 6)) (S.un i + S.un o) := by
    rw [sp_prism, if_neg (fun z9 => z9 hv), ei_i, ei_j, ei_k, ei_o]
  refine gs (pc' := 1) (fun _ _ _ _ _ hl => lv_aload_n hx hb d_Mf_prism_0 rfl (lv_at hl 0 rfl)) ?_
  refine gs (pc' := 2) (fun _ _ _ _ _ hl => lv_iload_n hx hb d_Mf_prism_1 rfl (lv_at hl 1 rfl)) ?_
  refine g_outr hlo (g_runV (As := [.int (nI i)]) (rest := []) ⟨hx, hb, hml, hown, hts⟩ hK hZ hRc hRs (c_Mf_valueOf l D cA lo MC MS G B X a S F V hC hW i (by omega) hX1 hX2) (fun _ _ => cwV 1 hts (tb_good (tb_cons wm539 (tb_cons wm541 (tb_cons ws11 (tb_cons wm1 k_Mf_valueOf))))) rfl rfl rfl (by decide +kernel) ⟨by rw [hRf]; exact Nat.le_of_ble_eq_true rfl, by rw [hRl]; exact Nat.le_of_ble_eq_true rfl⟩) hC.ob rfl bl_1 bl_2 rfl (Nat.le_of_ble_eq_true rfl) d_Mf_prism_2) (fun r_6 G_3 B_4 p_5 => ?_)
  obtain ⟨u_7, iv_8⟩ := p_5
  cases u_7
  have rb_9 : rb (S.v i) 100 := rb_of (hW.v _ (by omega)).1
  have ub_10 := (hW.v i (by omega)).2
  have ub_11 := ub_10.1
  have ub_12 := ub_10.2
  refine gst (pc' := 7) (L' := [(5, .ref r_6), (0, .ref a.x), (1, .int (nI i)), (2, .int (nI j)), (3, .int (nI k)), (4, .int (nI o))]) (fun _ _ _ _ _ hl => lv_astore hx hb d_Mf_prism_5 hl (by decide) rfl) ?_
  refine gs (pc' := 8) (fun _ _ _ _ _ hl => lv_aload_n hx hb d_Mf_prism_7 rfl (lv_at hl 1 rfl)) ?_
  refine gs (pc' := 9) (fun _ _ _ _ _ hl => lv_iload_n hx hb d_Mf_prism_8 rfl (lv_at hl 3 rfl)) ?_
  refine g_outr hlo (g_runV (As := [.int (nI j)]) (rest := []) ⟨hx, hb, hml, hown, hts⟩ hK hZ hRc hRs (c_Mf_valueOf l D cA lo MC MS G B X a S F V hC hW j (by omega) hX1 hX2) (fun _ _ => cwV 1 hts (tb_good (tb_cons wm539 (tb_cons wm541 (tb_cons ws11 (tb_cons wm1 k_Mf_valueOf))))) rfl rfl rfl (by decide +kernel) ⟨by rw [hRf]; exact Nat.le_of_ble_eq_true rfl, by rw [hRl]; exact Nat.le_of_ble_eq_true rfl⟩) hC.ob rfl bl_1 bl_2 rfl (Nat.le_of_ble_eq_true rfl) d_Mf_prism_9) (fun r_16 G_13 B_14 p_15 => ?_)
  obtain ⟨u_17, iv_18⟩ := p_15
  cases u_17
  have rb_19 : rb (S.v j) 100 := rb_of (hW.v _ (by omega)).1
  have ub_20 := (hW.v j (by omega)).2
  have ub_21 := ub_20.1
  have ub_22 := ub_20.2
  refine gst (pc' := 14) (L' := [(6, .ref r_16), (5, .ref r_6), (0, .ref a.x), (1, .int (nI i)), (2, .int (nI j)), (3, .int (nI k)), (4, .int (nI o))]) (fun _ _ _ _ _ hl => lv_astore hx hb d_Mf_prism_12 hl (by decide) rfl) ?_
  refine gs (pc' := 15) (fun _ _ _ _ _ hl => lv_aload_n hx hb d_Mf_prism_14 rfl (lv_at hl 2 rfl)) ?_
  refine gs (pc' := 16) (fun _ _ _ _ _ hl => lv_iload_n hx hb d_Mf_prism_15 rfl (lv_at hl 5 rfl)) ?_
  refine g_outr hlo (g_runV (As := [.int (nI k)]) (rest := []) ⟨hx, hb, hml, hown, hts⟩ hK hZ hRc hRs (c_Mf_valueOf l D cA lo MC MS G B X a S F V hC hW k (by omega) hX1 hX2) (fun _ _ => cwV 1 hts (tb_good (tb_cons wm539 (tb_cons wm541 (tb_cons ws11 (tb_cons wm1 k_Mf_valueOf))))) rfl rfl rfl (by decide +kernel) ⟨by rw [hRf]; exact Nat.le_of_ble_eq_true rfl, by rw [hRl]; exact Nat.le_of_ble_eq_true rfl⟩) hC.ob rfl bl_1 bl_2 rfl (Nat.le_of_ble_eq_true rfl) d_Mf_prism_16) (fun r_26 G_23 B_24 p_25 => ?_)
  obtain ⟨u_27, iv_28⟩ := p_25
  cases u_27
  have rb_29 : rb (S.v k) 100 := rb_of (hW.v _ (by omega)).1
  have ub_30 := (hW.v k (by omega)).2
  have ub_31 := ub_30.1
  have ub_32 := ub_30.2
  refine gst (pc' := 21) (L' := [(7, .ref r_26), (6, .ref r_16), (5, .ref r_6), (0, .ref a.x), (1, .int (nI i)), (2, .int (nI j)), (3, .int (nI k)), (4, .int (nI o))]) (fun _ _ _ _ _ hl => lv_astore hx hb d_Mf_prism_19 hl (by decide) rfl) ?_
  refine gs (pc' := 22) (fun _ _ _ _ _ hl => lv_aload_n hx hb d_Mf_prism_21 rfl (lv_at hl 3 rfl)) ?_
  refine gs (pc' := 24) (fun _ _ _ _ _ hl => lv_iload hx hb d_Mf_prism_22 (lv_at hl 7 rfl)) ?_
  refine g_outr hlo (g_runV (As := [.int (nI o)]) (rest := []) ⟨hx, hb, hml, hown, hts⟩ hK hZ hRc hRs (c_Mf_valueOf l D cA lo MC MS G B X a S F V hC hW o (by omega) hX1 hX2) (fun _ _ => cwV 1 hts (tb_good (tb_cons wm539 (tb_cons wm541 (tb_cons ws11 (tb_cons wm1 k_Mf_valueOf))))) rfl rfl rfl (by decide +kernel) ⟨by rw [hRf]; exact Nat.le_of_ble_eq_true rfl, by rw [hRl]; exact Nat.le_of_ble_eq_true rfl⟩) hC.ob rfl bl_1 bl_2 rfl (Nat.le_of_ble_eq_true rfl) d_Mf_prism_24) (fun r_36 G_33 B_34 p_35 => ?_)
  obtain ⟨u_37, iv_38⟩ := p_35
  cases u_37
  have rb_39 : rb (S.v o) 100 := rb_of (hW.v _ (by omega)).1
  have ub_40 := (hW.v o (by omega)).2
  have ub_41 := ub_40.1
  have ub_42 := ub_40.2
  refine gst (pc' := 29) (L' := [(8, .ref r_36), (7, .ref r_26), (6, .ref r_16), (5, .ref r_6), (0, .ref a.x), (1, .int (nI i)), (2, .int (nI j)), (3, .int (nI k)), (4, .int (nI o))]) (fun _ _ _ _ _ hl => lv_astore hx hb d_Mf_prism_27 hl (by decide) rfl) ?_
  refine gs (pc' := 31) (fun _ _ _ _ _ hl => lv_aload hx hb d_Mf_prism_29 (lv_at hl 3 rfl)) ?_
  obtain ⟨hf_43, f_44, kq_45⟩ := id iv_8
  refine g_get hx hb hts hin_Va hown hK f_44 rfl 1 (by decide) (hts _ wm525) (fun _ h9 => h9) rfl d_Mf_prism_31 ?_
  refine gs (pc' := 36) (fun _ _ _ _ _ hl => lv_aload hx hb d_Mf_prism_34 (lv_at hl 0 rfl)) ?_
  obtain ⟨hf_46, f_47, kq_48⟩ := id iv_38
  refine g_get hx hb hts hin_Va hown hK f_47 rfl 1 (by decide) (hts _ wm525) (fun _ h9 => h9) rfl d_Mf_prism_36 ?_
  refine gs (pc' := 40) (fun _ _ _ _ _ hl => lv_iadd hx hb d_Mf_prism_39) ?_
  refine g_eqi (show (iI (S.un i)) + (iI (S.un o)) = iI ((S.un i) + (S.un o)) from by exact iI_add _ _) ?_
  refine gst (pc' := 42) (L' := [(9, .int (iI ((S.un i) + (S.un o)))), (8, .ref r_36), (7, .ref r_26), (6, .ref r_16), (5, .ref r_6), (0, .ref a.x), (1, .int (nI i)), (2, .int (nI j)), (3, .int (nI k)), (4, .int (nI o))]) (fun _ _ _ _ _ hl => lv_istore hx hb d_Mf_prism_40 hl (by decide) rfl) ?_
  refine gs (pc' := 44) (fun _ _ _ _ _ hl => lv_aload hx hb d_Mf_prism_42 (lv_at hl 4 rfl)) ?_
  refine g_get hx hb hts hin_Va hown hK f_44 rfl 1 (by decide) (hts _ wm525) (fun _ h9 => h9) rfl d_Mf_prism_44 ?_
  refine gs (pc' := 49) (fun _ _ _ _ _ hl => lv_aload hx hb d_Mf_prism_47 (lv_at hl 3 rfl)) ?_
  obtain ⟨hf_49, f_50, kq_51⟩ := id iv_18
  refine g_get hx hb hts hin_Va hown hK f_50 rfl 1 (by decide) (hts _ wm525) (fun _ h9 => h9) rfl d_Mf_prism_49 ?_
  refine gsb (pc1 := 76) (pc2 := 55) (fun _ _ _ _ _ => lv_icmp_ne (tgt := 76) hx hb d_Mf_prism_52 (by decide)) (fun c_52 => ?_) (fun c_52 => ?_)
  · skip
    have nc_52 : (S.un i) ≠ (S.un j) := (ii_ne (a := (S.un i)) (b := (S.un j)) (by omega) (by omega) (by omega) (by omega)).1 (by first | exact c_52 | (have z9 := c_52; simp only [nI_iI] at z9; exact z9))
    have hu : ¬ (S.un i = S.un j ∧ S.un i = S.un k ∧ uok (S.un i + S.un o)) := fun z9 => nc_52 z9.1
    refine gs (pc' := 78) (fun _ _ _ _ _ hl => lv_bipush (v := (-2)) hx hb d_Mf_prism_76 (by decide)) ?_
    refine g_eqi (show (-2) = iI (-2) from by decide) ?_
    have hs2 : sp_prism S (iI xa) (iI xb) (iI xc) (iI xd) = (0, -2, S) := by rw [hsp, if_pos hu]
    exact hret 78 _ _ _ _ d_Mf_prism_78 bl_1 bl_2 ⟨by rw [hs2], by rw [hs2]; exact hC.up (X1 := (X.1 + 6, X.2 + 209)) (show X.1 ≤ X.1 + 6 by omega) (show X.2 ≤ X.2 + 209 by omega), (gfr_mono (M := fun x => x < 24) gfr_rf (fun x h9 => by omega))⟩
  · skip
    have nc_52 : (S.un i) = (S.un j) := (ii_ne (a := (S.un i)) (b := (S.un j)) (by omega) (by omega) (by omega) (by omega)).2 (by first | exact c_52 | (have z9 := c_52; simp only [nI_iI] at z9; exact z9))
    have hu1 := nc_52
    refine gs (pc' := 57) (fun _ _ _ _ _ hl => lv_aload hx hb d_Mf_prism_55 (lv_at hl 4 rfl)) ?_
    refine g_get hx hb hts hin_Va hown hK f_44 rfl 1 (by decide) (hts _ wm525) (fun _ h9 => h9) rfl d_Mf_prism_57 ?_
    refine gs (pc' := 62) (fun _ _ _ _ _ hl => lv_aload hx hb d_Mf_prism_60 (lv_at hl 2 rfl)) ?_
    obtain ⟨hf_53, f_54, kq_55⟩ := id iv_28
    refine g_get hx hb hts hin_Va hown hK f_54 rfl 1 (by decide) (hts _ wm525) (fun _ h9 => h9) rfl d_Mf_prism_62 ?_
    refine gsb (pc1 := 76) (pc2 := 68) (fun _ _ _ _ _ => lv_icmp_ne (tgt := 76) hx hb d_Mf_prism_65 (by decide)) (fun c_56 => ?_) (fun c_56 => ?_)
    · skip
      have nc_56 : (S.un i) ≠ (S.un k) := (ii_ne (a := (S.un i)) (b := (S.un k)) (by omega) (by omega) (by omega) (by omega)).1 (by first | exact c_56 | (have z9 := c_56; simp only [nI_iI] at z9; exact z9))
      have hu : ¬ (S.un i = S.un j ∧ S.un i = S.un k ∧ uok (S.un i + S.un o)) := fun z9 => nc_56 z9.2.1
      refine gs (pc' := 78) (fun _ _ _ _ _ hl => lv_bipush (v := (-2)) hx hb d_Mf_prism_76 (by decide)) ?_
      refine g_eqi (show (-2) = iI (-2) from by decide) ?_
      have hs2 : sp_prism S (iI xa) (iI xb) (iI xc) (iI xd) = (0, -2, S) := by rw [hsp, if_pos hu]
      exact hret 78 _ _ _ _ d_Mf_prism_78 bl_1 bl_2 ⟨by rw [hs2], by rw [hs2]; exact hC.up (X1 := (X.1 + 6, X.2 + 209)) (show X.1 ≤ X.1 + 6 by omega) (show X.2 ≤ X.2 + 209 by omega), (gfr_mono (M := fun x => x < 24) gfr_rf (fun x h9 => by omega))⟩
    · skip
      have nc_56 : (S.un i) = (S.un k) := (ii_ne (a := (S.un i)) (b := (S.un k)) (by omega) (by omega) (by omega) (by omega)).2 (by first | exact c_56 | (have z9 := c_56; simp only [nI_iI] at z9; exact z9))
      have hu2 := nc_56
      refine gs (pc' := 70) (fun _ _ _ _ _ hl => lv_iload hx hb d_Mf_prism_68 (lv_at hl 0 rfl)) ?_
      refine g_outi hlo (g_runS (As := [.int (iI ((S.un i) + (S.un o)))]) (rest := []) ⟨hx, hb, hml, hown, hts⟩ hK hZ hRc hRs (c_Mf_isUnit l D cA lo MC MS G B ((S.un i) + (S.un o)) (by omega) (by omega) bl_1 bl_2) (fun _ _ => va_cwS 1 hts (tb_good (tb_cons wm367 (tb_cons wm368 (tb_cons wm1 k_Mf_isUnit)))) rfl rfl rfl (by decide +kernel) ⟨by rw [hRf]; exact Nat.le_of_ble_eq_true rfl, by rw [hRl]; exact Nat.le_of_ble_eq_true rfl⟩) bl_1 bl_2 rfl (Nat.le_of_ble_eq_true rfl) d_Mf_prism_70) (fun r_60 G_57 B_58 p_59 => ?_)
      obtain ⟨u_61, e_62⟩ := p_59
      cases u_61
      subst e_62
      have bd_63 := b01_le (decide (uok ((S.un i) + (S.un o))))
      refine gsb (pc1 := 79) (pc2 := 76) (fun _ _ _ _ _ => lv_if_ne (tgt := 79) hx hb d_Mf_prism_73 (by decide)) (fun c_64 => ?_) (fun c_64 => ?_)
      · skip
        have nc_64 : (b01 (decide (uok ((S.un i) + (S.un o))))) ≠ 0 := (n0_ne (a := (b01 (decide (uok ((S.un i) + (S.un o)))))) (by omega)).1 c_64
        have hu : ¬ ¬ (S.un i = S.un j ∧ S.un i = S.un k ∧ uok (S.un i + S.un o)) := fun z9 => z9 ⟨hu1, hu2, b01_1 nc_64⟩
        refine gs (pc' := 80) (fun _ _ _ _ _ hl => lv_aload_n hx hb d_Mf_prism_79 rfl (lv_at hl 5 rfl)) ?_
        refine g_outi hlo (g_runV (As := []) (rest := []) ⟨hx, hb, hml, hown, hts⟩ hK hZ hRc hRs (c_Mf_isFull l D cA lo MC MS G B X a S F V hC hW hX1 hX2) (fun _ _ => cwV 0 hts (tb_good (tb_cons wm386 (tb_cons wm388 (tb_cons ws1 (tb_cons wm1 k_Mf_isFull))))) rfl rfl rfl (by decide +kernel) ⟨by rw [hRf]; exact Nat.le_of_ble_eq_true rfl, by rw [hRl]; exact Nat.le_of_ble_eq_true rfl⟩) hC.ob rfl bl_1 bl_2 rfl (Nat.le_of_ble_eq_true rfl) d_Mf_prism_80) (fun r_68 G_65 B_66 p_67 => ?_)
        obtain ⟨u_69, e_70⟩ := p_67
        cases u_69
        subst e_70
        have bd_71 := b01_le (decide (S.n = 200))
        refine gsb (pc1 := 89) (pc2 := 86) (fun _ _ _ _ _ => lv_if_eq (tgt := 89) hx hb d_Mf_prism_83 (by decide)) (fun c_72 => ?_) (fun c_72 => ?_)
        · skip
          have nc_72 : (b01 (decide (S.n = 200))) = 0 := (n0_eq (a := (b01 (decide (S.n = 200)))) (by omega)).1 c_72
          have hnf := b01_0 nc_72
          refine gs (pc' := 90) (fun _ _ _ _ _ hl => lv_aload_n hx hb d_Mf_prism_89 rfl (lv_at hl 5 rfl)) ?_
          refine g_get hx hb hts hin_Mf hown hK hC.ob rfl 5 (by decide) (hts _ wm240) (fun _ h9 => h9) rfl d_Mf_prism_90 ?_
          refine gs (pc' := 94) (fun _ _ _ _ _ hl => lv_aload_n hx hb d_Mf_prism_93 rfl (lv_at hl 5 rfl)) ?_
          refine g_get hx hb hts hin_Mf hown hK hC.ob rfl 6 (by decide) (hts _ wm241) (fun _ h9 => h9) rfl d_Mf_prism_94 ?_
          refine gs (pc' := 99) (fun _ _ _ _ _ hl => lv_aload hx hb d_Mf_prism_97 (lv_at hl 3 rfl)) ?_
          refine g_get hx hb hts hin_Va hown hK f_50 rfl 0 (by decide) (hts _ wm523) (fun _ h9 => h9) rfl d_Mf_prism_99 ?_
          refine gs (pc' := 103) (fun _ _ _ _ _ hl => lv_aload_n hx hb d_Mf_prism_102 rfl (lv_at hl 5 rfl)) ?_
          refine g_get hx hb hts hin_Mf hown hK hC.ob rfl 11 (by decide) (hts _ wm246) (fun _ h9 => h9) rfl d_Mf_prism_103 ?_
          refine gs (pc' := 107) (fun _ _ _ _ _ hl => lv_iconst (v := nI 0) hx hb d_Mf_prism_106 (by decide)) ?_
          refine g_outv hlo (g_runV (As := [.ref (a.fr 0), .ref hf_49, .ref a.fo, .int (nI 0)]) (rest := []) ⟨hx, hb, hml, hown, hts⟩ hK hZ hRc hRs (c3_mul l D cA lo MC MS G B X a S F V hC hX1 hX2 0 (by decide) hf_49 a.fo (S.v j) 4 (Or.inr kq_51) (Or.inr hC.fo) 100 1 rb_19 rb_4 (by decide)) (fun _ _ => cwV 4 hts (tb_good (tb_cons wm588 (tb_cons wm589 (tb_cons wm590 (tb_cons wm3 k_Ca_setProduct))))) rfl rfl rfl (by decide +kernel) ⟨by rw [hRf]; exact Nat.le_of_ble_eq_true rfl, by rw [hRl]; exact Nat.le_of_ble_eq_true rfl⟩) hC.ca rfl bl_1 bl_2 rfl (Nat.le_of_ble_eq_true rfl) d_Mf_prism_107) (fun G_73 B_74 p_75 => ?_)
          obtain ⟨V_76, C_77, fr_78⟩ := p_75
          have iv_79 : isV cA G_73 r_6 (S.v i) (S.un i) := isV_24 iv_8 fr_78
          have iv_80 : isV cA G_73 r_16 (S.v j) (S.un j) := isV_24 iv_18 fr_78
          have iv_81 : isV cA G_73 r_26 (S.v k) (S.un k) := isV_24 iv_28 fr_78
          have iv_82 : isV cA G_73 r_36 (S.v o) (S.un o) := isV_24 iv_38 fr_78
          have kq_83 : kq cA G_73 hf_43 (S.v i) := kq_24 kq_45 fr_78
          have kq_84 : kq cA G_73 hf_46 (S.v o) := kq_24 kq_48 fr_78
          have kq_85 : kq cA G_73 hf_49 (S.v j) := kq_24 kq_51 fr_78
          have kq_86 : kq cA G_73 hf_53 (S.v k) := kq_24 kq_55 fr_78
          have fr_87 : gfr (fun x => x < 24) G G_73 := gfr_24 gfr_rf fr_78
          have f_88 : G_73 r_6 = some (30, .inr (6, [.ref hf_43, .int (iI (S.un i))])) := fr_78 _ _ f_44 (show ¬ (30 : Nat) < 24 by decide)
          have f_89 : G_73 r_36 = some (30, .inr (6, [.ref hf_46, .int (iI (S.un o))])) := fr_78 _ _ f_47 (show ¬ (30 : Nat) < 24 by decide)
          have f_90 : G_73 r_16 = some (30, .inr (6, [.ref hf_49, .int (iI (S.un j))])) := fr_78 _ _ f_50 (show ¬ (30 : Nat) < 24 by decide)
          have f_91 : G_73 r_26 = some (30, .inr (6, [.ref hf_53, .int (iI (S.un k))])) := fr_78 _ _ f_54 (show ¬ (30 : Nat) < 24 by decide)
          have rb_92 : rb ((S.v j) * 4) 101 := rb_mul rb_19 rb_4
          have bl_93 : B_74.1 ≤ MC := Nat.le_trans (w2_le C_77.w).1 hX1
          have bl_94 : B_74.2 ≤ MS := Nat.le_trans (w2_le C_77.w).2 hX2
          refine gs (pc' := 111) (fun _ _ _ _ _ hl => lv_aload_n hx hb d_Mf_prism_110 rfl (lv_at hl 5 rfl)) ?_
          refine g_get hx hb hts hin_Mf hown hK C_77.ob rfl 5 (by decide) (hts _ wm240) (fun _ h9 => h9) rfl d_Mf_prism_111 ?_
          refine gs (pc' := 115) (fun _ _ _ _ _ hl => lv_aload_n hx hb d_Mf_prism_114 rfl (lv_at hl 5 rfl)) ?_
          refine g_get hx hb hts hin_Mf hown hK C_77.ob rfl 7 (by decide) (hts _ wm242) (fun _ h9 => h9) rfl d_Mf_prism_115 ?_
          refine gs (pc' := 120) (fun _ _ _ _ _ hl => lv_aload hx hb d_Mf_prism_118 (lv_at hl 4 rfl)) ?_
          refine g_get hx hb hts hin_Va hown hK f_88 rfl 0 (by decide) (hts _ wm523) (fun _ h9 => h9) rfl d_Mf_prism_120 ?_
          refine gs (pc' := 124) (fun _ _ _ _ _ hl => lv_aload_n hx hb d_Mf_prism_123 rfl (lv_at hl 5 rfl)) ?_
          refine g_get hx hb hts hin_Mf hown hK C_77.ob rfl 6 (by decide) (hts _ wm241) (fun _ h9 => h9) rfl d_Mf_prism_124 ?_
          refine gs (pc' := 128) (fun _ _ _ _ _ hl => lv_iconst (v := nI 0) hx hb d_Mf_prism_127 (by decide)) ?_
          refine g_outv hlo (g_runV (As := [.ref (a.fr 1), .ref hf_43, .ref (a.fr 0), .int (nI 0)]) (rest := []) ⟨hx, hb, hml, hown, hts⟩ hK hZ hRc hRs (c3_add l D cA lo MC MS G_73 B_74 X a S (fup F 0 (some ((S.v j) * 4))) V_76 C_77 hX1 hX2 1 (by decide) hf_43 (a.fr 0) (S.v i) ((S.v j) * 4) (Or.inr kq_83) (Or.inl ⟨0, by decide, by decide, rfl, rfl⟩) 100 101 rb_9 rb_92 (by decide)) (fun _ _ => cwV 4 hts (tb_good (tb_cons wm559 (tb_cons wm560 (tb_cons wm561 (tb_cons wm3 k_Ca_setSum))))) rfl rfl rfl (by decide +kernel) ⟨by rw [hRf]; exact Nat.le_of_ble_eq_true rfl, by rw [hRl]; exact Nat.le_of_ble_eq_true rfl⟩) C_77.ca rfl bl_93 bl_94 rfl (Nat.le_of_ble_eq_true rfl) d_Mf_prism_128) (fun G_95 B_96 p_97 => ?_)
          obtain ⟨V_98, C_99, fr_100⟩ := p_97
          have iv_101 : isV cA G_95 r_6 (S.v i) (S.un i) := isV_24 iv_79 fr_100
          have iv_102 : isV cA G_95 r_16 (S.v j) (S.un j) := isV_24 iv_80 fr_100
          have iv_103 : isV cA G_95 r_26 (S.v k) (S.un k) := isV_24 iv_81 fr_100
          have iv_104 : isV cA G_95 r_36 (S.v o) (S.un o) := isV_24 iv_82 fr_100
          have kq_105 : kq cA G_95 hf_43 (S.v i) := kq_24 kq_83 fr_100
          have kq_106 : kq cA G_95 hf_46 (S.v o) := kq_24 kq_84 fr_100
          have kq_107 : kq cA G_95 hf_49 (S.v j) := kq_24 kq_85 fr_100
          have kq_108 : kq cA G_95 hf_53 (S.v k) := kq_24 kq_86 fr_100
          have fr_109 : gfr (fun x => x < 24) G G_95 := gfr_24 fr_87 fr_100
          have f_110 : G_95 r_6 = some (30, .inr (6, [.ref hf_43, .int (iI (S.un i))])) := fr_100 _ _ f_88 (show ¬ (30 : Nat) < 24 by decide)
          have f_111 : G_95 r_36 = some (30, .inr (6, [.ref hf_46, .int (iI (S.un o))])) := fr_100 _ _ f_89 (show ¬ (30 : Nat) < 24 by decide)
          have f_112 : G_95 r_16 = some (30, .inr (6, [.ref hf_49, .int (iI (S.un j))])) := fr_100 _ _ f_90 (show ¬ (30 : Nat) < 24 by decide)
          have f_113 : G_95 r_26 = some (30, .inr (6, [.ref hf_53, .int (iI (S.un k))])) := fr_100 _ _ f_91 (show ¬ (30 : Nat) < 24 by decide)
          have rb_114 : rb ((S.v i) + ((S.v j) * 4)) 202 := rb_add rb_9 rb_92
          have bl_115 : B_96.1 ≤ MC := Nat.le_trans (w2_le C_99.w).1 hX1
          have bl_116 : B_96.2 ≤ MS := Nat.le_trans (w2_le C_99.w).2 hX2
          refine gs (pc' := 132) (fun _ _ _ _ _ hl => lv_aload_n hx hb d_Mf_prism_131 rfl (lv_at hl 5 rfl)) ?_
          refine g_get hx hb hts hin_Mf hown hK C_99.ob rfl 5 (by decide) (hts _ wm240) (fun _ h9 => h9) rfl d_Mf_prism_132 ?_
          refine gs (pc' := 136) (fun _ _ _ _ _ hl => lv_aload_n hx hb d_Mf_prism_135 rfl (lv_at hl 5 rfl)) ?_
          refine g_get hx hb hts hin_Mf hown hK C_99.ob rfl 6 (by decide) (hts _ wm241) (fun _ h9 => h9) rfl d_Mf_prism_136 ?_
          refine gs (pc' := 140) (fun _ _ _ _ _ hl => lv_aload_n hx hb d_Mf_prism_139 rfl (lv_at hl 5 rfl)) ?_
          refine g_get hx hb hts hin_Mf hown hK C_99.ob rfl 7 (by decide) (hts _ wm242) (fun _ h9 => h9) rfl d_Mf_prism_140 ?_
          refine gs (pc' := 145) (fun _ _ _ _ _ hl => lv_aload hx hb d_Mf_prism_143 (lv_at hl 2 rfl)) ?_
          refine g_get hx hb hts hin_Va hown hK f_113 rfl 0 (by decide) (hts _ wm523) (fun _ h9 => h9) rfl d_Mf_prism_145 ?_
          refine gs (pc' := 149) (fun _ _ _ _ _ hl => lv_iconst (v := nI 0) hx hb d_Mf_prism_148 (by decide)) ?_
          refine g_outv hlo (g_runV (As := [.ref (a.fr 0), .ref (a.fr 1), .ref hf_53, .int (nI 0)]) (rest := []) ⟨hx, hb, hml, hown, hts⟩ hK hZ hRc hRs (c3_add l D cA lo MC MS G_95 B_96 X a S (fup (fup F 0 (some ((S.v j) * 4))) 1 (some ((S.v i) + ((S.v j) * 4)))) V_98 C_99 hX1 hX2 0 (by decide) (a.fr 1) hf_53 ((S.v i) + ((S.v j) * 4)) (S.v k) (Or.inl ⟨1, by decide, by decide, rfl, rfl⟩) (Or.inr kq_108) 202 100 rb_114 rb_29 (by decide)) (fun _ _ => cwV 4 hts (tb_good (tb_cons wm559 (tb_cons wm560 (tb_cons wm561 (tb_cons wm3 k_Ca_setSum))))) rfl rfl rfl (by decide +kernel) ⟨by rw [hRf]; exact Nat.le_of_ble_eq_true rfl, by rw [hRl]; exact Nat.le_of_ble_eq_true rfl⟩) C_99.ca rfl bl_115 bl_116 rfl (Nat.le_of_ble_eq_true rfl) d_Mf_prism_149) (fun G_117 B_118 p_119 => ?_)
          obtain ⟨V_120, C_121, fr_122⟩ := p_119
          have iv_123 : isV cA G_117 r_6 (S.v i) (S.un i) := isV_24 iv_101 fr_122
          have iv_124 : isV cA G_117 r_16 (S.v j) (S.un j) := isV_24 iv_102 fr_122
          have iv_125 : isV cA G_117 r_26 (S.v k) (S.un k) := isV_24 iv_103 fr_122
          have iv_126 : isV cA G_117 r_36 (S.v o) (S.un o) := isV_24 iv_104 fr_122
          have kq_127 : kq cA G_117 hf_43 (S.v i) := kq_24 kq_105 fr_122
          have kq_128 : kq cA G_117 hf_46 (S.v o) := kq_24 kq_106 fr_122
          have kq_129 : kq cA G_117 hf_49 (S.v j) := kq_24 kq_107 fr_122
          have kq_130 : kq cA G_117 hf_53 (S.v k) := kq_24 kq_108 fr_122
          have fr_131 : gfr (fun x => x < 24) G G_117 := gfr_24 fr_109 fr_122
          have f_132 : G_117 r_6 = some (30, .inr (6, [.ref hf_43, .int (iI (S.un i))])) := fr_122 _ _ f_110 (show ¬ (30 : Nat) < 24 by decide)
          have f_133 : G_117 r_36 = some (30, .inr (6, [.ref hf_46, .int (iI (S.un o))])) := fr_122 _ _ f_111 (show ¬ (30 : Nat) < 24 by decide)
          have f_134 : G_117 r_16 = some (30, .inr (6, [.ref hf_49, .int (iI (S.un j))])) := fr_122 _ _ f_112 (show ¬ (30 : Nat) < 24 by decide)
          have f_135 : G_117 r_26 = some (30, .inr (6, [.ref hf_53, .int (iI (S.un k))])) := fr_122 _ _ f_113 (show ¬ (30 : Nat) < 24 by decide)
          have rb_136 : rb (((S.v i) + ((S.v j) * 4)) + (S.v k)) 303 := rb_add rb_114 rb_29
          have bl_137 : B_118.1 ≤ MC := Nat.le_trans (w2_le C_121.w).1 hX1
          have bl_138 : B_118.2 ≤ MS := Nat.le_trans (w2_le C_121.w).2 hX2
          refine gs (pc' := 153) (fun _ _ _ _ _ hl => lv_aload_n hx hb d_Mf_prism_152 rfl (lv_at hl 5 rfl)) ?_
          refine g_get hx hb hts hin_Mf hown hK C_121.ob rfl 5 (by decide) (hts _ wm240) (fun _ h9 => h9) rfl d_Mf_prism_153 ?_
          refine gs (pc' := 157) (fun _ _ _ _ _ hl => lv_aload_n hx hb d_Mf_prism_156 rfl (lv_at hl 5 rfl)) ?_
          refine g_get hx hb hts hin_Mf hown hK C_121.ob rfl 7 (by decide) (hts _ wm242) (fun _ h9 => h9) rfl d_Mf_prism_157 ?_
          refine gs (pc' := 161) (fun _ _ _ _ _ hl => lv_aload_n hx hb d_Mf_prism_160 rfl (lv_at hl 5 rfl)) ?_
          refine g_get hx hb hts hin_Mf hown hK C_121.ob rfl 6 (by decide) (hts _ wm241) (fun _ h9 => h9) rfl d_Mf_prism_161 ?_
          refine gs (pc' := 166) (fun _ _ _ _ _ hl => lv_aload hx hb d_Mf_prism_164 (lv_at hl 1 rfl)) ?_
          refine g_get hx hb hts hin_Va hown hK f_133 rfl 0 (by decide) (hts _ wm523) (fun _ h9 => h9) rfl d_Mf_prism_166 ?_
          refine gs (pc' := 170) (fun _ _ _ _ _ hl => lv_iconst (v := nI 0) hx hb d_Mf_prism_169 (by decide)) ?_
          refine g_outv hlo (g_runV (As := [.ref (a.fr 1), .ref (a.fr 0), .ref hf_46, .int (nI 0)]) (rest := []) ⟨hx, hb, hml, hown, hts⟩ hK hZ hRc hRs (c3_mul l D cA lo MC MS G_117 B_118 X a S (fup (fup (fup F 0 (some ((S.v j) * 4))) 1 (some ((S.v i) + ((S.v j) * 4)))) 0 (some (((S.v i) + ((S.v j) * 4)) + (S.v k)))) V_120 C_121 hX1 hX2 1 (by decide) (a.fr 0) hf_46 (((S.v i) + ((S.v j) * 4)) + (S.v k)) (S.v o) (Or.inl ⟨0, by decide, by decide, rfl, rfl⟩) (Or.inr kq_128) 303 100 rb_136 rb_39 (by decide)) (fun _ _ => cwV 4 hts (tb_good (tb_cons wm588 (tb_cons wm589 (tb_cons wm590 (tb_cons wm3 k_Ca_setProduct))))) rfl rfl rfl (by decide +kernel) ⟨by rw [hRf]; exact Nat.le_of_ble_eq_true rfl, by rw [hRl]; exact Nat.le_of_ble_eq_true rfl⟩) C_121.ca rfl bl_137 bl_138 rfl (Nat.le_of_ble_eq_true rfl) d_Mf_prism_170) (fun G_139 B_140 p_141 => ?_)
          obtain ⟨V_142, C_143, fr_144⟩ := p_141
          have iv_145 : isV cA G_139 r_6 (S.v i) (S.un i) := isV_24 iv_123 fr_144
          have iv_146 : isV cA G_139 r_16 (S.v j) (S.un j) := isV_24 iv_124 fr_144
          have iv_147 : isV cA G_139 r_26 (S.v k) (S.un k) := isV_24 iv_125 fr_144
          have iv_148 : isV cA G_139 r_36 (S.v o) (S.un o) := isV_24 iv_126 fr_144
          have kq_149 : kq cA G_139 hf_43 (S.v i) := kq_24 kq_127 fr_144
          have kq_150 : kq cA G_139 hf_46 (S.v o) := kq_24 kq_128 fr_144
          have kq_151 : kq cA G_139 hf_49 (S.v j) := kq_24 kq_129 fr_144
          have kq_152 : kq cA G_139 hf_53 (S.v k) := kq_24 kq_130 fr_144
          have fr_153 : gfr (fun x => x < 24) G G_139 := gfr_24 fr_131 fr_144
          have f_154 : G_139 r_6 = some (30, .inr (6, [.ref hf_43, .int (iI (S.un i))])) := fr_144 _ _ f_132 (show ¬ (30 : Nat) < 24 by decide)
          have f_155 : G_139 r_36 = some (30, .inr (6, [.ref hf_46, .int (iI (S.un o))])) := fr_144 _ _ f_133 (show ¬ (30 : Nat) < 24 by decide)
          have f_156 : G_139 r_16 = some (30, .inr (6, [.ref hf_49, .int (iI (S.un j))])) := fr_144 _ _ f_134 (show ¬ (30 : Nat) < 24 by decide)
          have f_157 : G_139 r_26 = some (30, .inr (6, [.ref hf_53, .int (iI (S.un k))])) := fr_144 _ _ f_135 (show ¬ (30 : Nat) < 24 by decide)
          have rb_158 : rb ((((S.v i) + ((S.v j) * 4)) + (S.v k)) * (S.v o)) 403 := rb_mul rb_136 rb_39
          have bl_159 : B_140.1 ≤ MC := Nat.le_trans (w2_le C_143.w).1 hX1
          have bl_160 : B_140.2 ≤ MS := Nat.le_trans (w2_le C_143.w).2 hX2
          refine gs (pc' := 174) (fun _ _ _ _ _ hl => lv_aload_n hx hb d_Mf_prism_173 rfl (lv_at hl 5 rfl)) ?_
          refine g_get hx hb hts hin_Mf hown hK C_143.ob rfl 5 (by decide) (hts _ wm240) (fun _ h9 => h9) rfl d_Mf_prism_174 ?_
          refine gs (pc' := 178) (fun _ _ _ _ _ hl => lv_aload_n hx hb d_Mf_prism_177 rfl (lv_at hl 5 rfl)) ?_
          refine g_get hx hb hts hin_Mf hown hK C_143.ob rfl 6 (by decide) (hts _ wm241) (fun _ h9 => h9) rfl d_Mf_prism_178 ?_
          refine gs (pc' := 182) (fun _ _ _ _ _ hl => lv_aload_n hx hb d_Mf_prism_181 rfl (lv_at hl 5 rfl)) ?_
          refine g_get hx hb hts hin_Mf hown hK C_143.ob rfl 7 (by decide) (hts _ wm242) (fun _ h9 => h9) rfl d_Mf_prism_182 ?_
          refine gs (pc' := 186) (fun _ _ _ _ _ hl => lv_aload_n hx hb d_Mf_prism_185 rfl (lv_at hl 5 rfl)) ?_
          refine g_get hx hb hts hin_Mf hown hK C_143.ob rfl 13 (by decide) (hts _ wm248) (fun _ h9 => h9) rfl d_Mf_prism_186 ?_
          refine gs (pc' := 190) (fun _ _ _ _ _ hl => lv_iconst (v := nI 0) hx hb d_Mf_prism_189 (by decide)) ?_
          refine g_outv hlo (g_runV (As := [.ref (a.fr 0), .ref (a.fr 1), .ref a.si, .int (nI 0)]) (rest := []) ⟨hx, hb, hml, hown, hts⟩ hK hZ hRc hRs (c3_mul l D cA lo MC MS G_139 B_140 X a S (fup (fup (fup (fup F 0 (some ((S.v j) * 4))) 1 (some ((S.v i) + ((S.v j) * 4)))) 0 (some (((S.v i) + ((S.v j) * 4)) + (S.v k)))) 1 (some ((((S.v i) + ((S.v j) * 4)) + (S.v k)) * (S.v o)))) V_142 C_143 hX1 hX2 0 (by decide) (a.fr 1) a.si ((((S.v i) + ((S.v j) * 4)) + (S.v k)) * (S.v o)) (mkRat 1 6) (Or.inl ⟨1, by decide, by decide, rfl, rfl⟩) (Or.inr C_143.si) 403 1 rb_158 rb_6 (by decide)) (fun _ _ => cwV 4 hts (tb_good (tb_cons wm588 (tb_cons wm589 (tb_cons wm590 (tb_cons wm3 k_Ca_setProduct))))) rfl rfl rfl (by decide +kernel) ⟨by rw [hRf]; exact Nat.le_of_ble_eq_true rfl, by rw [hRl]; exact Nat.le_of_ble_eq_true rfl⟩) C_143.ca rfl bl_159 bl_160 rfl (Nat.le_of_ble_eq_true rfl) d_Mf_prism_190) (fun G_161 B_162 p_163 => ?_)
          obtain ⟨V_164, C_165, fr_166⟩ := p_163
          have iv_167 : isV cA G_161 r_6 (S.v i) (S.un i) := isV_24 iv_145 fr_166
          have iv_168 : isV cA G_161 r_16 (S.v j) (S.un j) := isV_24 iv_146 fr_166
          have iv_169 : isV cA G_161 r_26 (S.v k) (S.un k) := isV_24 iv_147 fr_166
          have iv_170 : isV cA G_161 r_36 (S.v o) (S.un o) := isV_24 iv_148 fr_166
          have kq_171 : kq cA G_161 hf_43 (S.v i) := kq_24 kq_149 fr_166
          have kq_172 : kq cA G_161 hf_46 (S.v o) := kq_24 kq_150 fr_166
          have kq_173 : kq cA G_161 hf_49 (S.v j) := kq_24 kq_151 fr_166
          have kq_174 : kq cA G_161 hf_53 (S.v k) := kq_24 kq_152 fr_166
          have fr_175 : gfr (fun x => x < 24) G G_161 := gfr_24 fr_153 fr_166
          have f_176 : G_161 r_6 = some (30, .inr (6, [.ref hf_43, .int (iI (S.un i))])) := fr_166 _ _ f_154 (show ¬ (30 : Nat) < 24 by decide)
          have f_177 : G_161 r_36 = some (30, .inr (6, [.ref hf_46, .int (iI (S.un o))])) := fr_166 _ _ f_155 (show ¬ (30 : Nat) < 24 by decide)
          have f_178 : G_161 r_16 = some (30, .inr (6, [.ref hf_49, .int (iI (S.un j))])) := fr_166 _ _ f_156 (show ¬ (30 : Nat) < 24 by decide)
          have f_179 : G_161 r_26 = some (30, .inr (6, [.ref hf_53, .int (iI (S.un k))])) := fr_166 _ _ f_157 (show ¬ (30 : Nat) < 24 by decide)
          have rb_180 : rb (((((S.v i) + ((S.v j) * 4)) + (S.v k)) * (S.v o)) * (mkRat 1 6)) 404 := rb_mul rb_158 rb_6
          have bl_181 : B_162.1 ≤ MC := Nat.le_trans (w2_le C_165.w).1 hX1
          have bl_182 : B_162.2 ≤ MS := Nat.le_trans (w2_le C_165.w).2 hX2
          refine gs (pc' := 194) (fun _ _ _ _ _ hl => lv_aload_n hx hb d_Mf_prism_193 rfl (lv_at hl 5 rfl)) ?_
          refine gs (pc' := 195) (fun _ _ _ _ _ hl => lv_aload_n hx hb d_Mf_prism_194 rfl (lv_at hl 5 rfl)) ?_
          refine g_get hx hb hts hin_Mf hown hK C_165.ob rfl 6 (by decide) (hts _ wm241) (fun _ h9 => h9) rfl d_Mf_prism_195 ?_
          refine gs (pc' := 200) (fun _ _ _ _ _ hl => lv_iload hx hb d_Mf_prism_198 (lv_at hl 0 rfl)) ?_
          refine g_outi hlo (g_runV (As := [.ref (a.fr 0), .int (iI ((S.un i) + (S.un o)))]) (rest := []) ⟨hx, hb, hml, hown, hts⟩ hK hZ hRc hRs (c_Mf_keep0 l D cA lo MC MS G_161 B_162 X a S (fup (fup (fup (fup (fup F 0 (some ((S.v j) * 4))) 1 (some ((S.v i) + ((S.v j) * 4)))) 0 (some (((S.v i) + ((S.v j) * 4)) + (S.v k)))) 1 (some ((((S.v i) + ((S.v j) * 4)) + (S.v k)) * (S.v o)))) 0 (some (((((S.v i) + ((S.v j) * 4)) + (S.v k)) * (S.v o)) * (mkRat 1 6)))) V_164 C_165 hW (((((S.v i) + ((S.v j) * 4)) + (S.v k)) * (S.v o)) * (mkRat 1 6)) rfl 404 rb_180 (by decide) ((S.un i) + (S.un o)) hnf hY1 hY2) (fun _ _ => cwV 2 hts (tb_good (tb_cons wm495 (tb_cons wm497 (tb_cons ws10 (tb_cons wm1 k_Mf_keep))))) rfl rfl rfl (by decide +kernel) ⟨by rw [hRf]; exact Nat.le_of_ble_eq_true rfl, by rw [hRl]; exact Nat.le_of_ble_eq_true rfl⟩) C_165.ob rfl bl_181 bl_182 rfl (Nat.le_of_ble_eq_true rfl) d_Mf_prism_200) (fun r_186 G_183 B_184 p_185 => ?_)
          obtain ⟨e_187, C_188, fr_189⟩ := p_185
          subst e_187
          have fr_190 : gfr (fun x => x < 70) G G_183 := gfr_mono (gfr_tr fr_175 fr_189) (fun x h9 => by rcases h9 with h9 | h9 <;> omega)
          have bl_191 := CW3_le C_188
          have hs2 : sp_prism S (iI xa) (iI xb) (iI xc) (iI xd) = kp S (((((S.v i) + ((S.v j) * 4)) + (S.v k)) * (S.v o)) * (mkRat 1 6)) ((S.un i) + (S.un o)) := by rw [hsp, if_neg hu, if_neg hnf]
          exact hret 203 _ _ _ _ d_Mf_prism_203 (Nat.le_trans bl_191.1 hY1) (Nat.le_trans bl_191.2 hY2) ⟨by rw [hs2], by rw [hs2]; exact C_188, fr_190⟩
        · skip
          have nc_72 : (b01 (decide (S.n = 200))) ≠ 0 := (n0_eq (a := (b01 (decide (S.n = 200)))) (by omega)).2 c_72
          have hnf := b01_1 nc_72
          refine gs (pc' := 88) (fun _ _ _ _ _ hl => lv_bipush (v := (-3)) hx hb d_Mf_prism_86 (by decide)) ?_
          refine g_eqi (show (-3) = iI (-3) from by decide) ?_
          have hs2 : sp_prism S (iI xa) (iI xb) (iI xc) (iI xd) = (0, -3, S) := by rw [hsp, if_neg hu, if_pos hnf]
          exact hret 88 _ _ _ _ d_Mf_prism_88 bl_1 bl_2 ⟨by rw [hs2], by rw [hs2]; exact hC.up (X1 := (X.1 + 6, X.2 + 209)) (show X.1 ≤ X.1 + 6 by omega) (show X.2 ≤ X.2 + 209 by omega), (gfr_mono (M := fun x => x < 24) gfr_rf (fun x h9 => by omega))⟩
      · skip
        have nc_64 : (b01 (decide (uok ((S.un i) + (S.un o))))) = 0 := (n0_ne (a := (b01 (decide (uok ((S.un i) + (S.un o)))))) (by omega)).2 c_64
        have hu : ¬ (S.un i = S.un j ∧ S.un i = S.un k ∧ uok (S.un i + S.un o)) := fun z9 => b01_0 nc_64 z9.2.2
        refine gs (pc' := 78) (fun _ _ _ _ _ hl => lv_bipush (v := (-2)) hx hb d_Mf_prism_76 (by decide)) ?_
        refine g_eqi (show (-2) = iI (-2) from by decide) ?_
        have hs2 : sp_prism S (iI xa) (iI xb) (iI xc) (iI xd) = (0, -2, S) := by rw [hsp, if_pos hu]
        exact hret 78 _ _ _ _ d_Mf_prism_78 bl_1 bl_2 ⟨by rw [hs2], by rw [hs2]; exact hC.up (X1 := (X.1 + 6, X.2 + 209)) (show X.1 ≤ X.1 + 6 by omega) (show X.2 ≤ X.2 + 209 by omega), (gfr_mono (M := fun x => x < 24) gfr_rf (fun x h9 => by omega))⟩
set_option maxHeartbeats 4000000 in
set_option maxRecDepth 100000 in
theorem t_Mf_prism1 (l : Launch) (D : va_G) (cA : Nat → ClassId) (lo MC MS : Nat) (G : gT) (B : Nat × Nat) (X : Nat × Nat) (a : AX) (S : St) (F : Nat → Option Rat) (V : Nat → Nat) (hC : CW cA X a S F V (G, B)) (hW : WF S) (xa : Int) (hxa1 : -2147483648 ≤ xa) (hxa2 : xa < 2147483648) (xb : Int) (hxb1 : -2147483648 ≤ xb) (hxb2 : xb < 2147483648) (xc : Int) (hxc1 : -2147483648 ≤ xc) (hxc2 : xc < 2147483648) (xd : Int) (hxd1 : -2147483648 ≤ xd) (hxd2 : xd < 2147483648) (hk : (sp_prism S (iI xa) (iI xb) (iI xc) (iI xd)).1 = 1) (hY1 : X.1 + 1 ≤ MC) (hY2 : X.2 + 6 ≤ MS) (hfl : ∀ e : Env, l.admits e → e.platform.stackTraces = false) : gMetT l y_Mf_prism w_Mf_prism 7 111 D clS (gtys cA) lo MC MS [.ref a.x, .int (iI xa), .int (iI xb), .int (iI xc), .int (iI xd)] G B (gQx D clS lo "java/lang/IndexOutOfBoundsException" (fun u => u = (G, B.1 + 1, B.2 + 6))) := by
  refine g_mett (cc := prog_1_method_8_code) (nL := 10) (ret := (Option.some .int)) (L := [(0, .ref a.x), (1, .int (iI xa)), (2, .int (iI xb)), (3, .int (iI xc)), (4, .int (iI xd))]) (by decide +kernel) rfl (Nat.le_of_ble_eq_true rfl) rfl ?_
  intro p e R s m args below meth c Q hF hRc hRs hRf hRl hne hQ
  obtain ⟨hx, hb, hr, hml, hts0, hown, hlocks, hin, hK, hlo, hZ⟩ := hF
  have hts : ∀ w ∈ tbg, w.before args s = true := fun w h => hts0 w (List.mem_cons_of_mem _ h)
  have hX1 : X.1 ≤ MC := by omega
  have hX2 : X.2 ≤ MS := by omega
  have hn := hW.n
  have hrn := hW.rn
  have hwn := hW.wn
  have bl_1 : B.1 ≤ MC := Nat.le_trans (w2_le hC.w).1 hX1
  have bl_2 : B.2 ≤ MS := Nat.le_trans (w2_le hC.w).2 hX2
  have hv : ¬ (vi S (iI xa) ∧ vi S (iI xb) ∧ vi S (iI xc) ∧ vi S (iI xd)) := fun z9 => by
    rw [sp_prism, if_neg (fun z8 => z8 z9)] at hk
    split at hk
    · exact absurd hk (by decide)
    split at hk
    · exact absurd hk (by decide)
    · rw [kp_0] at hk; exact absurd hk (by decide)
  by_cases hv_xa : vi S (iI xa)
  · skip
    obtain ⟨i, hi_i, hxe_xa, ei_i⟩ := ix_of hv_xa.1 hv_xa.2
    rw [hxe_xa]
    by_cases hv_xb : vi S (iI xb)
    · skip
      obtain ⟨j, hi_j, hxe_xb, ei_j⟩ := ix_of hv_xb.1 hv_xb.2
      rw [hxe_xb]
      by_cases hv_xc : vi S (iI xc)
      · skip
        obtain ⟨k, hi_k, hxe_xc, ei_k⟩ := ix_of hv_xc.1 hv_xc.2
        rw [hxe_xc]
        have hv_xd : ¬ vi S (iI xd) := fun z9 => hv ⟨hv_xa, hv_xb, hv_xc, z9⟩
        refine gs (pc' := 1) (fun _ _ _ _ _ hl => lv_aload_n hx hb d_Mf_prism_0 rfl (lv_at hl 0 rfl)) ?_
        refine gs (pc' := 2) (fun _ _ _ _ _ hl => lv_iload_n hx hb d_Mf_prism_1 rfl (lv_at hl 1 rfl)) ?_
        refine g_outr hlo (g_runV (As := [.int (nI i)]) (rest := []) ⟨hx, hb, hml, hown, hts⟩ hK hZ hRc hRs (c_Mf_valueOf l D cA lo MC MS G B X a S F V hC hW i (by omega) hX1 hX2) (fun _ _ => cwV 1 hts (tb_good (tb_cons wm539 (tb_cons wm541 (tb_cons ws11 (tb_cons wm1 k_Mf_valueOf))))) rfl rfl rfl (by decide +kernel) ⟨by rw [hRf]; exact Nat.le_of_ble_eq_true rfl, by rw [hRl]; exact Nat.le_of_ble_eq_true rfl⟩) hC.ob rfl bl_1 bl_2 rfl (Nat.le_of_ble_eq_true rfl) d_Mf_prism_2) (fun r_6 G_3 B_4 p_5 => ?_)
        obtain ⟨u_7, iv_8⟩ := p_5
        cases u_7
        have rb_9 : rb (S.v i) 100 := rb_of (hW.v _ (by omega)).1
        have ub_10 := (hW.v i (by omega)).2
        have ub_11 := ub_10.1
        have ub_12 := ub_10.2
        refine gst (pc' := 7) (L' := [(5, .ref r_6), (0, .ref a.x), (1, .int (nI i)), (2, .int (nI j)), (3, .int (nI k)), (4, .int (iI xd))]) (fun _ _ _ _ _ hl => lv_astore hx hb d_Mf_prism_5 hl (by decide) rfl) ?_
        refine gs (pc' := 8) (fun _ _ _ _ _ hl => lv_aload_n hx hb d_Mf_prism_7 rfl (lv_at hl 1 rfl)) ?_
        refine gs (pc' := 9) (fun _ _ _ _ _ hl => lv_iload_n hx hb d_Mf_prism_8 rfl (lv_at hl 3 rfl)) ?_
        refine g_outr hlo (g_runV (As := [.int (nI j)]) (rest := []) ⟨hx, hb, hml, hown, hts⟩ hK hZ hRc hRs (c_Mf_valueOf l D cA lo MC MS G B X a S F V hC hW j (by omega) hX1 hX2) (fun _ _ => cwV 1 hts (tb_good (tb_cons wm539 (tb_cons wm541 (tb_cons ws11 (tb_cons wm1 k_Mf_valueOf))))) rfl rfl rfl (by decide +kernel) ⟨by rw [hRf]; exact Nat.le_of_ble_eq_true rfl, by rw [hRl]; exact Nat.le_of_ble_eq_true rfl⟩) hC.ob rfl bl_1 bl_2 rfl (Nat.le_of_ble_eq_true rfl) d_Mf_prism_9) (fun r_16 G_13 B_14 p_15 => ?_)
        obtain ⟨u_17, iv_18⟩ := p_15
        cases u_17
        have rb_19 : rb (S.v j) 100 := rb_of (hW.v _ (by omega)).1
        have ub_20 := (hW.v j (by omega)).2
        have ub_21 := ub_20.1
        have ub_22 := ub_20.2
        refine gst (pc' := 14) (L' := [(6, .ref r_16), (5, .ref r_6), (0, .ref a.x), (1, .int (nI i)), (2, .int (nI j)), (3, .int (nI k)), (4, .int (iI xd))]) (fun _ _ _ _ _ hl => lv_astore hx hb d_Mf_prism_12 hl (by decide) rfl) ?_
        refine gs (pc' := 15) (fun _ _ _ _ _ hl => lv_aload_n hx hb d_Mf_prism_14 rfl (lv_at hl 2 rfl)) ?_
        refine gs (pc' := 16) (fun _ _ _ _ _ hl => lv_iload_n hx hb d_Mf_prism_15 rfl (lv_at hl 5 rfl)) ?_
        refine g_outr hlo (g_runV (As := [.int (nI k)]) (rest := []) ⟨hx, hb, hml, hown, hts⟩ hK hZ hRc hRs (c_Mf_valueOf l D cA lo MC MS G B X a S F V hC hW k (by omega) hX1 hX2) (fun _ _ => cwV 1 hts (tb_good (tb_cons wm539 (tb_cons wm541 (tb_cons ws11 (tb_cons wm1 k_Mf_valueOf))))) rfl rfl rfl (by decide +kernel) ⟨by rw [hRf]; exact Nat.le_of_ble_eq_true rfl, by rw [hRl]; exact Nat.le_of_ble_eq_true rfl⟩) hC.ob rfl bl_1 bl_2 rfl (Nat.le_of_ble_eq_true rfl) d_Mf_prism_16) (fun r_26 G_23 B_24 p_25 => ?_)
        obtain ⟨u_27, iv_28⟩ := p_25
        cases u_27
        have rb_29 : rb (S.v k) 100 := rb_of (hW.v _ (by omega)).1
        have ub_30 := (hW.v k (by omega)).2
        have ub_31 := ub_30.1
        have ub_32 := ub_30.2
        refine gst (pc' := 21) (L' := [(7, .ref r_26), (6, .ref r_16), (5, .ref r_6), (0, .ref a.x), (1, .int (nI i)), (2, .int (nI j)), (3, .int (nI k)), (4, .int (iI xd))]) (fun _ _ _ _ _ hl => lv_astore hx hb d_Mf_prism_19 hl (by decide) rfl) ?_
        refine gs (pc' := 22) (fun _ _ _ _ _ hl => lv_aload_n hx hb d_Mf_prism_21 rfl (lv_at hl 3 rfl)) ?_
        refine gs (pc' := 24) (fun _ _ _ _ _ hl => lv_iload hx hb d_Mf_prism_22 (lv_at hl 7 rfl)) ?_
        exact g_up hlocks hne bl_1 bl_2 (g_thrV (As := [.int (iI xd)]) (rest := []) ⟨hx, hb, hml, hown, hts⟩ hK hZ hRc hRs (t_Mf_valueOf l D cA lo MC MS G B X a S F V hC hW xd hxd1 hxd2 (nvi hxd1 hxd2 hv_xd) hY1 hY2 hfl) (fun _ _ => cwV 1 hts (tb_good (tb_cons wm539 (tb_cons wm541 (tb_cons ws11 (tb_cons wm1 k_Mf_valueOf))))) rfl rfl rfl (by decide +kernel) ⟨by rw [hRf]; exact Nat.le_of_ble_eq_true rfl, by rw [hRl]; exact Nat.le_of_ble_eq_true rfl⟩) hC.ob rfl bl_1 bl_2 rfl (Nat.le_of_ble_eq_true rfl) d_Mf_prism_24) (fun _ h => h) hQ
      · skip
        refine gs (pc' := 1) (fun _ _ _ _ _ hl => lv_aload_n hx hb d_Mf_prism_0 rfl (lv_at hl 0 rfl)) ?_
        refine gs (pc' := 2) (fun _ _ _ _ _ hl => lv_iload_n hx hb d_Mf_prism_1 rfl (lv_at hl 1 rfl)) ?_
        refine g_outr hlo (g_runV (As := [.int (nI i)]) (rest := []) ⟨hx, hb, hml, hown, hts⟩ hK hZ hRc hRs (c_Mf_valueOf l D cA lo MC MS G B X a S F V hC hW i (by omega) hX1 hX2) (fun _ _ => cwV 1 hts (tb_good (tb_cons wm539 (tb_cons wm541 (tb_cons ws11 (tb_cons wm1 k_Mf_valueOf))))) rfl rfl rfl (by decide +kernel) ⟨by rw [hRf]; exact Nat.le_of_ble_eq_true rfl, by rw [hRl]; exact Nat.le_of_ble_eq_true rfl⟩) hC.ob rfl bl_1 bl_2 rfl (Nat.le_of_ble_eq_true rfl) d_Mf_prism_2) (fun r_36 G_33 B_34 p_35 => ?_)
        obtain ⟨u_37, iv_38⟩ := p_35
        cases u_37
        have rb_39 : rb (S.v i) 100 := rb_of (hW.v _ (by omega)).1
        have ub_40 := (hW.v i (by omega)).2
        have ub_41 := ub_40.1
        have ub_42 := ub_40.2
        refine gst (pc' := 7) (L' := [(5, .ref r_36), (0, .ref a.x), (1, .int (nI i)), (2, .int (nI j)), (3, .int (iI xc)), (4, .int (iI xd))]) (fun _ _ _ _ _ hl => lv_astore hx hb d_Mf_prism_5 hl (by decide) rfl) ?_
        refine gs (pc' := 8) (fun _ _ _ _ _ hl => lv_aload_n hx hb d_Mf_prism_7 rfl (lv_at hl 1 rfl)) ?_
        refine gs (pc' := 9) (fun _ _ _ _ _ hl => lv_iload_n hx hb d_Mf_prism_8 rfl (lv_at hl 3 rfl)) ?_
        refine g_outr hlo (g_runV (As := [.int (nI j)]) (rest := []) ⟨hx, hb, hml, hown, hts⟩ hK hZ hRc hRs (c_Mf_valueOf l D cA lo MC MS G B X a S F V hC hW j (by omega) hX1 hX2) (fun _ _ => cwV 1 hts (tb_good (tb_cons wm539 (tb_cons wm541 (tb_cons ws11 (tb_cons wm1 k_Mf_valueOf))))) rfl rfl rfl (by decide +kernel) ⟨by rw [hRf]; exact Nat.le_of_ble_eq_true rfl, by rw [hRl]; exact Nat.le_of_ble_eq_true rfl⟩) hC.ob rfl bl_1 bl_2 rfl (Nat.le_of_ble_eq_true rfl) d_Mf_prism_9) (fun r_46 G_43 B_44 p_45 => ?_)
        obtain ⟨u_47, iv_48⟩ := p_45
        cases u_47
        have rb_49 : rb (S.v j) 100 := rb_of (hW.v _ (by omega)).1
        have ub_50 := (hW.v j (by omega)).2
        have ub_51 := ub_50.1
        have ub_52 := ub_50.2
        refine gst (pc' := 14) (L' := [(6, .ref r_46), (5, .ref r_36), (0, .ref a.x), (1, .int (nI i)), (2, .int (nI j)), (3, .int (iI xc)), (4, .int (iI xd))]) (fun _ _ _ _ _ hl => lv_astore hx hb d_Mf_prism_12 hl (by decide) rfl) ?_
        refine gs (pc' := 15) (fun _ _ _ _ _ hl => lv_aload_n hx hb d_Mf_prism_14 rfl (lv_at hl 2 rfl)) ?_
        refine gs (pc' := 16) (fun _ _ _ _ _ hl => lv_iload_n hx hb d_Mf_prism_15 rfl (lv_at hl 5 rfl)) ?_
        exact g_up hlocks hne bl_1 bl_2 (g_thrV (As := [.int (iI xc)]) (rest := []) ⟨hx, hb, hml, hown, hts⟩ hK hZ hRc hRs (t_Mf_valueOf l D cA lo MC MS G B X a S F V hC hW xc hxc1 hxc2 (nvi hxc1 hxc2 hv_xc) hY1 hY2 hfl) (fun _ _ => cwV 1 hts (tb_good (tb_cons wm539 (tb_cons wm541 (tb_cons ws11 (tb_cons wm1 k_Mf_valueOf))))) rfl rfl rfl (by decide +kernel) ⟨by rw [hRf]; exact Nat.le_of_ble_eq_true rfl, by rw [hRl]; exact Nat.le_of_ble_eq_true rfl⟩) hC.ob rfl bl_1 bl_2 rfl (Nat.le_of_ble_eq_true rfl) d_Mf_prism_16) (fun _ h => h) hQ
    · skip
      refine gs (pc' := 1) (fun _ _ _ _ _ hl => lv_aload_n hx hb d_Mf_prism_0 rfl (lv_at hl 0 rfl)) ?_
      refine gs (pc' := 2) (fun _ _ _ _ _ hl => lv_iload_n hx hb d_Mf_prism_1 rfl (lv_at hl 1 rfl)) ?_
      refine g_outr hlo (g_runV (As := [.int (nI i)]) (rest := []) ⟨hx, hb, hml, hown, hts⟩ hK hZ hRc hRs (c_Mf_valueOf l D cA lo MC MS G B X a S F V hC hW i (by omega) hX1 hX2) (fun _ _ => cwV 1 hts (tb_good (tb_cons wm539 (tb_cons wm541 (tb_cons ws11 (tb_cons wm1 k_Mf_valueOf))))) rfl rfl rfl (by decide +kernel) ⟨by rw [hRf]; exact Nat.le_of_ble_eq_true rfl, by rw [hRl]; exact Nat.le_of_ble_eq_true rfl⟩) hC.ob rfl bl_1 bl_2 rfl (Nat.le_of_ble_eq_true rfl) d_Mf_prism_2) (fun r_56 G_53 B_54 p_55 => ?_)
      obtain ⟨u_57, iv_58⟩ := p_55
      cases u_57
      have rb_59 : rb (S.v i) 100 := rb_of (hW.v _ (by omega)).1
      have ub_60 := (hW.v i (by omega)).2
      have ub_61 := ub_60.1
      have ub_62 := ub_60.2
      refine gst (pc' := 7) (L' := [(5, .ref r_56), (0, .ref a.x), (1, .int (nI i)), (2, .int (iI xb)), (3, .int (iI xc)), (4, .int (iI xd))]) (fun _ _ _ _ _ hl => lv_astore hx hb d_Mf_prism_5 hl (by decide) rfl) ?_
      refine gs (pc' := 8) (fun _ _ _ _ _ hl => lv_aload_n hx hb d_Mf_prism_7 rfl (lv_at hl 1 rfl)) ?_
      refine gs (pc' := 9) (fun _ _ _ _ _ hl => lv_iload_n hx hb d_Mf_prism_8 rfl (lv_at hl 3 rfl)) ?_
      exact g_up hlocks hne bl_1 bl_2 (g_thrV (As := [.int (iI xb)]) (rest := []) ⟨hx, hb, hml, hown, hts⟩ hK hZ hRc hRs (t_Mf_valueOf l D cA lo MC MS G B X a S F V hC hW xb hxb1 hxb2 (nvi hxb1 hxb2 hv_xb) hY1 hY2 hfl) (fun _ _ => cwV 1 hts (tb_good (tb_cons wm539 (tb_cons wm541 (tb_cons ws11 (tb_cons wm1 k_Mf_valueOf))))) rfl rfl rfl (by decide +kernel) ⟨by rw [hRf]; exact Nat.le_of_ble_eq_true rfl, by rw [hRl]; exact Nat.le_of_ble_eq_true rfl⟩) hC.ob rfl bl_1 bl_2 rfl (Nat.le_of_ble_eq_true rfl) d_Mf_prism_9) (fun _ h => h) hQ
  · skip
    refine gs (pc' := 1) (fun _ _ _ _ _ hl => lv_aload_n hx hb d_Mf_prism_0 rfl (lv_at hl 0 rfl)) ?_
    refine gs (pc' := 2) (fun _ _ _ _ _ hl => lv_iload_n hx hb d_Mf_prism_1 rfl (lv_at hl 1 rfl)) ?_
    exact g_up hlocks hne bl_1 bl_2 (g_thrV (As := [.int (iI xa)]) (rest := []) ⟨hx, hb, hml, hown, hts⟩ hK hZ hRc hRs (t_Mf_valueOf l D cA lo MC MS G B X a S F V hC hW xa hxa1 hxa2 (nvi hxa1 hxa2 hv_xa) hY1 hY2 hfl) (fun _ _ => cwV 1 hts (tb_good (tb_cons wm539 (tb_cons wm541 (tb_cons ws11 (tb_cons wm1 k_Mf_valueOf))))) rfl rfl rfl (by decide +kernel) ⟨by rw [hRf]; exact Nat.le_of_ble_eq_true rfl, by rw [hRl]; exact Nat.le_of_ble_eq_true rfl⟩) hC.ob rfl bl_1 bl_2 rfl (Nat.le_of_ble_eq_true rfl) d_Mf_prism_2) (fun _ h => h) hQ
