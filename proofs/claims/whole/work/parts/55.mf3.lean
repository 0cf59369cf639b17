set_option maxHeartbeats 4000000 in
set_option maxRecDepth 100000 in
theorem c_Mf_round (l : Launch) (D : va_G) (cA : Nat → ClassId) (lo MC MS : Nat) (G : gT) (B : Nat × Nat) (X : Nat × Nat) (a : AX) (S : St) (F : Nat → Option Rat) (V : Nat → Nat) (hC : CW cA X a S F V (G, B)) (hW : WF S) (x : Int) (hx1 : -2147483648 ≤ x) (hx2 : x < 2147483648) (ru : Int) (hru1 : -2147483648 ≤ ru) (hru2 : ru < 2147483648) (sp : Int) (hsp1 : -2147483648 ≤ sp) (hsp2 : sp < 2147483648) (hk : (sp_round S (iI x) (iI ru) (iI sp)).1 = 0) (hY1 : X.1 + 6 ≤ MC) (hY2 : X.2 + 209 ≤ MS) : gMet l y_Mf_round w_Mf_round 8 211 D clS (gtys cA) lo MC MS [.ref a.x, .int (iI x), .int (iI ru), .int (iI sp)] G B (gQi D clS lo (fun r u => r = iI (sp_round S (iI x) (iI ru) (iI sp)).2.1 ∧ CW3 cA (X.1 + 6, X.2 + 209) a (sp_round S (iI x) (iI ru) (iI sp)).2.2 u ∧ gfr (fun x => x < 70) G u.1)) := by
  refine g_meti (cc := prog_1_method_7_code) (nL := 5) (L := [(0, .ref a.x), (1, .int (iI x)), (2, .int (iI ru)), (3, .int (iI sp))]) (by decide +kernel) rfl (Nat.le_of_ble_eq_true rfl) rfl ?_
  intro p e R s m args below meth c Q hF hRc hRs hRf hRl hret
  obtain ⟨hx, hb, hr, hml, hts0, hown, hlocks, hin, hK, hlo, hZ⟩ := hF
  have hts : ∀ w ∈ tbg, w.before args s = true := fun w h => hts0 w (List.mem_cons_of_mem _ h)
  have hX1 : X.1 ≤ MC := by omega
  have hX2 : X.2 ≤ MS := by omega
  have hn := hW.n
  have hrn := hW.rn
  have hwn := hW.wn
  have bl_1 : B.1 ≤ MC := Nat.le_trans (w2_le hC.w).1 hX1
  have bl_2 : B.2 ≤ MS := Nat.le_trans (w2_le hC.w).2 hX2
  have hv : vi S (iI x) := by
    by_cases z9 : vi S (iI x)
    · exact z9
    · rw [sp_round, if_pos z9] at hk; simp at hk
  have hq : (0 ≤ (iI ru).toInt ∧ (iI ru).toInt ≤ 3 ∧ 1 ≤ (iI sp).toInt ∧ (iI sp).toInt ≤ 1000000000) := by
    by_cases z9 : (0 ≤ (iI ru).toInt ∧ (iI ru).toInt ≤ 3 ∧ 1 ≤ (iI sp).toInt ∧ (iI sp).toInt ≤ 1000000000)
    · exact z9
    · rw [sp_round, if_neg (fun z8 => z8 hv), if_pos z9] at hk; simp at hk
  obtain ⟨hq1, hq2, hq3, hq4⟩ := id hq
  obtain ⟨i, hi_i, hxe_x, ei_i⟩ := ix_of hv.1 hv.2
  rw [hxe_x]
  obtain ⟨rn, hrn4, hxe_ru, ei_rn⟩ := ix_of (n := 4) hq1 (by omega)
  obtain ⟨sn, hsn4, hxe_sp, ei_sn⟩ := ix_of (n := 1000000001) (x := iI sp) (by omega) (by omega)
  have hsn1 : 1 ≤ sn := by
    have z9 := ei_sn
    show 1 ≤ sn
    rw [← ei_sn]
    show 1 ≤ (iI sp).toInt.toNat
    omega
  rw [hxe_ru]
  rw [hxe_sp]
  have hsp : sp_round S (iI x) (iI ru) (iI sp) = if S.n = 200 then (0, -3, S) else kp S (rnd (S.v i) rn sn) (S.un i) := by
    rw [sp_round, if_neg (fun z9 => z9 hv), if_neg (fun z9 => z9 hq), ei_i, ei_rn, ei_sn]
  refine gs (pc' := 1) (fun _ _ _ _ _ hl => lv_aload_n hx hb d_Mf_round_0 rfl (lv_at hl 0 rfl)) ?_
  refine gs (pc' := 2) (fun _ _ _ _ _ hl => lv_iload_n hx hb d_Mf_round_1 rfl (lv_at hl 1 rfl)) ?_
  have f_3 : G a.x = some (31, .inr (8, [.ref a.vs, .int (nI S.n), .ref a.rs, .int (nI S.rn), .ref a.ws, .ref a.ca, .ref (a.fr 0), .ref (a.fr 1), .ref (a.fr 2), .ref (a.fr 3), .ref a.zr, .ref a.fo, .ref a.ha, .ref a.si])) := hC.ob
  refine g_outr hlo (g_runV (As := [.int (nI i)]) (rest := []) ⟨hx, hb, hml, hown, hts⟩ hK hZ hRc hRs (c_Mf_valueOf l D cA lo MC MS G B X a S F V hC hW i (by omega) hX1 hX2) (fun _ _ => cwV 1 hts (tb_good (tb_cons wm539 (tb_cons wm541 (tb_cons ws11 (tb_cons wm1 k_Mf_valueOf))))) rfl rfl rfl (by decide +kernel) ⟨by rw [hRf]; exact Nat.le_of_ble_eq_true rfl, by rw [hRl]; exact Nat.le_of_ble_eq_true rfl⟩) f_3 rfl bl_1 bl_2 rfl (Nat.le_of_ble_eq_true rfl) d_Mf_round_2) (fun r_7 G_4 B_5 p_6 => ?_)
  obtain ⟨u_8, iv_9⟩ := p_6
  cases u_8
  have rb_10 : rb (S.v i) 100 := rb_of (hW.v _ (by omega)).1
  have ub_11 := (hW.v i (by omega)).2
  have ub_12 := ub_11.1
  have ub_13 := ub_11.2
  refine gst (pc' := 7) (L' := [(4, .ref r_7), (0, .ref a.x), (1, .int (nI i)), (2, .int (nI rn)), (3, .int (nI sn))]) (fun _ _ _ _ _ hl => lv_astore hx hb d_Mf_round_5 hl (by decide) rfl) ?_
  refine gs (pc' := 8) (fun _ _ _ _ _ hl => lv_iload_n hx hb d_Mf_round_7 rfl (lv_at hl 3 rfl)) ?_
  refine gsb (pc1 := 16) (pc2 := 11) (fun _ _ _ _ _ => lv_if_lt (tgt := 16) hx hb d_Mf_round_8 (by decide)) (fun c_14 => ?_) (fun c_14 => ?_)
  · skip
    have nc_14 : rn < 0 := (n0_lt (a := rn) (by omega)).1 c_14
    exact absurd nc_14 (by omega)
  · skip
    have nc_14 : rn ≥ 0 := (n0_lt (a := rn) (by omega)).2 c_14
    refine gs (pc' := 12) (fun _ _ _ _ _ hl => lv_iload_n hx hb d_Mf_round_11 rfl (lv_at hl 3 rfl)) ?_
    refine gs (pc' := 13) (fun _ _ _ _ _ hl => lv_iconst (v := nI 3) hx hb d_Mf_round_12 (by decide)) ?_
    refine gsb (pc1 := 26) (pc2 := 16) (fun _ _ _ _ _ => lv_icmp_le (tgt := 26) hx hb d_Mf_round_13 (by decide)) (fun c_15 => ?_) (fun c_15 => ?_)
    · skip
      have nc_15 : rn ≤ 3 := (nn_le (a := rn) (b := 3) (by omega) (by omega)).1 c_15
      refine gs (pc' := 27) (fun _ _ _ _ _ hl => lv_iload_n hx hb d_Mf_round_26 rfl (lv_at hl 4 rfl)) ?_
      refine gs (pc' := 28) (fun _ _ _ _ _ hl => lv_iconst (v := nI 1) hx hb d_Mf_round_27 (by decide)) ?_
      refine gsb (pc1 := 37) (pc2 := 31) (fun _ _ _ _ _ => lv_icmp_lt (tgt := 37) hx hb d_Mf_round_28 (by decide)) (fun c_16 => ?_) (fun c_16 => ?_)
      · skip
        have nc_16 : sn < 1 := (nn_lt (a := sn) (b := 1) (by omega) (by omega)).1 c_16
        exact absurd nc_16 (by omega)
      · skip
        have nc_16 : sn ≥ 1 := (nn_lt (a := sn) (b := 1) (by omega) (by omega)).2 c_16
        refine gs (pc' := 32) (fun _ _ _ _ _ hl => lv_iload_n hx hb d_Mf_round_31 rfl (lv_at hl 4 rfl)) ?_
        refine gs (pc' := 34) (fun _ _ _ _ _ hl => lv_ldc (v := 1000000000) hx hb hown (hts _ wm618) d_Mf_round_32) ?_
        refine g_eqi (show 1000000000 = nI 1000000000 from rfl) ?_
        refine gsb (pc1 := 47) (pc2 := 37) (fun _ _ _ _ _ => lv_icmp_le (tgt := 47) hx hb d_Mf_round_34 (by decide)) (fun c_17 => ?_) (fun c_17 => ?_)
        · skip
          have nc_17 : sn ≤ 1000000000 := (nn_le (a := sn) (b := 1000000000) (by omega) (by omega)).1 c_17
          refine gs (pc' := 48) (fun _ _ _ _ _ hl => lv_aload_n hx hb d_Mf_round_47 rfl (lv_at hl 1 rfl)) ?_
          refine g_outi hlo (g_runV (As := []) (rest := []) ⟨hx, hb, hml, hown, hts⟩ hK hZ hRc hRs (c_Mf_isFull l D cA lo MC MS G B X a S F V hC hW hX1 hX2) (fun _ _ => cwV 0 hts (tb_good (tb_cons wm386 (tb_cons wm388 (tb_cons ws1 (tb_cons wm1 k_Mf_isFull))))) rfl rfl rfl (by decide +kernel) ⟨by rw [hRf]; exact Nat.le_of_ble_eq_true rfl, by rw [hRl]; exact Nat.le_of_ble_eq_true rfl⟩) f_3 rfl bl_1 bl_2 rfl (Nat.le_of_ble_eq_true rfl) d_Mf_round_48) (fun r_21 G_18 B_19 p_20 => ?_)
          obtain ⟨u_22, e_23⟩ := p_20
          cases u_22
          subst e_23
          have bd_24 := b01_le (decide (S.n = 200))
          refine gsb (pc1 := 57) (pc2 := 54) (fun _ _ _ _ _ => lv_if_eq (tgt := 57) hx hb d_Mf_round_51 (by decide)) (fun c_25 => ?_) (fun c_25 => ?_)
          · skip
            have nc_25 : (b01 (decide (S.n = 200))) = 0 := (n0_eq (a := (b01 (decide (S.n = 200)))) (by omega)).1 c_25
            have hnf := b01_0 nc_25
            refine gs (pc' := 58) (fun _ _ _ _ _ hl => lv_aload_n hx hb d_Mf_round_57 rfl (lv_at hl 1 rfl)) ?_
            refine g_get hx hb hts hin_Mf hown hK f_3 rfl 5 (by decide) (hts _ wm240) (fun _ h9 => h9) rfl d_Mf_round_58 ?_
            refine gs (pc' := 62) (fun _ _ _ _ _ hl => lv_aload_n hx hb d_Mf_round_61 rfl (lv_at hl 1 rfl)) ?_
            refine g_get hx hb hts hin_Mf hown hK f_3 rfl 6 (by decide) (hts _ wm241) (fun _ h9 => h9) rfl d_Mf_round_62 ?_
            refine gs (pc' := 67) (fun _ _ _ _ _ hl => lv_aload hx hb d_Mf_round_65 (lv_at hl 0 rfl)) ?_
            obtain ⟨hf_26, f_27, kq_28⟩ := id iv_9
            have f_29 : G r_7 = some (30, .inr (6, [.ref hf_26, .int (iI (S.un i))])) := f_27
            refine g_get hx hb hts hin_Va hown hK f_29 rfl 0 (by decide) (hts _ wm523) (fun _ h9 => h9) rfl d_Mf_round_67 ?_
            refine gs (pc' := 71) (fun _ _ _ _ _ hl => lv_iload_n hx hb d_Mf_round_70 rfl (lv_at hl 3 rfl)) ?_
            refine gs (pc' := 72) (fun _ _ _ _ _ hl => lv_iload_n hx hb d_Mf_round_71 rfl (lv_at hl 4 rfl)) ?_
            have f_30 : G a.ca = some (30, .inr (0, [.ref a.hd, .ref a.hc, .ref (a.ad 5), .ref (a.ad 6), .ref (a.ad 7), .ref (a.ad 8), .ref (a.ad 9), .ref (a.ad 10)])) := hC.ca
            refine g_outv hlo (g_runV (As := [.ref (a.fr 0), .ref hf_26, .int (nI rn), .int (nI sn)]) (rest := []) ⟨hx, hb, hml, hown, hts⟩ hK hZ hRc hRs (c3_round l D cA lo MC MS G B X a S F V hC hX1 hX2 0 (by decide) hf_26 (S.v i) (Or.inr kq_28) 100 rb_10 rn sn (by omega) (by omega) (by omega) (by decide)) (fun _ _ => cwV 4 hts (tb_good (tb_cons wm620 (tb_cons wm621 (tb_cons wm622 (tb_cons wm3 k_Ca_setRounded))))) rfl rfl rfl (by decide +kernel) ⟨by rw [hRf]; exact Nat.le_of_ble_eq_true rfl, by rw [hRl]; exact Nat.le_of_ble_eq_true rfl⟩) f_30 rfl bl_1 bl_2 rfl (Nat.le_of_ble_eq_true rfl) d_Mf_round_72) (fun G_31 B_32 p_33 => ?_)
            obtain ⟨V_34, C_35, fr_36⟩ := p_33
            have iv_37 : isV cA G_31 r_7 (S.v i) (S.un i) := isV_24 iv_9 fr_36
            have kq_38 : kq cA G_31 hf_26 (S.v i) := kq_24 kq_28 fr_36
            have fr_39 : gfr (fun x => x < 24) G G_31 := gfr_24 gfr_rf fr_36
            have f_40 : G_31 r_7 = some (30, .inr (6, [.ref hf_26, .int (iI (S.un i))])) := fr_36 _ _ f_29 (show ¬ (30 : Nat) < 24 by decide)
            have rb_41 : rb (rnd (S.v i) rn sn) 103 := rb_rnd (k := 100) rb_10 (by omega) (by omega)
            have bl_42 : B_32.1 ≤ MC := Nat.le_trans (w2_le C_35.w).1 hX1
            have bl_43 : B_32.2 ≤ MS := Nat.le_trans (w2_le C_35.w).2 hX2
            refine gs (pc' := 76) (fun _ _ _ _ _ hl => lv_aload_n hx hb d_Mf_round_75 rfl (lv_at hl 1 rfl)) ?_
            refine gs (pc' := 77) (fun _ _ _ _ _ hl => lv_aload_n hx hb d_Mf_round_76 rfl (lv_at hl 1 rfl)) ?_
            have f_44 : G_31 a.x = some (31, .inr (8, [.ref a.vs, .int (nI S.n), .ref a.rs, .int (nI S.rn), .ref a.ws, .ref a.ca, .ref (a.fr 0), .ref (a.fr 1), .ref (a.fr 2), .ref (a.fr 3), .ref a.zr, .ref a.fo, .ref a.ha, .ref a.si])) := C_35.ob
            refine g_get hx hb hts hin_Mf hown hK f_44 rfl 6 (by decide) (hts _ wm241) (fun _ h9 => h9) rfl d_Mf_round_77 ?_
            refine gs (pc' := 82) (fun _ _ _ _ _ hl => lv_aload hx hb d_Mf_round_80 (lv_at hl 0 rfl)) ?_
            refine g_get hx hb hts hin_Va hown hK f_40 rfl 1 (by decide) (hts _ wm525) (fun _ h9 => h9) rfl d_Mf_round_82 ?_
            refine g_outi hlo (g_runV (As := [.ref (a.fr 0), .int (iI (S.un i))]) (rest := []) ⟨hx, hb, hml, hown, hts⟩ hK hZ hRc hRs (c_Mf_keep0 l D cA lo MC MS G_31 B_32 X a S (fup F 0 (some (rnd (S.v i) rn sn))) V_34 C_35 hW (rnd (S.v i) rn sn) rfl 103 rb_41 (by decide) (S.un i) hnf hY1 hY2) (fun _ _ => cwV 2 hts (tb_good (tb_cons wm495 (tb_cons wm497 (tb_cons ws10 (tb_cons wm1 k_Mf_keep))))) rfl rfl rfl (by decide +kernel) ⟨by rw [hRf]; exact Nat.le_of_ble_eq_true rfl, by rw [hRl]; exact Nat.le_of_ble_eq_true rfl⟩) f_44 rfl bl_42 bl_43 rfl (Nat.le_of_ble_eq_true rfl) d_Mf_round_85) (fun r_48 G_45 B_46 p_47 => ?_)
            obtain ⟨e_49, C_50, fr_51⟩ := p_47
            subst e_49
            have fr_52 : gfr (fun x => x < 70) G G_45 := gfr_mono (gfr_tr fr_39 fr_51) (fun x h9 => by rcases h9 with h9 | h9 <;> omega)
            have bl_53 := CW3_le C_50
            have hs2 : sp_round S (iI x) (iI ru) (iI sp) = kp S (rnd (S.v i) rn sn) (S.un i) := by rw [hsp, if_neg hnf]
            exact hret 88 _ _ _ _ d_Mf_round_88 (Nat.le_trans bl_53.1 hY1) (Nat.le_trans bl_53.2 hY2) ⟨by rw [hs2], by rw [hs2]; exact C_50, fr_52⟩
          · skip
            have nc_25 : (b01 (decide (S.n = 200))) ≠ 0 := (n0_eq (a := (b01 (decide (S.n = 200)))) (by omega)).2 c_25
            have hnf := b01_1 nc_25
            refine gs (pc' := 56) (fun _ _ _ _ _ hl => lv_bipush (v := (-3)) hx hb d_Mf_round_54 (by decide)) ?_
            refine g_eqi (show (-3) = iI (-3) from by decide) ?_
            have hs2 : sp_round S (iI x) (iI ru) (iI sp) = (0, -3, S) := by rw [hsp, if_pos hnf]
            exact hret 56 _ _ _ _ d_Mf_round_56 bl_1 bl_2 ⟨by rw [hs2], by rw [hs2]; exact hC.up (X1 := (X.1 + 6, X.2 + 209)) (show X.1 ≤ X.1 + 6 by omega) (show X.2 ≤ X.2 + 209 by omega), (gfr_mono (M := fun x => x < 24) gfr_rf (fun x h9 => by omega))⟩
        · skip
          have nc_17 : sn > 1000000000 := (nn_le (a := sn) (b := 1000000000) (by omega) (by omega)).2 c_17
          exact absurd nc_17 (by omega)
    · skip
      have nc_15 : rn > 3 := (nn_le (a := rn) (b := 3) (by omega) (by omega)).2 c_15
      exact absurd nc_15 (by omega)
set_option maxHeartbeats 4000000 in
set_option maxRecDepth 100000 in
theorem t_Mf_round1 (l : Launch) (D : va_G) (cA : Nat → ClassId) (lo MC MS : Nat) (G : gT) (B : Nat × Nat) (X : Nat × Nat) (a : AX) (S : St) (F : Nat → Option Rat) (V : Nat → Nat) (hC : CW cA X a S F V (G, B)) (hW : WF S) (x : Int) (hx1 : -2147483648 ≤ x) (hx2 : x < 2147483648) (ru : Int) (hru1 : -2147483648 ≤ ru) (hru2 : ru < 2147483648) (sp : Int) (hsp1 : -2147483648 ≤ sp) (hsp2 : sp < 2147483648) (hk : (sp_round S (iI x) (iI ru) (iI sp)).1 = 1) (hY1 : X.1 + 1 ≤ MC) (hY2 : X.2 + 6 ≤ MS) (hfl : ∀ e : Env, l.admits e → e.platform.stackTraces = false) : gMetT l y_Mf_round w_Mf_round 7 111 D clS (gtys cA) lo MC MS [.ref a.x, .int (iI x), .int (iI ru), .int (iI sp)] G B (gQx D clS lo "java/lang/IndexOutOfBoundsException" (fun u => u = (G, B.1 + 1, B.2 + 6))) := by
  refine g_mett (cc := prog_1_method_7_code) (nL := 5) (ret := (Option.some .int)) (L := [(0, .ref a.x), (1, .int (iI x)), (2, .int (iI ru)), (3, .int (iI sp))]) (by decide +kernel) rfl (Nat.le_of_ble_eq_true rfl) rfl ?_
  intro p e R s m args below meth c Q hF hRc hRs hRf hRl hne hQ
  obtain ⟨hx, hb, hr, hml, hts0, hown, hlocks, hin, hK, hlo, hZ⟩ := hF
  have hts : ∀ w ∈ tbg, w.before args s = true := fun w h => hts0 w (List.mem_cons_of_mem _ h)
  have hX1 : X.1 ≤ MC := by omega
  have hX2 : X.2 ≤ MS := by omega
  have hn := hW.n
  have hrn := hW.rn
  have hwn := hW.wn
  have bl_1 : B.1 ≤ MC := Nat.le_trans (w2_le hC.w).1 hX1
  have bl_2 : B.2 ≤ MS := Nat.le_trans (w2_le hC.w).2 hX2
  have hv : ¬ vi S (iI x) := fun z9 => by
    rw [sp_round, if_neg (fun z8 => z8 z9)] at hk
    split at hk
    · simp at hk
    split at hk
    · simp at hk
    · rw [kp_0] at hk; simp at hk
  refine gs (pc' := 1) (fun _ _ _ _ _ hl => lv_aload_n hx hb d_Mf_round_0 rfl (lv_at hl 0 rfl)) ?_
  refine gs (pc' := 2) (fun _ _ _ _ _ hl => lv_iload_n hx hb d_Mf_round_1 rfl (lv_at hl 1 rfl)) ?_
  have f_3 : G a.x = some (31, .inr (8, [.ref a.vs, .int (nI S.n), .ref a.rs, .int (nI S.rn), .ref a.ws, .ref a.ca, .ref (a.fr 0), .ref (a.fr 1), .ref (a.fr 2), .ref (a.fr 3), .ref a.zr, .ref a.fo, .ref a.ha, .ref a.si])) := hC.ob
  exact g_up hlocks hne bl_1 bl_2 (g_thrV (As := [.int (iI x)]) (rest := []) ⟨hx, hb, hml, hown, hts⟩ hK hZ hRc hRs (t_Mf_valueOf l D cA lo MC MS G B X a S F V hC hW x hx1 hx2 (nvi hx1 hx2 hv) hY1 hY2 hfl) (fun _ _ => cwV 1 hts (tb_good (tb_cons wm539 (tb_cons wm541 (tb_cons ws11 (tb_cons wm1 k_Mf_valueOf))))) rfl rfl rfl (by decide +kernel) ⟨by rw [hRf]; exact Nat.le_of_ble_eq_true rfl, by rw [hRl]; exact Nat.le_of_ble_eq_true rfl⟩) f_3 rfl bl_1 bl_2 rfl (Nat.le_of_ble_eq_true rfl) d_Mf_round_2) (fun _ h => h) hQ
set_option maxHeartbeats 4000000 in
set_option maxRecDepth 100000 in
theorem t_Mf_round2 (l : Launch) (D : va_G) (cA : Nat → ClassId) (lo MC MS : Nat) (G : gT) (B : Nat × Nat) (X : Nat × Nat) (a : AX) (S : St) (F : Nat → Option Rat) (V : Nat → Nat) (hC : CW cA X a S F V (G, B)) (hW : WF S) (x : Int) (hx1 : -2147483648 ≤ x) (hx2 : x < 2147483648) (ru : Int) (hru1 : -2147483648 ≤ ru) (hru2 : ru < 2147483648) (sp : Int) (hsp1 : -2147483648 ≤ sp) (hsp2 : sp < 2147483648) (hk : (sp_round S (iI x) (iI ru) (iI sp)).1 = 2) (hY1 : X.1 + 1 ≤ MC) (hY2 : X.2 + 6 ≤ MS) (hfl : ∀ e : Env, l.admits e → e.platform.stackTraces = false) : gMetT l y_Mf_round w_Mf_round 6 90 D clS (gtys cA) lo MC MS [.ref a.x, .int (iI x), .int (iI ru), .int (iI sp)] G B (gQx D clS lo "java/lang/IllegalArgumentException" (fun u => u = (G, B.1 + 1, B.2 + 6))) := by
  refine g_mett (cc := prog_1_method_7_code) (nL := 5) (ret := (Option.some .int)) (L := [(0, .ref a.x), (1, .int (iI x)), (2, .int (iI ru)), (3, .int (iI sp))]) (by decide +kernel) rfl (Nat.le_of_ble_eq_true rfl) rfl ?_
  intro p e R s m args below meth c Q hF hRc hRs hRf hRl hne hQ
  obtain ⟨hx, hb, hr, hml, hts0, hown, hlocks, hin, hK, hlo, hZ⟩ := hF
  have hts : ∀ w ∈ tbg, w.before args s = true := fun w h => hts0 w (List.mem_cons_of_mem _ h)
  have hX1 : X.1 ≤ MC := by omega
  have hX2 : X.2 ≤ MS := by omega
  have hn := hW.n
  have hrn := hW.rn
  have hwn := hW.wn
  have bl_1 : B.1 ≤ MC := Nat.le_trans (w2_le hC.w).1 hX1
  have bl_2 : B.2 ≤ MS := Nat.le_trans (w2_le hC.w).2 hX2
  have hv : vi S (iI x) := by
    by_cases z9 : vi S (iI x)
    · exact z9
    · rw [sp_round, if_pos z9] at hk; simp at hk
  have hq : ¬ (0 ≤ (iI ru).toInt ∧ (iI ru).toInt ≤ 3 ∧ 1 ≤ (iI sp).toInt ∧ (iI sp).toInt ≤ 1000000000) := fun z9 => by
    rw [sp_round, if_neg (fun z8 => z8 hv), if_neg (fun z8 => z8 z9)] at hk
    split at hk
    · simp at hk
    · rw [kp_0] at hk; simp at hk
  rw [iI_toInt hru1 hru2, iI_toInt hsp1 hsp2] at hq
  obtain ⟨i, hi_i, hxe_x, ei_i⟩ := ix_of hv.1 hv.2
  rw [hxe_x]
  refine gs (pc' := 1) (fun _ _ _ _ _ hl => lv_aload_n hx hb d_Mf_round_0 rfl (lv_at hl 0 rfl)) ?_
  refine gs (pc' := 2) (fun _ _ _ _ _ hl => lv_iload_n hx hb d_Mf_round_1 rfl (lv_at hl 1 rfl)) ?_
  have f_3 : G a.x = some (31, .inr (8, [.ref a.vs, .int (nI S.n), .ref a.rs, .int (nI S.rn), .ref a.ws, .ref a.ca, .ref (a.fr 0), .ref (a.fr 1), .ref (a.fr 2), .ref (a.fr 3), .ref a.zr, .ref a.fo, .ref a.ha, .ref a.si])) := hC.ob
  refine g_outr hlo (g_runV (As := [.int (nI i)]) (rest := []) ⟨hx, hb, hml, hown, hts⟩ hK hZ hRc hRs (c_Mf_valueOf l D cA lo MC MS G B X a S F V hC hW i (by omega) hX1 hX2) (fun _ _ => cwV 1 hts (tb_good (tb_cons wm539 (tb_cons wm541 (tb_cons ws11 (tb_cons wm1 k_Mf_valueOf))))) rfl rfl rfl (by decide +kernel) ⟨by rw [hRf]; exact Nat.le_of_ble_eq_true rfl, by rw [hRl]; exact Nat.le_of_ble_eq_true rfl⟩) f_3 rfl bl_1 bl_2 rfl (Nat.le_of_ble_eq_true rfl) d_Mf_round_2) (fun r_7 G_4 B_5 p_6 => ?_)
  obtain ⟨u_8, iv_9⟩ := p_6
  cases u_8
  have rb_10 : rb (S.v i) 100 := rb_of (hW.v _ (by omega)).1
  have ub_11 := (hW.v i (by omega)).2
  have ub_12 := ub_11.1
  have ub_13 := ub_11.2
  refine gst (pc' := 7) (L' := [(4, .ref r_7), (0, .ref a.x), (1, .int (nI i)), (2, .int (iI ru)), (3, .int (iI sp))]) (fun _ _ _ _ _ hl => lv_astore hx hb d_Mf_round_5 hl (by decide) rfl) ?_
  refine gs (pc' := 8) (fun _ _ _ _ _ hl => lv_iload_n hx hb d_Mf_round_7 rfl (lv_at hl 3 rfl)) ?_
  refine gsb (pc1 := 16) (pc2 := 11) (fun _ _ _ _ _ => lv_if_lt (tgt := 16) hx hb d_Mf_round_8 (by decide)) (fun c_14 => ?_) (fun c_14 => ?_)
  · skip
    have nc_14 : ru < 0 := (ii_lt (a := ru) (b := 0) (by omega) (by omega) (by omega) (by omega)).1 (by first | exact c_14 | (have z9 := c_14; simp only [nI_iI] at z9; exact z9))
    have le_15 := w2_le hC.w
    exact g_throw (tx := "no such rule") (post := fun u => u = (G, B.1 + 1, B.2 + 6)) hx hb hml hown hts hlo hZ hfl hlocks hne (fun U h h1 h2 => own_Iae h h1 h2) (by decide +kernel) wm370 wm371 wm17 (by decide) hRc hRs (by rw [hRf]; exact Nat.le_of_ble_eq_true rfl) (by rw [hRl]; exact Nat.le_of_ble_eq_true rfl) (by have := le_15.1; omega) (by have := le_15.2; omega) d_Mf_round_16 d_Mf_round_19 d_Mf_round_20 d_Mf_round_22 d_Mf_round_25 rfl hQ
  · skip
    have nc_14 : ru ≥ 0 := (ii_lt (a := ru) (b := 0) (by omega) (by omega) (by omega) (by omega)).2 (by first | exact c_14 | (have z9 := c_14; simp only [nI_iI] at z9; exact z9))
    refine gs (pc' := 12) (fun _ _ _ _ _ hl => lv_iload_n hx hb d_Mf_round_11 rfl (lv_at hl 3 rfl)) ?_
    refine gs (pc' := 13) (fun _ _ _ _ _ hl => lv_iconst (v := nI 3) hx hb d_Mf_round_12 (by decide)) ?_
    refine gsb (pc1 := 26) (pc2 := 16) (fun _ _ _ _ _ => lv_icmp_le (tgt := 26) hx hb d_Mf_round_13 (by decide)) (fun c_16 => ?_) (fun c_16 => ?_)
    · skip
      have nc_16 : ru ≤ ((3 : Nat) : Int) := (ii_le (a := ru) (b := ((3 : Nat) : Int)) (by omega) (by omega) (by omega) (by omega)).1 (by first | exact c_16 | (have z9 := c_16; simp only [nI_iI] at z9; exact z9))
      refine gs (pc' := 27) (fun _ _ _ _ _ hl => lv_iload_n hx hb d_Mf_round_26 rfl (lv_at hl 4 rfl)) ?_
      refine gs (pc' := 28) (fun _ _ _ _ _ hl => lv_iconst (v := nI 1) hx hb d_Mf_round_27 (by decide)) ?_
      refine gsb (pc1 := 37) (pc2 := 31) (fun _ _ _ _ _ => lv_icmp_lt (tgt := 37) hx hb d_Mf_round_28 (by decide)) (fun c_17 => ?_) (fun c_17 => ?_)
      · skip
        have nc_17 : sp < ((1 : Nat) : Int) := (ii_lt (a := sp) (b := ((1 : Nat) : Int)) (by omega) (by omega) (by omega) (by omega)).1 (by first | exact c_17 | (have z9 := c_17; simp only [nI_iI] at z9; exact z9))
        have le_18 := w2_le hC.w
        exact g_throw (tx := "steps are not 1 .. 1000000000") (post := fun u => u = (G, B.1 + 1, B.2 + 6)) hx hb hml hown hts hlo hZ hfl hlocks hne (fun U h h1 h2 => own_Iae h h1 h2) (by decide +kernel) wm370 wm371 wm17 (by decide) hRc hRs (by rw [hRf]; exact Nat.le_of_ble_eq_true rfl) (by rw [hRl]; exact Nat.le_of_ble_eq_true rfl) (by have := le_18.1; omega) (by have := le_18.2; omega) d_Mf_round_37 d_Mf_round_40 d_Mf_round_41 d_Mf_round_43 d_Mf_round_46 rfl hQ
      · skip
        have nc_17 : sp ≥ ((1 : Nat) : Int) := (ii_lt (a := sp) (b := ((1 : Nat) : Int)) (by omega) (by omega) (by omega) (by omega)).2 (by first | exact c_17 | (have z9 := c_17; simp only [nI_iI] at z9; exact z9))
        refine gs (pc' := 32) (fun _ _ _ _ _ hl => lv_iload_n hx hb d_Mf_round_31 rfl (lv_at hl 4 rfl)) ?_
        refine gs (pc' := 34) (fun _ _ _ _ _ hl => lv_ldc (v := 1000000000) hx hb hown (hts _ wm618) d_Mf_round_32) ?_
        refine g_eqi (show 1000000000 = nI 1000000000 from rfl) ?_
        refine gsb (pc1 := 47) (pc2 := 37) (fun _ _ _ _ _ => lv_icmp_le (tgt := 47) hx hb d_Mf_round_34 (by decide)) (fun c_19 => ?_) (fun c_19 => ?_)
        · skip
          have nc_19 : sp ≤ ((1000000000 : Nat) : Int) := (ii_le (a := sp) (b := ((1000000000 : Nat) : Int)) (by omega) (by omega) (by omega) (by omega)).1 (by first | exact c_19 | (have z9 := c_19; simp only [nI_iI] at z9; exact z9))
          exact absurd nc_19 (fun z9 => hq ⟨by omega, by omega, by omega, by omega⟩)
        · skip
          have nc_19 : sp > ((1000000000 : Nat) : Int) := (ii_le (a := sp) (b := ((1000000000 : Nat) : Int)) (by omega) (by omega) (by omega) (by omega)).2 (by first | exact c_19 | (have z9 := c_19; simp only [nI_iI] at z9; exact z9))
          have le_20 := w2_le hC.w
          exact g_throw (tx := "steps are not 1 .. 1000000000") (post := fun u => u = (G, B.1 + 1, B.2 + 6)) hx hb hml hown hts hlo hZ hfl hlocks hne (fun U h h1 h2 => own_Iae h h1 h2) (by decide +kernel) wm370 wm371 wm17 (by decide) hRc hRs (by rw [hRf]; exact Nat.le_of_ble_eq_true rfl) (by rw [hRl]; exact Nat.le_of_ble_eq_true rfl) (by have := le_20.1; omega) (by have := le_20.2; omega) d_Mf_round_37 d_Mf_round_40 d_Mf_round_41 d_Mf_round_43 d_Mf_round_46 rfl hQ
    · skip
      have nc_16 : ru > ((3 : Nat) : Int) := (ii_le (a := ru) (b := ((3 : Nat) : Int)) (by omega) (by omega) (by omega) (by omega)).2 (by first | exact c_16 | (have z9 := c_16; simp only [nI_iI] at z9; exact z9))
      have le_21 := w2_le hC.w
      exact g_throw (tx := "no such rule") (post := fun u => u = (G, B.1 + 1, B.2 + 6)) hx hb hml hown hts hlo hZ hfl hlocks hne (fun U h h1 h2 => own_Iae h h1 h2) (by decide +kernel) wm370 wm371 wm17 (by decide) hRc hRs (by rw [hRf]; exact Nat.le_of_ble_eq_true rfl) (by rw [hRl]; exact Nat.le_of_ble_eq_true rfl) (by have := le_21.1; omega) (by have := le_21.2; omega) d_Mf_round_16 d_Mf_round_19 d_Mf_round_20 d_Mf_round_22 d_Mf_round_25 rfl hQ
set_option maxHeartbeats 4000000 in
set_option maxRecDepth 100000 in
theorem c_Mf_prism (l : Launch) (D : va_G) (cA : Nat → ClassId) (lo MC MS : Nat) (G : gT) (B : Nat × Nat) (X : Nat × Nat) (a : AX) (S : St) (F : Nat → Option Rat) (V : Nat → Nat) (hC : CW cA X a S F V (G, B)) (hW : WF S) (xa : Int) (hxa1 : -2147483648 ≤ xa) (hxa2 : xa < 2147483648) (xb : Int) (hxb1 : -2147483648 ≤ xb) (hxb2 : xb < 2147483648) (xc : Int) (hxc1 : -2147483648 ≤ xc) (hxc2 : xc < 2147483648) (xd : Int) (hxd1 : -2147483648 ≤ xd) (hxd2 : xd < 2147483648) (hk : (sp_prism S (iI xa) (iI xb) (iI xc) (iI xd)).1 = 0) (hY1 : X.1 + 6 ≤ MC) (hY2 : X.2 + 209 ≤ MS) : gMet l y_Mf_prism w_Mf_prism 7 190 D clS (gtys cA) lo MC MS [.ref a.x, .int (iI xa), .int (iI xb), .int (iI xc), .int (iI xd)] G B (gQi D clS lo (fun r u => r = iI (sp_prism S (iI xa) (iI xb) (iI xc) (iI xd)).2.1 ∧ CW3 cA (X.1 + 6, X.2 + 209) a (sp_prism S (iI xa) (iI xb) (iI xc) (iI xd)).2.2 u ∧ gfr (fun x => x < 70) G u.1)) := by
  refine g_meti (cc := prog_1_method_8_code) (nL := 10) (L := [(0, .ref a.x), (1, .int (iI xa)), (2, .int (iI xb)), (3, .int (iI xc)), (4, .int (iI xd))]) (by decide +kernel) rfl (Nat.le_of_ble_eq_true rfl) rfl ?_
  intro p e R s m args below meth c Q hF hRc hRs hRf hRl hret
  obtain ⟨hx, hb, hr, hml, hts0, hown, hlocks, hin, hK, hlo, hZ⟩ := hF
  have hts : ∀ w ∈ tbg, w.before args s = true := fun w h => hts0 w (List.mem_cons_of_mem _ h)
  have hX1 : X.1 ≤ MC := by omega
  have hX2 : X.2 ≤ MS := by omega
  have hn := hW.n
  have hrn := hW.rn
  have hwn := hW.wn
  have bl_1 : B.1 ≤ MC := Nat.le_trans (w2_le hC.w).1 hX1
  have bl_2 : B.2 ≤ MS := Nat.le_trans (w2_le hC.w).2 hX2
  have hv : vi S (iI xa) ∧ vi S (iI xb) ∧ vi S (iI xc) ∧ vi S (iI xd) := by
    by_cases z9 : vi S (iI xa) ∧ vi S (iI xb) ∧ vi S (iI xc) ∧ vi S (iI xd)
    · exact z9
    · rw [sp_prism, if_pos z9] at hk; simp at hk
  obtain ⟨i, hi_i, hxe_xa, ei_i⟩ := ix_of hv.1.1 hv.1.2
  rw [hxe_xa]
  obtain ⟨j, hi_j, hxe_xb, ei_j⟩ := ix_of hv.2.1.1 hv.2.1.2
  rw [hxe_xb]
  obtain ⟨k, hi_k, hxe_xc, ei_k⟩ := ix_of hv.2.2.1.1 hv.2.2.1.2
  rw [hxe_xc]
  obtain ⟨o, hi_o, hxe_xd, ei_o⟩ := ix_of hv.2.2.2.1 hv.2.2.2.2
  rw [hxe_xd]
  have hsp : sp_prism S (iI xa) (iI xb) (iI xc) (iI xd) = if ¬ (S.un i = S.un j ∧ S.un i = S.un k ∧ uok (S.un i + S.un o)) then (0, -2, S) else if S.n = 200 then (0, -3, S) else kp S ((S.v i + S.v j * 4 + S.v k) * S.v o * (mkRat 1 6)) (S.un i + S.un o) := by
    rw [sp_prism, if_neg (fun z9 => z9 hv), ei_i, ei_j, ei_k, ei_o]
  refine gs (pc' := 1) (fun _ _ _ _ _ hl => lv_aload_n hx hb d_Mf_prism_0 rfl (lv_at hl 0 rfl)) ?_
  refine gs (pc' := 2) (fun _ _ _ _ _ hl => lv_iload_n hx hb d_Mf_prism_1 rfl (lv_at hl 1 rfl)) ?_
  have f_3 : G a.x = some (31, .inr (8, [.ref a.vs, .int (nI S.n), .ref a.rs, .int (nI S.rn), .ref a.ws, .ref a.ca, .ref (a.fr 0), .ref (a.fr 1), .ref (a.fr 2), .ref (a.fr 3), .ref a.zr, .ref a.fo, .ref a.ha, .ref a.si])) := hC.ob
  refine g_outr hlo (g_runV (As := [.int (nI i)]) (rest := []) ⟨hx, hb, hml, hown, hts⟩ hK hZ hRc hRs (c_Mf_valueOf l D cA lo MC MS G B X a S F V hC hW i (by omega) hX1 hX2) (fun _ _ => cwV 1 hts (tb_good (tb_cons wm539 (tb_cons wm541 (tb_cons ws11 (tb_cons wm1 k_Mf_valueOf))))) rfl rfl rfl (by decide +kernel) ⟨by rw [hRf]; exact Nat.le_of_ble_eq_true rfl, by rw [hRl]; exact Nat.le_of_ble_eq_true rfl⟩) f_3 rfl bl_1 bl_2 rfl (Nat.le_of_ble_eq_true rfl) d_Mf_prism_2) (fun r_7 G_4 B_5 p_6 => ?_)
  obtain ⟨u_8, iv_9⟩ := p_6
  cases u_8
  have rb_10 : rb (S.v i) 100 := rb_of (hW.v _ (by omega)).1
  have ub_11 := (hW.v i (by omega)).2
  have ub_12 := ub_11.1
  have ub_13 := ub_11.2
  refine gst (pc' := 7) (L' := [(5, .ref r_7), (0, .ref a.x), (1, .int (nI i)), (2, .int (nI j)), (3, .int (nI k)), (4, .int (nI o))]) (fun _ _ _ _ _ hl => lv_astore hx hb d_Mf_prism_5 hl (by decide) rfl) ?_
  refine gs (pc' := 8) (fun _ _ _ _ _ hl => lv_aload_n hx hb d_Mf_prism_7 rfl (lv_at hl 1 rfl)) ?_
  refine gs (pc' := 9) (fun _ _ _ _ _ hl => lv_iload_n hx hb d_Mf_prism_8 rfl (lv_at hl 3 rfl)) ?_
  refine g_outr hlo (g_runV (As := [.int (nI j)]) (rest := []) ⟨hx, hb, hml, hown, hts⟩ hK hZ hRc hRs (c_Mf_valueOf l D cA lo MC MS G B X a S F V hC hW j (by omega) hX1 hX2) (fun _ _ => cwV 1 hts (tb_good (tb_cons wm539 (tb_cons wm541 (tb_cons ws11 (tb_cons wm1 k_Mf_valueOf))))) rfl rfl rfl (by decide +kernel) ⟨by rw [hRf]; exact Nat.le_of_ble_eq_true rfl, by rw [hRl]; exact Nat.le_of_ble_eq_true rfl⟩) f_3 rfl bl_1 bl_2 rfl (Nat.le_of_ble_eq_true rfl) d_Mf_prism_9) (fun r_17 G_14 B_15 p_16 => ?_)
  obtain ⟨u_18, iv_19⟩ := p_16
  cases u_18
  have rb_20 : rb (S.v j) 100 := rb_of (hW.v _ (by omega)).1
  have ub_21 := (hW.v j (by omega)).2
  have ub_22 := ub_21.1
  have ub_23 := ub_21.2
  refine gst (pc' := 14) (L' := [(6, .ref r_17), (5, .ref r_7), (0, .ref a.x), (1, .int (nI i)), (2, .int (nI j)), (3, .int (nI k)), (4, .int (nI o))]) (fun _ _ _ _ _ hl => lv_astore hx hb d_Mf_prism_12 hl (by decide) rfl) ?_
  refine gs (pc' := 15) (fun _ _ _ _ _ hl => lv_aload_n hx hb d_Mf_prism_14 rfl (lv_at hl 2 rfl)) ?_
  refine gs (pc' := 16) (fun _ _ _ _ _ hl => lv_iload_n hx hb d_Mf_prism_15 rfl (lv_at hl 5 rfl)) ?_
  refine g_outr hlo (g_runV (As := [.int (nI k)]) (rest := []) ⟨hx, hb, hml, hown, hts⟩ hK hZ hRc hRs (c_Mf_valueOf l D cA lo MC MS G B X a S F V hC hW k (by omega) hX1 hX2) (fun _ _ => cwV 1 hts (tb_good (tb_cons wm539 (tb_cons wm541 (tb_cons ws11 (tb_cons wm1 k_Mf_valueOf))))) rfl rfl rfl (by decide +kernel) ⟨by rw [hRf]; exact Nat.le_of_ble_eq_true rfl, by rw [hRl]; exact Nat.le_of_ble_eq_true rfl⟩) f_3 rfl bl_1 bl_2 rfl (Nat.le_of_ble_eq_true rfl) d_Mf_prism_16) (fun r_27 G_24 B_25 p_26 => ?_)
  obtain ⟨u_28, iv_29⟩ := p_26
  cases u_28
  have rb_30 : rb (S.v k) 100 := rb_of (hW.v _ (by omega)).1
  have ub_31 := (hW.v k (by omega)).2
  have ub_32 := ub_31.1
  have ub_33 := ub_31.2
  refine gst (pc' := 21) (L' := [(7, .ref r_27), (6, .ref r_17), (5, .ref r_7), (0, .ref a.x), (1, .int (nI i)), (2, .int (nI j)), (3, .int (nI k)), (4, .int (nI o))]) (fun _ _ _ _ _ hl => lv_astore hx hb d_Mf_prism_19 hl (by decide) rfl) ?_
  refine gs (pc' := 22) (fun _ _ _ _ _ hl => lv_aload_n hx hb d_Mf_prism_21 rfl (lv_at hl 3 rfl)) ?_
  refine gs (pc' := 24) (fun _ _ _ _ _ hl => lv_iload hx hb d_Mf_prism_22 (lv_at hl 7 rfl)) ?_
  refine g_outr hlo (g_runV (As := [.int (nI o)]) (rest := []) ⟨hx, hb, hml, hown, hts⟩ hK hZ hRc hRs (c_Mf_valueOf l D cA lo MC MS G B X a S F V hC hW o (by omega) hX1 hX2) (fun _ _ => cwV 1 hts (tb_good (tb_cons wm539 (tb_cons wm541 (tb_cons ws11 (tb_cons wm1 k_Mf_valueOf))))) rfl rfl rfl (by decide +kernel) ⟨by rw [hRf]; exact Nat.le_of_ble_eq_true rfl, by rw [hRl]; exact Nat.le_of_ble_eq_true rfl⟩) f_3 rfl bl_1 bl_2 rfl (Nat.le_of_ble_eq_true rfl) d_Mf_prism_24) (fun r_37 G_34 B_35 p_36 => ?_)
  obtain ⟨u_38, iv_39⟩ := p_36
  cases u_38
  have rb_40 : rb (S.v o) 100 := rb_of (hW.v _ (by omega)).1
  have ub_41 := (hW.v o (by omega)).2
  have ub_42 := ub_41.1
  have ub_43 := ub_41.2
  refine gst (pc' := 29) (L' := [(8, .ref r_37), (7, .ref r_27), (6, .ref r_17), (5, .ref r_7), (0, .ref a.x), (1, .int (nI i)), (2, .int (nI j)), (3, .int (nI k)), (4, .int (nI o))]) (fun _ _ _ _ _ hl => lv_astore hx hb d_Mf_prism_27 hl (by decide) rfl) ?_
  refine gs (pc' := 31) (fun _ _ _ _ _ hl => lv_aload hx hb d_Mf_prism_29 (lv_at hl 3 rfl)) ?_
  obtain ⟨hf_44, f_45, kq_46⟩ := id iv_9
  have f_47 : G r_7 = some (30, .inr (6, [.ref hf_44, .int (iI (S.un i))])) := f_45
  refine g_get hx hb hts hin_Va hown hK f_47 rfl 1 (by decide) (hts _ wm525) (fun _ h9 => h9) rfl d_Mf_prism_31 ?_
  refine gs (pc' := 36) (fun _ _ _ _ _ hl => lv_aload hx hb d_Mf_prism_34 (lv_at hl 0 rfl)) ?_
  obtain ⟨hf_48, f_49, kq_50⟩ := id iv_39
  have f_51 : G r_37 = some (30, .inr (6, [.ref hf_48, .int (iI (S.un o))])) := f_49
  refine g_get hx hb hts hin_Va hown hK f_51 rfl 1 (by decide) (hts _ wm525) (fun _ h9 => h9) rfl d_Mf_prism_36 ?_
  refine gs (pc' := 40) (fun _ _ _ _ _ hl => lv_iadd hx hb d_Mf_prism_39) ?_
  refine g_eqi (show (iI (S.un i)) + (iI (S.un o)) = iI ((S.un i) + (S.un o)) from by exact iI_add _ _) ?_
  refine gst (pc' := 42) (L' := [(9, .int (iI ((S.un i) + (S.un o)))), (8, .ref r_37), (7, .ref r_27), (6, .ref r_17), (5, .ref r_7), (0, .ref a.x), (1, .int (nI i)), (2, .int (nI j)), (3, .int (nI k)), (4, .int (nI o))]) (fun _ _ _ _ _ hl => lv_istore hx hb d_Mf_prism_40 hl (by decide) rfl) ?_
  refine gs (pc' := 44) (fun _ _ _ _ _ hl => lv_aload hx hb d_Mf_prism_42 (lv_at hl 4 rfl)) ?_
  refine g_get hx hb hts hin_Va hown hK f_47 rfl 1 (by decide) (hts _ wm525) (fun _ h9 => h9) rfl d_Mf_prism_44 ?_
  refine gs (pc' := 49) (fun _ _ _ _ _ hl => lv_aload hx hb d_Mf_prism_47 (lv_at hl 3 rfl)) ?_
  obtain ⟨hf_52, f_53, kq_54⟩ := id iv_19
  have f_55 : G r_17 = some (30, .inr (6, [.ref hf_52, .int (iI (S.un j))])) := f_53
  refine g_get hx hb hts hin_Va hown hK f_55 rfl 1 (by decide) (hts _ wm525) (fun _ h9 => h9) rfl d_Mf_prism_49 ?_
  refine gsb (pc1 := 76) (pc2 := 55) (fun _ _ _ _ _ => lv_icmp_ne (tgt := 76) hx hb d_Mf_prism_52 (by decide)) (fun c_56 => ?_) (fun c_56 => ?_)
  · skip
    have nc_56 : (S.un i) ≠ (S.un j) := (ii_ne (a := (S.un i)) (b := (S.un j)) (by omega) (by omega) (by omega) (by omega)).1 (by first | exact c_56 | (have z9 := c_56; simp only [nI_iI] at z9; exact z9))
    have hu : ¬ (S.un i = S.un j ∧ S.un i = S.un k ∧ uok (S.un i + S.un o)) := fun z9 => nc_56 z9.1
    refine gs (pc' := 78) (fun _ _ _ _ _ hl => lv_bipush (v := (-2)) hx hb d_Mf_prism_76 (by decide)) ?_
    refine g_eqi (show (-2) = iI (-2) from by decide) ?_
    have hs2 : sp_prism S (iI xa) (iI xb) (iI xc) (iI xd) = (0, -2, S) := by rw [hsp, if_pos hu]
    exact hret 78 _ _ _ _ d_Mf_prism_78 bl_1 bl_2 ⟨by rw [hs2], by rw [hs2]; exact hC.up (X1 := (X.1 + 6, X.2 + 209)) (show X.1 ≤ X.1 + 6 by omega) (show X.2 ≤ X.2 + 209 by omega), (gfr_mono (M := fun x => x < 24) gfr_rf (fun x h9 => by omega))⟩
  · skip
    have nc_56 : (S.un i) = (S.un j) := (ii_ne (a := (S.un i)) (b := (S.un j)) (by omega) (by omega) (by omega) (by omega)).2 (by first | exact c_56 | (have z9 := c_56; simp only [nI_iI] at z9; exact z9))
    have hu1 := nc_56
    refine gs (pc' := 57) (fun _ _ _ _ _ hl => lv_aload hx hb d_Mf_prism_55 (lv_at hl 4 rfl)) ?_
    refine g_get hx hb hts hin_Va hown hK f_47 rfl 1 (by decide) (hts _ wm525) (fun _ h9 => h9) rfl d_Mf_prism_57 ?_
    refine gs (pc' := 62) (fun _ _ _ _ _ hl => lv_aload hx hb d_Mf_prism_60 (lv_at hl 2 rfl)) ?_
    obtain ⟨hf_57, f_58, kq_59⟩ := id iv_29
    have f_60 : G r_27 = some (30, .inr (6, [.ref hf_57, .int (iI (S.un k))])) := f_58
    refine g_get hx hb hts hin_Va hown hK f_60 rfl 1 (by decide) (hts _ wm525) (fun _ h9 => h9) rfl d_Mf_prism_62 ?_
    refine gsb (pc1 := 76) (pc2 := 68) (fun _ _ _ _ _ => lv_icmp_ne (tgt := 76) hx hb d_Mf_prism_65 (by decide)) (fun c_61 => ?_) (fun c_61 => ?_)
    · skip
      have nc_61 : (S.un i) ≠ (S.un k) := (ii_ne (a := (S.un i)) (b := (S.un k)) (by omega) (by omega) (by omega) (by omega)).1 (by first | exact c_61 | (have z9 := c_61; simp only [nI_iI] at z9; exact z9))
      have hu : ¬ (S.un i = S.un j ∧ S.un i = S.un k ∧ uok (S.un i + S.un o)) := fun z9 => nc_61 z9.2.1
      refine gs (pc' := 78) (fun _ _ _ _ _ hl => lv_bipush (v := (-2)) hx hb d_Mf_prism_76 (by decide)) ?_
      refine g_eqi (show (-2) = iI (-2) from by decide) ?_
      have hs2 : sp_prism S (iI xa) (iI xb) (iI xc) (iI xd) = (0, -2, S) := by rw [hsp, if_pos hu]
      exact hret 78 _ _ _ _ d_Mf_prism_78 bl_1 bl_2 ⟨by rw [hs2], by rw [hs2]; exact hC.up (X1 := (X.1 + 6, X.2 + 209)) (show X.1 ≤ X.1 + 6 by omega) (show X.2 ≤ X.2 + 209 by omega), (gfr_mono (M := fun x => x < 24) gfr_rf (fun x h9 => by omega))⟩
    · skip
      have nc_61 : (S.un i) = (S.un k) := (ii_ne (a := (S.un i)) (b := (S.un k)) (by omega) (by omega) (by omega) (by omega)).2 (by first | exact c_61 | (have z9 := c_61; simp only [nI_iI] at z9; exact z9))
      have hu2 := nc_61
      refine gs (pc' := 70) (fun _ _ _ _ _ hl => lv_iload hx hb d_Mf_prism_68 (lv_at hl 0 rfl)) ?_
      refine g_outi hlo (g_runS (As := [.int (iI ((S.un i) + (S.un o)))]) (rest := []) ⟨hx, hb, hml, hown, hts⟩ hK hZ hRc hRs (c_Mf_isUnit l D cA lo MC MS G B ((S.un i) + (S.un o)) (by omega) (by omega) bl_1 bl_2) (fun _ _ => va_cwS 1 hts (tb_good (tb_cons wm367 (tb_cons wm368 (tb_cons wm1 k_Mf_isUnit)))) rfl rfl rfl (by decide +kernel) ⟨by rw [hRf]; exact Nat.le_of_ble_eq_true rfl, by rw [hRl]; exact Nat.le_of_ble_eq_true rfl⟩) bl_1 bl_2 rfl (Nat.le_of_ble_eq_true rfl) d_Mf_prism_70) (fun r_65 G_62 B_63 p_64 => ?_)
      obtain ⟨u_66, e_67⟩ := p_64
      cases u_66
      subst e_67
      have bd_68 := b01_le (decide (uok ((S.un i) + (S.un o))))
      refine gsb (pc1 := 79) (pc2 := 76) (fun _ _ _ _ _ => lv_if_ne (tgt := 79) hx hb d_Mf_prism_73 (by decide)) (fun c_69 => ?_) (fun c_69 => ?_)
      · skip
        have nc_69 : (b01 (decide (uok ((S.un i) + (S.un o))))) ≠ 0 := (n0_ne (a := (b01 (decide (uok ((S.un i) + (S.un o)))))) (by omega)).1 c_69
        have hu : ¬ ¬ (S.un i = S.un j ∧ S.un i = S.un k ∧ uok (S.un i + S.un o)) := fun z9 => z9 ⟨hu1, hu2, b01_1 nc_69⟩
        refine gs (pc' := 80) (fun _ _ _ _ _ hl => lv_aload_n hx hb d_Mf_prism_79 rfl (lv_at hl 5 rfl)) ?_
        refine g_outi hlo (g_runV (As := []) (rest := []) ⟨hx, hb, hml, hown, hts⟩ hK hZ hRc hRs (c_Mf_isFull l D cA lo MC MS G B X a S F V hC hW hX1 hX2) (fun _ _ => cwV 0 hts (tb_good (tb_cons wm386 (tb_cons wm388 (tb_cons ws1 (tb_cons wm1 k_Mf_isFull))))) rfl rfl rfl (by decide +kernel) ⟨by rw [hRf]; exact Nat.le_of_ble_eq_true rfl, by rw [hRl]; exact Nat.le_of_ble_eq_true rfl⟩) f_3 rfl bl_1 bl_2 rfl (Nat.le_of_ble_eq_true rfl) d_Mf_prism_80) (fun r_73 G_70 B_71 p_72 => ?_)
        obtain ⟨u_74, e_75⟩ := p_72
        cases u_74
        subst e_75
        have bd_76 := b01_le (decide (S.n = 200))
        refine gsb (pc1 := 89) (pc2 := 86) (fun _ _ _ _ _ => lv_if_eq (tgt := 89) hx hb d_Mf_prism_83 (by decide)) (fun c_77 => ?_) (fun c_77 => ?_)
        · skip
          have nc_77 : (b01 (decide (S.n = 200))) = 0 := (n0_eq (a := (b01 (decide (S.n = 200)))) (by omega)).1 c_77
          have hnf := b01_0 nc_77
          refine gs (pc' := 90) (fun _ _ _ _ _ hl => lv_aload_n hx hb d_Mf_prism_89 rfl (lv_at hl 5 rfl)) ?_
          refine g_get hx hb hts hin_Mf hown hK f_3 rfl 5 (by decide) (hts _ wm240) (fun _ h9 => h9) rfl d_Mf_prism_90 ?_
          refine gs (pc' := 94) (fun _ _ _ _ _ hl => lv_aload_n hx hb d_Mf_prism_93 rfl (lv_at hl 5 rfl)) ?_
          refine g_get hx hb hts hin_Mf hown hK f_3 rfl 6 (by decide) (hts _ wm241) (fun _ h9 => h9) rfl d_Mf_prism_94 ?_
          refine gs (pc' := 99) (fun _ _ _ _ _ hl => lv_aload hx hb d_Mf_prism_97 (lv_at hl 3 rfl)) ?_
          refine g_get hx hb hts hin_Va hown hK f_55 rfl 0 (by decide) (hts _ wm523) (fun _ h9 => h9) rfl d_Mf_prism_99 ?_
          refine gs (pc' := 103) (fun _ _ _ _ _ hl => lv_aload_n hx hb d_Mf_prism_102 rfl (lv_at hl 5 rfl)) ?_
          refine g_get hx hb hts hin_Mf hown hK f_3 rfl 11 (by decide) (hts _ wm246) (fun _ h9 => h9) rfl d_Mf_prism_103 ?_
          refine gs (pc' := 107) (fun _ _ _ _ _ hl => lv_iconst (v := nI 0) hx hb d_Mf_prism_106 (by decide)) ?_
          have f_78 : G a.ca = some (30, .inr (0, [.ref a.hd, .ref a.hc, .ref (a.ad 5), .ref (a.ad 6), .ref (a.ad 7), .ref (a.ad 8), .ref (a.ad 9), .ref (a.ad 10)])) := hC.ca
          refine g_outv hlo (g_runV (As := [.ref (a.fr 0), .ref hf_52, .ref a.fo, .int (nI 0)]) (rest := []) ⟨hx, hb, hml, hown, hts⟩ hK hZ hRc hRs (c3_mul l D cA lo MC MS G B X a S F V hC hX1 hX2 0 (by decide) hf_52 a.fo (S.v j) 4 (Or.inr kq_54) (Or.inr hC.fo) 100 1 rb_20 rb_4 (by decide)) (fun _ _ => cwV 4 hts (tb_good (tb_cons wm588 (tb_cons wm589 (tb_cons wm590 (tb_cons wm3 k_Ca_setProduct))))) rfl rfl rfl (by decide +kernel) ⟨by rw [hRf]; exact Nat.le_of_ble_eq_true rfl, by rw [hRl]; exact Nat.le_of_ble_eq_true rfl⟩) f_78 rfl bl_1 bl_2 rfl (Nat.le_of_ble_eq_true rfl) d_Mf_prism_107) (fun G_79 B_80 p_81 => ?_)
          obtain ⟨V_82, C_83, fr_84⟩ := p_81
          have iv_85 : isV cA G_79 r_7 (S.v i) (S.un i) := isV_24 iv_9 fr_84
          have iv_86 : isV cA G_79 r_17 (S.v j) (S.un j) := isV_24 iv_19 fr_84
          have iv_87 : isV cA G_79 r_27 (S.v k) (S.un k) := isV_24 iv_29 fr_84
          have iv_88 : isV cA G_79 r_37 (S.v o) (S.un o) := isV_24 iv_39 fr_84
          have kq_89 : kq cA G_79 hf_44 (S.v i) := kq_24 kq_46 fr_84
          have kq_90 : kq cA G_79 hf_48 (S.v o) := kq_24 kq_50 fr_84
          have kq_91 : kq cA G_79 hf_52 (S.v j) := kq_24 kq_54 fr_84
          have kq_92 : kq cA G_79 hf_57 (S.v k) := kq_24 kq_59 fr_84
          have fr_93 : gfr (fun x => x < 24) G G_79 := gfr_24 gfr_rf fr_84
          have f_94 : G_79 r_7 = some (30, .inr (6, [.ref hf_44, .int (iI (S.un i))])) := fr_84 _ _ f_47 (show ¬ (30 : Nat) < 24 by decide)
          have f_95 : G_79 r_37 = some (30, .inr (6, [.ref hf_48, .int (iI (S.un o))])) := fr_84 _ _ f_51 (show ¬ (30 : Nat) < 24 by decide)
          have f_96 : G_79 r_17 = some (30, .inr (6, [.ref hf_52, .int (iI (S.un j))])) := fr_84 _ _ f_55 (show ¬ (30 : Nat) < 24 by decide)
          have f_97 : G_79 r_27 = some (30, .inr (6, [.ref hf_57, .int (iI (S.un k))])) := fr_84 _ _ f_60 (show ¬ (30 : Nat) < 24 by decide)
          have rb_98 : rb ((S.v j) * 4) 101 := rb_mul (j := 100) (k := 1) rb_20 rb_4
          have bl_99 : B_80.1 ≤ MC := Nat.le_trans (w2_le C_83.w).1 hX1
          have bl_100 : B_80.2 ≤ MS := Nat.le_trans (w2_le C_83.w).2 hX2
          refine gs (pc' := 111) (fun _ _ _ _ _ hl => lv_aload_n hx hb d_Mf_prism_110 rfl (lv_at hl 5 rfl)) ?_
          have f_101 : G_79 a.x = some (31, .inr (8, [.ref a.vs, .int (nI S.n), .ref a.rs, .int (nI S.rn), .ref a.ws, .ref a.ca, .ref (a.fr 0), .ref (a.fr 1), .ref (a.fr 2), .ref (a.fr 3), .ref a.zr, .ref a.fo, .ref a.ha, .ref a.si])) := C_83.ob
          refine g_get hx hb hts hin_Mf hown hK f_101 rfl 5 (by decide) (hts _ wm240) (fun _ h9 => h9) rfl d_Mf_prism_111 ?_
          refine gs (pc' := 115) (fun _ _ _ _ _ hl => lv_aload_n hx hb d_Mf_prism_114 rfl (lv_at hl 5 rfl)) ?_
          refine g_get hx hb hts hin_Mf hown hK f_101 rfl 7 (by decide) (hts _ wm242) (fun _ h9 => h9) rfl d_Mf_prism_115 ?_
          refine gs (pc' := 120) (fun _ _ _ _ _ hl => lv_aload hx hb d_Mf_prism_118 (lv_at hl 4 rfl)) ?_
          refine g_get hx hb hts hin_Va hown hK f_94 rfl 0 (by decide) (hts _ wm523) (fun _ h9 => h9) rfl d_Mf_prism_120 ?_
          refine gs (pc' := 124) (fun _ _ _ _ _ hl => lv_aload_n hx hb d_Mf_prism_123 rfl (lv_at hl 5 rfl)) ?_
          refine g_get hx hb hts hin_Mf hown hK f_101 rfl 6 (by decide) (hts _ wm241) (fun _ h9 => h9) rfl d_Mf_prism_124 ?_
          refine gs (pc' := 128) (fun _ _ _ _ _ hl => lv_iconst (v := nI 0) hx hb d_Mf_prism_127 (by decide)) ?_
          have f_102 : G_79 a.ca = some (30, .inr (0, [.ref a.hd, .ref a.hc, .ref (a.ad 5), .ref (a.ad 6), .ref (a.ad 7), .ref (a.ad 8), .ref (a.ad 9), .ref (a.ad 10)])) := C_83.ca
          refine g_outv hlo (g_runV (As := [.ref (a.fr 1), .ref hf_44, .ref (a.fr 0), .int (nI 0)]) (rest := []) ⟨hx, hb, hml, hown, hts⟩ hK hZ hRc hRs (c3_add l D cA lo MC MS G_79 B_80 X a S (fup F 0 (some ((S.v j) * 4))) V_82 C_83 hX1 hX2 1 (by decide) hf_44 (a.fr 0) (S.v i) ((S.v j) * 4) (Or.inr kq_89) (Or.inl ⟨0, by decide, by decide, rfl, rfl⟩) 100 101 rb_10 rb_98 (by decide)) (fun _ _ => cwV 4 hts (tb_good (tb_cons wm559 (tb_cons wm560 (tb_cons wm561 (tb_cons wm3 k_Ca_setSum))))) rfl rfl rfl (by decide +kernel) ⟨by rw [hRf]; exact Nat.le_of_ble_eq_true rfl, by rw [hRl]; exact Nat.le_of_ble_eq_true rfl⟩) f_102 rfl bl_99 bl_100 rfl (Nat.le_of_ble_eq_true rfl) d_Mf_prism_128) (fun G_103 B_104 p_105 => ?_)
          obtain ⟨V_106, C_107, fr_108⟩ := p_105
          have iv_109 : isV cA G_103 r_7 (S.v i) (S.un i) := isV_24 iv_85 fr_108
          have iv_110 : isV cA G_103 r_17 (S.v j) (S.un j) := isV_24 iv_86 fr_108
          have iv_111 : isV cA G_103 r_27 (S.v k) (S.un k) := isV_24 iv_87 fr_108
          have iv_112 : isV cA G_103 r_37 (S.v o) (S.un o) := isV_24 iv_88 fr_108
          have kq_113 : kq cA G_103 hf_44 (S.v i) := kq_24 kq_89 fr_108
          have kq_114 : kq cA G_103 hf_48 (S.v o) := kq_24 kq_90 fr_108
          have kq_115 : kq cA G_103 hf_52 (S.v j) := kq_24 kq_91 fr_108
          have kq_116 : kq cA G_103 hf_57 (S.v k) := kq_24 kq_92 fr_108
          have fr_117 : gfr (fun x => x < 24) G G_103 := gfr_24 fr_93 fr_108
          have f_118 : G_103 r_7 = some (30, .inr (6, [.ref hf_44, .int (iI (S.un i))])) := fr_108 _ _ f_94 (show ¬ (30 : Nat) < 24 by decide)
          have f_119 : G_103 r_37 = some (30, .inr (6, [.ref hf_48, .int (iI (S.un o))])) := fr_108 _ _ f_95 (show ¬ (30 : Nat) < 24 by decide)
          have f_120 : G_103 r_17 = some (30, .inr (6, [.ref hf_52, .int (iI (S.un j))])) := fr_108 _ _ f_96 (show ¬ (30 : Nat) < 24 by decide)
          have f_121 : G_103 r_27 = some (30, .inr (6, [.ref hf_57, .int (iI (S.un k))])) := fr_108 _ _ f_97 (show ¬ (30 : Nat) < 24 by decide)
          have rb_122 : rb ((S.v i) + ((S.v j) * 4)) 202 := rb_add (j := 100) (k := 101) rb_10 rb_98
          have bl_123 : B_104.1 ≤ MC := Nat.le_trans (w2_le C_107.w).1 hX1
          have bl_124 : B_104.2 ≤ MS := Nat.le_trans (w2_le C_107.w).2 hX2
          refine gs (pc' := 132) (fun _ _ _ _ _ hl => lv_aload_n hx hb d_Mf_prism_131 rfl (lv_at hl 5 rfl)) ?_
          have f_125 : G_103 a.x = some (31, .inr (8, [.ref a.vs, .int (nI S.n), .ref a.rs, .int (nI S.rn), .ref a.ws, .ref a.ca, .ref (a.fr 0), .ref (a.fr 1), .ref (a.fr 2), .ref (a.fr 3), .ref a.zr, .ref a.fo, .ref a.ha, .ref a.si])) := C_107.ob
          refine g_get hx hb hts hin_Mf hown hK f_125 rfl 5 (by decide) (hts _ wm240) (fun _ h9 => h9) rfl d_Mf_prism_132 ?_
          refine gs (pc' := 136) (fun _ _ _ _ _ hl => lv_aload_n hx hb d_Mf_prism_135 rfl (lv_at hl 5 rfl)) ?_
          refine g_get hx hb hts hin_Mf hown hK f_125 rfl 6 (by decide) (hts _ wm241) (fun _ h9 => h9) rfl d_Mf_prism_136 ?_
          refine gs (pc' := 140) (fun _ _ _ _ _ hl => lv_aload_n hx hb d_Mf_prism_139 rfl (lv_at hl 5 rfl)) ?_
          refine g_get hx hb hts hin_Mf hown hK f_125 rfl 7 (by decide) (hts _ wm242) (fun _ h9 => h9) rfl d_Mf_prism_140 ?_
          refine gs (pc' := 145) (fun _ _ _ _ _ hl => lv_aload hx hb d_Mf_prism_143 (lv_at hl 2 rfl)) ?_
          refine g_get hx hb hts hin_Va hown hK f_121 rfl 0 (by decide) (hts _ wm523) (fun _ h9 => h9) rfl d_Mf_prism_145 ?_
          refine gs (pc' := 149) (fun _ _ _ _ _ hl => lv_iconst (v := nI 0) hx hb d_Mf_prism_148 (by decide)) ?_
          have f_126 : G_103 a.ca = some (30, .inr (0, [.ref a.hd, .ref a.hc, .ref (a.ad 5), .ref (a.ad 6), .ref (a.ad 7), .ref (a.ad 8), .ref (a.ad 9), .ref (a.ad 10)])) := C_107.ca
          refine g_outv hlo (g_runV (As := [.ref (a.fr 0), .ref (a.fr 1), .ref hf_57, .int (nI 0)]) (rest := []) ⟨hx, hb, hml, hown, hts⟩ hK hZ hRc hRs (c3_add l D cA lo MC MS G_103 B_104 X a S (fup (fup F 0 (some ((S.v j) * 4))) 1 (some ((S.v i) + ((S.v j) * 4)))) V_106 C_107 hX1 hX2 0 (by decide) (a.fr 1) hf_57 ((S.v i) + ((S.v j) * 4)) (S.v k) (Or.inl ⟨1, by decide, by decide, rfl, rfl⟩) (Or.inr kq_116) 202 100 rb_122 rb_30 (by decide)) (fun _ _ => cwV 4 hts (tb_good (tb_cons wm559 (tb_cons wm560 (tb_cons wm561 (tb_cons wm3 k_Ca_setSum))))) rfl rfl rfl (by decide +kernel) ⟨by rw [hRf]; exact Nat.le_of_ble_eq_true rfl, by rw [hRl]; exact Nat.le_of_ble_eq_true rfl⟩) f_126 rfl bl_123 bl_124 rfl (Nat.le_of_ble_eq_true rfl) d_Mf_prism_149) (fun G_127 B_128 p_129 => ?_)
          obtain ⟨V_130, C_131, fr_132⟩ := p_129
          have iv_133 : isV cA G_127 r_7 (S.v i) (S.un i) := isV_24 iv_109 fr_132
          have iv_134 : isV cA G_127 r_17 (S.v j) (S.un j) := isV_24 iv_110 fr_132
          have iv_135 : isV cA G_127 r_27 (S.v k) (S.un k) := isV_24 iv_111 fr_132
          have iv_136 : isV cA G_127 r_37 (S.v o) (S.un o) := isV_24 iv_112 fr_132
          have kq_137 : kq cA G_127 hf_44 (S.v i) := kq_24 kq_113 fr_132
          have kq_138 : kq cA G_127 hf_48 (S.v o) := kq_24 kq_114 fr_132
          have kq_139 : kq cA G_127 hf_52 (S.v j) := kq_24 kq_115 fr_132
          have kq_140 : kq cA G_127 hf_57 (S.v k) := kq_24 kq_116 fr_132
          have fr_141 : gfr (fun x => x < 24) G G_127 := gfr_24 fr_117 fr_132
          have f_142 : G_127 r_7 = some (30, .inr (6, [.ref hf_44, .int (iI (S.un i))])) := fr_132 _ _ f_118 (show ¬ (30 : Nat) < 24 by decide)
          have f_143 : G_127 r_37 = some (30, .inr (6, [.ref hf_48, .int (iI (S.un o))])) := fr_132 _ _ f_119 (show ¬ (30 : Nat) < 24 by decide)
          have f_144 : G_127 r_17 = some (30, .inr (6, [.ref hf_52, .int (iI (S.un j))])) := fr_132 _ _ f_120 (show ¬ (30 : Nat) < 24 by decide)
          have f_145 : G_127 r_27 = some (30, .inr (6, [.ref hf_57, .int (iI (S.un k))])) := fr_132 _ _ f_121 (show ¬ (30 : Nat) < 24 by decide)
          have rb_146 : rb (((S.v i) + ((S.v j) * 4)) + (S.v k)) 303 := rb_add (j := 202) (k := 100) rb_122 rb_30
          have bl_147 : B_128.1 ≤ MC := Nat.le_trans (w2_le C_131.w).1 hX1
          have bl_148 : B_128.2 ≤ MS := Nat.le_trans (w2_le C_131.w).2 hX2
          refine gs (pc' := 153) (fun _ _ _ _ _ hl => lv_aload_n hx hb d_Mf_prism_152 rfl (lv_at hl 5 rfl)) ?_
          have f_149 : G_127 a.x = some (31, .inr (8, [.ref a.vs, .int (nI S.n), .ref a.rs, .int (nI S.rn), .ref a.ws, .ref a.ca, .ref (a.fr 0), .ref (a.fr 1), .ref (a.fr 2), .ref (a.fr 3), .ref a.zr, .ref a.fo, .ref a.ha, .ref a.si])) := C_131.ob
          refine g_get hx hb hts hin_Mf hown hK f_149 rfl 5 (by decide) (hts _ wm240) (fun _ h9 => h9) rfl d_Mf_prism_153 ?_
          refine gs (pc' := 157) (fun _ _ _ _ _ hl => lv_aload_n hx hb d_Mf_prism_156 rfl (lv_at hl 5 rfl)) ?_
          refine g_get hx hb hts hin_Mf hown hK f_149 rfl 7 (by decide) (hts _ wm242) (fun _ h9 => h9) rfl d_Mf_prism_157 ?_
          refine gs (pc' := 161) (fun _ _ _ _ _ hl => lv_aload_n hx hb d_Mf_prism_160 rfl (lv_at hl 5 rfl)) ?_
          refine g_get hx hb hts hin_Mf hown hK f_149 rfl 6 (by decide) (hts _ wm241) (fun _ h9 => h9) rfl d_Mf_prism_161 ?_
          refine gs (pc' := 166) (fun _ _ _ _ _ hl => lv_aload hx hb d_Mf_prism_164 (lv_at hl 1 rfl)) ?_
          refine g_get hx hb hts hin_Va hown hK f_143 rfl 0 (by decide) (hts _ wm523) (fun _ h9 => h9) rfl d_Mf_prism_166 ?_
          refine gs (pc' := 170) (fun _ _ _ _ _ hl => lv_iconst (v := nI 0) hx hb d_Mf_prism_169 (by decide)) ?_
          have f_150 : G_127 a.ca = some (30, .inr (0, [.ref a.hd, .ref a.hc, .ref (a.ad 5), .ref (a.ad 6), .ref (a.ad 7), .ref (a.ad 8), .ref (a.ad 9), .ref (a.ad 10)])) := C_131.ca
          refine g_outv hlo (g_runV (As := [.ref (a.fr 1), .ref (a.fr 0), .ref hf_48, .int (nI 0)]) (rest := []) ⟨hx, hb, hml, hown, hts⟩ hK hZ hRc hRs (c3_mul l D cA lo MC MS G_127 B_128 X a S (fup (fup (fup F 0 (some ((S.v j) * 4))) 1 (some ((S.v i) + ((S.v j) * 4)))) 0 (some (((S.v i) + ((S.v j) * 4)) + (S.v k)))) V_130 C_131 hX1 hX2 1 (by decide) (a.fr 0) hf_48 (((S.v i) + ((S.v j) * 4)) + (S.v k)) (S.v o) (Or.inl ⟨0, by decide, by decide, rfl, rfl⟩) (Or.inr kq_138) 303 100 rb_146 rb_40 (by decide)) (fun _ _ => cwV 4 hts (tb_good (tb_cons wm588 (tb_cons wm589 (tb_cons wm590 (tb_cons wm3 k_Ca_setProduct))))) rfl rfl rfl (by decide +kernel) ⟨by rw [hRf]; exact Nat.le_of_ble_eq_true rfl, by rw [hRl]; exact Nat.le_of_ble_eq_true rfl⟩) f_150 rfl bl_147 bl_148 rfl (Nat.le_of_ble_eq_true rfl) d_Mf_prism_170) (fun G_151 B_152 p_153 => ?_)
          obtain ⟨V_154, C_155, fr_156⟩ := p_153
          have iv_157 : isV cA G_151 r_7 (S.v i) (S.un i) := isV_24 iv_133 fr_156
          have iv_158 : isV cA G_151 r_17 (S.v j) (S.un j) := isV_24 iv_134 fr_156
          have iv_159 : isV cA G_151 r_27 (S.v k) (S.un k) := isV_24 iv_135 fr_156
          have iv_160 : isV cA G_151 r_37 (S.v o) (S.un o) := isV_24 iv_136 fr_156
          have kq_161 : kq cA G_151 hf_44 (S.v i) := kq_24 kq_137 fr_156
          have kq_162 : kq cA G_151 hf_48 (S.v o) := kq_24 kq_138 fr_156
          have kq_163 : kq cA G_151 hf_52 (S.v j) := kq_24 kq_139 fr_156
          have kq_164 : kq cA G_151 hf_57 (S.v k) := kq_24 kq_140 fr_156
          have fr_165 : gfr (fun x => x < 24) G G_151 := gfr_24 fr_141 fr_156
          have f_166 : G_151 r_7 = some (30, .inr (6, [.ref hf_44, .int (iI (S.un i))])) := fr_156 _ _ f_142 (show ¬ (30 : Nat) < 24 by decide)
          have f_167 : G_151 r_37 = some (30, .inr (6, [.ref hf_48, .int (iI (S.un o))])) := fr_156 _ _ f_143 (show ¬ (30 : Nat) < 24 by decide)
          have f_168 : G_151 r_17 = some (30, .inr (6, [.ref hf_52, .int (iI (S.un j))])) := fr_156 _ _ f_144 (show ¬ (30 : Nat) < 24 by decide)
          have f_169 : G_151 r_27 = some (30, .inr (6, [.ref hf_57, .int (iI (S.un k))])) := fr_156 _ _ f_145 (show ¬ (30 : Nat) < 24 by decide)
          have rb_170 : rb ((((S.v i) + ((S.v j) * 4)) + (S.v k)) * (S.v o)) 403 := rb_mul (j := 303) (k := 100) rb_146 rb_40
          have bl_171 : B_152.1 ≤ MC := Nat.le_trans (w2_le C_155.w).1 hX1
          have bl_172 : B_152.2 ≤ MS := Nat.le_trans (w2_le C_155.w).2 hX2
          refine gs (pc' := 174) (fun _ _ _ _ _ hl => lv_aload_n hx hb d_Mf_prism_173 rfl (lv_at hl 5 rfl)) ?_
          have f_173 : G_151 a.x = some (31, .inr (8, [.ref a.vs, .int (nI S.n), .ref a.rs, .int (nI S.rn), .ref a.ws, .ref a.ca, .ref (a.fr 0), .ref (a.fr 1), .ref (a.fr 2), .ref (a.fr 3), .ref a.zr, .ref a.fo, .ref a.ha, .ref a.si])) := C_155.ob
          refine g_get hx hb hts hin_Mf hown hK f_173 rfl 5 (by decide) (hts _ wm240) (fun _ h9 => h9) rfl d_Mf_prism_174 ?_
          refine gs (pc' := 178) (fun _ _ _ _ _ hl => lv_aload_n hx hb d_Mf_prism_177 rfl (lv_at hl 5 rfl)) ?_
          refine g_get hx hb hts hin_Mf hown hK f_173 rfl 6 (by decide) (hts _ wm241) (fun _ h9 => h9) rfl d_Mf_prism_178 ?_
          refine gs (pc' := 182) (fun _ _ _ _ _ hl => lv_aload_n hx hb d_Mf_prism_181 rfl (lv_at hl 5 rfl)) ?_
          refine g_get hx hb hts hin_Mf hown hK f_173 rfl 7 (by decide) (hts _ wm242) (fun _ h9 => h9) rfl d_Mf_prism_182 ?_
          refine gs (pc' := 186) (fun _ _ _ _ _ hl => lv_aload_n hx hb d_Mf_prism_185 rfl (lv_at hl 5 rfl)) ?_
          refine g_get hx hb hts hin_Mf hown hK f_173 rfl 13 (by decide) (hts _ wm248) (fun _ h9 => h9) rfl d_Mf_prism_186 ?_
          refine gs (pc' := 190) (fun _ _ _ _ _ hl => lv_iconst (v := nI 0) hx hb d_Mf_prism_189 (by decide)) ?_
          have f_174 : G_151 a.ca = some (30, .inr (0, [.ref a.hd, .ref a.hc, .ref (a.ad 5), .ref (a.ad 6), .ref (a.ad 7), .ref (a.ad 8), .ref (a.ad 9), .ref (a.ad 10)])) := C_155.ca
          refine g_outv hlo (g_runV (As := [.ref (a.fr 0), .ref (a.fr 1), .ref a.si, .int (nI 0)]) (rest := []) ⟨hx, hb, hml, hown, hts⟩ hK hZ hRc hRs (c3_mul l D cA lo MC MS G_151 B_152 X a S (fup (fup (fup (fup F 0 (some ((S.v j) * 4))) 1 (some ((S.v i) + ((S.v j) * 4)))) 0 (some (((S.v i) + ((S.v j) * 4)) + (S.v k)))) 1 (some ((((S.v i) + ((S.v j) * 4)) + (S.v k)) * (S.v o)))) V_154 C_155 hX1 hX2 0 (by decide) (a.fr 1) a.si ((((S.v i) + ((S.v j) * 4)) + (S.v k)) * (S.v o)) (mkRat 1 6) (Or.inl ⟨1, by decide, by decide, rfl, rfl⟩) (Or.inr C_155.si) 403 1 rb_170 rb_6 (by decide)) (fun _ _ => cwV 4 hts (tb_good (tb_cons wm588 (tb_cons wm589 (tb_cons wm590 (tb_cons wm3 k_Ca_setProduct))))) rfl rfl rfl (by decide +kernel) ⟨by rw [hRf]; exact Nat.le_of_ble_eq_true rfl, by rw [hRl]; exact Nat.le_of_ble_eq_true rfl⟩) f_174 rfl bl_171 bl_172 rfl (Nat.le_of_ble_eq_true rfl) d_Mf_prism_190) (fun G_175 B_176 p_177 => ?_)
          obtain ⟨V_178, C_179, fr_180⟩ := p_177
          have iv_181 : isV cA G_175 r_7 (S.v i) (S.un i) := isV_24 iv_157 fr_180
          have iv_182 : isV cA G_175 r_17 (S.v j) (S.un j) := isV_24 iv_158 fr_180
          have iv_183 : isV cA G_175 r_27 (S.v k) (S.un k) := isV_24 iv_159 fr_180
          have iv_184 : isV cA G_175 r_37 (S.v o) (S.un o) := isV_24 iv_160 fr_180
          have kq_185 : kq cA G_175 hf_44 (S.v i) := kq_24 kq_161 fr_180
          have kq_186 : kq cA G_175 hf_48 (S.v o) := kq_24 kq_162 fr_180
          have kq_187 : kq cA G_175 hf_52 (S.v j) := kq_24 kq_163 fr_180
          have kq_188 : kq cA G_175 hf_57 (S.v k) := kq_24 kq_164 fr_180
          have fr_189 : gfr (fun x => x < 24) G G_175 := gfr_24 fr_165 fr_180
          have f_190 : G_175 r_7 = some (30, .inr (6, [.ref hf_44, .int (iI (S.un i))])) := fr_180 _ _ f_166 (show ¬ (30 : Nat) < 24 by decide)
          have f_191 : G_175 r_37 = some (30, .inr (6, [.ref hf_48, .int (iI (S.un o))])) := fr_180 _ _ f_167 (show ¬ (30 : Nat) < 24 by decide)
          have f_192 : G_175 r_17 = some (30, .inr (6, [.ref hf_52, .int (iI (S.un j))])) := fr_180 _ _ f_168 (show ¬ (30 : Nat) < 24 by decide)
          have f_193 : G_175 r_27 = some (30, .inr (6, [.ref hf_57, .int (iI (S.un k))])) := fr_180 _ _ f_169 (show ¬ (30 : Nat) < 24 by decide)
          have rb_194 : rb (((((S.v i) + ((S.v j) * 4)) + (S.v k)) * (S.v o)) * (mkRat 1 6)) 404 := rb_mul (j := 403) (k := 1) rb_170 rb_6
          have bl_195 : B_176.1 ≤ MC := Nat.le_trans (w2_le C_179.w).1 hX1
          have bl_196 : B_176.2 ≤ MS := Nat.le_trans (w2_le C_179.w).2 hX2
          refine gs (pc' := 194) (fun _ _ _ _ _ hl => lv_aload_n hx hb d_Mf_prism_193 rfl (lv_at hl 5 rfl)) ?_
          refine gs (pc' := 195) (fun _ _ _ _ _ hl => lv_aload_n hx hb d_Mf_prism_194 rfl (lv_at hl 5 rfl)) ?_
          have f_197 : G_175 a.x = some (31, .inr (8, [.ref a.vs, .int (nI S.n), .ref a.rs, .int (nI S.rn), .ref a.ws, .ref a.ca, .ref (a.fr 0), .ref (a.fr 1), .ref (a.fr 2), .ref (a.fr 3), .ref a.zr, .ref a.fo, .ref a.ha, .ref a.si])) := C_179.ob
          refine g_get hx hb hts hin_Mf hown hK f_197 rfl 6 (by decide) (hts _ wm241) (fun _ h9 => h9) rfl d_Mf_prism_195 ?_
          refine gs (pc' := 200) (fun _ _ _ _ _ hl => lv_iload hx hb d_Mf_prism_198 (lv_at hl 0 rfl)) ?_
          refine g_outi hlo (g_runV (As := [.ref (a.fr 0), .int (iI ((S.un i) + (S.un o)))]) (rest := []) ⟨hx, hb, hml, hown, hts⟩ hK hZ hRc hRs (c_Mf_keep0 l D cA lo MC MS G_175 B_176 X a S (fup (fup (fup (fup (fup F 0 (some ((S.v j) * 4))) 1 (some ((S.v i) + ((S.v j) * 4)))) 0 (some (((S.v i) + ((S.v j) * 4)) + (S.v k)))) 1 (some ((((S.v i) + ((S.v j) * 4)) + (S.v k)) * (S.v o)))) 0 (some (((((S.v i) + ((S.v j) * 4)) + (S.v k)) * (S.v o)) * (mkRat 1 6)))) V_178 C_179 hW (((((S.v i) + ((S.v j) * 4)) + (S.v k)) * (S.v o)) * (mkRat 1 6)) rfl 404 rb_194 (by decide) ((S.un i) + (S.un o)) hnf hY1 hY2) (fun _ _ => cwV 2 hts (tb_good (tb_cons wm495 (tb_cons wm497 (tb_cons ws10 (tb_cons wm1 k_Mf_keep))))) rfl rfl rfl (by decide +kernel) ⟨by rw [hRf]; exact Nat.le_of_ble_eq_true rfl, by rw [hRl]; exact Nat.le_of_ble_eq_true rfl⟩) f_197 rfl bl_195 bl_196 rfl (Nat.le_of_ble_eq_true rfl) d_Mf_prism_200) (fun r_201 G_198 B_199 p_200 => ?_)
          obtain ⟨e_202, C_203, fr_204⟩ := p_200
          subst e_202
          have fr_205 : gfr (fun x => x < 70) G G_198 := gfr_mono (gfr_tr fr_189 fr_204) (fun x h9 => by rcases h9 with h9 | h9 <;> omega)
          have bl_206 := CW3_le C_203
          have hs2 : sp_prism S (iI xa) (iI xb) (iI xc) (iI xd) = kp S (((((S.v i) + ((S.v j) * 4)) + (S.v k)) * (S.v o)) * (mkRat 1 6)) ((S.un i) + (S.un o)) := by rw [hsp, if_neg hu, if_neg hnf]
          exact hret 203 _ _ _ _ d_Mf_prism_203 (Nat.le_trans bl_206.1 hY1) (Nat.le_trans bl_206.2 hY2) ⟨by rw [hs2], by rw [hs2]; exact C_203, fr_205⟩
        · skip
          have nc_77 : (b01 (decide (S.n = 200))) ≠ 0 := (n0_eq (a := (b01 (decide (S.n = 200)))) (by omega)).2 c_77
          have hnf := b01_1 nc_77
          refine gs (pc' := 88) (fun _ _ _ _ _ hl => lv_bipush (v := (-3)) hx hb d_Mf_prism_86 (by decide)) ?_
          refine g_eqi (show (-3) = iI (-3) from by decide) ?_
          have hs2 : sp_prism S (iI xa) (iI xb) (iI xc) (iI xd) = (0, -3, S) := by rw [hsp, if_neg hu, if_pos hnf]
          exact hret 88 _ _ _ _ d_Mf_prism_88 bl_1 bl_2 ⟨by rw [hs2], by rw [hs2]; exact hC.up (X1 := (X.1 + 6, X.2 + 209)) (show X.1 ≤ X.1 + 6 by omega) (show X.2 ≤ X.2 + 209 by omega), (gfr_mono (M := fun x => x < 24) gfr_rf (fun x h9 => by omega))⟩
      · skip
        have nc_69 : (b01 (decide (uok ((S.un i) + (S.un o))))) = 0 := (n0_ne (a := (b01 (decide (uok ((S.un i) + (S.un o)))))) (by omega)).2 c_69
        have hu : ¬ (S.un i = S.un j ∧ S.un i = S.un k ∧ uok (S.un i + S.un o)) := fun z9 => b01_0 nc_69 z9.2.2
        refine gs (pc' := 78) (fun _ _ _ _ _ hl => lv_bipush (v := (-2)) hx hb d_Mf_prism_76 (by decide)) ?_
        refine g_eqi (show (-2) = iI (-2) from by decide) ?_
        have hs2 : sp_prism S (iI xa) (iI xb) (iI xc) (iI xd) = (0, -2, S) := by rw [hsp, if_pos hu]
        exact hret 78 _ _ _ _ d_Mf_prism_78 bl_1 bl_2 ⟨by rw [hs2], by rw [hs2]; exact hC.up (X1 := (X.1 + 6, X.2 + 209)) (show X.1 ≤ X.1 + 6 by omega) (show X.2 ≤ X.2 + 209 by omega), (gfr_mono (M := fun x => x < 24) gfr_rf (fun x h9 => by omega))⟩
set_option maxHeartbeats 4000000 in
set_option maxRecDepth 100000 in
theorem t_Mf_prism1 (l : Launch) (D : va_G) (cA : Nat → ClassId) (lo MC MS : Nat) (G : gT) (B : Nat × Nat) (X : Nat × Nat) (a : AX) (S : St) (F : Nat → Option Rat) (V : Nat → Nat) (hC : CW cA X a S F V (G, B)) (hW : WF S) (xa : Int) (hxa1 : -2147483648 ≤ xa) (hxa2 : xa < 2147483648) (xb : Int) (hxb1 : -2147483648 ≤ xb) (hxb2 : xb < 2147483648) (xc : Int) (hxc1 : -2147483648 ≤ xc) (hxc2 : xc < 2147483648) (xd : Int) (hxd1 : -2147483648 ≤ xd) (hxd2 : xd < 2147483648) (hk : (sp_prism S (iI xa) (iI xb) (iI xc) (iI xd)).1 = 1) (hY1 : X.1 + 1 ≤ MC) (hY2 : X.2 + 6 ≤ MS) (hfl : ∀ e : Env, l.admits e → e.platform.stackTraces = false) : gMetT l y_Mf_prism w_Mf_prism 7 111 D clS (gtys cA) lo MC MS [.ref a.x, .int (iI xa), .int (iI xb), .int (iI xc), .int (iI xd)] G B (gQx D clS lo "java/lang/IndexOutOfBoundsException" (fun u => u = (G, B.1 + 1, B.2 + 6))) := by
  refine g_mett (cc := prog_1_method_8_code) (nL := 10) (ret := (Option.some .int)) (L := [(0, .ref a.x), (1, .int (iI xa)), (2, .int (iI xb)), (3, .int (iI xc)), (4, .int (iI xd))]) (by decide +kernel) rfl (Nat.le_of_ble_eq_true rfl) rfl ?_
  intro p e R s m args below meth c Q hF hRc hRs hRf hRl hne hQ
  obtain ⟨hx, hb, hr, hml, hts0, hown, hlocks, hin, hK, hlo, hZ⟩ := hF
  have hts : ∀ w ∈ tbg, w.before args s = true := fun w h => hts0 w (List.mem_cons_of_mem _ h)
  have hX1 : X.1 ≤ MC := by omega
  have hX2 : X.2 ≤ MS := by omega
  have hn := hW.n
  have hrn := hW.rn
  have hwn := hW.wn
  have bl_1 : B.1 ≤ MC := Nat.le_trans (w2_le hC.w).1 hX1
  have bl_2 : B.2 ≤ MS := Nat.le_trans (w2_le hC.w).2 hX2
  have hv : ¬ (vi S (iI xa) ∧ vi S (iI xb) ∧ vi S (iI xc) ∧ vi S (iI xd)) := fun z9 => by
    rw [sp_prism, if_neg (fun z8 => z8 z9)] at hk
    split at hk
    · simp at hk
    split at hk
    · simp at hk
    · rw [kp_0] at hk; simp at hk
  by_cases hv_xa : vi S (iI xa)
  · skip
    obtain ⟨i, hi_i, hxe_xa, ei_i⟩ := ix_of hv_xa.1 hv_xa.2
    rw [hxe_xa]
    by_cases hv_xb : vi S (iI xb)
    · skip
      obtain ⟨j, hi_j, hxe_xb, ei_j⟩ := ix_of hv_xb.1 hv_xb.2
      rw [hxe_xb]
      by_cases hv_xc : vi S (iI xc)
      · skip
        obtain ⟨k, hi_k, hxe_xc, ei_k⟩ := ix_of hv_xc.1 hv_xc.2
        rw [hxe_xc]
        have hv_xd : ¬ vi S (iI xd) := fun z9 => hv ⟨hv_xa, hv_xb, hv_xc, z9⟩
        refine gs (pc' := 1) (fun _ _ _ _ _ hl => lv_aload_n hx hb d_Mf_prism_0 rfl (lv_at hl 0 rfl)) ?_
        refine gs (pc' := 2) (fun _ _ _ _ _ hl => lv_iload_n hx hb d_Mf_prism_1 rfl (lv_at hl 1 rfl)) ?_
        have f_3 : G a.x = some (31, .inr (8, [.ref a.vs, .int (nI S.n), .ref a.rs, .int (nI S.rn), .ref a.ws, .ref a.ca, .ref (a.fr 0), .ref (a.fr 1), .ref (a.fr 2), .ref (a.fr 3), .ref a.zr, .ref a.fo, .ref a.ha, .ref a.si])) := hC.ob
        refine g_outr hlo (g_runV (As := [.int (nI i)]) (rest := []) ⟨hx, hb, hml, hown, hts⟩ hK hZ hRc hRs (c_Mf_valueOf l D cA lo MC MS G B X a S F V hC hW i (by omega) hX1 hX2) (fun _ _ => cwV 1 hts (tb_good (tb_cons wm539 (tb_cons wm541 (tb_cons ws11 (tb_cons wm1 k_Mf_valueOf))))) rfl rfl rfl (by decide +kernel) ⟨by rw [hRf]; exact Nat.le_of_ble_eq_true rfl, by rw [hRl]; exact Nat.le_of_ble_eq_true rfl⟩) f_3 rfl bl_1 bl_2 rfl (Nat.le_of_ble_eq_true rfl) d_Mf_prism_2) (fun r_7 G_4 B_5 p_6 => ?_)
        obtain ⟨u_8, iv_9⟩ := p_6
        cases u_8
        have rb_10 : rb (S.v i) 100 := rb_of (hW.v _ (by omega)).1
        have ub_11 := (hW.v i (by omega)).2
        have ub_12 := ub_11.1
        have ub_13 := ub_11.2
        refine gst (pc' := 7) (L' := [(5, .ref r_7), (0, .ref a.x), (1, .int (nI i)), (2, .int (nI j)), (3, .int (nI k)), (4, .int (iI xd))]) (fun _ _ _ _ _ hl => lv_astore hx hb d_Mf_prism_5 hl (by decide) rfl) ?_
        refine gs (pc' := 8) (fun _ _ _ _ _ hl => lv_aload_n hx hb d_Mf_prism_7 rfl (lv_at hl 1 rfl)) ?_
        refine gs (pc' := 9) (fun _ _ _ _ _ hl => lv_iload_n hx hb d_Mf_prism_8 rfl (lv_at hl 3 rfl)) ?_
        refine g_outr hlo (g_runV (As := [.int (nI j)]) (rest := []) ⟨hx, hb, hml, hown, hts⟩ hK hZ hRc hRs (c_Mf_valueOf l D cA lo MC MS G B X a S F V hC hW j (by omega) hX1 hX2) (fun _ _ => cwV 1 hts (tb_good (tb_cons wm539 (tb_cons wm541 (tb_cons ws11 (tb_cons wm1 k_Mf_valueOf))))) rfl rfl rfl (by decide +kernel) ⟨by rw [hRf]; exact Nat.le_of_ble_eq_true rfl, by rw [hRl]; exact Nat.le_of_ble_eq_true rfl⟩) f_3 rfl bl_1 bl_2 rfl (Nat.le_of_ble_eq_true rfl) d_Mf_prism_9) (fun r_17 G_14 B_15 p_16 => ?_)
        obtain ⟨u_18, iv_19⟩ := p_16
        cases u_18
        have rb_20 : rb (S.v j) 100 := rb_of (hW.v _ (by omega)).1
        have ub_21 := (hW.v j (by omega)).2
        have ub_22 := ub_21.1
        have ub_23 := ub_21.2
        refine gst (pc' := 14) (L' := [(6, .ref r_17), (5, .ref r_7), (0, .ref a.x), (1, .int (nI i)), (2, .int (nI j)), (3, .int (nI k)), (4, .int (iI xd))]) (fun _ _ _ _ _ hl => lv_astore hx hb d_Mf_prism_12 hl (by decide) rfl) ?_
        refine gs (pc' := 15) (fun _ _ _ _ _ hl => lv_aload_n hx hb d_Mf_prism_14 rfl (lv_at hl 2 rfl)) ?_
        refine gs (pc' := 16) (fun _ _ _ _ _ hl => lv_iload_n hx hb d_Mf_prism_15 rfl (lv_at hl 5 rfl)) ?_
        refine g_outr hlo (g_runV (As := [.int (nI k)]) (rest := []) ⟨hx, hb, hml, hown, hts⟩ hK hZ hRc hRs (c_Mf_valueOf l D cA lo MC MS G B X a S F V hC hW k (by omega) hX1 hX2) (fun _ _ => cwV 1 hts (tb_good (tb_cons wm539 (tb_cons wm541 (tb_cons ws11 (tb_cons wm1 k_Mf_valueOf))))) rfl rfl rfl (by decide +kernel) ⟨by rw [hRf]; exact Nat.le_of_ble_eq_true rfl, by rw [hRl]; exact Nat.le_of_ble_eq_true rfl⟩) f_3 rfl bl_1 bl_2 rfl (Nat.le_of_ble_eq_true rfl) d_Mf_prism_16) (fun r_27 G_24 B_25 p_26 => ?_)
        obtain ⟨u_28, iv_29⟩ := p_26
        cases u_28
        have rb_30 : rb (S.v k) 100 := rb_of (hW.v _ (by omega)).1
        have ub_31 := (hW.v k (by omega)).2
        have ub_32 := ub_31.1
        have ub_33 := ub_31.2
        refine gst (pc' := 21) (L' := [(7, .ref r_27), (6, .ref r_17), (5, .ref r_7), (0, .ref a.x), (1, .int (nI i)), (2, .int (nI j)), (3, .int (nI k)), (4, .int (iI xd))]) (fun _ _ _ _ _ hl => lv_astore hx hb d_Mf_prism_19 hl (by decide) rfl) ?_
        refine gs (pc' := 22) (fun _ _ _ _ _ hl => lv_aload_n hx hb d_Mf_prism_21 rfl (lv_at hl 3 rfl)) ?_
        refine gs (pc' := 24) (fun _ _ _ _ _ hl => lv_iload hx hb d_Mf_prism_22 (lv_at hl 7 rfl)) ?_
        exact g_up hlocks hne bl_1 bl_2 (g_thrV (As := [.int (iI xd)]) (rest := []) ⟨hx, hb, hml, hown, hts⟩ hK hZ hRc hRs (t_Mf_valueOf l D cA lo MC MS G B X a S F V hC hW xd hxd1 hxd2 (nvi hxd1 hxd2 hv_xd) hY1 hY2 hfl) (fun _ _ => cwV 1 hts (tb_good (tb_cons wm539 (tb_cons wm541 (tb_cons ws11 (tb_cons wm1 k_Mf_valueOf))))) rfl rfl rfl (by decide +kernel) ⟨by rw [hRf]; exact Nat.le_of_ble_eq_true rfl, by rw [hRl]; exact Nat.le_of_ble_eq_true rfl⟩) f_3 rfl bl_1 bl_2 rfl (Nat.le_of_ble_eq_true rfl) d_Mf_prism_24) (fun _ h => h) hQ
      · skip
        refine gs (pc' := 1) (fun _ _ _ _ _ hl => lv_aload_n hx hb d_Mf_prism_0 rfl (lv_at hl 0 rfl)) ?_
        refine gs (pc' := 2) (fun _ _ _ _ _ hl => lv_iload_n hx hb d_Mf_prism_1 rfl (lv_at hl 1 rfl)) ?_
        have f_34 : G a.x = some (31, .inr (8, [.ref a.vs, .int (nI S.n), .ref a.rs, .int (nI S.rn), .ref a.ws, .ref a.ca, .ref (a.fr 0), .ref (a.fr 1), .ref (a.fr 2), .ref (a.fr 3), .ref a.zr, .ref a.fo, .ref a.ha, .ref a.si])) := hC.ob
        refine g_outr hlo (g_runV (As := [.int (nI i)]) (rest := []) ⟨hx, hb, hml, hown, hts⟩ hK hZ hRc hRs (c_Mf_valueOf l D cA lo MC MS G B X a S F V hC hW i (by omega) hX1 hX2) (fun _ _ => cwV 1 hts (tb_good (tb_cons wm539 (tb_cons wm541 (tb_cons ws11 (tb_cons wm1 k_Mf_valueOf))))) rfl rfl rfl (by decide +kernel) ⟨by rw [hRf]; exact Nat.le_of_ble_eq_true rfl, by rw [hRl]; exact Nat.le_of_ble_eq_true rfl⟩) f_34 rfl bl_1 bl_2 rfl (Nat.le_of_ble_eq_true rfl) d_Mf_prism_2) (fun r_38 G_35 B_36 p_37 => ?_)
        obtain ⟨u_39, iv_40⟩ := p_37
        cases u_39
        have rb_41 : rb (S.v i) 100 := rb_of (hW.v _ (by omega)).1
        have ub_42 := (hW.v i (by omega)).2
        have ub_43 := ub_42.1
        have ub_44 := ub_42.2
        refine gst (pc' := 7) (L' := [(5, .ref r_38), (0, .ref a.x), (1, .int (nI i)), (2, .int (nI j)), (3, .int (iI xc)), (4, .int (iI xd))]) (fun _ _ _ _ _ hl => lv_astore hx hb d_Mf_prism_5 hl (by decide) rfl) ?_
        refine gs (pc' := 8) (fun _ _ _ _ _ hl => lv_aload_n hx hb d_Mf_prism_7 rfl (lv_at hl 1 rfl)) ?_
        refine gs (pc' := 9) (fun _ _ _ _ _ hl => lv_iload_n hx hb d_Mf_prism_8 rfl (lv_at hl 3 rfl)) ?_
        refine g_outr hlo (g_runV (As := [.int (nI j)]) (rest := []) ⟨hx, hb, hml, hown, hts⟩ hK hZ hRc hRs (c_Mf_valueOf l D cA lo MC MS G B X a S F V hC hW j (by omega) hX1 hX2) (fun _ _ => cwV 1 hts (tb_good (tb_cons wm539 (tb_cons wm541 (tb_cons ws11 (tb_cons wm1 k_Mf_valueOf))))) rfl rfl rfl (by decide +kernel) ⟨by rw [hRf]; exact Nat.le_of_ble_eq_true rfl, by rw [hRl]; exact Nat.le_of_ble_eq_true rfl⟩) f_34 rfl bl_1 bl_2 rfl (Nat.le_of_ble_eq_true rfl) d_Mf_prism_9) (fun r_48 G_45 B_46 p_47 => ?_)
        obtain ⟨u_49, iv_50⟩ := p_47
        cases u_49
        have rb_51 : rb (S.v j) 100 := rb_of (hW.v _ (by omega)).1
        have ub_52 := (hW.v j (by omega)).2
        have ub_53 := ub_52.1
        have ub_54 := ub_52.2
        refine gst (pc' := 14) (L' := [(6, .ref r_48), (5, .ref r_38), (0, .ref a.x), (1, .int (nI i)), (2, .int (nI j)), (3, .int (iI xc)), (4, .int (iI xd))]) (fun _ _ _ _ _ hl => lv_astore hx hb d_Mf_prism_12 hl (by decide) rfl) ?_
        refine gs (pc' := 15) (fun _ _ _ _ _ hl => lv_aload_n hx hb d_Mf_prism_14 rfl (lv_at hl 2 rfl)) ?_
        refine gs (pc' := 16) (fun _ _ _ _ _ hl => lv_iload_n hx hb d_Mf_prism_15 rfl (lv_at hl 5 rfl)) ?_
        exact g_up hlocks hne bl_1 bl_2 (g_thrV (As := [.int (iI xc)]) (rest := []) ⟨hx, hb, hml, hown, hts⟩ hK hZ hRc hRs (t_Mf_valueOf l D cA lo MC MS G B X a S F V hC hW xc hxc1 hxc2 (nvi hxc1 hxc2 hv_xc) hY1 hY2 hfl) (fun _ _ => cwV 1 hts (tb_good (tb_cons wm539 (tb_cons wm541 (tb_cons ws11 (tb_cons wm1 k_Mf_valueOf))))) rfl rfl rfl (by decide +kernel) ⟨by rw [hRf]; exact Nat.le_of_ble_eq_true rfl, by rw [hRl]; exact Nat.le_of_ble_eq_true rfl⟩) f_34 rfl bl_1 bl_2 rfl (Nat.le_of_ble_eq_true rfl) d_Mf_prism_16) (fun _ h => h) hQ
    · skip
      refine gs (pc' := 1) (fun _ _ _ _ _ hl => lv_aload_n hx hb d_Mf_prism_0 rfl (lv_at hl 0 rfl)) ?_
      refine gs (pc' := 2) (fun _ _ _ _ _ hl => lv_iload_n hx hb d_Mf_prism_1 rfl (lv_at hl 1 rfl)) ?_
      have f_55 : G a.x = some (31, .inr (8, [.ref a.vs, .int (nI S.n), .ref a.rs, .int (nI S.rn), .ref a.ws, .ref a.ca, .ref (a.fr 0), .ref (a.fr 1), .ref (a.fr 2), .ref (a.fr 3), .ref a.zr, .ref a.fo, .ref a.ha, .ref a.si])) := hC.ob
      refine g_outr hlo (g_runV (As := [.int (nI i)]) (rest := []) ⟨hx, hb, hml, hown, hts⟩ hK hZ hRc hRs (c_Mf_valueOf l D cA lo MC MS G B X a S F V hC hW i (by omega) hX1 hX2) (fun _ _ => cwV 1 hts (tb_good (tb_cons wm539 (tb_cons wm541 (tb_cons ws11 (tb_cons wm1 k_Mf_valueOf))))) rfl rfl rfl (by decide +kernel) ⟨by rw [hRf]; exact Nat.le_of_ble_eq_true rfl, by rw [hRl]; exact Nat.le_of_ble_eq_true rfl⟩) f_55 rfl bl_1 bl_2 rfl (Nat.le_of_ble_eq_true rfl) d_Mf_prism_2) (fun r_59 G_56 B_57 p_58 => ?_)
      obtain ⟨u_60, iv_61⟩ := p_58
      cases u_60
      have rb_62 : rb (S.v i) 100 := rb_of (hW.v _ (by omega)).1
      have ub_63 := (hW.v i (by omega)).2
      have ub_64 := ub_63.1
      have ub_65 := ub_63.2
      refine gst (pc' := 7) (L' := [(5, .ref r_59), (0, .ref a.x), (1, .int (nI i)), (2, .int (iI xb)), (3, .int (iI xc)), (4, .int (iI xd))]) (fun _ _ _ _ _ hl => lv_astore hx hb d_Mf_prism_5 hl (by decide) rfl) ?_
      refine gs (pc' := 8) (fun _ _ _ _ _ hl => lv_aload_n hx hb d_Mf_prism_7 rfl (lv_at hl 1 rfl)) ?_
      refine gs (pc' := 9) (fun _ _ _ _ _ hl => lv_iload_n hx hb d_Mf_prism_8 rfl (lv_at hl 3 rfl)) ?_
      exact g_up hlocks hne bl_1 bl_2 (g_thrV (As := [.int (iI xb)]) (rest := []) ⟨hx, hb, hml, hown, hts⟩ hK hZ hRc hRs (t_Mf_valueOf l D cA lo MC MS G B X a S F V hC hW xb hxb1 hxb2 (nvi hxb1 hxb2 hv_xb) hY1 hY2 hfl) (fun _ _ => cwV 1 hts (tb_good (tb_cons wm539 (tb_cons wm541 (tb_cons ws11 (tb_cons wm1 k_Mf_valueOf))))) rfl rfl rfl (by decide +kernel) ⟨by rw [hRf]; exact Nat.le_of_ble_eq_true rfl, by rw [hRl]; exact Nat.le_of_ble_eq_true rfl⟩) f_55 rfl bl_1 bl_2 rfl (Nat.le_of_ble_eq_true rfl) d_Mf_prism_9) (fun _ h => h) hQ
  · skip
    refine gs (pc' := 1) (fun _ _ _ _ _ hl => lv_aload_n hx hb d_Mf_prism_0 rfl (lv_at hl 0 rfl)) ?_
    refine gs (pc' := 2) (fun _ _ _ _ _ hl => lv_iload_n hx hb d_Mf_prism_1 rfl (lv_at hl 1 rfl)) ?_
    have f_66 : G a.x = some (31, .inr (8, [.ref a.vs, .int (nI S.n), .ref a.rs, .int (nI S.rn), .ref a.ws, .ref a.ca, .ref (a.fr 0), .ref (a.fr 1), .ref (a.fr 2), .ref (a.fr 3), .ref a.zr, .ref a.fo, .ref a.ha, .ref a.si])) := hC.ob
    exact g_up hlocks hne bl_1 bl_2 (g_thrV (As := [.int (iI xa)]) (rest := []) ⟨hx, hb, hml, hown, hts⟩ hK hZ hRc hRs (t_Mf_valueOf l D cA lo MC MS G B X a S F V hC hW xa hxa1 hxa2 (nvi hxa1 hxa2 hv_xa) hY1 hY2 hfl) (fun _ _ => cwV 1 hts (tb_good (tb_cons wm539 (tb_cons wm541 (tb_cons ws11 (tb_cons wm1 k_Mf_valueOf))))) rfl rfl rfl (by decide +kernel) ⟨by rw [hRf]; exact Nat.le_of_ble_eq_true rfl, by rw [hRl]; exact Nat.le_of_ble_eq_true rfl⟩) f_66 rfl bl_1 bl_2 rfl (Nat.le_of_ble_eq_true rfl) d_Mf_prism_2) (fun _ h => h) hQ
