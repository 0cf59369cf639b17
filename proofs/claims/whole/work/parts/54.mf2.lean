set_option maxHeartbeats 4000000 in
set_option maxRecDepth 100000 in
theorem c_Mf_value (l : Launch) (D : va_G) (cA : Nat → ClassId) (lo MC MS : Nat) (G : gT) (B : Nat × Nat) (X : Nat × Nat) (a : AX) (S : St) (F : Nat → Option Rat) (V : Nat → Nat) (hC : CW cA X a S F V (G, B)) (hW : WF S) (x : Int) (hx1 : -9223372036854775808 ≤ x) (hx2 : x < 9223372036854775808) (y : Int) (hy1 : -9223372036854775808 ≤ y) (hy2 : y < 9223372036854775808) (un : Int) (hun1 : -2147483648 ≤ un) (hun2 : un < 2147483648) (hk : (sp_value S x y (iI un)).1 = 0) (hY1 : X.1 + 6 ≤ MC) (hY2 : X.2 + 209 ≤ MS) : gMet l y_Mf_value w_Mf_value 8 212 D clS (gtys cA) lo MC MS [.ref a.x, .long (lI x), .long (lI y), .int (iI un)] G B (gQi D clS lo (fun r u => r = iI (sp_value S x y (iI un)).2.1 ∧ CW3 cA (X.1 + 6, X.2 + 209) a (sp_value S x y (iI un)).2.2 u ∧ gfr (fun x => x < 70) G u.1)) := by
  refine g_meti (cc := prog_1_method_2_code) (nL := 6) (L := [(0, .ref a.x), (1, .long (lI x)), (3, .long (lI y)), (5, .int (iI un))]) (by decide +kernel) rfl (Nat.le_of_ble_eq_true rfl) rfl ?_
  intro p e R s m args below meth c Q hF hRc hRs hRf hRl hret
  obtain ⟨hx, hb, hr, hml, hts0, hown, hlocks, hin, hK, hlo, hZ⟩ := hF
  have hts : ∀ w ∈ tbg, w.before args s = true := fun w h => hts0 w (List.mem_cons_of_mem _ h)
  have hX1 : X.1 ≤ MC := by omega
  have hX2 : X.2 ≤ MS := by omega
  have hn := hW.n
  have hrn := hW.rn
  have hwn := hW.wn
  have bl_1 : B.1 ≤ MC := Nat.le_trans (w2_le hC.w).1 hX1
  have bl_2 : B.2 ≤ MS := Nat.le_trans (w2_le hC.w).2 hX2
  have hy0 : y ≠ 0 := fun z9 => by rw [sp_value, if_pos z9] at hk; exact absurd hk (by decide)
  have huk : uok un := by
    by_cases z9 : uok un
    · exact z9
    · rw [sp_value, if_neg hy0, iI_toInt hun1 hun2, if_pos z9] at hk; exact absurd hk (by decide)
  have hsp : sp_value S x y (iI un) = if S.n = 200 then (0, -3, S) else kp S (mkRat (x * (y).sign) (y).natAbs) (un) := by rw [sp_value, if_neg hy0, iI_toInt hun1 hun2, if_neg (fun z9 => z9 huk)]
  refine gs (pc' := 1) (fun _ _ _ _ _ hl => lv_lload_n hx hb d_Mf_value_0 rfl (lv_at hl 2 rfl)) ?_
  refine gs (pc' := 2) (fun _ _ _ _ _ hl => lv_lconst (v := lN 0) hx hb d_Mf_value_1 (by decide)) ?_
  refine gs (pc' := 3) (fun _ _ _ _ _ hl => W.lcmp hx hb d_Mf_value_2) ?_
  refine gsb (pc1 := 16) (pc2 := 6) (fun _ _ _ _ _ => lv_if_ne (tgt := 16) hx hb d_Mf_value_3 (by decide)) (fun c_3 => ?_) (fun c_3 => ?_)
  · skip
    have nc_3 : y ≠ ((0 : Nat) : Int) := (lcI_ne (a := y) (b := ((0 : Nat) : Int)) (by omega) (by omega) (by omega) (by omega)).1 (by rw [cmp_IN] at c_3; exact c_3)
    refine gs (pc' := 18) (fun _ _ _ _ _ hl => lv_iload hx hb d_Mf_value_16 (lv_at hl 3 rfl)) ?_
    refine g_outi hlo (g_runS (As := [.int (iI un)]) (rest := []) ⟨hx, hb, hml, hown, hts⟩ hK hZ hRc hRs (c_Mf_isUnit l D cA lo MC MS G B un (by omega) (by omega) bl_1 bl_2) (fun _ _ => va_cwS 1 hts (tb_good (tb_cons wm367 (tb_cons wm368 (tb_cons wm1 k_Mf_isUnit)))) rfl rfl rfl (by decide +kernel) ⟨by rw [hRf]; exact Nat.le_of_ble_eq_true rfl, by rw [hRl]; exact Nat.le_of_ble_eq_true rfl⟩) bl_1 bl_2 rfl (Nat.le_of_ble_eq_true rfl) d_Mf_value_18) (fun r_7 G_4 B_5 p_6 => ?_)
    obtain ⟨u_8, e_9⟩ := p_6
    cases u_8
    subst e_9
    have bd_10 := b01_le (decide (uok un))
    refine gsb (pc1 := 34) (pc2 := 24) (fun _ _ _ _ _ => lv_if_ne (tgt := 34) hx hb d_Mf_value_21 (by decide)) (fun c_11 => ?_) (fun c_11 => ?_)
    · skip
      have nc_11 : (b01 (decide (uok un))) ≠ 0 := (n0_ne (a := (b01 (decide (uok un)))) (by omega)).1 c_11
      refine gs (pc' := 35) (fun _ _ _ _ _ hl => lv_aload_n hx hb d_Mf_value_34 rfl (lv_at hl 0 rfl)) ?_
      refine g_outi hlo (g_runV (As := []) (rest := []) ⟨hx, hb, hml, hown, hts⟩ hK hZ hRc hRs (c_Mf_isFull l D cA lo MC MS G B X a S F V hC hW hX1 hX2) (fun _ _ => cwV 0 hts (tb_good (tb_cons wm386 (tb_cons wm388 (tb_cons ws1 (tb_cons wm1 k_Mf_isFull))))) rfl rfl rfl (by decide +kernel) ⟨by rw [hRf]; exact Nat.le_of_ble_eq_true rfl, by rw [hRl]; exact Nat.le_of_ble_eq_true rfl⟩) hC.ob rfl bl_1 bl_2 rfl (Nat.le_of_ble_eq_true rfl) d_Mf_value_35) (fun r_15 G_12 B_13 p_14 => ?_)
      obtain ⟨u_16, e_17⟩ := p_14
      cases u_16
      subst e_17
      have bd_18 := b01_le (decide (S.n = 200))
      refine gsb (pc1 := 44) (pc2 := 41) (fun _ _ _ _ _ => lv_if_eq (tgt := 44) hx hb d_Mf_value_38 (by decide)) (fun c_19 => ?_) (fun c_19 => ?_)
      · skip
        have nc_19 : (b01 (decide (S.n = 200))) = 0 := (n0_eq (a := (b01 (decide (S.n = 200)))) (by omega)).1 c_19
        have hnf := b01_0 nc_19
        refine gs (pc' := 45) (fun _ _ _ _ _ hl => lv_aload_n hx hb d_Mf_value_44 rfl (lv_at hl 0 rfl)) ?_
        refine g_get hx hb hts hin_Mf hown hK hC.ob rfl 5 (by decide) (hts _ wm240) (fun _ h9 => h9) rfl d_Mf_value_45 ?_
        refine gs (pc' := 49) (fun _ _ _ _ _ hl => lv_aload_n hx hb d_Mf_value_48 rfl (lv_at hl 0 rfl)) ?_
        refine g_get hx hb hts hin_Mf hown hK hC.ob rfl 6 (by decide) (hts _ wm241) (fun _ h9 => h9) rfl d_Mf_value_49 ?_
        refine gs (pc' := 53) (fun _ _ _ _ _ hl => lv_lload_n hx hb d_Mf_value_52 rfl (lv_at hl 1 rfl)) ?_
        refine gs (pc' := 54) (fun _ _ _ _ _ hl => lv_lload_n hx hb d_Mf_value_53 rfl (lv_at hl 2 rfl)) ?_
        refine g_outv hlo (g_runV (As := [.ref (a.fr 0), .long (lI x), .long (lI y)]) (rest := []) ⟨hx, hb, hml, hown, hts⟩ hK hZ hRc hRs (c3_ratio l D cA lo MC MS G B X a S F V hC hX1 hX2 0 (by decide) x y (by omega) (by omega) (by omega) (by omega) hy0) (fun _ _ => cwV 3 hts (tb_good (tb_cons wm390 (tb_cons wm391 (tb_cons wm392 (tb_cons wm3 k_Ca_setRatio))))) rfl rfl rfl (by decide +kernel) ⟨by rw [hRf]; exact Nat.le_of_ble_eq_true rfl, by rw [hRl]; exact Nat.le_of_ble_eq_true rfl⟩) hC.ca rfl bl_1 bl_2 rfl (Nat.le_of_ble_eq_true rfl) d_Mf_value_54) (fun G_20 B_21 p_22 => ?_)
        obtain ⟨V_23, C_24, fr_25⟩ := p_22
        have fr_26 : gfr (fun x => x < 24) G G_20 := gfr_24 gfr_rf fr_25
        have rb_27 : rb (mkRat (x * (y).sign) (y).natAbs) 3 := rb_ratio (by omega) (by omega) (by omega) (by omega) hy0
        have bl_28 : B_21.1 ≤ MC := Nat.le_trans (w2_le C_24.w).1 hX1
        have bl_29 : B_21.2 ≤ MS := Nat.le_trans (w2_le C_24.w).2 hX2
        refine gs (pc' := 58) (fun _ _ _ _ _ hl => lv_aload_n hx hb d_Mf_value_57 rfl (lv_at hl 0 rfl)) ?_
        refine gs (pc' := 59) (fun _ _ _ _ _ hl => lv_aload_n hx hb d_Mf_value_58 rfl (lv_at hl 0 rfl)) ?_
        refine g_get hx hb hts hin_Mf hown hK C_24.ob rfl 6 (by decide) (hts _ wm241) (fun _ h9 => h9) rfl d_Mf_value_59 ?_
        refine gs (pc' := 64) (fun _ _ _ _ _ hl => lv_iload hx hb d_Mf_value_62 (lv_at hl 3 rfl)) ?_
        refine g_outi hlo (g_runV (As := [.ref (a.fr 0), .int (iI un)]) (rest := []) ⟨hx, hb, hml, hown, hts⟩ hK hZ hRc hRs (c_Mf_keep0 l D cA lo MC MS G_20 B_21 X a S (fup F 0 (some (mkRat (x * (y).sign) (y).natAbs))) V_23 C_24 hW (mkRat (x * (y).sign) (y).natAbs) rfl 3 rb_27 (by decide) un hnf hY1 hY2) (fun _ _ => cwV 2 hts (tb_good (tb_cons wm495 (tb_cons wm497 (tb_cons ws10 (tb_cons wm1 k_Mf_keep))))) rfl rfl rfl (by decide +kernel) ⟨by rw [hRf]; exact Nat.le_of_ble_eq_true rfl, by rw [hRl]; exact Nat.le_of_ble_eq_true rfl⟩) C_24.ob rfl bl_28 bl_29 rfl (Nat.le_of_ble_eq_true rfl) d_Mf_value_64) (fun r_33 G_30 B_31 p_32 => ?_)
        obtain ⟨e_34, C_35, fr_36⟩ := p_32
        subst e_34
        have fr_37 : gfr (fun x => x < 70) G G_30 := gfr_mono (gfr_tr fr_26 fr_36) (fun x h9 => by rcases h9 with h9 | h9 <;> omega)
        have bl_38 := CW3_le C_35
        have hs2 : sp_value S x y (iI un) = kp S (mkRat (x * (y).sign) (y).natAbs) un := by rw [hsp, if_neg hnf]
        exact hret 67 _ _ _ _ d_Mf_value_67 (Nat.le_trans bl_38.1 hY1) (Nat.le_trans bl_38.2 hY2) ⟨by rw [hs2], by rw [hs2]; exact C_35, fr_37⟩
      · skip
        have nc_19 : (b01 (decide (S.n = 200))) ≠ 0 := (n0_eq (a := (b01 (decide (S.n = 200)))) (by omega)).2 c_19
        have hnf := b01_1 nc_19
        refine gs (pc' := 43) (fun _ _ _ _ _ hl => lv_bipush (v := (-3)) hx hb d_Mf_value_41 (by decide)) ?_
        refine g_eqi (show (-3) = iI (-3) from by decide) ?_
        have hs2 : sp_value S x y (iI un) = (0, -3, S) := by rw [hsp, if_pos hnf]
        exact hret 43 _ _ _ _ d_Mf_value_43 bl_1 bl_2 ⟨by rw [hs2], by rw [hs2]; exact hC.up (X1 := (X.1 + 6, X.2 + 209)) (show X.1 ≤ X.1 + 6 by omega) (show X.2 ≤ X.2 + 209 by omega), (gfr_mono (M := fun x => x < 24) gfr_rf (fun x h9 => by omega))⟩
    · skip
      have nc_11 : (b01 (decide (uok un))) = 0 := (n0_ne (a := (b01 (decide (uok un)))) (by omega)).2 c_11
      exact absurd huk (b01_0 nc_11)
  · skip
    have nc_3 : y = ((0 : Nat) : Int) := (lcI_ne (a := y) (b := ((0 : Nat) : Int)) (by omega) (by omega) (by omega) (by omega)).2 (by rw [cmp_IN] at c_3; exact c_3)
    exact absurd nc_3 (by omega)
set_option maxHeartbeats 4000000 in
set_option maxRecDepth 100000 in
theorem t_Mf_value1 (l : Launch) (D : va_G) (cA : Nat → ClassId) (lo MC MS : Nat) (G : gT) (B : Nat × Nat) (X : Nat × Nat) (a : AX) (S : St) (F : Nat → Option Rat) (V : Nat → Nat) (hC : CW cA X a S F V (G, B)) (hW : WF S) (x : Int) (hx1 : -9223372036854775808 ≤ x) (hx2 : x < 9223372036854775808) (y : Int) (hy1 : -9223372036854775808 ≤ y) (hy2 : y < 9223372036854775808) (un : Int) (hun1 : -2147483648 ≤ un) (hun2 : un < 2147483648) (hk : (sp_value S x y (iI un)).1 = 1) (hY1 : X.1 + 1 ≤ MC) (hY2 : X.2 + 6 ≤ MS) (hfl : ∀ e : Env, l.admits e → e.platform.stackTraces = false) : gMetT l y_Mf_value w_Mf_value 6 90 D clS (gtys cA) lo MC MS [.ref a.x, .long (lI x), .long (lI y), .int (iI un)] G B (gQx D clS lo "java/lang/ArithmeticException" (fun u => u = (G, B.1 + 1, B.2 + 6))) := by
  refine g_mett (cc := prog_1_method_2_code) (nL := 6) (ret := (Option.some .int)) (L := [(0, .ref a.x), (1, .long (lI x)), (3, .long (lI y)), (5, .int (iI un))]) (by decide +kernel) rfl (Nat.le_of_ble_eq_true rfl) rfl ?_
  intro p e R s m args below meth c Q hF hRc hRs hRf hRl hne hQ
  obtain ⟨hx, hb, hr, hml, hts0, hown, hlocks, hin, hK, hlo, hZ⟩ := hF
  have hts : ∀ w ∈ tbg, w.before args s = true := fun w h => hts0 w (List.mem_cons_of_mem _ h)
  have hX1 : X.1 ≤ MC := by omega
  have hX2 : X.2 ≤ MS := by omega
  have hn := hW.n
  have hrn := hW.rn
  have hwn := hW.wn
  have bl_1 : B.1 ≤ MC := Nat.le_trans (w2_le hC.w).1 hX1
  have bl_2 : B.2 ≤ MS := Nat.le_trans (w2_le hC.w).2 hX2
  have hy0 : y = 0 := Decidable.byContradiction fun z9 => by
    rw [sp_value, if_neg z9] at hk
    split at hk
    · exact absurd hk (by decide)
    split at hk
    · exact absurd hk (by decide)
    · rw [kp_0] at hk; exact absurd hk (by decide)
  refine gs (pc' := 1) (fun _ _ _ _ _ hl => lv_lload_n hx hb d_Mf_value_0 rfl (lv_at hl 2 rfl)) ?_
  refine gs (pc' := 2) (fun _ _ _ _ _ hl => lv_lconst (v := lN 0) hx hb d_Mf_value_1 (by decide)) ?_
  refine gs (pc' := 3) (fun _ _ _ _ _ hl => W.lcmp hx hb d_Mf_value_2) ?_
  refine gsb (pc1 := 16) (pc2 := 6) (fun _ _ _ _ _ => lv_if_ne (tgt := 16) hx hb d_Mf_value_3 (by decide)) (fun c_3 => ?_) (fun c_3 => ?_)
  · skip
    have nc_3 : y ≠ ((0 : Nat) : Int) := (lcI_ne (a := y) (b := ((0 : Nat) : Int)) (by omega) (by omega) (by omega) (by omega)).1 (by rw [cmp_IN] at c_3; exact c_3)
    exact absurd nc_3 (by omega)
  · skip
    have nc_3 : y = ((0 : Nat) : Int) := (lcI_ne (a := y) (b := ((0 : Nat) : Int)) (by omega) (by omega) (by omega) (by omega)).2 (by rw [cmp_IN] at c_3; exact c_3)
    have le_4 := w2_le hC.w
    exact g_throw hx hb hml hown hts hlo hZ hfl hlocks hne (fun U h h1 h2 => own_Ari h h1 h2) (by decide +kernel) wm299 wm300 wm16 (by decide) hRc hRs (by rw [hRf]; exact Nat.le_of_ble_eq_true rfl) (by rw [hRl]; exact Nat.le_of_ble_eq_true rfl) (by have := le_4.1; omega) (by have := le_4.2; omega) d_Mf_value_6 d_Mf_value_9 d_Mf_value_10 d_Mf_value_12 d_Mf_value_15 rfl hQ
set_option maxHeartbeats 4000000 in
set_option maxRecDepth 100000 in
theorem t_Mf_value2 (l : Launch) (D : va_G) (cA : Nat → ClassId) (lo MC MS : Nat) (G : gT) (B : Nat × Nat) (X : Nat × Nat) (a : AX) (S : St) (F : Nat → Option Rat) (V : Nat → Nat) (hC : CW cA X a S F V (G, B)) (hW : WF S) (x : Int) (hx1 : -9223372036854775808 ≤ x) (hx2 : x < 9223372036854775808) (y : Int) (hy1 : -9223372036854775808 ≤ y) (hy2 : y < 9223372036854775808) (un : Int) (hun1 : -2147483648 ≤ un) (hun2 : un < 2147483648) (hk : (sp_value S x y (iI un)).1 = 2) (hY1 : X.1 + 1 ≤ MC) (hY2 : X.2 + 6 ≤ MS) (hfl : ∀ e : Env, l.admits e → e.platform.stackTraces = false) : gMetT l y_Mf_value w_Mf_value 6 90 D clS (gtys cA) lo MC MS [.ref a.x, .long (lI x), .long (lI y), .int (iI un)] G B (gQx D clS lo "java/lang/IllegalArgumentException" (fun u => u = (G, B.1 + 1, B.2 + 6))) := by
  refine g_mett (cc := prog_1_method_2_code) (nL := 6) (ret := (Option.some .int)) (L := [(0, .ref a.x), (1, .long (lI x)), (3, .long (lI y)), (5, .int (iI un))]) (by decide +kernel) rfl (Nat.le_of_ble_eq_true rfl) rfl ?_
  intro p e R s m args below meth c Q hF hRc hRs hRf hRl hne hQ
  obtain ⟨hx, hb, hr, hml, hts0, hown, hlocks, hin, hK, hlo, hZ⟩ := hF
  have hts : ∀ w ∈ tbg, w.before args s = true := fun w h => hts0 w (List.mem_cons_of_mem _ h)
  have hX1 : X.1 ≤ MC := by omega
  have hX2 : X.2 ≤ MS := by omega
  have hn := hW.n
  have hrn := hW.rn
  have hwn := hW.wn
  have bl_1 : B.1 ≤ MC := Nat.le_trans (w2_le hC.w).1 hX1
  have bl_2 : B.2 ≤ MS := Nat.le_trans (w2_le hC.w).2 hX2
  have hy0 : y ≠ 0 := fun z9 => by rw [sp_value, if_pos z9] at hk; exact absurd hk (by decide)
  have huk : ¬ uok un := fun z9 => by
    rw [sp_value, if_neg hy0, iI_toInt hun1 hun2, if_neg (fun z8 => z8 z9)] at hk
    split at hk
    · exact absurd hk (by decide)
    · rw [kp_0] at hk; exact absurd hk (by decide)
  refine gs (pc' := 1) (fun _ _ _ _ _ hl => lv_lload_n hx hb d_Mf_value_0 rfl (lv_at hl 2 rfl)) ?_
  refine gs (pc' := 2) (fun _ _ _ _ _ hl => lv_lconst (v := lN 0) hx hb d_Mf_value_1 (by decide)) ?_
  refine gs (pc' := 3) (fun _ _ _ _ _ hl => W.lcmp hx hb d_Mf_value_2) ?_
  refine gsb (pc1 := 16) (pc2 := 6) (fun _ _ _ _ _ => lv_if_ne (tgt := 16) hx hb d_Mf_value_3 (by decide)) (fun c_3 => ?_) (fun c_3 => ?_)
  · skip
    have nc_3 : y ≠ ((0 : Nat) : Int) := (lcI_ne (a := y) (b := ((0 : Nat) : Int)) (by omega) (by omega) (by omega) (by omega)).1 (by rw [cmp_IN] at c_3; exact c_3)
    refine gs (pc' := 18) (fun _ _ _ _ _ hl => lv_iload hx hb d_Mf_value_16 (lv_at hl 3 rfl)) ?_
    refine g_outi hlo (g_runS (As := [.int (iI un)]) (rest := []) ⟨hx, hb, hml, hown, hts⟩ hK hZ hRc hRs (c_Mf_isUnit l D cA lo MC MS G B un (by omega) (by omega) bl_1 bl_2) (fun _ _ => va_cwS 1 hts (tb_good (tb_cons wm367 (tb_cons wm368 (tb_cons wm1 k_Mf_isUnit)))) rfl rfl rfl (by decide +kernel) ⟨by rw [hRf]; exact Nat.le_of_ble_eq_true rfl, by rw [hRl]; exact Nat.le_of_ble_eq_true rfl⟩) bl_1 bl_2 rfl (Nat.le_of_ble_eq_true rfl) d_Mf_value_18) (fun r_7 G_4 B_5 p_6 => ?_)
    obtain ⟨u_8, e_9⟩ := p_6
    cases u_8
    subst e_9
    have bd_10 := b01_le (decide (uok un))
    refine gsb (pc1 := 34) (pc2 := 24) (fun _ _ _ _ _ => lv_if_ne (tgt := 34) hx hb d_Mf_value_21 (by decide)) (fun c_11 => ?_) (fun c_11 => ?_)
    · skip
      have nc_11 : (b01 (decide (uok un))) ≠ 0 := (n0_ne (a := (b01 (decide (uok un)))) (by omega)).1 c_11
      exact absurd (b01_1 nc_11) huk
    · skip
      have nc_11 : (b01 (decide (uok un))) = 0 := (n0_ne (a := (b01 (decide (uok un)))) (by omega)).2 c_11
      have le_12 := w2_le hC.w
      exact g_throw hx hb hml hown hts hlo hZ hfl hlocks hne (fun U h h1 h2 => own_Iae h h1 h2) (by decide +kernel) wm370 wm371 wm17 (by decide) hRc hRs (by rw [hRf]; exact Nat.le_of_ble_eq_true rfl) (by rw [hRl]; exact Nat.le_of_ble_eq_true rfl) (by have := le_12.1; omega) (by have := le_12.2; omega) d_Mf_value_24 d_Mf_value_27 d_Mf_value_28 d_Mf_value_30 d_Mf_value_33 rfl hQ
  · skip
    have nc_3 : y = ((0 : Nat) : Int) := (lcI_ne (a := y) (b := ((0 : Nat) : Int)) (by omega) (by omega) (by omega) (by omega)).2 (by rw [cmp_IN] at c_3; exact c_3)
    exact absurd nc_3 (by omega)
set_option maxHeartbeats 4000000 in
set_option maxRecDepth 100000 in
theorem c_Mf_add (l : Launch) (D : va_G) (cA : Nat → ClassId) (lo MC MS : Nat) (G : gT) (B : Nat × Nat) (X : Nat × Nat) (a : AX) (S : St) (F : Nat → Option Rat) (V : Nat → Nat) (hC : CW cA X a S F V (G, B)) (hW : WF S) (x : Int) (hx1 : -2147483648 ≤ x) (hx2 : x < 2147483648) (y : Int) (hy1 : -2147483648 ≤ y) (hy2 : y < 2147483648) (le : Int32) (hk : (sp_add S (iI x) (iI y) (decide (le ≠ 0))).1 = 0) (hY1 : X.1 + 6 ≤ MC) (hY2 : X.2 + 209 ≤ MS) : gMet l y_Mf_add w_Mf_add 7 188 D clS (gtys cA) lo MC MS [.ref a.x, .int (iI x), .int (iI y), .int le] G B (gQi D clS lo (fun r u => r = iI (sp_add S (iI x) (iI y) (decide (le ≠ 0))).2.1 ∧ CW3 cA (X.1 + 6, X.2 + 209) a (sp_add S (iI x) (iI y) (decide (le ≠ 0))).2.2 u ∧ gfr (fun x => x < 70) G u.1)) := by
  refine g_meti (cc := prog_1_method_3_code) (nL := 6) (L := [(0, .ref a.x), (1, .int (iI x)), (2, .int (iI y)), (3, .int le)]) (by decide +kernel) rfl (Nat.le_of_ble_eq_true rfl) rfl ?_
  intro p e R s m args below meth c Q hF hRc hRs hRf hRl hret
  obtain ⟨hx, hb, hr, hml, hts0, hown, hlocks, hin, hK, hlo, hZ⟩ := hF
  have hts : ∀ w ∈ tbg, w.before args s = true := fun w h => hts0 w (List.mem_cons_of_mem _ h)
  have hX1 : X.1 ≤ MC := by omega
  have hX2 : X.2 ≤ MS := by omega
  have hn := hW.n
  have hrn := hW.rn
  have hwn := hW.wn
  have bl_1 : B.1 ≤ MC := Nat.le_trans (w2_le hC.w).1 hX1
  have bl_2 : B.2 ≤ MS := Nat.le_trans (w2_le hC.w).2 hX2
  have hv : vi S (iI x) ∧ vi S (iI y) := by
    by_cases z9 : vi S (iI x) ∧ vi S (iI y)
    · exact z9
    · rw [sp_add, if_pos z9] at hk; exact absurd hk (by decide)
  obtain ⟨i, hi_i, hxe_x, ei_i⟩ := ix_of hv.1.1 hv.1.2
  rw [hxe_x]
  obtain ⟨j, hi_j, hxe_y, ei_j⟩ := ix_of hv.2.1 hv.2.2
  rw [hxe_y]
  have hsp : sp_add S (iI x) (iI y) (decide (le ≠ 0)) = if S.un i ≠ S.un j then (0, -2, S) else if S.n = 200 then (0, -3, S) else kp S (if le = 0 then S.v i + S.v j else S.v i - S.v j) (S.un i) := by
    rw [sp_add, if_neg (fun z9 => z9 hv), ei_i, ei_j]
    by_cases z9 : le = 0 <;> simp [z9]
  refine gs (pc' := 1) (fun _ _ _ _ _ hl => lv_aload_n hx hb d_Mf_add_0 rfl (lv_at hl 0 rfl)) ?_
  refine gs (pc' := 2) (fun _ _ _ _ _ hl => lv_iload_n hx hb d_Mf_add_1 rfl (lv_at hl 1 rfl)) ?_
  refine g_outr hlo (g_runV (As := [.int (nI i)]) (rest := []) ⟨hx, hb, hml, hown, hts⟩ hK hZ hRc hRs (c_Mf_valueOf l D cA lo MC MS G B X a S F V hC hW i (by omega) hX1 hX2) (fun _ _ => cwV 1 hts (tb_good (tb_cons wm539 (tb_cons wm541 (tb_cons ws11 (tb_cons wm1 k_Mf_valueOf))))) rfl rfl rfl (by decide +kernel) ⟨by rw [hRf]; exact Nat.le_of_ble_eq_true rfl, by rw [hRl]; exact Nat.le_of_ble_eq_true rfl⟩) hC.ob rfl bl_1 bl_2 rfl (Nat.le_of_ble_eq_true rfl) d_Mf_add_2) (fun r_6 G_3 B_4 p_5 => ?_)
  obtain ⟨u_7, iv_8⟩ := p_5
  cases u_7
  have rb_9 : rb (S.v i) 100 := rb_of (hW.v _ (by omega)).1
  have ub_10 := (hW.v i (by omega)).2
  have ub_11 := ub_10.1
  have ub_12 := ub_10.2
  refine gst (pc' := 7) (L' := [(4, .ref r_6), (0, .ref a.x), (1, .int (nI i)), (2, .int (nI j)), (3, .int le)]) (fun _ _ _ _ _ hl => lv_astore hx hb d_Mf_add_5 hl (by decide) rfl) ?_
  refine gs (pc' := 8) (fun _ _ _ _ _ hl => lv_aload_n hx hb d_Mf_add_7 rfl (lv_at hl 1 rfl)) ?_
  refine gs (pc' := 9) (fun _ _ _ _ _ hl => lv_iload_n hx hb d_Mf_add_8 rfl (lv_at hl 3 rfl)) ?_
  refine g_outr hlo (g_runV (As := [.int (nI j)]) (rest := []) ⟨hx, hb, hml, hown, hts⟩ hK hZ hRc hRs (c_Mf_valueOf l D cA lo MC MS G B X a S F V hC hW j (by omega) hX1 hX2) (fun _ _ => cwV 1 hts (tb_good (tb_cons wm539 (tb_cons wm541 (tb_cons ws11 (tb_cons wm1 k_Mf_valueOf))))) rfl rfl rfl (by decide +kernel) ⟨by rw [hRf]; exact Nat.le_of_ble_eq_true rfl, by rw [hRl]; exact Nat.le_of_ble_eq_true rfl⟩) hC.ob rfl bl_1 bl_2 rfl (Nat.le_of_ble_eq_true rfl) d_Mf_add_9) (fun r_16 G_13 B_14 p_15 => ?_)
  obtain ⟨u_17, iv_18⟩ := p_15
  cases u_17
  have rb_19 : rb (S.v j) 100 := rb_of (hW.v _ (by omega)).1
  have ub_20 := (hW.v j (by omega)).2
  have ub_21 := ub_20.1
  have ub_22 := ub_20.2
  refine gst (pc' := 14) (L' := [(5, .ref r_16), (4, .ref r_6), (0, .ref a.x), (1, .int (nI i)), (2, .int (nI j)), (3, .int le)]) (fun _ _ _ _ _ hl => lv_astore hx hb d_Mf_add_12 hl (by decide) rfl) ?_
  refine gs (pc' := 16) (fun _ _ _ _ _ hl => lv_aload hx hb d_Mf_add_14 (lv_at hl 1 rfl)) ?_
  obtain ⟨hf_23, f_24, kq_25⟩ := id iv_8
  refine g_get hx hb hts hin_Va hown hK f_24 rfl 1 (by decide) (hts _ wm525) (fun _ h9 => h9) rfl d_Mf_add_16 ?_
  refine gs (pc' := 21) (fun _ _ _ _ _ hl => lv_aload hx hb d_Mf_add_19 (lv_at hl 0 rfl)) ?_
  obtain ⟨hf_26, f_27, kq_28⟩ := id iv_18
  refine g_get hx hb hts hin_Va hown hK f_27 rfl 1 (by decide) (hts _ wm525) (fun _ h9 => h9) rfl d_Mf_add_21 ?_
  refine gsb (pc1 := 30) (pc2 := 27) (fun _ _ _ _ _ => lv_icmp_eq (tgt := 30) hx hb d_Mf_add_24 (by decide)) (fun c_29 => ?_) (fun c_29 => ?_)
  · skip
    have nc_29 : (S.un i) = (S.un j) := (ii_eq (a := (S.un i)) (b := (S.un j)) (by omega) (by omega) (by omega) (by omega)).1 (by first | exact c_29 | (have z9 := c_29; simp only [nI_iI] at z9; exact z9))
    have hu : ¬ S.un i ≠ S.un j := fun z9 => z9 nc_29
    refine gs (pc' := 31) (fun _ _ _ _ _ hl => lv_aload_n hx hb d_Mf_add_30 rfl (lv_at hl 2 rfl)) ?_
    refine g_outi hlo (g_runV (As := []) (rest := []) ⟨hx, hb, hml, hown, hts⟩ hK hZ hRc hRs (c_Mf_isFull l D cA lo MC MS G B X a S F V hC hW hX1 hX2) (fun _ _ => cwV 0 hts (tb_good (tb_cons wm386 (tb_cons wm388 (tb_cons ws1 (tb_cons wm1 k_Mf_isFull))))) rfl rfl rfl (by decide +kernel) ⟨by rw [hRf]; exact Nat.le_of_ble_eq_true rfl, by rw [hRl]; exact Nat.le_of_ble_eq_true rfl⟩) hC.ob rfl bl_1 bl_2 rfl (Nat.le_of_ble_eq_true rfl) d_Mf_add_31) (fun r_33 G_30 B_31 p_32 => ?_)
    obtain ⟨u_34, e_35⟩ := p_32
    cases u_34
    subst e_35
    have bd_36 := b01_le (decide (S.n = 200))
    refine gsb (pc1 := 40) (pc2 := 37) (fun _ _ _ _ _ => lv_if_eq (tgt := 40) hx hb d_Mf_add_34 (by decide)) (fun c_37 => ?_) (fun c_37 => ?_)
    · skip
      have nc_37 : (b01 (decide (S.n = 200))) = 0 := (n0_eq (a := (b01 (decide (S.n = 200)))) (by omega)).1 c_37
      have hnf := b01_0 nc_37
      refine gs (pc' := 41) (fun _ _ _ _ _ hl => lv_aload_n hx hb d_Mf_add_40 rfl (lv_at hl 2 rfl)) ?_
      refine g_get hx hb hts hin_Mf hown hK hC.ob rfl 5 (by decide) (hts _ wm240) (fun _ h9 => h9) rfl d_Mf_add_41 ?_
      refine gs (pc' := 45) (fun _ _ _ _ _ hl => lv_aload_n hx hb d_Mf_add_44 rfl (lv_at hl 2 rfl)) ?_
      refine g_get hx hb hts hin_Mf hown hK hC.ob rfl 6 (by decide) (hts _ wm241) (fun _ h9 => h9) rfl d_Mf_add_45 ?_
      refine gs (pc' := 50) (fun _ _ _ _ _ hl => lv_aload hx hb d_Mf_add_48 (lv_at hl 1 rfl)) ?_
      refine g_get hx hb hts hin_Va hown hK f_24 rfl 0 (by decide) (hts _ wm523) (fun _ h9 => h9) rfl d_Mf_add_50 ?_
      refine gs (pc' := 55) (fun _ _ _ _ _ hl => lv_aload hx hb d_Mf_add_53 (lv_at hl 0 rfl)) ?_
      refine g_get hx hb hts hin_Va hown hK f_27 rfl 0 (by decide) (hts _ wm523) (fun _ h9 => h9) rfl d_Mf_add_55 ?_
      refine gs (pc' := 59) (fun _ _ _ _ _ hl => lv_iload_n hx hb d_Mf_add_58 rfl (lv_at hl 5 rfl)) ?_
      refine g_outv hlo (g_runV (As := [.ref (a.fr 0), .ref hf_23, .ref hf_26, .int le]) (rest := []) ⟨hx, hb, hml, hown, hts⟩ hK hZ hRc hRs (c3_sum l D cA lo MC MS G B X a S F V hC hX1 hX2 0 (by decide) hf_23 hf_26 (S.v i) (S.v j) (Or.inr kq_25) (Or.inr kq_28) 100 100 rb_9 rb_19 (by decide) le) (fun _ _ => cwV 4 hts (tb_good (tb_cons wm559 (tb_cons wm560 (tb_cons wm561 (tb_cons wm3 k_Ca_setSum))))) rfl rfl rfl (by decide +kernel) ⟨by rw [hRf]; exact Nat.le_of_ble_eq_true rfl, by rw [hRl]; exact Nat.le_of_ble_eq_true rfl⟩) hC.ca rfl bl_1 bl_2 rfl (Nat.le_of_ble_eq_true rfl) d_Mf_add_59) (fun G_38 B_39 p_40 => ?_)
      obtain ⟨V_41, C_42, fr_43⟩ := p_40
      have iv_44 : isV cA G_38 r_6 (S.v i) (S.un i) := isV_24 iv_8 fr_43
      have iv_45 : isV cA G_38 r_16 (S.v j) (S.un j) := isV_24 iv_18 fr_43
      have kq_46 : kq cA G_38 hf_23 (S.v i) := kq_24 kq_25 fr_43
      have kq_47 : kq cA G_38 hf_26 (S.v j) := kq_24 kq_28 fr_43
      have fr_48 : gfr (fun x => x < 24) G G_38 := gfr_24 gfr_rf fr_43
      have f_49 : G_38 r_6 = some (30, .inr (6, [.ref hf_23, .int (iI (S.un i))])) := fr_43 _ _ f_24 (show ¬ (30 : Nat) < 24 by decide)
      have f_50 : G_38 r_16 = some (30, .inr (6, [.ref hf_26, .int (iI (S.un j))])) := fr_43 _ _ f_27 (show ¬ (30 : Nat) < 24 by decide)
      have rb_51 : rb (if le = 0 then (S.v i) + (S.v j) else (S.v i) - (S.v j)) 201 := rb_if (rb_add rb_9 rb_19) (rb_sub rb_9 rb_19)
      have bl_52 : B_39.1 ≤ MC := Nat.le_trans (w2_le C_42.w).1 hX1
      have bl_53 : B_39.2 ≤ MS := Nat.le_trans (w2_le C_42.w).2 hX2
      refine gs (pc' := 63) (fun _ _ _ _ _ hl => lv_aload_n hx hb d_Mf_add_62 rfl (lv_at hl 2 rfl)) ?_
      refine gs (pc' := 64) (fun _ _ _ _ _ hl => lv_aload_n hx hb d_Mf_add_63 rfl (lv_at hl 2 rfl)) ?_
      refine g_get hx hb hts hin_Mf hown hK C_42.ob rfl 6 (by decide) (hts _ wm241) (fun _ h9 => h9) rfl d_Mf_add_64 ?_
      refine gs (pc' := 69) (fun _ _ _ _ _ hl => lv_aload hx hb d_Mf_add_67 (lv_at hl 1 rfl)) ?_
      refine g_get hx hb hts hin_Va hown hK f_49 rfl 1 (by decide) (hts _ wm525) (fun _ h9 => h9) rfl d_Mf_add_69 ?_
      refine g_outi hlo (g_runV (As := [.ref (a.fr 0), .int (iI (S.un i))]) (rest := []) ⟨hx, hb, hml, hown, hts⟩ hK hZ hRc hRs (c_Mf_keep0 l D cA lo MC MS G_38 B_39 X a S (fup F 0 (some (if le = 0 then (S.v i) + (S.v j) else (S.v i) - (S.v j)))) V_41 C_42 hW (if le = 0 then (S.v i) + (S.v j) else (S.v i) - (S.v j)) rfl 201 rb_51 (by decide) (S.un i) hnf hY1 hY2) (fun _ _ => cwV 2 hts (tb_good (tb_cons wm495 (tb_cons wm497 (tb_cons ws10 (tb_cons wm1 k_Mf_keep))))) rfl rfl rfl (by decide +kernel) ⟨by rw [hRf]; exact Nat.le_of_ble_eq_true rfl, by rw [hRl]; exact Nat.le_of_ble_eq_true rfl⟩) C_42.ob rfl bl_52 bl_53 rfl (Nat.le_of_ble_eq_true rfl) d_Mf_add_72) (fun r_57 G_54 B_55 p_56 => ?_)
      obtain ⟨e_58, C_59, fr_60⟩ := p_56
      subst e_58
      have fr_61 : gfr (fun x => x < 70) G G_54 := gfr_mono (gfr_tr fr_48 fr_60) (fun x h9 => by rcases h9 with h9 | h9 <;> omega)
      have bl_62 := CW3_le C_59
      have hs2 : sp_add S (iI x) (iI y) (decide (le ≠ 0)) = kp S (if le = 0 then (S.v i) + (S.v j) else (S.v i) - (S.v j)) (S.un i) := by rw [hsp, if_neg hu, if_neg hnf]
      exact hret 75 _ _ _ _ d_Mf_add_75 (Nat.le_trans bl_62.1 hY1) (Nat.le_trans bl_62.2 hY2) ⟨by rw [hs2], by rw [hs2]; exact C_59, fr_61⟩
    · skip
      have nc_37 : (b01 (decide (S.n = 200))) ≠ 0 := (n0_eq (a := (b01 (decide (S.n = 200)))) (by omega)).2 c_37
      have hnf := b01_1 nc_37
      refine gs (pc' := 39) (fun _ _ _ _ _ hl => lv_bipush (v := (-3)) hx hb d_Mf_add_37 (by decide)) ?_
      refine g_eqi (show (-3) = iI (-3) from by decide) ?_
      have hs2 : sp_add S (iI x) (iI y) (decide (le ≠ 0)) = (0, -3, S) := by rw [hsp, if_neg hu, if_pos hnf]
      exact hret 39 _ _ _ _ d_Mf_add_39 bl_1 bl_2 ⟨by rw [hs2], by rw [hs2]; exact hC.up (X1 := (X.1 + 6, X.2 + 209)) (show X.1 ≤ X.1 + 6 by omega) (show X.2 ≤ X.2 + 209 by omega), (gfr_mono (M := fun x => x < 24) gfr_rf (fun x h9 => by omega))⟩
  · skip
    have nc_29 : (S.un i) ≠ (S.un j) := (ii_eq (a := (S.un i)) (b := (S.un j)) (by omega) (by omega) (by omega) (by omega)).2 (by first | exact c_29 | (have z9 := c_29; simp only [nI_iI] at z9; exact z9))
    have hu : S.un i ≠ S.un j := nc_29
    refine gs (pc' := 29) (fun _ _ _ _ _ hl => lv_bipush (v := (-2)) hx hb d_Mf_add_27 (by decide)) ?_
    refine g_eqi (show (-2) = iI (-2) from by decide) ?_
    have hs2 : sp_add S (iI x) (iI y) (decide (le ≠ 0)) = (0, -2, S) := by rw [hsp, if_pos hu]
    exact hret 29 _ _ _ _ d_Mf_add_29 bl_1 bl_2 ⟨by rw [hs2], by rw [hs2]; exact hC.up (X1 := (X.1 + 6, X.2 + 209)) (show X.1 ≤ X.1 + 6 by omega) (show X.2 ≤ X.2 + 209 by omega), (gfr_mono (M := fun x => x < 24) gfr_rf (fun x h9 => by omega))⟩
set_option maxHeartbeats 4000000 in
set_option maxRecDepth 100000 in
theorem t_Mf_add1 (l : Launch) (D : va_G) (cA : Nat → ClassId) (lo MC MS : Nat) (G : gT) (B : Nat × Nat) (X : Nat × Nat) (a : AX) (S : St) (F : Nat → Option Rat) (V : Nat → Nat) (hC : CW cA X a S F V (G, B)) (hW : WF S) (x : Int) (hx1 : -2147483648 ≤ x) (hx2 : x < 2147483648) (y : Int) (hy1 : -2147483648 ≤ y) (hy2 : y < 2147483648) (le : Int32) (hk : (sp_add S (iI x) (iI y) (decide (le ≠ 0))).1 = 1) (hY1 : X.1 + 1 ≤ MC) (hY2 : X.2 + 6 ≤ MS) (hfl : ∀ e : Env, l.admits e → e.platform.stackTraces = false) : gMetT l y_Mf_add w_Mf_add 7 111 D clS (gtys cA) lo MC MS [.ref a.x, .int (iI x), .int (iI y), .int le] G B (gQx D clS lo "java/lang/IndexOutOfBoundsException" (fun u => u = (G, B.1 + 1, B.2 + 6))) := by
  refine g_mett (cc := prog_1_method_3_code) (nL := 6) (ret := (Option.some .int)) (L := [(0, .ref a.x), (1, .int (iI x)), (2, .int (iI y)), (3, .int le)]) (by decide +kernel) rfl (Nat.le_of_ble_eq_true rfl) rfl ?_
  intro p e R s m args below meth c Q hF hRc hRs hRf hRl hne hQ
  obtain ⟨hx, hb, hr, hml, hts0, hown, hlocks, hin, hK, hlo, hZ⟩ := hF
  have hts : ∀ w ∈ tbg, w.before args s = true := fun w h => hts0 w (List.mem_cons_of_mem _ h)
  have hX1 : X.1 ≤ MC := by omega
  have hX2 : X.2 ≤ MS := by omega
  have hn := hW.n
  have hrn := hW.rn
  have hwn := hW.wn
  have bl_1 : B.1 ≤ MC := Nat.le_trans (w2_le hC.w).1 hX1
  have bl_2 : B.2 ≤ MS := Nat.le_trans (w2_le hC.w).2 hX2
  have hv : ¬ (vi S (iI x) ∧ vi S (iI y)) := fun z9 => by
    rw [sp_add, if_neg (fun z8 => z8 z9)] at hk
    split at hk
    · exact absurd hk (by decide)
    split at hk
    · exact absurd hk (by decide)
    · rw [kp_0] at hk; exact absurd hk (by decide)
  by_cases hv1 : vi S (iI x)
  · skip
    have hv2 : ¬ vi S (iI y) := fun z9 => hv ⟨hv1, z9⟩
    obtain ⟨i, hi_i, hxe_x, ei_i⟩ := ix_of hv1.1 hv1.2
    rw [hxe_x]
    refine gs (pc' := 1) (fun _ _ _ _ _ hl => lv_aload_n hx hb d_Mf_add_0 rfl (lv_at hl 0 rfl)) ?_
    refine gs (pc' := 2) (fun _ _ _ _ _ hl => lv_iload_n hx hb d_Mf_add_1 rfl (lv_at hl 1 rfl)) ?_
    refine g_outr hlo (g_runV (As := [.int (nI i)]) (rest := []) ⟨hx, hb, hml, hown, hts⟩ hK hZ hRc hRs (c_Mf_valueOf l D cA lo MC MS G B X a S F V hC hW i (by omega) hX1 hX2) (fun _ _ => cwV 1 hts (tb_good (tb_cons wm539 (tb_cons wm541 (tb_cons ws11 (tb_cons wm1 k_Mf_valueOf))))) rfl rfl rfl (by decide +kernel) ⟨by rw [hRf]; exact Nat.le_of_ble_eq_true rfl, by rw [hRl]; exact Nat.le_of_ble_eq_true rfl⟩) hC.ob rfl bl_1 bl_2 rfl (Nat.le_of_ble_eq_true rfl) d_Mf_add_2) (fun r_6 G_3 B_4 p_5 => ?_)
    obtain ⟨u_7, iv_8⟩ := p_5
    cases u_7
    have rb_9 : rb (S.v i) 100 := rb_of (hW.v _ (by omega)).1
    have ub_10 := (hW.v i (by omega)).2
    have ub_11 := ub_10.1
    have ub_12 := ub_10.2
    refine gst (pc' := 7) (L' := [(4, .ref r_6), (0, .ref a.x), (1, .int (nI i)), (2, .int (iI y)), (3, .int le)]) (fun _ _ _ _ _ hl => lv_astore hx hb d_Mf_add_5 hl (by decide) rfl) ?_
    refine gs (pc' := 8) (fun _ _ _ _ _ hl => lv_aload_n hx hb d_Mf_add_7 rfl (lv_at hl 1 rfl)) ?_
    refine gs (pc' := 9) (fun _ _ _ _ _ hl => lv_iload_n hx hb d_Mf_add_8 rfl (lv_at hl 3 rfl)) ?_
    exact g_up hlocks hne bl_1 bl_2 (g_thrV (As := [.int (iI y)]) (rest := []) ⟨hx, hb, hml, hown, hts⟩ hK hZ hRc hRs (t_Mf_valueOf l D cA lo MC MS G B X a S F V hC hW y hy1 hy2 (nvi hy1 hy2 hv2) hY1 hY2 hfl) (fun _ _ => cwV 1 hts (tb_good (tb_cons wm539 (tb_cons wm541 (tb_cons ws11 (tb_cons wm1 k_Mf_valueOf))))) rfl rfl rfl (by decide +kernel) ⟨by rw [hRf]; exact Nat.le_of_ble_eq_true rfl, by rw [hRl]; exact Nat.le_of_ble_eq_true rfl⟩) hC.ob rfl bl_1 bl_2 rfl (Nat.le_of_ble_eq_true rfl) d_Mf_add_9) (fun _ h => h) hQ
  · skip
    refine gs (pc' := 1) (fun _ _ _ _ _ hl => lv_aload_n hx hb d_Mf_add_0 rfl (lv_at hl 0 rfl)) ?_
    refine gs (pc' := 2) (fun _ _ _ _ _ hl => lv_iload_n hx hb d_Mf_add_1 rfl (lv_at hl 1 rfl)) ?_
    exact g_up hlocks hne bl_1 bl_2 (g_thrV (As := [.int (iI x)]) (rest := []) ⟨hx, hb, hml, hown, hts⟩ hK hZ hRc hRs (t_Mf_valueOf l D cA lo MC MS G B X a S F V hC hW x hx1 hx2 (nvi hx1 hx2 hv1) hY1 hY2 hfl) (fun _ _ => cwV 1 hts (tb_good (tb_cons wm539 (tb_cons wm541 (tb_cons ws11 (tb_cons wm1 k_Mf_valueOf))))) rfl rfl rfl (by decide +kernel) ⟨by rw [hRf]; exact Nat.le_of_ble_eq_true rfl, by rw [hRl]; exact Nat.le_of_ble_eq_true rfl⟩) hC.ob rfl bl_1 bl_2 rfl (Nat.le_of_ble_eq_true rfl) d_Mf_add_2) (fun _ h => h) hQ
set_option maxHeartbeats 4000000 in
set_option maxRecDepth 100000 in
theorem c_Mf_times (l : Launch) (D : va_G) (cA : Nat → ClassId) (lo MC MS : Nat) (G : gT) (B : Nat × Nat) (X : Nat × Nat) (a : AX) (S : St) (F : Nat → Option Rat) (V : Nat → Nat) (hC : CW cA X a S F V (G, B)) (hW : WF S) (x : Int) (hx1 : -2147483648 ≤ x) (hx2 : x < 2147483648) (y : Int) (hy1 : -2147483648 ≤ y) (hy2 : y < 2147483648) (hk : (sp_times S (iI x) (iI y)).1 = 0) (hY1 : X.1 + 6 ≤ MC) (hY2 : X.2 + 209 ≤ MS) : gMet l y_Mf_times w_Mf_times 7 190 D clS (gtys cA) lo MC MS [.ref a.x, .int (iI x), .int (iI y)] G B (gQi D clS lo (fun r u => r = iI (sp_times S (iI x) (iI y)).2.1 ∧ CW3 cA (X.1 + 6, X.2 + 209) a (sp_times S (iI x) (iI y)).2.2 u ∧ gfr (fun x => x < 70) G u.1)) := by
  refine g_meti (cc := prog_1_method_4_code) (nL := 6) (L := [(0, .ref a.x), (1, .int (iI x)), (2, .int (iI y))]) (by decide +kernel) rfl (Nat.le_of_ble_eq_true rfl) rfl ?_
  intro p e R s m args below meth c Q hF hRc hRs hRf hRl hret
  obtain ⟨hx, hb, hr, hml, hts0, hown, hlocks, hin, hK, hlo, hZ⟩ := hF
  have hts : ∀ w ∈ tbg, w.before args s = true := fun w h => hts0 w (List.mem_cons_of_mem _ h)
  have hX1 : X.1 ≤ MC := by omega
  have hX2 : X.2 ≤ MS := by omega
  have hn := hW.n
  have hrn := hW.rn
  have hwn := hW.wn
  have bl_1 : B.1 ≤ MC := Nat.le_trans (w2_le hC.w).1 hX1
  have bl_2 : B.2 ≤ MS := Nat.le_trans (w2_le hC.w).2 hX2
  have hv : vi S (iI x) ∧ vi S (iI y) := by
    by_cases z9 : vi S (iI x) ∧ vi S (iI y)
    · exact z9
    · rw [sp_times, if_pos z9] at hk; exact absurd hk (by decide)
  obtain ⟨i, hi_i, hxe_x, ei_i⟩ := ix_of hv.1.1 hv.1.2
  rw [hxe_x]
  obtain ⟨j, hi_j, hxe_y, ei_j⟩ := ix_of hv.2.1 hv.2.2
  rw [hxe_y]
  have hsp : sp_times S (iI x) (iI y) = if ¬ uok (S.un i + S.un j) then (0, -2, S) else if S.n = 200 then (0, -3, S) else kp S (S.v i * S.v j) (S.un i + S.un j) := by
    rw [sp_times, if_neg (fun z9 => z9 hv), ei_i, ei_j]
  refine gs (pc' := 1) (fun _ _ _ _ _ hl => lv_aload_n hx hb d_Mf_times_0 rfl (lv_at hl 0 rfl)) ?_
  refine gs (pc' := 2) (fun _ _ _ _ _ hl => lv_iload_n hx hb d_Mf_times_1 rfl (lv_at hl 1 rfl)) ?_
  refine g_outr hlo (g_runV (As := [.int (nI i)]) (rest := []) ⟨hx, hb, hml, hown, hts⟩ hK hZ hRc hRs (c_Mf_valueOf l D cA lo MC MS G B X a S F V hC hW i (by omega) hX1 hX2) (fun _ _ => cwV 1 hts (tb_good (tb_cons wm539 (tb_cons wm541 (tb_cons ws11 (tb_cons wm1 k_Mf_valueOf))))) rfl rfl rfl (by decide +kernel) ⟨by rw [hRf]; exact Nat.le_of_ble_eq_true rfl, by rw [hRl]; exact Nat.le_of_ble_eq_true rfl⟩) hC.ob rfl bl_1 bl_2 rfl (Nat.le_of_ble_eq_true rfl) d_Mf_times_2) (fun r_6 G_3 B_4 p_5 => ?_)
  obtain ⟨u_7, iv_8⟩ := p_5
  cases u_7
  have rb_9 : rb (S.v i) 100 := rb_of (hW.v _ (by omega)).1
  have ub_10 := (hW.v i (by omega)).2
  have ub_11 := ub_10.1
  have ub_12 := ub_10.2
  refine gst (pc' := 6) (L' := [(3, .ref r_6), (0, .ref a.x), (1, .int (nI i)), (2, .int (nI j))]) (fun _ _ _ _ _ hl => lv_astore_n hx hb d_Mf_times_5 rfl hl (by decide) rfl) ?_
  refine gs (pc' := 7) (fun _ _ _ _ _ hl => lv_aload_n hx hb d_Mf_times_6 rfl (lv_at hl 1 rfl)) ?_
  refine gs (pc' := 8) (fun _ _ _ _ _ hl => lv_iload_n hx hb d_Mf_times_7 rfl (lv_at hl 3 rfl)) ?_
  refine g_outr hlo (g_runV (As := [.int (nI j)]) (rest := []) ⟨hx, hb, hml, hown, hts⟩ hK hZ hRc hRs (c_Mf_valueOf l D cA lo MC MS G B X a S F V hC hW j (by omega) hX1 hX2) (fun _ _ => cwV 1 hts (tb_good (tb_cons wm539 (tb_cons wm541 (tb_cons ws11 (tb_cons wm1 k_Mf_valueOf))))) rfl rfl rfl (by decide +kernel) ⟨by rw [hRf]; exact Nat.le_of_ble_eq_true rfl, by rw [hRl]; exact Nat.le_of_ble_eq_true rfl⟩) hC.ob rfl bl_1 bl_2 rfl (Nat.le_of_ble_eq_true rfl) d_Mf_times_8) (fun r_16 G_13 B_14 p_15 => ?_)
  obtain ⟨u_17, iv_18⟩ := p_15
  cases u_17
  have rb_19 : rb (S.v j) 100 := rb_of (hW.v _ (by omega)).1
  have ub_20 := (hW.v j (by omega)).2
  have ub_21 := ub_20.1
  have ub_22 := ub_20.2
  refine gst (pc' := 13) (L' := [(4, .ref r_16), (3, .ref r_6), (0, .ref a.x), (1, .int (nI i)), (2, .int (nI j))]) (fun _ _ _ _ _ hl => lv_astore hx hb d_Mf_times_11 hl (by decide) rfl) ?_
  refine gs (pc' := 14) (fun _ _ _ _ _ hl => lv_aload_n hx hb d_Mf_times_13 rfl (lv_at hl 1 rfl)) ?_
  obtain ⟨hf_23, f_24, kq_25⟩ := id iv_8
  refine g_get hx hb hts hin_Va hown hK f_24 rfl 1 (by decide) (hts _ wm525) (fun _ h9 => h9) rfl d_Mf_times_14 ?_
  refine gs (pc' := 19) (fun _ _ _ _ _ hl => lv_aload hx hb d_Mf_times_17 (lv_at hl 0 rfl)) ?_
  obtain ⟨hf_26, f_27, kq_28⟩ := id iv_18
  refine g_get hx hb hts hin_Va hown hK f_27 rfl 1 (by decide) (hts _ wm525) (fun _ h9 => h9) rfl d_Mf_times_19 ?_
  refine gs (pc' := 23) (fun _ _ _ _ _ hl => lv_iadd hx hb d_Mf_times_22) ?_
  refine g_eqi (show (iI (S.un i)) + (iI (S.un j)) = iI ((S.un i) + (S.un j)) from by exact iI_add _ _) ?_
  refine gst (pc' := 25) (L' := [(5, .int (iI ((S.un i) + (S.un j)))), (4, .ref r_16), (3, .ref r_6), (0, .ref a.x), (1, .int (nI i)), (2, .int (nI j))]) (fun _ _ _ _ _ hl => lv_istore hx hb d_Mf_times_23 hl (by decide) rfl) ?_
  refine gs (pc' := 27) (fun _ _ _ _ _ hl => lv_iload hx hb d_Mf_times_25 (lv_at hl 0 rfl)) ?_
  refine g_outi hlo (g_runS (As := [.int (iI ((S.un i) + (S.un j)))]) (rest := []) ⟨hx, hb, hml, hown, hts⟩ hK hZ hRc hRs (c_Mf_isUnit l D cA lo MC MS G B ((S.un i) + (S.un j)) (by omega) (by omega) bl_1 bl_2) (fun _ _ => va_cwS 1 hts (tb_good (tb_cons wm367 (tb_cons wm368 (tb_cons wm1 k_Mf_isUnit)))) rfl rfl rfl (by decide +kernel) ⟨by rw [hRf]; exact Nat.le_of_ble_eq_true rfl, by rw [hRl]; exact Nat.le_of_ble_eq_true rfl⟩) bl_1 bl_2 rfl (Nat.le_of_ble_eq_true rfl) d_Mf_times_27) (fun r_32 G_29 B_30 p_31 => ?_)
  obtain ⟨u_33, e_34⟩ := p_31
  cases u_33
  subst e_34
  have bd_35 := b01_le (decide (uok ((S.un i) + (S.un j))))
  refine gsb (pc1 := 36) (pc2 := 33) (fun _ _ _ _ _ => lv_if_ne (tgt := 36) hx hb d_Mf_times_30 (by decide)) (fun c_36 => ?_) (fun c_36 => ?_)
  · skip
    have nc_36 : (b01 (decide (uok ((S.un i) + (S.un j))))) ≠ 0 := (n0_ne (a := (b01 (decide (uok ((S.un i) + (S.un j)))))) (by omega)).1 c_36
    have hu : ¬ ¬ uok (S.un i + S.un j) := fun z9 => z9 (b01_1 nc_36)
    refine gs (pc' := 37) (fun _ _ _ _ _ hl => lv_aload_n hx hb d_Mf_times_36 rfl (lv_at hl 3 rfl)) ?_
    refine g_outi hlo (g_runV (As := []) (rest := []) ⟨hx, hb, hml, hown, hts⟩ hK hZ hRc hRs (c_Mf_isFull l D cA lo MC MS G B X a S F V hC hW hX1 hX2) (fun _ _ => cwV 0 hts (tb_good (tb_cons wm386 (tb_cons wm388 (tb_cons ws1 (tb_cons wm1 k_Mf_isFull))))) rfl rfl rfl (by decide +kernel) ⟨by rw [hRf]; exact Nat.le_of_ble_eq_true rfl, by rw [hRl]; exact Nat.le_of_ble_eq_true rfl⟩) hC.ob rfl bl_1 bl_2 rfl (Nat.le_of_ble_eq_true rfl) d_Mf_times_37) (fun r_40 G_37 B_38 p_39 => ?_)
    obtain ⟨u_41, e_42⟩ := p_39
    cases u_41
    subst e_42
    have bd_43 := b01_le (decide (S.n = 200))
    refine gsb (pc1 := 46) (pc2 := 43) (fun _ _ _ _ _ => lv_if_eq (tgt := 46) hx hb d_Mf_times_40 (by decide)) (fun c_44 => ?_) (fun c_44 => ?_)
    · skip
      have nc_44 : (b01 (decide (S.n = 200))) = 0 := (n0_eq (a := (b01 (decide (S.n = 200)))) (by omega)).1 c_44
      have hnf := b01_0 nc_44
      refine gs (pc' := 47) (fun _ _ _ _ _ hl => lv_aload_n hx hb d_Mf_times_46 rfl (lv_at hl 3 rfl)) ?_
      refine g_get hx hb hts hin_Mf hown hK hC.ob rfl 5 (by decide) (hts _ wm240) (fun _ h9 => h9) rfl d_Mf_times_47 ?_
      refine gs (pc' := 51) (fun _ _ _ _ _ hl => lv_aload_n hx hb d_Mf_times_50 rfl (lv_at hl 3 rfl)) ?_
      refine g_get hx hb hts hin_Mf hown hK hC.ob rfl 6 (by decide) (hts _ wm241) (fun _ h9 => h9) rfl d_Mf_times_51 ?_
      refine gs (pc' := 55) (fun _ _ _ _ _ hl => lv_aload_n hx hb d_Mf_times_54 rfl (lv_at hl 2 rfl)) ?_
      refine g_get hx hb hts hin_Va hown hK f_24 rfl 0 (by decide) (hts _ wm523) (fun _ h9 => h9) rfl d_Mf_times_55 ?_
      refine gs (pc' := 60) (fun _ _ _ _ _ hl => lv_aload hx hb d_Mf_times_58 (lv_at hl 1 rfl)) ?_
      refine g_get hx hb hts hin_Va hown hK f_27 rfl 0 (by decide) (hts _ wm523) (fun _ h9 => h9) rfl d_Mf_times_60 ?_
      refine gs (pc' := 64) (fun _ _ _ _ _ hl => lv_iconst (v := nI 0) hx hb d_Mf_times_63 (by decide)) ?_
      refine g_outv hlo (g_runV (As := [.ref (a.fr 0), .ref hf_23, .ref hf_26, .int (nI 0)]) (rest := []) ⟨hx, hb, hml, hown, hts⟩ hK hZ hRc hRs (c3_mul l D cA lo MC MS G B X a S F V hC hX1 hX2 0 (by decide) hf_23 hf_26 (S.v i) (S.v j) (Or.inr kq_25) (Or.inr kq_28) 100 100 rb_9 rb_19 (by decide)) (fun _ _ => cwV 4 hts (tb_good (tb_cons wm588 (tb_cons wm589 (tb_cons wm590 (tb_cons wm3 k_Ca_setProduct))))) rfl rfl rfl (by decide +kernel) ⟨by rw [hRf]; exact Nat.le_of_ble_eq_true rfl, by rw [hRl]; exact Nat.le_of_ble_eq_true rfl⟩) hC.ca rfl bl_1 bl_2 rfl (Nat.le_of_ble_eq_true rfl) d_Mf_times_64) (fun G_45 B_46 p_47 => ?_)
      obtain ⟨V_48, C_49, fr_50⟩ := p_47
      have iv_51 : isV cA G_45 r_6 (S.v i) (S.un i) := isV_24 iv_8 fr_50
      have iv_52 : isV cA G_45 r_16 (S.v j) (S.un j) := isV_24 iv_18 fr_50
      have kq_53 : kq cA G_45 hf_23 (S.v i) := kq_24 kq_25 fr_50
      have kq_54 : kq cA G_45 hf_26 (S.v j) := kq_24 kq_28 fr_50
      have fr_55 : gfr (fun x => x < 24) G G_45 := gfr_24 gfr_rf fr_50
      have f_56 : G_45 r_6 = some (30, .inr (6, [.ref hf_23, .int (iI (S.un i))])) := fr_50 _ _ f_24 (show ¬ (30 : Nat) < 24 by decide)
      have f_57 : G_45 r_16 = some (30, .inr (6, [.ref hf_26, .int (iI (S.un j))])) := fr_50 _ _ f_27 (show ¬ (30 : Nat) < 24 by decide)
      have rb_58 : rb ((S.v i) * (S.v j)) 200 := rb_mul rb_9 rb_19
      have bl_59 : B_46.1 ≤ MC := Nat.le_trans (w2_le C_49.w).1 hX1
      have bl_60 : B_46.2 ≤ MS := Nat.le_trans (w2_le C_49.w).2 hX2
      refine gs (pc' := 68) (fun _ _ _ _ _ hl => lv_aload_n hx hb d_Mf_times_67 rfl (lv_at hl 3 rfl)) ?_
      refine gs (pc' := 69) (fun _ _ _ _ _ hl => lv_aload_n hx hb d_Mf_times_68 rfl (lv_at hl 3 rfl)) ?_
      refine g_get hx hb hts hin_Mf hown hK C_49.ob rfl 6 (by decide) (hts _ wm241) (fun _ h9 => h9) rfl d_Mf_times_69 ?_
      refine gs (pc' := 74) (fun _ _ _ _ _ hl => lv_iload hx hb d_Mf_times_72 (lv_at hl 0 rfl)) ?_
      refine g_outi hlo (g_runV (As := [.ref (a.fr 0), .int (iI ((S.un i) + (S.un j)))]) (rest := []) ⟨hx, hb, hml, hown, hts⟩ hK hZ hRc hRs (c_Mf_keep0 l D cA lo MC MS G_45 B_46 X a S (fup F 0 (some ((S.v i) * (S.v j)))) V_48 C_49 hW ((S.v i) * (S.v j)) rfl 200 rb_58 (by decide) ((S.un i) + (S.un j)) hnf hY1 hY2) (fun _ _ => cwV 2 hts (tb_good (tb_cons wm495 (tb_cons wm497 (tb_cons ws10 (tb_cons wm1 k_Mf_keep))))) rfl rfl rfl (by decide +kernel) ⟨by rw [hRf]; exact Nat.le_of_ble_eq_true rfl, by rw [hRl]; exact Nat.le_of_ble_eq_true rfl⟩) C_49.ob rfl bl_59 bl_60 rfl (Nat.le_of_ble_eq_true rfl) d_Mf_times_74) (fun r_64 G_61 B_62 p_63 => ?_)
      obtain ⟨e_65, C_66, fr_67⟩ := p_63
      subst e_65
      have fr_68 : gfr (fun x => x < 70) G G_61 := gfr_mono (gfr_tr fr_55 fr_67) (fun x h9 => by rcases h9 with h9 | h9 <;> omega)
      have bl_69 := CW3_le C_66
      have hs2 : sp_times S (iI x) (iI y) = kp S ((S.v i) * (S.v j)) ((S.un i) + (S.un j)) := by rw [hsp, if_neg hu, if_neg hnf]
      exact hret 77 _ _ _ _ d_Mf_times_77 (Nat.le_trans bl_69.1 hY1) (Nat.le_trans bl_69.2 hY2) ⟨by rw [hs2], by rw [hs2]; exact C_66, fr_68⟩
    · skip
      have nc_44 : (b01 (decide (S.n = 200))) ≠ 0 := (n0_eq (a := (b01 (decide (S.n = 200)))) (by omega)).2 c_44
      have hnf := b01_1 nc_44
      refine gs (pc' := 45) (fun _ _ _ _ _ hl => lv_bipush (v := (-3)) hx hb d_Mf_times_43 (by decide)) ?_
      refine g_eqi (show (-3) = iI (-3) from by decide) ?_
      have hs2 : sp_times S (iI x) (iI y) = (0, -3, S) := by rw [hsp, if_neg hu, if_pos hnf]
      exact hret 45 _ _ _ _ d_Mf_times_45 bl_1 bl_2 ⟨by rw [hs2], by rw [hs2]; exact hC.up (X1 := (X.1 + 6, X.2 + 209)) (show X.1 ≤ X.1 + 6 by omega) (show X.2 ≤ X.2 + 209 by omega), (gfr_mono (M := fun x => x < 24) gfr_rf (fun x h9 => by omega))⟩
  · skip
    have nc_36 : (b01 (decide (uok ((S.un i) + (S.un j))))) = 0 := (n0_ne (a := (b01 (decide (uok ((S.un i) + (S.un j)))))) (by omega)).2 c_36
    have hu := b01_0 nc_36
    refine gs (pc' := 35) (fun _ _ _ _ _ hl => lv_bipush (v := (-2)) hx hb d_Mf_times_33 (by decide)) ?_
    refine g_eqi (show (-2) = iI (-2) from by decide) ?_
    have hs2 : sp_times S (iI x) (iI y) = (0, -2, S) := by rw [hsp, if_pos hu]
    exact hret 35 _ _ _ _ d_Mf_times_35 bl_1 bl_2 ⟨by rw [hs2], by rw [hs2]; exact hC.up (X1 := (X.1 + 6, X.2 + 209)) (show X.1 ≤ X.1 + 6 by omega) (show X.2 ≤ X.2 + 209 by omega), (gfr_mono (M := fun x => x < 24) gfr_rf (fun x h9 => by omega))⟩
set_option maxHeartbeats 4000000 in
set_option maxRecDepth 100000 in
theorem t_Mf_times1 (l : Launch) (D : va_G) (cA : Nat → ClassId) (lo MC MS : Nat) (G : gT) (B : Nat × Nat) (X : Nat × Nat) (a : AX) (S : St) (F : Nat → Option Rat) (V : Nat → Nat) (hC : CW cA X a S F V (G, B)) (hW : WF S) (x : Int) (hx1 : -2147483648 ≤ x) (hx2 : x < 2147483648) (y : Int) (hy1 : -2147483648 ≤ y) (hy2 : y < 2147483648) (hk : (sp_times S (iI x) (iI y)).1 = 1) (hY1 : X.1 + 1 ≤ MC) (hY2 : X.2 + 6 ≤ MS) (hfl : ∀ e : Env, l.admits e → e.platform.stackTraces = false) : gMetT l y_Mf_times w_Mf_times 7 111 D clS (gtys cA) lo MC MS [.ref a.x, .int (iI x), .int (iI y)] G B (gQx D clS lo "java/lang/IndexOutOfBoundsException" (fun u => u = (G, B.1 + 1, B.2 + 6))) := by
  refine g_mett (cc := prog_1_method_4_code) (nL := 6) (ret := (Option.some .int)) (L := [(0, .ref a.x), (1, .int (iI x)), (2, .int (iI y))]) (by decide +kernel) rfl (Nat.le_of_ble_eq_true rfl) rfl ?_
  intro p e R s m args below meth c Q hF hRc hRs hRf hRl hne hQ
  obtain ⟨hx, hb, hr, hml, hts0, hown, hlocks, hin, hK, hlo, hZ⟩ := hF
  have hts : ∀ w ∈ tbg, w.before args s = true := fun w h => hts0 w (List.mem_cons_of_mem _ h)
  have hX1 : X.1 ≤ MC := by omega
  have hX2 : X.2 ≤ MS := by omega
  have hn := hW.n
  have hrn := hW.rn
  have hwn := hW.wn
  have bl_1 : B.1 ≤ MC := Nat.le_trans (w2_le hC.w).1 hX1
  have bl_2 : B.2 ≤ MS := Nat.le_trans (w2_le hC.w).2 hX2
  have hv : ¬ (vi S (iI x) ∧ vi S (iI y)) := fun z9 => by
    rw [sp_times, if_neg (fun z8 => z8 z9)] at hk
    split at hk
    · exact absurd hk (by decide)
    split at hk
    · exact absurd hk (by decide)
    · rw [kp_0] at hk; exact absurd hk (by decide)
  by_cases hv1 : vi S (iI x)
  · skip
    have hv2 : ¬ vi S (iI y) := fun z9 => hv ⟨hv1, z9⟩
    obtain ⟨i, hi_i, hxe_x, ei_i⟩ := ix_of hv1.1 hv1.2
    rw [hxe_x]
    refine gs (pc' := 1) (fun _ _ _ _ _ hl => lv_aload_n hx hb d_Mf_times_0 rfl (lv_at hl 0 rfl)) ?_
    refine gs (pc' := 2) (fun _ _ _ _ _ hl => lv_iload_n hx hb d_Mf_times_1 rfl (lv_at hl 1 rfl)) ?_
    refine g_outr hlo (g_runV (As := [.int (nI i)]) (rest := []) ⟨hx, hb, hml, hown, hts⟩ hK hZ hRc hRs (c_Mf_valueOf l D cA lo MC MS G B X a S F V hC hW i (by omega) hX1 hX2) (fun _ _ => cwV 1 hts (tb_good (tb_cons wm539 (tb_cons wm541 (tb_cons ws11 (tb_cons wm1 k_Mf_valueOf))))) rfl rfl rfl (by decide +kernel) ⟨by rw [hRf]; exact Nat.le_of_ble_eq_true rfl, by rw [hRl]; exact Nat.le_of_ble_eq_true rfl⟩) hC.ob rfl bl_1 bl_2 rfl (Nat.le_of_ble_eq_true rfl) d_Mf_times_2) (fun r_6 G_3 B_4 p_5 => ?_)
    obtain ⟨u_7, iv_8⟩ := p_5
    cases u_7
    have rb_9 : rb (S.v i) 100 := rb_of (hW.v _ (by omega)).1
    have ub_10 := (hW.v i (by omega)).2
    have ub_11 := ub_10.1
    have ub_12 := ub_10.2
    refine gst (pc' := 6) (L' := [(3, .ref r_6), (0, .ref a.x), (1, .int (nI i)), (2, .int (iI y))]) (fun _ _ _ _ _ hl => lv_astore_n hx hb d_Mf_times_5 rfl hl (by decide) rfl) ?_
    refine gs (pc' := 7) (fun _ _ _ _ _ hl => lv_aload_n hx hb d_Mf_times_6 rfl (lv_at hl 1 rfl)) ?_
    refine gs (pc' := 8) (fun _ _ _ _ _ hl => lv_iload_n hx hb d_Mf_times_7 rfl (lv_at hl 3 rfl)) ?_
    exact g_up hlocks hne bl_1 bl_2 (g_thrV (As := [.int (iI y)]) (rest := []) ⟨hx, hb, hml, hown, hts⟩ hK hZ hRc hRs (t_Mf_valueOf l D cA lo MC MS G B X a S F V hC hW y hy1 hy2 (nvi hy1 hy2 hv2) hY1 hY2 hfl) (fun _ _ => cwV 1 hts (tb_good (tb_cons wm539 (tb_cons wm541 (tb_cons ws11 (tb_cons wm1 k_Mf_valueOf))))) rfl rfl rfl (by decide +kernel) ⟨by rw [hRf]; exact Nat.le_of_ble_eq_true rfl, by rw [hRl]; exact Nat.le_of_ble_eq_true rfl⟩) hC.ob rfl bl_1 bl_2 rfl (Nat.le_of_ble_eq_true rfl) d_Mf_times_8) (fun _ h => h) hQ
  · skip
    refine gs (pc' := 1) (fun _ _ _ _ _ hl => lv_aload_n hx hb d_Mf_times_0 rfl (lv_at hl 0 rfl)) ?_
    refine gs (pc' := 2) (fun _ _ _ _ _ hl => lv_iload_n hx hb d_Mf_times_1 rfl (lv_at hl 1 rfl)) ?_
    exact g_up hlocks hne bl_1 bl_2 (g_thrV (As := [.int (iI x)]) (rest := []) ⟨hx, hb, hml, hown, hts⟩ hK hZ hRc hRs (t_Mf_valueOf l D cA lo MC MS G B X a S F V hC hW x hx1 hx2 (nvi hx1 hx2 hv1) hY1 hY2 hfl) (fun _ _ => cwV 1 hts (tb_good (tb_cons wm539 (tb_cons wm541 (tb_cons ws11 (tb_cons wm1 k_Mf_valueOf))))) rfl rfl rfl (by decide +kernel) ⟨by rw [hRf]; exact Nat.le_of_ble_eq_true rfl, by rw [hRl]; exact Nat.le_of_ble_eq_true rfl⟩) hC.ob rfl bl_1 bl_2 rfl (Nat.le_of_ble_eq_true rfl) d_Mf_times_2) (fun _ h => h) hQ
set_option maxHeartbeats 4000000 in
set_option maxRecDepth 100000 in
theorem c_Mf_over (l : Launch) (D : va_G) (cA : Nat → ClassId) (lo MC MS : Nat) (G : gT) (B : Nat × Nat) (X : Nat × Nat) (a : AX) (S : St) (F : Nat → Option Rat) (V : Nat → Nat) (hC : CW cA X a S F V (G, B)) (hW : WF S) (x : Int) (hx1 : -2147483648 ≤ x) (hx2 : x < 2147483648) (y : Int) (hy1 : -2147483648 ≤ y) (hy2 : y < 2147483648) (hk : (sp_over S (iI x) (iI y)).1 = 0) (hY1 : X.1 + 6 ≤ MC) (hY2 : X.2 + 209 ≤ MS) : gMet l y_Mf_over w_Mf_over 7 190 D clS (gtys cA) lo MC MS [.ref a.x, .int (iI x), .int (iI y)] G B (gQi D clS lo (fun r u => r = iI (sp_over S (iI x) (iI y)).2.1 ∧ CW3 cA (X.1 + 6, X.2 + 209) a (sp_over S (iI x) (iI y)).2.2 u ∧ gfr (fun x => x < 70) G u.1)) := by
  refine g_meti (cc := prog_1_method_5_code) (nL := 6) (L := [(0, .ref a.x), (1, .int (iI x)), (2, .int (iI y))]) (by decide +kernel) rfl (Nat.le_of_ble_eq_true rfl) rfl ?_
  intro p e R s m args below meth c Q hF hRc hRs hRf hRl hret
  obtain ⟨hx, hb, hr, hml, hts0, hown, hlocks, hin, hK, hlo, hZ⟩ := hF
  have hts : ∀ w ∈ tbg, w.before args s = true := fun w h => hts0 w (List.mem_cons_of_mem _ h)
  have hX1 : X.1 ≤ MC := by omega
  have hX2 : X.2 ≤ MS := by omega
  have hn := hW.n
  have hrn := hW.rn
  have hwn := hW.wn
  have bl_1 : B.1 ≤ MC := Nat.le_trans (w2_le hC.w).1 hX1
  have bl_2 : B.2 ≤ MS := Nat.le_trans (w2_le hC.w).2 hX2
  have hv : vi S (iI x) ∧ vi S (iI y) := by
    by_cases z9 : vi S (iI x) ∧ vi S (iI y)
    · exact z9
    · rw [sp_over, if_pos z9] at hk; exact absurd hk (by decide)
  obtain ⟨i, hi_i, hxe_x, ei_i⟩ := ix_of hv.1.1 hv.1.2
  rw [hxe_x]
  obtain ⟨j, hi_j, hxe_y, ei_j⟩ := ix_of hv.2.1 hv.2.2
  rw [hxe_y]
  have hvz : S.v j ≠ 0 := fun z9 => by rw [sp_over, if_neg (fun z8 => z8 hv), ei_j, if_pos z9] at hk; exact absurd hk (by decide)
  have hnz : (S.v j).num ≠ 0 := fun z9 => hvz (Rat.num_eq_zero.mp z9)
  have hsp : sp_over S (iI x) (iI y) = if ¬ uok (S.un i - S.un j) then (0, -2, S) else if S.n = 200 then (0, -3, S) else kp S (S.v i / S.v j) (S.un i - S.un j) := by
    rw [sp_over, if_neg (fun z9 => z9 hv), ei_i, ei_j, if_neg hvz]
  refine gs (pc' := 1) (fun _ _ _ _ _ hl => lv_aload_n hx hb d_Mf_over_0 rfl (lv_at hl 0 rfl)) ?_
  refine gs (pc' := 2) (fun _ _ _ _ _ hl => lv_iload_n hx hb d_Mf_over_1 rfl (lv_at hl 1 rfl)) ?_
  refine g_outr hlo (g_runV (As := [.int (nI i)]) (rest := []) ⟨hx, hb, hml, hown, hts⟩ hK hZ hRc hRs (c_Mf_valueOf l D cA lo MC MS G B X a S F V hC hW i (by omega) hX1 hX2) (fun _ _ => cwV 1 hts (tb_good (tb_cons wm539 (tb_cons wm541 (tb_cons ws11 (tb_cons wm1 k_Mf_valueOf))))) rfl rfl rfl (by decide +kernel) ⟨by rw [hRf]; exact Nat.le_of_ble_eq_true rfl, by rw [hRl]; exact Nat.le_of_ble_eq_true rfl⟩) hC.ob rfl bl_1 bl_2 rfl (Nat.le_of_ble_eq_true rfl) d_Mf_over_2) (fun r_6 G_3 B_4 p_5 => ?_)
  obtain ⟨u_7, iv_8⟩ := p_5
  cases u_7
  have rb_9 : rb (S.v i) 100 := rb_of (hW.v _ (by omega)).1
  have ub_10 := (hW.v i (by omega)).2
  have ub_11 := ub_10.1
  have ub_12 := ub_10.2
  refine gst (pc' := 6) (L' := [(3, .ref r_6), (0, .ref a.x), (1, .int (nI i)), (2, .int (nI j))]) (fun _ _ _ _ _ hl => lv_astore_n hx hb d_Mf_over_5 rfl hl (by decide) rfl) ?_
  refine gs (pc' := 7) (fun _ _ _ _ _ hl => lv_aload_n hx hb d_Mf_over_6 rfl (lv_at hl 1 rfl)) ?_
  refine gs (pc' := 8) (fun _ _ _ _ _ hl => lv_iload_n hx hb d_Mf_over_7 rfl (lv_at hl 3 rfl)) ?_
  refine g_outr hlo (g_runV (As := [.int (nI j)]) (rest := []) ⟨hx, hb, hml, hown, hts⟩ hK hZ hRc hRs (c_Mf_valueOf l D cA lo MC MS G B X a S F V hC hW j (by omega) hX1 hX2) (fun _ _ => cwV 1 hts (tb_good (tb_cons wm539 (tb_cons wm541 (tb_cons ws11 (tb_cons wm1 k_Mf_valueOf))))) rfl rfl rfl (by decide +kernel) ⟨by rw [hRf]; exact Nat.le_of_ble_eq_true rfl, by rw [hRl]; exact Nat.le_of_ble_eq_true rfl⟩) hC.ob rfl bl_1 bl_2 rfl (Nat.le_of_ble_eq_true rfl) d_Mf_over_8) (fun r_16 G_13 B_14 p_15 => ?_)
  obtain ⟨u_17, iv_18⟩ := p_15
  cases u_17
  have rb_19 : rb (S.v j) 100 := rb_of (hW.v _ (by omega)).1
  have ub_20 := (hW.v j (by omega)).2
  have ub_21 := ub_20.1
  have ub_22 := ub_20.2
  refine gst (pc' := 13) (L' := [(4, .ref r_16), (3, .ref r_6), (0, .ref a.x), (1, .int (nI i)), (2, .int (nI j))]) (fun _ _ _ _ _ hl => lv_astore hx hb d_Mf_over_11 hl (by decide) rfl) ?_
  refine gs (pc' := 15) (fun _ _ _ _ _ hl => lv_aload hx hb d_Mf_over_13 (lv_at hl 0 rfl)) ?_
  obtain ⟨hf_23, f_24, kq_25⟩ := id iv_18
  refine g_get hx hb hts hin_Va hown hK f_24 rfl 0 (by decide) (hts _ wm523) (fun _ h9 => h9) rfl d_Mf_over_15 ?_
  obtain ⟨t_26, ha_27, hb_28, e_29, f_30, rd_31, rd_32⟩ := id kq_25
  refine g_get hx hb hts hin_Fr hown hK f_30 rfl 0 (by decide) (hts _ wm165) (fun _ h9 => h9) rfl d_Mf_over_18 ?_
  refine gsb (pc1 := 34) (pc2 := 24) (fun _ _ _ _ _ => lv_if_ne (tgt := 34) hx hb d_Mf_over_21 (by decide)) (fun c_33 => ?_) (fun c_33 => ?_)
  · skip
    refine gs (pc' := 35) (fun _ _ _ _ _ hl => lv_aload_n hx hb d_Mf_over_34 rfl (lv_at hl 1 rfl)) ?_
    obtain ⟨hf_34, f_35, kq_36⟩ := id iv_8
    refine g_get hx hb hts hin_Va hown hK f_35 rfl 1 (by decide) (hts _ wm525) (fun _ h9 => h9) rfl d_Mf_over_35 ?_
    refine gs (pc' := 40) (fun _ _ _ _ _ hl => lv_aload hx hb d_Mf_over_38 (lv_at hl 0 rfl)) ?_
    refine g_get hx hb hts hin_Va hown hK f_24 rfl 1 (by decide) (hts _ wm525) (fun _ h9 => h9) rfl d_Mf_over_40 ?_
    refine gs (pc' := 44) (fun _ _ _ _ _ hl => lv_isub hx hb d_Mf_over_43) ?_
    refine g_eqi (show (iI (S.un i)) - (iI (S.un j)) = iI ((S.un i) - (S.un j)) from by exact iI_sub _ _) ?_
    refine gst (pc' := 46) (L' := [(5, .int (iI ((S.un i) - (S.un j)))), (4, .ref r_16), (3, .ref r_6), (0, .ref a.x), (1, .int (nI i)), (2, .int (nI j))]) (fun _ _ _ _ _ hl => lv_istore hx hb d_Mf_over_44 hl (by decide) rfl) ?_
    refine gs (pc' := 48) (fun _ _ _ _ _ hl => lv_iload hx hb d_Mf_over_46 (lv_at hl 0 rfl)) ?_
    refine g_outi hlo (g_runS (As := [.int (iI ((S.un i) - (S.un j)))]) (rest := []) ⟨hx, hb, hml, hown, hts⟩ hK hZ hRc hRs (c_Mf_isUnit l D cA lo MC MS G B ((S.un i) - (S.un j)) (by omega) (by omega) bl_1 bl_2) (fun _ _ => va_cwS 1 hts (tb_good (tb_cons wm367 (tb_cons wm368 (tb_cons wm1 k_Mf_isUnit)))) rfl rfl rfl (by decide +kernel) ⟨by rw [hRf]; exact Nat.le_of_ble_eq_true rfl, by rw [hRl]; exact Nat.le_of_ble_eq_true rfl⟩) bl_1 bl_2 rfl (Nat.le_of_ble_eq_true rfl) d_Mf_over_48) (fun r_40 G_37 B_38 p_39 => ?_)
    obtain ⟨u_41, e_42⟩ := p_39
    cases u_41
    subst e_42
    have bd_43 := b01_le (decide (uok ((S.un i) - (S.un j))))
    refine gsb (pc1 := 57) (pc2 := 54) (fun _ _ _ _ _ => lv_if_ne (tgt := 57) hx hb d_Mf_over_51 (by decide)) (fun c_44 => ?_) (fun c_44 => ?_)
    · skip
      have nc_44 : (b01 (decide (uok ((S.un i) - (S.un j))))) ≠ 0 := (n0_ne (a := (b01 (decide (uok ((S.un i) - (S.un j)))))) (by omega)).1 c_44
      have hu : ¬ ¬ uok (S.un i - S.un j) := fun z9 => z9 (b01_1 nc_44)
      refine gs (pc' := 58) (fun _ _ _ _ _ hl => lv_aload_n hx hb d_Mf_over_57 rfl (lv_at hl 3 rfl)) ?_
      refine g_outi hlo (g_runV (As := []) (rest := []) ⟨hx, hb, hml, hown, hts⟩ hK hZ hRc hRs (c_Mf_isFull l D cA lo MC MS G B X a S F V hC hW hX1 hX2) (fun _ _ => cwV 0 hts (tb_good (tb_cons wm386 (tb_cons wm388 (tb_cons ws1 (tb_cons wm1 k_Mf_isFull))))) rfl rfl rfl (by decide +kernel) ⟨by rw [hRf]; exact Nat.le_of_ble_eq_true rfl, by rw [hRl]; exact Nat.le_of_ble_eq_true rfl⟩) hC.ob rfl bl_1 bl_2 rfl (Nat.le_of_ble_eq_true rfl) d_Mf_over_58) (fun r_48 G_45 B_46 p_47 => ?_)
      obtain ⟨u_49, e_50⟩ := p_47
      cases u_49
      subst e_50
      have bd_51 := b01_le (decide (S.n = 200))
      refine gsb (pc1 := 67) (pc2 := 64) (fun _ _ _ _ _ => lv_if_eq (tgt := 67) hx hb d_Mf_over_61 (by decide)) (fun c_52 => ?_) (fun c_52 => ?_)
      · skip
        have nc_52 : (b01 (decide (S.n = 200))) = 0 := (n0_eq (a := (b01 (decide (S.n = 200)))) (by omega)).1 c_52
        have hnf := b01_0 nc_52
        refine gs (pc' := 68) (fun _ _ _ _ _ hl => lv_aload_n hx hb d_Mf_over_67 rfl (lv_at hl 3 rfl)) ?_
        refine g_get hx hb hts hin_Mf hown hK hC.ob rfl 5 (by decide) (hts _ wm240) (fun _ h9 => h9) rfl d_Mf_over_68 ?_
        refine gs (pc' := 72) (fun _ _ _ _ _ hl => lv_aload_n hx hb d_Mf_over_71 rfl (lv_at hl 3 rfl)) ?_
        refine g_get hx hb hts hin_Mf hown hK hC.ob rfl 6 (by decide) (hts _ wm241) (fun _ h9 => h9) rfl d_Mf_over_72 ?_
        refine gs (pc' := 76) (fun _ _ _ _ _ hl => lv_aload_n hx hb d_Mf_over_75 rfl (lv_at hl 2 rfl)) ?_
        refine g_get hx hb hts hin_Va hown hK f_35 rfl 0 (by decide) (hts _ wm523) (fun _ h9 => h9) rfl d_Mf_over_76 ?_
        refine gs (pc' := 81) (fun _ _ _ _ _ hl => lv_aload hx hb d_Mf_over_79 (lv_at hl 1 rfl)) ?_
        refine g_get hx hb hts hin_Va hown hK f_24 rfl 0 (by decide) (hts _ wm523) (fun _ h9 => h9) rfl d_Mf_over_81 ?_
        refine gs (pc' := 85) (fun _ _ _ _ _ hl => lv_iconst (v := nI 1) hx hb d_Mf_over_84 (by decide)) ?_
        refine g_outv hlo (g_runV (As := [.ref (a.fr 0), .ref hf_34, .ref hf_23, .int (nI 1)]) (rest := []) ⟨hx, hb, hml, hown, hts⟩ hK hZ hRc hRs (c3_div l D cA lo MC MS G B X a S F V hC hX1 hX2 0 (by decide) hf_34 hf_23 (S.v i) (S.v j) (Or.inr kq_36) (Or.inr kq_25) 100 100 rb_9 rb_19 (by decide) hnz) (fun _ _ => cwV 4 hts (tb_good (tb_cons wm588 (tb_cons wm589 (tb_cons wm590 (tb_cons wm3 k_Ca_setProduct))))) rfl rfl rfl (by decide +kernel) ⟨by rw [hRf]; exact Nat.le_of_ble_eq_true rfl, by rw [hRl]; exact Nat.le_of_ble_eq_true rfl⟩) hC.ca rfl bl_1 bl_2 rfl (Nat.le_of_ble_eq_true rfl) d_Mf_over_85) (fun G_53 B_54 p_55 => ?_)
        obtain ⟨V_56, C_57, fr_58⟩ := p_55
        have iv_59 : isV cA G_53 r_6 (S.v i) (S.un i) := isV_24 iv_8 fr_58
        have iv_60 : isV cA G_53 r_16 (S.v j) (S.un j) := isV_24 iv_18 fr_58
        have kq_61 : kq cA G_53 hf_23 (S.v j) := kq_24 kq_25 fr_58
        have kq_62 : kq cA G_53 hf_34 (S.v i) := kq_24 kq_36 fr_58
        have fr_63 : gfr (fun x => x < 24) G G_53 := gfr_24 gfr_rf fr_58
        have f_64 : G_53 r_16 = some (30, .inr (6, [.ref hf_23, .int (iI (S.un j))])) := fr_58 _ _ f_24 (show ¬ (30 : Nat) < 24 by decide)
        have f_65 : G_53 r_6 = some (30, .inr (6, [.ref hf_34, .int (iI (S.un i))])) := fr_58 _ _ f_35 (show ¬ (30 : Nat) < 24 by decide)
        have rb_66 : rb ((S.v i) / (S.v j)) 200 := rb_div rb_9 rb_19 hnz
        have bl_67 : B_54.1 ≤ MC := Nat.le_trans (w2_le C_57.w).1 hX1
        have bl_68 : B_54.2 ≤ MS := Nat.le_trans (w2_le C_57.w).2 hX2
        refine gs (pc' := 89) (fun _ _ _ _ _ hl => lv_aload_n hx hb d_Mf_over_88 rfl (lv_at hl 3 rfl)) ?_
        refine gs (pc' := 90) (fun _ _ _ _ _ hl => lv_aload_n hx hb d_Mf_over_89 rfl (lv_at hl 3 rfl)) ?_
        refine g_get hx hb hts hin_Mf hown hK C_57.ob rfl 6 (by decide) (hts _ wm241) (fun _ h9 => h9) rfl d_Mf_over_90 ?_
        refine gs (pc' := 95) (fun _ _ _ _ _ hl => lv_iload hx hb d_Mf_over_93 (lv_at hl 0 rfl)) ?_
        refine g_outi hlo (g_runV (As := [.ref (a.fr 0), .int (iI ((S.un i) - (S.un j)))]) (rest := []) ⟨hx, hb, hml, hown, hts⟩ hK hZ hRc hRs (c_Mf_keep0 l D cA lo MC MS G_53 B_54 X a S (fup F 0 (some ((S.v i) / (S.v j)))) V_56 C_57 hW ((S.v i) / (S.v j)) rfl 200 rb_66 (by decide) ((S.un i) - (S.un j)) hnf hY1 hY2) (fun _ _ => cwV 2 hts (tb_good (tb_cons wm495 (tb_cons wm497 (tb_cons ws10 (tb_cons wm1 k_Mf_keep))))) rfl rfl rfl (by decide +kernel) ⟨by rw [hRf]; exact Nat.le_of_ble_eq_true rfl, by rw [hRl]; exact Nat.le_of_ble_eq_true rfl⟩) C_57.ob rfl bl_67 bl_68 rfl (Nat.le_of_ble_eq_true rfl) d_Mf_over_95) (fun r_72 G_69 B_70 p_71 => ?_)
        obtain ⟨e_73, C_74, fr_75⟩ := p_71
        subst e_73
        have fr_76 : gfr (fun x => x < 70) G G_69 := gfr_mono (gfr_tr fr_63 fr_75) (fun x h9 => by rcases h9 with h9 | h9 <;> omega)
        have bl_77 := CW3_le C_74
        have hs2 : sp_over S (iI x) (iI y) = kp S ((S.v i) / (S.v j)) ((S.un i) - (S.un j)) := by rw [hsp, if_neg hu, if_neg hnf]
        exact hret 98 _ _ _ _ d_Mf_over_98 (Nat.le_trans bl_77.1 hY1) (Nat.le_trans bl_77.2 hY2) ⟨by rw [hs2], by rw [hs2]; exact C_74, fr_76⟩
      · skip
        have nc_52 : (b01 (decide (S.n = 200))) ≠ 0 := (n0_eq (a := (b01 (decide (S.n = 200)))) (by omega)).2 c_52
        have hnf := b01_1 nc_52
        refine gs (pc' := 66) (fun _ _ _ _ _ hl => lv_bipush (v := (-3)) hx hb d_Mf_over_64 (by decide)) ?_
        refine g_eqi (show (-3) = iI (-3) from by decide) ?_
        have hs2 : sp_over S (iI x) (iI y) = (0, -3, S) := by rw [hsp, if_neg hu, if_pos hnf]
        exact hret 66 _ _ _ _ d_Mf_over_66 bl_1 bl_2 ⟨by rw [hs2], by rw [hs2]; exact hC.up (X1 := (X.1 + 6, X.2 + 209)) (show X.1 ≤ X.1 + 6 by omega) (show X.2 ≤ X.2 + 209 by omega), (gfr_mono (M := fun x => x < 24) gfr_rf (fun x h9 => by omega))⟩
    · skip
      have nc_44 : (b01 (decide (uok ((S.un i) - (S.un j))))) = 0 := (n0_ne (a := (b01 (decide (uok ((S.un i) - (S.un j)))))) (by omega)).2 c_44
      have hu := b01_0 nc_44
      refine gs (pc' := 56) (fun _ _ _ _ _ hl => lv_bipush (v := (-2)) hx hb d_Mf_over_54 (by decide)) ?_
      refine g_eqi (show (-2) = iI (-2) from by decide) ?_
      have hs2 : sp_over S (iI x) (iI y) = (0, -2, S) := by rw [hsp, if_pos hu]
      exact hret 56 _ _ _ _ d_Mf_over_56 bl_1 bl_2 ⟨by rw [hs2], by rw [hs2]; exact hC.up (X1 := (X.1 + 6, X.2 + 209)) (show X.1 ≤ X.1 + 6 by omega) (show X.2 ≤ X.2 + 209 by omega), (gfr_mono (M := fun x => x < 24) gfr_rf (fun x h9 => by omega))⟩
  · skip
    exact absurd (sgI_z c_33) hnz
set_option maxHeartbeats 4000000 in
set_option maxRecDepth 100000 in
theorem t_Mf_over1 (l : Launch) (D : va_G) (cA : Nat → ClassId) (lo MC MS : Nat) (G : gT) (B : Nat × Nat) (X : Nat × Nat) (a : AX) (S : St) (F : Nat → Option Rat) (V : Nat → Nat) (hC : CW cA X a S F V (G, B)) (hW : WF S) (x : Int) (hx1 : -2147483648 ≤ x) (hx2 : x < 2147483648) (y : Int) (hy1 : -2147483648 ≤ y) (hy2 : y < 2147483648) (hk : (sp_over S (iI x) (iI y)).1 = 1) (hY1 : X.1 + 1 ≤ MC) (hY2 : X.2 + 6 ≤ MS) (hfl : ∀ e : Env, l.admits e → e.platform.stackTraces = false) : gMetT l y_Mf_over w_Mf_over 7 111 D clS (gtys cA) lo MC MS [.ref a.x, .int (iI x), .int (iI y)] G B (gQx D clS lo "java/lang/IndexOutOfBoundsException" (fun u => u = (G, B.1 + 1, B.2 + 6))) := by
  refine g_mett (cc := prog_1_method_5_code) (nL := 6) (ret := (Option.some .int)) (L := [(0, .ref a.x), (1, .int (iI x)), (2, .int (iI y))]) (by decide +kernel) rfl (Nat.le_of_ble_eq_true rfl) rfl ?_
  intro p e R s m args below meth c Q hF hRc hRs hRf hRl hne hQ
  obtain ⟨hx, hb, hr, hml, hts0, hown, hlocks, hin, hK, hlo, hZ⟩ := hF
  have hts : ∀ w ∈ tbg, w.before args s = true := fun w h => hts0 w (List.mem_cons_of_mem _ h)
  have hX1 : X.1 ≤ MC := by omega
  have hX2 : X.2 ≤ MS := by omega
  have hn := hW.n
  have hrn := hW.rn
  have hwn := hW.wn
  have bl_1 : B.1 ≤ MC := Nat.le_trans (w2_le hC.w).1 hX1
  have bl_2 : B.2 ≤ MS := Nat.le_trans (w2_le hC.w).2 hX2
  have hv : ¬ (vi S (iI x) ∧ vi S (iI y)) := fun z9 => by
    rw [sp_over, if_neg (fun z8 => z8 z9)] at hk
    split at hk
    · exact absurd hk (by decide)
    split at hk
    · exact absurd hk (by decide)
    split at hk
    · exact absurd hk (by decide)
    · rw [kp_0] at hk; exact absurd hk (by decide)
  by_cases hv1 : vi S (iI x)
  · skip
    have hv2 : ¬ vi S (iI y) := fun z9 => hv ⟨hv1, z9⟩
    obtain ⟨i, hi_i, hxe_x, ei_i⟩ := ix_of hv1.1 hv1.2
    rw [hxe_x]
    refine gs (pc' := 1) (fun _ _ _ _ _ hl => lv_aload_n hx hb d_Mf_over_0 rfl (lv_at hl 0 rfl)) ?_
    refine gs (pc' := 2) (fun _ _ _ _ _ hl => lv_iload_n hx hb d_Mf_over_1 rfl (lv_at hl 1 rfl)) ?_
    refine g_outr hlo (g_runV (As := [.int (nI i)]) (rest := []) ⟨hx, hb, hml, hown, hts⟩ hK hZ hRc hRs (c_Mf_valueOf l D cA lo MC MS G B X a S F V hC hW i (by omega) hX1 hX2) (fun _ _ => cwV 1 hts (tb_good (tb_cons wm539 (tb_cons wm541 (tb_cons ws11 (tb_cons wm1 k_Mf_valueOf))))) rfl rfl rfl (by decide +kernel) ⟨by rw [hRf]; exact Nat.le_of_ble_eq_true rfl, by rw [hRl]; exact Nat.le_of_ble_eq_true rfl⟩) hC.ob rfl bl_1 bl_2 rfl (Nat.le_of_ble_eq_true rfl) d_Mf_over_2) (fun r_6 G_3 B_4 p_5 => ?_)
    obtain ⟨u_7, iv_8⟩ := p_5
    cases u_7
    have rb_9 : rb (S.v i) 100 := rb_of (hW.v _ (by omega)).1
    have ub_10 := (hW.v i (by omega)).2
    have ub_11 := ub_10.1
    have ub_12 := ub_10.2
    refine gst (pc' := 6) (L' := [(3, .ref r_6), (0, .ref a.x), (1, .int (nI i)), (2, .int (iI y))]) (fun _ _ _ _ _ hl => lv_astore_n hx hb d_Mf_over_5 rfl hl (by decide) rfl) ?_
    refine gs (pc' := 7) (fun _ _ _ _ _ hl => lv_aload_n hx hb d_Mf_over_6 rfl (lv_at hl 1 rfl)) ?_
    refine gs (pc' := 8) (fun _ _ _ _ _ hl => lv_iload_n hx hb d_Mf_over_7 rfl (lv_at hl 3 rfl)) ?_
    exact g_up hlocks hne bl_1 bl_2 (g_thrV (As := [.int (iI y)]) (rest := []) ⟨hx, hb, hml, hown, hts⟩ hK hZ hRc hRs (t_Mf_valueOf l D cA lo MC MS G B X a S F V hC hW y hy1 hy2 (nvi hy1 hy2 hv2) hY1 hY2 hfl) (fun _ _ => cwV 1 hts (tb_good (tb_cons wm539 (tb_cons wm541 (tb_cons ws11 (tb_cons wm1 k_Mf_valueOf))))) rfl rfl rfl (by decide +kernel) ⟨by rw [hRf]; exact Nat.le_of_ble_eq_true rfl, by rw [hRl]; exact Nat.le_of_ble_eq_true rfl⟩) hC.ob rfl bl_1 bl_2 rfl (Nat.le_of_ble_eq_true rfl) d_Mf_over_8) (fun _ h => h) hQ
  · skip
    refine gs (pc' := 1) (fun _ _ _ _ _ hl => lv_aload_n hx hb d_Mf_over_0 rfl (lv_at hl 0 rfl)) ?_
    refine gs (pc' := 2) (fun _ _ _ _ _ hl => lv_iload_n hx hb d_Mf_over_1 rfl (lv_at hl 1 rfl)) ?_
    exact g_up hlocks hne bl_1 bl_2 (g_thrV (As := [.int (iI x)]) (rest := []) ⟨hx, hb, hml, hown, hts⟩ hK hZ hRc hRs (t_Mf_valueOf l D cA lo MC MS G B X a S F V hC hW x hx1 hx2 (nvi hx1 hx2 hv1) hY1 hY2 hfl) (fun _ _ => cwV 1 hts (tb_good (tb_cons wm539 (tb_cons wm541 (tb_cons ws11 (tb_cons wm1 k_Mf_valueOf))))) rfl rfl rfl (by decide +kernel) ⟨by rw [hRf]; exact Nat.le_of_ble_eq_true rfl, by rw [hRl]; exact Nat.le_of_ble_eq_true rfl⟩) hC.ob rfl bl_1 bl_2 rfl (Nat.le_of_ble_eq_true rfl) d_Mf_over_2) (fun _ h => h) hQ
set_option maxHeartbeats 4000000 in
set_option maxRecDepth 100000 in
theorem t_Mf_over2 (l : Launch) (D : va_G) (cA : Nat → ClassId) (lo MC MS : Nat) (G : gT) (B : Nat × Nat) (X : Nat × Nat) (a : AX) (S : St) (F : Nat → Option Rat) (V : Nat → Nat) (hC : CW cA X a S F V (G, B)) (hW : WF S) (x : Int) (hx1 : -2147483648 ≤ x) (hx2 : x < 2147483648) (y : Int) (hy1 : -2147483648 ≤ y) (hy2 : y < 2147483648) (hk : (sp_over S (iI x) (iI y)).1 = 2) (hY1 : X.1 + 1 ≤ MC) (hY2 : X.2 + 6 ≤ MS) (hfl : ∀ e : Env, l.admits e → e.platform.stackTraces = false) : gMetT l y_Mf_over w_Mf_over 6 90 D clS (gtys cA) lo MC MS [.ref a.x, .int (iI x), .int (iI y)] G B (gQx D clS lo "java/lang/ArithmeticException" (fun u => u = (G, B.1 + 1, B.2 + 6))) := by
  refine g_mett (cc := prog_1_method_5_code) (nL := 6) (ret := (Option.some .int)) (L := [(0, .ref a.x), (1, .int (iI x)), (2, .int (iI y))]) (by decide +kernel) rfl (Nat.le_of_ble_eq_true rfl) rfl ?_
  intro p e R s m args below meth c Q hF hRc hRs hRf hRl hne hQ
  obtain ⟨hx, hb, hr, hml, hts0, hown, hlocks, hin, hK, hlo, hZ⟩ := hF
  have hts : ∀ w ∈ tbg, w.before args s = true := fun w h => hts0 w (List.mem_cons_of_mem _ h)
  have hX1 : X.1 ≤ MC := by omega
  have hX2 : X.2 ≤ MS := by omega
  have hn := hW.n
  have hrn := hW.rn
  have hwn := hW.wn
  have bl_1 : B.1 ≤ MC := Nat.le_trans (w2_le hC.w).1 hX1
  have bl_2 : B.2 ≤ MS := Nat.le_trans (w2_le hC.w).2 hX2
  have hv : vi S (iI x) ∧ vi S (iI y) := by
    by_cases z9 : vi S (iI x) ∧ vi S (iI y)
    · exact z9
    · rw [sp_over, if_pos z9] at hk; exact absurd hk (by decide)
  obtain ⟨i, hi_i, hxe_x, ei_i⟩ := ix_of hv.1.1 hv.1.2
  rw [hxe_x]
  obtain ⟨j, hi_j, hxe_y, ei_j⟩ := ix_of hv.2.1 hv.2.2
  rw [hxe_y]
  have hvz : S.v j = 0 := Decidable.byContradiction fun z9 => by
    rw [sp_over, if_neg (fun z8 => z8 hv), ei_i, ei_j, if_neg z9] at hk
    split at hk
    · exact absurd hk (by decide)
    split at hk
    · exact absurd hk (by decide)
    · rw [kp_0] at hk; exact absurd hk (by decide)
  have hnz : (S.v j).num = 0 := Rat.num_eq_zero.mpr hvz
  refine gs (pc' := 1) (fun _ _ _ _ _ hl => lv_aload_n hx hb d_Mf_over_0 rfl (lv_at hl 0 rfl)) ?_
  refine gs (pc' := 2) (fun _ _ _ _ _ hl => lv_iload_n hx hb d_Mf_over_1 rfl (lv_at hl 1 rfl)) ?_
  refine g_outr hlo (g_runV (As := [.int (nI i)]) (rest := []) ⟨hx, hb, hml, hown, hts⟩ hK hZ hRc hRs (c_Mf_valueOf l D cA lo MC MS G B X a S F V hC hW i (by omega) hX1 hX2) (fun _ _ => cwV 1 hts (tb_good (tb_cons wm539 (tb_cons wm541 (tb_cons ws11 (tb_cons wm1 k_Mf_valueOf))))) rfl rfl rfl (by decide +kernel) ⟨by rw [hRf]; exact Nat.le_of_ble_eq_true rfl, by rw [hRl]; exact Nat.le_of_ble_eq_true rfl⟩) hC.ob rfl bl_1 bl_2 rfl (Nat.le_of_ble_eq_true rfl) d_Mf_over_2) (fun r_6 G_3 B_4 p_5 => ?_)
  obtain ⟨u_7, iv_8⟩ := p_5
  cases u_7
  have rb_9 : rb (S.v i) 100 := rb_of (hW.v _ (by omega)).1
  have ub_10 := (hW.v i (by omega)).2
  have ub_11 := ub_10.1
  have ub_12 := ub_10.2
  refine gst (pc' := 6) (L' := [(3, .ref r_6), (0, .ref a.x), (1, .int (nI i)), (2, .int (nI j))]) (fun _ _ _ _ _ hl => lv_astore_n hx hb d_Mf_over_5 rfl hl (by decide) rfl) ?_
  refine gs (pc' := 7) (fun _ _ _ _ _ hl => lv_aload_n hx hb d_Mf_over_6 rfl (lv_at hl 1 rfl)) ?_
  refine gs (pc' := 8) (fun _ _ _ _ _ hl => lv_iload_n hx hb d_Mf_over_7 rfl (lv_at hl 3 rfl)) ?_
  refine g_outr hlo (g_runV (As := [.int (nI j)]) (rest := []) ⟨hx, hb, hml, hown, hts⟩ hK hZ hRc hRs (c_Mf_valueOf l D cA lo MC MS G B X a S F V hC hW j (by omega) hX1 hX2) (fun _ _ => cwV 1 hts (tb_good (tb_cons wm539 (tb_cons wm541 (tb_cons ws11 (tb_cons wm1 k_Mf_valueOf))))) rfl rfl rfl (by decide +kernel) ⟨by rw [hRf]; exact Nat.le_of_ble_eq_true rfl, by rw [hRl]; exact Nat.le_of_ble_eq_true rfl⟩) hC.ob rfl bl_1 bl_2 rfl (Nat.le_of_ble_eq_true rfl) d_Mf_over_8) (fun r_16 G_13 B_14 p_15 => ?_)
  obtain ⟨u_17, iv_18⟩ := p_15
  cases u_17
  have rb_19 : rb (S.v j) 100 := rb_of (hW.v _ (by omega)).1
  have ub_20 := (hW.v j (by omega)).2
  have ub_21 := ub_20.1
  have ub_22 := ub_20.2
  refine gst (pc' := 13) (L' := [(4, .ref r_16), (3, .ref r_6), (0, .ref a.x), (1, .int (nI i)), (2, .int (nI j))]) (fun _ _ _ _ _ hl => lv_astore hx hb d_Mf_over_11 hl (by decide) rfl) ?_
  refine gs (pc' := 15) (fun _ _ _ _ _ hl => lv_aload hx hb d_Mf_over_13 (lv_at hl 0 rfl)) ?_
  obtain ⟨hf_23, f_24, kq_25⟩ := id iv_18
  refine g_get hx hb hts hin_Va hown hK f_24 rfl 0 (by decide) (hts _ wm523) (fun _ h9 => h9) rfl d_Mf_over_15 ?_
  obtain ⟨t_26, ha_27, hb_28, e_29, f_30, rd_31, rd_32⟩ := id kq_25
  refine g_get hx hb hts hin_Fr hown hK f_30 rfl 0 (by decide) (hts _ wm165) (fun _ h9 => h9) rfl d_Mf_over_18 ?_
  refine gsb (pc1 := 34) (pc2 := 24) (fun _ _ _ _ _ => lv_if_ne (tgt := 34) hx hb d_Mf_over_21 (by decide)) (fun c_33 => ?_) (fun c_33 => ?_)
  · skip
    exact absurd (by rw [hnz]; rfl) c_33
  · skip
    have le_34 := w2_le hC.w
    exact g_throw hx hb hml hown hts hlo hZ hfl hlocks hne (fun U h h1 h2 => own_Ari h h1 h2) (by decide +kernel) wm299 wm300 wm16 (by decide) hRc hRs (by rw [hRf]; exact Nat.le_of_ble_eq_true rfl) (by rw [hRl]; exact Nat.le_of_ble_eq_true rfl) (by have := le_34.1; omega) (by have := le_34.2; omega) d_Mf_over_24 d_Mf_over_27 d_Mf_over_28 d_Mf_over_30 d_Mf_over_33 rfl hQ
set_option maxHeartbeats 4000000 in
set_option maxRecDepth 100000 in
theorem c_Mf_order (l : Launch) (D : va_G) (cA : Nat → ClassId) (lo MC MS : Nat) (G : gT) (B : Nat × Nat) (X : Nat × Nat) (a : AX) (S : St) (F : Nat → Option Rat) (V : Nat → Nat) (hC : CW cA X a S F V (G, B)) (hW : WF S) (x : Int) (hx1 : -2147483648 ≤ x) (hx2 : x < 2147483648) (y : Int) (hy1 : -2147483648 ≤ y) (hy2 : y < 2147483648) (hk : (sp_order S (iI x) (iI y)).1 = 0) (hY1 : X.1 + 6 ≤ MC) (hY2 : X.2 + 209 ≤ MS) : gMet l y_Mf_order w_Mf_order 6 158 D clS (gtys cA) lo MC MS [.ref a.x, .int (iI x), .int (iI y)] G B (gQi D clS lo (fun r u => r = iI (sp_order S (iI x) (iI y)).2.1 ∧ CW3 cA (X.1 + 6, X.2 + 209) a (sp_order S (iI x) (iI y)).2.2 u ∧ gfr (fun x => x < 70) G u.1)) := by
  refine g_meti (cc := prog_1_method_6_code) (nL := 5) (L := [(0, .ref a.x), (1, .int (iI x)), (2, .int (iI y))]) (by decide +kernel) rfl (Nat.le_of_ble_eq_true rfl) rfl ?_
  intro p e R s m args below meth c Q hF hRc hRs hRf hRl hret
  obtain ⟨hx, hb, hr, hml, hts0, hown, hlocks, hin, hK, hlo, hZ⟩ := hF
  have hts : ∀ w ∈ tbg, w.before args s = true := fun w h => hts0 w (List.mem_cons_of_mem _ h)
  have hX1 : X.1 ≤ MC := by omega
  have hX2 : X.2 ≤ MS := by omega
  have hn := hW.n
  have hrn := hW.rn
  have hwn := hW.wn
  have bl_1 : B.1 ≤ MC := Nat.le_trans (w2_le hC.w).1 hX1
  have bl_2 : B.2 ≤ MS := Nat.le_trans (w2_le hC.w).2 hX2
  have hv : vi S (iI x) ∧ vi S (iI y) := by
    by_cases z9 : vi S (iI x) ∧ vi S (iI y)
    · exact z9
    · rw [sp_order, if_pos z9] at hk; exact absurd hk (by decide)
  obtain ⟨i, hi_i, hxe_x, ei_i⟩ := ix_of hv.1.1 hv.1.2
  rw [hxe_x]
  obtain ⟨j, hi_j, hxe_y, ei_j⟩ := ix_of hv.2.1 hv.2.2
  rw [hxe_y]
  have hsp : sp_order S (iI x) (iI y) = if S.un i ≠ S.un j then (0, -2, S) else (0, rcmp (S.v i) (S.v j), S) := by
    rw [sp_order, if_neg (fun z9 => z9 hv), ei_i, ei_j]
  refine gs (pc' := 1) (fun _ _ _ _ _ hl => lv_aload_n hx hb d_Mf_order_0 rfl (lv_at hl 0 rfl)) ?_
  refine gs (pc' := 2) (fun _ _ _ _ _ hl => lv_iload_n hx hb d_Mf_order_1 rfl (lv_at hl 1 rfl)) ?_
  refine g_outr hlo (g_runV (As := [.int (nI i)]) (rest := []) ⟨hx, hb, hml, hown, hts⟩ hK hZ hRc hRs (c_Mf_valueOf l D cA lo MC MS G B X a S F V hC hW i (by omega) hX1 hX2) (fun _ _ => cwV 1 hts (tb_good (tb_cons wm539 (tb_cons wm541 (tb_cons ws11 (tb_cons wm1 k_Mf_valueOf))))) rfl rfl rfl (by decide +kernel) ⟨by rw [hRf]; exact Nat.le_of_ble_eq_true rfl, by rw [hRl]; exact Nat.le_of_ble_eq_true rfl⟩) hC.ob rfl bl_1 bl_2 rfl (Nat.le_of_ble_eq_true rfl) d_Mf_order_2) (fun r_6 G_3 B_4 p_5 => ?_)
  obtain ⟨u_7, iv_8⟩ := p_5
  cases u_7
  have rb_9 : rb (S.v i) 100 := rb_of (hW.v _ (by omega)).1
  have ub_10 := (hW.v i (by omega)).2
  have ub_11 := ub_10.1
  have ub_12 := ub_10.2
  refine gst (pc' := 6) (L' := [(3, .ref r_6), (0, .ref a.x), (1, .int (nI i)), (2, .int (nI j))]) (fun _ _ _ _ _ hl => lv_astore_n hx hb d_Mf_order_5 rfl hl (by decide) rfl) ?_
  refine gs (pc' := 7) (fun _ _ _ _ _ hl => lv_aload_n hx hb d_Mf_order_6 rfl (lv_at hl 1 rfl)) ?_
  refine gs (pc' := 8) (fun _ _ _ _ _ hl => lv_iload_n hx hb d_Mf_order_7 rfl (lv_at hl 3 rfl)) ?_
  refine g_outr hlo (g_runV (As := [.int (nI j)]) (rest := []) ⟨hx, hb, hml, hown, hts⟩ hK hZ hRc hRs (c_Mf_valueOf l D cA lo MC MS G B X a S F V hC hW j (by omega) hX1 hX2) (fun _ _ => cwV 1 hts (tb_good (tb_cons wm539 (tb_cons wm541 (tb_cons ws11 (tb_cons wm1 k_Mf_valueOf))))) rfl rfl rfl (by decide +kernel) ⟨by rw [hRf]; exact Nat.le_of_ble_eq_true rfl, by rw [hRl]; exact Nat.le_of_ble_eq_true rfl⟩) hC.ob rfl bl_1 bl_2 rfl (Nat.le_of_ble_eq_true rfl) d_Mf_order_8) (fun r_16 G_13 B_14 p_15 => ?_)
  obtain ⟨u_17, iv_18⟩ := p_15
  cases u_17
  have rb_19 : rb (S.v j) 100 := rb_of (hW.v _ (by omega)).1
  have ub_20 := (hW.v j (by omega)).2
  have ub_21 := ub_20.1
  have ub_22 := ub_20.2
  refine gst (pc' := 13) (L' := [(4, .ref r_16), (3, .ref r_6), (0, .ref a.x), (1, .int (nI i)), (2, .int (nI j))]) (fun _ _ _ _ _ hl => lv_astore hx hb d_Mf_order_11 hl (by decide) rfl) ?_
  refine gs (pc' := 14) (fun _ _ _ _ _ hl => lv_aload_n hx hb d_Mf_order_13 rfl (lv_at hl 1 rfl)) ?_
  obtain ⟨hf_23, f_24, kq_25⟩ := id iv_8
  refine g_get hx hb hts hin_Va hown hK f_24 rfl 1 (by decide) (hts _ wm525) (fun _ h9 => h9) rfl d_Mf_order_14 ?_
  refine gs (pc' := 19) (fun _ _ _ _ _ hl => lv_aload hx hb d_Mf_order_17 (lv_at hl 0 rfl)) ?_
  obtain ⟨hf_26, f_27, kq_28⟩ := id iv_18
  refine g_get hx hb hts hin_Va hown hK f_27 rfl 1 (by decide) (hts _ wm525) (fun _ h9 => h9) rfl d_Mf_order_19 ?_
  refine gsb (pc1 := 28) (pc2 := 25) (fun _ _ _ _ _ => lv_icmp_eq (tgt := 28) hx hb d_Mf_order_22 (by decide)) (fun c_29 => ?_) (fun c_29 => ?_)
  · skip
    have nc_29 : (S.un i) = (S.un j) := (ii_eq (a := (S.un i)) (b := (S.un j)) (by omega) (by omega) (by omega) (by omega)).1 (by first | exact c_29 | (have z9 := c_29; simp only [nI_iI] at z9; exact z9))
    have hu : ¬ S.un i ≠ S.un j := fun z9 => z9 nc_29
    refine gs (pc' := 29) (fun _ _ _ _ _ hl => lv_aload_n hx hb d_Mf_order_28 rfl (lv_at hl 2 rfl)) ?_
    refine g_get hx hb hts hin_Mf hown hK hC.ob rfl 5 (by decide) (hts _ wm240) (fun _ h9 => h9) rfl d_Mf_order_29 ?_
    refine gs (pc' := 33) (fun _ _ _ _ _ hl => lv_aload_n hx hb d_Mf_order_32 rfl (lv_at hl 1 rfl)) ?_
    refine g_get hx hb hts hin_Va hown hK f_24 rfl 0 (by decide) (hts _ wm523) (fun _ h9 => h9) rfl d_Mf_order_33 ?_
    refine gs (pc' := 38) (fun _ _ _ _ _ hl => lv_aload hx hb d_Mf_order_36 (lv_at hl 0 rfl)) ?_
    refine g_get hx hb hts hin_Va hown hK f_27 rfl 0 (by decide) (hts _ wm523) (fun _ h9 => h9) rfl d_Mf_order_38 ?_
    refine g_outi hlo (g_runV (As := [.ref hf_23, .ref hf_26]) (rest := []) ⟨hx, hb, hml, hown, hts⟩ hK hZ hRc hRs (c3_cmp l D cA lo MC MS G B X a S F V hC hX1 hX2 hf_23 hf_26 (S.v i) (S.v j) (Or.inr kq_25) (Or.inr kq_28) 100 100 rb_9 rb_19 (by decide)) (fun _ _ => cwV 2 hts (tb_good (tb_cons wm606 (tb_cons wm607 (tb_cons wm608 (tb_cons wm3 k_Ca_compare))))) rfl rfl rfl (by decide +kernel) ⟨by rw [hRf]; exact Nat.le_of_ble_eq_true rfl, by rw [hRl]; exact Nat.le_of_ble_eq_true rfl⟩) hC.ca rfl bl_1 bl_2 rfl (Nat.le_of_ble_eq_true rfl) d_Mf_order_41) (fun r_33 G_30 B_31 p_32 => ?_)
    obtain ⟨e_34, p_35⟩ := p_32
    subst e_34
    obtain ⟨V_36, C_37, fr_38⟩ := p_35
    have iv_39 : isV cA G_30 r_6 (S.v i) (S.un i) := isV_24 iv_8 fr_38
    have iv_40 : isV cA G_30 r_16 (S.v j) (S.un j) := isV_24 iv_18 fr_38
    have kq_41 : kq cA G_30 hf_23 (S.v i) := kq_24 kq_25 fr_38
    have kq_42 : kq cA G_30 hf_26 (S.v j) := kq_24 kq_28 fr_38
    have fr_43 : gfr (fun x => x < 24) G G_30 := gfr_24 gfr_rf fr_38
    have f_44 : G_30 r_6 = some (30, .inr (6, [.ref hf_23, .int (iI (S.un i))])) := fr_38 _ _ f_24 (show ¬ (30 : Nat) < 24 by decide)
    have f_45 : G_30 r_16 = some (30, .inr (6, [.ref hf_26, .int (iI (S.un j))])) := fr_38 _ _ f_27 (show ¬ (30 : Nat) < 24 by decide)
    have bl_46 : B_31.1 ≤ MC := Nat.le_trans (w2_le C_37.w).1 hX1
    have bl_47 : B_31.2 ≤ MS := Nat.le_trans (w2_le C_37.w).2 hX2
    have bd_48 := rcmp_bd (S.v i) (S.v j)
    have hs2 : sp_order S (iI x) (iI y) = (0, rcmp (S.v i) (S.v j), S) := by rw [hsp, if_neg hu]
    exact hret 44 _ _ _ _ d_Mf_order_44 bl_46 bl_47 ⟨by rw [hs2], by rw [hs2]; exact C_37.up (X1 := (X.1 + 6, X.2 + 209)) (show X.1 ≤ X.1 + 6 by omega) (show X.2 ≤ X.2 + 209 by omega), (gfr_mono (M := fun x => x < 24) fr_43 (fun x h9 => by omega))⟩
  · skip
    have nc_29 : (S.un i) ≠ (S.un j) := (ii_eq (a := (S.un i)) (b := (S.un j)) (by omega) (by omega) (by omega) (by omega)).2 (by first | exact c_29 | (have z9 := c_29; simp only [nI_iI] at z9; exact z9))
    have hu : S.un i ≠ S.un j := nc_29
    refine gs (pc' := 27) (fun _ _ _ _ _ hl => lv_bipush (v := (-2)) hx hb d_Mf_order_25 (by decide)) ?_
    refine g_eqi (show (-2) = iI (-2) from by decide) ?_
    have hs2 : sp_order S (iI x) (iI y) = (0, -2, S) := by rw [hsp, if_pos hu]
    exact hret 27 _ _ _ _ d_Mf_order_27 bl_1 bl_2 ⟨by rw [hs2], by rw [hs2]; exact hC.up (X1 := (X.1 + 6, X.2 + 209)) (show X.1 ≤ X.1 + 6 by omega) (show X.2 ≤ X.2 + 209 by omega), (gfr_mono (M := fun x => x < 24) gfr_rf (fun x h9 => by omega))⟩
set_option maxHeartbeats 4000000 in
set_option maxRecDepth 100000 in
theorem t_Mf_order1 (l : Launch) (D : va_G) (cA : Nat → ClassId) (lo MC MS : Nat) (G : gT) (B : Nat × Nat) (X : Nat × Nat) (a : AX) (S : St) (F : Nat → Option Rat) (V : Nat → Nat) (hC : CW cA X a S F V (G, B)) (hW : WF S) (x : Int) (hx1 : -2147483648 ≤ x) (hx2 : x < 2147483648) (y : Int) (hy1 : -2147483648 ≤ y) (hy2 : y < 2147483648) (hk : (sp_order S (iI x) (iI y)).1 = 1) (hY1 : X.1 + 1 ≤ MC) (hY2 : X.2 + 6 ≤ MS) (hfl : ∀ e : Env, l.admits e → e.platform.stackTraces = false) : gMetT l y_Mf_order w_Mf_order 7 111 D clS (gtys cA) lo MC MS [.ref a.x, .int (iI x), .int (iI y)] G B (gQx D clS lo "java/lang/IndexOutOfBoundsException" (fun u => u = (G, B.1 + 1, B.2 + 6))) := by
  refine g_mett (cc := prog_1_method_6_code) (nL := 5) (ret := (Option.some .int)) (L := [(0, .ref a.x), (1, .int (iI x)), (2, .int (iI y))]) (by decide +kernel) rfl (Nat.le_of_ble_eq_true rfl) rfl ?_
  intro p e R s m args below meth c Q hF hRc hRs hRf hRl hne hQ
  obtain ⟨hx, hb, hr, hml, hts0, hown, hlocks, hin, hK, hlo, hZ⟩ := hF
  have hts : ∀ w ∈ tbg, w.before args s = true := fun w h => hts0 w (List.mem_cons_of_mem _ h)
  have hX1 : X.1 ≤ MC := by omega
  have hX2 : X.2 ≤ MS := by omega
  have hn := hW.n
  have hrn := hW.rn
  have hwn := hW.wn
  have bl_1 : B.1 ≤ MC := Nat.le_trans (w2_le hC.w).1 hX1
  have bl_2 : B.2 ≤ MS := Nat.le_trans (w2_le hC.w).2 hX2
  have hv : ¬ (vi S (iI x) ∧ vi S (iI y)) := fun z9 => by
    rw [sp_order, if_neg (fun z8 => z8 z9)] at hk
    split at hk
    · exact absurd hk (by decide)
    · exact absurd hk (by decide)
  by_cases hv1 : vi S (iI x)
  · skip
    have hv2 : ¬ vi S (iI y) := fun z9 => hv ⟨hv1, z9⟩
    obtain ⟨i, hi_i, hxe_x, ei_i⟩ := ix_of hv1.1 hv1.2
    rw [hxe_x]
    refine gs (pc' := 1) (fun _ _ _ _ _ hl => lv_aload_n hx hb d_Mf_order_0 rfl (lv_at hl 0 rfl)) ?_
    refine gs (pc' := 2) (fun _ _ _ _ _ hl => lv_iload_n hx hb d_Mf_order_1 rfl (lv_at hl 1 rfl)) ?_
    refine g_outr hlo (g_runV (As := [.int (nI i)]) (rest := []) ⟨hx, hb, hml, hown, hts⟩ hK hZ hRc hRs (c_Mf_valueOf l D cA lo MC MS G B X a S F V hC hW i (by omega) hX1 hX2) (fun _ _ => cwV 1 hts (tb_good (tb_cons wm539 (tb_cons wm541 (tb_cons ws11 (tb_cons wm1 k_Mf_valueOf))))) rfl rfl rfl (by decide +kernel) ⟨by rw [hRf]; exact Nat.le_of_ble_eq_true rfl, by rw [hRl]; exact Nat.le_of_ble_eq_true rfl⟩) hC.ob rfl bl_1 bl_2 rfl (Nat.le_of_ble_eq_true rfl) d_Mf_order_2) (fun r_6 G_3 B_4 p_5 => ?_)
    obtain ⟨u_7, iv_8⟩ := p_5
    cases u_7
    have rb_9 : rb (S.v i) 100 := rb_of (hW.v _ (by omega)).1
    have ub_10 := (hW.v i (by omega)).2
    have ub_11 := ub_10.1
    have ub_12 := ub_10.2
    refine gst (pc' := 6) (L' := [(3, .ref r_6), (0, .ref a.x), (1, .int (nI i)), (2, .int (iI y))]) (fun _ _ _ _ _ hl => lv_astore_n hx hb d_Mf_order_5 rfl hl (by decide) rfl) ?_
    refine gs (pc' := 7) (fun _ _ _ _ _ hl => lv_aload_n hx hb d_Mf_order_6 rfl (lv_at hl 1 rfl)) ?_
    refine gs (pc' := 8) (fun _ _ _ _ _ hl => lv_iload_n hx hb d_Mf_order_7 rfl (lv_at hl 3 rfl)) ?_
    exact g_up hlocks hne bl_1 bl_2 (g_thrV (As := [.int (iI y)]) (rest := []) ⟨hx, hb, hml, hown, hts⟩ hK hZ hRc hRs (t_Mf_valueOf l D cA lo MC MS G B X a S F V hC hW y hy1 hy2 (nvi hy1 hy2 hv2) hY1 hY2 hfl) (fun _ _ => cwV 1 hts (tb_good (tb_cons wm539 (tb_cons wm541 (tb_cons ws11 (tb_cons wm1 k_Mf_valueOf))))) rfl rfl rfl (by decide +kernel) ⟨by rw [hRf]; exact Nat.le_of_ble_eq_true rfl, by rw [hRl]; exact Nat.le_of_ble_eq_true rfl⟩) hC.ob rfl bl_1 bl_2 rfl (Nat.le_of_ble_eq_true rfl) d_Mf_order_8) (fun _ h => h) hQ
  · skip
    refine gs (pc' := 1) (fun _ _ _ _ _ hl => lv_aload_n hx hb d_Mf_order_0 rfl (lv_at hl 0 rfl)) ?_
    refine gs (pc' := 2) (fun _ _ _ _ _ hl => lv_iload_n hx hb d_Mf_order_1 rfl (lv_at hl 1 rfl)) ?_
    exact g_up hlocks hne bl_1 bl_2 (g_thrV (As := [.int (iI x)]) (rest := []) ⟨hx, hb, hml, hown, hts⟩ hK hZ hRc hRs (t_Mf_valueOf l D cA lo MC MS G B X a S F V hC hW x hx1 hx2 (nvi hx1 hx2 hv1) hY1 hY2 hfl) (fun _ _ => cwV 1 hts (tb_good (tb_cons wm539 (tb_cons wm541 (tb_cons ws11 (tb_cons wm1 k_Mf_valueOf))))) rfl rfl rfl (by decide +kernel) ⟨by rw [hRf]; exact Nat.le_of_ble_eq_true rfl, by rw [hRl]; exact Nat.le_of_ble_eq_true rfl⟩) hC.ob rfl bl_1 bl_2 rfl (Nat.le_of_ble_eq_true rfl) d_Mf_order_2) (fun _ h => h) hQ
