set_option maxHeartbeats 4000000 in
set_option maxRecDepth 100000 in
theorem c_Mf_value (l : Launch) (D : va_G) (cA : Nat → ClassId) (lo MC MS : Nat) (G : gT) (B : Nat × Nat) (X : Nat × Nat) (a : AX) (S : St) (F : Nat → Option Rat) (V : Nat → Nat) (hC : CW cA X a S F V (G, B)) (hW : WF S) (x : Int) (hx1 : -9223372036854775808 ≤ x) (hx2 : x < 9223372036854775808) (y : Int) (hy1 : -9223372036854775808 ≤ y) (hy2 : y < 9223372036854775808) (un : Int) (hun1 : -2147483648 ≤ un) (hun2 : un < 2147483648) (hk : (sp_value S x y (iI un)).1 = 0) (hY1 : X.1 + 6 ≤ MC) (hY2 : X.2 + 209 ≤ MS) : gMet l y_Mf_value w_Mf_value 8 212 D clS (gtys cA) lo MC MS [.ref a.x, .long (lI x), .long (lI y), .int (iI un)] G B (gQi D clS lo (fun r u => r = iI (sp_value S x y (iI un)).2.1 ∧ CW3 cA (X.1 + 6, X.2 + 209) a (sp_value S x y (iI un)).2.2 u ∧ gfr (fun x => x < 70) G u.1)) := by
  refine g_meti (cc := prog_1_method_2_code) (nL := 6) (L := [(0, .ref a.x), (1, .long (lI x)), (3, .long (lI y)), (5, .int (iI un))]) (by decide +kernel) rfl (Nat.le_of_ble_eq_true rfl) rfl ?_
  intro p e R s m args below meth c Q hF hRc hRs hRf hRl hret
  obtain ⟨hx, hb, hr, hml, hts0, hown, hlocks, hin, hK, hlo, hZ⟩ := hF
  have hts : ∀ w ∈ tbg, w.before args s = true := fun w h => hts0 w (List.mem_cons_of_mem _ h)
  have hX1 : X.1 ≤ MC := by omega
  have hX2 : X.2 ≤ MS := by omega
  have hn := hW.n
  have hrn := hW.rn
  have hwn := hW.wn
  have bl_1 : B.1 ≤ MC := Nat.le_trans (w2_le hC.w).1 hX1
  have bl_2 : B.2 ≤ MS := Nat.le_trans (w2_le hC.w).2 hX2
  have hy0 : y ≠ 0 := fun z9 => by rw [sp_value, if_pos z9] at hk; simp at hk
  have huk : uok un := by
    by_cases z9 : uok un
    · exact z9
    · rw [sp_value, if_neg hy0, iI_toInt hun1 hun2, if_pos z9] at hk; simp at hk
  have hsp : sp_value S x y (iI un) = if S.n = 200 then (0, -3, S) else kp S (mkRat (x * (y).sign) (y).natAbs) (un) := by rw [sp_value, if_neg hy0, iI_toInt hun1 hun2, if_neg (fun z9 => z9 huk)]
  refine gs (pc' := 1) (fun _ _ _ _ _ hl => lv_lload_n hx hb d_Mf_value_0 rfl (lv_at hl 2 rfl)) ?_
  refine gs (pc' := 2) (fun _ _ _ _ _ hl => lv_lconst (v := lN 0) hx hb d_Mf_value_1 (by decide)) ?_
  refine gs (pc' := 3) (fun _ _ _ _ _ hl => W.lcmp hx hb d_Mf_value_2) ?_
  refine gsb (pc1 := 16) (pc2 := 6) (fun _ _ _ _ _ => lv_if_ne (tgt := 16) hx hb d_Mf_value_3 (by decide)) (fun c_3 => ?_) (fun c_3 => ?_)
  · skip
    have nc_3 : y ≠ ((0 : Nat) : Int) := (lcI_ne (a := y) (b := ((0 : Nat) : Int)) (by omega) (by omega) (by omega) (by omega)).1 (by rw [cmp_IN] at c_3; exact c_3)
    refine gs (pc' := 18) (fun _ _ _ _ _ hl => lv_iload hx hb d_Mf_value_16 (lv_at hl 3 rfl)) ?_
    refine g_outi hlo (g_runS (As := [.int (iI un)]) (rest := []) ⟨hx, hb, hml, hown, hts⟩ hK hZ hRc hRs (c_Mf_isUnit l D cA lo MC MS G B un (by omega) (by omega) bl_1 bl_2) (fun _ _ => va_cwS 1 hts (tb_good (tb_cons wm367 (tb_cons wm368 (tb_cons wm1 k_Mf_isUnit)))) rfl rfl rfl (by decide +kernel) ⟨by rw [hRf]; exact Nat.le_of_ble_eq_true rfl, by rw [hRl]; exact Nat.le_of_ble_eq_true rfl⟩) bl_1 bl_2 rfl (Nat.le_of_ble_eq_true rfl) d_Mf_value_18) (fun r_7 G_4 B_5 p_6 => ?_)
    obtain ⟨u_8, e_9⟩ := p_6
    cases u_8
    subst e_9
    have bd_10 := b01_le (decide (uok un))
    refine gsb (pc1 := 34) (pc2 := 24) (fun _ _ _ _ _ => lv_if_ne (tgt := 34) hx hb d_Mf_value_21 (by decide)) (fun c_11 => ?_) (fun c_11 => ?_)
    · skip
      have nc_11 : (b01 (decide (uok un))) ≠ 0 := (n0_ne (a := (b01 (decide (uok un)))) (by omega)).1 c_11
      refine gs (pc' := 35) (fun _ _ _ _ _ hl => lv_aload_n hx hb d_Mf_value_34 rfl (lv_at hl 0 rfl)) ?_
      have f_12 : G a.x = some (31, .inr (8, [.ref a.vs, .int (nI S.n), .ref a.rs, .int (nI S.rn), .ref a.ws, .ref a.ca, .ref (a.fr 0), .ref (a.fr 1), .ref (a.fr 2), .ref (a.fr 3), .ref a.zr, .ref a.fo, .ref a.ha, .ref a.si])) := hC.ob
      refine g_outi hlo (g_runV (As := []) (rest := []) ⟨hx, hb, hml, hown, hts⟩ hK hZ hRc hRs (c_Mf_isFull l D cA lo MC MS G B X a S F V hC hW hX1 hX2) (fun _ _ => cwV 0 hts (tb_good (tb_cons wm386 (tb_cons wm388 (tb_cons ws1 (tb_cons wm1 k_Mf_isFull))))) rfl rfl rfl (by decide +kernel) ⟨by rw [hRf]; exact Nat.le_of_ble_eq_true rfl, by rw [hRl]; exact Nat.le_of_ble_eq_true rfl⟩) f_12 rfl bl_1 bl_2 rfl (Nat.le_of_ble_eq_true rfl) d_Mf_value_35) (fun r_16 G_13 B_14 p_15 => ?_)
      obtain ⟨u_17, e_18⟩ := p_15
      cases u_17
      subst e_18
      have bd_19 := b01_le (decide (S.n = 200))
      refine gsb (pc1 := 44) (pc2 := 41) (fun _ _ _ _ _ => lv_if_eq (tgt := 44) hx hb d_Mf_value_38 (by decide)) (fun c_20 => ?_) (fun c_20 => ?_)
      · skip
        have nc_20 : (b01 (decide (S.n = 200))) = 0 := (n0_eq (a := (b01 (decide (S.n = 200)))) (by omega)).1 c_20
        have hnf := b01_0 nc_20
        refine gs (pc' := 45) (fun _ _ _ _ _ hl => lv_aload_n hx hb d_Mf_value_44 rfl (lv_at hl 0 rfl)) ?_
        refine g_get hx hb hts hin_Mf hown hK f_12 rfl 5 (by decide) (hts _ wm240) (fun _ h9 => h9) rfl d_Mf_value_45 ?_
        refine gs (pc' := 49) (fun _ _ _ _ _ hl => lv_aload_n hx hb d_Mf_value_48 rfl (lv_at hl 0 rfl)) ?_
        refine g_get hx hb hts hin_Mf hown hK f_12 rfl 6 (by decide) (hts _ wm241) (fun _ h9 => h9) rfl d_Mf_value_49 ?_
        refine gs (pc' := 53) (fun _ _ _ _ _ hl => lv_lload_n hx hb d_Mf_value_52 rfl (lv_at hl 1 rfl)) ?_
        refine gs (pc' := 54) (fun _ _ _ _ _ hl => lv_lload_n hx hb d_Mf_value_53 rfl (lv_at hl 2 rfl)) ?_
        have f_21 : G a.ca = some (30, .inr (0, [.ref a.hd, .ref a.hc, .ref (a.ad 5), .ref (a.ad 6), .ref (a.ad 7), .ref (a.ad 8), .ref (a.ad 9), .ref (a.ad 10)])) := hC.ca
        refine g_outv hlo (g_runV (As := [.ref (a.fr 0), .long (lI x), .long (lI y)]) (rest := []) ⟨hx, hb, hml, hown, hts⟩ hK hZ hRc hRs (c3_ratio l D cA lo MC MS G B X a S F V hC hX1 hX2 0 (by decide) x y (by omega) (by omega) (by omega) (by omega) hy0) (fun _ _ => cwV 3 hts (tb_good (tb_cons wm390 (tb_cons wm391 (tb_cons wm392 (tb_cons wm3 k_Ca_setRatio))))) rfl rfl rfl (by decide +kernel) ⟨by rw [hRf]; exact Nat.le_of_ble_eq_true rfl, by rw [hRl]; exact Nat.le_of_ble_eq_true rfl⟩) f_21 rfl bl_1 bl_2 rfl (Nat.le_of_ble_eq_true rfl) d_Mf_value_54) (fun G_22 B_23 p_24 => ?_)
        obtain ⟨V_25, C_26, fr_27⟩ := p_24
        have fr_28 : gfr (fun x => x < 24) G G_22 := gfr_24 gfr_rf fr_27
        have rb_29 : rb (mkRat (x * (y).sign) (y).natAbs) 3 := rb_ratio (by omega) (by omega) (by omega) (by omega) hy0
        have bl_30 : B_23.1 ≤ MC := Nat.le_trans (w2_le C_26.w).1 hX1
        have bl_31 : B_23.2 ≤ MS := Nat.le_trans (w2_le C_26.w).2 hX2
        refine gs (pc' := 58) (fun _ _ _ _ _ hl => lv_aload_n hx hb d_Mf_value_57 rfl (lv_at hl 0 rfl)) ?_
        refine gs (pc' := 59) (fun _ _ _ _ _ hl => lv_aload_n hx hb d_Mf_value_58 rfl (lv_at hl 0 rfl)) ?_
        have f_32 : G_22 a.x = some (31, .inr (8, [.ref a.vs, .int (nI S.n), .ref a.rs, .int (nI S.rn), .ref a.ws, .ref a.ca, .ref (a.fr 0), .ref (a.fr 1), .ref (a.fr 2), .ref (a.fr 3), .ref a.zr, .ref a.fo, .ref a.ha, .ref a.si])) := C_26.ob
        refine g_get hx hb hts hin_Mf hown hK f_32 rfl 6 (by decide) (hts _ wm241) (fun _ h9 => h9) rfl d_Mf_value_59 ?_
        refine gs (pc' := 64) (fun _ _ _ _ _ hl => lv_iload hx hb d_Mf_value_62 (lv_at hl 3 rfl)) ?_
        refine g_outi hlo (g_runV (As := [.ref (a.fr 0), .int (iI un)]) (rest := []) ⟨hx, hb, hml, hown, hts⟩ hK hZ hRc hRs (c_Mf_keep0 l D cA lo MC MS G_22 B_23 X a S (fup F 0 (some (mkRat (x * (y).sign) (y).natAbs))) V_25 C_26 hW (mkRat (x * (y).sign) (y).natAbs) rfl 3 rb_29 (by decide) un hnf hY1 hY2) (fun _ _ => cwV 2 hts (tb_good (tb_cons wm495 (tb_cons wm497 (tb_cons ws10 (tb_cons wm1 k_Mf_keep))))) rfl rfl rfl (by decide +kernel) ⟨by rw [hRf]; exact Nat.le_of_ble_eq_true rfl, by rw [hRl]; exact Nat.le_of_ble_eq_true rfl⟩) f_32 rfl bl_30 bl_31 rfl (Nat.le_of_ble_eq_true rfl) d_Mf_value_64) (fun r_36 G_33 B_34 p_35 => ?_)
        obtain ⟨e_37, C_38, fr_39⟩ := p_35
        subst e_37
        have fr_40 : gfr (fun x => x < 70) G G_33 := gfr_mono (gfr_tr fr_28 fr_39) (fun x h9 => by rcases h9 with h9 | h9 <;> omega)
        have bl_41 := CW3_le C_38
        have hs2 : sp_value S x y (iI un) = kp S (mkRat (x * (y).sign) (y).natAbs) un := by rw [hsp, if_neg hnf]
        exact hret 67 _ _ _ _ d_Mf_value_67 (Nat.le_trans bl_41.1 hY1) (Nat.le_trans bl_41.2 hY2) ⟨by rw [hs2], by rw [hs2]; exact C_38, fr_40⟩
      · skip
        have nc_20 : (b01 (decide (S.n = 200))) ≠ 0 := (n0_eq (a := (b01 (decide (S.n = 200)))) (by omega)).2 c_20
        have hnf := b01_1 nc_20
        refine gs (pc' := 43) (fun _ _ _ _ _ hl => lv_bipush (v := (-3)) hx hb d_Mf_value_41 (by decide)) ?_
        refine g_eqi (show (-3) = iI (-3) from by decide) ?_
        have hs2 : sp_value S x y (iI un) = (0, -3, S) := by rw [hsp, if_pos hnf]
        exact hret 43 _ _ _ _ d_Mf_value_43 bl_1 bl_2 ⟨by rw [hs2], by rw [hs2]; exact hC.up (X1 := (X.1 + 6, X.2 + 209)) (show X.1 ≤ X.1 + 6 by omega) (show X.2 ≤ X.2 + 209 by omega), (gfr_mono (M := fun x => x < 24) gfr_rf (fun x h9 => by omega))⟩
    · skip
      have nc_11 : (b01 (decide (uok un))) = 0 := (n0_ne (a := (b01 (decide (uok un)))) (by omega)).2 c_11
      exact absurd huk (b01_0 nc_11)
  · skip
    have nc_3 : y = ((0 : Nat) : Int) := (lcI_ne (a := y) (b := ((0 : Nat) : Int)) (by omega) (by omega) (by omega) (by omega)).2 (by rw [cmp_IN] at c_3; exact c_3)
    exact absurd nc_3 (by omega)
set_option maxHeartbeats 4000000 in
set_option maxRecDepth 100000 in
theorem t_Mf_value1 (l : Launch) (D : va_G) (cA : Nat → ClassId) (lo MC MS : Nat) (G : gT) (B : Nat × Nat) (X : Nat × Nat) (a : AX) (S : St) (F : Nat → Option Rat) (V : Nat → Nat) (hC : CW cA X a S F V (G, B)) (hW : WF S) (x : Int) (hx1 : -9223372036854775808 ≤ x) (hx2 : x < 9223372036854775808) (y : Int) (hy1 : -9223372036854775808 ≤ y) (hy2 : y < 9223372036854775808) (un : Int) (hun1 : -2147483648 ≤ un) (hun2 : un < 2147483648) (hk : (sp_value S x y (iI un)).1 = 1) (hY1 : X.1 + 1 ≤ MC) (hY2 : X.2 + 6 ≤ MS) (hfl : ∀ e : Env, l.admits e → e.platform.stackTraces = false) : gMetT l y_Mf_value w_Mf_value 6 90 D clS (gtys cA) lo MC MS [.ref a.x, .long (lI x), .long (lI y), .int (iI un)] G B (gQx D clS lo "java/lang/ArithmeticException" (fun u => u = (G, B.1 + 1, B.2 + 6))) := by
  refine g_mett (cc := prog_1_method_2_code) (nL := 6) (ret := (Option.some .int)) (L := [(0, .ref a.x), (1, .long (lI x)), (3, .long (lI y)), (5, .int (iI un))]) (by decide +kernel) rfl (Nat.le_of_ble_eq_true rfl) rfl ?_
  intro p e R s m args below meth c Q hF hRc hRs hRf hRl hne hQ
  obtain ⟨hx, hb, hr, hml, hts0, hown, hlocks, hin, hK, hlo, hZ⟩ := hF
  have hts : ∀ w ∈ tbg, w.before args s = true := fun w h => hts0 w (List.mem_cons_of_mem _ h)
  have hX1 : X.1 ≤ MC := by omega
  have hX2 : X.2 ≤ MS := by omega
  have hn := hW.n
  have hrn := hW.rn
  have hwn := hW.wn
  have bl_1 : B.1 ≤ MC := Nat.le_trans (w2_le hC.w).1 hX1
  have bl_2 : B.2 ≤ MS := Nat.le_trans (w2_le hC.w).2 hX2
  have hy0 : y = 0 := Decidable.byContradiction fun z9 => by
    rw [sp_value, if_neg z9] at hk
    split at hk
    · simp at hk
    split at hk
    · simp at hk
    · rw [kp_0] at hk; simp at hk
  refine gs (pc' := 1) (fun _ _ _ _ _ hl => lv_lload_n hx hb d_Mf_value_0 rfl (lv_at hl 2 rfl)) ?_
  refine gs (pc' := 2) (fun _ _ _ _ _ hl => lv_lconst (v := lN 0) hx hb d_Mf_value_1 (by decide)) ?_
  refine gs (pc' := 3) (fun _ _ _ _ _ hl => W.lcmp hx hb d_Mf_value_2) ?_
  refine gsb (pc1 := 16) (pc2 := 6) (fun _ _ _ _ _ => lv_if_ne (tgt := 16) hx hb d_Mf_value_3 (by decide)) (fun c_3 => ?_) (fun c_3 => ?_)
  · skip
    have nc_3 : y ≠ ((0 : Nat) : Int) := (lcI_ne (a := y) (b := ((0 : Nat) : Int)) (by omega) (by omega) (by omega) (by omega)).1 (by rw [cmp_IN] at c_3; exact c_3)
    exact absurd nc_3 (by omega)
  · skip
    have nc_3 : y = ((0 : Nat) : Int) := (lcI_ne (a := y) (b := ((0 : Nat) : Int)) (by omega) (by omega) (by omega) (by omega)).2 (by rw [cmp_IN] at c_3; exact c_3)
    have le_4 := w2_le hC.w
    exact g_throw (tx := "a division by 0") (post := fun u => u = (G, B.1 + 1, B.2 + 6)) hx hb hml hown hts hlo hZ hfl hlocks hne (fun U h h1 h2 => own_Ari h h1 h2) (by decide +kernel) wm299 wm300 wm16 (by decide) hRc hRs (by rw [hRf]; exact Nat.le_of_ble_eq_true rfl) (by rw [hRl]; exact Nat.le_of_ble_eq_true rfl) (by have := le_4.1; omega) (by have := le_4.2; omega) d_Mf_value_6 d_Mf_value_9 d_Mf_value_10 d_Mf_value_12 d_Mf_value_15 rfl hQ
set_option maxHeartbeats 4000000 in
set_option maxRecDepth 100000 in
theorem t_Mf_value2 (l : Launch) (D : va_G) (cA : Nat → ClassId) (lo MC MS : Nat) (G : gT) (B : Nat × Nat) (X : Nat × Nat) (a : AX) (S : St) (F : Nat → Option Rat) (V : Nat → Nat) (hC : CW cA X a S F V (G, B)) (hW : WF S) (x : Int) (hx1 : -9223372036854775808 ≤ x) (hx2 : x < 9223372036854775808) (y : Int) (hy1 : -9223372036854775808 ≤ y) (hy2 : y < 9223372036854775808) (un : Int) (hun1 : -2147483648 ≤ un) (hun2 : un < 2147483648) (hk : (sp_value S x y (iI un)).1 = 2) (hY1 : X.1 + 1 ≤ MC) (hY2 : X.2 + 6 ≤ MS) (hfl : ∀ e : Env, l.admits e → e.platform.stackTraces = false) : gMetT l y_Mf_value w_Mf_value 6 90 D clS (gtys cA) lo MC MS [.ref a.x, .long (lI x), .long (lI y), .int (iI un)] G B (gQx D clS lo "java/lang/IllegalArgumentException" (fun u => u = (G, B.1 + 1, B.2 + 6))) := by
  refine g_mett (cc := prog_1_method_2_code) (nL := 6) (ret := (Option.some .int)) (L := [(0, .ref a.x), (1, .long (lI x)), (3, .long (lI y)), (5, .int (iI un))]) (by decide +kernel) rfl (Nat.le_of_ble_eq_true rfl) rfl ?_
  intro p e R s m args below meth c Q hF hRc hRs hRf hRl hne hQ
  obtain ⟨hx, hb, hr, hml, hts0, hown, hlocks, hin, hK, hlo, hZ⟩ := hF
  have hts : ∀ w ∈ tbg, w.before args s = true := fun w h => hts0 w (List.mem_cons_of_mem _ h)
  have hX1 : X.1 ≤ MC := by omega
  have hX2 : X.2 ≤ MS := by omega
  have hn := hW.n
  have hrn := hW.rn
  have hwn := hW.wn
  have bl_1 : B.1 ≤ MC := Nat.le_trans (w2_le hC.w).1 hX1
  have bl_2 : B.2 ≤ MS := Nat.le_trans (w2_le hC.w).2 hX2
  have hy0 : y ≠ 0 := fun z9 => by rw [sp_value, if_pos z9] at hk; simp at hk
  have huk : ¬ uok un := fun z9 => by
    rw [sp_value, if_neg hy0, iI_toInt hun1 hun2, if_neg (fun z8 => z8 z9)] at hk
    split at hk
    · simp at hk
    · rw [kp_0] at hk; simp at hk
  refine gs (pc' := 1) (fun _ _ _ _ _ hl => lv_lload_n hx hb d_Mf_value_0 rfl (lv_at hl 2 rfl)) ?_
  refine gs (pc' := 2) (fun _ _ _ _ _ hl => lv_lconst (v := lN 0) hx hb d_Mf_value_1 (by decide)) ?_
  refine gs (pc' := 3) (fun _ _ _ _ _ hl => W.lcmp hx hb d_Mf_value_2) ?_
  refine gsb (pc1 := 16) (pc2 := 6) (fun _ _ _ _ _ => lv_if_ne (tgt := 16) hx hb d_Mf_value_3 (by decide)) (fun c_3 => ?_) (fun c_3 => ?_)
  · skip
    have nc_3 : y ≠ ((0 : Nat) : Int) := (lcI_ne (a := y) (b := ((0 : Nat) : Int)) (by omega) (by omega) (by omega) (by omega)).1 (by rw [cmp_IN] at c_3; exact c_3)
    refine gs (pc' := 18) (fun _ _ _ _ _ hl => lv_iload hx hb d_Mf_value_16 (lv_at hl 3 rfl)) ?_
    refine g_outi hlo (g_runS (As := [.int (iI un)]) (rest := []) ⟨hx, hb, hml, hown, hts⟩ hK hZ hRc hRs (c_Mf_isUnit l D cA lo MC MS G B un (by omega) (by omega) bl_1 bl_2) (fun _ _ => va_cwS 1 hts (tb_good (tb_cons wm367 (tb_cons wm368 (tb_cons wm1 k_Mf_isUnit)))) rfl rfl rfl (by decide +kernel) ⟨by rw [hRf]; exact Nat.le_of_ble_eq_true rfl, by rw [hRl]; exact Nat.le_of_ble_eq_true rfl⟩) bl_1 bl_2 rfl (Nat.le_of_ble_eq_true rfl) d_Mf_value_18) (fun r_7 G_4 B_5 p_6 => ?_)
    obtain ⟨u_8, e_9⟩ := p_6
    cases u_8
    subst e_9
    have bd_10 := b01_le (decide (uok un))
    refine gsb (pc1 := 34) (pc2 := 24) (fun _ _ _ _ _ => lv_if_ne (tgt := 34) hx hb d_Mf_value_21 (by decide)) (fun c_11 => ?_) (fun c_11 => ?_)
    · skip
      have nc_11 : (b01 (decide (uok un))) ≠ 0 := (n0_ne (a := (b01 (decide (uok un)))) (by omega)).1 c_11
      exact absurd (b01_1 nc_11) huk
    · skip
      have nc_11 : (b01 (decide (uok un))) = 0 := (n0_ne (a := (b01 (decide (uok un)))) (by omega)).2 c_11
      have le_12 := w2_le hC.w
      exact g_throw (tx := "no such unit") (post := fun u => u = (G, B.1 + 1, B.2 + 6)) hx hb hml hown hts hlo hZ hfl hlocks hne (fun U h h1 h2 => own_Iae h h1 h2) (by decide +kernel) wm370 wm371 wm17 (by decide) hRc hRs (by rw [hRf]; exact Nat.le_of_ble_eq_true rfl) (by rw [hRl]; exact Nat.le_of_ble_eq_true rfl) (by have := le_12.1; omega) (by have := le_12.2; omega) d_Mf_value_24 d_Mf_value_27 d_Mf_value_28 d_Mf_value_30 d_Mf_value_33 rfl hQ
  · skip
    have nc_3 : y = ((0 : Nat) : Int) := (lcI_ne (a := y) (b := ((0 : Nat) : Int)) (by omega) (by omega) (by omega) (by omega)).2 (by rw [cmp_IN] at c_3; exact c_3)
    exact absurd nc_3 (by omega)
set_option maxHeartbeats 4000000 in
set_option maxRecDepth 100000 in
theorem c_Mf_add (l : Launch) (D : va_G) (cA : Nat → ClassId) (lo MC MS : Nat) (G : gT) (B : Nat × Nat) (X : Nat × Nat) (a : AX) (S : St) (F : Nat → Option Rat) (V : Nat → Nat) (hC : CW cA X a S F V (G, B)) (hW : WF S) (x : Int) (hx1 : -2147483648 ≤ x) (hx2 : x < 2147483648) (y : Int) (hy1 : -2147483648 ≤ y) (hy2 : y < 2147483648) (le : Int32) (hk : (sp_add S (iI x) (iI y) (decide (le ≠ 0))).1 = 0) (hY1 : X.1 + 6 ≤ MC) (hY2 : X.2 + 209 ≤ MS) : gMet l y_Mf_add w_Mf_add 7 188 D clS (gtys cA) lo MC MS [.ref a.x, .int (iI x), .int (iI y), .int le] G B (gQi D clS lo (fun r u => r = iI (sp_add S (iI x) (iI y) (decide (le ≠ 0))).2.1 ∧ CW3 cA (X.1 + 6, X.2 + 209) a (sp_add S (iI x) (iI y) (decide (le ≠ 0))).2.2 u ∧ gfr (fun x => x < 70) G u.1)) := by
  refine g_meti (cc := prog_1_method_3_code) (nL := 6) (L := [(0, .ref a.x), (1, .int (iI x)), (2, .int (iI y)), (3, .int le)]) (by decide +kernel) rfl (Nat.le_of_ble_eq_true rfl) rfl ?_
  intro p e R s m args below meth c Q hF hRc hRs hRf hRl hret
  obtain ⟨hx, hb, hr, hml, hts0, hown, hlocks, hin, hK, hlo, hZ⟩ := hF
  have hts : ∀ w ∈ tbg, w.before args s = true := fun w h => hts0 w (List.mem_cons_of_mem _ h)
  have hX1 : X.1 ≤ MC := by omega
  have hX2 : X.2 ≤ MS := by omega
  have hn := hW.n
  have hrn := hW.rn
  have hwn := hW.wn
  have bl_1 : B.1 ≤ MC := Nat.le_trans (w2_le hC.w).1 hX1
  have bl_2 : B.2 ≤ MS := Nat.le_trans (w2_le hC.w).2 hX2
  have hv : vi S (iI x) ∧ vi S (iI y) := by
    by_cases z9 : vi S (iI x) ∧ vi S (iI y)
    · exact z9
    · rw [sp_add, if_pos z9] at hk; simp at hk
  obtain ⟨i, hi_i, hxe_x, ei_i⟩ := ix_of hv.1.1 hv.1.2
  rw [hxe_x]
  obtain ⟨j, hi_j, hxe_y, ei_j⟩ := ix_of hv.2.1 hv.2.2
  rw [hxe_y]
  have hsp : sp_add S (iI x) (iI y) (decide (le ≠ 0)) = if S.un i ≠ S.un j then (0, -2, S) else if S.n = 200 then (0, -3, S) else kp S (if le = 0 then S.v i + S.v j else S.v i - S.v j) (S.un i) := by
    rw [sp_add, if_neg (fun z9 => z9 hv), ei_i, ei_j]
    by_cases z9 : le = 0 <;> simp [z9]
  refine gs (pc' := 1) (fun _ _ _ _ _ hl => lv_aload_n hx hb d_Mf_add_0 rfl (lv_at hl 0 rfl)) ?_
  refine gs (pc' := 2) (fun _ _ _ _ _ hl => lv_iload_n hx hb d_Mf_add_1 rfl (lv_at hl 1 rfl)) ?_
  have f_3 : G a.x = some (31, .inr (8, [.ref a.vs, .int (nI S.n), .ref a.rs, .int (nI S.rn), .ref a.ws, .ref a.ca, .ref (a.fr 0), .ref (a.fr 1), .ref (a.fr 2), .ref (a.fr 3), .ref a.zr, .ref a.fo, .ref a.ha, .ref a.si])) := hC.ob
  refine g_outr hlo (g_runV (As := [.int (nI i)]) (rest := []) ⟨hx, hb, hml, hown, hts⟩ hK hZ hRc hRs (c_Mf_valueOf l D cA lo MC MS G B X a S F V hC hW i (by omega) hX1 hX2) (fun _ _ => cwV 1 hts (tb_good (tb_cons wm539 (tb_cons wm541 (tb_cons ws11 (tb_cons wm1 k_Mf_valueOf))))) rfl rfl rfl (by decide +kernel) ⟨by rw [hRf]; exact Nat.le_of_ble_eq_true rfl, by rw [hRl]; exact Nat.le_of_ble_eq_true rfl⟩) f_3 rfl bl_1 bl_2 rfl (Nat.le_of_ble_eq_true rfl) d_Mf_add_2) (fun r_7 G_4 B_5 p_6 => ?_)
  obtain ⟨u_8, iv_9⟩ := p_6
  cases u_8
  have rb_10 : rb (S.v i) 100 := rb_of (hW.v _ (by omega)).1
  have ub_11 := (hW.v i (by omega)).2
  have ub_12 := ub_11.1
  have ub_13 := ub_11.2
  refine gst (pc' := 7) (L' := [(4, .ref r_7), (0, .ref a.x), (1, .int (nI i)), (2, .int (nI j)), (3, .int le)]) (fun _ _ _ _ _ hl => lv_astore hx hb d_Mf_add_5 hl (by decide) rfl) ?_
  refine gs (pc' := 8) (fun _ _ _ _ _ hl => lv_aload_n hx hb d_Mf_add_7 rfl (lv_at hl 1 rfl)) ?_
  refine gs (pc' := 9) (fun _ _ _ _ _ hl => lv_iload_n hx hb d_Mf_add_8 rfl (lv_at hl 3 rfl)) ?_
  refine g_outr hlo (g_runV (As := [.int (nI j)]) (rest := []) ⟨hx, hb, hml, hown, hts⟩ hK hZ hRc hRs (c_Mf_valueOf l D cA lo MC MS G B X a S F V hC hW j (by omega) hX1 hX2) (fun _ _ => cwV 1 hts (tb_good (tb_cons wm539 (tb_cons wm541 (tb_cons ws11 (tb_cons wm1 k_Mf_valueOf))))) rfl rfl rfl (by decide +kernel) ⟨by rw [hRf]; exact Nat.le_of_ble_eq_true rfl, by rw [hRl]; exact Nat.le_of_ble_eq_true rfl⟩) f_3 rfl bl_1 bl_2 rfl (Nat.le_of_ble_eq_true rfl) d_Mf_add_9) (fun r_17 G_14 B_15 p_16 => ?_)
  obtain ⟨u_18, iv_19⟩ := p_16
  cases u_18
  have rb_20 : rb (S.v j) 100 := rb_of (hW.v _ (by omega)).1
  have ub_21 := (hW.v j (by omega)).2
  have ub_22 := ub_21.1
  have ub_23 := ub_21.2
  refine gst (pc' := 14) (L' := [(5, .ref r_17), (4, .ref r_7), (0, .ref a.x), (1, .int (nI i)), (2, .int (nI j)), (3, .int le)]) (fun _ _ _ _ _ hl => lv_astore hx hb d_Mf_add_12 hl (by decide) rfl) ?_
  refine gs (pc' := 16) (fun _ _ _ _ _ hl => lv_aload hx hb d_Mf_add_14 (lv_at hl 1 rfl)) ?_
  obtain ⟨hf_24, f_25, kq_26⟩ := id iv_9
  have f_27 : G r_7 = some (30, .inr (6, [.ref hf_24, .int (iI (S.un i))])) := f_25
  refine g_get hx hb hts hin_Va hown hK f_27 rfl 1 (by decide) (hts _ wm525) (fun _ h9 => h9) rfl d_Mf_add_16 ?_
  refine gs (pc' := 21) (fun _ _ _ _ _ hl => lv_aload hx hb d_Mf_add_19 (lv_at hl 0 rfl)) ?_
  obtain ⟨hf_28, f_29, kq_30⟩ := id iv_19
  have f_31 : G r_17 = some (30, .inr (6, [.ref hf_28, .int (iI (S.un j))])) := f_29
  refine g_get hx hb hts hin_Va hown hK f_31 rfl 1 (by decide) (hts _ wm525) (fun _ h9 => h9) rfl d_Mf_add_21 ?_
  refine gsb (pc1 := 30) (pc2 := 27) (fun _ _ _ _ _ => lv_icmp_eq (tgt := 30) hx hb d_Mf_add_24 (by decide)) (fun c_32 => ?_) (fun c_32 => ?_)
  · skip
    have nc_32 : (S.un i) = (S.un j) := (ii_eq (a := (S.un i)) (b := (S.un j)) (by omega) (by omega) (by omega) (by omega)).1 (by first | exact c_32 | (have z9 := c_32; simp only [nI_iI] at z9; exact z9))
    have hu : ¬ S.un i ≠ S.un j := fun z9 => z9 nc_32
    refine gs (pc' := 31) (fun _ _ _ _ _ hl => lv_aload_n hx hb d_Mf_add_30 rfl (lv_at hl 2 rfl)) ?_
    refine g_outi hlo (g_runV (As := []) (rest := []) ⟨hx, hb, hml, hown, hts⟩ hK hZ hRc hRs (c_Mf_isFull l D cA lo MC MS G B X a S F V hC hW hX1 hX2) (fun _ _ => cwV 0 hts (tb_good (tb_cons wm386 (tb_cons wm388 (tb_cons ws1 (tb_cons wm1 k_Mf_isFull))))) rfl rfl rfl (by decide +kernel) ⟨by rw [hRf]; exact Nat.le_of_ble_eq_true rfl, by rw [hRl]; exact Nat.le_of_ble_eq_true rfl⟩) f_3 rfl bl_1 bl_2 rfl (Nat.le_of_ble_eq_true rfl) d_Mf_add_31) (fun r_36 G_33 B_34 p_35 => ?_)
    obtain ⟨u_37, e_38⟩ := p_35
    cases u_37
    subst e_38
    have bd_39 := b01_le (decide (S.n = 200))
    refine gsb (pc1 := 40) (pc2 := 37) (fun _ _ _ _ _ => lv_if_eq (tgt := 40) hx hb d_Mf_add_34 (by decide)) (fun c_40 => ?_) (fun c_40 => ?_)
    · skip
      have nc_40 : (b01 (decide (S.n = 200))) = 0 := (n0_eq (a := (b01 (decide (S.n = 200)))) (by omega)).1 c_40
      have hnf := b01_0 nc_40
      refine gs (pc' := 41) (fun _ _ _ _ _ hl => lv_aload_n hx hb d_Mf_add_40 rfl (lv_at hl 2 rfl)) ?_
      refine g_get hx hb hts hin_Mf hown hK f_3 rfl 5 (by decide) (hts _ wm240) (fun _ h9 => h9) rfl d_Mf_add_41 ?_
      refine gs (pc' := 45) (fun _ _ _ _ _ hl => lv_aload_n hx hb d_Mf_add_44 rfl (lv_at hl 2 rfl)) ?_
      refine g_get hx hb hts hin_Mf hown hK f_3 rfl 6 (by decide) (hts _ wm241) (fun _ h9 => h9) rfl d_Mf_add_45 ?_
      refine gs (pc' := 50) (fun _ _ _ _ _ hl => lv_aload hx hb d_Mf_add_48 (lv_at hl 1 rfl)) ?_
      refine g_get hx hb hts hin_Va hown hK f_27 rfl 0 (by decide) (hts _ wm523) (fun _ h9 => h9) rfl d_Mf_add_50 ?_
      refine gs (pc' := 55) (fun _ _ _ _ _ hl => lv_aload hx hb d_Mf_add_53 (lv_at hl 0 rfl)) ?_
      refine g_get hx hb hts hin_Va hown hK f_31 rfl 0 (by decide) (hts _ wm523) (fun _ h9 => h9) rfl d_Mf_add_55 ?_
      refine gs (pc' := 59) (fun _ _ _ _ _ hl => lv_iload_n hx hb d_Mf_add_58 rfl (lv_at hl 5 rfl)) ?_
      have f_41 : G a.ca = some (30, .inr (0, [.ref a.hd, .ref a.hc, .ref (a.ad 5), .ref (a.ad 6), .ref (a.ad 7), .ref (a.ad 8), .ref (a.ad 9), .ref (a.ad 10)])) := hC.ca
      refine g_outv hlo (g_runV (As := [.ref (a.fr 0), .ref hf_24, .ref hf_28, .int le]) (rest := []) ⟨hx, hb, hml, hown, hts⟩ hK hZ hRc hRs (c3_sum l D cA lo MC MS G B X a S F V hC hX1 hX2 0 (by decide) hf_24 hf_28 (S.v i) (S.v j) (Or.inr kq_26) (Or.inr kq_30) 100 100 rb_10 rb_20 (by decide) le) (fun _ _ => cwV 4 hts (tb_good (tb_cons wm559 (tb_cons wm560 (tb_cons wm561 (tb_cons wm3 k_Ca_setSum))))) rfl rfl rfl (by decide +kernel) ⟨by rw [hRf]; exact Nat.le_of_ble_eq_true rfl, by rw [hRl]; exact Nat.le_of_ble_eq_true rfl⟩) f_41 rfl bl_1 bl_2 rfl (Nat.le_of_ble_eq_true rfl) d_Mf_add_59) (fun G_42 B_43 p_44 => ?_)
      obtain ⟨V_45, C_46, fr_47⟩ := p_44
      have iv_48 : isV cA G_42 r_7 (S.v i) (S.un i) := isV_24 iv_9 fr_47
      have iv_49 : isV cA G_42 r_17 (S.v j) (S.un j) := isV_24 iv_19 fr_47
      have kq_50 : kq cA G_42 hf_24 (S.v i) := kq_24 kq_26 fr_47
      have kq_51 : kq cA G_42 hf_28 (S.v j) := kq_24 kq_30 fr_47
      have fr_52 : gfr (fun x => x < 24) G G_42 := gfr_24 gfr_rf fr_47
      have f_53 : G_42 r_7 = some (30, .inr (6, [.ref hf_24, .int (iI (S.un i))])) := fr_47 _ _ f_27 (show ¬ (30 : Nat) < 24 by decide)
      have f_54 : G_42 r_17 = some (30, .inr (6, [.ref hf_28, .int (iI (S.un j))])) := fr_47 _ _ f_31 (show ¬ (30 : Nat) < 24 by decide)
      have rb_55 : rb (if le = 0 then (S.v i) + (S.v j) else (S.v i) - (S.v j)) 201 := rb_if (show rb ((S.v i) + (S.v j)) 201 from rb_add (j := 100) (k := 100) rb_10 rb_20) (show rb ((S.v i) - (S.v j)) 201 from rb_sub (j := 100) (k := 100) rb_10 rb_20)
      have bl_56 : B_43.1 ≤ MC := Nat.le_trans (w2_le C_46.w).1 hX1
      have bl_57 : B_43.2 ≤ MS := Nat.le_trans (w2_le C_46.w).2 hX2
      refine gs (pc' := 63) (fun _ _ _ _ _ hl => lv_aload_n hx hb d_Mf_add_62 rfl (lv_at hl 2 rfl)) ?_
      refine gs (pc' := 64) (fun _ _ _ _ _ hl => lv_aload_n hx hb d_Mf_add_63 rfl (lv_at hl 2 rfl)) ?_
      have f_58 : G_42 a.x = some (31, .inr (8, [.ref a.vs, .int (nI S.n), .ref a.rs, .int (nI S.rn), .ref a.ws, .ref a.ca, .ref (a.fr 0), .ref (a.fr 1), .ref (a.fr 2), .ref (a.fr 3), .ref a.zr, .ref a.fo, .ref a.ha, .ref a.si])) := C_46.ob
      refine g_get hx hb hts hin_Mf hown hK f_58 rfl 6 (by decide) (hts _ wm241) (fun _ h9 => h9) rfl d_Mf_add_64 ?_
      refine gs (pc' := 69) (fun _ _ _ _ _ hl => lv_aload hx hb d_Mf_add_67 (lv_at hl 1 rfl)) ?_
      refine g_get hx hb hts hin_Va hown hK f_53 rfl 1 (by decide) (hts _ wm525) (fun _ h9 => h9) rfl d_Mf_add_69 ?_
      refine g_outi hlo (g_runV (As := [.ref (a.fr 0), .int (iI (S.un i))]) (rest := []) ⟨hx, hb, hml, hown, hts⟩ hK hZ hRc hRs (c_Mf_keep0 l D cA lo MC MS G_42 B_43 X a S (fup F 0 (some (if le = 0 then (S.v i) + (S.v j) else (S.v i) - (S.v j)))) V_45 C_46 hW (if le = 0 then (S.v i) + (S.v j) else (S.v i) - (S.v j)) rfl 201 rb_55 (by decide) (S.un i) hnf hY1 hY2) (fun _ _ => cwV 2 hts (tb_good (tb_cons wm495 (tb_cons wm497 (tb_cons ws10 (tb_cons wm1 k_Mf_keep))))) rfl rfl rfl (by decide +kernel) ⟨by rw [hRf]; exact Nat.le_of_ble_eq_true rfl, by rw [hRl]; exact Nat.le_of_ble_eq_true rfl⟩) f_58 rfl bl_56 bl_57 rfl (Nat.le_of_ble_eq_true rfl) d_Mf_add_72) (fun r_62 G_59 B_60 p_61 => ?_)
      obtain ⟨e_63, C_64, fr_65⟩ := p_61
      subst e_63
      have fr_66 : gfr (fun x => x < 70) G G_59 := gfr_mono (gfr_tr fr_52 fr_65) (fun x h9 => by rcases h9 with h9 | h9 <;> omega)
      have bl_67 := CW3_le C_64
      have hs2 : sp_add S (iI x) (iI y) (decide (le ≠ 0)) = kp S (if le = 0 then (S.v i) + (S.v j) else (S.v i) - (S.v j)) (S.un i) := by rw [hsp, if_neg hu, if_neg hnf]
      exact hret 75 _ _ _ _ d_Mf_add_75 (Nat.le_trans bl_67.1 hY1) (Nat.le_trans bl_67.2 hY2) ⟨by rw [hs2], by rw [hs2]; exact C_64, fr_66⟩
    · skip
      have nc_40 : (b01 (decide (S.n = 200))) ≠ 0 := (n0_eq (a := (b01 (decide (S.n = 200)))) (by omega)).2 c_40
      have hnf := b01_1 nc_40
      refine gs (pc' := 39) (fun _ _ _ _ _ hl => lv_bipush (v := (-3)) hx hb d_Mf_add_37 (by decide)) ?_
      refine g_eqi (show (-3) = iI (-3) from by decide) ?_
      have hs2 : sp_add S (iI x) (iI y) (decide (le ≠ 0)) = (0, -3, S) := by rw [hsp, if_neg hu, if_pos hnf]
      exact hret 39 _ _ _ _ d_Mf_add_39 bl_1 bl_2 ⟨by rw [hs2], by rw [hs2]; exact hC.up (X1 := (X.1 + 6, X.2 + 209)) (show X.1 ≤ X.1 + 6 by omega) (show X.2 ≤ X.2 + 209 by omega), (gfr_mono (M := fun x => x < 24) gfr_rf (fun x h9 => by omega))⟩
  · skip
    have nc_32 : (S.un i) ≠ (S.un j) := (ii_eq (a := (S.un i)) (b := (S.un j)) (by omega) (by omega) (by omega) (by omega)).2 (by first | exact c_32 | (have z9 := c_32; simp only [nI_iI] at z9; exact z9))
    have hu : S.un i ≠ S.un j := nc_32
    refine gs (pc' := 29) (fun _ _ _ _ _ hl => lv_bipush (v := (-2)) hx hb d_Mf_add_27 (by decide)) ?_
    refine g_eqi (show (-2) = iI (-2) from by decide) ?_
    have hs2 : sp_add S (iI x) (iI y) (decide (le ≠ 0)) = (0, -2, S) := by rw [hsp, if_pos hu]
    exact hret 29 _ _ _ _ d_Mf_add_29 bl_1 bl_2 ⟨by rw [hs2], by rw [hs2]; exact hC.up (X1 := (X.1 + 6, X.2 + 209)) (show X.1 ≤ X.1 + 6 by omega) (show X.2 ≤ X.2 + 209 by omega), (gfr_mono (M := fun x => x < 24) gfr_rf (fun x h9 => by omega))⟩
set_option maxHeartbeats 4000000 in
set_option maxRecDepth 100000 in
theorem t_Mf_add1 (l : Launch) (D : va_G) (cA : Nat → ClassId) (lo MC MS : Nat) (G : gT) (B : Nat × Nat) (X : Nat × Nat) (a : AX) (S : St) (F : Nat → Option Rat) (V : Nat → Nat) (hC : CW cA X a S F V (G, B)) (hW : WF S) (x : Int) (hx1 : -2147483648 ≤ x) (hx2 : x < 2147483648) (y : Int) (hy1 : -2147483648 ≤ y) (hy2 : y < 2147483648) (le : Int32) (hk : (sp_add S (iI x) (iI y) (decide (le ≠ 0))).1 = 1) (hY1 : X.1 + 1 ≤ MC) (hY2 : X.2 + 6 ≤ MS) (hfl : ∀ e : Env, l.admits e → e.platform.stackTraces = false) : gMetT l y_Mf_add w_Mf_add 7 111 D clS (gtys cA) lo MC MS [.ref a.x, .int (iI x), .int (iI y), .int le] G B (gQx D clS lo "java/lang/IndexOutOfBoundsException" (fun u => u = (G, B.1 + 1, B.2 + 6))) := by
  refine g_mett (cc := prog_1_method_3_code) (nL := 6) (ret := (Option.some .int)) (L := [(0, .ref a.x), (1, .int (iI x)), (2, .int (iI y)), (3, .int le)]) (by decide +kernel) rfl (Nat.le_of_ble_eq_true rfl) rfl ?_
  intro p e R s m args below meth c Q hF hRc hRs hRf hRl hne hQ
  obtain ⟨hx, hb, hr, hml, hts0, hown, hlocks, hin, hK, hlo, hZ⟩ := hF
  have hts : ∀ w ∈ tbg, w.before args s = true := fun w h => hts0 w (List.mem_cons_of_mem _ h)
  have hX1 : X.1 ≤ MC := by omega
  have hX2 : X.2 ≤ MS := by omega
  have hn := hW.n
  have hrn := hW.rn
  have hwn := hW.wn
  have bl_1 : B.1 ≤ MC := Nat.le_trans (w2_le hC.w).1 hX1
  have bl_2 : B.2 ≤ MS := Nat.le_trans (w2_le hC.w).2 hX2
  have hv : ¬ (vi S (iI x) ∧ vi S (iI y)) := fun z9 => by
    rw [sp_add, if_neg (fun z8 => z8 z9)] at hk
    split at hk
    · simp at hk
    split at hk
    · simp at hk
    · rw [kp_0] at hk; simp at hk
  by_cases hv1 : vi S (iI x)
  · skip
    have hv2 : ¬ vi S (iI y) := fun z9 => hv ⟨hv1, z9⟩
    obtain ⟨i, hi_i, hxe_x, ei_i⟩ := ix_of hv1.1 hv1.2
    rw [hxe_x]
    refine gs (pc' := 1) (fun _ _ _ _ _ hl => lv_aload_n hx hb d_Mf_add_0 rfl (lv_at hl 0 rfl)) ?_
    refine gs (pc' := 2) (fun _ _ _ _ _ hl => lv_iload_n hx hb d_Mf_add_1 rfl (lv_at hl 1 rfl)) ?_
    have f_3 : G a.x = some (31, .inr (8, [.ref a.vs, .int (nI S.n), .ref a.rs, .int (nI S.rn), .ref a.ws, .ref a.ca, .ref (a.fr 0), .ref (a.fr 1), .ref (a.fr 2), .ref (a.fr 3), .ref a.zr, .ref a.fo, .ref a.ha, .ref a.si])) := hC.ob
    refine g_outr hlo (g_runV (As := [.int (nI i)]) (rest := []) ⟨hx, hb, hml, hown, hts⟩ hK hZ hRc hRs (c_Mf_valueOf l D cA lo MC MS G B X a S F V hC hW i (by omega) hX1 hX2) (fun _ _ => cwV 1 hts (tb_good (tb_cons wm539 (tb_cons wm541 (tb_cons ws11 (tb_cons wm1 k_Mf_valueOf))))) rfl rfl rfl (by decide +kernel) ⟨by rw [hRf]; exact Nat.le_of_ble_eq_true rfl, by rw [hRl]; exact Nat.le_of_ble_eq_true rfl⟩) f_3 rfl bl_1 bl_2 rfl (Nat.le_of_ble_eq_true rfl) d_Mf_add_2) (fun r_7 G_4 B_5 p_6 => ?_)
    obtain ⟨u_8, iv_9⟩ := p_6
    cases u_8
    have rb_10 : rb (S.v i) 100 := rb_of (hW.v _ (by omega)).1
    have ub_11 := (hW.v i (by omega)).2
    have ub_12 := ub_11.1
    have ub_13 := ub_11.2
    refine gst (pc' := 7) (L' := [(4, .ref r_7), (0, .ref a.x), (1, .int (nI i)), (2, .int (iI y)), (3, .int le)]) (fun _ _ _ _ _ hl => lv_astore hx hb d_Mf_add_5 hl (by decide) rfl) ?_
    refine gs (pc' := 8) (fun _ _ _ _ _ hl => lv_aload_n hx hb d_Mf_add_7 rfl (lv_at hl 1 rfl)) ?_
    refine gs (pc' := 9) (fun _ _ _ _ _ hl => lv_iload_n hx hb d_Mf_add_8 rfl (lv_at hl 3 rfl)) ?_
    exact g_up hlocks hne bl_1 bl_2 (g_thrV (As := [.int (iI y)]) (rest := []) ⟨hx, hb, hml, hown, hts⟩ hK hZ hRc hRs (t_Mf_valueOf l D cA lo MC MS G B X a S F V hC hW y hy1 hy2 (nvi hy1 hy2 hv2) hY1 hY2 hfl) (fun _ _ => cwV 1 hts (tb_good (tb_cons wm539 (tb_cons wm541 (tb_cons ws11 (tb_cons wm1 k_Mf_valueOf))))) rfl rfl rfl (by decide +kernel) ⟨by rw [hRf]; exact Nat.le_of_ble_eq_true rfl, by rw [hRl]; exact Nat.le_of_ble_eq_true rfl⟩) f_3 rfl bl_1 bl_2 rfl (Nat.le_of_ble_eq_true rfl) d_Mf_add_9) (fun _ h => h) hQ
  · skip
    refine gs (pc' := 1) (fun _ _ _ _ _ hl => lv_aload_n hx hb d_Mf_add_0 rfl (lv_at hl 0 rfl)) ?_
    refine gs (pc' := 2) (fun _ _ _ _ _ hl => lv_iload_n hx hb d_Mf_add_1 rfl (lv_at hl 1 rfl)) ?_
    have f_14 : G a.x = some (31, .inr (8, [.ref a.vs, .int (nI S.n), .ref a.rs, .int (nI S.rn), .ref a.ws, .ref a.ca, .ref (a.fr 0), .ref (a.fr 1), .ref (a.fr 2), .ref (a.fr 3), .ref a.zr, .ref a.fo, .ref a.ha, .ref a.si])) := hC.ob
    exact g_up hlocks hne bl_1 bl_2 (g_thrV (As := [.int (iI x)]) (rest := []) ⟨hx, hb, hml, hown, hts⟩ hK hZ hRc hRs (t_Mf_valueOf l D cA lo MC MS G B X a S F V hC hW x hx1 hx2 (nvi hx1 hx2 hv1) hY1 hY2 hfl) (fun _ _ => cwV 1 hts (tb_good (tb_cons wm539 (tb_cons wm541 (tb_cons ws11 (tb_cons wm1 k_Mf_valueOf))))) rfl rfl rfl (by decide +kernel) ⟨by rw [hRf]; exact Nat.le_of_ble_eq_true rfl, by rw [hRl]; exact Nat.le_of_ble_eq_true rfl⟩) f_14 rfl bl_1 bl_2 rfl (Nat.le_of_ble_eq_true rfl) d_Mf_add_2) (fun _ h => h) hQ
set_option maxHeartbeats 4000000 in
set_option maxRecDepth 100000 in
theorem c_Mf_times (l : Launch) (D : va_G) (cA : Nat → ClassId) (lo MC MS : Nat) (G : gT) (B : Nat × Nat) (X : Nat × Nat) (a : AX) (S : St) (F : Nat → Option Rat) (V : Nat → Nat) (hC : CW cA X a S F V (G, B)) (hW : WF S) (x : Int) (hx1 : -2147483648 ≤ x) (hx2 : x < 2147483648) (y : Int) (hy1 : -2147483648 ≤ y) (hy2 : y < 2147483648) (hk : (sp_times S (iI x) (iI y)).1 = 0) (hY1 : X.1 + 6 ≤ MC) (hY2 : X.2 + 209 ≤ MS) : gMet l y_Mf_times w_Mf_times 7 190 D clS (gtys cA) lo MC MS [.ref a.x, .int (iI x), .int (iI y)] G B (gQi D clS lo (fun r u => r = iI (sp_times S (iI x) (iI y)).2.1 ∧ CW3 cA (X.1 + 6, X.2 + 209) a (sp_times S (iI x) (iI y)).2.2 u ∧ gfr (fun x => x < 70) G u.1)) := by
  refine g_meti (cc := prog_1_method_4_code) (nL := 6) (L := [(0, .ref a.x), (1, .int (iI x)), (2, .int (iI y))]) (by decide +kernel) rfl (Nat.le_of_ble_eq_true rfl) rfl ?_
  intro p e R s m args below meth c Q hF hRc hRs hRf hRl hret
  obtain ⟨hx, hb, hr, hml, hts0, hown, hlocks, hin, hK, hlo, hZ⟩ := hF
  have hts : ∀ w ∈ tbg, w.before args s = true := fun w h => hts0 w (List.mem_cons_of_mem _ h)
  have hX1 : X.1 ≤ MC := by omega
  have hX2 : X.2 ≤ MS := by omega
  have hn := hW.n
  have hrn := hW.rn
  have hwn := hW.wn
  have bl_1 : B.1 ≤ MC := Nat.le_trans (w2_le hC.w).1 hX1
  have bl_2 : B.2 ≤ MS := Nat.le_trans (w2_le hC.w).2 hX2
  have hv : vi S (iI x) ∧ vi S (iI y) := by
    by_cases z9 : vi S (iI x) ∧ vi S (iI y)
    · exact z9
    · rw [sp_times, if_pos z9] at hk; simp at hk
  obtain ⟨i, hi_i, hxe_x, ei_i⟩ := ix_of hv.1.1 hv.1.2
  rw [hxe_x]
  obtain ⟨j, hi_j, hxe_y, ei_j⟩ := ix_of hv.2.1 hv.2.2
  rw [hxe_y]
  have hsp : sp_times S (iI x) (iI y) = if ¬ uok (S.un i + S.un j) then (0, -2, S) else if S.n = 200 then (0, -3, S) else kp S (S.v i * S.v j) (S.un i + S.un j) := by
    rw [sp_times, if_neg (fun z9 => z9 hv), ei_i, ei_j]
  refine gs (pc' := 1) (fun _ _ _ _ _ hl => lv_aload_n hx hb d_Mf_times_0 rfl (lv_at hl 0 rfl)) ?_
  refine gs (pc' := 2) (fun _ _ _ _ _ hl => lv_iload_n hx hb d_Mf_times_1 rfl (lv_at hl 1 rfl)) ?_
  have f_3 : G a.x = some (31, .inr (8, [.ref a.vs, .int (nI S.n), .ref a.rs, .int (nI S.rn), .ref a.ws, .ref a.ca, .ref (a.fr 0), .ref (a.fr 1), .ref (a.fr 2), .ref (a.fr 3), .ref a.zr, .ref a.fo, .ref a.ha, .ref a.si])) := hC.ob
  refine g_outr hlo (g_runV (As := [.int (nI i)]) (rest := []) ⟨hx, hb, hml, hown, hts⟩ hK hZ hRc hRs (c_Mf_valueOf l D cA lo MC MS G B X a S F V hC hW i (by omega) hX1 hX2) (fun _ _ => cwV 1 hts (tb_good (tb_cons wm539 (tb_cons wm541 (tb_cons ws11 (tb_cons wm1 k_Mf_valueOf))))) rfl rfl rfl (by decide +kernel) ⟨by rw [hRf]; exact Nat.le_of_ble_eq_true rfl, by rw [hRl]; exact Nat.le_of_ble_eq_true rfl⟩) f_3 rfl bl_1 bl_2 rfl (Nat.le_of_ble_eq_true rfl) d_Mf_times_2) (fun r_7 G_4 B_5 p_6 => ?_)
  obtain ⟨u_8, iv_9⟩ := p_6
  cases u_8
  have rb_10 : rb (S.v i) 100 := rb_of (hW.v _ (by omega)).1
  have ub_11 := (hW.v i (by omega)).2
  have ub_12 := ub_11.1
  have ub_13 := ub_11.2
  refine gst (pc' := 6) (L' := [(3, .ref r_7), (0, .ref a.x), (1, .int (nI i)), (2, .int (nI j))]) (fun _ _ _ _ _ hl => lv_astore_n hx hb d_Mf_times_5 rfl hl (by decide) rfl) ?_
  refine gs (pc' := 7) (fun _ _ _ _ _ hl => lv_aload_n hx hb d_Mf_times_6 rfl (lv_at hl 1 rfl)) ?_
  refine gs (pc' := 8) (fun _ _ _ _ _ hl => lv_iload_n hx hb d_Mf_times_7 rfl (lv_at hl 3 rfl)) ?_
  refine g_outr hlo (g_runV (As := [.int (nI j)]) (rest := []) ⟨hx, hb, hml, hown, hts⟩ hK hZ hRc hRs (c_Mf_valueOf l D cA lo MC MS G B X a S F V hC hW j (by omega) hX1 hX2) (fun _ _ => cwV 1 hts (tb_good (tb_cons wm539 (tb_cons wm541 (tb_cons ws11 (tb_cons wm1 k_Mf_valueOf))))) rfl rfl rfl (by decide +kernel) ⟨by rw [hRf]; exact Nat.le_of_ble_eq_true rfl, by rw [hRl]; exact Nat.le_of_ble_eq_true rfl⟩) f_3 rfl bl_1 bl_2 rfl (Nat.le_of_ble_eq_true rfl) d_Mf_times_8) (fun r_17 G_14 B_15 p_16 => ?_)
  obtain ⟨u_18, iv_19⟩ := p_16
  cases u_18
  have rb_20 : rb (S.v j) 100 := rb_of (hW.v _ (by omega)).1
  have ub_21 := (hW.v j (by omega)).2
  have ub_22 := ub_21.1
  have ub_23 := ub_21.2
  refine gst (pc' := 13) (L' := [(4, .ref r_17), (3, .ref r_7), (0, .ref a.x), (1, .int (nI i)), (2, .int (nI j))]) (fun _ _ _ _ _ hl => lv_astore hx hb d_Mf_times_11 hl (by decide) rfl) ?_
  refine gs (pc' := 14) (fun _ _ _ _ _ hl => lv_aload_n hx hb d_Mf_times_13 rfl (lv_at hl 1 rfl)) ?_
  obtain ⟨hf_24, f_25, kq_26⟩ := id iv_9
  have f_27 : G r_7 = some (30, .inr (6, [.ref hf_24, .int (iI (S.un i))])) := f_25
  refine g_get hx hb hts hin_Va hown hK f_27 rfl 1 (by decide) (hts _ wm525) (fun _ h9 => h9) rfl d_Mf_times_14 ?_
  refine gs (pc' := 19) (fun _ _ _ _ _ hl => lv_aload hx hb d_Mf_times_17 (lv_at hl 0 rfl)) ?_
  obtain ⟨hf_28, f_29, kq_30⟩ := id iv_19
  have f_31 : G r_17 = some (30, .inr (6, [.ref hf_28, .int (iI (S.un j))])) := f_29
  refine g_get hx hb hts hin_Va hown hK f_31 rfl 1 (by decide) (hts _ wm525) (fun _ h9 => h9) rfl d_Mf_times_19 ?_
  refine gs (pc' := 23) (fun _ _ _ _ _ hl => lv_iadd hx hb d_Mf_times_22) ?_
  refine g_eqi (show (iI (S.un i)) + (iI (S.un j)) = iI ((S.un i) + (S.un j)) from by exact iI_add _ _) ?_
  refine gst (pc' := 25) (L' := [(5, .int (iI ((S.un i) + (S.un j)))), (4, .ref r_17), (3, .ref r_7), (0, .ref a.x), (1, .int (nI i)), (2, .int (nI j))]) (fun _ _ _ _ _ hl => lv_istore hx hb d_Mf_times_23 hl (by decide) rfl) ?_
  refine gs (pc' := 27) (fun _ _ _ _ _ hl => lv_iload hx hb d_Mf_times_25 (lv_at hl 0 rfl)) ?_
  refine g_outi hlo (g_runS (As := [.int (iI ((S.un i) + (S.un j)))]) (rest := []) ⟨hx, hb, hml, hown, hts⟩ hK hZ hRc hRs (c_Mf_isUnit l D cA lo MC MS G B ((S.un i) + (S.un j)) (by omega) (by omega) bl_1 bl_2) (fun _ _ => va_cwS 1 hts (tb_good (tb_cons wm367 (tb_cons wm368 (tb_cons wm1 k_Mf_isUnit)))) rfl rfl rfl (by decide +kernel) ⟨by rw [hRf]; exact Nat.le_of_ble_eq_true rfl, by rw [hRl]; exact Nat.le_of_ble_eq_true rfl⟩) bl_1 bl_2 rfl (Nat.le_of_ble_eq_true rfl) d_Mf_times_27) (fun r_35 G_32 B_33 p_34 => ?_)
  obtain ⟨u_36, e_37⟩ := p_34
  cases u_36
  subst e_37
  have bd_38 := b01_le (decide (uok ((S.un i) + (S.un j))))
  refine gsb (pc1 := 36) (pc2 := 33) (fun _ _ _ _ _ => lv_if_ne (tgt := 36) hx hb d_Mf_times_30 (by decide)) (fun c_39 => ?_) (fun c_39 => ?_)
  · skip
    have nc_39 : (b01 (decide (uok ((S.un i) + (S.un j))))) ≠ 0 := (n0_ne (a := (b01 (decide (uok ((S.un i) + (S.un j)))))) (by omega)).1 c_39
    have hu : ¬ ¬ uok (S.un i + S.un j) := fun z9 => z9 (b01_1 nc_39)
    refine gs (pc' := 37) (fun _ _ _ _ _ hl => lv_aload_n hx hb d_Mf_times_36 rfl (lv_at hl 3 rfl)) ?_
    refine g_outi hlo (g_runV (As := []) (rest := []) ⟨hx, hb, hml, hown, hts⟩ hK hZ hRc hRs (c_Mf_isFull l D cA lo MC MS G B X a S F V hC hW hX1 hX2) (fun _ _ => cwV 0 hts (tb_good (tb_cons wm386 (tb_cons wm388 (tb_cons ws1 (tb_cons wm1 k_Mf_isFull))))) rfl rfl rfl (by decide +kernel) ⟨by rw [hRf]; exact Nat.le_of_ble_eq_true rfl, by rw [hRl]; exact Nat.le_of_ble_eq_true rfl⟩) f_3 rfl bl_1 bl_2 rfl (Nat.le_of_ble_eq_true rfl) d_Mf_times_37) (fun r_43 G_40 B_41 p_42 => ?_)
    obtain ⟨u_44, e_45⟩ := p_42
    cases u_44
    subst e_45
    have bd_46 := b01_le (decide (S.n = 200))
    refine gsb (pc1 := 46) (pc2 := 43) (fun _ _ _ _ _ => lv_if_eq (tgt := 46) hx hb d_Mf_times_40 (by decide)) (fun c_47 => ?_) (fun c_47 => ?_)
    · skip
      have nc_47 : (b01 (decide (S.n = 200))) = 0 := (n0_eq (a := (b01 (decide (S.n = 200)))) (by omega)).1 c_47
      have hnf := b01_0 nc_47
      refine gs (pc' := 47) (fun _ _ _ _ _ hl => lv_aload_n hx hb d_Mf_times_46 rfl (lv_at hl 3 rfl)) ?_
      refine g_get hx hb hts hin_Mf hown hK f_3 rfl 5 (by decide) (hts _ wm240) (fun _ h9 => h9) rfl d_Mf_times_47 ?_
      refine gs (pc' := 51) (fun _ _ _ _ _ hl => lv_aload_n hx hb d_Mf_times_50 rfl (lv_at hl 3 rfl)) ?_
      refine g_get hx hb hts hin_Mf hown hK f_3 rfl 6 (by decide) (hts _ wm241) (fun _ h9 => h9) rfl d_Mf_times_51 ?_
      refine gs (pc' := 55) (fun _ _ _ _ _ hl => lv_aload_n hx hb d_Mf_times_54 rfl (lv_at hl 2 rfl)) ?_
      refine g_get hx hb hts hin_Va hown hK f_27 rfl 0 (by decide) (hts _ wm523) (fun _ h9 => h9) rfl d_Mf_times_55 ?_
      refine gs (pc' := 60) (fun _ _ _ _ _ hl => lv_aload hx hb d_Mf_times_58 (lv_at hl 1 rfl)) ?_
      refine g_get hx hb hts hin_Va hown hK f_31 rfl 0 (by decide) (hts _ wm523) (fun _ h9 => h9) rfl d_Mf_times_60 ?_
      refine gs (pc' := 64) (fun _ _ _ _ _ hl => lv_iconst (v := nI 0) hx hb d_Mf_times_63 (by decide)) ?_
      have f_48 : G a.ca = some (30, .inr (0, [.ref a.hd, .ref a.hc, .ref (a.ad 5), .ref (a.ad 6), .ref (a.ad 7), .ref (a.ad 8), .ref (a.ad 9), .ref (a.ad 10)])) := hC.ca
      refine g_outv hlo (g_runV (As := [.ref (a.fr 0), .ref hf_24, .ref hf_28, .int (nI 0)]) (rest := []) ⟨hx, hb, hml, hown, hts⟩ hK hZ hRc hRs (c3_mul l D cA lo MC MS G B X a S F V hC hX1 hX2 0 (by decide) hf_24 hf_28 (S.v i) (S.v j) (Or.inr kq_26) (Or.inr kq_30) 100 100 rb_10 rb_20 (by decide)) (fun _ _ => cwV 4 hts (tb_good (tb_cons wm588 (tb_cons wm589 (tb_cons wm590 (tb_cons wm3 k_Ca_setProduct))))) rfl rfl rfl (by decide +kernel) ⟨by rw [hRf]; exact Nat.le_of_ble_eq_true rfl, by rw [hRl]; exact Nat.le_of_ble_eq_true rfl⟩) f_48 rfl bl_1 bl_2 rfl (Nat.le_of_ble_eq_true rfl) d_Mf_times_64) (fun G_49 B_50 p_51 => ?_)
      obtain ⟨V_52, C_53, fr_54⟩ := p_51
      have iv_55 : isV cA G_49 r_7 (S.v i) (S.un i) := isV_24 iv_9 fr_54
      have iv_56 : isV cA G_49 r_17 (S.v j) (S.un j) := isV_24 iv_19 fr_54
      have kq_57 : kq cA G_49 hf_24 (S.v i) := kq_24 kq_26 fr_54
      have kq_58 : kq cA G_49 hf_28 (S.v j) := kq_24 kq_30 fr_54
      have fr_59 : gfr (fun x => x < 24) G G_49 := gfr_24 gfr_rf fr_54
      have f_60 : G_49 r_7 = some (30, .inr (6, [.ref hf_24, .int (iI (S.un i))])) := fr_54 _ _ f_27 (show ¬ (30 : Nat) < 24 by decide)
      have f_61 : G_49 r_17 = some (30, .inr (6, [.ref hf_28, .int (iI (S.un j))])) := fr_54 _ _ f_31 (show ¬ (30 : Nat) < 24 by decide)
      have rb_62 : rb ((S.v i) * (S.v j)) 200 := rb_mul (j := 100) (k := 100) rb_10 rb_20
      have bl_63 : B_50.1 ≤ MC := Nat.le_trans (w2_le C_53.w).1 hX1
      have bl_64 : B_50.2 ≤ MS := Nat.le_trans (w2_le C_53.w).2 hX2
      refine gs (pc' := 68) (fun _ _ _ _ _ hl => lv_aload_n hx hb d_Mf_times_67 rfl (lv_at hl 3 rfl)) ?_
      refine gs (pc' := 69) (fun _ _ _ _ _ hl => lv_aload_n hx hb d_Mf_times_68 rfl (lv_at hl 3 rfl)) ?_
      have f_65 : G_49 a.x = some (31, .inr (8, [.ref a.vs, .int (nI S.n), .ref a.rs, .int (nI S.rn), .ref a.ws, .ref a.ca, .ref (a.fr 0), .ref (a.fr 1), .ref (a.fr 2), .ref (a.fr 3), .ref a.zr, .ref a.fo, .ref a.ha, .ref a.si])) := C_53.ob
      refine g_get hx hb hts hin_Mf hown hK f_65 rfl 6 (by decide) (hts _ wm241) (fun _ h9 => h9) rfl d_Mf_times_69 ?_
      refine gs (pc' := 74) (fun _ _ _ _ _ hl => lv_iload hx hb d_Mf_times_72 (lv_at hl 0 rfl)) ?_
      refine g_outi hlo (g_runV (As := [.ref (a.fr 0), .int (iI ((S.un i) + (S.un j)))]) (rest := []) ⟨hx, hb, hml, hown, hts⟩ hK hZ hRc hRs (c_Mf_keep0 l D cA lo MC MS G_49 B_50 X a S (fup F 0 (some ((S.v i) * (S.v j)))) V_52 C_53 hW ((S.v i) * (S.v j)) rfl 200 rb_62 (by decide) ((S.un i) + (S.un j)) hnf hY1 hY2) (fun _ _ => cwV 2 hts (tb_good (tb_cons wm495 (tb_cons wm497 (tb_cons ws10 (tb_cons wm1 k_Mf_keep))))) rfl rfl rfl (by decide +kernel) ⟨by rw [hRf]; exact Nat.le_of_ble_eq_true rfl, by rw [hRl]; exact Nat.le_of_ble_eq_true rfl⟩) f_65 rfl bl_63 bl_64 rfl (Nat.le_of_ble_eq_true rfl) d_Mf_times_74) (fun r_69 G_66 B_67 p_68 => ?_)
      obtain ⟨e_70, C_71, fr_72⟩ := p_68
      subst e_70
      have fr_73 : gfr (fun x => x < 70) G G_66 := gfr_mono (gfr_tr fr_59 fr_72) (fun x h9 => by rcases h9 with h9 | h9 <;> omega)
      have bl_74 := CW3_le C_71
      have hs2 : sp_times S (iI x) (iI y) = kp S ((S.v i) * (S.v j)) ((S.un i) + (S.un j)) := by rw [hsp, if_neg hu, if_neg hnf]
      exact hret 77 _ _ _ _ d_Mf_times_77 (Nat.le_trans bl_74.1 hY1) (Nat.le_trans bl_74.2 hY2) ⟨by rw [hs2], by rw [hs2]; exact C_71, fr_73⟩
    · skip
      have nc_47 : (b01 (decide (S.n = 200))) ≠ 0 := (n0_eq (a := (b01 (decide (S.n = 200)))) (by omega)).2 c_47
      have hnf := b01_1 nc_47
      refine gs (pc' := 45) (fun _ _ _ _ _ hl => lv_bipush (v := (-3)) hx hb d_Mf_times_43 (by decide)) ?_
      refine g_eqi (show (-3) = iI (-3) from by decide) ?_
      have hs2 : sp_times S (iI x) (iI y) = (0, -3, S) := by rw [hsp, if_neg hu, if_pos hnf]
      exact hret 45 _ _ _ _ d_Mf_times_45 bl_1 bl_2 ⟨by rw [hs2], by rw [hs2]; exact hC.up (X1 := (X.1 + 6, X.2 + 209)) (show X.1 ≤ X.1 + 6 by omega) (show X.2 ≤ X.2 + 209 by omega), (gfr_mono (M := fun x => x < 24) gfr_rf (fun x h9 => by omega))⟩
  · skip
    have nc_39 : (b01 (decide (uok ((S.un i) + (S.un j))))) = 0 := (n0_ne (a := (b01 (decide (uok ((S.un i) + (S.un j)))))) (by omega)).2 c_39
    have hu := b01_0 nc_39
    refine gs (pc' := 35) (fun _ _ _ _ _ hl => lv_bipush (v := (-2)) hx hb d_Mf_times_33 (by decide)) ?_
    refine g_eqi (show (-2) = iI (-2) from by decide) ?_
    have hs2 : sp_times S (iI x) (iI y) = (0, -2, S) := by rw [hsp, if_pos hu]
    exact hret 35 _ _ _ _ d_Mf_times_35 bl_1 bl_2 ⟨by rw [hs2], by rw [hs2]; exact hC.up (X1 := (X.1 + 6, X.2 + 209)) (show X.1 ≤ X.1 + 6 by omega) (show X.2 ≤ X.2 + 209 by omega), (gfr_mono (M := fun x => x < 24) gfr_rf (fun x h9 => by omega))⟩
set_option maxHeartbeats 4000000 in
set_option maxRecDepth 100000 in
theorem t_Mf_times1 (l : Launch) (D : va_G) (cA : Nat → ClassId) (lo MC MS : Nat) (G : gT) (B : Nat × Nat) (X : Nat × Nat) (a : AX) (S : St) (F : Nat → Option Rat) (V : Nat → Nat) (hC : CW cA X a S F V (G, B)) (hW : WF S) (x : Int) (hx1 : -2147483648 ≤ x) (hx2 : x < 2147483648) (y : Int) (hy1 : -2147483648 ≤ y) (hy2 : y < 2147483648) (hk : (sp_times S (iI x) (iI y)).1 = 1) (hY1 : X.1 + 1 ≤ MC) (hY2 : X.2 + 6 ≤ MS) (hfl : ∀ e : Env, l.admits e → e.platform.stackTraces = false) : gMetT l y_Mf_times w_Mf_times 7 111 D clS (gtys cA) lo MC MS [.ref a.x, .int (iI x), .int (iI y)] G B (gQx D clS lo "java/lang/IndexOutOfBoundsException" (fun u => u = (G, B.1 + 1, B.2 + 6))) := by
  refine g_mett (cc := prog_1_method_4_code) (nL := 6) (ret := (Option.some .int)) (L := [(0, .ref a.x), (1, .int (iI x)), (2, .int (iI y))]) (by decide +kernel) rfl (Nat.le_of_ble_eq_true rfl) rfl ?_
  intro p e R s m args below meth c Q hF hRc hRs hRf hRl hne hQ
  obtain ⟨hx, hb, hr, hml, hts0, hown, hlocks, hin, hK, hlo, hZ⟩ := hF
  have hts : ∀ w ∈ tbg, w.before args s = true := fun w h => hts0 w (List.mem_cons_of_mem _ h)
  have hX1 : X.1 ≤ MC := by omega
  have hX2 : X.2 ≤ MS := by omega
  have hn := hW.n
  have hrn := hW.rn
  have hwn := hW.wn
  have bl_1 : B.1 ≤ MC := Nat.le_trans (w2_le hC.w).1 hX1
  have bl_2 : B.2 ≤ MS := Nat.le_trans (w2_le hC.w).2 hX2
  have hv : ¬ (vi S (iI x) ∧ vi S (iI y)) := fun z9 => by
    rw [sp_times, if_neg (fun z8 => z8 z9)] at hk
    split at hk
    · simp at hk
    split at hk
    · simp at hk
    · rw [kp_0] at hk; simp at hk
  by_cases hv1 : vi S (iI x)
  · skip
    have hv2 : ¬ vi S (iI y) := fun z9 => hv ⟨hv1, z9⟩
    obtain ⟨i, hi_i, hxe_x, ei_i⟩ := ix_of hv1.1 hv1.2
    rw [hxe_x]
    refine gs (pc' := 1) (fun _ _ _ _ _ hl => lv_aload_n hx hb d_Mf_times_0 rfl (lv_at hl 0 rfl)) ?_
    refine gs (pc' := 2) (fun _ _ _ _ _ hl => lv_iload_n hx hb d_Mf_times_1 rfl (lv_at hl 1 rfl)) ?_
    have f_3 : G a.x = some (31, .inr (8, [.ref a.vs, .int (nI S.n), .ref a.rs, .int (nI S.rn), .ref a.ws, .ref a.ca, .ref (a.fr 0), .ref (a.fr 1), .ref (a.fr 2), .ref (a.fr 3), .ref a.zr, .ref a.fo, .ref a.ha, .ref a.si])) := hC.ob
    refine g_outr hlo (g_runV (As := [.int (nI i)]) (rest := []) ⟨hx, hb, hml, hown, hts⟩ hK hZ hRc hRs (c_Mf_valueOf l D cA lo MC MS G B X a S F V hC hW i (by omega) hX1 hX2) (fun _ _ => cwV 1 hts (tb_good (tb_cons wm539 (tb_cons wm541 (tb_cons ws11 (tb_cons wm1 k_Mf_valueOf))))) rfl rfl rfl (by decide +kernel) ⟨by rw [hRf]; exact Nat.le_of_ble_eq_true rfl, by rw [hRl]; exact Nat.le_of_ble_eq_true rfl⟩) f_3 rfl bl_1 bl_2 rfl (Nat.le_of_ble_eq_true rfl) d_Mf_times_2) (fun r_7 G_4 B_5 p_6 => ?_)
    obtain ⟨u_8, iv_9⟩ := p_6
    cases u_8
    have rb_10 : rb (S.v i) 100 := rb_of (hW.v _ (by omega)).1
    have ub_11 := (hW.v i (by omega)).2
    have ub_12 := ub_11.1
    have ub_13 := ub_11.2
    refine gst (pc' := 6) (L' := [(3, .ref r_7), (0, .ref a.x), (1, .int (nI i)), (2, .int (iI y))]) (fun _ _ _ _ _ hl => lv_astore_n hx hb d_Mf_times_5 rfl hl (by decide) rfl) ?_
    refine gs (pc' := 7) (fun _ _ _ _ _ hl => lv_aload_n hx hb d_Mf_times_6 rfl (lv_at hl 1 rfl)) ?_
    refine gs (pc' := 8) (fun _ _ _ _ _ hl => lv_iload_n hx hb d_Mf_times_7 rfl (lv_at hl 3 rfl)) ?_
    exact g_up hlocks hne bl_1 bl_2 (g_thrV (As := [.int (iI y)]) (rest := []) ⟨hx, hb, hml, hown, hts⟩ hK hZ hRc hRs (t_Mf_valueOf l D cA lo MC MS G B X a S F V hC hW y hy1 hy2 (nvi hy1 hy2 hv2) hY1 hY2 hfl) (fun _ _ => cwV 1 hts (tb_good (tb_cons wm539 (tb_cons wm541 (tb_cons ws11 (tb_cons wm1 k_Mf_valueOf))))) rfl rfl rfl (by decide +kernel) ⟨by rw [hRf]; exact Nat.le_of_ble_eq_true rfl, by rw [hRl]; exact Nat.le_of_ble_eq_true rfl⟩) f_3 rfl bl_1 bl_2 rfl (Nat.le_of_ble_eq_true rfl) d_Mf_times_8) (fun _ h => h) hQ
  · skip
    refine gs (pc' := 1) (fun _ _ _ _ _ hl => lv_aload_n hx hb d_Mf_times_0 rfl (lv_at hl 0 rfl)) ?_
    refine gs (pc' := 2) (fun _ _ _ _ _ hl => lv_iload_n hx hb d_Mf_times_1 rfl (lv_at hl 1 rfl)) ?_
    have f_14 : G a.x = some (31, .inr (8, [.ref a.vs, .int (nI S.n), .ref a.rs, .int (nI S.rn), .ref a.ws, .ref a.ca, .ref (a.fr 0), .ref (a.fr 1), .ref (a.fr 2), .ref (a.fr 3), .ref a.zr, .ref a.fo, .ref a.ha, .ref a.si])) := hC.ob
    exact g_up hlocks hne bl_1 bl_2 (g_thrV (As := [.int (iI x)]) (rest := []) ⟨hx, hb, hml, hown, hts⟩ hK hZ hRc hRs (t_Mf_valueOf l D cA lo MC MS G B X a S F V hC hW x hx1 hx2 (nvi hx1 hx2 hv1) hY1 hY2 hfl) (fun _ _ => cwV 1 hts (tb_good (tb_cons wm539 (tb_cons wm541 (tb_cons ws11 (tb_cons wm1 k_Mf_valueOf))))) rfl rfl rfl (by decide +kernel) ⟨by rw [hRf]; exact Nat.le_of_ble_eq_true rfl, by rw [hRl]; exact Nat.le_of_ble_eq_true rfl⟩) f_14 rfl bl_1 bl_2 rfl (Nat.le_of_ble_eq_true rfl) d_Mf_times_2) (fun _ h => h) hQ
set_option maxHeartbeats 4000000 in
set_option maxRecDepth 100000 in
theorem c_Mf_over (l : Launch) (D : va_G) (cA : Nat → ClassId) (lo MC MS : Nat) (G : gT) (B : Nat × Nat) (X : Nat × Nat) (a : AX) (S : St) (F : Nat → Option Rat) (V : Nat → Nat) (hC : CW cA X a S F V (G, B)) (hW : WF S) (x : Int) (hx1 : -2147483648 ≤ x) (hx2 : x < 2147483648) (y : Int) (hy1 : -2147483648 ≤ y) (hy2 : y < 2147483648) (hk : (sp_over S (iI x) (iI y)).1 = 0) (hY1 : X.1 + 6 ≤ MC) (hY2 : X.2 + 209 ≤ MS) : gMet l y_Mf_over w_Mf_over 7 190 D clS (gtys cA) lo MC MS [.ref a.x, .int (iI x), .int (iI y)] G B (gQi D clS lo (fun r u => r = iI (sp_over S (iI x) (iI y)).2.1 ∧ CW3 cA (X.1 + 6, X.2 + 209) a (sp_over S (iI x) (iI y)).2.2 u ∧ gfr (fun x => x < 70) G u.1)) := by
  refine g_meti (cc := prog_1_method_5_code) (nL := 6) (L := [(0, .ref a.x), (1, .int (iI x)), (2, .int (iI y))]) (by decide +kernel) rfl (Nat.le_of_ble_eq_true rfl) rfl ?_
  intro p e R s m args below meth c Q hF hRc hRs hRf hRl hret
  obtain ⟨hx, hb, hr, hml, hts0, hown, hlocks, hin, hK, hlo, hZ⟩ := hF
  have hts : ∀ w ∈ tbg, w.before args s = true := fun w h => hts0 w (List.mem_cons_of_mem _ h)
  have hX1 : X.1 ≤ MC := by omega
  have hX2 : X.2 ≤ MS := by omega
  have hn := hW.n
  have hrn := hW.rn
  have hwn := hW.wn
  have bl_1 : B.1 ≤ MC := Nat.le_trans (w2_le hC.w).1 hX1
  have bl_2 : B.2 ≤ MS := Nat.le_trans (w2_le hC.w).2 hX2
  have hv : vi S (iI x) ∧ vi S (iI y) := by
    by_cases z9 : vi S (iI x) ∧ vi S (iI y)
    · exact z9
    · rw [sp_over, if_pos z9] at hk; simp at hk
  obtain ⟨i, hi_i, hxe_x, ei_i⟩ := ix_of hv.1.1 hv.1.2
  rw [hxe_x]
  obtain ⟨j, hi_j, hxe_y, ei_j⟩ := ix_of hv.2.1 hv.2.2
  rw [hxe_y]
  have hvz : S.v j ≠ 0 := fun z9 => by rw [sp_over, if_neg (fun z8 => z8 hv), ei_j, if_pos z9] at hk; simp at hk
  have hnz : (S.v j).num ≠ 0 := fun z9 => hvz (Rat.num_eq_zero.mp z9)
  have hsp : sp_over S (iI x) (iI y) = if ¬ uok (S.un i - S.un j) then (0, -2, S) else if S.n = 200 then (0, -3, S) else kp S (S.v i / S.v j) (S.un i - S.un j) := by
    rw [sp_over, if_neg (fun z9 => z9 hv), ei_i, ei_j, if_neg hvz]
  refine gs (pc' := 1) (fun _ _ _ _ _ hl => lv_aload_n hx hb d_Mf_over_0 rfl (lv_at hl 0 rfl)) ?_
  refine gs (pc' := 2) (fun _ _ _ _ _ hl => lv_iload_n hx hb d_Mf_over_1 rfl (lv_at hl 1 rfl)) ?_
  have f_3 : G a.x = some (31, .inr (8, [.ref a.vs, .int (nI S.n), .ref a.rs, .int (nI S.rn), .ref a.ws, .ref a.ca, .ref (a.fr 0), .ref (a.fr 1), .ref (a.fr 2), .ref (a.fr 3), .ref a.zr, .ref a.fo, .ref a.ha, .ref a.si])) := hC.ob
  refine g_outr hlo (g_runV (As := [.int (nI i)]) (rest := []) ⟨hx, hb, hml, hown, hts⟩ hK hZ hRc hRs (c_Mf_valueOf l D cA lo MC MS G B X a S F V hC hW i (by omega) hX1 hX2) (fun _ _ => cwV 1 hts (tb_good (tb_cons wm539 (tb_cons wm541 (tb_cons ws11 (tb_cons wm1 k_Mf_valueOf))))) rfl rfl rfl (by decide +kernel) ⟨by rw [hRf]; exact Nat.le_of_ble_eq_true rfl, by rw [hRl]; exact Nat.le_of_ble_eq_true rfl⟩) f_3 rfl bl_1 bl_2 rfl (Nat.le_of_ble_eq_true rfl) d_Mf_over_2) (fun r_7 G_4 B_5 p_6 => ?_)
  obtain ⟨u_8, iv_9⟩ := p_6
  cases u_8
  have rb_10 : rb (S.v i) 100 := rb_of (hW.v _ (by omega)).1
  have ub_11 := (hW.v i (by omega)).2
  have ub_12 := ub_11.1
  have ub_13 := ub_11.2
  refine gst (pc' := 6) (L' := [(3, .ref r_7), (0, .ref a.x), (1, .int (nI i)), (2, .int (nI j))]) (fun _ _ _ _ _ hl => lv_astore_n hx hb d_Mf_over_5 rfl hl (by decide) rfl) ?_
  refine gs (pc' := 7) (fun _ _ _ _ _ hl => lv_aload_n hx hb d_Mf_over_6 rfl (lv_at hl 1 rfl)) ?_
  refine gs (pc' := 8) (fun _ _ _ _ _ hl => lv_iload_n hx hb d_Mf_over_7 rfl (lv_at hl 3 rfl)) ?_
  refine g_outr hlo (g_runV (As := [.int (nI j)]) (rest := []) ⟨hx, hb, hml, hown, hts⟩ hK hZ hRc hRs (c_Mf_valueOf l D cA lo MC MS G B X a S F V hC hW j (by omega) hX1 hX2) (fun _ _ => cwV 1 hts (tb_good (tb_cons wm539 (tb_cons wm541 (tb_cons ws11 (tb_cons wm1 k_Mf_valueOf))))) rfl rfl rfl (by decide +kernel) ⟨by rw [hRf]; exact Nat.le_of_ble_eq_true rfl, by rw [hRl]; exact Nat.le_of_ble_eq_true rfl⟩) f_3 rfl bl_1 bl_2 rfl (Nat.le_of_ble_eq_true rfl) d_Mf_over_8) (fun r_17 G_14 B_15 p_16 => ?_)
  obtain ⟨u_18, iv_19⟩ := p_16
  cases u_18
  have rb_20 : rb (S.v j) 100 := rb_of (hW.v _ (by omega)).1
  have ub_21 := (hW.v j (by omega)).2
  have ub_22 := ub_21.1
  have ub_23 := ub_21.2
  refine gst (pc' := 13) (L' := [(4, .ref r_17), (3, .ref r_7), (0, .ref a.x), (1, .int (nI i)), (2, .int (nI j))]) (fun _ _ _ _ _ hl => lv_astore hx hb d_Mf_over_11 hl (by decide) rfl) ?_
  refine gs (pc' := 15) (fun _ _ _ _ _ hl => lv_aload hx hb d_Mf_over_13 (lv_at hl 0 rfl)) ?_
  obtain ⟨hf_24, f_25, kq_26⟩ := id iv_19
  have f_27 : G r_17 = some (30, .inr (6, [.ref hf_24, .int (iI (S.un j))])) := f_25
  refine g_get hx hb hts hin_Va hown hK f_27 rfl 0 (by decide) (hts _ wm523) (fun _ h9 => h9) rfl d_Mf_over_15 ?_
  obtain ⟨t_28, ha_29, hb_30, e_31, f_32, rd_33, rd_34⟩ := id kq_26
  refine g_get hx hb hts hin_Fr hown hK f_32 rfl 0 (by decide) (hts _ wm165) (fun _ h9 => h9) rfl d_Mf_over_18 ?_
  refine gsb (pc1 := 34) (pc2 := 24) (fun _ _ _ _ _ => lv_if_ne (tgt := 34) hx hb d_Mf_over_21 (by decide)) (fun c_35 => ?_) (fun c_35 => ?_)
  · skip
    refine gs (pc' := 35) (fun _ _ _ _ _ hl => lv_aload_n hx hb d_Mf_over_34 rfl (lv_at hl 1 rfl)) ?_
    obtain ⟨hf_36, f_37, kq_38⟩ := id iv_9
    have f_39 : G r_7 = some (30, .inr (6, [.ref hf_36, .int (iI (S.un i))])) := f_37
    refine g_get hx hb hts hin_Va hown hK f_39 rfl 1 (by decide) (hts _ wm525) (fun _ h9 => h9) rfl d_Mf_over_35 ?_
    refine gs (pc' := 40) (fun _ _ _ _ _ hl => lv_aload hx hb d_Mf_over_38 (lv_at hl 0 rfl)) ?_
    refine g_get hx hb hts hin_Va hown hK f_27 rfl 1 (by decide) (hts _ wm525) (fun _ h9 => h9) rfl d_Mf_over_40 ?_
    refine gs (pc' := 44) (fun _ _ _ _ _ hl => lv_isub hx hb d_Mf_over_43) ?_
    refine g_eqi (show (iI (S.un i)) - (iI (S.un j)) = iI ((S.un i) - (S.un j)) from by exact iI_sub _ _) ?_
    refine gst (pc' := 46) (L' := [(5, .int (iI ((S.un i) - (S.un j)))), (4, .ref r_17), (3, .ref r_7), (0, .ref a.x), (1, .int (nI i)), (2, .int (nI j))]) (fun _ _ _ _ _ hl => lv_istore hx hb d_Mf_over_44 hl (by decide) rfl) ?_
    refine gs (pc' := 48) (fun _ _ _ _ _ hl => lv_iload hx hb d_Mf_over_46 (lv_at hl 0 rfl)) ?_
    refine g_outi hlo (g_runS (As := [.int (iI ((S.un i) - (S.un j)))]) (rest := []) ⟨hx, hb, hml, hown, hts⟩ hK hZ hRc hRs (c_Mf_isUnit l D cA lo MC MS G B ((S.un i) - (S.un j)) (by omega) (by omega) bl_1 bl_2) (fun _ _ => va_cwS 1 hts (tb_good (tb_cons wm367 (tb_cons wm368 (tb_cons wm1 k_Mf_isUnit)))) rfl rfl rfl (by decide +kernel) ⟨by rw [hRf]; exact Nat.le_of_ble_eq_true rfl, by rw [hRl]; exact Nat.le_of_ble_eq_true rfl⟩) bl_1 bl_2 rfl (Nat.le_of_ble_eq_true rfl) d_Mf_over_48) (fun r_43 G_40 B_41 p_42 => ?_)
    obtain ⟨u_44, e_45⟩ := p_42
    cases u_44
    subst e_45
    have bd_46 := b01_le (decide (uok ((S.un i) - (S.un j))))
    refine gsb (pc1 := 57) (pc2 := 54) (fun _ _ _ _ _ => lv_if_ne (tgt := 57) hx hb d_Mf_over_51 (by decide)) (fun c_47 => ?_) (fun c_47 => ?_)
    · skip
      have nc_47 : (b01 (decide (uok ((S.un i) - (S.un j))))) ≠ 0 := (n0_ne (a := (b01 (decide (uok ((S.un i) - (S.un j)))))) (by omega)).1 c_47
      have hu : ¬ ¬ uok (S.un i - S.un j) := fun z9 => z9 (b01_1 nc_47)
      refine gs (pc' := 58) (fun _ _ _ _ _ hl => lv_aload_n hx hb d_Mf_over_57 rfl (lv_at hl 3 rfl)) ?_
      refine g_outi hlo (g_runV (As := []) (rest := []) ⟨hx, hb, hml, hown, hts⟩ hK hZ hRc hRs (c_Mf_isFull l D cA lo MC MS G B X a S F V hC hW hX1 hX2) (fun _ _ => cwV 0 hts (tb_good (tb_cons wm386 (tb_cons wm388 (tb_cons ws1 (tb_cons wm1 k_Mf_isFull))))) rfl rfl rfl (by decide +kernel) ⟨by rw [hRf]; exact Nat.le_of_ble_eq_true rfl, by rw [hRl]; exact Nat.le_of_ble_eq_true rfl⟩) f_3 rfl bl_1 bl_2 rfl (Nat.le_of_ble_eq_true rfl) d_Mf_over_58) (fun r_51 G_48 B_49 p_50 => ?_)
      obtain ⟨u_52, e_53⟩ := p_50
      cases u_52
      subst e_53
      have bd_54 := b01_le (decide (S.n = 200))
      refine gsb (pc1 := 67) (pc2 := 64) (fun _ _ _ _ _ => lv_if_eq (tgt := 67) hx hb d_Mf_over_61 (by decide)) (fun c_55 => ?_) (fun c_55 => ?_)
      · skip
        have nc_55 : (b01 (decide (S.n = 200))) = 0 := (n0_eq (a := (b01 (decide (S.n = 200)))) (by omega)).1 c_55
        have hnf := b01_0 nc_55
        refine gs (pc' := 68) (fun _ _ _ _ _ hl => lv_aload_n hx hb d_Mf_over_67 rfl (lv_at hl 3 rfl)) ?_
        refine g_get hx hb hts hin_Mf hown hK f_3 rfl 5 (by decide) (hts _ wm240) (fun _ h9 => h9) rfl d_Mf_over_68 ?_
        refine gs (pc' := 72) (fun _ _ _ _ _ hl => lv_aload_n hx hb d_Mf_over_71 rfl (lv_at hl 3 rfl)) ?_
        refine g_get hx hb hts hin_Mf hown hK f_3 rfl 6 (by decide) (hts _ wm241) (fun _ h9 => h9) rfl d_Mf_over_72 ?_
        refine gs (pc' := 76) (fun _ _ _ _ _ hl => lv_aload_n hx hb d_Mf_over_75 rfl (lv_at hl 2 rfl)) ?_
        refine g_get hx hb hts hin_Va hown hK f_39 rfl 0 (by decide) (hts _ wm523) (fun _ h9 => h9) rfl d_Mf_over_76 ?_
        refine gs (pc' := 81) (fun _ _ _ _ _ hl => lv_aload hx hb d_Mf_over_79 (lv_at hl 1 rfl)) ?_
        refine g_get hx hb hts hin_Va hown hK f_27 rfl 0 (by decide) (hts _ wm523) (fun _ h9 => h9) rfl d_Mf_over_81 ?_
        refine gs (pc' := 85) (fun _ _ _ _ _ hl => lv_iconst (v := nI 1) hx hb d_Mf_over_84 (by decide)) ?_
        have f_56 : G a.ca = some (30, .inr (0, [.ref a.hd, .ref a.hc, .ref (a.ad 5), .ref (a.ad 6), .ref (a.ad 7), .ref (a.ad 8), .ref (a.ad 9), .ref (a.ad 10)])) := hC.ca
        refine g_outv hlo (g_runV (As := [.ref (a.fr 0), .ref hf_36, .ref hf_24, .int (nI 1)]) (rest := []) ⟨hx, hb, hml, hown, hts⟩ hK hZ hRc hRs (c3_div l D cA lo MC MS G B X a S F V hC hX1 hX2 0 (by decide) hf_36 hf_24 (S.v i) (S.v j) (Or.inr kq_38) (Or.inr kq_26) 100 100 rb_10 rb_20 (by decide) hnz) (fun _ _ => cwV 4 hts (tb_good (tb_cons wm588 (tb_cons wm589 (tb_cons wm590 (tb_cons wm3 k_Ca_setProduct))))) rfl rfl rfl (by decide +kernel) ⟨by rw [hRf]; exact Nat.le_of_ble_eq_true rfl, by rw [hRl]; exact Nat.le_of_ble_eq_true rfl⟩) f_56 rfl bl_1 bl_2 rfl (Nat.le_of_ble_eq_true rfl) d_Mf_over_85) (fun G_57 B_58 p_59 => ?_)
        obtain ⟨V_60, C_61, fr_62⟩ := p_59
        have iv_63 : isV cA G_57 r_7 (S.v i) (S.un i) := isV_24 iv_9 fr_62
        have iv_64 : isV cA G_57 r_17 (S.v j) (S.un j) := isV_24 iv_19 fr_62
        have kq_65 : kq cA G_57 hf_24 (S.v j) := kq_24 kq_26 fr_62
        have kq_66 : kq cA G_57 hf_36 (S.v i) := kq_24 kq_38 fr_62
        have fr_67 : gfr (fun x => x < 24) G G_57 := gfr_24 gfr_rf fr_62
        have f_68 : G_57 r_17 = some (30, .inr (6, [.ref hf_24, .int (iI (S.un j))])) := fr_62 _ _ f_27 (show ¬ (30 : Nat) < 24 by decide)
        have f_69 : G_57 r_7 = some (30, .inr (6, [.ref hf_36, .int (iI (S.un i))])) := fr_62 _ _ f_39 (show ¬ (30 : Nat) < 24 by decide)
        have rb_70 : rb ((S.v i) / (S.v j)) 200 := rb_div (j := 100) (k := 100) rb_10 rb_20 hnz
        have bl_71 : B_58.1 ≤ MC := Nat.le_trans (w2_le C_61.w).1 hX1
        have bl_72 : B_58.2 ≤ MS := Nat.le_trans (w2_le C_61.w).2 hX2
        refine gs (pc' := 89) (fun _ _ _ _ _ hl => lv_aload_n hx hb d_Mf_over_88 rfl (lv_at hl 3 rfl)) ?_
        refine gs (pc' := 90) (fun _ _ _ _ _ hl => lv_aload_n hx hb d_Mf_over_89 rfl (lv_at hl 3 rfl)) ?_
        have f_73 : G_57 a.x = some (31, .inr (8, [.ref a.vs, .int (nI S.n), .ref a.rs, .int (nI S.rn), .ref a.ws, .ref a.ca, .ref (a.fr 0), .ref (a.fr 1), .ref (a.fr 2), .ref (a.fr 3), .ref a.zr, .ref a.fo, .ref a.ha, .ref a.si])) := C_61.ob
        refine g_get hx hb hts hin_Mf hown hK f_73 rfl 6 (by decide) (hts _ wm241) (fun _ h9 => h9) rfl d_Mf_over_90 ?_
        refine gs (pc' := 95) (fun _ _ _ _ _ hl => lv_iload hx hb d_Mf_over_93 (lv_at hl 0 rfl)) ?_
        refine g_outi hlo (g_runV (As := [.ref (a.fr 0), .int (iI ((S.un i) - (S.un j)))]) (rest := []) ⟨hx, hb, hml, hown, hts⟩ hK hZ hRc hRs (c_Mf_keep0 l D cA lo MC MS G_57 B_58 X a S (fup F 0 (some ((S.v i) / (S.v j)))) V_60 C_61 hW ((S.v i) / (S.v j)) rfl 200 rb_70 (by decide) ((S.un i) - (S.un j)) hnf hY1 hY2) (fun _ _ => cwV 2 hts (tb_good (tb_cons wm495 (tb_cons wm497 (tb_cons ws10 (tb_cons wm1 k_Mf_keep))))) rfl rfl rfl (by decide +kernel) ⟨by rw [hRf]; exact Nat.le_of_ble_eq_true rfl, by rw [hRl]; exact Nat.le_of_ble_eq_true rfl⟩) f_73 rfl bl_71 bl_72 rfl (Nat.le_of_ble_eq_true rfl) d_Mf_over_95) (fun r_77 G_74 B_75 p_76 => ?_)
        obtain ⟨e_78, C_79, fr_80⟩ := p_76
        subst e_78
        have fr_81 : gfr (fun x => x < 70) G G_74 := gfr_mono (gfr_tr fr_67 fr_80) (fun x h9 => by rcases h9 with h9 | h9 <;> omega)
        have bl_82 := CW3_le C_79
        have hs2 : sp_over S (iI x) (iI y) = kp S ((S.v i) / (S.v j)) ((S.un i) - (S.un j)) := by rw [hsp, if_neg hu, if_neg hnf]
        exact hret 98 _ _ _ _ d_Mf_over_98 (Nat.le_trans bl_82.1 hY1) (Nat.le_trans bl_82.2 hY2) ⟨by rw [hs2], by rw [hs2]; exact C_79, fr_81⟩
      · skip
        have nc_55 : (b01 (decide (S.n = 200))) ≠ 0 := (n0_eq (a := (b01 (decide (S.n = 200)))) (by omega)).2 c_55
        have hnf := b01_1 nc_55
        refine gs (pc' := 66) (fun _ _ _ _ _ hl => lv_bipush (v := (-3)) hx hb d_Mf_over_64 (by decide)) ?_
        refine g_eqi (show (-3) = iI (-3) from by decide) ?_
        have hs2 : sp_over S (iI x) (iI y) = (0, -3, S) := by rw [hsp, if_neg hu, if_pos hnf]
        exact hret 66 _ _ _ _ d_Mf_over_66 bl_1 bl_2 ⟨by rw [hs2], by rw [hs2]; exact hC.up (X1 := (X.1 + 6, X.2 + 209)) (show X.1 ≤ X.1 + 6 by omega) (show X.2 ≤ X.2 + 209 by omega), (gfr_mono (M := fun x => x < 24) gfr_rf (fun x h9 => by omega))⟩
    · skip
      have nc_47 : (b01 (decide (uok ((S.un i) - (S.un j))))) = 0 := (n0_ne (a := (b01 (decide (uok ((S.un i) - (S.un j)))))) (by omega)).2 c_47
      have hu := b01_0 nc_47
      refine gs (pc' := 56) (fun _ _ _ _ _ hl => lv_bipush (v := (-2)) hx hb d_Mf_over_54 (by decide)) ?_
      refine g_eqi (show (-2) = iI (-2) from by decide) ?_
      have hs2 : sp_over S (iI x) (iI y) = (0, -2, S) := by rw [hsp, if_pos hu]
      exact hret 56 _ _ _ _ d_Mf_over_56 bl_1 bl_2 ⟨by rw [hs2], by rw [hs2]; exact hC.up (X1 := (X.1 + 6, X.2 + 209)) (show X.1 ≤ X.1 + 6 by omega) (show X.2 ≤ X.2 + 209 by omega), (gfr_mono (M := fun x => x < 24) gfr_rf (fun x h9 => by omega))⟩
  · skip
    exact absurd (sgI_z c_35) hnz
set_option maxHeartbeats 4000000 in
set_option maxRecDepth 100000 in
theorem t_Mf_over1 (l : Launch) (D : va_G) (cA : Nat → ClassId) (lo MC MS : Nat) (G : gT) (B : Nat × Nat) (X : Nat × Nat) (a : AX) (S : St) (F : Nat → Option Rat) (V : Nat → Nat) (hC : CW cA X a S F V (G, B)) (hW : WF S) (x : Int) (hx1 : -2147483648 ≤ x) (hx2 : x < 2147483648) (y : Int) (hy1 : -2147483648 ≤ y) (hy2 : y < 2147483648) (hk : (sp_over S (iI x) (iI y)).1 = 1) (hY1 : X.1 + 1 ≤ MC) (hY2 : X.2 + 6 ≤ MS) (hfl : ∀ e : Env, l.admits e → e.platform.stackTraces = false) : gMetT l y_Mf_over w_Mf_over 7 111 D clS (gtys cA) lo MC MS [.ref a.x, .int (iI x), .int (iI y)] G B (gQx D clS lo "java/lang/IndexOutOfBoundsException" (fun u => u = (G, B.1 + 1, B.2 + 6))) := by
  refine g_mett (cc := prog_1_method_5_code) (nL := 6) (ret := (Option.some .int)) (L := [(0, .ref a.x), (1, .int (iI x)), (2, .int (iI y))]) (by decide +kernel) rfl (Nat.le_of_ble_eq_true rfl) rfl ?_
  intro p e R s m args below meth c Q hF hRc hRs hRf hRl hne hQ
  obtain ⟨hx, hb, hr, hml, hts0, hown, hlocks, hin, hK, hlo, hZ⟩ := hF
  have hts : ∀ w ∈ tbg, w.before args s = true := fun w h => hts0 w (List.mem_cons_of_mem _ h)
  have hX1 : X.1 ≤ MC := by omega
  have hX2 : X.2 ≤ MS := by omega
  have hn := hW.n
  have hrn := hW.rn
  have hwn := hW.wn
  have bl_1 : B.1 ≤ MC := Nat.le_trans (w2_le hC.w).1 hX1
  have bl_2 : B.2 ≤ MS := Nat.le_trans (w2_le hC.w).2 hX2
  have hv : ¬ (vi S (iI x) ∧ vi S (iI y)) := fun z9 => by
    rw [sp_over, if_neg (fun z8 => z8 z9)] at hk
    split at hk
    · simp at hk
    split at hk
    · simp at hk
    split at hk
    · simp at hk
    · rw [kp_0] at hk; simp at hk
  by_cases hv1 : vi S (iI x)
  · skip
    have hv2 : ¬ vi S (iI y) := fun z9 => hv ⟨hv1, z9⟩
    obtain ⟨i, hi_i, hxe_x, ei_i⟩ := ix_of hv1.1 hv1.2
    rw [hxe_x]
    refine gs (pc' := 1) (fun _ _ _ _ _ hl => lv_aload_n hx hb d_Mf_over_0 rfl (lv_at hl 0 rfl)) ?_
    refine gs (pc' := 2) (fun _ _ _ _ _ hl => lv_iload_n hx hb d_Mf_over_1 rfl (lv_at hl 1 rfl)) ?_
    have f_3 : G a.x = some (31, .inr (8, [.ref a.vs, .int (nI S.n), .ref a.rs, .int (nI S.rn), .ref a.ws, .ref a.ca, .ref (a.fr 0), .ref (a.fr 1), .ref (a.fr 2), .ref (a.fr 3), .ref a.zr, .ref a.fo, .ref a.ha, .ref a.si])) := hC.ob
    refine g_outr hlo (g_runV (As := [.int (nI i)]) (rest := []) ⟨hx, hb, hml, hown, hts⟩ hK hZ hRc hRs (c_Mf_valueOf l D cA lo MC MS G B X a S F V hC hW i (by omega) hX1 hX2) (fun _ _ => cwV 1 hts (tb_good (tb_cons wm539 (tb_cons wm541 (tb_cons ws11 (tb_cons wm1 k_Mf_valueOf))))) rfl rfl rfl (by decide +kernel) ⟨by rw [hRf]; exact Nat.le_of_ble_eq_true rfl, by rw [hRl]; exact Nat.le_of_ble_eq_true rfl⟩) f_3 rfl bl_1 bl_2 rfl (Nat.le_of_ble_eq_true rfl) d_Mf_over_2) (fun r_7 G_4 B_5 p_6 => ?_)
    obtain ⟨u_8, iv_9⟩ := p_6
    cases u_8
    have rb_10 : rb (S.v i) 100 := rb_of (hW.v _ (by omega)).1
    have ub_11 := (hW.v i (by omega)).2
    have ub_12 := ub_11.1
    have ub_13 := ub_11.2
    refine gst (pc' := 6) (L' := [(3, .ref r_7), (0, .ref a.x), (1, .int (nI i)), (2, .int (iI y))]) (fun _ _ _ _ _ hl => lv_astore_n hx hb d_Mf_over_5 rfl hl (by decide) rfl) ?_
    refine gs (pc' := 7) (fun _ _ _ _ _ hl => lv_aload_n hx hb d_Mf_over_6 rfl (lv_at hl 1 rfl)) ?_
    refine gs (pc' := 8) (fun _ _ _ _ _ hl => lv_iload_n hx hb d_Mf_over_7 rfl (lv_at hl 3 rfl)) ?_
    exact g_up hlocks hne bl_1 bl_2 (g_thrV (As := [.int (iI y)]) (rest := []) ⟨hx, hb, hml, hown, hts⟩ hK hZ hRc hRs (t_Mf_valueOf l D cA lo MC MS G B X a S F V hC hW y hy1 hy2 (nvi hy1 hy2 hv2) hY1 hY2 hfl) (fun _ _ => cwV 1 hts (tb_good (tb_cons wm539 (tb_cons wm541 (tb_cons ws11 (tb_cons wm1 k_Mf_valueOf))))) rfl rfl rfl (by decide +kernel) ⟨by rw [hRf]; exact Nat.le_of_ble_eq_true rfl, by rw [hRl]; exact Nat.le_of_ble_eq_true rfl⟩) f_3 rfl bl_1 bl_2 rfl (Nat.le_of_ble_eq_true rfl) d_Mf_over_8) (fun _ h => h) hQ
  · skip
    refine gs (pc' := 1) (fun _ _ _ _ _ hl => lv_aload_n hx hb d_Mf_over_0 rfl (lv_at hl 0 rfl)) ?_
    refine gs (pc' := 2) (fun _ _ _ _ _ hl => lv_iload_n hx hb d_Mf_over_1 rfl (lv_at hl 1 rfl)) ?_
    have f_14 : G a.x = some (31, .inr (8, [.ref a.vs, .int (nI S.n), .ref a.rs, .int (nI S.rn), .ref a.ws, .ref a.ca, .ref (a.fr 0), .ref (a.fr 1), .ref (a.fr 2), .ref (a.fr 3), .ref a.zr, .ref a.fo, .ref a.ha, .ref a.si])) := hC.ob
    exact g_up hlocks hne bl_1 bl_2 (g_thrV (As := [.int (iI x)]) (rest := []) ⟨hx, hb, hml, hown, hts⟩ hK hZ hRc hRs (t_Mf_valueOf l D cA lo MC MS G B X a S F V hC hW x hx1 hx2 (nvi hx1 hx2 hv1) hY1 hY2 hfl) (fun _ _ => cwV 1 hts (tb_good (tb_cons wm539 (tb_cons wm541 (tb_cons ws11 (tb_cons wm1 k_Mf_valueOf))))) rfl rfl rfl (by decide +kernel) ⟨by rw [hRf]; exact Nat.le_of_ble_eq_true rfl, by rw [hRl]; exact Nat.le_of_ble_eq_true rfl⟩) f_14 rfl bl_1 bl_2 rfl (Nat.le_of_ble_eq_true rfl) d_Mf_over_2) (fun _ h => h) hQ
set_option maxHeartbeats 4000000 in
set_option maxRecDepth 100000 in
theorem t_Mf_over2 (l : Launch) (D : va_G) (cA : Nat → ClassId) (lo MC MS : Nat) (G : gT) (B : Nat × Nat) (X : Nat × Nat) (a : AX) (S : St) (F : Nat → Option Rat) (V : Nat → Nat) (hC : CW cA X a S F V (G, B)) (hW : WF S) (x : Int) (hx1 : -2147483648 ≤ x) (hx2 : x < 2147483648) (y : Int) (hy1 : -2147483648 ≤ y) (hy2 : y < 2147483648) (hk : (sp_over S (iI x) (iI y)).1 = 2) (hY1 : X.1 + 1 ≤ MC) (hY2 : X.2 + 6 ≤ MS) (hfl : ∀ e : Env, l.admits e → e.platform.stackTraces = false) : gMetT l y_Mf_over w_Mf_over 6 90 D clS (gtys cA) lo MC MS [.ref a.x, .int (iI x), .int (iI y)] G B (gQx D clS lo "java/lang/ArithmeticException" (fun u => u = (G, B.1 + 1, B.2 + 6))) := by
  refine g_mett (cc := prog_1_method_5_code) (nL := 6) (ret := (Option.some .int)) (L := [(0, .ref a.x), (1, .int (iI x)), (2, .int (iI y))]) (by decide +kernel) rfl (Nat.le_of_ble_eq_true rfl) rfl ?_
  intro p e R s m args below meth c Q hF hRc hRs hRf hRl hne hQ
  obtain ⟨hx, hb, hr, hml, hts0, hown, hlocks, hin, hK, hlo, hZ⟩ := hF
  have hts : ∀ w ∈ tbg, w.before args s = true := fun w h => hts0 w (List.mem_cons_of_mem _ h)
  have hX1 : X.1 ≤ MC := by omega
  have hX2 : X.2 ≤ MS := by omega
  have hn := hW.n
  have hrn := hW.rn
  have hwn := hW.wn
  have bl_1 : B.1 ≤ MC := Nat.le_trans (w2_le hC.w).1 hX1
  have bl_2 : B.2 ≤ MS := Nat.le_trans (w2_le hC.w).2 hX2
  have hv : vi S (iI x) ∧ vi S (iI y) := by
    by_cases z9 : vi S (iI x) ∧ vi S (iI y)
    · exact z9
    · rw [sp_over, if_pos z9] at hk; simp at hk
  obtain ⟨i, hi_i, hxe_x, ei_i⟩ := ix_of hv.1.1 hv.1.2
  rw [hxe_x]
  obtain ⟨j, hi_j, hxe_y, ei_j⟩ := ix_of hv.2.1 hv.2.2
  rw [hxe_y]
  have hvz : S.v j = 0 := Decidable.byContradiction fun z9 => by
    rw [sp_over, if_neg (fun z8 => z8 hv), ei_i, ei_j, if_neg z9] at hk
    split at hk
    · simp at hk
    split at hk
    · simp at hk
    · rw [kp_0] at hk; simp at hk
  have hnz : (S.v j).num = 0 := Rat.num_eq_zero.mpr hvz
  refine gs (pc' := 1) (fun _ _ _ _ _ hl => lv_aload_n hx hb d_Mf_over_0 rfl (lv_at hl 0 rfl)) ?_
  refine gs (pc' := 2) (fun _ _ _ _ _ hl => lv_iload_n hx hb d_Mf_over_1 rfl (lv_at hl 1 rfl)) ?_
  have f_3 : G a.x = some (31, .inr (8, [.ref a.vs, .int (nI S.n), .ref a.rs, .int (nI S.rn), .ref a.ws, .ref a.ca, .ref (a.fr 0), .ref (a.fr 1), .ref (a.fr 2), .ref (a.fr 3), .ref a.zr, .ref a.fo, .ref a.ha, .ref a.si])) := hC.ob
  refine g_outr hlo (g_runV (As := [.int (nI i)]) (rest := []) ⟨hx, hb, hml, hown, hts⟩ hK hZ hRc hRs (c_Mf_valueOf l D cA lo MC MS G B X a S F V hC hW i (by omega) hX1 hX2) (fun _ _ => cwV 1 hts (tb_good (tb_cons wm539 (tb_cons wm541 (tb_cons ws11 (tb_cons wm1 k_Mf_valueOf))))) rfl rfl rfl (by decide +kernel) ⟨by rw [hRf]; exact Nat.le_of_ble_eq_true rfl, by rw [hRl]; exact Nat.le_of_ble_eq_true rfl⟩) f_3 rfl bl_1 bl_2 rfl (Nat.le_of_ble_eq_true rfl) d_Mf_over_2) (fun r_7 G_4 B_5 p_6 => ?_)
  obtain ⟨u_8, iv_9⟩ := p_6
  cases u_8
  have rb_10 : rb (S.v i) 100 := rb_of (hW.v _ (by omega)).1
  have ub_11 := (hW.v i (by omega)).2
  have ub_12 := ub_11.1
  have ub_13 := ub_11.2
  refine gst (pc' := 6) (L' := [(3, .ref r_7), (0, .ref a.x), (1, .int (nI i)), (2, .int (nI j))]) (fun _ _ _ _ _ hl => lv_astore_n hx hb d_Mf_over_5 rfl hl (by decide) rfl) ?_
  refine gs (pc' := 7) (fun _ _ _ _ _ hl => lv_aload_n hx hb d_Mf_over_6 rfl (lv_at hl 1 rfl)) ?_
  refine gs (pc' := 8) (fun _ _ _ _ _ hl => lv_iload_n hx hb d_Mf_over_7 rfl (lv_at hl 3 rfl)) ?_
  refine g_outr hlo (g_runV (As := [.int (nI j)]) (rest := []) ⟨hx, hb, hml, hown, hts⟩ hK hZ hRc hRs (c_Mf_valueOf l D cA lo MC MS G B X a S F V hC hW j (by omega) hX1 hX2) (fun _ _ => cwV 1 hts (tb_good (tb_cons wm539 (tb_cons wm541 (tb_cons ws11 (tb_cons wm1 k_Mf_valueOf))))) rfl rfl rfl (by decide +kernel) ⟨by rw [hRf]; exact Nat.le_of_ble_eq_true rfl, by rw [hRl]; exact Nat.le_of_ble_eq_true rfl⟩) f_3 rfl bl_1 bl_2 rfl (Nat.le_of_ble_eq_true rfl) d_Mf_over_8) (fun r_17 G_14 B_15 p_16 => ?_)
  obtain ⟨u_18, iv_19⟩ := p_16
  cases u_18
  have rb_20 : rb (S.v j) 100 := rb_of (hW.v _ (by omega)).1
  have ub_21 := (hW.v j (by omega)).2
  have ub_22 := ub_21.1
  have ub_23 := ub_21.2
  refine gst (pc' := 13) (L' := [(4, .ref r_17), (3, .ref r_7), (0, .ref a.x), (1, .int (nI i)), (2, .int (nI j))]) (fun _ _ _ _ _ hl => lv_astore hx hb d_Mf_over_11 hl (by decide) rfl) ?_
  refine gs (pc' := 15) (fun _ _ _ _ _ hl => lv_aload hx hb d_Mf_over_13 (lv_at hl 0 rfl)) ?_
  obtain ⟨hf_24, f_25, kq_26⟩ := id iv_19
  have f_27 : G r_17 = some (30, .inr (6, [.ref hf_24, .int (iI (S.un j))])) := f_25
  refine g_get hx hb hts hin_Va hown hK f_27 rfl 0 (by decide) (hts _ wm523) (fun _ h9 => h9) rfl d_Mf_over_15 ?_
  obtain ⟨t_28, ha_29, hb_30, e_31, f_32, rd_33, rd_34⟩ := id kq_26
  refine g_get hx hb hts hin_Fr hown hK f_32 rfl 0 (by decide) (hts _ wm165) (fun _ h9 => h9) rfl d_Mf_over_18 ?_
  refine gsb (pc1 := 34) (pc2 := 24) (fun _ _ _ _ _ => lv_if_ne (tgt := 34) hx hb d_Mf_over_21 (by decide)) (fun c_35 => ?_) (fun c_35 => ?_)
  · skip
    exact absurd (by rw [hnz]; rfl) c_35
  · skip
    have le_36 := w2_le hC.w
    exact g_throw (tx := "a division by 0") (post := fun u => u = (G, B.1 + 1, B.2 + 6)) hx hb hml hown hts hlo hZ hfl hlocks hne (fun U h h1 h2 => own_Ari h h1 h2) (by decide +kernel) wm299 wm300 wm16 (by decide) hRc hRs (by rw [hRf]; exact Nat.le_of_ble_eq_true rfl) (by rw [hRl]; exact Nat.le_of_ble_eq_true rfl) (by have := le_36.1; omega) (by have := le_36.2; omega) d_Mf_over_24 d_Mf_over_27 d_Mf_over_28 d_Mf_over_30 d_Mf_over_33 rfl hQ
set_option maxHeartbeats 4000000 in
set_option maxRecDepth 100000 in
theorem c_Mf_order (l : Launch) (D : va_G) (cA : Nat → ClassId) (lo MC MS : Nat) (G : gT) (B : Nat × Nat) (X : Nat × Nat) (a : AX) (S : St) (F : Nat → Option Rat) (V : Nat → Nat) (hC : CW cA X a S F V (G, B)) (hW : WF S) (x : Int) (hx1 : -2147483648 ≤ x) (hx2 : x < 2147483648) (y : Int) (hy1 : -2147483648 ≤ y) (hy2 : y < 2147483648) (hk : (sp_order S (iI x) (iI y)).1 = 0) (hY1 : X.1 + 6 ≤ MC) (hY2 : X.2 + 209 ≤ MS) : gMet l y_Mf_order w_Mf_order 6 158 D clS (gtys cA) lo MC MS [.ref a.x, .int (iI x), .int (iI y)] G B (gQi D clS lo (fun r u => r = iI (sp_order S (iI x) (iI y)).2.1 ∧ CW3 cA (X.1 + 6, X.2 + 209) a (sp_order S (iI x) (iI y)).2.2 u ∧ gfr (fun x => x < 70) G u.1)) := by
  refine g_meti (cc := prog_1_method_6_code) (nL := 5) (L := [(0, .ref a.x), (1, .int (iI x)), (2, .int (iI y))]) (by decide +kernel) rfl (Nat.le_of_ble_eq_true rfl) rfl ?_
  intro p e R s m args below meth c Q hF hRc hRs hRf hRl hret
  obtain ⟨hx, hb, hr, hml, hts0, hown, hlocks, hin, hK, hlo, hZ⟩ := hF
  have hts : ∀ w ∈ tbg, w.before args s = true := fun w h => hts0 w (List.mem_cons_of_mem _ h)
  have hX1 : X.1 ≤ MC := by omega
  have hX2 : X.2 ≤ MS := by omega
  have hn := hW.n
  have hrn := hW.rn
  have hwn := hW.wn
  have bl_1 : B.1 ≤ MC := Nat.le_trans (w2_le hC.w).1 hX1
  have bl_2 : B.2 ≤ MS := Nat.le_trans (w2_le hC.w).2 hX2
  have hv : vi S (iI x) ∧ vi S (iI y) := by
    by_cases z9 : vi S (iI x) ∧ vi S (iI y)
    · exact z9
    · rw [sp_order, if_pos z9] at hk; simp at hk
  obtain ⟨i, hi_i, hxe_x, ei_i⟩ := ix_of hv.1.1 hv.1.2
  rw [hxe_x]
  obtain ⟨j, hi_j, hxe_y, ei_j⟩ := ix_of hv.2.1 hv.2.2
  rw [hxe_y]
  have hsp : sp_order S (iI x) (iI y) = if S.un i ≠ S.un j then (0, -2, S) else (0, rcmp (S.v i) (S.v j), S) := by
    rw [sp_order, if_neg (fun z9 => z9 hv), ei_i, ei_j]
  refine gs (pc' := 1) (fun _ _ _ _ _ hl => lv_aload_n hx hb d_Mf_order_0 rfl (lv_at hl 0 rfl)) ?_
  refine gs (pc' := 2) (fun _ _ _ _ _ hl => lv_iload_n hx hb d_Mf_order_1 rfl (lv_at hl 1 rfl)) ?_
  have f_3 : G a.x = some (31, .inr (8, [.ref a.vs, .int (nI S.n), .ref a.rs, .int (nI S.rn), .ref a.ws, .ref a.ca, .ref (a.fr 0), .ref (a.fr 1), .ref (a.fr 2), .ref (a.fr 3), .ref a.zr, .ref a.fo, .ref a.ha, .ref a.si])) := hC.ob
  refine g_outr hlo (g_runV (As := [.int (nI i)]) (rest := []) ⟨hx, hb, hml, hown, hts⟩ hK hZ hRc hRs (c_Mf_valueOf l D cA lo MC MS G B X a S F V hC hW i (by omega) hX1 hX2) (fun _ _ => cwV 1 hts (tb_good (tb_cons wm539 (tb_cons wm541 (tb_cons ws11 (tb_cons wm1 k_Mf_valueOf))))) rfl rfl rfl (by decide +kernel) ⟨by rw [hRf]; exact Nat.le_of_ble_eq_true rfl, by rw [hRl]; exact Nat.le_of_ble_eq_true rfl⟩) f_3 rfl bl_1 bl_2 rfl (Nat.le_of_ble_eq_true rfl) d_Mf_order_2) (fun r_7 G_4 B_5 p_6 => ?_)
  obtain ⟨u_8, iv_9⟩ := p_6
  cases u_8
  have rb_10 : rb (S.v i) 100 := rb_of (hW.v _ (by omega)).1
  have ub_11 := (hW.v i (by omega)).2
  have ub_12 := ub_11.1
  have ub_13 := ub_11.2
  refine gst (pc' := 6) (L' := [(3, .ref r_7), (0, .ref a.x), (1, .int (nI i)), (2, .int (nI j))]) (fun _ _ _ _ _ hl => lv_astore_n hx hb d_Mf_order_5 rfl hl (by decide) rfl) ?_
  refine gs (pc' := 7) (fun _ _ _ _ _ hl => lv_aload_n hx hb d_Mf_order_6 rfl (lv_at hl 1 rfl)) ?_
  refine gs (pc' := 8) (fun _ _ _ _ _ hl => lv_iload_n hx hb d_Mf_order_7 rfl (lv_at hl 3 rfl)) ?_
  refine g_outr hlo (g_runV (As := [.int (nI j)]) (rest := []) ⟨hx, hb, hml, hown, hts⟩ hK hZ hRc hRs (c_Mf_valueOf l D cA lo MC MS G B X a S F V hC hW j (by omega) hX1 hX2) (fun _ _ => cwV 1 hts (tb_good (tb_cons wm539 (tb_cons wm541 (tb_cons ws11 (tb_cons wm1 k_Mf_valueOf))))) rfl rfl rfl (by decide +kernel) ⟨by rw [hRf]; exact Nat.le_of_ble_eq_true rfl, by rw [hRl]; exact Nat.le_of_ble_eq_true rfl⟩) f_3 rfl bl_1 bl_2 rfl (Nat.le_of_ble_eq_true rfl) d_Mf_order_8) (fun r_17 G_14 B_15 p_16 => ?_)
  obtain ⟨u_18, iv_19⟩ := p_16
  cases u_18
  have rb_20 : rb (S.v j) 100 := rb_of (hW.v _ (by omega)).1
  have ub_21 := (hW.v j (by omega)).2
  have ub_22 := ub_21.1
  have ub_23 := ub_21.2
  refine gst (pc' := 13) (L' := [(4, .ref r_17), (3, .ref r_7), (0, .ref a.x), (1, .int (nI i)), (2, .int (nI j))]) (fun _ _ _ _ _ hl => lv_astore hx hb d_Mf_order_11 hl (by decide) rfl) ?_
  refine gs (pc' := 14) (fun _ _ _ _ _ hl => lv_aload_n hx hb d_Mf_order_13 rfl (lv_at hl 1 rfl)) ?_
  obtain ⟨hf_24, f_25, kq_26⟩ := id iv_9
  have f_27 : G r_7 = some (30, .inr (6, [.ref hf_24, .int (iI (S.un i))])) := f_25
  refine g_get hx hb hts hin_Va hown hK f_27 rfl 1 (by decide) (hts _ wm525) (fun _ h9 => h9) rfl d_Mf_order_14 ?_
  refine gs (pc' := 19) (fun _ _ _ _ _ hl => lv_aload hx hb d_Mf_order_17 (lv_at hl 0 rfl)) ?_
  obtain ⟨hf_28, f_29, kq_30⟩ := id iv_19
  have f_31 : G r_17 = some (30, .inr (6, [.ref hf_28, .int (iI (S.un j))])) := f_29
  refine g_get hx hb hts hin_Va hown hK f_31 rfl 1 (by decide) (hts _ wm525) (fun _ h9 => h9) rfl d_Mf_order_19 ?_
  refine gsb (pc1 := 28) (pc2 := 25) (fun _ _ _ _ _ => lv_icmp_eq (tgt := 28) hx hb d_Mf_order_22 (by decide)) (fun c_32 => ?_) (fun c_32 => ?_)
  · skip
    have nc_32 : (S.un i) = (S.un j) := (ii_eq (a := (S.un i)) (b := (S.un j)) (by omega) (by omega) (by omega) (by omega)).1 (by first | exact c_32 | (have z9 := c_32; simp only [nI_iI] at z9; exact z9))
    have hu : ¬ S.un i ≠ S.un j := fun z9 => z9 nc_32
    refine gs (pc' := 29) (fun _ _ _ _ _ hl => lv_aload_n hx hb d_Mf_order_28 rfl (lv_at hl 2 rfl)) ?_
    refine g_get hx hb hts hin_Mf hown hK f_3 rfl 5 (by decide) (hts _ wm240) (fun _ h9 => h9) rfl d_Mf_order_29 ?_
    refine gs (pc' := 33) (fun _ _ _ _ _ hl => lv_aload_n hx hb d_Mf_order_32 rfl (lv_at hl 1 rfl)) ?_
    refine g_get hx hb hts hin_Va hown hK f_27 rfl 0 (by decide) (hts _ wm523) (fun _ h9 => h9) rfl d_Mf_order_33 ?_
    refine gs (pc' := 38) (fun _ _ _ _ _ hl => lv_aload hx hb d_Mf_order_36 (lv_at hl 0 rfl)) ?_
    refine g_get hx hb hts hin_Va hown hK f_31 rfl 0 (by decide) (hts _ wm523) (fun _ h9 => h9) rfl d_Mf_order_38 ?_
    have f_33 : G a.ca = some (30, .inr (0, [.ref a.hd, .ref a.hc, .ref (a.ad 5), .ref (a.ad 6), .ref (a.ad 7), .ref (a.ad 8), .ref (a.ad 9), .ref (a.ad 10)])) := hC.ca
    refine g_outi hlo (g_runV (As := [.ref hf_24, .ref hf_28]) (rest := []) ⟨hx, hb, hml, hown, hts⟩ hK hZ hRc hRs (c3_cmp l D cA lo MC MS G B X a S F V hC hX1 hX2 hf_24 hf_28 (S.v i) (S.v j) (Or.inr kq_26) (Or.inr kq_30) 100 100 rb_10 rb_20 (by decide)) (fun _ _ => cwV 2 hts (tb_good (tb_cons wm606 (tb_cons wm607 (tb_cons wm608 (tb_cons wm3 k_Ca_compare))))) rfl rfl rfl (by decide +kernel) ⟨by rw [hRf]; exact Nat.le_of_ble_eq_true rfl, by rw [hRl]; exact Nat.le_of_ble_eq_true rfl⟩) f_33 rfl bl_1 bl_2 rfl (Nat.le_of_ble_eq_true rfl) d_Mf_order_41) (fun r_37 G_34 B_35 p_36 => ?_)
    obtain ⟨e_38, p_39⟩ := p_36
    subst e_38
    obtain ⟨V_40, C_41, fr_42⟩ := p_39
    have iv_43 : isV cA G_34 r_7 (S.v i) (S.un i) := isV_24 iv_9 fr_42
    have iv_44 : isV cA G_34 r_17 (S.v j) (S.un j) := isV_24 iv_19 fr_42
    have kq_45 : kq cA G_34 hf_24 (S.v i) := kq_24 kq_26 fr_42
    have kq_46 : kq cA G_34 hf_28 (S.v j) := kq_24 kq_30 fr_42
    have fr_47 : gfr (fun x => x < 24) G G_34 := gfr_24 gfr_rf fr_42
    have f_48 : G_34 r_7 = some (30, .inr (6, [.ref hf_24, .int (iI (S.un i))])) := fr_42 _ _ f_27 (show ¬ (30 : Nat) < 24 by decide)
    have f_49 : G_34 r_17 = some (30, .inr (6, [.ref hf_28, .int (iI (S.un j))])) := fr_42 _ _ f_31 (show ¬ (30 : Nat) < 24 by decide)
    have bl_50 : B_35.1 ≤ MC := Nat.le_trans (w2_le C_41.w).1 hX1
    have bl_51 : B_35.2 ≤ MS := Nat.le_trans (w2_le C_41.w).2 hX2
    have bd_52 := rcmp_bd (S.v i) (S.v j)
    have hs2 : sp_order S (iI x) (iI y) = (0, rcmp (S.v i) (S.v j), S) := by rw [hsp, if_neg hu]
    exact hret 44 _ _ _ _ d_Mf_order_44 bl_50 bl_51 ⟨by rw [hs2], by rw [hs2]; exact C_41.up (X1 := (X.1 + 6, X.2 + 209)) (show X.1 ≤ X.1 + 6 by omega) (show X.2 ≤ X.2 + 209 by omega), (gfr_mono (M := fun x => x < 24) fr_47 (fun x h9 => by omega))⟩
  · skip
    have nc_32 : (S.un i) ≠ (S.un j) := (ii_eq (a := (S.un i)) (b := (S.un j)) (by omega) (by omega) (by omega) (by omega)).2 (by first | exact c_32 | (have z9 := c_32; simp only [nI_iI] at z9; exact z9))
    have hu : S.un i ≠ S.un j := nc_32
    refine gs (pc' := 27) (fun _ _ _ _ _ hl => lv_bipush (v := (-2)) hx hb d_Mf_order_25 (by decide)) ?_
    refine g_eqi (show (-2) = iI (-2) from by decide) ?_
    have hs2 : sp_order S (iI x) (iI y) = (0, -2, S) := by rw [hsp, if_pos hu]
    exact hret 27 _ _ _ _ d_Mf_order_27 bl_1 bl_2 ⟨by rw [hs2], by rw [hs2]; exact hC.up (X1 := (X.1 + 6, X.2 + 209)) (show X.1 ≤ X.1 + 6 by omega) (show X.2 ≤ X.2 + 209 by omega), (gfr_mono (M := fun x => x < 24) gfr_rf (fun x h9 => by omega))⟩
set_option maxHeartbeats 4000000 in
set_option maxRecDepth 100000 in
theorem t_Mf_order1 (l : Launch) (D : va_G) (cA : Nat → ClassId) (lo MC MS : Nat) (G : gT) (B : Nat × Nat) (X : Nat × Nat) (a : AX) (S : St) (F : Nat → Option Rat) (V : Nat → Nat) (hC : CW cA X a S F V (G, B)) (hW : WF S) (x : Int) (hx1 : -2147483648 ≤ x) (hx2 : x < 2147483648) (y : Int) (hy1 : -2147483648 ≤ y) (hy2 : y < 2147483648) (hk : (sp_order S (iI x) (iI y)).1 = 1) (hY1 : X.1 + 1 ≤ MC) (hY2 : X.2 + 6 ≤ MS) (hfl : ∀ e : Env, l.admits e → e.platform.stackTraces = false) : gMetT l y_Mf_order w_Mf_order 7 111 D clS (gtys cA) lo MC MS [.ref a.x, .int (iI x), .int (iI y)] G B (gQx D clS lo "java/lang/IndexOutOfBoundsException" (fun u => u = (G, B.1 + 1, B.2 + 6))) := by
  refine g_mett (cc := prog_1_method_6_code) (nL := 5) (ret := (Option.some .int)) (L := [(0, .ref a.x), (1, .int (iI x)), (2, .int (iI y))]) (by decide +kernel) rfl (Nat.le_of_ble_eq_true rfl) rfl ?_
  intro p e R s m args below meth c Q hF hRc hRs hRf hRl hne hQ
  obtain ⟨hx, hb, hr, hml, hts0, hown, hlocks, hin, hK, hlo, hZ⟩ := hF
  have hts : ∀ w ∈ tbg, w.before args s = true := fun w h => hts0 w (List.mem_cons_of_mem _ h)
  have hX1 : X.1 ≤ MC := by omega
  have hX2 : X.2 ≤ MS := by omega
  have hn := hW.n
  have hrn := hW.rn
  have hwn := hW.wn
  have bl_1 : B.1 ≤ MC := Nat.le_trans (w2_le hC.w).1 hX1
  have bl_2 : B.2 ≤ MS := Nat.le_trans (w2_le hC.w).2 hX2
  have hv : ¬ (vi S (iI x) ∧ vi S (iI y)) := fun z9 => by
    rw [sp_order, if_neg (fun z8 => z8 z9)] at hk
    split at hk
    · simp at hk
    · simp at hk
  by_cases hv1 : vi S (iI x)
  · skip
    have hv2 : ¬ vi S (iI y) := fun z9 => hv ⟨hv1, z9⟩
    obtain ⟨i, hi_i, hxe_x, ei_i⟩ := ix_of hv1.1 hv1.2
    rw [hxe_x]
    refine gs (pc' := 1) (fun _ _ _ _ _ hl => lv_aload_n hx hb d_Mf_order_0 rfl (lv_at hl 0 rfl)) ?_
    refine gs (pc' := 2) (fun _ _ _ _ _ hl => lv_iload_n hx hb d_Mf_order_1 rfl (lv_at hl 1 rfl)) ?_
    have f_3 : G a.x = some (31, .inr (8, [.ref a.vs, .int (nI S.n), .ref a.rs, .int (nI S.rn), .ref a.ws, .ref a.ca, .ref (a.fr 0), .ref (a.fr 1), .ref (a.fr 2), .ref (a.fr 3), .ref a.zr, .ref a.fo, .ref a.ha, .ref a.si])) := hC.ob
    refine g_outr hlo (g_runV (As := [.int (nI i)]) (rest := []) ⟨hx, hb, hml, hown, hts⟩ hK hZ hRc hRs (c_Mf_valueOf l D cA lo MC MS G B X a S F V hC hW i (by omega) hX1 hX2) (fun _ _ => cwV 1 hts (tb_good (tb_cons wm539 (tb_cons wm541 (tb_cons ws11 (tb_cons wm1 k_Mf_valueOf))))) rfl rfl rfl (by decide +kernel) ⟨by rw [hRf]; exact Nat.le_of_ble_eq_true rfl, by rw [hRl]; exact Nat.le_of_ble_eq_true rfl⟩) f_3 rfl bl_1 bl_2 rfl (Nat.le_of_ble_eq_true rfl) d_Mf_order_2) (fun r_7 G_4 B_5 p_6 => ?_)
    obtain ⟨u_8, iv_9⟩ := p_6
    cases u_8
    have rb_10 : rb (S.v i) 100 := rb_of (hW.v _ (by omega)).1
    have ub_11 := (hW.v i (by omega)).2
    have ub_12 := ub_11.1
    have ub_13 := ub_11.2
    refine gst (pc' := 6) (L' := [(3, .ref r_7), (0, .ref a.x), (1, .int (nI i)), (2, .int (iI y))]) (fun _ _ _ _ _ hl => lv_astore_n hx hb d_Mf_order_5 rfl hl (by decide) rfl) ?_
    refine gs (pc' := 7) (fun _ _ _ _ _ hl => lv_aload_n hx hb d_Mf_order_6 rfl (lv_at hl 1 rfl)) ?_
    refine gs (pc' := 8) (fun _ _ _ _ _ hl => lv_iload_n hx hb d_Mf_order_7 rfl (lv_at hl 3 rfl)) ?_
    exact g_up hlocks hne bl_1 bl_2 (g_thrV (As := [.int (iI y)]) (rest := []) ⟨hx, hb, hml, hown, hts⟩ hK hZ hRc hRs (t_Mf_valueOf l D cA lo MC MS G B X a S F V hC hW y hy1 hy2 (nvi hy1 hy2 hv2) hY1 hY2 hfl) (fun _ _ => cwV 1 hts (tb_good (tb_cons wm539 (tb_cons wm541 (tb_cons ws11 (tb_cons wm1 k_Mf_valueOf))))) rfl rfl rfl (by decide +kernel) ⟨by rw [hRf]; exact Nat.le_of_ble_eq_true rfl, by rw [hRl]; exact Nat.le_of_ble_eq_true rfl⟩) f_3 rfl bl_1 bl_2 rfl (Nat.le_of_ble_eq_true rfl) d_Mf_order_8) (fun _ h => h) hQ
  · skip
    refine gs (pc' := 1) (fun _ _ _ _ _ hl => lv_aload_n hx hb d_Mf_order_0 rfl (lv_at hl 0 rfl)) ?_
    refine gs (pc' := 2) (fun _ _ _ _ _ hl => lv_iload_n hx hb d_Mf_order_1 rfl (lv_at hl 1 rfl)) ?_
    have f_14 : G a.x = some (31, .inr (8, [.ref a.vs, .int (nI S.n), .ref a.rs, .int (nI S.rn), .ref a.ws, .ref a.ca, .ref (a.fr 0), .ref (a.fr 1), .ref (a.fr 2), .ref (a.fr 3), .ref a.zr, .ref a.fo, .ref a.ha, .ref a.si])) := hC.ob
    exact g_up hlocks hne bl_1 bl_2 (g_thrV (As := [.int (iI x)]) (rest := []) ⟨hx, hb, hml, hown, hts⟩ hK hZ hRc hRs (t_Mf_valueOf l D cA lo MC MS G B X a S F V hC hW x hx1 hx2 (nvi hx1 hx2 hv1) hY1 hY2 hfl) (fun _ _ => cwV 1 hts (tb_good (tb_cons wm539 (tb_cons wm541 (tb_cons ws11 (tb_cons wm1 k_Mf_valueOf))))) rfl rfl rfl (by decide +kernel) ⟨by rw [hRf]; exact Nat.le_of_ble_eq_true rfl, by rw [hRl]; exact Nat.le_of_ble_eq_true rfl⟩) f_14 rfl bl_1 bl_2 rfl (Nat.le_of_ble_eq_true rfl) d_Mf_order_2) (fun _ h => h) hQ
