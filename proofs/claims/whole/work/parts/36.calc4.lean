theorem sc_238 {ta tb to : Nat} (hta : 11 ≤ ta) (hta2 : ta < 19) (htb : 11 ≤ tb) (htb2 : tb < 19) (htab : ¬ ta = tb) (hto : 20 ≤ to) (hto2 : to ≤ 23) : ¬ (to = 6) := by omega
theorem sc_239 {ta tb to : Nat} (hta : 11 ≤ ta) (hta2 : ta < 19) (htb : 11 ≤ tb) (htb2 : tb < 19) (htab : ¬ ta = tb) (hto : 20 ≤ to) (hto2 : to ≤ 23) : ∀ x, (x < 11 ∨ x = 19 ∨ x = ta ∨ x = tb ∨ x = to) ∨ (x = 6) → (x < 11 ∨ x = 19 ∨ x = ta ∨ x = tb ∨ x = to) := by intro x h; omega
theorem sc_240 {ta tb to : Nat} (hta : 11 ≤ ta) (hta2 : ta < 19) (htb : 11 ≤ tb) (htb2 : tb < 19) (htab : ¬ ta = tb) (hto : 20 ≤ to) (hto2 : to ≤ 23) : ¬ (to = 7) := by omega
theorem sc_241 {ta tb to : Nat} (hta : 11 ≤ ta) (hta2 : ta < 19) (htb : 11 ≤ tb) (htb2 : tb < 19) (htab : ¬ ta = tb) (hto : 20 ≤ to) (hto2 : to ≤ 23) : ∀ x, (x < 11 ∨ x = 19 ∨ x = ta ∨ x = tb ∨ x = to) ∨ (x = 7) → (x < 11 ∨ x = 19 ∨ x = ta ∨ x = tb ∨ x = to) := by intro x h; omega
theorem sc_242 {ta tb to : Nat} (hta : 11 ≤ ta) (hta2 : ta < 19) (htb : 11 ≤ tb) (htb2 : tb < 19) (htab : ¬ ta = tb) (hto : 20 ≤ to) (hto2 : to ≤ 23) : ∀ x, x < 19 → ¬ x = to := by intro x h; omega
theorem sc_243 {ta tb to : Nat} (hta : 11 ≤ ta) (hta2 : ta < 19) (htb : 11 ≤ tb) (htb2 : tb < 19) (htab : ¬ ta = tb) (hto : 20 ≤ to) (hto2 : to ≤ 23) : ¬ (30 = to) := by omega
theorem sc_244 {ta tb to : Nat} (hta : 11 ≤ ta) (hta2 : ta < 19) (htb : 11 ≤ tb) (htb2 : tb < 19) (htab : ¬ ta = tb) (hto : 20 ≤ to) (hto2 : to ≤ 23) : ¬ (19 = to) := by omega
theorem sc_245 {ta tb to : Nat} (hta : 11 ≤ ta) (hta2 : ta < 19) (htb : 11 ≤ tb) (htb2 : tb < 19) (htab : ¬ ta = tb) (hto : 20 ≤ to) (hto2 : to ≤ 23) : ¬ (6 = to) := by omega
theorem sc_246 {ta tb to : Nat} (hta : 11 ≤ ta) (hta2 : ta < 19) (htb : 11 ≤ tb) (htb2 : tb < 19) (htab : ¬ ta = tb) (hto : 20 ≤ to) (hto2 : to ≤ 23) : ¬ (7 = to) := by omega
theorem sc_247 {ta tb to : Nat} (hta : 11 ≤ ta) (hta2 : ta < 19) (htb : 11 ≤ tb) (htb2 : tb < 19) (htab : ¬ ta = tb) (hto : 20 ≤ to) (hto2 : to ≤ 23) : ∀ x, (x < 11 ∨ x = 19 ∨ x = ta ∨ x = tb ∨ x = to) ∨ (x = to) → (x < 11 ∨ x = 19 ∨ x = ta ∨ x = tb ∨ x = to) := by intro x h; omega
theorem sc_248 {ta tb to : Nat} (hta : 11 ≤ ta) (hta2 : ta < 19) (htb : 11 ≤ tb) (htb2 : tb < 19) (htab : ¬ ta = tb) (hto : 20 ≤ to) (hto2 : to ≤ 23) : 5 ≤ 6 ∧ ¬ 6 = 19 ∧ ¬ 6 = ta ∧ ¬ 6 = tb := by omega
theorem sc_249 {ta tb to : Nat} (hta : 11 ≤ ta) (hta2 : ta < 19) (htb : 11 ≤ tb) (htb2 : tb < 19) (htab : ¬ ta = tb) (hto : 20 ≤ to) (hto2 : to ≤ 23) : 5 ≤ 7 ∧ ¬ 7 = 19 ∧ ¬ 7 = ta ∧ ¬ 7 = tb := by omega
theorem sc_250 {ta tb to : Nat} (hta : 11 ≤ ta) (hta2 : ta < 19) (htb : 11 ≤ tb) (htb2 : tb < 19) (htab : ¬ ta = tb) (hto : 20 ≤ to) (hto2 : to ≤ 23) : 3 ≤ 3 := by omega
theorem sc_251 {ta tb to : Nat} (hta : 11 ≤ ta) (hta2 : ta < 19) (htb : 11 ≤ tb) (htb2 : tb < 19) (htab : ¬ ta = tb) (hto : 20 ≤ to) (hto2 : to ≤ 23) : 3 ≤ 1499 := by omega
theorem sc_252 {ta tb to : Nat} (hta : 11 ≤ ta) (hta2 : ta < 19) (htb : 11 ≤ tb) (htb2 : tb < 19) (htab : ¬ ta = tb) (hto : 20 ≤ to) (hto2 : to ≤ 23) : ¬ (30 < 5 ∨ 30 = 19 ∨ 30 = ta ∨ 30 = tb) := by omega
theorem sc_253 {ta tb to : Nat} (hta : 11 ≤ ta) (hta2 : ta < 19) (htb : 11 ≤ tb) (htb2 : tb < 19) (htab : ¬ ta = tb) (hto : 20 ≤ to) (hto2 : to ≤ 23) : ¬ (to < 5 ∨ to = 19 ∨ to = ta ∨ to = tb) := by omega
theorem sc_254 {ta tb to : Nat} (hta : 11 ≤ ta) (hta2 : ta < 19) (htb : 11 ≤ tb) (htb2 : tb < 19) (htab : ¬ ta = tb) (hto : 20 ≤ to) (hto2 : to ≤ 23) : ¬ (6 < 5 ∨ 6 = 19 ∨ 6 = ta ∨ 6 = tb) := by omega
theorem sc_255 {ta tb to : Nat} (hta : 11 ≤ ta) (hta2 : ta < 19) (htb : 11 ≤ tb) (htb2 : tb < 19) (htab : ¬ ta = tb) (hto : 20 ≤ to) (hto2 : to ≤ 23) : ¬ (7 < 5 ∨ 7 = 19 ∨ 7 = ta ∨ 7 = tb) := by omega
theorem sc_256 {ta tb to : Nat} (hta : 11 ≤ ta) (hta2 : ta < 19) (htb : 11 ≤ tb) (htb2 : tb < 19) (htab : ¬ ta = tb) (hto : 20 ≤ to) (hto2 : to ≤ 23) : ∀ x, (x < 11 ∨ x = 19 ∨ x = ta ∨ x = tb ∨ x = to) ∨ (x < 5 ∨ x = 19 ∨ x = ta ∨ x = tb) → (x < 11 ∨ x = 19 ∨ x = ta ∨ x = tb ∨ x = to) := by intro x h; omega
set_option maxHeartbeats 4000000 in
set_option maxRecDepth 100000 in
theorem n_setRatio (l : Launch) (D : va_G) (cA : Nat → ClassId) (lo MC MS : Nat) (G : gT) (B : Nat × Nat) (X : Nat × Nat) (ad V : Nat → Nat) (hW : w2 cA X ad V (G, B)) (hX1 : X.1 ≤ MC) (hX2 : X.2 ≤ MS) (hk hd hc : Nat) (hhk : G hk = some (30, .inr (0, [.ref hd, .ref hc, .ref (ad 5), .ref (ad 6), .ref (ad 7), .ref (ad 8), .ref (ad 9), .ref (ad 10)]))) (hhd : G hd = some (30, .inr (2, [.ref (ad 0), .ref (ad 1), .ref (ad 2)]))) (hcd : cdO ad hd hc G) (hf ta tb to : Nat) (sf : Int32) (hhf : G hf = some (to, .inr (3, [.int sf, .ref (ad ta), .ref (ad tb)]))) (hta : 11 ≤ ta) (hta2 : ta < 19) (htb : 11 ≤ tb) (htb2 : tb < 19) (htab : ¬ ta = tb) (hto : 20 ≤ to) (hto2 : to ≤ 23) (x y : Int) (hx1 : -9223372036854775808 ≤ x) (hx2 : x < 9223372036854775808) (hy1 : -9223372036854775808 ≤ y) (hy2 : y < 9223372036854775808) (hy0 : y ≠ 0) : gMet l y_Ca_setRatio w_Ca_setRatio 7 187 D clS (gtys cA) lo MC MS [.ref hk, .ref hf, .long (lI x), .long (lI y)] G B (gQv D clS lo (fT cA X ad hd hc (fun x => x < 11 ∨ x = 19 ∨ x = ta ∨ x = tb ∨ x = to) G V hf ta tb to (frn (x * y.sign) y.natAbs) (rdd (x * y.sign).natAbs y.natAbs))) := by
  refine g_metv (cc := prog_2_method_2_code) (nL := 6) (L := [(0, .ref hk), (1, .ref hf), (2, .long (lI x)), (4, .long (lI y))]) (by decide +kernel) rfl (Nat.le_of_ble_eq_true rfl) rfl ?_
  intro p e R s m args below meth c Q hF hRc hRs hRf hRl hret
  obtain ⟨hx, hb, hr, hml, hts0, hown, hlocks, hin, hK, hlo, hZ⟩ := hF
  have hts : ∀ w ∈ tbg, w.before args s = true := fun w h => hts0 w (List.mem_cons_of_mem _ h)
  obtain ⟨ga0, gb0, gc0, gd0, hhc⟩ := id hcd
  have hS0 : w2s cA X ad (fun x => x < 11 ∨ x = 19 ∨ x = ta ∨ x = tb ∨ x = to) G V V (G, B) := w2s_rf hW
  have bl_1 : B.1 ≤ MC := Nat.le_trans (w2_le hW).1 hX1
  have bl_2 : B.2 ≤ MS := Nat.le_trans (w2_le hW).2 hX2
  refine gs (pc' := 1) (fun _ _ _ _ _ hl => lv_aload_n hx hb d_Ca_setRatio_0 rfl (lv_at hl 0 rfl)) ?_
  refine g_get hx hb hts hin_Ca hown hK hhk rfl 3 (by decide) (hts _ wm133) (fun _ h9 => h9) rfl d_Ca_setRatio_1 ?_
  refine gs (pc' := 5) (fun _ _ _ _ _ hl => lv_lload_n hx hb d_Ca_setRatio_4 rfl (lv_at hl 2 rfl)) ?_
  obtain ⟨κo_3, ao_3, zo_3, fo_3, hho_3, hao_3, hzo_3, hDo_3, hco_3⟩ := w2_N hW (show 6 < 19 by decide)
  have hbo_3 : zo_3 ≤ 3000 := Nat.le_trans hzo_3 hco_3
  refine g_outv hlo (g_runV (As := [.long (lI x)]) (rest := []) ⟨hx, hb, hml, hown, hts⟩ hK hZ hRc hRs (n_setMagnitude l D cA lo MC MS G B X ad V hW hX1 hX2 6 (by decide) (lI x)) (fun _ _ => cwV 1 hts (tb_good (tb_cons wm394 (tb_cons wm185 (tb_cons wm186 (tb_cons wm5 k_Na_setMagnitude))))) rfl rfl rfl (by decide +kernel) ⟨by rw [hRf]; exact Nat.le_of_ble_eq_true rfl, by rw [hRl]; exact Nat.le_of_ble_eq_true rfl⟩) hho_3 rfl bl_1 bl_2 rfl (Nat.le_of_ble_eq_true rfl) d_Ca_setRatio_5) (fun G_4 B_5 p_6 => ?_)
  obtain ⟨V_7, s_8, k_9⟩ := p_6
  have k_10 : V_7 6 = x.natAbs := k_9.trans (congrArg Int.natAbs (lI_toInt (by omega) (by omega)))
  have lt_11 : x.natAbs < 1000000000 ^ 3 := lb_long (by omega) (by omega)
  have f_12 : G_4 hk = some (30, .inr (0, [.ref hd, .ref hc, .ref (ad 5), .ref (ad 6), .ref (ad 7), .ref (ad 8), .ref (ad 9), .ref (ad 10)])) := s_8.2.2 _ _ hhk (show ¬ (30 = 6) by decide)
  have f_13 : G_4 hd = some (30, .inr (2, [.ref (ad 0), .ref (ad 1), .ref (ad 2)])) := s_8.2.2 _ _ hhd (show ¬ (30 = 6) by decide)
  have f_14 : G_4 hc = some (19, .inr (1, [.ref hd, .ref (ad 3), .ref (ad 4), .long ga0, .long gb0, .long gc0, .long gd0])) := s_8.2.2 _ _ hhc (show ¬ (19 = 6) by decide)
  have f_15 : G_4 hf = some (to, .inr (3, [.int sf, .ref (ad ta), .ref (ad tb)])) := s_8.2.2 _ _ hhf (sc_238 hta hta2 htb htb2 htab hto hto2)
  have W_16 := s_8.1
  have S_17 : w2s cA X ad (fun x => x < 11 ∨ x = 19 ∨ x = ta ∨ x = tb ∨ x = to) G V V_7 (G_4, B_5) := w2s_mono (w2s_tr hS0 s_8) (sc_239 hta hta2 htb htb2 htab hto hto2)
  have bl_18 : B_5.1 ≤ MC := Nat.le_trans (w2_le W_16).1 hX1
  have bl_19 : B_5.2 ≤ MS := Nat.le_trans (w2_le W_16).2 hX2
  refine gs (pc' := 9) (fun _ _ _ _ _ hl => lv_aload_n hx hb d_Ca_setRatio_8 rfl (lv_at hl 0 rfl)) ?_
  refine g_get hx hb hts hin_Ca hown hK f_12 rfl 4 (by decide) (hts _ wm134) (fun _ h9 => h9) rfl d_Ca_setRatio_9 ?_
  refine gs (pc' := 14) (fun _ _ _ _ _ hl => lv_lload hx hb d_Ca_setRatio_12 (lv_at hl 3 rfl)) ?_
  obtain ⟨κo_20, ao_20, zo_20, fo_20, hho_20, hao_20, hzo_20, hDo_20, hco_20⟩ := w2_N W_16 (show 7 < 19 by decide)
  have hbo_20 : zo_20 ≤ 3000 := Nat.le_trans hzo_20 hco_20
  refine g_outv hlo (g_runV (As := [.long (lI y)]) (rest := []) ⟨hx, hb, hml, hown, hts⟩ hK hZ hRc hRs (n_setMagnitude l D cA lo MC MS G_4 B_5 X ad V_7 W_16 hX1 hX2 7 (by decide) (lI y)) (fun _ _ => cwV 1 hts (tb_good (tb_cons wm394 (tb_cons wm185 (tb_cons wm186 (tb_cons wm5 k_Na_setMagnitude))))) rfl rfl rfl (by decide +kernel) ⟨by rw [hRf]; exact Nat.le_of_ble_eq_true rfl, by rw [hRl]; exact Nat.le_of_ble_eq_true rfl⟩) hho_20 rfl bl_18 bl_19 rfl (Nat.le_of_ble_eq_true rfl) d_Ca_setRatio_14) (fun G_21 B_22 p_23 => ?_)
  obtain ⟨V_24, s_25, k_26⟩ := p_23
  have k_27 : V_24 7 = y.natAbs := k_26.trans (congrArg Int.natAbs (lI_toInt (by omega) (by omega)))
  have lt_28 : y.natAbs < 1000000000 ^ 3 := lb_long (by omega) (by omega)
  have f_29 : G_21 hk = some (30, .inr (0, [.ref hd, .ref hc, .ref (ad 5), .ref (ad 6), .ref (ad 7), .ref (ad 8), .ref (ad 9), .ref (ad 10)])) := s_25.2.2 _ _ f_12 (show ¬ (30 = 7) by decide)
  have f_30 : G_21 hd = some (30, .inr (2, [.ref (ad 0), .ref (ad 1), .ref (ad 2)])) := s_25.2.2 _ _ f_13 (show ¬ (30 = 7) by decide)
  have f_31 : G_21 hc = some (19, .inr (1, [.ref hd, .ref (ad 3), .ref (ad 4), .long ga0, .long gb0, .long gc0, .long gd0])) := s_25.2.2 _ _ f_14 (show ¬ (19 = 7) by decide)
  have f_32 : G_21 hf = some (to, .inr (3, [.int sf, .ref (ad ta), .ref (ad tb)])) := s_25.2.2 _ _ f_15 (sc_240 hta hta2 htb htb2 htab hto hto2)
  have k_33 : V_24 6 = x.natAbs := (s_25.2.1 6 (show ¬ (6 = 7) by decide)).trans k_10
  have W_34 := s_25.1
  have S_35 : w2s cA X ad (fun x => x < 11 ∨ x = 19 ∨ x = ta ∨ x = tb ∨ x = to) G V V_24 (G_21, B_22) := w2s_mono (w2s_tr S_17 s_25) (sc_241 hta hta2 htb htb2 htab hto hto2)
  have bl_36 : B_22.1 ≤ MC := Nat.le_trans (w2_le W_34).1 hX1
  have bl_37 : B_22.2 ≤ MS := Nat.le_trans (w2_le W_34).2 hX2
  refine gs (pc' := 18) (fun _ _ _ _ _ hl => lv_aload_n hx hb d_Ca_setRatio_17 rfl (lv_at hl 1 rfl)) ?_
  refine gs (pc' := 19) (fun _ _ _ _ _ hl => lv_lload_n hx hb d_Ca_setRatio_18 rfl (lv_at hl 2 rfl)) ?_
  refine gs (pc' := 20) (fun _ _ _ _ _ hl => lv_lconst (v := lN 0) hx hb d_Ca_setRatio_19 (by decide)) ?_
  refine gs (pc' := 21) (fun _ _ _ _ _ hl => W.lcmp hx hb d_Ca_setRatio_20) ?_
  refine gsb (pc1 := 28) (pc2 := 24) (fun _ _ _ _ _ => lv_if_ne (tgt := 28) hx hb d_Ca_setRatio_21 (by decide)) (fun c_38 => ?_) (fun c_38 => ?_)
  · skip
    have nc_38 : x ≠ ((0 : Nat) : Int) := (lcI_ne (a := x) (b := ((0 : Nat) : Int)) (by omega) (by omega) (by omega) (by omega)).1 (by rw [cmp_IN] at c_38; exact c_38)
    refine gs (pc' := 29) (fun _ _ _ _ _ hl => lv_lload_n hx hb d_Ca_setRatio_28 rfl (lv_at hl 2 rfl)) ?_
    refine gs (pc' := 30) (fun _ _ _ _ _ hl => lv_lconst (v := lN 0) hx hb d_Ca_setRatio_29 (by decide)) ?_
    refine gs (pc' := 31) (fun _ _ _ _ _ hl => W.lcmp hx hb d_Ca_setRatio_30) ?_
    refine gsb (pc1 := 38) (pc2 := 34) (fun _ _ _ _ _ => lv_if_ge (tgt := 38) hx hb d_Ca_setRatio_31 (by decide)) (fun c_39 => ?_) (fun c_39 => ?_)
    · skip
      have nc_39 : x ≥ ((0 : Nat) : Int) := (lcI_ge (a := x) (b := ((0 : Nat) : Int)) (by omega) (by omega) (by omega) (by omega)).1 (by rw [cmp_IN] at c_39; exact c_39)
      have hxs : 0 < x := by omega
      refine gs (pc' := 39) (fun _ _ _ _ _ hl => lv_iconst (v := nI 0) hx hb d_Ca_setRatio_38 (by decide)) ?_
      refine gs (pc' := 41) (fun _ _ _ _ _ hl => lv_lload hx hb d_Ca_setRatio_39 (lv_at hl 3 rfl)) ?_
      refine gs (pc' := 42) (fun _ _ _ _ _ hl => lv_lconst (v := lN 0) hx hb d_Ca_setRatio_41 (by decide)) ?_
      refine gs (pc' := 43) (fun _ _ _ _ _ hl => W.lcmp hx hb d_Ca_setRatio_42) ?_
      refine gsb (pc1 := 50) (pc2 := 46) (fun _ _ _ _ _ => lv_if_ge (tgt := 50) hx hb d_Ca_setRatio_43 (by decide)) (fun c_40 => ?_) (fun c_40 => ?_)
      · skip
        have nc_40 : y ≥ ((0 : Nat) : Int) := (lcI_ge (a := y) (b := ((0 : Nat) : Int)) (by omega) (by omega) (by omega) (by omega)).1 (by rw [cmp_IN] at c_40; exact c_40)
        have hys : 0 < y := by omega
        refine gs (pc' := 51) (fun _ _ _ _ _ hl => lv_iconst (v := nI 0) hx hb d_Ca_setRatio_50 (by decide)) ?_
        refine gsb (pc1 := 58) (pc2 := 54) (fun _ _ _ _ _ => lv_icmp_ne (tgt := 58) hx hb d_Ca_setRatio_51 (by decide)) (fun c_41 => ?_) (fun c_41 => ?_)
        · skip
          have nc_41 : 0 ≠ 0 := (nn_ne (a := 0) (b := 0) (by omega) (by omega)).1 c_41
          exact absurd nc_41 (by omega)
        · skip
          have nc_41 : 0 = 0 := (nn_ne (a := 0) (b := 0) (by omega) (by omega)).2 c_41
          refine gs (pc' := 55) (fun _ _ _ _ _ hl => lv_iconst (v := nI 1) hx hb d_Ca_setRatio_54 (by decide)) ?_
          refine gs (pc' := 59) (fun _ _ _ _ _ hl => lv_goto (tgt := 59) hx hb d_Ca_setRatio_55 (by decide)) ?_
          refine g_put (ty := .int) hx hb hts hin_Fr ty_Fr ty_Fr_ok nm_Fr hown hK f_32 rfl 0 (by decide) (hts _ wm164) (fun _ h9 => h9) rfl (by decide +kernel) rfl rfl (Nat.le_of_ble_eq_true rfl) d_Ca_setRatio_59 (fun G_42 f_43 o_44 => ?_)
          have f_45 : G_42 hf = some (to, .inr (3, [.int (nI 1), .ref (ad ta), .ref (ad tb)])) := f_43
          have fr_46 : gfr (fun x => x = to) G_21 G_42 := gfr_put gfr_rf f_32 rfl o_44
          have s_47 : w2s cA X ad (fun x => x = to) G_21 V_24 V_24 (G_42, B_22) := ⟨w2_fr W_34 fr_46 (sc_242 hta hta2 htb htb2 htab hto hto2), fun _ _ => rfl, fr_46⟩
          have f_48 : G_42 hk = some (30, .inr (0, [.ref hd, .ref hc, .ref (ad 5), .ref (ad 6), .ref (ad 7), .ref (ad 8), .ref (ad 9), .ref (ad 10)])) := s_47.2.2 _ _ f_29 (sc_243 hta hta2 htb htb2 htab hto hto2)
          have f_49 : G_42 hd = some (30, .inr (2, [.ref (ad 0), .ref (ad 1), .ref (ad 2)])) := s_47.2.2 _ _ f_30 (sc_243 hta hta2 htb htb2 htab hto hto2)
          have f_50 : G_42 hc = some (19, .inr (1, [.ref hd, .ref (ad 3), .ref (ad 4), .long ga0, .long gb0, .long gc0, .long gd0])) := s_47.2.2 _ _ f_31 (sc_244 hta hta2 htb htb2 htab hto hto2)
          have k_51 : V_24 6 = x.natAbs := (s_47.2.1 6 (sc_245 hta hta2 htb htb2 htab hto hto2)).trans k_33
          have k_52 : V_24 7 = y.natAbs := (s_47.2.1 7 (sc_246 hta hta2 htb htb2 htab hto hto2)).trans k_27
          have W_53 := s_47.1
          have S_54 : w2s cA X ad (fun x => x < 11 ∨ x = 19 ∨ x = ta ∨ x = tb ∨ x = to) G V V_24 (G_42, B_22) := w2s_mono (w2s_tr S_35 s_47) (sc_247 hta hta2 htb htb2 htab hto hto2)
          have bl_55 : B_22.1 ≤ MC := Nat.le_trans (w2_le W_53).1 hX1
          have bl_56 : B_22.2 ≤ MS := Nat.le_trans (w2_le W_53).2 hX2
          refine gs (pc' := 63) (fun _ _ _ _ _ hl => lv_aload_n hx hb d_Ca_setRatio_62 rfl (lv_at hl 0 rfl)) ?_
          refine gs (pc' := 64) (fun _ _ _ _ _ hl => lv_aload_n hx hb d_Ca_setRatio_63 rfl (lv_at hl 1 rfl)) ?_
          refine gs (pc' := 65) (fun _ _ _ _ _ hl => lv_aload_n hx hb d_Ca_setRatio_64 rfl (lv_at hl 0 rfl)) ?_
          refine g_get hx hb hts hin_Ca hown hK f_48 rfl 3 (by decide) (hts _ wm133) (fun _ h9 => h9) rfl d_Ca_setRatio_65 ?_
          refine gs (pc' := 69) (fun _ _ _ _ _ hl => lv_aload_n hx hb d_Ca_setRatio_68 rfl (lv_at hl 0 rfl)) ?_
          refine g_get hx hb hts hin_Ca hown hK f_48 rfl 4 (by decide) (hts _ wm134) (fun _ h9 => h9) rfl d_Ca_setRatio_69 ?_
          have lt_57 : x.natAbs < 1000000000 ^ (3) := lb_up lt_11 (sc_250 hta hta2 htb htb2 htab hto hto2)
          have lt_58 : y.natAbs < 1000000000 ^ (3) := lb_up lt_28 (sc_250 hta hta2 htb htb2 htab hto hto2)
          refine g_outv hlo (g_runV (As := [.ref hf, .ref (ad 6), .ref (ad 7)]) (rest := []) ⟨hx, hb, hml, hown, hts⟩ hK hZ hRc hRs (n_setReduced l D cA lo MC MS G_42 B_22 X ad V_24 W_53 hX1 hX2 hk hd hc f_48 f_49 (cdO_i f_50) hf ta tb to (nI 1) f_45 hta hta2 htb htb2 htab hto hto2 (ad 6) x.natAbs (ad 7) y.natAbs 3 (rd_w2' (P := fun x => 5 ≤ x ∧ ¬ x = 19 ∧ ¬ x = ta ∧ ¬ x = tb) W_53 (by decide) (sc_248 hta hta2 htb htb2 htab hto hto2) k_51) (rd_w2' (P := fun x => 5 ≤ x ∧ ¬ x = 19 ∧ ¬ x = ta ∧ ¬ x = tb) W_53 (by decide) (sc_249 hta hta2 htb htb2 htab hto hto2) k_52) lt_57 lt_58 (sc_251 hta hta2 htb htb2 htab hto hto2) (by omega)) (fun _ _ => cwV 3 hts (tb_good (tb_cons wm395 (tb_cons wm397 (tb_cons ws2 (tb_cons wm3 k_Ca_setReduced))))) rfl rfl rfl (by decide +kernel) ⟨by rw [hRf]; exact Nat.le_of_ble_eq_true rfl, by rw [hRl]; exact Nat.le_of_ble_eq_true rfl⟩) f_48 rfl bl_55 bl_56 rfl (Nat.le_of_ble_eq_true rfl) d_Ca_setRatio_72) (fun G_59 B_60 p_61 => ?_)
          obtain ⟨V_62, s_63, k_64, k_65, cd_66⟩ := p_61
          have f_67 : G_59 hk = some (30, .inr (0, [.ref hd, .ref hc, .ref (ad 5), .ref (ad 6), .ref (ad 7), .ref (ad 8), .ref (ad 9), .ref (ad 10)])) := s_63.2.2 _ _ f_48 (sc_252 hta hta2 htb htb2 htab hto hto2)
          have f_68 : G_59 hd = some (30, .inr (2, [.ref (ad 0), .ref (ad 1), .ref (ad 2)])) := s_63.2.2 _ _ f_49 (sc_252 hta hta2 htb htb2 htab hto hto2)
          have f_69 : G_59 hf = some (to, .inr (3, [.int (nI 1), .ref (ad ta), .ref (ad tb)])) := s_63.2.2 _ _ f_45 (sc_253 hta hta2 htb htb2 htab hto hto2)
          have k_70 : V_62 6 = x.natAbs := (s_63.2.1 6 (sc_254 hta hta2 htb htb2 htab hto hto2)).trans k_51
          have k_71 : V_62 7 = y.natAbs := (s_63.2.1 7 (sc_255 hta hta2 htb htb2 htab hto hto2)).trans k_52
          have W_72 := s_63.1
          have S_73 : w2s cA X ad (fun x => x < 11 ∨ x = 19 ∨ x = ta ∨ x = tb ∨ x = to) G V V_62 (G_59, B_60) := w2s_mono (w2s_tr S_54 s_63) (sc_256 hta hta2 htb htb2 htab hto hto2)
          have bl_74 : B_60.1 ≤ MC := Nat.le_trans (w2_le W_72).1 hX1
          have bl_75 : B_60.2 ≤ MS := Nat.le_trans (w2_le W_72).2 hX2
          have hna : (x * y.sign).natAbs = x.natAbs := sgn_mul hy0
          have hsg : (nI 1) = sgI (frn (x * y.sign) y.natAbs) := by rw [frn_sg, sgn_of]; exact (sgI_pos (Int.mul_pos hxs hys)).symm
          exact hret 75 _ _ _ d_Ca_setRatio_75 bl_74 bl_75 ⟨V_62, S_73, k_64.trans (by rw [frn_abs, hna]), k_65.trans (by rw [hna]), by rw [← hsg]; exact f_69, cd_66⟩
      · skip
        have nc_40 : y < ((0 : Nat) : Int) := (lcI_ge (a := y) (b := ((0 : Nat) : Int)) (by omega) (by omega) (by omega) (by omega)).2 (by rw [cmp_IN] at c_40; exact c_40)
        have hys : y < 0 := by omega
        refine gs (pc' := 47) (fun _ _ _ _ _ hl => lv_iconst (v := nI 1) hx hb d_Ca_setRatio_46 (by decide)) ?_
        refine gs (pc' := 51) (fun _ _ _ _ _ hl => lv_goto (tgt := 51) hx hb d_Ca_setRatio_47 (by decide)) ?_
        refine gsb (pc1 := 58) (pc2 := 54) (fun _ _ _ _ _ => lv_icmp_ne (tgt := 58) hx hb d_Ca_setRatio_51 (by decide)) (fun c_76 => ?_) (fun c_76 => ?_)
        · skip
          have nc_76 : 0 ≠ 1 := (nn_ne (a := 0) (b := 1) (by omega) (by omega)).1 c_76
          refine gs (pc' := 59) (fun _ _ _ _ _ hl => lv_iconst (v := (-1)) hx hb d_Ca_setRatio_58 (by decide)) ?_
          refine g_put (ty := .int) hx hb hts hin_Fr ty_Fr ty_Fr_ok nm_Fr hown hK f_32 rfl 0 (by decide) (hts _ wm164) (fun _ h9 => h9) rfl (by decide +kernel) rfl rfl (Nat.le_of_ble_eq_true rfl) d_Ca_setRatio_59 (fun G_77 f_78 o_79 => ?_)
          have f_80 : G_77 hf = some (to, .inr (3, [.int (-1), .ref (ad ta), .ref (ad tb)])) := f_78
          have fr_81 : gfr (fun x => x = to) G_21 G_77 := gfr_put gfr_rf f_32 rfl o_79
          have s_82 : w2s cA X ad (fun x => x = to) G_21 V_24 V_24 (G_77, B_22) := ⟨w2_fr W_34 fr_81 (sc_242 hta hta2 htb htb2 htab hto hto2), fun _ _ => rfl, fr_81⟩
          have f_83 : G_77 hk = some (30, .inr (0, [.ref hd, .ref hc, .ref (ad 5), .ref (ad 6), .ref (ad 7), .ref (ad 8), .ref (ad 9), .ref (ad 10)])) := s_82.2.2 _ _ f_29 (sc_243 hta hta2 htb htb2 htab hto hto2)
          have f_84 : G_77 hd = some (30, .inr (2, [.ref (ad 0), .ref (ad 1), .ref (ad 2)])) := s_82.2.2 _ _ f_30 (sc_243 hta hta2 htb htb2 htab hto hto2)
          have f_85 : G_77 hc = some (19, .inr (1, [.ref hd, .ref (ad 3), .ref (ad 4), .long ga0, .long gb0, .long gc0, .long gd0])) := s_82.2.2 _ _ f_31 (sc_244 hta hta2 htb htb2 htab hto hto2)
          have k_86 : V_24 6 = x.natAbs := (s_82.2.1 6 (sc_245 hta hta2 htb htb2 htab hto hto2)).trans k_33
          have k_87 : V_24 7 = y.natAbs := (s_82.2.1 7 (sc_246 hta hta2 htb htb2 htab hto hto2)).trans k_27
          have W_88 := s_82.1
          have S_89 : w2s cA X ad (fun x => x < 11 ∨ x = 19 ∨ x = ta ∨ x = tb ∨ x = to) G V V_24 (G_77, B_22) := w2s_mono (w2s_tr S_35 s_82) (sc_247 hta hta2 htb htb2 htab hto hto2)
          have bl_90 : B_22.1 ≤ MC := Nat.le_trans (w2_le W_88).1 hX1
          have bl_91 : B_22.2 ≤ MS := Nat.le_trans (w2_le W_88).2 hX2
          refine gs (pc' := 63) (fun _ _ _ _ _ hl => lv_aload_n hx hb d_Ca_setRatio_62 rfl (lv_at hl 0 rfl)) ?_
          refine gs (pc' := 64) (fun _ _ _ _ _ hl => lv_aload_n hx hb d_Ca_setRatio_63 rfl (lv_at hl 1 rfl)) ?_
          refine gs (pc' := 65) (fun _ _ _ _ _ hl => lv_aload_n hx hb d_Ca_setRatio_64 rfl (lv_at hl 0 rfl)) ?_
          refine g_get hx hb hts hin_Ca hown hK f_83 rfl 3 (by decide) (hts _ wm133) (fun _ h9 => h9) rfl d_Ca_setRatio_65 ?_
          refine gs (pc' := 69) (fun _ _ _ _ _ hl => lv_aload_n hx hb d_Ca_setRatio_68 rfl (lv_at hl 0 rfl)) ?_
          refine g_get hx hb hts hin_Ca hown hK f_83 rfl 4 (by decide) (hts _ wm134) (fun _ h9 => h9) rfl d_Ca_setRatio_69 ?_
          have lt_92 : x.natAbs < 1000000000 ^ (3) := lb_up lt_11 (sc_250 hta hta2 htb htb2 htab hto hto2)
          have lt_93 : y.natAbs < 1000000000 ^ (3) := lb_up lt_28 (sc_250 hta hta2 htb htb2 htab hto hto2)
          refine g_outv hlo (g_runV (As := [.ref hf, .ref (ad 6), .ref (ad 7)]) (rest := []) ⟨hx, hb, hml, hown, hts⟩ hK hZ hRc hRs (n_setReduced l D cA lo MC MS G_77 B_22 X ad V_24 W_88 hX1 hX2 hk hd hc f_83 f_84 (cdO_i f_85) hf ta tb to (-1) f_80 hta hta2 htb htb2 htab hto hto2 (ad 6) x.natAbs (ad 7) y.natAbs 3 (rd_w2' (P := fun x => 5 ≤ x ∧ ¬ x = 19 ∧ ¬ x = ta ∧ ¬ x = tb) W_88 (by decide) (sc_248 hta hta2 htb htb2 htab hto hto2) k_86) (rd_w2' (P := fun x => 5 ≤ x ∧ ¬ x = 19 ∧ ¬ x = ta ∧ ¬ x = tb) W_88 (by decide) (sc_249 hta hta2 htb htb2 htab hto hto2) k_87) lt_92 lt_93 (sc_251 hta hta2 htb htb2 htab hto hto2) (by omega)) (fun _ _ => cwV 3 hts (tb_good (tb_cons wm395 (tb_cons wm397 (tb_cons ws2 (tb_cons wm3 k_Ca_setReduced))))) rfl rfl rfl (by decide +kernel) ⟨by rw [hRf]; exact Nat.le_of_ble_eq_true rfl, by rw [hRl]; exact Nat.le_of_ble_eq_true rfl⟩) f_83 rfl bl_90 bl_91 rfl (Nat.le_of_ble_eq_true rfl) d_Ca_setRatio_72) (fun G_94 B_95 p_96 => ?_)
          obtain ⟨V_97, s_98, k_99, k_100, cd_101⟩ := p_96
          have f_102 : G_94 hk = some (30, .inr (0, [.ref hd, .ref hc, .ref (ad 5), .ref (ad 6), .ref (ad 7), .ref (ad 8), .ref (ad 9), .ref (ad 10)])) := s_98.2.2 _ _ f_83 (sc_252 hta hta2 htb htb2 htab hto hto2)
          have f_103 : G_94 hd = some (30, .inr (2, [.ref (ad 0), .ref (ad 1), .ref (ad 2)])) := s_98.2.2 _ _ f_84 (sc_252 hta hta2 htb htb2 htab hto hto2)
          have f_104 : G_94 hf = some (to, .inr (3, [.int (-1), .ref (ad ta), .ref (ad tb)])) := s_98.2.2 _ _ f_80 (sc_253 hta hta2 htb htb2 htab hto hto2)
          have k_105 : V_97 6 = x.natAbs := (s_98.2.1 6 (sc_254 hta hta2 htb htb2 htab hto hto2)).trans k_86
          have k_106 : V_97 7 = y.natAbs := (s_98.2.1 7 (sc_255 hta hta2 htb htb2 htab hto hto2)).trans k_87
          have W_107 := s_98.1
          have S_108 : w2s cA X ad (fun x => x < 11 ∨ x = 19 ∨ x = ta ∨ x = tb ∨ x = to) G V V_97 (G_94, B_95) := w2s_mono (w2s_tr S_89 s_98) (sc_256 hta hta2 htb htb2 htab hto hto2)
          have bl_109 : B_95.1 ≤ MC := Nat.le_trans (w2_le W_107).1 hX1
          have bl_110 : B_95.2 ≤ MS := Nat.le_trans (w2_le W_107).2 hX2
          have hna : (x * y.sign).natAbs = x.natAbs := sgn_mul hy0
          have hsg : (-1) = sgI (frn (x * y.sign) y.natAbs) := by rw [frn_sg, sgn_of]; exact (sgI_neg (Int.mul_neg_of_pos_of_neg hxs hys)).symm
          exact hret 75 _ _ _ d_Ca_setRatio_75 bl_109 bl_110 ⟨V_97, S_108, k_99.trans (by rw [frn_abs, hna]), k_100.trans (by rw [hna]), by rw [← hsg]; exact f_104, cd_101⟩
        · skip
          have nc_76 : 0 = 1 := (nn_ne (a := 0) (b := 1) (by omega) (by omega)).2 c_76
          exact absurd nc_76 (by omega)
    · skip
      have nc_39 : x < ((0 : Nat) : Int) := (lcI_ge (a := x) (b := ((0 : Nat) : Int)) (by omega) (by omega) (by omega) (by omega)).2 (by rw [cmp_IN] at c_39; exact c_39)
      have hxs : x < 0 := by omega
      refine gs (pc' := 35) (fun _ _ _ _ _ hl => lv_iconst (v := nI 1) hx hb d_Ca_setRatio_34 (by decide)) ?_
      refine gs (pc' := 39) (fun _ _ _ _ _ hl => lv_goto (tgt := 39) hx hb d_Ca_setRatio_35 (by decide)) ?_
      refine gs (pc' := 41) (fun _ _ _ _ _ hl => lv_lload hx hb d_Ca_setRatio_39 (lv_at hl 3 rfl)) ?_
      refine gs (pc' := 42) (fun _ _ _ _ _ hl => lv_lconst (v := lN 0) hx hb d_Ca_setRatio_41 (by decide)) ?_
      refine gs (pc' := 43) (fun _ _ _ _ _ hl => W.lcmp hx hb d_Ca_setRatio_42) ?_
      refine gsb (pc1 := 50) (pc2 := 46) (fun _ _ _ _ _ => lv_if_ge (tgt := 50) hx hb d_Ca_setRatio_43 (by decide)) (fun c_111 => ?_) (fun c_111 => ?_)
      · skip
        have nc_111 : y ≥ ((0 : Nat) : Int) := (lcI_ge (a := y) (b := ((0 : Nat) : Int)) (by omega) (by omega) (by omega) (by omega)).1 (by rw [cmp_IN] at c_111; exact c_111)
        have hys : 0 < y := by omega
        refine gs (pc' := 51) (fun _ _ _ _ _ hl => lv_iconst (v := nI 0) hx hb d_Ca_setRatio_50 (by decide)) ?_
        refine gsb (pc1 := 58) (pc2 := 54) (fun _ _ _ _ _ => lv_icmp_ne (tgt := 58) hx hb d_Ca_setRatio_51 (by decide)) (fun c_112 => ?_) (fun c_112 => ?_)
        · skip
          have nc_112 : 1 ≠ 0 := (nn_ne (a := 1) (b := 0) (by omega) (by omega)).1 c_112
          refine gs (pc' := 59) (fun _ _ _ _ _ hl => lv_iconst (v := (-1)) hx hb d_Ca_setRatio_58 (by decide)) ?_
          refine g_put (ty := .int) hx hb hts hin_Fr ty_Fr ty_Fr_ok nm_Fr hown hK f_32 rfl 0 (by decide) (hts _ wm164) (fun _ h9 => h9) rfl (by decide +kernel) rfl rfl (Nat.le_of_ble_eq_true rfl) d_Ca_setRatio_59 (fun G_113 f_114 o_115 => ?_)
          have f_116 : G_113 hf = some (to, .inr (3, [.int (-1), .ref (ad ta), .ref (ad tb)])) := f_114
          have fr_117 : gfr (fun x => x = to) G_21 G_113 := gfr_put gfr_rf f_32 rfl o_115
          have s_118 : w2s cA X ad (fun x => x = to) G_21 V_24 V_24 (G_113, B_22) := ⟨w2_fr W_34 fr_117 (sc_242 hta hta2 htb htb2 htab hto hto2), fun _ _ => rfl, fr_117⟩
          have f_119 : G_113 hk = some (30, .inr (0, [.ref hd, .ref hc, .ref (ad 5), .ref (ad 6), .ref (ad 7), .ref (ad 8), .ref (ad 9), .ref (ad 10)])) := s_118.2.2 _ _ f_29 (sc_243 hta hta2 htb htb2 htab hto hto2)
          have f_120 : G_113 hd = some (30, .inr (2, [.ref (ad 0), .ref (ad 1), .ref (ad 2)])) := s_118.2.2 _ _ f_30 (sc_243 hta hta2 htb htb2 htab hto hto2)
          have f_121 : G_113 hc = some (19, .inr (1, [.ref hd, .ref (ad 3), .ref (ad 4), .long ga0, .long gb0, .long gc0, .long gd0])) := s_118.2.2 _ _ f_31 (sc_244 hta hta2 htb htb2 htab hto hto2)
          have k_122 : V_24 6 = x.natAbs := (s_118.2.1 6 (sc_245 hta hta2 htb htb2 htab hto hto2)).trans k_33
          have k_123 : V_24 7 = y.natAbs := (s_118.2.1 7 (sc_246 hta hta2 htb htb2 htab hto hto2)).trans k_27
          have W_124 := s_118.1
          have S_125 : w2s cA X ad (fun x => x < 11 ∨ x = 19 ∨ x = ta ∨ x = tb ∨ x = to) G V V_24 (G_113, B_22) := w2s_mono (w2s_tr S_35 s_118) (sc_247 hta hta2 htb htb2 htab hto hto2)
          have bl_126 : B_22.1 ≤ MC := Nat.le_trans (w2_le W_124).1 hX1
          have bl_127 : B_22.2 ≤ MS := Nat.le_trans (w2_le W_124).2 hX2
          refine gs (pc' := 63) (fun _ _ _ _ _ hl => lv_aload_n hx hb d_Ca_setRatio_62 rfl (lv_at hl 0 rfl)) ?_
          refine gs (pc' := 64) (fun _ _ _ _ _ hl => lv_aload_n hx hb d_Ca_setRatio_63 rfl (lv_at hl 1 rfl)) ?_
          refine gs (pc' := 65) (fun _ _ _ _ _ hl => lv_aload_n hx hb d_Ca_setRatio_64 rfl (lv_at hl 0 rfl)) ?_
          refine g_get hx hb hts hin_Ca hown hK f_119 rfl 3 (by decide) (hts _ wm133) (fun _ h9 => h9) rfl d_Ca_setRatio_65 ?_
          refine gs (pc' := 69) (fun _ _ _ _ _ hl => lv_aload_n hx hb d_Ca_setRatio_68 rfl (lv_at hl 0 rfl)) ?_
          refine g_get hx hb hts hin_Ca hown hK f_119 rfl 4 (by decide) (hts _ wm134) (fun _ h9 => h9) rfl d_Ca_setRatio_69 ?_
          have lt_128 : x.natAbs < 1000000000 ^ (3) := lb_up lt_11 (sc_250 hta hta2 htb htb2 htab hto hto2)
          have lt_129 : y.natAbs < 1000000000 ^ (3) := lb_up lt_28 (sc_250 hta hta2 htb htb2 htab hto hto2)
          refine g_outv hlo (g_runV (As := [.ref hf, .ref (ad 6), .ref (ad 7)]) (rest := []) ⟨hx, hb, hml, hown, hts⟩ hK hZ hRc hRs (n_setReduced l D cA lo MC MS G_113 B_22 X ad V_24 W_124 hX1 hX2 hk hd hc f_119 f_120 (cdO_i f_121) hf ta tb to (-1) f_116 hta hta2 htb htb2 htab hto hto2 (ad 6) x.natAbs (ad 7) y.natAbs 3 (rd_w2' (P := fun x => 5 ≤ x ∧ ¬ x = 19 ∧ ¬ x = ta ∧ ¬ x = tb) W_124 (by decide) (sc_248 hta hta2 htb htb2 htab hto hto2) k_122) (rd_w2' (P := fun x => 5 ≤ x ∧ ¬ x = 19 ∧ ¬ x = ta ∧ ¬ x = tb) W_124 (by decide) (sc_249 hta hta2 htb htb2 htab hto hto2) k_123) lt_128 lt_129 (sc_251 hta hta2 htb htb2 htab hto hto2) (by omega)) (fun _ _ => cwV 3 hts (tb_good (tb_cons wm395 (tb_cons wm397 (tb_cons ws2 (tb_cons wm3 k_Ca_setReduced))))) rfl rfl rfl (by decide +kernel) ⟨by rw [hRf]; exact Nat.le_of_ble_eq_true rfl, by rw [hRl]; exact Nat.le_of_ble_eq_true rfl⟩) f_119 rfl bl_126 bl_127 rfl (Nat.le_of_ble_eq_true rfl) d_Ca_setRatio_72) (fun G_130 B_131 p_132 => ?_)
          obtain ⟨V_133, s_134, k_135, k_136, cd_137⟩ := p_132
          have f_138 : G_130 hk = some (30, .inr (0, [.ref hd, .ref hc, .ref (ad 5), .ref (ad 6), .ref (ad 7), .ref (ad 8), .ref (ad 9), .ref (ad 10)])) := s_134.2.2 _ _ f_119 (sc_252 hta hta2 htb htb2 htab hto hto2)
          have f_139 : G_130 hd = some (30, .inr (2, [.ref (ad 0), .ref (ad 1), .ref (ad 2)])) := s_134.2.2 _ _ f_120 (sc_252 hta hta2 htb htb2 htab hto hto2)
          have f_140 : G_130 hf = some (to, .inr (3, [.int (-1), .ref (ad ta), .ref (ad tb)])) := s_134.2.2 _ _ f_116 (sc_253 hta hta2 htb htb2 htab hto hto2)
          have k_141 : V_133 6 = x.natAbs := (s_134.2.1 6 (sc_254 hta hta2 htb htb2 htab hto hto2)).trans k_122
          have k_142 : V_133 7 = y.natAbs := (s_134.2.1 7 (sc_255 hta hta2 htb htb2 htab hto hto2)).trans k_123
          have W_143 := s_134.1
          have S_144 : w2s cA X ad (fun x => x < 11 ∨ x = 19 ∨ x = ta ∨ x = tb ∨ x = to) G V V_133 (G_130, B_131) := w2s_mono (w2s_tr S_125 s_134) (sc_256 hta hta2 htb htb2 htab hto hto2)
          have bl_145 : B_131.1 ≤ MC := Nat.le_trans (w2_le W_143).1 hX1
          have bl_146 : B_131.2 ≤ MS := Nat.le_trans (w2_le W_143).2 hX2
          have hna : (x * y.sign).natAbs = x.natAbs := sgn_mul hy0
          have hsg : (-1) = sgI (frn (x * y.sign) y.natAbs) := by rw [frn_sg, sgn_of]; exact (sgI_neg (Int.mul_neg_of_neg_of_pos hxs hys)).symm
          exact hret 75 _ _ _ d_Ca_setRatio_75 bl_145 bl_146 ⟨V_133, S_144, k_135.trans (by rw [frn_abs, hna]), k_136.trans (by rw [hna]), by rw [← hsg]; exact f_140, cd_137⟩
        · skip
          have nc_112 : 1 = 0 := (nn_ne (a := 1) (b := 0) (by omega) (by omega)).2 c_112
          exact absurd nc_112 (by omega)
      · skip
        have nc_111 : y < ((0 : Nat) : Int) := (lcI_ge (a := y) (b := ((0 : Nat) : Int)) (by omega) (by omega) (by omega) (by omega)).2 (by rw [cmp_IN] at c_111; exact c_111)
        have hys : y < 0 := by omega
        refine gs (pc' := 47) (fun _ _ _ _ _ hl => lv_iconst (v := nI 1) hx hb d_Ca_setRatio_46 (by decide)) ?_
        refine gs (pc' := 51) (fun _ _ _ _ _ hl => lv_goto (tgt := 51) hx hb d_Ca_setRatio_47 (by decide)) ?_
        refine gsb (pc1 := 58) (pc2 := 54) (fun _ _ _ _ _ => lv_icmp_ne (tgt := 58) hx hb d_Ca_setRatio_51 (by decide)) (fun c_147 => ?_) (fun c_147 => ?_)
        · skip
          have nc_147 : 1 ≠ 1 := (nn_ne (a := 1) (b := 1) (by omega) (by omega)).1 c_147
          exact absurd nc_147 (by omega)
        · skip
          have nc_147 : 1 = 1 := (nn_ne (a := 1) (b := 1) (by omega) (by omega)).2 c_147
          refine gs (pc' := 55) (fun _ _ _ _ _ hl => lv_iconst (v := nI 1) hx hb d_Ca_setRatio_54 (by decide)) ?_
          refine gs (pc' := 59) (fun _ _ _ _ _ hl => lv_goto (tgt := 59) hx hb d_Ca_setRatio_55 (by decide)) ?_
          refine g_put (ty := .int) hx hb hts hin_Fr ty_Fr ty_Fr_ok nm_Fr hown hK f_32 rfl 0 (by decide) (hts _ wm164) (fun _ h9 => h9) rfl (by decide +kernel) rfl rfl (Nat.le_of_ble_eq_true rfl) d_Ca_setRatio_59 (fun G_148 f_149 o_150 => ?_)
          have f_151 : G_148 hf = some (to, .inr (3, [.int (nI 1), .ref (ad ta), .ref (ad tb)])) := f_149
          have fr_152 : gfr (fun x => x = to) G_21 G_148 := gfr_put gfr_rf f_32 rfl o_150
          have s_153 : w2s cA X ad (fun x => x = to) G_21 V_24 V_24 (G_148, B_22) := ⟨w2_fr W_34 fr_152 (sc_242 hta hta2 htb htb2 htab hto hto2), fun _ _ => rfl, fr_152⟩
          have f_154 : G_148 hk = some (30, .inr (0, [.ref hd, .ref hc, .ref (ad 5), .ref (ad 6), .ref (ad 7), .ref (ad 8), .ref (ad 9), .ref (ad 10)])) := s_153.2.2 _ _ f_29 (sc_243 hta hta2 htb htb2 htab hto hto2)
          have f_155 : G_148 hd = some (30, .inr (2, [.ref (ad 0), .ref (ad 1), .ref (ad 2)])) := s_153.2.2 _ _ f_30 (sc_243 hta hta2 htb htb2 htab hto hto2)
          have f_156 : G_148 hc = some (19, .inr (1, [.ref hd, .ref (ad 3), .ref (ad 4), .long ga0, .long gb0, .long gc0, .long gd0])) := s_153.2.2 _ _ f_31 (sc_244 hta hta2 htb htb2 htab hto hto2)
          have k_157 : V_24 6 = x.natAbs := (s_153.2.1 6 (sc_245 hta hta2 htb htb2 htab hto hto2)).trans k_33
          have k_158 : V_24 7 = y.natAbs := (s_153.2.1 7 (sc_246 hta hta2 htb htb2 htab hto hto2)).trans k_27
          have W_159 := s_153.1
          have S_160 : w2s cA X ad (fun x => x < 11 ∨ x = 19 ∨ x = ta ∨ x = tb ∨ x = to) G V V_24 (G_148, B_22) := w2s_mono (w2s_tr S_35 s_153) (sc_247 hta hta2 htb htb2 htab hto hto2)
          have bl_161 : B_22.1 ≤ MC := Nat.le_trans (w2_le W_159).1 hX1
          have bl_162 : B_22.2 ≤ MS := Nat.le_trans (w2_le W_159).2 hX2
          refine gs (pc' := 63) (fun _ _ _ _ _ hl => lv_aload_n hx hb d_Ca_setRatio_62 rfl (lv_at hl 0 rfl)) ?_
          refine gs (pc' := 64) (fun _ _ _ _ _ hl => lv_aload_n hx hb d_Ca_setRatio_63 rfl (lv_at hl 1 rfl)) ?_
          refine gs (pc' := 65) (fun _ _ _ _ _ hl => lv_aload_n hx hb d_Ca_setRatio_64 rfl (lv_at hl 0 rfl)) ?_
          refine g_get hx hb hts hin_Ca hown hK f_154 rfl 3 (by decide) (hts _ wm133) (fun _ h9 => h9) rfl d_Ca_setRatio_65 ?_
          refine gs (pc' := 69) (fun _ _ _ _ _ hl => lv_aload_n hx hb d_Ca_setRatio_68 rfl (lv_at hl 0 rfl)) ?_
          refine g_get hx hb hts hin_Ca hown hK f_154 rfl 4 (by decide) (hts _ wm134) (fun _ h9 => h9) rfl d_Ca_setRatio_69 ?_
          have lt_163 : x.natAbs < 1000000000 ^ (3) := lb_up lt_11 (sc_250 hta hta2 htb htb2 htab hto hto2)
          have lt_164 : y.natAbs < 1000000000 ^ (3) := lb_up lt_28 (sc_250 hta hta2 htb htb2 htab hto hto2)
          refine g_outv hlo (g_runV (As := [.ref hf, .ref (ad 6), .ref (ad 7)]) (rest := []) ⟨hx, hb, hml, hown, hts⟩ hK hZ hRc hRs (n_setReduced l D cA lo MC MS G_148 B_22 X ad V_24 W_159 hX1 hX2 hk hd hc f_154 f_155 (cdO_i f_156) hf ta tb to (nI 1) f_151 hta hta2 htb htb2 htab hto hto2 (ad 6) x.natAbs (ad 7) y.natAbs 3 (rd_w2' (P := fun x => 5 ≤ x ∧ ¬ x = 19 ∧ ¬ x = ta ∧ ¬ x = tb) W_159 (by decide) (sc_248 hta hta2 htb htb2 htab hto hto2) k_157) (rd_w2' (P := fun x => 5 ≤ x ∧ ¬ x = 19 ∧ ¬ x = ta ∧ ¬ x = tb) W_159 (by decide) (sc_249 hta hta2 htb htb2 htab hto hto2) k_158) lt_163 lt_164 (sc_251 hta hta2 htb htb2 htab hto hto2) (by omega)) (fun _ _ => cwV 3 hts (tb_good (tb_cons wm395 (tb_cons wm397 (tb_cons ws2 (tb_cons wm3 k_Ca_setReduced))))) rfl rfl rfl (by decide +kernel) ⟨by rw [hRf]; exact Nat.le_of_ble_eq_true rfl, by rw [hRl]; exact Nat.le_of_ble_eq_true rfl⟩) f_154 rfl bl_161 bl_162 rfl (Nat.le_of_ble_eq_true rfl) d_Ca_setRatio_72) (fun G_165 B_166 p_167 => ?_)
          obtain ⟨V_168, s_169, k_170, k_171, cd_172⟩ := p_167
          have f_173 : G_165 hk = some (30, .inr (0, [.ref hd, .ref hc, .ref (ad 5), .ref (ad 6), .ref (ad 7), .ref (ad 8), .ref (ad 9), .ref (ad 10)])) := s_169.2.2 _ _ f_154 (sc_252 hta hta2 htb htb2 htab hto hto2)
          have f_174 : G_165 hd = some (30, .inr (2, [.ref (ad 0), .ref (ad 1), .ref (ad 2)])) := s_169.2.2 _ _ f_155 (sc_252 hta hta2 htb htb2 htab hto hto2)
          have f_175 : G_165 hf = some (to, .inr (3, [.int (nI 1), .ref (ad ta), .ref (ad tb)])) := s_169.2.2 _ _ f_151 (sc_253 hta hta2 htb htb2 htab hto hto2)
          have k_176 : V_168 6 = x.natAbs := (s_169.2.1 6 (sc_254 hta hta2 htb htb2 htab hto hto2)).trans k_157
          have k_177 : V_168 7 = y.natAbs := (s_169.2.1 7 (sc_255 hta hta2 htb htb2 htab hto hto2)).trans k_158
          have W_178 := s_169.1
          have S_179 : w2s cA X ad (fun x => x < 11 ∨ x = 19 ∨ x = ta ∨ x = tb ∨ x = to) G V V_168 (G_165, B_166) := w2s_mono (w2s_tr S_160 s_169) (sc_256 hta hta2 htb htb2 htab hto hto2)
          have bl_180 : B_166.1 ≤ MC := Nat.le_trans (w2_le W_178).1 hX1
          have bl_181 : B_166.2 ≤ MS := Nat.le_trans (w2_le W_178).2 hX2
          have hna : (x * y.sign).natAbs = x.natAbs := sgn_mul hy0
          have hsg : (nI 1) = sgI (frn (x * y.sign) y.natAbs) := by rw [frn_sg, sgn_of]; exact (sgI_pos (Int.mul_pos_of_neg_of_neg hxs hys)).symm
          exact hret 75 _ _ _ d_Ca_setRatio_75 bl_180 bl_181 ⟨V_168, S_179, k_170.trans (by rw [frn_abs, hna]), k_171.trans (by rw [hna]), by rw [← hsg]; exact f_175, cd_172⟩
  · skip
    have nc_38 : x = ((0 : Nat) : Int) := (lcI_ne (a := x) (b := ((0 : Nat) : Int)) (by omega) (by omega) (by omega) (by omega)).2 (by rw [cmp_IN] at c_38; exact c_38)
    have hx0 : x = 0 := by omega
    refine gs (pc' := 25) (fun _ _ _ _ _ hl => lv_iconst (v := nI 0) hx hb d_Ca_setRatio_24 (by decide)) ?_
    refine gs (pc' := 59) (fun _ _ _ _ _ hl => lv_goto (tgt := 59) hx hb d_Ca_setRatio_25 (by decide)) ?_
    refine g_put (ty := .int) hx hb hts hin_Fr ty_Fr ty_Fr_ok nm_Fr hown hK f_32 rfl 0 (by decide) (hts _ wm164) (fun _ h9 => h9) rfl (by decide +kernel) rfl rfl (Nat.le_of_ble_eq_true rfl) d_Ca_setRatio_59 (fun G_182 f_183 o_184 => ?_)
    have f_185 : G_182 hf = some (to, .inr (3, [.int (nI 0), .ref (ad ta), .ref (ad tb)])) := f_183
    have fr_186 : gfr (fun x => x = to) G_21 G_182 := gfr_put gfr_rf f_32 rfl o_184
    have s_187 : w2s cA X ad (fun x => x = to) G_21 V_24 V_24 (G_182, B_22) := ⟨w2_fr W_34 fr_186 (sc_242 hta hta2 htb htb2 htab hto hto2), fun _ _ => rfl, fr_186⟩
    have f_188 : G_182 hk = some (30, .inr (0, [.ref hd, .ref hc, .ref (ad 5), .ref (ad 6), .ref (ad 7), .ref (ad 8), .ref (ad 9), .ref (ad 10)])) := s_187.2.2 _ _ f_29 (sc_243 hta hta2 htb htb2 htab hto hto2)
    have f_189 : G_182 hd = some (30, .inr (2, [.ref (ad 0), .ref (ad 1), .ref (ad 2)])) := s_187.2.2 _ _ f_30 (sc_243 hta hta2 htb htb2 htab hto hto2)
    have f_190 : G_182 hc = some (19, .inr (1, [.ref hd, .ref (ad 3), .ref (ad 4), .long ga0, .long gb0, .long gc0, .long gd0])) := s_187.2.2 _ _ f_31 (sc_244 hta hta2 htb htb2 htab hto hto2)
    have k_191 : V_24 6 = x.natAbs := (s_187.2.1 6 (sc_245 hta hta2 htb htb2 htab hto hto2)).trans k_33
    have k_192 : V_24 7 = y.natAbs := (s_187.2.1 7 (sc_246 hta hta2 htb htb2 htab hto hto2)).trans k_27
    have W_193 := s_187.1
    have S_194 : w2s cA X ad (fun x => x < 11 ∨ x = 19 ∨ x = ta ∨ x = tb ∨ x = to) G V V_24 (G_182, B_22) := w2s_mono (w2s_tr S_35 s_187) (sc_247 hta hta2 htb htb2 htab hto hto2)
    have bl_195 : B_22.1 ≤ MC := Nat.le_trans (w2_le W_193).1 hX1
    have bl_196 : B_22.2 ≤ MS := Nat.le_trans (w2_le W_193).2 hX2
    refine gs (pc' := 63) (fun _ _ _ _ _ hl => lv_aload_n hx hb d_Ca_setRatio_62 rfl (lv_at hl 0 rfl)) ?_
    refine gs (pc' := 64) (fun _ _ _ _ _ hl => lv_aload_n hx hb d_Ca_setRatio_63 rfl (lv_at hl 1 rfl)) ?_
    refine gs (pc' := 65) (fun _ _ _ _ _ hl => lv_aload_n hx hb d_Ca_setRatio_64 rfl (lv_at hl 0 rfl)) ?_
    refine g_get hx hb hts hin_Ca hown hK f_188 rfl 3 (by decide) (hts _ wm133) (fun _ h9 => h9) rfl d_Ca_setRatio_65 ?_
    refine gs (pc' := 69) (fun _ _ _ _ _ hl => lv_aload_n hx hb d_Ca_setRatio_68 rfl (lv_at hl 0 rfl)) ?_
    refine g_get hx hb hts hin_Ca hown hK f_188 rfl 4 (by decide) (hts _ wm134) (fun _ h9 => h9) rfl d_Ca_setRatio_69 ?_
    have lt_197 : x.natAbs < 1000000000 ^ (3) := lb_up lt_11 (sc_250 hta hta2 htb htb2 htab hto hto2)
    have lt_198 : y.natAbs < 1000000000 ^ (3) := lb_up lt_28 (sc_250 hta hta2 htb htb2 htab hto hto2)
    refine g_outv hlo (g_runV (As := [.ref hf, .ref (ad 6), .ref (ad 7)]) (rest := []) ⟨hx, hb, hml, hown, hts⟩ hK hZ hRc hRs (n_setReduced l D cA lo MC MS G_182 B_22 X ad V_24 W_193 hX1 hX2 hk hd hc f_188 f_189 (cdO_i f_190) hf ta tb to (nI 0) f_185 hta hta2 htb htb2 htab hto hto2 (ad 6) x.natAbs (ad 7) y.natAbs 3 (rd_w2' (P := fun x => 5 ≤ x ∧ ¬ x = 19 ∧ ¬ x = ta ∧ ¬ x = tb) W_193 (by decide) (sc_248 hta hta2 htb htb2 htab hto hto2) k_191) (rd_w2' (P := fun x => 5 ≤ x ∧ ¬ x = 19 ∧ ¬ x = ta ∧ ¬ x = tb) W_193 (by decide) (sc_249 hta hta2 htb htb2 htab hto hto2) k_192) lt_197 lt_198 (sc_251 hta hta2 htb htb2 htab hto hto2) (by omega)) (fun _ _ => cwV 3 hts (tb_good (tb_cons wm395 (tb_cons wm397 (tb_cons ws2 (tb_cons wm3 k_Ca_setReduced))))) rfl rfl rfl (by decide +kernel) ⟨by rw [hRf]; exact Nat.le_of_ble_eq_true rfl, by rw [hRl]; exact Nat.le_of_ble_eq_true rfl⟩) f_188 rfl bl_195 bl_196 rfl (Nat.le_of_ble_eq_true rfl) d_Ca_setRatio_72) (fun G_199 B_200 p_201 => ?_)
    obtain ⟨V_202, s_203, k_204, k_205, cd_206⟩ := p_201
    have f_207 : G_199 hk = some (30, .inr (0, [.ref hd, .ref hc, .ref (ad 5), .ref (ad 6), .ref (ad 7), .ref (ad 8), .ref (ad 9), .ref (ad 10)])) := s_203.2.2 _ _ f_188 (sc_252 hta hta2 htb htb2 htab hto hto2)
    have f_208 : G_199 hd = some (30, .inr (2, [.ref (ad 0), .ref (ad 1), .ref (ad 2)])) := s_203.2.2 _ _ f_189 (sc_252 hta hta2 htb htb2 htab hto hto2)
    have f_209 : G_199 hf = some (to, .inr (3, [.int (nI 0), .ref (ad ta), .ref (ad tb)])) := s_203.2.2 _ _ f_185 (sc_253 hta hta2 htb htb2 htab hto hto2)
    have k_210 : V_202 6 = x.natAbs := (s_203.2.1 6 (sc_254 hta hta2 htb htb2 htab hto hto2)).trans k_191
    have k_211 : V_202 7 = y.natAbs := (s_203.2.1 7 (sc_255 hta hta2 htb htb2 htab hto hto2)).trans k_192
    have W_212 := s_203.1
    have S_213 : w2s cA X ad (fun x => x < 11 ∨ x = 19 ∨ x = ta ∨ x = tb ∨ x = to) G V V_202 (G_199, B_200) := w2s_mono (w2s_tr S_194 s_203) (sc_256 hta hta2 htb htb2 htab hto hto2)
    have bl_214 : B_200.1 ≤ MC := Nat.le_trans (w2_le W_212).1 hX1
    have bl_215 : B_200.2 ≤ MS := Nat.le_trans (w2_le W_212).2 hX2
    have hna : (x * y.sign).natAbs = x.natAbs := sgn_mul hy0
    have hsg : (nI 0) = sgI (frn (x * y.sign) y.natAbs) := by rw [frn_sg, sgn_of]; exact by rw [hx0, Int.zero_mul]; decide
    exact hret 75 _ _ _ d_Ca_setRatio_75 bl_214 bl_215 ⟨V_202, S_213, k_204.trans (by rw [frn_abs, hna]), k_205.trans (by rw [hna]), by rw [← hsg]; exact f_209, cd_206⟩
theorem sc_257 {k1 t1 : Nat} (hkk : k1 + 1 ≤ 1499) (ht1 : 11 ≤ t1 ∧ ¬ t1 = 19) : k1 + 1 ≤ 1500 := by omega
theorem sc_258 {k1 t1 : Nat} (hkk : k1 + 1 ≤ 1499) (ht1 : 11 ≤ t1 ∧ ¬ t1 = 19) : ¬ (t1 = 8) := by omega
theorem sc_259 {k1 t1 : Nat} (hkk : k1 + 1 ≤ 1499) (ht1 : 11 ≤ t1 ∧ ¬ t1 = 19) : ∀ x, (11 ≤ x ∧ ¬ x = 19) → ¬ (x = 8) := by intro x h; omega
theorem sc_260 {k1 t1 : Nat} (hkk : k1 + 1 ≤ 1499) (ht1 : 11 ≤ t1 ∧ ¬ t1 = 19) : ∀ x, (x = 8) ∨ (x = 8) → (x = 8) := by intro x h; omega
set_option maxHeartbeats 4000000 in
set_option maxRecDepth 100000 in
theorem n_goesFurther (l : Launch) (D : va_G) (cA : Nat → ClassId) (lo MC MS : Nat) (G : gT) (B : Nat × Nat) (X : Nat × Nat) (ad V : Nat → Nat) (hW : w2 cA X ad V (G, B)) (hX1 : X.1 ≤ MC) (hX2 : X.2 ≤ MS) (hk hd hc : Nat) (hhk : G hk = some (30, .inr (0, [.ref hd, .ref hc, .ref (ad 5), .ref (ad 6), .ref (ad 7), .ref (ad 8), .ref (ad 9), .ref (ad 10)]))) (hhd : G hd = some (30, .inr (2, [.ref (ad 0), .ref (ad 1), .ref (ad 2)]))) (hcd : cdO ad hd hc G) (h1 : Nat) (p1 : Int) (q1 k1 : Nat) (hr1 : rf cA G (fun x => 11 ≤ x ∧ ¬ x = 19) h1 p1 q1) (hp1 : p1.natAbs < 1000000000 ^ k1) (hq1 : q1 < 1000000000 ^ k1) (hq01 : 0 < q1) (Qn Rm rule : Nat) (hV0 : V 0 = Qn) (hV1 : V 1 = Rm) (hl0 : Qn < 1000000000 ^ k1) (hl1 : Rm < 1000000000 ^ k1) (hru : rule < 4) (hkk : k1 + 1 ≤ 1499) : gMet l y_Ca_goesFurther w_Ca_goesFurther 4 110 D clS (gtys cA) lo MC MS [.ref hk, .ref h1, .int (nI rule)] G B (gQi D clS lo (fun r u => r = nI (b01 (gof p1 q1 Qn Rm rule)) ∧ ∃ V1, w2s cA X ad (fun x => x = 8) G V V1 u)) := by
  refine g_metz (cc := prog_2_method_10_code) (nL := 4) (L := [(0, .ref hk), (1, .ref h1), (2, .int (nI rule))]) (by decide +kernel) rfl (Nat.le_of_ble_eq_true rfl) rfl ?_
  intro p e R s m args below meth c Q hF hRc hRs hRf hRl hret
  obtain ⟨hx, hb, hr, hml, hts0, hown, hlocks, hin, hK, hlo, hZ⟩ := hF
  have hts : ∀ w ∈ tbg, w.before args s = true := fun w h => hts0 w (List.mem_cons_of_mem _ h)
  obtain ⟨t1, a1, b1, ht1, hh1, hra1, hrb1⟩ := id hr1
  have ht1 : 11 ≤ t1 ∧ ¬ t1 = 19 := ht1
  obtain ⟨ga0, gb0, gc0, gd0, hhc⟩ := id hcd
  have hS0 : w2s cA X ad (fun x => x = 8) G V V (G, B) := w2s_rf hW
  have bl_1 : B.1 ≤ MC := Nat.le_trans (w2_le hW).1 hX1
  have bl_2 : B.2 ≤ MS := Nat.le_trans (w2_le hW).2 hX2
  refine gs (pc' := 1) (fun _ _ _ _ _ hl => lv_aload_n hx hb d_Ca_goesFurther_0 rfl (lv_at hl 0 rfl)) ?_
  refine g_get hx hb hts hin_Ca hown hK hhk rfl 0 (by decide) (hts _ wm130) (fun _ h9 => h9) rfl d_Ca_goesFurther_1 ?_
  refine g_get hx hb hts hin_Di hown hK hhd rfl 1 (by decide) (hts _ wm89) (fun _ h9 => h9) rfl d_Ca_goesFurther_4 ?_
  obtain ⟨κo_3, ao_3, zo_3, fo_3, hho_3, hao_3, hzo_3, hDo_3, hco_3⟩ := w2_N hW (show 1 < 19 by decide)
  rw [hV1] at hDo_3
  have hbo_3 : zo_3 ≤ 3000 := Nat.le_trans hzo_3 hco_3
  refine g_get hx hb hts hin_Na hown hK hho_3 rfl 1 (by decide) (hts _ wm79) (fun _ h9 => h9) rfl d_Ca_goesFurther_7 ?_
  refine gsb (pc1 := 15) (pc2 := 13) (fun _ _ _ _ _ => lv_if_ne (tgt := 15) hx hb d_Ca_goesFurther_10 (by decide)) (fun c_4 => ?_) (fun c_4 => ?_)
  · skip
    have nc_4 : zo_3 ≠ 0 := (n0_ne (a := zo_3) (by omega)).1 c_4
    have hR : Rm ≠ 0 := fun z => nc_4 ((isD_z0 hDo_3).mpr z)
    refine gs (pc' := 16) (fun _ _ _ _ _ hl => lv_iload_n hx hb d_Ca_goesFurther_15 rfl (lv_at hl 2 rfl)) ?_
    refine gsb (pc1 := 32) (pc2 := 19) (fun _ _ _ _ _ => lv_if_ne (tgt := 32) hx hb d_Ca_goesFurther_16 (by decide)) (fun c_5 => ?_) (fun c_5 => ?_)
    · skip
      have nc_5 : rule ≠ 0 := (n0_ne (a := rule) (by omega)).1 c_5
      have hu0 : rule ≠ 0 := nc_5
      refine gs (pc' := 33) (fun _ _ _ _ _ hl => lv_iload_n hx hb d_Ca_goesFurther_32 rfl (lv_at hl 2 rfl)) ?_
      refine gs (pc' := 34) (fun _ _ _ _ _ hl => lv_iconst (v := nI 1) hx hb d_Ca_goesFurther_33 (by decide)) ?_
      refine gsb (pc1 := 50) (pc2 := 37) (fun _ _ _ _ _ => lv_icmp_ne (tgt := 50) hx hb d_Ca_goesFurther_34 (by decide)) (fun c_6 => ?_) (fun c_6 => ?_)
      · skip
        have nc_6 : rule ≠ 1 := (nn_ne (a := rule) (b := 1) (by omega) (by omega)).1 c_6
        have hu1 : rule ≠ 1 := nc_6
        refine gs (pc' := 51) (fun _ _ _ _ _ hl => lv_aload_n hx hb d_Ca_goesFurther_50 rfl (lv_at hl 0 rfl)) ?_
        refine g_get hx hb hts hin_Ca hown hK hhk rfl 5 (by decide) (hts _ wm135) (fun _ h9 => h9) rfl d_Ca_goesFurther_51 ?_
        refine gs (pc' := 55) (fun _ _ _ _ _ hl => lv_aload_n hx hb d_Ca_goesFurther_54 rfl (lv_at hl 0 rfl)) ?_
        refine g_get hx hb hts hin_Ca hown hK hhk rfl 0 (by decide) (hts _ wm130) (fun _ h9 => h9) rfl d_Ca_goesFurther_55 ?_
        refine g_get hx hb hts hin_Di hown hK hhd rfl 1 (by decide) (hts _ wm89) (fun _ h9 => h9) rfl d_Ca_goesFurther_58 ?_
        refine gs (pc' := 62) (fun _ _ _ _ _ hl => lv_aload_n hx hb d_Ca_goesFurther_61 rfl (lv_at hl 0 rfl)) ?_
        refine g_get hx hb hts hin_Ca hown hK hhk rfl 0 (by decide) (hts _ wm130) (fun _ h9 => h9) rfl d_Ca_goesFurther_62 ?_
        refine g_get hx hb hts hin_Di hown hK hhd rfl 1 (by decide) (hts _ wm89) (fun _ h9 => h9) rfl d_Ca_goesFurther_65 ?_
        obtain ⟨κo_7, ao_7, zo_7, fo_7, hho_7, hao_7, hzo_7, hDo_7, hco_7⟩ := w2_N hW (show 8 < 19 by decide)
        have hbo_7 : zo_7 ≤ 3000 := Nat.le_trans hzo_7 hco_7
        refine g_outv hlo (g_runV (As := [.ref (ad 1), .ref (ad 1)]) (rest := []) ⟨hx, hb, hml, hown, hts⟩ hK hZ hRc hRs (n_setSum l D cA lo MC MS G B X ad V hW hX1 hX2 8 (by decide) (ad 1) Rm k1 (rd_w2' (P := fun x => ¬ x = 8) hW (by decide) (by decide) hV1) hl1 (ad 1) Rm k1 (rd_w2' (P := fun x => ¬ x = 8) hW (by decide) (by decide) hV1) hl1 (sc_257 hkk ht1) (sc_257 hkk ht1)) (fun _ _ => cwV 2 hts (tb_good (tb_cons wm572 (tb_cons wm573 (tb_cons wm574 (tb_cons wm5 k_Na_setSum))))) rfl rfl rfl (by decide +kernel) ⟨by rw [hRf]; exact Nat.le_of_ble_eq_true rfl, by rw [hRl]; exact Nat.le_of_ble_eq_true rfl⟩) hho_7 rfl bl_1 bl_2 rfl (Nat.le_of_ble_eq_true rfl) d_Ca_goesFurther_68) (fun G_8 B_9 p_10 => ?_)
        have lt_11 : Rm + Rm < 1000000000 ^ (k1 + k1 + 1) := lb_add hl1 hl1
        obtain ⟨V_12, s_13, k_14⟩ := p_10
        have f_15 : G_8 hk = some (30, .inr (0, [.ref hd, .ref hc, .ref (ad 5), .ref (ad 6), .ref (ad 7), .ref (ad 8), .ref (ad 9), .ref (ad 10)])) := s_13.2.2 _ _ hhk (show ¬ (30 = 8) by decide)
        have f_16 : G_8 hd = some (30, .inr (2, [.ref (ad 0), .ref (ad 1), .ref (ad 2)])) := s_13.2.2 _ _ hhd (show ¬ (30 = 8) by decide)
        have f_17 : G_8 hc = some (19, .inr (1, [.ref hd, .ref (ad 3), .ref (ad 4), .long ga0, .long gb0, .long gc0, .long gd0])) := s_13.2.2 _ _ hhc (show ¬ (19 = 8) by decide)
        have f_18 : G_8 h1 = some (t1, .inr (3, [.int (sgI p1), .ref a1, .ref b1])) := s_13.2.2 _ _ hh1 (sc_258 hkk ht1)
        have k_19 : V_12 0 = Qn := (s_13.2.1 0 (show ¬ (0 = 8) by decide)).trans hV0
        have k_20 : V_12 1 = Rm := (s_13.2.1 1 (show ¬ (1 = 8) by decide)).trans hV1
        have rd_21 := rd_fr hra1 s_13.2.2 (sc_259 hkk ht1)
        have rd_22 := rd_fr hrb1 s_13.2.2 (sc_259 hkk ht1)
        have W_23 := s_13.1
        have S_24 : w2s cA X ad (fun x => x = 8) G V V_12 (G_8, B_9) := w2s_mono (w2s_tr hS0 s_13) (sc_260 hkk ht1)
        have bl_25 : B_9.1 ≤ MC := Nat.le_trans (w2_le W_23).1 hX1
        have bl_26 : B_9.2 ≤ MS := Nat.le_trans (w2_le W_23).2 hX2
        refine gs (pc' := 72) (fun _ _ _ _ _ hl => lv_aload_n hx hb d_Ca_goesFurther_71 rfl (lv_at hl 0 rfl)) ?_
        refine g_get hx hb hts hin_Ca hown hK f_15 rfl 5 (by decide) (hts _ wm135) (fun _ h9 => h9) rfl d_Ca_goesFurther_72 ?_
        refine gs (pc' := 76) (fun _ _ _ _ _ hl => lv_aload_n hx hb d_Ca_goesFurther_75 rfl (lv_at hl 1 rfl)) ?_
        refine g_get hx hb hts hin_Fr hown hK f_18 rfl 2 (by decide) (hts _ wm170) (fun _ h9 => h9) rfl d_Ca_goesFurther_76 ?_
        obtain ⟨κo_27, ao_27, zo_27, fo_27, hho_27, hao_27, hzo_27, hDo_27, hco_27⟩ := w2_N W_23 (show 8 < 19 by decide)
        rw [k_14] at hDo_27
        have hbo_27 : zo_27 ≤ 3000 := Nat.le_trans hzo_27 hco_27
        refine g_outi hlo (g_runV (As := [.ref b1]) (rest := []) ⟨hx, hb, hml, hown, hts⟩ hK hZ hRc hRs (n_compare l D cA lo MC MS G_8 B_9 (fun _ => True) (fun _ => True) (ad 8) (Rm + Rm) b1 q1 (rd_w2' (P := fun _ => True) W_23 (by decide) trivial k_14) (rd_mono (P1 := fun _ => True) rd_22 (fun _ _ => trivial)) bl_25 bl_26) (fun _ _ => cwV 1 hts (tb_good (tb_cons wm576 (tb_cons wm404 (tb_cons wm405 (tb_cons wm5 k_Na_compare))))) rfl rfl rfl (by decide +kernel) ⟨by rw [hRf]; exact Nat.le_of_ble_eq_true rfl, by rw [hRl]; exact Nat.le_of_ble_eq_true rfl⟩) hho_27 rfl bl_25 bl_26 rfl (Nat.le_of_ble_eq_true rfl) d_Ca_goesFurther_79) (fun r_31 G_28 B_29 p_30 => ?_)
        obtain ⟨u_32, cm_33⟩ := p_30
        cases u_32
        rcases cm_33 with ⟨q_34, hl_35⟩ | ⟨q_34, hl_35⟩ | ⟨q_34, hl_35⟩
        · skip
          subst q_34
          have hne9 : Rm + Rm ≠ q1 := by omega
          have hlt9 : ¬ q1 < Rm + Rm := by omega
          refine gst (pc' := 83) (L' := [(3, .int (-1)), (0, .ref hk), (1, .ref h1), (2, .int (nI rule))]) (fun _ _ _ _ _ hl => lv_istore_n hx hb d_Ca_goesFurther_82 rfl hl (by decide) rfl) ?_
          refine gs (pc' := 84) (fun _ _ _ _ _ hl => lv_iload_n hx hb d_Ca_goesFurther_83 rfl (lv_at hl 0 rfl)) ?_
          refine gsb (pc1 := 97) (pc2 := 87) (fun _ _ _ _ _ => lv_if_eq (tgt := 97) hx hb d_Ca_goesFurther_84 (by decide)) (fun c_36 => ?_) (fun c_36 => ?_)
          · skip
            exact absurd c_36 (by decide)
          · skip
            refine gs (pc' := 88) (fun _ _ _ _ _ hl => lv_iload_n hx hb d_Ca_goesFurther_87 rfl (lv_at hl 0 rfl)) ?_
            refine gsb (pc1 := 95) (pc2 := 91) (fun _ _ _ _ _ => lv_if_le (tgt := 95) hx hb d_Ca_goesFurther_88 (by decide)) (fun c_37 => ?_) (fun c_37 => ?_)
            · skip
              refine gs (pc' := 96) (fun _ _ _ _ _ hl => lv_iconst (v := nI 0) hx hb d_Ca_goesFurther_95 (by decide)) ?_
              have hgo : gof p1 q1 Qn Rm rule = false := by
                unfold gof
                simp [hR, hu0, hu1, hne9, hlt9]
              exact hret 96 _ _ _ _ d_Ca_goesFurther_96 bl_25 bl_26 (by decide) ⟨by rw [hgo]; rfl, V_12, S_24⟩
            · skip
              exact absurd c_37 (by decide)
        · skip
          subst q_34
          refine gst (pc' := 83) (L' := [(3, .int (nI 0)), (0, .ref hk), (1, .ref h1), (2, .int (nI rule))]) (fun _ _ _ _ _ hl => lv_istore_n hx hb d_Ca_goesFurther_82 rfl hl (by decide) rfl) ?_
          refine gs (pc' := 84) (fun _ _ _ _ _ hl => lv_iload_n hx hb d_Ca_goesFurther_83 rfl (lv_at hl 0 rfl)) ?_
          refine gsb (pc1 := 97) (pc2 := 87) (fun _ _ _ _ _ => lv_if_eq (tgt := 97) hx hb d_Ca_goesFurther_84 (by decide)) (fun c_38 => ?_) (fun c_38 => ?_)
          · skip
            have nc_38 : 0 = 0 := (n0_eq (a := 0) (by omega)).1 c_38
            refine gs (pc' := 98) (fun _ _ _ _ _ hl => lv_iload_n hx hb d_Ca_goesFurther_97 rfl (lv_at hl 3 rfl)) ?_
            refine gs (pc' := 99) (fun _ _ _ _ _ hl => lv_iconst (v := nI 2) hx hb d_Ca_goesFurther_98 (by decide)) ?_
            refine gsb (pc1 := 117) (pc2 := 102) (fun _ _ _ _ _ => lv_icmp_ne (tgt := 117) hx hb d_Ca_goesFurther_99 (by decide)) (fun c_39 => ?_) (fun c_39 => ?_)
            · skip
              have nc_39 : rule ≠ 2 := (nn_ne (a := rule) (b := 2) (by omega) (by omega)).1 c_39
              have hu2 : rule ≠ 2 := nc_39
              refine gs (pc' := 118) (fun _ _ _ _ _ hl => lv_aload_n hx hb d_Ca_goesFurther_117 rfl (lv_at hl 1 rfl)) ?_
              refine g_get hx hb hts hin_Ca hown hK f_15 rfl 0 (by decide) (hts _ wm130) (fun _ h9 => h9) rfl d_Ca_goesFurther_118 ?_
              refine g_get hx hb hts hin_Di hown hK f_16 rfl 0 (by decide) (hts _ wm86) (fun _ h9 => h9) rfl d_Ca_goesFurther_121 ?_
              obtain ⟨κo_40, ao_40, zo_40, fo_40, hho_40, hao_40, hzo_40, hDo_40, hco_40⟩ := w2_N W_23 (show 0 < 19 by decide)
              rw [k_19] at hDo_40
              have hbo_40 : zo_40 ≤ 3000 := Nat.le_trans hzo_40 hco_40
              refine g_outi hlo (g_runV (As := []) (rest := []) ⟨hx, hb, hml, hown, hts⟩ hK hZ hRc hRs (n_isOdd l D cA lo MC MS G_8 B_9 (fun _ => True) (ad 0) Qn (rd_w2' (P := fun _ => True) W_23 (by decide) trivial k_19)  bl_25 bl_26) (fun _ _ => cwV 0 hts (tb_good (tb_cons wm628 (tb_cons wm629 (tb_cons wm630 (tb_cons wm5 k_Na_isOdd))))) rfl rfl rfl (by decide +kernel) ⟨by rw [hRf]; exact Nat.le_of_ble_eq_true rfl, by rw [hRl]; exact Nat.le_of_ble_eq_true rfl⟩) hho_40 rfl bl_25 bl_26 rfl (Nat.le_of_ble_eq_true rfl) d_Ca_goesFurther_124) (fun r_44 G_41 B_42 p_43 => ?_)
              obtain ⟨u_45, v_46⟩ := p_43
              cases u_45
              subst v_46
              rcases (show Qn % 2 = 0 ∨ Qn % 2 = 1 by omega) with hodd | hodd
              · skip
                have hgo : gof p1 q1 Qn Rm rule = false := by
                  unfold gof
                  simp [hR, hu0, hu1, hl_35, hu2, hodd]
                rw [hodd]
                exact hret 127 _ _ _ _ d_Ca_goesFurther_127 bl_25 bl_26 (by decide) ⟨by rw [hgo]; rfl, V_12, S_24⟩
              · skip
                have hgo : gof p1 q1 Qn Rm rule = true := by
                  unfold gof
                  simp [hR, hu0, hu1, hl_35, hu2, hodd]
                rw [hodd]
                exact hret 127 _ _ _ _ d_Ca_goesFurther_127 bl_25 bl_26 (by decide) ⟨by rw [hgo]; rfl, V_12, S_24⟩
            · skip
              have nc_39 : rule = 2 := (nn_ne (a := rule) (b := 2) (by omega) (by omega)).2 c_39
              have hu2 : rule = 2 := nc_39
              refine gs (pc' := 103) (fun _ _ _ _ _ hl => lv_aload_n hx hb d_Ca_goesFurther_102 rfl (lv_at hl 2 rfl)) ?_
              refine g_get hx hb hts hin_Fr hown hK f_18 rfl 0 (by decide) (hts _ wm164) (fun _ h9 => h9) rfl d_Ca_goesFurther_103 ?_
              refine gsb (pc1 := 113) (pc2 := 109) (fun _ _ _ _ _ => lv_if_le (tgt := 113) hx hb d_Ca_goesFurther_106 (by decide)) (fun c_47 => ?_) (fun c_47 => ?_)
              · skip
                have hp1 : ¬ 0 < p1 := fun z => absurd (sgI_gt.mpr z) (Int32.not_lt.mpr c_47)
                refine gs (pc' := 114) (fun _ _ _ _ _ hl => lv_iconst (v := nI 0) hx hb d_Ca_goesFurther_113 (by decide)) ?_
                refine gs (pc' := 127) (fun _ _ _ _ _ hl => lv_goto (tgt := 127) hx hb d_Ca_goesFurther_114 (by decide)) ?_
                have hgo : gof p1 q1 Qn Rm rule = false := by
                  unfold gof
                  simp [hR, hu0, hu1, hl_35, hu2, hp1]
                exact hret 127 _ _ _ _ d_Ca_goesFurther_127 bl_25 bl_26 (by decide) ⟨by rw [hgo]; rfl, V_12, S_24⟩
              · skip
                have hp1 : 0 < p1 := sgI_gt.mp (Int32.not_le.mp c_47)
                refine gs (pc' := 110) (fun _ _ _ _ _ hl => lv_iconst (v := nI 1) hx hb d_Ca_goesFurther_109 (by decide)) ?_
                refine gs (pc' := 127) (fun _ _ _ _ _ hl => lv_goto (tgt := 127) hx hb d_Ca_goesFurther_110 (by decide)) ?_
                have hgo : gof p1 q1 Qn Rm rule = true := by
                  unfold gof
                  simp [hR, hu0, hu1, hl_35, hu2, hp1]
                exact hret 127 _ _ _ _ d_Ca_goesFurther_127 bl_25 bl_26 (by decide) ⟨by rw [hgo]; rfl, V_12, S_24⟩
          · skip
            have nc_38 : 0 ≠ 0 := (n0_eq (a := 0) (by omega)).2 c_38
            exact absurd rfl nc_38
        · skip
          subst q_34
          have hne9 : Rm + Rm ≠ q1 := by omega
          have hlt9 : q1 < Rm + Rm := by omega
          refine gst (pc' := 83) (L' := [(3, .int (nI 1)), (0, .ref hk), (1, .ref h1), (2, .int (nI rule))]) (fun _ _ _ _ _ hl => lv_istore_n hx hb d_Ca_goesFurther_82 rfl hl (by decide) rfl) ?_
          refine gs (pc' := 84) (fun _ _ _ _ _ hl => lv_iload_n hx hb d_Ca_goesFurther_83 rfl (lv_at hl 0 rfl)) ?_
          refine gsb (pc1 := 97) (pc2 := 87) (fun _ _ _ _ _ => lv_if_eq (tgt := 97) hx hb d_Ca_goesFurther_84 (by decide)) (fun c_48 => ?_) (fun c_48 => ?_)
          · skip
            have nc_48 : 1 = 0 := (n0_eq (a := 1) (by omega)).1 c_48
            exact absurd c_48 (by decide)
          · skip
            have nc_48 : 1 ≠ 0 := (n0_eq (a := 1) (by omega)).2 c_48
            refine gs (pc' := 88) (fun _ _ _ _ _ hl => lv_iload_n hx hb d_Ca_goesFurther_87 rfl (lv_at hl 0 rfl)) ?_
            refine gsb (pc1 := 95) (pc2 := 91) (fun _ _ _ _ _ => lv_if_le (tgt := 95) hx hb d_Ca_goesFurther_88 (by decide)) (fun c_49 => ?_) (fun c_49 => ?_)
            · skip
              have nc_49 : 1 ≤ 0 := (n0_le (a := 1) (by omega)).1 c_49
              exact absurd c_49 (by decide)
            · skip
              have nc_49 : 1 > 0 := (n0_le (a := 1) (by omega)).2 c_49
              refine gs (pc' := 92) (fun _ _ _ _ _ hl => lv_iconst (v := nI 1) hx hb d_Ca_goesFurther_91 (by decide)) ?_
              refine gs (pc' := 96) (fun _ _ _ _ _ hl => lv_goto (tgt := 96) hx hb d_Ca_goesFurther_92 (by decide)) ?_
              have hgo : gof p1 q1 Qn Rm rule = true := by
                unfold gof
                simp [hR, hu0, hu1, hne9, hlt9]
              exact hret 96 _ _ _ _ d_Ca_goesFurther_96 bl_25 bl_26 (by decide) ⟨by rw [hgo]; rfl, V_12, S_24⟩
      · skip
        have nc_6 : rule = 1 := (nn_ne (a := rule) (b := 1) (by omega) (by omega)).2 c_6
        have hu1 : rule = 1 := nc_6
        refine gs (pc' := 38) (fun _ _ _ _ _ hl => lv_aload_n hx hb d_Ca_goesFurther_37 rfl (lv_at hl 1 rfl)) ?_
        refine g_get hx hb hts hin_Fr hown hK hh1 rfl 0 (by decide) (hts _ wm164) (fun _ h9 => h9) rfl d_Ca_goesFurther_38 ?_
        refine gsb (pc1 := 48) (pc2 := 44) (fun _ _ _ _ _ => lv_if_le (tgt := 48) hx hb d_Ca_goesFurther_41 (by decide)) (fun c_50 => ?_) (fun c_50 => ?_)
        · skip
          have hp1 : ¬ 0 < p1 := fun z => absurd (sgI_gt.mpr z) (Int32.not_lt.mpr c_50)
          refine gs (pc' := 49) (fun _ _ _ _ _ hl => lv_iconst (v := nI 0) hx hb d_Ca_goesFurther_48 (by decide)) ?_
          have hgo : gof p1 q1 Qn Rm rule = false := by
            unfold gof
            simp [hR, hu0, hu1, hp1]
          exact hret 49 _ _ _ _ d_Ca_goesFurther_49 bl_1 bl_2 (by decide) ⟨by rw [hgo]; rfl, V, hS0⟩
        · skip
          have hp1 : 0 < p1 := sgI_gt.mp (Int32.not_le.mp c_50)
          refine gs (pc' := 45) (fun _ _ _ _ _ hl => lv_iconst (v := nI 1) hx hb d_Ca_goesFurther_44 (by decide)) ?_
          refine gs (pc' := 49) (fun _ _ _ _ _ hl => lv_goto (tgt := 49) hx hb d_Ca_goesFurther_45 (by decide)) ?_
          have hgo : gof p1 q1 Qn Rm rule = true := by
            unfold gof
            simp [hR, hu0, hu1, hp1]
          exact hret 49 _ _ _ _ d_Ca_goesFurther_49 bl_1 bl_2 (by decide) ⟨by rw [hgo]; rfl, V, hS0⟩
    · skip
      have nc_5 : rule = 0 := (n0_ne (a := rule) (by omega)).2 c_5
      have hu0 : rule = 0 := nc_5
      refine gs (pc' := 20) (fun _ _ _ _ _ hl => lv_aload_n hx hb d_Ca_goesFurther_19 rfl (lv_at hl 1 rfl)) ?_
      refine g_get hx hb hts hin_Fr hown hK hh1 rfl 0 (by decide) (hts _ wm164) (fun _ h9 => h9) rfl d_Ca_goesFurther_20 ?_
      refine gsb (pc1 := 30) (pc2 := 26) (fun _ _ _ _ _ => lv_if_ge (tgt := 30) hx hb d_Ca_goesFurther_23 (by decide)) (fun c_51 => ?_) (fun c_51 => ?_)
      · skip
        have hp0 : ¬ p1 < 0 := fun z => absurd (sgI_lt.mpr z) (Int32.not_lt.mpr c_51)
        refine gs (pc' := 31) (fun _ _ _ _ _ hl => lv_iconst (v := nI 0) hx hb d_Ca_goesFurther_30 (by decide)) ?_
        have hgo : gof p1 q1 Qn Rm rule = false := by
          unfold gof
          simp [hR, hu0, hp0]
        exact hret 31 _ _ _ _ d_Ca_goesFurther_31 bl_1 bl_2 (by decide) ⟨by rw [hgo]; rfl, V, hS0⟩
      · skip
        have hp0 : p1 < 0 := sgI_lt.mp (Int32.not_le.mp c_51)
        refine gs (pc' := 27) (fun _ _ _ _ _ hl => lv_iconst (v := nI 1) hx hb d_Ca_goesFurther_26 (by decide)) ?_
        refine gs (pc' := 31) (fun _ _ _ _ _ hl => lv_goto (tgt := 31) hx hb d_Ca_goesFurther_27 (by decide)) ?_
        have hgo : gof p1 q1 Qn Rm rule = true := by
          unfold gof
          simp [hR, hu0, hp0]
        exact hret 31 _ _ _ _ d_Ca_goesFurther_31 bl_1 bl_2 (by decide) ⟨by rw [hgo]; rfl, V, hS0⟩
  · skip
    have nc_4 : zo_3 = 0 := (n0_ne (a := zo_3) (by omega)).2 c_4
    have hR : Rm = 0 := (isD_z0 hDo_3).mp nc_4
    refine gs (pc' := 14) (fun _ _ _ _ _ hl => lv_iconst (v := nI 0) hx hb d_Ca_goesFurther_13 (by decide)) ?_
    have hgo : gof p1 q1 Qn Rm rule = false := by
      unfold gof
      simp [hR]
    exact hret 14 _ _ _ _ d_Ca_goesFurther_14 bl_1 bl_2 (by decide) ⟨by rw [hgo]; rfl, V, hS0⟩
