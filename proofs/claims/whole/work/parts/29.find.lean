theorem sc_1 {k1 : Nat} (hkk : k1 ≤ 1499) : ∀ x, (x < 5 ∨ x = 19) ∨ (x = 3) → (x < 5 ∨ x = 19) := by intro x h; omega
theorem sc_2 {k1 : Nat} (hkk : k1 ≤ 1499) : ∀ x, (x < 5 ∨ x = 19) ∨ (x = 19) → (x < 5 ∨ x = 19) := by intro x h; omega
theorem sc_3 {k1 : Nat} (hkk : k1 ≤ 1499) : k1 ≤ 1499 := by omega
theorem sc_4 {k1 : Nat} (hkk : k1 ≤ 1499) : ∀ x, (x < 5 ∨ x = 19) ∨ (x < 3) → (x < 5 ∨ x = 19) := by intro x h; omega
theorem sc_5 {k1 : Nat} (hkk : k1 ≤ 1499) : k1 ≤ 1500 := by omega
theorem sc_6 {k1 : Nat} (hkk : k1 ≤ 1499) : ∀ x, (x < 5 ∨ x = 19) ∨ (x = 4) → (x < 5 ∨ x = 19) := by intro x h; omega
theorem sc_7 {k1 : Nat} (hkk : k1 ≤ 1499) : ∀ x, (x < 5 ∨ x = 19) ∨ (x = 3 ∨ x = 4) → (x < 5 ∨ x = 19) := by intro x h; omega
theorem sc_8 {k1 : Nat} (hkk : k1 ≤ 1499) : ∀ x, (5 ≤ x ∧ ¬ x = 19) → (¬ x = 3) := by intro x h; omega
theorem sc_9 {k1 : Nat} (hkk : k1 ≤ 1499) : ∀ x, (5 ≤ x ∧ ¬ x = 19) → ¬ (x = 3) := by intro x h; omega
theorem sc_10 {k1 : Nat} (hkk : k1 ≤ 1499) : ∀ x, (5 ≤ x ∧ ¬ x = 19) → (¬ x = 4) := by intro x h; omega
theorem sc_11 {k1 : Nat} (hkk : k1 ≤ 1499) : ∀ x, (5 ≤ x ∧ ¬ x = 19) → ¬ (x = 4) := by intro x h; omega
set_option maxHeartbeats 4000000 in
set_option maxRecDepth 100000 in
theorem n_find (l : Launch) (D : va_G) (cA : Nat → ClassId) (lo MC MS : Nat) (G : gT) (B : Nat × Nat) (X : Nat × Nat) (ad V : Nat → Nat) (hW : w2 cA X ad V (G, B)) (hX1 : X.1 ≤ MC) (hX2 : X.2 ≤ MS) (hd hc : Nat) (fa fb fc fd : Int64) (hhc : G hc = some (19, .inr (1, [.ref hd, .ref (ad 3), .ref (ad 4), .long fa, .long fb, .long fc, .long fd]))) (hhd : G hd = some (30, .inr (2, [.ref (ad 0), .ref (ad 1), .ref (ad 2)]))) (h1 v1 h2 v2 k1 : Nat) (hr1 : rd cA G (fun x => 5 ≤ x ∧ ¬ x = 19) h1 v1) (hr2 : rd cA G (fun x => 5 ≤ x ∧ ¬ x = 19) h2 v2) (hk1 : v1 < 1000000000 ^ k1) (hk2 : v2 < 1000000000 ^ k1) (hkk : k1 ≤ 1499) : gMet l y_Cd_find w_Cd_find 5 139 D clS (gtys cA) lo MC MS [.ref hc, .ref h1, .ref h2] G B (gQr D clS lo (fun r u => r = ad 3 ∧ ∃ V1, w2s cA X ad (fun x => x < 5 ∨ x = 19) G V V1 u ∧ V1 3 = Nat.gcd v1 v2 ∧ ∃ ga gb gc gd : Int64, u.1 hc = some (19, .inr (1, [.ref hd, .ref (ad 3), .ref (ad 4), .long ga, .long gb, .long gc, .long gd])))) := by
  refine g_metr (cc := prog_3_method_2_code) (nL := 5) (L := [(0, .ref hc), (1, .ref h1), (2, .ref h2)]) (rt := ((.object "MetreFractions$Natural"))) (by first | exact Or.inl ⟨_, rfl⟩ | exact Or.inr ⟨_, rfl⟩) (by decide +kernel) rfl (Nat.le_of_ble_eq_true rfl) rfl ?_
  intro p e R s m args below meth c Q hF hRc hRs hRf hRl hret
  obtain ⟨hx, hb, hr, hml, hts0, hown, hlocks, hin, hK, hlo, hZ⟩ := hF
  have hts : ∀ w ∈ tbg, w.before args s = true := fun w h => hts0 w (List.mem_cons_of_mem _ h)
  have loop : ∀ (n i M N : Nat) (ga gb gc gd : Int64) (Gk : gT) (Bk : Nat × Nat) (Vk : Nat → Nat), i + n = 1000000 → w2s cA X ad (fun x => x < 5 ∨ x = 19) G V Vk (Gk, Bk) → Vk 3 = M → Vk 4 = N → N ≤ M → Nat.gcd M N = Nat.gcd v1 v2 → M < 1000000000 ^ k1 → M * N < 2 ^ n → Gk hd = some (30, .inr (2, [.ref (ad 0), .ref (ad 1), .ref (ad 2)])) → Gk hc = some (19, .inr (1, [.ref hd, .ref (ad 3), .ref (ad 4), .long ga, .long gb, .long gc, .long gd])) → gV p l e R s m args below meth c D clS lo 5 Q 49 [(4, .int (nI i)), (0, .ref hc)] [] Gk Bk := by
    intro n
    induction n with
    | zero =>
      intro i M N ga gb gc gd Gk Bk Vk hi hS hM hN hNM hg hMk hMN j1 j2
      have hWk := hS.1
      have hNk : N < 1000000000 ^ k1 := Nat.lt_of_le_of_lt hNM hMk
      have bl_1 : Bk.1 ≤ MC := Nat.le_trans (w2_le hWk).1 hX1
      have bl_2 : Bk.2 ≤ MS := Nat.le_trans (w2_le hWk).2 hX2
      have hN0 : N = 0 := prod_0 hMN hNM
      refine gs (pc' := 51) (fun _ _ _ _ _ hl => lv_iload hx hb d_Cd_find_49 (lv_at hl 0 rfl)) ?_
      refine gs (pc' := 53) (fun _ _ _ _ _ hl => lv_ldc (v := 1000000) hx hb hown (hts _ wm412) d_Cd_find_51) ?_
      refine g_eqi (show 1000000 = nI 1000000 from rfl) ?_
      refine gsb (pc1 := 137) (pc2 := 56) (fun _ _ _ _ _ => lv_icmp_ge (tgt := 137) hx hb d_Cd_find_53 (by decide)) (fun c_3 => ?_) (fun c_3 => ?_)
      · skip
        have nc_3 : i ≥ 1000000 := (nn_ge (a := i) (b := 1000000) (by omega) (by omega)).1 c_3
        refine gs (pc' := 138) (fun _ _ _ _ _ hl => lv_aload_n hx hb d_Cd_find_137 rfl (lv_at hl 1 rfl)) ?_
        refine g_get hx hb hts hin_Cd hown hK j2 rfl 2 (by decide) (hts _ wm108) (fun _ h9 => h9) rfl d_Cd_find_138 ?_
        obtain ⟨κo_4, ao_4, zo_4, fo_4, hho_4, hao_4, hzo_4, hDo_4, hco_4⟩ := w2_N hWk (show 4 < 19 by decide)
        rw [hN] at hDo_4
        have hbo_4 : zo_4 ≤ 3000 := Nat.le_trans hzo_4 hco_4
        refine g_get hx hb hts hin_Na hown hK hho_4 rfl 1 (by decide) (hts _ wm77) (fun _ h9 => h9) rfl d_Cd_find_141 ?_
        refine gsb (pc1 := 171) (pc2 := 147) (fun _ _ _ _ _ => lv_if_le (tgt := 171) hx hb d_Cd_find_144 (by decide)) (fun c_5 => ?_) (fun c_5 => ?_)
        · skip
          have nc_5 : zo_4 ≤ 0 := (n0_le (a := zo_4) (by omega)).1 c_5
          refine gs (pc' := 172) (fun _ _ _ _ _ hl => lv_aload_n hx hb d_Cd_find_171 rfl (lv_at hl 1 rfl)) ?_
          refine g_get hx hb hts hin_Cd hown hK j2 rfl 1 (by decide) (hts _ wm107) (fun _ h9 => h9) rfl d_Cd_find_172 ?_
          exact hret 175 _ _ _ _ d_Cd_find_175 bl_1 bl_2 ⟨rfl, Vk, hS, hM.trans (by rw [hN0, Nat.gcd_zero_right] at hg; exact hg), _, _, _, _, j2⟩
        · skip
          have nc_5 : zo_4 > 0 := (n0_le (a := zo_4) (by omega)).2 c_5
          exact absurd ((isD_z0 hDo_4).mpr hN0) (by omega)
      · skip
        have nc_3 : i < 1000000 := (nn_ge (a := i) (b := 1000000) (by omega) (by omega)).2 c_3
        exact absurd nc_3 (by omega)
    | succ n ih =>
      intro i M N ga gb gc gd Gk Bk Vk hi hS hM hN hNM hg hMk hMN j1 j2
      have hWk := hS.1
      have hNk : N < 1000000000 ^ k1 := Nat.lt_of_le_of_lt hNM hMk
      have bl_6 : Bk.1 ≤ MC := Nat.le_trans (w2_le hWk).1 hX1
      have bl_7 : Bk.2 ≤ MS := Nat.le_trans (w2_le hWk).2 hX2
      refine gs (pc' := 51) (fun _ _ _ _ _ hl => lv_iload hx hb d_Cd_find_49 (lv_at hl 0 rfl)) ?_
      refine gs (pc' := 53) (fun _ _ _ _ _ hl => lv_ldc (v := 1000000) hx hb hown (hts _ wm412) d_Cd_find_51) ?_
      refine g_eqi (show 1000000 = nI 1000000 from rfl) ?_
      refine gsb (pc1 := 137) (pc2 := 56) (fun _ _ _ _ _ => lv_icmp_ge (tgt := 137) hx hb d_Cd_find_53 (by decide)) (fun c_8 => ?_) (fun c_8 => ?_)
      · skip
        have nc_8 : i ≥ 1000000 := (nn_ge (a := i) (b := 1000000) (by omega) (by omega)).1 c_8
        exact absurd nc_8 (by omega)
      · skip
        have nc_8 : i < 1000000 := (nn_ge (a := i) (b := 1000000) (by omega) (by omega)).2 c_8
        refine gs (pc' := 57) (fun _ _ _ _ _ hl => lv_aload_n hx hb d_Cd_find_56 rfl (lv_at hl 1 rfl)) ?_
        refine g_get hx hb hts hin_Cd hown hK j2 rfl 1 (by decide) (hts _ wm107) (fun _ h9 => h9) rfl d_Cd_find_57 ?_
        obtain ⟨κo_9, ao_9, zo_9, fo_9, hho_9, hao_9, hzo_9, hDo_9, hco_9⟩ := w2_N hWk (show 3 < 19 by decide)
        rw [hM] at hDo_9
        have hbo_9 : zo_9 ≤ 3000 := Nat.le_trans hzo_9 hco_9
        refine g_get hx hb hts hin_Na hown hK hho_9 rfl 1 (by decide) (hts _ wm77) (fun _ h9 => h9) rfl d_Cd_find_60 ?_
        refine gs (pc' := 64) (fun _ _ _ _ _ hl => lv_iconst (v := nI 2) hx hb d_Cd_find_63 (by decide)) ?_
        refine gsb (pc1 := 137) (pc2 := 67) (fun _ _ _ _ _ => lv_icmp_le (tgt := 137) hx hb d_Cd_find_64 (by decide)) (fun c_10 => ?_) (fun c_10 => ?_)
        · skip
          have nc_10 : zo_9 ≤ 2 := (nn_le (a := zo_9) (b := 2) (by omega) (by omega)).1 c_10
          have hM2 : M < 1000000000 * 1000000000 := isD_2 hDo_9 (by omega)
          have hN2 : N < 1000000000 * 1000000000 := by omega
          refine gs (pc' := 138) (fun _ _ _ _ _ hl => lv_aload_n hx hb d_Cd_find_137 rfl (lv_at hl 1 rfl)) ?_
          refine g_get hx hb hts hin_Cd hown hK j2 rfl 2 (by decide) (hts _ wm108) (fun _ h9 => h9) rfl d_Cd_find_138 ?_
          obtain ⟨κo_11, ao_11, zo_11, fo_11, hho_11, hao_11, hzo_11, hDo_11, hco_11⟩ := w2_N hWk (show 4 < 19 by decide)
          rw [hN] at hDo_11
          have hbo_11 : zo_11 ≤ 3000 := Nat.le_trans hzo_11 hco_11
          refine g_get hx hb hts hin_Na hown hK hho_11 rfl 1 (by decide) (hts _ wm77) (fun _ h9 => h9) rfl d_Cd_find_141 ?_
          refine gsb (pc1 := 171) (pc2 := 147) (fun _ _ _ _ _ => lv_if_le (tgt := 171) hx hb d_Cd_find_144 (by decide)) (fun c_12 => ?_) (fun c_12 => ?_)
          · skip
            have nc_12 : zo_11 ≤ 0 := (n0_le (a := zo_11) (by omega)).1 c_12
            have hN0 : N = 0 := (isD_z0 hDo_11).mp (by omega)
            refine gs (pc' := 172) (fun _ _ _ _ _ hl => lv_aload_n hx hb d_Cd_find_171 rfl (lv_at hl 1 rfl)) ?_
            refine g_get hx hb hts hin_Cd hown hK j2 rfl 1 (by decide) (hts _ wm107) (fun _ h9 => h9) rfl d_Cd_find_172 ?_
            exact hret 175 _ _ _ _ d_Cd_find_175 bl_6 bl_7 ⟨rfl, Vk, hS, hM.trans (by rw [hN0, Nat.gcd_zero_right] at hg; exact hg), _, _, _, _, j2⟩
          · skip
            have nc_12 : zo_11 > 0 := (n0_le (a := zo_11) (by omega)).2 c_12
            have hgl : Nat.gcd M N < 1000000000 * 1000000000 := Nat.lt_of_le_of_lt (Nat.gcd_le_left _ (by have := isD_z0 hDo_11; omega)) hM2
            refine gs (pc' := 148) (fun _ _ _ _ _ hl => lv_aload_n hx hb d_Cd_find_147 rfl (lv_at hl 1 rfl)) ?_
            refine g_get hx hb hts hin_Cd hown hK j2 rfl 1 (by decide) (hts _ wm107) (fun _ h9 => h9) rfl d_Cd_find_148 ?_
            refine gs (pc' := 152) (fun _ _ _ _ _ hl => lv_aload_n hx hb d_Cd_find_151 rfl (lv_at hl 1 rfl)) ?_
            refine g_get hx hb hts hin_Cd hown hK j2 rfl 1 (by decide) (hts _ wm107) (fun _ h9 => h9) rfl d_Cd_find_152 ?_
            refine g_outl hlo (g_runV (As := []) (rest := [.ref (ad 3)]) ⟨hx, hb, hml, hown, hts⟩ hK hZ hRc hRs (n_lowTwo l D cA lo MC MS Gk Bk (fun _ => True) (ad 3) M (rd_w2' (P := fun _ => True) hWk (by decide) trivial hM) (by omega) bl_6 bl_7) (fun _ _ => cwV 0 hts (tb_good (tb_cons wm481 (tb_cons wm482 (tb_cons wm483 (tb_cons wm5 k_Na_lowTwo))))) rfl rfl rfl (by decide +kernel) ⟨by rw [hRf]; exact Nat.le_of_ble_eq_true rfl, by rw [hRl]; exact Nat.le_of_ble_eq_true rfl⟩) hho_9 rfl bl_6 bl_7 rfl (Nat.le_of_ble_eq_true rfl) d_Cd_find_155) (fun r_16 G_13 B_14 p_15 => ?_)
            obtain ⟨u_17, v_18⟩ := p_15
            cases u_17
            subst v_18
            refine gs (pc' := 159) (fun _ _ _ _ _ hl => lv_aload_n hx hb d_Cd_find_158 rfl (lv_at hl 1 rfl)) ?_
            refine g_get hx hb hts hin_Cd hown hK j2 rfl 2 (by decide) (hts _ wm108) (fun _ h9 => h9) rfl d_Cd_find_159 ?_
            refine g_outl hlo (g_runV (As := []) (rest := [.long (lN M), .ref (ad 3)]) ⟨hx, hb, hml, hown, hts⟩ hK hZ hRc hRs (n_lowTwo l D cA lo MC MS Gk Bk (fun _ => True) (ad 4) N (rd_w2' (P := fun _ => True) hWk (by decide) trivial hN) (by omega) bl_6 bl_7) (fun _ _ => cwV 0 hts (tb_good (tb_cons wm481 (tb_cons wm482 (tb_cons wm483 (tb_cons wm5 k_Na_lowTwo))))) rfl rfl rfl (by decide +kernel) ⟨by rw [hRf]; exact Nat.le_of_ble_eq_true rfl, by rw [hRl]; exact Nat.le_of_ble_eq_true rfl⟩) hho_11 rfl bl_6 bl_7 rfl (Nat.le_of_ble_eq_true rfl) d_Cd_find_162) (fun r_22 G_19 B_20 p_21 => ?_)
            obtain ⟨u_23, v_24⟩ := p_21
            cases u_23
            subst v_24
            refine g_outl hlo (g_runS (As := [.long (lN M), .long (lN N)]) (rest := [.ref (ad 3)]) ⟨hx, hb, hml, hown, hts⟩ hK hZ hRc hRs (c_Cd_findShort l D cA lo MC MS Gk Bk M N (by omega) (by omega) bl_6 bl_7) (fun _ _ => va_cwS 2 hts (tb_good (tb_cons wm485 (tb_cons wm486 (tb_cons wm7 k_Cd_findShort)))) rfl rfl rfl (by decide +kernel) ⟨by rw [hRf]; exact Nat.le_of_ble_eq_true rfl, by rw [hRl]; exact Nat.le_of_ble_eq_true rfl⟩) bl_6 bl_7 rfl (Nat.le_of_ble_eq_true rfl) d_Cd_find_165) (fun r_28 G_25 B_26 p_27 => ?_)
            obtain ⟨u_29, v_30⟩ := p_27
            cases u_29
            subst v_30
            refine g_outv hlo (g_runV (As := [.long (lN (Nat.gcd M N))]) (rest := []) ⟨hx, hb, hml, hown, hts⟩ hK hZ hRc hRs (n_setMagnitude l D cA lo MC MS Gk Bk X ad Vk hWk hX1 hX2 3 (by decide) (lN (Nat.gcd M N))) (fun _ _ => cwV 1 hts (tb_good (tb_cons wm488 (tb_cons wm185 (tb_cons wm186 (tb_cons wm5 k_Na_setMagnitude))))) rfl rfl rfl (by decide +kernel) ⟨by rw [hRf]; exact Nat.le_of_ble_eq_true rfl, by rw [hRl]; exact Nat.le_of_ble_eq_true rfl⟩) hho_9 rfl bl_6 bl_7 rfl (Nat.le_of_ble_eq_true rfl) d_Cd_find_168) (fun G_31 B_32 p_33 => ?_)
            obtain ⟨V_34, s_35, k_36⟩ := p_33
            have k_37 : V_34 3 = Nat.gcd M N := k_36.trans (lN_natAbs (by omega))
            have lt_38 : Nat.gcd M N < 1000000000 ^ 3 := by omega
            have f_39 : G_31 hd = some (30, .inr (2, [.ref (ad 0), .ref (ad 1), .ref (ad 2)])) := s_35.2.2 _ _ j1 (show ¬ (30 = 3) by decide)
            have f_40 : G_31 hc = some (19, .inr (1, [.ref hd, .ref (ad 3), .ref (ad 4), .long ga, .long gb, .long gc, .long gd])) := s_35.2.2 _ _ j2 (show ¬ (19 = 3) by decide)
            have k_41 : V_34 4 = N := (s_35.2.1 4 (show ¬ (4 = 3) by decide)).trans hN
            have W_42 := s_35.1
            have S_43 : w2s cA X ad (fun x => x < 5 ∨ x = 19) G V V_34 (G_31, B_32) := w2s_mono (w2s_tr hS s_35) (sc_1 hkk)
            have bl_44 : B_32.1 ≤ MC := Nat.le_trans (w2_le W_42).1 hX1
            have bl_45 : B_32.2 ≤ MS := Nat.le_trans (w2_le W_42).2 hX2
            refine gs (pc' := 172) (fun _ _ _ _ _ hl => lv_aload_n hx hb d_Cd_find_171 rfl (lv_at hl 1 rfl)) ?_
            refine g_get hx hb hts hin_Cd hown hK f_40 rfl 1 (by decide) (hts _ wm107) (fun _ h9 => h9) rfl d_Cd_find_172 ?_
            exact hret 175 _ _ _ _ d_Cd_find_175 bl_44 bl_45 ⟨rfl, V_34, S_43, k_37.trans hg, _, _, _, _, f_40⟩
        · skip
          have nc_10 : zo_9 > 2 := (nn_le (a := zo_9) (b := 2) (by omega) (by omega)).2 c_10
          have hM3 : 1000000000 ^ 2 ≤ M := isD_3 hDo_9 (by omega)
          refine gs (pc' := 68) (fun _ _ _ _ _ hl => lv_aload_n hx hb d_Cd_find_67 rfl (lv_at hl 1 rfl)) ?_
          refine g_get hx hb hts hin_Cd hown hK j2 rfl 2 (by decide) (hts _ wm108) (fun _ h9 => h9) rfl d_Cd_find_68 ?_
          obtain ⟨κo_46, ao_46, zo_46, fo_46, hho_46, hao_46, hzo_46, hDo_46, hco_46⟩ := w2_N hWk (show 4 < 19 by decide)
          rw [hN] at hDo_46
          have hbo_46 : zo_46 ≤ 3000 := Nat.le_trans hzo_46 hco_46
          refine g_get hx hb hts hin_Na hown hK hho_46 rfl 1 (by decide) (hts _ wm77) (fun _ h9 => h9) rfl d_Cd_find_71 ?_
          refine gsb (pc1 := 137) (pc2 := 77) (fun _ _ _ _ _ => lv_if_le (tgt := 137) hx hb d_Cd_find_74 (by decide)) (fun c_47 => ?_) (fun c_47 => ?_)
          · skip
            have nc_47 : zo_46 ≤ 0 := (n0_le (a := zo_46) (by omega)).1 c_47
            have hN0 : N = 0 := (isD_z0 hDo_46).mp (by omega)
            refine gs (pc' := 138) (fun _ _ _ _ _ hl => lv_aload_n hx hb d_Cd_find_137 rfl (lv_at hl 1 rfl)) ?_
            refine g_get hx hb hts hin_Cd hown hK j2 rfl 2 (by decide) (hts _ wm108) (fun _ h9 => h9) rfl d_Cd_find_138 ?_
            refine g_get hx hb hts hin_Na hown hK hho_46 rfl 1 (by decide) (hts _ wm77) (fun _ h9 => h9) rfl d_Cd_find_141 ?_
            refine gsb (pc1 := 171) (pc2 := 147) (fun _ _ _ _ _ => lv_if_le (tgt := 171) hx hb d_Cd_find_144 (by decide)) (fun c_48 => ?_) (fun c_48 => ?_)
            · skip
              have nc_48 : zo_46 ≤ 0 := (n0_le (a := zo_46) (by omega)).1 c_48
              refine gs (pc' := 172) (fun _ _ _ _ _ hl => lv_aload_n hx hb d_Cd_find_171 rfl (lv_at hl 1 rfl)) ?_
              refine g_get hx hb hts hin_Cd hown hK j2 rfl 1 (by decide) (hts _ wm107) (fun _ h9 => h9) rfl d_Cd_find_172 ?_
              exact hret 175 _ _ _ _ d_Cd_find_175 bl_6 bl_7 ⟨rfl, Vk, hS, hM.trans (by rw [hN0, Nat.gcd_zero_right] at hg; exact hg), _, _, _, _, j2⟩
            · skip
              have nc_48 : zo_46 > 0 := (n0_le (a := zo_46) (by omega)).2 c_48
              exact absurd ((isD_z0 hDo_46).mpr hN0) (by omega)
          · skip
            have nc_47 : zo_46 > 0 := (n0_le (a := zo_46) (by omega)).2 c_47
            have hNp : 0 < N := by have := isD_z0 hDo_46; omega
            refine gs (pc' := 78) (fun _ _ _ _ _ hl => lv_aload_n hx hb d_Cd_find_77 rfl (lv_at hl 1 rfl)) ?_
            refine g_outi hlo (g_runV (As := []) (rest := []) ⟨hx, hb, hml, hown, hts⟩ hK hZ hRc hRs (n_findFactors l D cA lo MC MS Gk Bk X ad Vk hWk hX1 hX2 hd hc ga gb gc gd j2 M N hM hN hNM hM3) (fun _ _ => cwV 0 hts (tb_good (tb_cons wm413 (tb_cons wm415 (tb_cons ws3 (tb_cons wm7 k_Cd_findFactors))))) rfl rfl rfl (by decide +kernel) ⟨by rw [hRf]; exact Nat.le_of_ble_eq_true rfl, by rw [hRl]; exact Nat.le_of_ble_eq_true rfl⟩) j2 rfl bl_6 bl_7 rfl (Nat.le_of_ble_eq_true rfl) d_Cd_find_78) (fun r_52 G_49 B_50 p_51 => ?_)
            obtain ⟨hb6, S, x0, y0, a, b, cc, d, x, y, hI, hcd, hfr6, hor⟩ := p_51
            have hb6 : Bk = B_50 := (show B_50 = Bk from hb6).symm
            subst hb6
            have s_53 : w2s cA X ad (fun t => t = 19) Gk Vk Vk (G_49, Bk) := ⟨w2_fr hWk hfr6 (fun _ _ => by omega), fun _ _ => rfl, hfr6⟩
            have f_54 : G_49 hd = some (30, .inr (2, [.ref (ad 0), .ref (ad 1), .ref (ad 2)])) := s_53.2.2 _ _ j1 (show ¬ (30 = 19) by decide)
            have k_55 : Vk 3 = M := (s_53.2.1 3 (show ¬ (3 = 19) by decide)).trans hM
            have k_56 : Vk 4 = N := (s_53.2.1 4 (show ¬ (4 = 19) by decide)).trans hN
            have W_57 := s_53.1
            have S_58 : w2s cA X ad (fun x => x < 5 ∨ x = 19) G V Vk (G_49, Bk) := w2s_mono (w2s_tr hS s_53) (sc_2 hkk)
            have bl_59 : Bk.1 ≤ MC := Nat.le_trans (w2_le W_57).1 hX1
            have bl_60 : Bk.2 ≤ MS := Nat.le_trans (w2_le W_57).2 hX2
            rcases hor with ⟨hr7, hb0⟩ | ⟨hr7, hb0⟩
            · skip
              subst hr7
              refine gsb (pc1 := 91) (pc2 := 84) (fun _ _ _ _ _ => lv_if_eq (tgt := 91) hx hb d_Cd_find_81 (by decide)) (fun c_61 => ?_) (fun c_61 => ?_)
              · skip
                have nc_61 : 0 = 0 := (n0_eq (a := 0) (by omega)).1 c_61
                refine gs (pc' := 92) (fun _ _ _ _ _ hl => lv_aload_n hx hb d_Cd_find_91 rfl (lv_at hl 1 rfl)) ?_
                refine g_get hx hb hts hin_Cd hown hK hcd rfl 0 (by decide) (hts _ wm106) (fun _ h9 => h9) rfl d_Cd_find_92 ?_
                refine gs (pc' := 96) (fun _ _ _ _ _ hl => lv_aload_n hx hb d_Cd_find_95 rfl (lv_at hl 1 rfl)) ?_
                refine g_get hx hb hts hin_Cd hown hK hcd rfl 1 (by decide) (hts _ wm107) (fun _ h9 => h9) rfl d_Cd_find_96 ?_
                refine gs (pc' := 100) (fun _ _ _ _ _ hl => lv_aload_n hx hb d_Cd_find_99 rfl (lv_at hl 1 rfl)) ?_
                refine g_get hx hb hts hin_Cd hown hK hcd rfl 2 (by decide) (hts _ wm108) (fun _ h9 => h9) rfl d_Cd_find_100 ?_
                refine g_outv hlo (g_runV (As := [.ref (ad 3), .ref (ad 4)]) (rest := []) ⟨hx, hb, hml, hown, hts⟩ hK hZ hRc hRs (n_divide l D cA lo MC MS G_49 Bk X ad Vk W_57 hX1 hX2 hd f_54 (ad 3) M (ad 4) N k1 (rd_w2' (P := fun x => 3 ≤ x) W_57 (by decide) (by decide) k_55) (rd_w2' (P := fun x => 3 ≤ x) W_57 (by decide) (by decide) k_56) hMk (sc_3 hkk) hNp) (fun _ _ => cwV 2 hts (tb_good (tb_cons wm446 (tb_cons wm447 (tb_cons wm448 (tb_cons wm4 k_Di_divide))))) rfl rfl rfl (by decide +kernel) ⟨by rw [hRf]; exact Nat.le_of_ble_eq_true rfl, by rw [hRl]; exact Nat.le_of_ble_eq_true rfl⟩) f_54 rfl bl_59 bl_60 rfl (Nat.le_of_ble_eq_true rfl) d_Cd_find_103) (fun G_62 B_63 p_64 => ?_)
                obtain ⟨V_65, s_66, k_67, k_68⟩ := p_64
                have lt_69 : M / N < 1000000000 ^ k1 := Nat.lt_of_le_of_lt (Nat.div_le_self _ _) hMk
                have lt_70 : M % N < 1000000000 ^ k1 := Nat.lt_of_le_of_lt (Nat.mod_le _ _) hMk
                have f_71 : G_62 hd = some (30, .inr (2, [.ref (ad 0), .ref (ad 1), .ref (ad 2)])) := s_66.2.2 _ _ f_54 (show ¬ (30 < 3) by decide)
                have f_72 : G_62 hc = some (19, .inr (1, [.ref hd, .ref (ad 3), .ref (ad 4), .long (lI a), .long (lI b), .long (lI cc), .long (lI d)])) := s_66.2.2 _ _ hcd (show ¬ (19 < 3) by decide)
                have k_73 : V_65 3 = M := (s_66.2.1 3 (show ¬ (3 < 3) by decide)).trans k_55
                have k_74 : V_65 4 = N := (s_66.2.1 4 (show ¬ (4 < 3) by decide)).trans k_56
                have W_75 := s_66.1
                have S_76 : w2s cA X ad (fun x => x < 5 ∨ x = 19) G V V_65 (G_62, B_63) := w2s_mono (w2s_tr S_58 s_66) (sc_4 hkk)
                have bl_77 : B_63.1 ≤ MC := Nat.le_trans (w2_le W_75).1 hX1
                have bl_78 : B_63.2 ≤ MS := Nat.le_trans (w2_le W_75).2 hX2
                refine gs (pc' := 107) (fun _ _ _ _ _ hl => lv_aload_n hx hb d_Cd_find_106 rfl (lv_at hl 1 rfl)) ?_
                refine g_get hx hb hts hin_Cd hown hK f_72 rfl 1 (by decide) (hts _ wm107) (fun _ h9 => h9) rfl d_Cd_find_107 ?_
                refine gs (pc' := 111) (fun _ _ _ _ _ hl => lv_aload_n hx hb d_Cd_find_110 rfl (lv_at hl 1 rfl)) ?_
                refine g_get hx hb hts hin_Cd hown hK f_72 rfl 2 (by decide) (hts _ wm108) (fun _ h9 => h9) rfl d_Cd_find_111 ?_
                obtain ⟨κo_79, ao_79, zo_79, fo_79, hho_79, hao_79, hzo_79, hDo_79, hco_79⟩ := w2_N W_75 (show 3 < 19 by decide)
                rw [k_73] at hDo_79
                have hbo_79 : zo_79 ≤ 3000 := Nat.le_trans hzo_79 hco_79
                refine g_outv hlo (g_runV (As := [.ref (ad 4)]) (rest := []) ⟨hx, hb, hml, hown, hts⟩ hK hZ hRc hRs (n_setTo l D cA lo MC MS G_62 B_63 X ad V_65 W_75 hX1 hX2 3 (by decide) (ad 4) N k1 (rd_w2' (P := fun x => ¬ x = 3) W_75 (by decide) (by decide) k_74) hNk (sc_5 hkk)) (fun _ _ => cwV 1 hts (tb_good (tb_cons wm407 (tb_cons wm408 (tb_cons wm409 (tb_cons wm5 k_Na_setTo))))) rfl rfl rfl (by decide +kernel) ⟨by rw [hRf]; exact Nat.le_of_ble_eq_true rfl, by rw [hRl]; exact Nat.le_of_ble_eq_true rfl⟩) hho_79 rfl bl_77 bl_78 rfl (Nat.le_of_ble_eq_true rfl) d_Cd_find_114) (fun G_80 B_81 p_82 => ?_)
                obtain ⟨V_83, s_84, k_85⟩ := p_82
                have f_86 : G_80 hd = some (30, .inr (2, [.ref (ad 0), .ref (ad 1), .ref (ad 2)])) := s_84.2.2 _ _ f_71 (show ¬ (30 = 3) by decide)
                have f_87 : G_80 hc = some (19, .inr (1, [.ref hd, .ref (ad 3), .ref (ad 4), .long (lI a), .long (lI b), .long (lI cc), .long (lI d)])) := s_84.2.2 _ _ f_72 (show ¬ (19 = 3) by decide)
                have k_88 : V_83 4 = N := (s_84.2.1 4 (show ¬ (4 = 3) by decide)).trans k_74
                have k_89 : V_83 0 = M / N := (s_84.2.1 0 (show ¬ (0 = 3) by decide)).trans k_67
                have k_90 : V_83 1 = M % N := (s_84.2.1 1 (show ¬ (1 = 3) by decide)).trans k_68
                have W_91 := s_84.1
                have S_92 : w2s cA X ad (fun x => x < 5 ∨ x = 19) G V V_83 (G_80, B_81) := w2s_mono (w2s_tr S_76 s_84) (sc_1 hkk)
                have bl_93 : B_81.1 ≤ MC := Nat.le_trans (w2_le W_91).1 hX1
                have bl_94 : B_81.2 ≤ MS := Nat.le_trans (w2_le W_91).2 hX2
                refine gs (pc' := 118) (fun _ _ _ _ _ hl => lv_aload_n hx hb d_Cd_find_117 rfl (lv_at hl 1 rfl)) ?_
                refine g_get hx hb hts hin_Cd hown hK f_87 rfl 2 (by decide) (hts _ wm108) (fun _ h9 => h9) rfl d_Cd_find_118 ?_
                refine gs (pc' := 122) (fun _ _ _ _ _ hl => lv_aload_n hx hb d_Cd_find_121 rfl (lv_at hl 1 rfl)) ?_
                refine g_get hx hb hts hin_Cd hown hK f_87 rfl 0 (by decide) (hts _ wm106) (fun _ h9 => h9) rfl d_Cd_find_122 ?_
                refine g_get hx hb hts hin_Di hown hK f_86 rfl 1 (by decide) (hts _ wm88) (fun _ h9 => h9) rfl d_Cd_find_125 ?_
                obtain ⟨κo_95, ao_95, zo_95, fo_95, hho_95, hao_95, hzo_95, hDo_95, hco_95⟩ := w2_N W_91 (show 4 < 19 by decide)
                rw [k_88] at hDo_95
                have hbo_95 : zo_95 ≤ 3000 := Nat.le_trans hzo_95 hco_95
                refine g_outv hlo (g_runV (As := [.ref (ad 1)]) (rest := []) ⟨hx, hb, hml, hown, hts⟩ hK hZ hRc hRs (n_setTo l D cA lo MC MS G_80 B_81 X ad V_83 W_91 hX1 hX2 4 (by decide) (ad 1) (M % N) k1 (rd_w2' (P := fun x => ¬ x = 4) W_91 (by decide) (by decide) k_90) lt_70 (sc_5 hkk)) (fun _ _ => cwV 1 hts (tb_good (tb_cons wm407 (tb_cons wm408 (tb_cons wm409 (tb_cons wm5 k_Na_setTo))))) rfl rfl rfl (by decide +kernel) ⟨by rw [hRf]; exact Nat.le_of_ble_eq_true rfl, by rw [hRl]; exact Nat.le_of_ble_eq_true rfl⟩) hho_95 rfl bl_93 bl_94 rfl (Nat.le_of_ble_eq_true rfl) d_Cd_find_128) (fun G_96 B_97 p_98 => ?_)
                obtain ⟨V_99, s_100, k_101⟩ := p_98
                have f_102 : G_96 hd = some (30, .inr (2, [.ref (ad 0), .ref (ad 1), .ref (ad 2)])) := s_100.2.2 _ _ f_86 (show ¬ (30 = 4) by decide)
                have f_103 : G_96 hc = some (19, .inr (1, [.ref hd, .ref (ad 3), .ref (ad 4), .long (lI a), .long (lI b), .long (lI cc), .long (lI d)])) := s_100.2.2 _ _ f_87 (show ¬ (19 = 4) by decide)
                have k_104 : V_99 0 = M / N := (s_100.2.1 0 (show ¬ (0 = 4) by decide)).trans k_89
                have k_105 : V_99 1 = M % N := (s_100.2.1 1 (show ¬ (1 = 4) by decide)).trans k_90
                have k_106 : V_99 3 = N := (s_100.2.1 3 (show ¬ (3 = 4) by decide)).trans k_85
                have W_107 := s_100.1
                have S_108 : w2s cA X ad (fun x => x < 5 ∨ x = 19) G V V_99 (G_96, B_97) := w2s_mono (w2s_tr S_92 s_100) (sc_6 hkk)
                have bl_109 : B_97.1 ≤ MC := Nat.le_trans (w2_le W_107).1 hX1
                have bl_110 : B_97.2 ≤ MS := Nat.le_trans (w2_le W_107).2 hX2
                refine gst (pc' := 134) (L' := [(4, .int (nI (i + 1))), (0, .ref hc)]) (fun _ _ _ _ _ hl => lv_iinc (v := nI (i + 1)) hx hb d_Cd_find_131 hl (k := 0) rfl (nI_add _ 1) (by decide) rfl) ?_
                refine gs (pc' := 49) (fun _ _ _ _ _ hl => lv_goto (tgt := 49) hx hb d_Cd_find_134 (by decide)) ?_
                refine gsub [0, 1] rfl ?_
                exact ih (i + 1) N (M % N) _ _ _ _ G_96 B_97 V_99 (by omega) S_108 k_106 k_101 (Nat.le_of_lt (Nat.mod_lt _ hNp)) ((gcd_step M N).trans hg) hNk (half_lt hMN (euc_half hNp hNM)) f_102 f_103
              · skip
                have nc_61 : 0 ≠ 0 := (n0_eq (a := 0) (by omega)).2 c_61
                exact absurd nc_61 (by omega)
            · skip
              subst hr7
              refine gsb (pc1 := 91) (pc2 := 84) (fun _ _ _ _ _ => lv_if_eq (tgt := 91) hx hb d_Cd_find_81 (by decide)) (fun c_111 => ?_) (fun c_111 => ?_)
              · skip
                have nc_111 : 1 = 0 := (n0_eq (a := 1) (by omega)).1 c_111
                exact absurd nc_111 (by omega)
              · skip
                have nc_111 : 1 ≠ 0 := (n0_eq (a := 1) (by omega)).2 c_111
                refine gs (pc' := 85) (fun _ _ _ _ _ hl => lv_aload_n hx hb d_Cd_find_84 rfl (lv_at hl 1 rfl)) ?_
                obtain ⟨M2, N2, hM2, hN2, hNM2, hMA2, hg2, -, -, -, ba, bb, bcc, bd, -, hms⟩ := hI
                refine g_outv hlo (g_runV (As := []) (rest := []) ⟨hx, hb, hml, hown, hts⟩ hK hZ hRc hRs (n_useFactors l D cA lo MC MS G_49 Bk X ad Vk W_57 hX1 hX2 hd hc a b cc d hcd M N M2 N2 k1 k_55 k_56 hNM hMk (by omega) hM2 hN2 hNM2 hMA2 ba bb bcc bd) (fun _ _ => cwV 0 hts (tb_good (tb_cons wm433 (tb_cons wm435 (tb_cons ws4 (tb_cons wm7 k_Cd_useFactors))))) rfl rfl rfl (by decide +kernel) ⟨by rw [hRf]; exact Nat.le_of_ble_eq_true rfl, by rw [hRl]; exact Nat.le_of_ble_eq_true rfl⟩) hcd rfl bl_59 bl_60 rfl (Nat.le_of_ble_eq_true rfl) d_Cd_find_85) (fun G_112 B_113 p_114 => ?_)
                obtain ⟨V_115, s_116, k_117, k_118⟩ := p_114
                have lt_119 : M2 < 1000000000 ^ k1 := Nat.lt_of_le_of_lt hMA2 hMk
                have f_120 : G_112 hd = some (30, .inr (2, [.ref (ad 0), .ref (ad 1), .ref (ad 2)])) := s_116.2.2 _ _ f_54 (show ¬ (30 = 3 ∨ 30 = 4) by decide)
                have f_121 : G_112 hc = some (19, .inr (1, [.ref hd, .ref (ad 3), .ref (ad 4), .long (lI a), .long (lI b), .long (lI cc), .long (lI d)])) := s_116.2.2 _ _ hcd (show ¬ (19 = 3 ∨ 19 = 4) by decide)
                have W_122 := s_116.1
                have S_123 : w2s cA X ad (fun x => x < 5 ∨ x = 19) G V V_115 (G_112, B_113) := w2s_mono (w2s_tr S_58 s_116) (sc_7 hkk)
                have bl_124 : B_113.1 ≤ MC := Nat.le_trans (w2_le W_122).1 hX1
                have bl_125 : B_113.2 ≤ MS := Nat.le_trans (w2_le W_122).2 hX2
                refine gs (pc' := 131) (fun _ _ _ _ _ hl => lv_goto (tgt := 131) hx hb d_Cd_find_88 (by decide)) ?_
                refine gst (pc' := 134) (L' := [(4, .int (nI (i + 1))), (0, .ref hc)]) (fun _ _ _ _ _ hl => lv_iinc (v := nI (i + 1)) hx hb d_Cd_find_131 hl (k := 0) rfl (nI_add _ 1) (by decide) rfl) ?_
                refine gs (pc' := 49) (fun _ _ _ _ _ hl => lv_goto (tgt := 49) hx hb d_Cd_find_134 (by decide)) ?_
                refine gsub [0, 1] rfl ?_
                exact ih (i + 1) M2 N2 _ _ _ _ G_112 B_113 V_115 (by omega) S_123 k_117 k_118 hNM2 (hg2.trans hg) (Nat.lt_of_le_of_lt hMA2 hMk) (half_lt hMN (hms.resolve_left hb0)) f_120 f_121
  have hS0 : w2s cA X ad (fun x => x < 5 ∨ x = 19) G V V (G, B) := w2s_rf hW
  have bl_126 : B.1 ≤ MC := Nat.le_trans (w2_le hW).1 hX1
  have bl_127 : B.2 ≤ MS := Nat.le_trans (w2_le hW).2 hX2
  refine gs (pc' := 1) (fun _ _ _ _ _ hl => lv_aload_n hx hb d_Cd_find_0 rfl (lv_at hl 1 rfl)) ?_
  refine gs (pc' := 2) (fun _ _ _ _ _ hl => lv_aload_n hx hb d_Cd_find_1 rfl (lv_at hl 2 rfl)) ?_
  obtain ⟨to_128, κo_128, hPo_128, hco_128, ao_128, zo_128, fo_128, hho_128, hao_128, hzo_128, hDo_128⟩ := id hr1
  have hbo_128 : zo_128 ≤ 3000 := Nat.le_trans hzo_128 hco_128
  refine g_outi hlo (g_runV (As := [.ref h2]) (rest := []) ⟨hx, hb, hml, hown, hts⟩ hK hZ hRc hRs (n_compare l D cA lo MC MS G B (fun _ => True) (fun _ => True) h1 v1 h2 v2 (rd_mono (P1 := fun _ => True) hr1 (fun _ _ => trivial)) (rd_mono (P1 := fun _ => True) hr2 (fun _ _ => trivial)) bl_126 bl_127) (fun _ _ => cwV 1 hts (tb_good (tb_cons wm403 (tb_cons wm404 (tb_cons wm405 (tb_cons wm5 k_Na_compare))))) rfl rfl rfl (by decide +kernel) ⟨by rw [hRf]; exact Nat.le_of_ble_eq_true rfl, by rw [hRl]; exact Nat.le_of_ble_eq_true rfl⟩) hho_128 rfl bl_126 bl_127 rfl (Nat.le_of_ble_eq_true rfl) d_Cd_find_2) (fun r_132 G_129 B_130 p_131 => ?_)
  obtain ⟨u_133, cm_134⟩ := p_131
  cases u_133
  rcases cm_134 with ⟨q_135, hl_136⟩ | ⟨q_135, hl_136⟩ | ⟨q_135, hl_136⟩
  · skip
    subst q_135
    refine gsb (pc1 := 12) (pc2 := 8) (fun _ _ _ _ _ => lv_if_lt (tgt := 12) hx hb d_Cd_find_5 (by decide)) (fun c_137 => ?_) (fun c_137 => ?_)
    · skip
      refine gs (pc' := 13) (fun _ _ _ _ _ hl => lv_iconst (v := nI 0) hx hb d_Cd_find_12 (by decide)) ?_
      refine gst (pc' := 14) (L' := [(3, .int (nI 0)), (0, .ref hc), (1, .ref h1), (2, .ref h2)]) (fun _ _ _ _ _ hl => lv_istore_n hx hb d_Cd_find_13 rfl hl (by decide) rfl) ?_
      refine gs (pc' := 15) (fun _ _ _ _ _ hl => lv_aload_n hx hb d_Cd_find_14 rfl (lv_at hl 1 rfl)) ?_
      refine g_get hx hb hts hin_Cd hown hK hhc rfl 1 (by decide) (hts _ wm107) (fun _ h9 => h9) rfl d_Cd_find_15 ?_
      refine gs (pc' := 19) (fun _ _ _ _ _ hl => lv_iload_n hx hb d_Cd_find_18 rfl (lv_at hl 0 rfl)) ?_
      refine gsb (pc1 := 26) (pc2 := 22) (fun _ _ _ _ _ => lv_if_eq (tgt := 26) hx hb d_Cd_find_19 (by decide)) (fun c_138 => ?_) (fun c_138 => ?_)
      · skip
        have nc_138 : 0 = 0 := (n0_eq (a := 0) (by omega)).1 c_138
        refine gs (pc' := 27) (fun _ _ _ _ _ hl => lv_aload_n hx hb d_Cd_find_26 rfl (lv_at hl 3 rfl)) ?_
        obtain ⟨κo_139, ao_139, zo_139, fo_139, hho_139, hao_139, hzo_139, hDo_139, hco_139⟩ := w2_N hW (show 3 < 19 by decide)
        have hbo_139 : zo_139 ≤ 3000 := Nat.le_trans hzo_139 hco_139
        refine g_outv hlo (g_runV (As := [.ref h2]) (rest := []) ⟨hx, hb, hml, hown, hts⟩ hK hZ hRc hRs (n_setTo l D cA lo MC MS G B X ad V hW hX1 hX2 3 (by decide) h2 v2 k1 (rd_mono (P1 := fun x => ¬ x = 3) hr2 (sc_8 hkk)) hk2 (sc_5 hkk)) (fun _ _ => cwV 1 hts (tb_good (tb_cons wm407 (tb_cons wm408 (tb_cons wm409 (tb_cons wm5 k_Na_setTo))))) rfl rfl rfl (by decide +kernel) ⟨by rw [hRf]; exact Nat.le_of_ble_eq_true rfl, by rw [hRl]; exact Nat.le_of_ble_eq_true rfl⟩) hho_139 rfl bl_126 bl_127 rfl (Nat.le_of_ble_eq_true rfl) d_Cd_find_27) (fun G_140 B_141 p_142 => ?_)
        obtain ⟨V_143, s_144, k_145⟩ := p_142
        have f_146 : G_140 hd = some (30, .inr (2, [.ref (ad 0), .ref (ad 1), .ref (ad 2)])) := s_144.2.2 _ _ hhd (show ¬ (30 = 3) by decide)
        have f_147 : G_140 hc = some (19, .inr (1, [.ref hd, .ref (ad 3), .ref (ad 4), .long fa, .long fb, .long fc, .long fd])) := s_144.2.2 _ _ hhc (show ¬ (19 = 3) by decide)
        have rd_148 := rd_fr hr1 s_144.2.2 (sc_9 hkk)
        have rd_149 := rd_fr hr2 s_144.2.2 (sc_9 hkk)
        have W_150 := s_144.1
        have S_151 : w2s cA X ad (fun x => x < 5 ∨ x = 19) G V V_143 (G_140, B_141) := w2s_mono (w2s_tr hS0 s_144) (sc_1 hkk)
        have bl_152 : B_141.1 ≤ MC := Nat.le_trans (w2_le W_150).1 hX1
        have bl_153 : B_141.2 ≤ MS := Nat.le_trans (w2_le W_150).2 hX2
        refine gs (pc' := 31) (fun _ _ _ _ _ hl => lv_aload_n hx hb d_Cd_find_30 rfl (lv_at hl 1 rfl)) ?_
        refine g_get hx hb hts hin_Cd hown hK f_147 rfl 2 (by decide) (hts _ wm108) (fun _ h9 => h9) rfl d_Cd_find_31 ?_
        refine gs (pc' := 35) (fun _ _ _ _ _ hl => lv_iload_n hx hb d_Cd_find_34 rfl (lv_at hl 0 rfl)) ?_
        refine gsb (pc1 := 42) (pc2 := 38) (fun _ _ _ _ _ => lv_if_eq (tgt := 42) hx hb d_Cd_find_35 (by decide)) (fun c_154 => ?_) (fun c_154 => ?_)
        · skip
          have nc_154 : 0 = 0 := (n0_eq (a := 0) (by omega)).1 c_154
          refine gs (pc' := 43) (fun _ _ _ _ _ hl => lv_aload_n hx hb d_Cd_find_42 rfl (lv_at hl 2 rfl)) ?_
          obtain ⟨κo_155, ao_155, zo_155, fo_155, hho_155, hao_155, hzo_155, hDo_155, hco_155⟩ := w2_N W_150 (show 4 < 19 by decide)
          have hbo_155 : zo_155 ≤ 3000 := Nat.le_trans hzo_155 hco_155
          refine g_outv hlo (g_runV (As := [.ref h1]) (rest := []) ⟨hx, hb, hml, hown, hts⟩ hK hZ hRc hRs (n_setTo l D cA lo MC MS G_140 B_141 X ad V_143 W_150 hX1 hX2 4 (by decide) h1 v1 k1 (rd_mono (P1 := fun x => ¬ x = 4) rd_148 (sc_10 hkk)) hk1 (sc_5 hkk)) (fun _ _ => cwV 1 hts (tb_good (tb_cons wm407 (tb_cons wm408 (tb_cons wm409 (tb_cons wm5 k_Na_setTo))))) rfl rfl rfl (by decide +kernel) ⟨by rw [hRf]; exact Nat.le_of_ble_eq_true rfl, by rw [hRl]; exact Nat.le_of_ble_eq_true rfl⟩) hho_155 rfl bl_152 bl_153 rfl (Nat.le_of_ble_eq_true rfl) d_Cd_find_43) (fun G_156 B_157 p_158 => ?_)
          obtain ⟨V_159, s_160, k_161⟩ := p_158
          have f_162 : G_156 hd = some (30, .inr (2, [.ref (ad 0), .ref (ad 1), .ref (ad 2)])) := s_160.2.2 _ _ f_146 (show ¬ (30 = 4) by decide)
          have f_163 : G_156 hc = some (19, .inr (1, [.ref hd, .ref (ad 3), .ref (ad 4), .long fa, .long fb, .long fc, .long fd])) := s_160.2.2 _ _ f_147 (show ¬ (19 = 4) by decide)
          have k_164 : V_159 3 = v2 := (s_160.2.1 3 (show ¬ (3 = 4) by decide)).trans k_145
          have rd_165 := rd_fr rd_148 s_160.2.2 (sc_11 hkk)
          have rd_166 := rd_fr rd_149 s_160.2.2 (sc_11 hkk)
          have W_167 := s_160.1
          have S_168 : w2s cA X ad (fun x => x < 5 ∨ x = 19) G V V_159 (G_156, B_157) := w2s_mono (w2s_tr S_151 s_160) (sc_6 hkk)
          have bl_169 : B_157.1 ≤ MC := Nat.le_trans (w2_le W_167).1 hX1
          have bl_170 : B_157.2 ≤ MS := Nat.le_trans (w2_le W_167).2 hX2
          refine gs (pc' := 47) (fun _ _ _ _ _ hl => lv_iconst (v := nI 0) hx hb d_Cd_find_46 (by decide)) ?_
          refine gst (pc' := 49) (L' := [(4, .int (nI 0)), (3, .int (nI 0)), (0, .ref hc), (1, .ref h1), (2, .ref h2)]) (fun _ _ _ _ _ hl => lv_istore hx hb d_Cd_find_47 hl (by decide) rfl) ?_
          refine gsub [0, 2] rfl ?_
          exact loop 1000000 0 v2 v1 _ _ _ _ G_156 B_157 V_159 (by omega) S_168 k_164 k_161 (by omega) (Nat.gcd_comm _ _) hk2 (lb_two hk2 hk1 (by omega)) f_162 f_163
        · skip
          have nc_154 : 0 ≠ 0 := (n0_eq (a := 0) (by omega)).2 c_154
          exact absurd nc_154 (by omega)
      · skip
        have nc_138 : 0 ≠ 0 := (n0_eq (a := 0) (by omega)).2 c_138
        exact absurd nc_138 (by omega)
    · skip
      exact absurd (show (-1 : Int32) < 0 by decide) c_137
  · skip
    subst q_135
    refine gsb (pc1 := 12) (pc2 := 8) (fun _ _ _ _ _ => lv_if_lt (tgt := 12) hx hb d_Cd_find_5 (by decide)) (fun c_171 => ?_) (fun c_171 => ?_)
    · skip
      have nc_171 : 0 < 0 := (n0_lt (a := 0) (by omega)).1 c_171
      exact absurd nc_171 (by omega)
    · skip
      have nc_171 : 0 ≥ 0 := (n0_lt (a := 0) (by omega)).2 c_171
      refine gs (pc' := 9) (fun _ _ _ _ _ hl => lv_iconst (v := nI 1) hx hb d_Cd_find_8 (by decide)) ?_
      refine gs (pc' := 13) (fun _ _ _ _ _ hl => lv_goto (tgt := 13) hx hb d_Cd_find_9 (by decide)) ?_
      refine gst (pc' := 14) (L' := [(3, .int (nI 1)), (0, .ref hc), (1, .ref h1), (2, .ref h2)]) (fun _ _ _ _ _ hl => lv_istore_n hx hb d_Cd_find_13 rfl hl (by decide) rfl) ?_
      refine gs (pc' := 15) (fun _ _ _ _ _ hl => lv_aload_n hx hb d_Cd_find_14 rfl (lv_at hl 1 rfl)) ?_
      refine g_get hx hb hts hin_Cd hown hK hhc rfl 1 (by decide) (hts _ wm107) (fun _ h9 => h9) rfl d_Cd_find_15 ?_
      refine gs (pc' := 19) (fun _ _ _ _ _ hl => lv_iload_n hx hb d_Cd_find_18 rfl (lv_at hl 0 rfl)) ?_
      refine gsb (pc1 := 26) (pc2 := 22) (fun _ _ _ _ _ => lv_if_eq (tgt := 26) hx hb d_Cd_find_19 (by decide)) (fun c_172 => ?_) (fun c_172 => ?_)
      · skip
        have nc_172 : 1 = 0 := (n0_eq (a := 1) (by omega)).1 c_172
        exact absurd nc_172 (by omega)
      · skip
        have nc_172 : 1 ≠ 0 := (n0_eq (a := 1) (by omega)).2 c_172
        refine gs (pc' := 23) (fun _ _ _ _ _ hl => lv_aload_n hx hb d_Cd_find_22 rfl (lv_at hl 2 rfl)) ?_
        refine gs (pc' := 27) (fun _ _ _ _ _ hl => lv_goto (tgt := 27) hx hb d_Cd_find_23 (by decide)) ?_
        obtain ⟨κo_173, ao_173, zo_173, fo_173, hho_173, hao_173, hzo_173, hDo_173, hco_173⟩ := w2_N hW (show 3 < 19 by decide)
        have hbo_173 : zo_173 ≤ 3000 := Nat.le_trans hzo_173 hco_173
        refine g_outv hlo (g_runV (As := [.ref h1]) (rest := []) ⟨hx, hb, hml, hown, hts⟩ hK hZ hRc hRs (n_setTo l D cA lo MC MS G B X ad V hW hX1 hX2 3 (by decide) h1 v1 k1 (rd_mono (P1 := fun x => ¬ x = 3) hr1 (sc_8 hkk)) hk1 (sc_5 hkk)) (fun _ _ => cwV 1 hts (tb_good (tb_cons wm407 (tb_cons wm408 (tb_cons wm409 (tb_cons wm5 k_Na_setTo))))) rfl rfl rfl (by decide +kernel) ⟨by rw [hRf]; exact Nat.le_of_ble_eq_true rfl, by rw [hRl]; exact Nat.le_of_ble_eq_true rfl⟩) hho_173 rfl bl_126 bl_127 rfl (Nat.le_of_ble_eq_true rfl) d_Cd_find_27) (fun G_174 B_175 p_176 => ?_)
        obtain ⟨V_177, s_178, k_179⟩ := p_176
        have f_180 : G_174 hd = some (30, .inr (2, [.ref (ad 0), .ref (ad 1), .ref (ad 2)])) := s_178.2.2 _ _ hhd (show ¬ (30 = 3) by decide)
        have f_181 : G_174 hc = some (19, .inr (1, [.ref hd, .ref (ad 3), .ref (ad 4), .long fa, .long fb, .long fc, .long fd])) := s_178.2.2 _ _ hhc (show ¬ (19 = 3) by decide)
        have rd_182 := rd_fr hr1 s_178.2.2 (sc_9 hkk)
        have rd_183 := rd_fr hr2 s_178.2.2 (sc_9 hkk)
        have W_184 := s_178.1
        have S_185 : w2s cA X ad (fun x => x < 5 ∨ x = 19) G V V_177 (G_174, B_175) := w2s_mono (w2s_tr hS0 s_178) (sc_1 hkk)
        have bl_186 : B_175.1 ≤ MC := Nat.le_trans (w2_le W_184).1 hX1
        have bl_187 : B_175.2 ≤ MS := Nat.le_trans (w2_le W_184).2 hX2
        refine gs (pc' := 31) (fun _ _ _ _ _ hl => lv_aload_n hx hb d_Cd_find_30 rfl (lv_at hl 1 rfl)) ?_
        refine g_get hx hb hts hin_Cd hown hK f_181 rfl 2 (by decide) (hts _ wm108) (fun _ h9 => h9) rfl d_Cd_find_31 ?_
        refine gs (pc' := 35) (fun _ _ _ _ _ hl => lv_iload_n hx hb d_Cd_find_34 rfl (lv_at hl 0 rfl)) ?_
        refine gsb (pc1 := 42) (pc2 := 38) (fun _ _ _ _ _ => lv_if_eq (tgt := 42) hx hb d_Cd_find_35 (by decide)) (fun c_188 => ?_) (fun c_188 => ?_)
        · skip
          have nc_188 : 1 = 0 := (n0_eq (a := 1) (by omega)).1 c_188
          exact absurd nc_188 (by omega)
        · skip
          have nc_188 : 1 ≠ 0 := (n0_eq (a := 1) (by omega)).2 c_188
          refine gs (pc' := 39) (fun _ _ _ _ _ hl => lv_aload_n hx hb d_Cd_find_38 rfl (lv_at hl 3 rfl)) ?_
          refine gs (pc' := 43) (fun _ _ _ _ _ hl => lv_goto (tgt := 43) hx hb d_Cd_find_39 (by decide)) ?_
          obtain ⟨κo_189, ao_189, zo_189, fo_189, hho_189, hao_189, hzo_189, hDo_189, hco_189⟩ := w2_N W_184 (show 4 < 19 by decide)
          have hbo_189 : zo_189 ≤ 3000 := Nat.le_trans hzo_189 hco_189
          refine g_outv hlo (g_runV (As := [.ref h2]) (rest := []) ⟨hx, hb, hml, hown, hts⟩ hK hZ hRc hRs (n_setTo l D cA lo MC MS G_174 B_175 X ad V_177 W_184 hX1 hX2 4 (by decide) h2 v2 k1 (rd_mono (P1 := fun x => ¬ x = 4) rd_183 (sc_10 hkk)) hk2 (sc_5 hkk)) (fun _ _ => cwV 1 hts (tb_good (tb_cons wm407 (tb_cons wm408 (tb_cons wm409 (tb_cons wm5 k_Na_setTo))))) rfl rfl rfl (by decide +kernel) ⟨by rw [hRf]; exact Nat.le_of_ble_eq_true rfl, by rw [hRl]; exact Nat.le_of_ble_eq_true rfl⟩) hho_189 rfl bl_186 bl_187 rfl (Nat.le_of_ble_eq_true rfl) d_Cd_find_43) (fun G_190 B_191 p_192 => ?_)
          obtain ⟨V_193, s_194, k_195⟩ := p_192
          have f_196 : G_190 hd = some (30, .inr (2, [.ref (ad 0), .ref (ad 1), .ref (ad 2)])) := s_194.2.2 _ _ f_180 (show ¬ (30 = 4) by decide)
          have f_197 : G_190 hc = some (19, .inr (1, [.ref hd, .ref (ad 3), .ref (ad 4), .long fa, .long fb, .long fc, .long fd])) := s_194.2.2 _ _ f_181 (show ¬ (19 = 4) by decide)
          have k_198 : V_193 3 = v1 := (s_194.2.1 3 (show ¬ (3 = 4) by decide)).trans k_179
          have rd_199 := rd_fr rd_182 s_194.2.2 (sc_11 hkk)
          have rd_200 := rd_fr rd_183 s_194.2.2 (sc_11 hkk)
          have W_201 := s_194.1
          have S_202 : w2s cA X ad (fun x => x < 5 ∨ x = 19) G V V_193 (G_190, B_191) := w2s_mono (w2s_tr S_185 s_194) (sc_6 hkk)
          have bl_203 : B_191.1 ≤ MC := Nat.le_trans (w2_le W_201).1 hX1
          have bl_204 : B_191.2 ≤ MS := Nat.le_trans (w2_le W_201).2 hX2
          refine gs (pc' := 47) (fun _ _ _ _ _ hl => lv_iconst (v := nI 0) hx hb d_Cd_find_46 (by decide)) ?_
          refine gst (pc' := 49) (L' := [(4, .int (nI 0)), (3, .int (nI 1)), (0, .ref hc), (1, .ref h1), (2, .ref h2)]) (fun _ _ _ _ _ hl => lv_istore hx hb d_Cd_find_47 hl (by decide) rfl) ?_
          refine gsub [0, 2] rfl ?_
          exact loop 1000000 0 v1 v2 _ _ _ _ G_190 B_191 V_193 (by omega) S_202 k_198 k_195 (by omega) rfl hk1 (lb_two hk1 hk2 (by omega)) f_196 f_197
  · skip
    subst q_135
    refine gsb (pc1 := 12) (pc2 := 8) (fun _ _ _ _ _ => lv_if_lt (tgt := 12) hx hb d_Cd_find_5 (by decide)) (fun c_205 => ?_) (fun c_205 => ?_)
    · skip
      have nc_205 : 1 < 0 := (n0_lt (a := 1) (by omega)).1 c_205
      exact absurd nc_205 (by omega)
    · skip
      have nc_205 : 1 ≥ 0 := (n0_lt (a := 1) (by omega)).2 c_205
      refine gs (pc' := 9) (fun _ _ _ _ _ hl => lv_iconst (v := nI 1) hx hb d_Cd_find_8 (by decide)) ?_
      refine gs (pc' := 13) (fun _ _ _ _ _ hl => lv_goto (tgt := 13) hx hb d_Cd_find_9 (by decide)) ?_
      refine gst (pc' := 14) (L' := [(3, .int (nI 1)), (0, .ref hc), (1, .ref h1), (2, .ref h2)]) (fun _ _ _ _ _ hl => lv_istore_n hx hb d_Cd_find_13 rfl hl (by decide) rfl) ?_
      refine gs (pc' := 15) (fun _ _ _ _ _ hl => lv_aload_n hx hb d_Cd_find_14 rfl (lv_at hl 1 rfl)) ?_
      refine g_get hx hb hts hin_Cd hown hK hhc rfl 1 (by decide) (hts _ wm107) (fun _ h9 => h9) rfl d_Cd_find_15 ?_
      refine gs (pc' := 19) (fun _ _ _ _ _ hl => lv_iload_n hx hb d_Cd_find_18 rfl (lv_at hl 0 rfl)) ?_
      refine gsb (pc1 := 26) (pc2 := 22) (fun _ _ _ _ _ => lv_if_eq (tgt := 26) hx hb d_Cd_find_19 (by decide)) (fun c_206 => ?_) (fun c_206 => ?_)
      · skip
        have nc_206 : 1 = 0 := (n0_eq (a := 1) (by omega)).1 c_206
        exact absurd nc_206 (by omega)
      · skip
        have nc_206 : 1 ≠ 0 := (n0_eq (a := 1) (by omega)).2 c_206
        refine gs (pc' := 23) (fun _ _ _ _ _ hl => lv_aload_n hx hb d_Cd_find_22 rfl (lv_at hl 2 rfl)) ?_
        refine gs (pc' := 27) (fun _ _ _ _ _ hl => lv_goto (tgt := 27) hx hb d_Cd_find_23 (by decide)) ?_
        obtain ⟨κo_207, ao_207, zo_207, fo_207, hho_207, hao_207, hzo_207, hDo_207, hco_207⟩ := w2_N hW (show 3 < 19 by decide)
        have hbo_207 : zo_207 ≤ 3000 := Nat.le_trans hzo_207 hco_207
        refine g_outv hlo (g_runV (As := [.ref h1]) (rest := []) ⟨hx, hb, hml, hown, hts⟩ hK hZ hRc hRs (n_setTo l D cA lo MC MS G B X ad V hW hX1 hX2 3 (by decide) h1 v1 k1 (rd_mono (P1 := fun x => ¬ x = 3) hr1 (sc_8 hkk)) hk1 (sc_5 hkk)) (fun _ _ => cwV 1 hts (tb_good (tb_cons wm407 (tb_cons wm408 (tb_cons wm409 (tb_cons wm5 k_Na_setTo))))) rfl rfl rfl (by decide +kernel) ⟨by rw [hRf]; exact Nat.le_of_ble_eq_true rfl, by rw [hRl]; exact Nat.le_of_ble_eq_true rfl⟩) hho_207 rfl bl_126 bl_127 rfl (Nat.le_of_ble_eq_true rfl) d_Cd_find_27) (fun G_208 B_209 p_210 => ?_)
        obtain ⟨V_211, s_212, k_213⟩ := p_210
        have f_214 : G_208 hd = some (30, .inr (2, [.ref (ad 0), .ref (ad 1), .ref (ad 2)])) := s_212.2.2 _ _ hhd (show ¬ (30 = 3) by decide)
        have f_215 : G_208 hc = some (19, .inr (1, [.ref hd, .ref (ad 3), .ref (ad 4), .long fa, .long fb, .long fc, .long fd])) := s_212.2.2 _ _ hhc (show ¬ (19 = 3) by decide)
        have rd_216 := rd_fr hr1 s_212.2.2 (sc_9 hkk)
        have rd_217 := rd_fr hr2 s_212.2.2 (sc_9 hkk)
        have W_218 := s_212.1
        have S_219 : w2s cA X ad (fun x => x < 5 ∨ x = 19) G V V_211 (G_208, B_209) := w2s_mono (w2s_tr hS0 s_212) (sc_1 hkk)
        have bl_220 : B_209.1 ≤ MC := Nat.le_trans (w2_le W_218).1 hX1
        have bl_221 : B_209.2 ≤ MS := Nat.le_trans (w2_le W_218).2 hX2
        refine gs (pc' := 31) (fun _ _ _ _ _ hl => lv_aload_n hx hb d_Cd_find_30 rfl (lv_at hl 1 rfl)) ?_
        refine g_get hx hb hts hin_Cd hown hK f_215 rfl 2 (by decide) (hts _ wm108) (fun _ h9 => h9) rfl d_Cd_find_31 ?_
        refine gs (pc' := 35) (fun _ _ _ _ _ hl => lv_iload_n hx hb d_Cd_find_34 rfl (lv_at hl 0 rfl)) ?_
        refine gsb (pc1 := 42) (pc2 := 38) (fun _ _ _ _ _ => lv_if_eq (tgt := 42) hx hb d_Cd_find_35 (by decide)) (fun c_222 => ?_) (fun c_222 => ?_)
        · skip
          have nc_222 : 1 = 0 := (n0_eq (a := 1) (by omega)).1 c_222
          exact absurd nc_222 (by omega)
        · skip
          have nc_222 : 1 ≠ 0 := (n0_eq (a := 1) (by omega)).2 c_222
          refine gs (pc' := 39) (fun _ _ _ _ _ hl => lv_aload_n hx hb d_Cd_find_38 rfl (lv_at hl 3 rfl)) ?_
          refine gs (pc' := 43) (fun _ _ _ _ _ hl => lv_goto (tgt := 43) hx hb d_Cd_find_39 (by decide)) ?_
          obtain ⟨κo_223, ao_223, zo_223, fo_223, hho_223, hao_223, hzo_223, hDo_223, hco_223⟩ := w2_N W_218 (show 4 < 19 by decide)
          have hbo_223 : zo_223 ≤ 3000 := Nat.le_trans hzo_223 hco_223
          refine g_outv hlo (g_runV (As := [.ref h2]) (rest := []) ⟨hx, hb, hml, hown, hts⟩ hK hZ hRc hRs (n_setTo l D cA lo MC MS G_208 B_209 X ad V_211 W_218 hX1 hX2 4 (by decide) h2 v2 k1 (rd_mono (P1 := fun x => ¬ x = 4) rd_217 (sc_10 hkk)) hk2 (sc_5 hkk)) (fun _ _ => cwV 1 hts (tb_good (tb_cons wm407 (tb_cons wm408 (tb_cons wm409 (tb_cons wm5 k_Na_setTo))))) rfl rfl rfl (by decide +kernel) ⟨by rw [hRf]; exact Nat.le_of_ble_eq_true rfl, by rw [hRl]; exact Nat.le_of_ble_eq_true rfl⟩) hho_223 rfl bl_220 bl_221 rfl (Nat.le_of_ble_eq_true rfl) d_Cd_find_43) (fun G_224 B_225 p_226 => ?_)
          obtain ⟨V_227, s_228, k_229⟩ := p_226
          have f_230 : G_224 hd = some (30, .inr (2, [.ref (ad 0), .ref (ad 1), .ref (ad 2)])) := s_228.2.2 _ _ f_214 (show ¬ (30 = 4) by decide)
          have f_231 : G_224 hc = some (19, .inr (1, [.ref hd, .ref (ad 3), .ref (ad 4), .long fa, .long fb, .long fc, .long fd])) := s_228.2.2 _ _ f_215 (show ¬ (19 = 4) by decide)
          have k_232 : V_227 3 = v1 := (s_228.2.1 3 (show ¬ (3 = 4) by decide)).trans k_213
          have rd_233 := rd_fr rd_216 s_228.2.2 (sc_11 hkk)
          have rd_234 := rd_fr rd_217 s_228.2.2 (sc_11 hkk)
          have W_235 := s_228.1
          have S_236 : w2s cA X ad (fun x => x < 5 ∨ x = 19) G V V_227 (G_224, B_225) := w2s_mono (w2s_tr S_219 s_228) (sc_6 hkk)
          have bl_237 : B_225.1 ≤ MC := Nat.le_trans (w2_le W_235).1 hX1
          have bl_238 : B_225.2 ≤ MS := Nat.le_trans (w2_le W_235).2 hX2
          refine gs (pc' := 47) (fun _ _ _ _ _ hl => lv_iconst (v := nI 0) hx hb d_Cd_find_46 (by decide)) ?_
          refine gst (pc' := 49) (L' := [(4, .int (nI 0)), (3, .int (nI 1)), (0, .ref hc), (1, .ref h1), (2, .ref h2)]) (fun _ _ _ _ _ hl => lv_istore hx hb d_Cd_find_47 hl (by decide) rfl) ?_
          refine gsub [0, 2] rfl ?_
          exact loop 1000000 0 v1 v2 _ _ _ _ G_224 B_225 V_227 (by omega) S_236 k_232 k_229 (by omega) rfl hk1 (lb_two hk1 hk2 (by omega)) f_230 f_231
