set_option maxHeartbeats 4000000 in
set_option maxRecDepth 100000 in
theorem n_find (l : Launch) (D : va_G) (cA : Nat → ClassId) (lo MC MS : Nat) (G : gT) (B : Nat × Nat) (X : Nat × Nat) (ad V : Nat → Nat) (hW : w2 cA X ad V (G, B)) (hX1 : X.1 ≤ MC) (hX2 : X.2 ≤ MS) (hd hc : Nat) (fa fb fc fd : Int64) (hhc : G hc = some (19, .inr (1, [.ref hd, .ref (ad 3), .ref (ad 4), .long fa, .long fb, .long fc, .long fd]))) (hhd : G hd = some (30, .inr (2, [.ref (ad 0), .ref (ad 1), .ref (ad 2)]))) (h1 v1 h2 v2 k1 : Nat) (hr1 : rd cA G (fun x => 5 ≤ x ∧ ¬ x = 19) h1 v1) (hr2 : rd cA G (fun x => 5 ≤ x ∧ ¬ x = 19) h2 v2) (hk1 : v1 < 1000000000 ^ k1) (hk2 : v2 < 1000000000 ^ k1) (hkk : k1 ≤ 1499) : gMet l y_Cd_find w_Cd_find 5 139 D clS (gtys cA) lo MC MS [.ref hc, .ref h1, .ref h2] G B (gQr D clS lo (fun r u => r = ad 3 ∧ ∃ V1, w2s cA X ad (fun x => x < 5 ∨ x = 19) G V V1 u ∧ V1 3 = Nat.gcd v1 v2 ∧ ∃ ga gb gc gd : Int64, u.1 hc = some (19, .inr (1, [.ref hd, .ref (ad 3), .ref (ad 4), .long ga, .long gb, .long gc, .long gd])))) := by
  refine g_metr (cc := prog_3_method_2_code) (nL := 5) (L := [(0, .ref hc), (1, .ref h1), (2, .ref h2)]) (rt := ((.object "MetreFractions$Natural"))) (by first | exact Or.inl ⟨_, rfl⟩ | exact Or.inr ⟨_, rfl⟩) (by decide +kernel) rfl (Nat.le_of_ble_eq_true rfl) rfl ?_
  intro p e R s m args below meth c Q hF hRc hRs hRf hRl hret
  obtain ⟨hx, hb, hr, hml, hts0, hown, hlocks, hin, hK, hlo, hZ⟩ := hF
  have hts : ∀ w ∈ tbg, w.before args s = true := fun w h => hts0 w (List.mem_cons_of_mem _ h)
  have loop : ∀ (n i M N : Nat) (ga gb gc gd : Int64) (Gk : gT) (Bk : Nat × Nat) (Vk : Nat → Nat), i + n = 1000000 → w2s cA X ad (fun x => x < 5 ∨ x = 19) G V Vk (Gk, Bk) → Vk 3 = M → Vk 4 = N → N ≤ M → Nat.gcd M N = Nat.gcd v1 v2 → M < 1000000000 ^ k1 → M * N < 2 ^ n → Gk hd = some (30, .inr (2, [.ref (ad 0), .ref (ad 1), .ref (ad 2)])) → Gk hc = some (19, .inr (1, [.ref hd, .ref (ad 3), .ref (ad 4), .long ga, .long gb, .long gc, .long gd])) → gV p l e R s m args below meth c D clS lo 5 Q 49 [(4, .int (nI i)), (0, .ref hc)] [] Gk Bk := by
    intro n
    induction n with
    | zero =>
      intro i M N ga gb gc gd Gk Bk Vk hi hS hM hN hNM hg hMk hMN j1 j2
      have hWk := hS.1
      have hNk : N < 1000000000 ^ k1 := Nat.lt_of_le_of_lt hNM hMk
      have bl_1 := w2_le hWk
      have hN0 : N = 0 := prod_0 hMN hNM
      refine gs (pc' := 51) (fun _ _ _ _ _ hl => lv_iload hx hb d_Cd_find_49 (lv_at hl 0 rfl)) ?_
      refine gs (pc' := 53) (fun _ _ _ _ _ hl => lv_ldc (v := 1000000) hx hb hown (hts _ wm412) d_Cd_find_51) ?_
      refine g_eqi (show 1000000 = nI 1000000 from rfl) ?_
      refine gsb (pc1 := 137) (pc2 := 56) (fun _ _ _ _ _ => lv_icmp_ge (tgt := 137) hx hb d_Cd_find_53 (by decide)) (fun c_2 => ?_) (fun c_2 => ?_)
      · skip
        have nc_2 : i ≥ 1000000 := (nn_ge (a := i) (b := 1000000) (by omega) (by omega)).1 c_2
        refine gs (pc' := 138) (fun _ _ _ _ _ hl => lv_aload_n hx hb d_Cd_find_137 rfl (lv_at hl 1 rfl)) ?_
        refine g_get hx hb hts hin_Cd hown hK j2 rfl 2 (by decide) (hts _ wm108) (fun _ h9 => h9) rfl d_Cd_find_138 ?_
        obtain ⟨κo_3, ao_3, zo_3, fo_3, hho_3, hao_3, hzo_3, hDo_3, hco_3⟩ := w2_N hWk (show 4 < 19 by first | decide | omega)
        rw [hN] at hDo_3
        have hbo_3 : zo_3 ≤ 3000 := by omega
        refine g_get hx hb hts hin_Na hown hK hho_3 rfl 1 (by decide) (hts _ wm77) (fun _ h9 => h9) rfl d_Cd_find_141 ?_
        refine gsb (pc1 := 171) (pc2 := 147) (fun _ _ _ _ _ => lv_if_le (tgt := 171) hx hb d_Cd_find_144 (by decide)) (fun c_4 => ?_) (fun c_4 => ?_)
        · skip
          have nc_4 : zo_3 ≤ 0 := (n0_le (a := zo_3) (by omega)).1 c_4
          refine gs (pc' := 172) (fun _ _ _ _ _ hl => lv_aload_n hx hb d_Cd_find_171 rfl (lv_at hl 1 rfl)) ?_
          refine g_get hx hb hts hin_Cd hown hK j2 rfl 1 (by decide) (hts _ wm107) (fun _ h9 => h9) rfl d_Cd_find_172 ?_
          exact hret 175 _ _ _ _ d_Cd_find_175 (show Bk.1 ≤ MC by omega) (show Bk.2 ≤ MS by omega) ⟨rfl, Vk, hS, hM.trans (by rw [hN0, Nat.gcd_zero_right] at hg; exact hg), _, _, _, _, j2⟩
        · skip
          have nc_4 : zo_3 > 0 := (n0_le (a := zo_3) (by omega)).2 c_4
          exact absurd ((isD_z0 hDo_3).mpr hN0) (by omega)
      · skip
        have nc_2 : i < 1000000 := (nn_ge (a := i) (b := 1000000) (by omega) (by omega)).2 c_2
        exact absurd nc_2 (by omega)
    | succ n ih =>
      intro i M N ga gb gc gd Gk Bk Vk hi hS hM hN hNM hg hMk hMN j1 j2
      have hWk := hS.1
      have hNk : N < 1000000000 ^ k1 := Nat.lt_of_le_of_lt hNM hMk
      have bl_5 := w2_le hWk
      refine gs (pc' := 51) (fun _ _ _ _ _ hl => lv_iload hx hb d_Cd_find_49 (lv_at hl 0 rfl)) ?_
      refine gs (pc' := 53) (fun _ _ _ _ _ hl => lv_ldc (v := 1000000) hx hb hown (hts _ wm412) d_Cd_find_51) ?_
      refine g_eqi (show 1000000 = nI 1000000 from rfl) ?_
      refine gsb (pc1 := 137) (pc2 := 56) (fun _ _ _ _ _ => lv_icmp_ge (tgt := 137) hx hb d_Cd_find_53 (by decide)) (fun c_6 => ?_) (fun c_6 => ?_)
      · skip
        have nc_6 : i ≥ 1000000 := (nn_ge (a := i) (b := 1000000) (by omega) (by omega)).1 c_6
        exact absurd nc_6 (by omega)
      · skip
        have nc_6 : i < 1000000 := (nn_ge (a := i) (b := 1000000) (by omega) (by omega)).2 c_6
        refine gs (pc' := 57) (fun _ _ _ _ _ hl => lv_aload_n hx hb d_Cd_find_56 rfl (lv_at hl 1 rfl)) ?_
        refine g_get hx hb hts hin_Cd hown hK j2 rfl 1 (by decide) (hts _ wm107) (fun _ h9 => h9) rfl d_Cd_find_57 ?_
        obtain ⟨κo_7, ao_7, zo_7, fo_7, hho_7, hao_7, hzo_7, hDo_7, hco_7⟩ := w2_N hWk (show 3 < 19 by first | decide | omega)
        rw [hM] at hDo_7
        have hbo_7 : zo_7 ≤ 3000 := by omega
        refine g_get hx hb hts hin_Na hown hK hho_7 rfl 1 (by decide) (hts _ wm77) (fun _ h9 => h9) rfl d_Cd_find_60 ?_
        refine gs (pc' := 64) (fun _ _ _ _ _ hl => lv_iconst (v := nI 2) hx hb d_Cd_find_63 (by decide)) ?_
        refine gsb (pc1 := 137) (pc2 := 67) (fun _ _ _ _ _ => lv_icmp_le (tgt := 137) hx hb d_Cd_find_64 (by decide)) (fun c_8 => ?_) (fun c_8 => ?_)
        · skip
          have nc_8 : zo_7 ≤ 2 := (nn_le (a := zo_7) (b := 2) (by omega) (by omega)).1 c_8
          have hM2 : M < 1000000000 * 1000000000 := isD_2 hDo_7 (by omega)
          have hN2 : N < 1000000000 * 1000000000 := by omega
          refine gs (pc' := 138) (fun _ _ _ _ _ hl => lv_aload_n hx hb d_Cd_find_137 rfl (lv_at hl 1 rfl)) ?_
          refine g_get hx hb hts hin_Cd hown hK j2 rfl 2 (by decide) (hts _ wm108) (fun _ h9 => h9) rfl d_Cd_find_138 ?_
          obtain ⟨κo_9, ao_9, zo_9, fo_9, hho_9, hao_9, hzo_9, hDo_9, hco_9⟩ := w2_N hWk (show 4 < 19 by first | decide | omega)
          rw [hN] at hDo_9
          have hbo_9 : zo_9 ≤ 3000 := by omega
          refine g_get hx hb hts hin_Na hown hK hho_9 rfl 1 (by decide) (hts _ wm77) (fun _ h9 => h9) rfl d_Cd_find_141 ?_
          refine gsb (pc1 := 171) (pc2 := 147) (fun _ _ _ _ _ => lv_if_le (tgt := 171) hx hb d_Cd_find_144 (by decide)) (fun c_10 => ?_) (fun c_10 => ?_)
          · skip
            have nc_10 : zo_9 ≤ 0 := (n0_le (a := zo_9) (by omega)).1 c_10
            have hN0 : N = 0 := (isD_z0 hDo_9).mp (by omega)
            refine gs (pc' := 172) (fun _ _ _ _ _ hl => lv_aload_n hx hb d_Cd_find_171 rfl (lv_at hl 1 rfl)) ?_
            refine g_get hx hb hts hin_Cd hown hK j2 rfl 1 (by decide) (hts _ wm107) (fun _ h9 => h9) rfl d_Cd_find_172 ?_
            exact hret 175 _ _ _ _ d_Cd_find_175 (show Bk.1 ≤ MC by omega) (show Bk.2 ≤ MS by omega) ⟨rfl, Vk, hS, hM.trans (by rw [hN0, Nat.gcd_zero_right] at hg; exact hg), _, _, _, _, j2⟩
          · skip
            have nc_10 : zo_9 > 0 := (n0_le (a := zo_9) (by omega)).2 c_10
            have hgl : Nat.gcd M N < 1000000000 * 1000000000 := Nat.lt_of_le_of_lt (Nat.gcd_le_left _ (by have := isD_z0 hDo_9; omega)) hM2
            refine gs (pc' := 148) (fun _ _ _ _ _ hl => lv_aload_n hx hb d_Cd_find_147 rfl (lv_at hl 1 rfl)) ?_
            refine g_get hx hb hts hin_Cd hown hK j2 rfl 1 (by decide) (hts _ wm107) (fun _ h9 => h9) rfl d_Cd_find_148 ?_
            refine gs (pc' := 152) (fun _ _ _ _ _ hl => lv_aload_n hx hb d_Cd_find_151 rfl (lv_at hl 1 rfl)) ?_
            refine g_get hx hb hts hin_Cd hown hK j2 rfl 1 (by decide) (hts _ wm107) (fun _ h9 => h9) rfl d_Cd_find_152 ?_
            refine g_outl hlo (g_runV (As := []) (rest := [.ref (ad 3)]) ⟨hx, hb, hml, hown, hts⟩ hK hZ hRc hRs (n_lowTwo l D cA lo MC MS Gk Bk (fun _ => True) (ad 3) M (rd_w2' (P := fun _ => True) hWk (by first | decide | omega) (by first | trivial | omega) hM) (by omega) (show Bk.1 ≤ MC by omega) (show Bk.2 ≤ MS by omega)) (fun _ _ => cwV 0 hts (tb_good (tb_cons wm481 (tb_cons wm482 (tb_cons wm483 (tb_cons wm5 k_Na_lowTwo))))) rfl rfl rfl (by decide +kernel) ⟨by rw [hRf]; exact Nat.le_of_ble_eq_true rfl, by rw [hRl]; exact Nat.le_of_ble_eq_true rfl⟩) hho_7 rfl (show Bk.1 ≤ MC by omega) (show Bk.2 ≤ MS by omega) rfl (Nat.le_of_ble_eq_true rfl) d_Cd_find_155) (fun r_14 G_11 B_12 p_13 => ?_)
            obtain ⟨u_15, v_16⟩ := p_13
            cases u_15
            subst v_16
            refine gs (pc' := 159) (fun _ _ _ _ _ hl => lv_aload_n hx hb d_Cd_find_158 rfl (lv_at hl 1 rfl)) ?_
            refine g_get hx hb hts hin_Cd hown hK j2 rfl 2 (by decide) (hts _ wm108) (fun _ h9 => h9) rfl d_Cd_find_159 ?_
            refine g_outl hlo (g_runV (As := []) (rest := [.long (lN M), .ref (ad 3)]) ⟨hx, hb, hml, hown, hts⟩ hK hZ hRc hRs (n_lowTwo l D cA lo MC MS Gk Bk (fun _ => True) (ad 4) N (rd_w2' (P := fun _ => True) hWk (by first | decide | omega) (by first | trivial | omega) hN) (by omega) (show Bk.1 ≤ MC by omega) (show Bk.2 ≤ MS by omega)) (fun _ _ => cwV 0 hts (tb_good (tb_cons wm481 (tb_cons wm482 (tb_cons wm483 (tb_cons wm5 k_Na_lowTwo))))) rfl rfl rfl (by decide +kernel) ⟨by rw [hRf]; exact Nat.le_of_ble_eq_true rfl, by rw [hRl]; exact Nat.le_of_ble_eq_true rfl⟩) hho_9 rfl (show Bk.1 ≤ MC by omega) (show Bk.2 ≤ MS by omega) rfl (Nat.le_of_ble_eq_true rfl) d_Cd_find_162) (fun r_20 G_17 B_18 p_19 => ?_)
            obtain ⟨u_21, v_22⟩ := p_19
            cases u_21
            subst v_22
            refine g_outl hlo (g_runS (As := [.long (lN M), .long (lN N)]) (rest := [.ref (ad 3)]) ⟨hx, hb, hml, hown, hts⟩ hK hZ hRc hRs (c_Cd_findShort l D cA lo MC MS Gk Bk M N (by omega) (by omega) (show Bk.1 ≤ MC by omega) (show Bk.2 ≤ MS by omega)) (fun _ _ => va_cwS 2 hts (tb_good (tb_cons wm485 (tb_cons wm486 (tb_cons wm7 k_Cd_findShort)))) rfl rfl rfl (by decide +kernel) ⟨by rw [hRf]; exact Nat.le_of_ble_eq_true rfl, by rw [hRl]; exact Nat.le_of_ble_eq_true rfl⟩) (show Bk.1 ≤ MC by omega) (show Bk.2 ≤ MS by omega) rfl (Nat.le_of_ble_eq_true rfl) d_Cd_find_165) (fun r_26 G_23 B_24 p_25 => ?_)
            obtain ⟨u_27, v_28⟩ := p_25
            cases u_27
            subst v_28
            refine g_outv hlo (g_runV (As := [.long (lN (Nat.gcd M N))]) (rest := []) ⟨hx, hb, hml, hown, hts⟩ hK hZ hRc hRs (n_setMagnitude l D cA lo MC MS Gk Bk X ad Vk hWk hX1 hX2 3 (by first | decide | omega) (lN (Nat.gcd M N))) (fun _ _ => cwV 1 hts (tb_good (tb_cons wm488 (tb_cons wm185 (tb_cons wm186 (tb_cons wm5 k_Na_setMagnitude))))) rfl rfl rfl (by decide +kernel) ⟨by rw [hRf]; exact Nat.le_of_ble_eq_true rfl, by rw [hRl]; exact Nat.le_of_ble_eq_true rfl⟩) hho_7 rfl (show Bk.1 ≤ MC by omega) (show Bk.2 ≤ MS by omega) rfl (Nat.le_of_ble_eq_true rfl) d_Cd_find_168) (fun G_29 B_30 p_31 => ?_)
            obtain ⟨V_32, s_33, k_34⟩ := p_31
            have k_35 : V_32 3 = Nat.gcd M N := k_34.trans (lN_natAbs (by omega))
            have lt_36 : Nat.gcd M N < 1000000000 ^ 3 := by omega
            have f_37 : G_29 hd = some (30, .inr (2, [.ref (ad 0), .ref (ad 1), .ref (ad 2)])) := s_33.2.2 _ _ j1 (by first | decide | omega)
            have f_38 : G_29 hc = some (19, .inr (1, [.ref hd, .ref (ad 3), .ref (ad 4), .long ga, .long gb, .long gc, .long gd])) := s_33.2.2 _ _ j2 (by first | decide | omega)
            have k_39 : V_32 4 = N := (s_33.2.1 4 (by first | decide | omega)).trans hN
            have W_40 := s_33.1
            have S_41 : w2s cA X ad (fun x => x < 5 ∨ x = 19) G V V_32 (G_29, B_30) := w2s_mono (w2s_tr hS s_33) (fun _ h => by omega)
            have bl_42 := w2_le W_40
            refine gs (pc' := 172) (fun _ _ _ _ _ hl => lv_aload_n hx hb d_Cd_find_171 rfl (lv_at hl 1 rfl)) ?_
            refine g_get hx hb hts hin_Cd hown hK f_38 rfl 1 (by decide) (hts _ wm107) (fun _ h9 => h9) rfl d_Cd_find_172 ?_
            exact hret 175 _ _ _ _ d_Cd_find_175 (show B_30.1 ≤ MC by omega) (show B_30.2 ≤ MS by omega) ⟨rfl, V_32, S_41, k_35.trans hg, _, _, _, _, f_38⟩
        · skip
          have nc_8 : zo_7 > 2 := (nn_le (a := zo_7) (b := 2) (by omega) (by omega)).2 c_8
          have hM3 : 1000000000 ^ 2 ≤ M := isD_3 hDo_7 (by omega)
          refine gs (pc' := 68) (fun _ _ _ _ _ hl => lv_aload_n hx hb d_Cd_find_67 rfl (lv_at hl 1 rfl)) ?_
          refine g_get hx hb hts hin_Cd hown hK j2 rfl 2 (by decide) (hts _ wm108) (fun _ h9 => h9) rfl d_Cd_find_68 ?_
          obtain ⟨κo_43, ao_43, zo_43, fo_43, hho_43, hao_43, hzo_43, hDo_43, hco_43⟩ := w2_N hWk (show 4 < 19 by first | decide | omega)
          rw [hN] at hDo_43
          have hbo_43 : zo_43 ≤ 3000 := by omega
          refine g_get hx hb hts hin_Na hown hK hho_43 rfl 1 (by decide) (hts _ wm77) (fun _ h9 => h9) rfl d_Cd_find_71 ?_
          refine gsb (pc1 := 137) (pc2 := 77) (fun _ _ _ _ _ => lv_if_le (tgt := 137) hx hb d_Cd_find_74 (by decide)) (fun c_44 => ?_) (fun c_44 => ?_)
          · skip
            have nc_44 : zo_43 ≤ 0 := (n0_le (a := zo_43) (by omega)).1 c_44
            have hN0 : N = 0 := (isD_z0 hDo_43).mp (by omega)
            refine gs (pc' := 138) (fun _ _ _ _ _ hl => lv_aload_n hx hb d_Cd_find_137 rfl (lv_at hl 1 rfl)) ?_
            refine g_get hx hb hts hin_Cd hown hK j2 rfl 2 (by decide) (hts _ wm108) (fun _ h9 => h9) rfl d_Cd_find_138 ?_
            refine g_get hx hb hts hin_Na hown hK hho_43 rfl 1 (by decide) (hts _ wm77) (fun _ h9 => h9) rfl d_Cd_find_141 ?_
            refine gsb (pc1 := 171) (pc2 := 147) (fun _ _ _ _ _ => lv_if_le (tgt := 171) hx hb d_Cd_find_144 (by decide)) (fun c_45 => ?_) (fun c_45 => ?_)
            · skip
              have nc_45 : zo_43 ≤ 0 := (n0_le (a := zo_43) (by omega)).1 c_45
              refine gs (pc' := 172) (fun _ _ _ _ _ hl => lv_aload_n hx hb d_Cd_find_171 rfl (lv_at hl 1 rfl)) ?_
              refine g_get hx hb hts hin_Cd hown hK j2 rfl 1 (by decide) (hts _ wm107) (fun _ h9 => h9) rfl d_Cd_find_172 ?_
              exact hret 175 _ _ _ _ d_Cd_find_175 (show Bk.1 ≤ MC by omega) (show Bk.2 ≤ MS by omega) ⟨rfl, Vk, hS, hM.trans (by rw [hN0, Nat.gcd_zero_right] at hg; exact hg), _, _, _, _, j2⟩
            · skip
              have nc_45 : zo_43 > 0 := (n0_le (a := zo_43) (by omega)).2 c_45
              exact absurd ((isD_z0 hDo_43).mpr hN0) (by omega)
          · skip
            have nc_44 : zo_43 > 0 := (n0_le (a := zo_43) (by omega)).2 c_44
            have hNp : 0 < N := by have := isD_z0 hDo_43; omega
            refine gs (pc' := 78) (fun _ _ _ _ _ hl => lv_aload_n hx hb d_Cd_find_77 rfl (lv_at hl 1 rfl)) ?_
            refine g_outi hlo (g_runV (As := []) (rest := []) ⟨hx, hb, hml, hown, hts⟩ hK hZ hRc hRs (n_findFactors l D cA lo MC MS Gk Bk X ad Vk hWk hX1 hX2 hd hc ga gb gc gd j2 M N hM hN hNM hM3) (fun _ _ => cwV 0 hts (tb_good (tb_cons wm413 (tb_cons wm415 (tb_cons ws3 (tb_cons wm7 k_Cd_findFactors))))) rfl rfl rfl (by decide +kernel) ⟨by rw [hRf]; exact Nat.le_of_ble_eq_true rfl, by rw [hRl]; exact Nat.le_of_ble_eq_true rfl⟩) j2 rfl (show Bk.1 ≤ MC by omega) (show Bk.2 ≤ MS by omega) rfl (Nat.le_of_ble_eq_true rfl) d_Cd_find_78) (fun r_49 G_46 B_47 p_48 => ?_)
            obtain ⟨hb6, S, x0, y0, a, b, cc, d, x, y, hI, hcd, hfr6, hor⟩ := p_48
            have hb6 : Bk = B_47 := (show B_47 = Bk from hb6).symm
            subst hb6
            have s_50 : w2s cA X ad (fun t => t = 19) Gk Vk Vk (G_46, Bk) := ⟨w2_fr hWk hfr6 (fun _ _ => by omega), fun _ _ => rfl, hfr6⟩
            have f_51 : G_46 hd = some (30, .inr (2, [.ref (ad 0), .ref (ad 1), .ref (ad 2)])) := s_50.2.2 _ _ j1 (by first | decide | omega)
            have k_52 : Vk 3 = M := (s_50.2.1 3 (by first | decide | omega)).trans hM
            have k_53 : Vk 4 = N := (s_50.2.1 4 (by first | decide | omega)).trans hN
            have W_54 := s_50.1
            have S_55 : w2s cA X ad (fun x => x < 5 ∨ x = 19) G V Vk (G_46, Bk) := w2s_mono (w2s_tr hS s_50) (fun _ h => by omega)
            have bl_56 := w2_le W_54
            rcases hor with ⟨hr7, hb0⟩ | ⟨hr7, hb0⟩
            · skip
              subst hr7
              refine gsb (pc1 := 91) (pc2 := 84) (fun _ _ _ _ _ => lv_if_eq (tgt := 91) hx hb d_Cd_find_81 (by decide)) (fun c_57 => ?_) (fun c_57 => ?_)
              · skip
                have nc_57 : 0 = 0 := (n0_eq (a := 0) (by omega)).1 c_57
                refine gs (pc' := 92) (fun _ _ _ _ _ hl => lv_aload_n hx hb d_Cd_find_91 rfl (lv_at hl 1 rfl)) ?_
                refine g_get hx hb hts hin_Cd hown hK hcd rfl 0 (by decide) (hts _ wm106) (fun _ h9 => h9) rfl d_Cd_find_92 ?_
                refine gs (pc' := 96) (fun _ _ _ _ _ hl => lv_aload_n hx hb d_Cd_find_95 rfl (lv_at hl 1 rfl)) ?_
                refine g_get hx hb hts hin_Cd hown hK hcd rfl 1 (by decide) (hts _ wm107) (fun _ h9 => h9) rfl d_Cd_find_96 ?_
                refine gs (pc' := 100) (fun _ _ _ _ _ hl => lv_aload_n hx hb d_Cd_find_99 rfl (lv_at hl 1 rfl)) ?_
                refine g_get hx hb hts hin_Cd hown hK hcd rfl 2 (by decide) (hts _ wm108) (fun _ h9 => h9) rfl d_Cd_find_100 ?_
                refine g_outv hlo (g_runV (As := [.ref (ad 3), .ref (ad 4)]) (rest := []) ⟨hx, hb, hml, hown, hts⟩ hK hZ hRc hRs (n_divide l D cA lo MC MS G_46 Bk X ad Vk W_54 hX1 hX2 hd f_51 (ad 3) M (ad 4) N k1 (rd_w2' (P := fun x => 3 ≤ x) W_54 (by first | decide | omega) (by first | trivial | omega) k_52) (rd_w2' (P := fun x => 3 ≤ x) W_54 (by first | decide | omega) (by first | trivial | omega) k_53) hMk (by omega) hNp) (fun _ _ => cwV 2 hts (tb_good (tb_cons wm446 (tb_cons wm447 (tb_cons wm448 (tb_cons wm4 k_Di_divide))))) rfl rfl rfl (by decide +kernel) ⟨by rw [hRf]; exact Nat.le_of_ble_eq_true rfl, by rw [hRl]; exact Nat.le_of_ble_eq_true rfl⟩) f_51 rfl (show Bk.1 ≤ MC by omega) (show Bk.2 ≤ MS by omega) rfl (Nat.le_of_ble_eq_true rfl) d_Cd_find_103) (fun G_58 B_59 p_60 => ?_)
                obtain ⟨V_61, s_62, k_63, k_64⟩ := p_60
                have lt_65 : M / N < 1000000000 ^ k1 := Nat.lt_of_le_of_lt (Nat.div_le_self _ _) hMk
                have lt_66 : M % N < 1000000000 ^ k1 := Nat.lt_of_le_of_lt (Nat.mod_le _ _) hMk
                have f_67 : G_58 hd = some (30, .inr (2, [.ref (ad 0), .ref (ad 1), .ref (ad 2)])) := s_62.2.2 _ _ f_51 (by first | decide | omega)
                have f_68 : G_58 hc = some (19, .inr (1, [.ref hd, .ref (ad 3), .ref (ad 4), .long (lI a), .long (lI b), .long (lI cc), .long (lI d)])) := s_62.2.2 _ _ hcd (by first | decide | omega)
                have k_69 : V_61 3 = M := (s_62.2.1 3 (by first | decide | omega)).trans k_52
                have k_70 : V_61 4 = N := (s_62.2.1 4 (by first | decide | omega)).trans k_53
                have W_71 := s_62.1
                have S_72 : w2s cA X ad (fun x => x < 5 ∨ x = 19) G V V_61 (G_58, B_59) := w2s_mono (w2s_tr S_55 s_62) (fun _ h => by omega)
                have bl_73 := w2_le W_71
                refine gs (pc' := 107) (fun _ _ _ _ _ hl => lv_aload_n hx hb d_Cd_find_106 rfl (lv_at hl 1 rfl)) ?_
                refine g_get hx hb hts hin_Cd hown hK f_68 rfl 1 (by decide) (hts _ wm107) (fun _ h9 => h9) rfl d_Cd_find_107 ?_
                refine gs (pc' := 111) (fun _ _ _ _ _ hl => lv_aload_n hx hb d_Cd_find_110 rfl (lv_at hl 1 rfl)) ?_
                refine g_get hx hb hts hin_Cd hown hK f_68 rfl 2 (by decide) (hts _ wm108) (fun _ h9 => h9) rfl d_Cd_find_111 ?_
                obtain ⟨κo_74, ao_74, zo_74, fo_74, hho_74, hao_74, hzo_74, hDo_74, hco_74⟩ := w2_N W_71 (show 3 < 19 by first | decide | omega)
                rw [k_69] at hDo_74
                have hbo_74 : zo_74 ≤ 3000 := by omega
                refine g_outv hlo (g_runV (As := [.ref (ad 4)]) (rest := []) ⟨hx, hb, hml, hown, hts⟩ hK hZ hRc hRs (n_setTo l D cA lo MC MS G_58 B_59 X ad V_61 W_71 hX1 hX2 3 (by first | decide | omega) (ad 4) N k1 (rd_w2' (P := fun x => ¬ x = 3) W_71 (by first | decide | omega) (by first | trivial | omega) k_70) hNk (by omega)) (fun _ _ => cwV 1 hts (tb_good (tb_cons wm407 (tb_cons wm408 (tb_cons wm409 (tb_cons wm5 k_Na_setTo))))) rfl rfl rfl (by decide +kernel) ⟨by rw [hRf]; exact Nat.le_of_ble_eq_true rfl, by rw [hRl]; exact Nat.le_of_ble_eq_true rfl⟩) hho_74 rfl (show B_59.1 ≤ MC by omega) (show B_59.2 ≤ MS by omega) rfl (Nat.le_of_ble_eq_true rfl) d_Cd_find_114) (fun G_75 B_76 p_77 => ?_)
                obtain ⟨V_78, s_79, k_80⟩ := p_77
                have f_81 : G_75 hd = some (30, .inr (2, [.ref (ad 0), .ref (ad 1), .ref (ad 2)])) := s_79.2.2 _ _ f_67 (by first | decide | omega)
                have f_82 : G_75 hc = some (19, .inr (1, [.ref hd, .ref (ad 3), .ref (ad 4), .long (lI a), .long (lI b), .long (lI cc), .long (lI d)])) := s_79.2.2 _ _ f_68 (by first | decide | omega)
                have k_83 : V_78 4 = N := (s_79.2.1 4 (by first | decide | omega)).trans k_70
                have k_84 : V_78 0 = M / N := (s_79.2.1 0 (by first | decide | omega)).trans k_63
                have k_85 : V_78 1 = M % N := (s_79.2.1 1 (by first | decide | omega)).trans k_64
                have W_86 := s_79.1
                have S_87 : w2s cA X ad (fun x => x < 5 ∨ x = 19) G V V_78 (G_75, B_76) := w2s_mono (w2s_tr S_72 s_79) (fun _ h => by omega)
                have bl_88 := w2_le W_86
                refine gs (pc' := 118) (fun _ _ _ _ _ hl => lv_aload_n hx hb d_Cd_find_117 rfl (lv_at hl 1 rfl)) ?_
                refine g_get hx hb hts hin_Cd hown hK f_82 rfl 2 (by decide) (hts _ wm108) (fun _ h9 => h9) rfl d_Cd_find_118 ?_
                refine gs (pc' := 122) (fun _ _ _ _ _ hl => lv_aload_n hx hb d_Cd_find_121 rfl (lv_at hl 1 rfl)) ?_
                refine g_get hx hb hts hin_Cd hown hK f_82 rfl 0 (by decide) (hts _ wm106) (fun _ h9 => h9) rfl d_Cd_find_122 ?_
                refine g_get hx hb hts hin_Di hown hK f_81 rfl 1 (by decide) (hts _ wm88) (fun _ h9 => h9) rfl d_Cd_find_125 ?_
                obtain ⟨κo_89, ao_89, zo_89, fo_89, hho_89, hao_89, hzo_89, hDo_89, hco_89⟩ := w2_N W_86 (show 4 < 19 by first | decide | omega)
                rw [k_83] at hDo_89
                have hbo_89 : zo_89 ≤ 3000 := by omega
                refine g_outv hlo (g_runV (As := [.ref (ad 1)]) (rest := []) ⟨hx, hb, hml, hown, hts⟩ hK hZ hRc hRs (n_setTo l D cA lo MC MS G_75 B_76 X ad V_78 W_86 hX1 hX2 4 (by first | decide | omega) (ad 1) (M % N) k1 (rd_w2' (P := fun x => ¬ x = 4) W_86 (by first | decide | omega) (by first | trivial | omega) k_85) lt_66 (by omega)) (fun _ _ => cwV 1 hts (tb_good (tb_cons wm407 (tb_cons wm408 (tb_cons wm409 (tb_cons wm5 k_Na_setTo))))) rfl rfl rfl (by decide +kernel) ⟨by rw [hRf]; exact Nat.le_of_ble_eq_true rfl, by rw [hRl]; exact Nat.le_of_ble_eq_true rfl⟩) hho_89 rfl (show B_76.1 ≤ MC by omega) (show B_76.2 ≤ MS by omega) rfl (Nat.le_of_ble_eq_true rfl) d_Cd_find_128) (fun G_90 B_91 p_92 => ?_)
                obtain ⟨V_93, s_94, k_95⟩ := p_92
                have f_96 : G_90 hd = some (30, .inr (2, [.ref (ad 0), .ref (ad 1), .ref (ad 2)])) := s_94.2.2 _ _ f_81 (by first | decide | omega)
                have f_97 : G_90 hc = some (19, .inr (1, [.ref hd, .ref (ad 3), .ref (ad 4), .long (lI a), .long (lI b), .long (lI cc), .long (lI d)])) := s_94.2.2 _ _ f_82 (by first | decide | omega)
                have k_98 : V_93 0 = M / N := (s_94.2.1 0 (by first | decide | omega)).trans k_84
                have k_99 : V_93 1 = M % N := (s_94.2.1 1 (by first | decide | omega)).trans k_85
                have k_100 : V_93 3 = N := (s_94.2.1 3 (by first | decide | omega)).trans k_80
                have W_101 := s_94.1
                have S_102 : w2s cA X ad (fun x => x < 5 ∨ x = 19) G V V_93 (G_90, B_91) := w2s_mono (w2s_tr S_87 s_94) (fun _ h => by omega)
                have bl_103 := w2_le W_101
                refine gst (pc' := 134) (L' := [(4, .int (nI (i + 1))), (0, .ref hc)]) (fun _ _ _ _ _ hl => lv_iinc (v := nI (i + 1)) hx hb d_Cd_find_131 hl (k := 0) rfl (nI_add _ 1) (by decide) rfl) ?_
                refine gs (pc' := 49) (fun _ _ _ _ _ hl => lv_goto (tgt := 49) hx hb d_Cd_find_134 (by decide)) ?_
                refine gsub [0, 1] rfl ?_
                exact ih (i + 1) N (M % N) _ _ _ _ G_90 B_91 V_93 (by omega) S_102 k_100 k_95 (Nat.le_of_lt (Nat.mod_lt _ hNp)) ((gcd_step M N).trans hg) hNk (half_lt hMN (euc_half hNp hNM)) f_96 f_97
              · skip
                have nc_57 : 0 ≠ 0 := (n0_eq (a := 0) (by omega)).2 c_57
                exact absurd nc_57 (by omega)
            · skip
              subst hr7
              refine gsb (pc1 := 91) (pc2 := 84) (fun _ _ _ _ _ => lv_if_eq (tgt := 91) hx hb d_Cd_find_81 (by decide)) (fun c_104 => ?_) (fun c_104 => ?_)
              · skip
                have nc_104 : 1 = 0 := (n0_eq (a := 1) (by omega)).1 c_104
                exact absurd nc_104 (by omega)
              · skip
                have nc_104 : 1 ≠ 0 := (n0_eq (a := 1) (by omega)).2 c_104
                refine gs (pc' := 85) (fun _ _ _ _ _ hl => lv_aload_n hx hb d_Cd_find_84 rfl (lv_at hl 1 rfl)) ?_
                obtain ⟨M2, N2, hM2, hN2, hNM2, hMA2, hg2, -, -, -, ba, bb, bcc, bd, -, hms⟩ := hI
                refine g_outv hlo (g_runV (As := []) (rest := []) ⟨hx, hb, hml, hown, hts⟩ hK hZ hRc hRs (n_useFactors l D cA lo MC MS G_46 Bk X ad Vk W_54 hX1 hX2 hd hc a b cc d hcd M N M2 N2 k1 k_52 k_53 hNM hMk (by omega) hM2 hN2 hNM2 hMA2 ba bb bcc bd) (fun _ _ => cwV 0 hts (tb_good (tb_cons wm433 (tb_cons wm435 (tb_cons ws4 (tb_cons wm7 k_Cd_useFactors))))) rfl rfl rfl (by decide +kernel) ⟨by rw [hRf]; exact Nat.le_of_ble_eq_true rfl, by rw [hRl]; exact Nat.le_of_ble_eq_true rfl⟩) hcd rfl (show Bk.1 ≤ MC by omega) (show Bk.2 ≤ MS by omega) rfl (Nat.le_of_ble_eq_true rfl) d_Cd_find_85) (fun G_105 B_106 p_107 => ?_)
                obtain ⟨V_108, s_109, k_110, k_111⟩ := p_107
                have lt_112 : M2 < 1000000000 ^ k1 := Nat.lt_of_le_of_lt hMA2 hMk
                have f_113 : G_105 hd = some (30, .inr (2, [.ref (ad 0), .ref (ad 1), .ref (ad 2)])) := s_109.2.2 _ _ f_51 (by first | decide | omega)
                have f_114 : G_105 hc = some (19, .inr (1, [.ref hd, .ref (ad 3), .ref (ad 4), .long (lI a), .long (lI b), .long (lI cc), .long (lI d)])) := s_109.2.2 _ _ hcd (by first | decide | omega)
                have W_115 := s_109.1
                have S_116 : w2s cA X ad (fun x => x < 5 ∨ x = 19) G V V_108 (G_105, B_106) := w2s_mono (w2s_tr S_55 s_109) (fun _ h => by omega)
                have bl_117 := w2_le W_115
                refine gs (pc' := 131) (fun _ _ _ _ _ hl => lv_goto (tgt := 131) hx hb d_Cd_find_88 (by decide)) ?_
                refine gst (pc' := 134) (L' := [(4, .int (nI (i + 1))), (0, .ref hc)]) (fun _ _ _ _ _ hl => lv_iinc (v := nI (i + 1)) hx hb d_Cd_find_131 hl (k := 0) rfl (nI_add _ 1) (by decide) rfl) ?_
                refine gs (pc' := 49) (fun _ _ _ _ _ hl => lv_goto (tgt := 49) hx hb d_Cd_find_134 (by decide)) ?_
                refine gsub [0, 1] rfl ?_
                exact ih (i + 1) M2 N2 _ _ _ _ G_105 B_106 V_108 (by omega) S_116 k_110 k_111 hNM2 (hg2.trans hg) (Nat.lt_of_le_of_lt hMA2 hMk) (half_lt hMN (hms.resolve_left hb0)) f_113 f_114
  have hS0 : w2s cA X ad (fun x => x < 5 ∨ x = 19) G V V (G, B) := w2s_rf hW
  have bl_118 := w2_le hW
  refine gs (pc' := 1) (fun _ _ _ _ _ hl => lv_aload_n hx hb d_Cd_find_0 rfl (lv_at hl 1 rfl)) ?_
  refine gs (pc' := 2) (fun _ _ _ _ _ hl => lv_aload_n hx hb d_Cd_find_1 rfl (lv_at hl 2 rfl)) ?_
  obtain ⟨to_119, κo_119, hPo_119, hco_119, ao_119, zo_119, fo_119, hho_119, hao_119, hzo_119, hDo_119⟩ := id hr1
  have hbo_119 : zo_119 ≤ 3000 := by omega
  refine g_outi hlo (g_runV (As := [.ref h2]) (rest := []) ⟨hx, hb, hml, hown, hts⟩ hK hZ hRc hRs (n_compare l D cA lo MC MS G B (fun _ => True) (fun _ => True) h1 v1 h2 v2 (rd_mono (P1 := fun _ => True) hr1 (fun _ h => by first | trivial | omega)) (rd_mono (P1 := fun _ => True) hr2 (fun _ h => by first | trivial | omega)) (show B.1 ≤ MC by omega) (show B.2 ≤ MS by omega)) (fun _ _ => cwV 1 hts (tb_good (tb_cons wm403 (tb_cons wm404 (tb_cons wm405 (tb_cons wm5 k_Na_compare))))) rfl rfl rfl (by decide +kernel) ⟨by rw [hRf]; exact Nat.le_of_ble_eq_true rfl, by rw [hRl]; exact Nat.le_of_ble_eq_true rfl⟩) hho_119 rfl (show B.1 ≤ MC by omega) (show B.2 ≤ MS by omega) rfl (Nat.le_of_ble_eq_true rfl) d_Cd_find_2) (fun r_123 G_120 B_121 p_122 => ?_)
  obtain ⟨u_124, cm_125⟩ := p_122
  cases u_124
  rcases cm_125 with ⟨q_126, hl_127⟩ | ⟨q_126, hl_127⟩ | ⟨q_126, hl_127⟩
  · skip
    subst q_126
    refine gsb (pc1 := 12) (pc2 := 8) (fun _ _ _ _ _ => lv_if_lt (tgt := 12) hx hb d_Cd_find_5 (by decide)) (fun c_128 => ?_) (fun c_128 => ?_)
    · skip
      refine gs (pc' := 13) (fun _ _ _ _ _ hl => lv_iconst (v := nI 0) hx hb d_Cd_find_12 (by decide)) ?_
      refine gst (pc' := 14) (L' := [(3, .int (nI 0)), (0, .ref hc), (1, .ref h1), (2, .ref h2)]) (fun _ _ _ _ _ hl => lv_istore_n hx hb d_Cd_find_13 rfl hl (by decide) rfl) ?_
      refine gs (pc' := 15) (fun _ _ _ _ _ hl => lv_aload_n hx hb d_Cd_find_14 rfl (lv_at hl 1 rfl)) ?_
      refine g_get hx hb hts hin_Cd hown hK hhc rfl 1 (by decide) (hts _ wm107) (fun _ h9 => h9) rfl d_Cd_find_15 ?_
      refine gs (pc' := 19) (fun _ _ _ _ _ hl => lv_iload_n hx hb d_Cd_find_18 rfl (lv_at hl 0 rfl)) ?_
      refine gsb (pc1 := 26) (pc2 := 22) (fun _ _ _ _ _ => lv_if_eq (tgt := 26) hx hb d_Cd_find_19 (by decide)) (fun c_129 => ?_) (fun c_129 => ?_)
      · skip
        have nc_129 : 0 = 0 := (n0_eq (a := 0) (by omega)).1 c_129
        refine gs (pc' := 27) (fun _ _ _ _ _ hl => lv_aload_n hx hb d_Cd_find_26 rfl (lv_at hl 3 rfl)) ?_
        obtain ⟨κo_130, ao_130, zo_130, fo_130, hho_130, hao_130, hzo_130, hDo_130, hco_130⟩ := w2_N hW (show 3 < 19 by first | decide | omega)
        have hbo_130 : zo_130 ≤ 3000 := by omega
        refine g_outv hlo (g_runV (As := [.ref h2]) (rest := []) ⟨hx, hb, hml, hown, hts⟩ hK hZ hRc hRs (n_setTo l D cA lo MC MS G B X ad V hW hX1 hX2 3 (by first | decide | omega) h2 v2 k1 (rd_mono (P1 := fun x => ¬ x = 3) hr2 (fun _ h => by first | trivial | omega)) hk2 (by omega)) (fun _ _ => cwV 1 hts (tb_good (tb_cons wm407 (tb_cons wm408 (tb_cons wm409 (tb_cons wm5 k_Na_setTo))))) rfl rfl rfl (by decide +kernel) ⟨by rw [hRf]; exact Nat.le_of_ble_eq_true rfl, by rw [hRl]; exact Nat.le_of_ble_eq_true rfl⟩) hho_130 rfl (show B.1 ≤ MC by omega) (show B.2 ≤ MS by omega) rfl (Nat.le_of_ble_eq_true rfl) d_Cd_find_27) (fun G_131 B_132 p_133 => ?_)
        obtain ⟨V_134, s_135, k_136⟩ := p_133
        have f_137 : G_131 hd = some (30, .inr (2, [.ref (ad 0), .ref (ad 1), .ref (ad 2)])) := s_135.2.2 _ _ hhd (by first | decide | omega)
        have f_138 : G_131 hc = some (19, .inr (1, [.ref hd, .ref (ad 3), .ref (ad 4), .long fa, .long fb, .long fc, .long fd])) := s_135.2.2 _ _ hhc (by first | decide | omega)
        have rd_139 := rd_fr hr1 s_135.2.2 (fun _ h => by omega)
        have rd_140 := rd_fr hr2 s_135.2.2 (fun _ h => by omega)
        have W_141 := s_135.1
        have S_142 : w2s cA X ad (fun x => x < 5 ∨ x = 19) G V V_134 (G_131, B_132) := w2s_mono (w2s_tr hS0 s_135) (fun _ h => by omega)
        have bl_143 := w2_le W_141
        refine gs (pc' := 31) (fun _ _ _ _ _ hl => lv_aload_n hx hb d_Cd_find_30 rfl (lv_at hl 1 rfl)) ?_
        refine g_get hx hb hts hin_Cd hown hK f_138 rfl 2 (by decide) (hts _ wm108) (fun _ h9 => h9) rfl d_Cd_find_31 ?_
        refine gs (pc' := 35) (fun _ _ _ _ _ hl => lv_iload_n hx hb d_Cd_find_34 rfl (lv_at hl 0 rfl)) ?_
        refine gsb (pc1 := 42) (pc2 := 38) (fun _ _ _ _ _ => lv_if_eq (tgt := 42) hx hb d_Cd_find_35 (by decide)) (fun c_144 => ?_) (fun c_144 => ?_)
        · skip
          have nc_144 : 0 = 0 := (n0_eq (a := 0) (by omega)).1 c_144
          refine gs (pc' := 43) (fun _ _ _ _ _ hl => lv_aload_n hx hb d_Cd_find_42 rfl (lv_at hl 2 rfl)) ?_
          obtain ⟨κo_145, ao_145, zo_145, fo_145, hho_145, hao_145, hzo_145, hDo_145, hco_145⟩ := w2_N W_141 (show 4 < 19 by first | decide | omega)
          have hbo_145 : zo_145 ≤ 3000 := by omega
          refine g_outv hlo (g_runV (As := [.ref h1]) (rest := []) ⟨hx, hb, hml, hown, hts⟩ hK hZ hRc hRs (n_setTo l D cA lo MC MS G_131 B_132 X ad V_134 W_141 hX1 hX2 4 (by first | decide | omega) h1 v1 k1 (rd_mono (P1 := fun x => ¬ x = 4) rd_139 (fun _ h => by first | trivial | omega)) hk1 (by omega)) (fun _ _ => cwV 1 hts (tb_good (tb_cons wm407 (tb_cons wm408 (tb_cons wm409 (tb_cons wm5 k_Na_setTo))))) rfl rfl rfl (by decide +kernel) ⟨by rw [hRf]; exact Nat.le_of_ble_eq_true rfl, by rw [hRl]; exact Nat.le_of_ble_eq_true rfl⟩) hho_145 rfl (show B_132.1 ≤ MC by omega) (show B_132.2 ≤ MS by omega) rfl (Nat.le_of_ble_eq_true rfl) d_Cd_find_43) (fun G_146 B_147 p_148 => ?_)
          obtain ⟨V_149, s_150, k_151⟩ := p_148
          have f_152 : G_146 hd = some (30, .inr (2, [.ref (ad 0), .ref (ad 1), .ref (ad 2)])) := s_150.2.2 _ _ f_137 (by first | decide | omega)
          have f_153 : G_146 hc = some (19, .inr (1, [.ref hd, .ref (ad 3), .ref (ad 4), .long fa, .long fb, .long fc, .long fd])) := s_150.2.2 _ _ f_138 (by first | decide | omega)
          have k_154 : V_149 3 = v2 := (s_150.2.1 3 (by first | decide | omega)).trans k_136
          have rd_155 := rd_fr rd_139 s_150.2.2 (fun _ h => by omega)
          have rd_156 := rd_fr rd_140 s_150.2.2 (fun _ h => by omega)
          have W_157 := s_150.1
          have S_158 : w2s cA X ad (fun x => x < 5 ∨ x = 19) G V V_149 (G_146, B_147) := w2s_mono (w2s_tr S_142 s_150) (fun _ h => by omega)
          have bl_159 := w2_le W_157
          refine gs (pc' := 47) (fun _ _ _ _ _ hl => lv_iconst (v := nI 0) hx hb d_Cd_find_46 (by decide)) ?_
          refine gst (pc' := 49) (L' := [(4, .int (nI 0)), (3, .int (nI 0)), (0, .ref hc), (1, .ref h1), (2, .ref h2)]) (fun _ _ _ _ _ hl => lv_istore hx hb d_Cd_find_47 hl (by decide) rfl) ?_
          refine gsub [0, 2] rfl ?_
          exact loop 1000000 0 v2 v1 _ _ _ _ G_146 B_147 V_149 (by omega) S_158 k_154 k_151 (by omega) (Nat.gcd_comm _ _) hk2 (lb_two hk2 hk1 (by omega)) f_152 f_153
        · skip
          have nc_144 : 0 ≠ 0 := (n0_eq (a := 0) (by omega)).2 c_144
          exact absurd nc_144 (by omega)
      · skip
        have nc_129 : 0 ≠ 0 := (n0_eq (a := 0) (by omega)).2 c_129
        exact absurd nc_129 (by omega)
    · skip
      exact absurd (show (-1 : Int32) < 0 by decide) c_128
  · skip
    subst q_126
    refine gsb (pc1 := 12) (pc2 := 8) (fun _ _ _ _ _ => lv_if_lt (tgt := 12) hx hb d_Cd_find_5 (by decide)) (fun c_160 => ?_) (fun c_160 => ?_)
    · skip
      have nc_160 : 0 < 0 := (n0_lt (a := 0) (by omega)).1 c_160
      exact absurd nc_160 (by omega)
    · skip
      have nc_160 : 0 ≥ 0 := (n0_lt (a := 0) (by omega)).2 c_160
      refine gs (pc' := 9) (fun _ _ _ _ _ hl => lv_iconst (v := nI 1) hx hb d_Cd_find_8 (by decide)) ?_
      refine gs (pc' := 13) (fun _ _ _ _ _ hl => lv_goto (tgt := 13) hx hb d_Cd_find_9 (by decide)) ?_
      refine gst (pc' := 14) (L' := [(3, .int (nI 1)), (0, .ref hc), (1, .ref h1), (2, .ref h2)]) (fun _ _ _ _ _ hl => lv_istore_n hx hb d_Cd_find_13 rfl hl (by decide) rfl) ?_
      refine gs (pc' := 15) (fun _ _ _ _ _ hl => lv_aload_n hx hb d_Cd_find_14 rfl (lv_at hl 1 rfl)) ?_
      refine g_get hx hb hts hin_Cd hown hK hhc rfl 1 (by decide) (hts _ wm107) (fun _ h9 => h9) rfl d_Cd_find_15 ?_
      refine gs (pc' := 19) (fun _ _ _ _ _ hl => lv_iload_n hx hb d_Cd_find_18 rfl (lv_at hl 0 rfl)) ?_
      refine gsb (pc1 := 26) (pc2 := 22) (fun _ _ _ _ _ => lv_if_eq (tgt := 26) hx hb d_Cd_find_19 (by decide)) (fun c_161 => ?_) (fun c_161 => ?_)
      · skip
        have nc_161 : 1 = 0 := (n0_eq (a := 1) (by omega)).1 c_161
        exact absurd nc_161 (by omega)
      · skip
        have nc_161 : 1 ≠ 0 := (n0_eq (a := 1) (by omega)).2 c_161
        refine gs (pc' := 23) (fun _ _ _ _ _ hl => lv_aload_n hx hb d_Cd_find_22 rfl (lv_at hl 2 rfl)) ?_
        refine gs (pc' := 27) (fun _ _ _ _ _ hl => lv_goto (tgt := 27) hx hb d_Cd_find_23 (by decide)) ?_
        obtain ⟨κo_162, ao_162, zo_162, fo_162, hho_162, hao_162, hzo_162, hDo_162, hco_162⟩ := w2_N hW (show 3 < 19 by first | decide | omega)
        have hbo_162 : zo_162 ≤ 3000 := by omega
        refine g_outv hlo (g_runV (As := [.ref h1]) (rest := []) ⟨hx, hb, hml, hown, hts⟩ hK hZ hRc hRs (n_setTo l D cA lo MC MS G B X ad V hW hX1 hX2 3 (by first | decide | omega) h1 v1 k1 (rd_mono (P1 := fun x => ¬ x = 3) hr1 (fun _ h => by first | trivial | omega)) hk1 (by omega)) (fun _ _ => cwV 1 hts (tb_good (tb_cons wm407 (tb_cons wm408 (tb_cons wm409 (tb_cons wm5 k_Na_setTo))))) rfl rfl rfl (by decide +kernel) ⟨by rw [hRf]; exact Nat.le_of_ble_eq_true rfl, by rw [hRl]; exact Nat.le_of_ble_eq_true rfl⟩) hho_162 rfl (show B.1 ≤ MC by omega) (show B.2 ≤ MS by omega) rfl (Nat.le_of_ble_eq_true rfl) d_Cd_find_27) (fun G_163 B_164 p_165 => ?_)
        obtain ⟨V_166, s_167, k_168⟩ := p_165
        have f_169 : G_163 hd = some (30, .inr (2, [.ref (ad 0), .ref (ad 1), .ref (ad 2)])) := s_167.2.2 _ _ hhd (by first | decide | omega)
        have f_170 : G_163 hc = some (19, .inr (1, [.ref hd, .ref (ad 3), .ref (ad 4), .long fa, .long fb, .long fc, .long fd])) := s_167.2.2 _ _ hhc (by first | decide | omega)
        have rd_171 := rd_fr hr1 s_167.2.2 (fun _ h => by omega)
        have rd_172 := rd_fr hr2 s_167.2.2 (fun _ h => by omega)
        have W_173 := s_167.1
        have S_174 : w2s cA X ad (fun x => x < 5 ∨ x = 19) G V V_166 (G_163, B_164) := w2s_mono (w2s_tr hS0 s_167) (fun _ h => by omega)
        have bl_175 := w2_le W_173
        refine gs (pc' := 31) (fun _ _ _ _ _ hl => lv_aload_n hx hb d_Cd_find_30 rfl (lv_at hl 1 rfl)) ?_
        refine g_get hx hb hts hin_Cd hown hK f_170 rfl 2 (by decide) (hts _ wm108) (fun _ h9 => h9) rfl d_Cd_find_31 ?_
        refine gs (pc' := 35) (fun _ _ _ _ _ hl => lv_iload_n hx hb d_Cd_find_34 rfl (lv_at hl 0 rfl)) ?_
        refine gsb (pc1 := 42) (pc2 := 38) (fun _ _ _ _ _ => lv_if_eq (tgt := 42) hx hb d_Cd_find_35 (by decide)) (fun c_176 => ?_) (fun c_176 => ?_)
        · skip
          have nc_176 : 1 = 0 := (n0_eq (a := 1) (by omega)).1 c_176
          exact absurd nc_176 (by omega)
        · skip
          have nc_176 : 1 ≠ 0 := (n0_eq (a := 1) (by omega)).2 c_176
          refine gs (pc' := 39) (fun _ _ _ _ _ hl => lv_aload_n hx hb d_Cd_find_38 rfl (lv_at hl 3 rfl)) ?_
          refine gs (pc' := 43) (fun _ _ _ _ _ hl => lv_goto (tgt := 43) hx hb d_Cd_find_39 (by decide)) ?_
          obtain ⟨κo_177, ao_177, zo_177, fo_177, hho_177, hao_177, hzo_177, hDo_177, hco_177⟩ := w2_N W_173 (show 4 < 19 by first | decide | omega)
          have hbo_177 : zo_177 ≤ 3000 := by omega
          refine g_outv hlo (g_runV (As := [.ref h2]) (rest := []) ⟨hx, hb, hml, hown, hts⟩ hK hZ hRc hRs (n_setTo l D cA lo MC MS G_163 B_164 X ad V_166 W_173 hX1 hX2 4 (by first | decide | omega) h2 v2 k1 (rd_mono (P1 := fun x => ¬ x = 4) rd_172 (fun _ h => by first | trivial | omega)) hk2 (by omega)) (fun _ _ => cwV 1 hts (tb_good (tb_cons wm407 (tb_cons wm408 (tb_cons wm409 (tb_cons wm5 k_Na_setTo))))) rfl rfl rfl (by decide +kernel) ⟨by rw [hRf]; exact Nat.le_of_ble_eq_true rfl, by rw [hRl]; exact Nat.le_of_ble_eq_true rfl⟩) hho_177 rfl (show B_164.1 ≤ MC by omega) (show B_164.2 ≤ MS by omega) rfl (Nat.le_of_ble_eq_true rfl) d_Cd_find_43) (fun G_178 B_179 p_180 => ?_)
          obtain ⟨V_181, s_182, k_183⟩ := p_180
          have f_184 : G_178 hd = some (30, .inr (2, [.ref (ad 0), .ref (ad 1), .ref (ad 2)])) := s_182.2.2 _ _ f_169 (by first | decide | omega)
          have f_185 : G_178 hc = some (19, .inr (1, [.ref hd, .ref (ad 3), .ref (ad 4), .long fa, .long fb, .long fc, .long fd])) := s_182.2.2 _ _ f_170 (by first | decide | omega)
          have k_186 : V_181 3 = v1 := (s_182.2.1 3 (by first | decide | omega)).trans k_168
          have rd_187 := rd_fr rd_171 s_182.2.2 (fun _ h => by omega)
          have rd_188 := rd_fr rd_172 s_182.2.2 (fun _ h => by omega)
          have W_189 := s_182.1
          have S_190 : w2s cA X ad (fun x => x < 5 ∨ x = 19) G V V_181 (G_178, B_179) := w2s_mono (w2s_tr S_174 s_182) (fun _ h => by omega)
          have bl_191 := w2_le W_189
          refine gs (pc' := 47) (fun _ _ _ _ _ hl => lv_iconst (v := nI 0) hx hb d_Cd_find_46 (by decide)) ?_
          refine gst (pc' := 49) (L' := [(4, .int (nI 0)), (3, .int (nI 1)), (0, .ref hc), (1, .ref h1), (2, .ref h2)]) (fun _ _ _ _ _ hl => lv_istore hx hb d_Cd_find_47 hl (by decide) rfl) ?_
          refine gsub [0, 2] rfl ?_
          exact loop 1000000 0 v1 v2 _ _ _ _ G_178 B_179 V_181 (by omega) S_190 k_186 k_183 (by omega) rfl hk1 (lb_two hk1 hk2 (by omega)) f_184 f_185
  · skip
    subst q_126
    refine gsb (pc1 := 12) (pc2 := 8) (fun _ _ _ _ _ => lv_if_lt (tgt := 12) hx hb d_Cd_find_5 (by decide)) (fun c_192 => ?_) (fun c_192 => ?_)
    · skip
      have nc_192 : 1 < 0 := (n0_lt (a := 1) (by omega)).1 c_192
      exact absurd nc_192 (by omega)
    · skip
      have nc_192 : 1 ≥ 0 := (n0_lt (a := 1) (by omega)).2 c_192
      refine gs (pc' := 9) (fun _ _ _ _ _ hl => lv_iconst (v := nI 1) hx hb d_Cd_find_8 (by decide)) ?_
      refine gs (pc' := 13) (fun _ _ _ _ _ hl => lv_goto (tgt := 13) hx hb d_Cd_find_9 (by decide)) ?_
      refine gst (pc' := 14) (L' := [(3, .int (nI 1)), (0, .ref hc), (1, .ref h1), (2, .ref h2)]) (fun _ _ _ _ _ hl => lv_istore_n hx hb d_Cd_find_13 rfl hl (by decide) rfl) ?_
      refine gs (pc' := 15) (fun _ _ _ _ _ hl => lv_aload_n hx hb d_Cd_find_14 rfl (lv_at hl 1 rfl)) ?_
      refine g_get hx hb hts hin_Cd hown hK hhc rfl 1 (by decide) (hts _ wm107) (fun _ h9 => h9) rfl d_Cd_find_15 ?_
      refine gs (pc' := 19) (fun _ _ _ _ _ hl => lv_iload_n hx hb d_Cd_find_18 rfl (lv_at hl 0 rfl)) ?_
      refine gsb (pc1 := 26) (pc2 := 22) (fun _ _ _ _ _ => lv_if_eq (tgt := 26) hx hb d_Cd_find_19 (by decide)) (fun c_193 => ?_) (fun c_193 => ?_)
      · skip
        have nc_193 : 1 = 0 := (n0_eq (a := 1) (by omega)).1 c_193
        exact absurd nc_193 (by omega)
      · skip
        have nc_193 : 1 ≠ 0 := (n0_eq (a := 1) (by omega)).2 c_193
        refine gs (pc' := 23) (fun _ _ _ _ _ hl => lv_aload_n hx hb d_Cd_find_22 rfl (lv_at hl 2 rfl)) ?_
        refine gs (pc' := 27) (fun _ _ _ _ _ hl => lv_goto (tgt := 27) hx hb d_Cd_find_23 (by decide)) ?_
        obtain ⟨κo_194, ao_194, zo_194, fo_194, hho_194, hao_194, hzo_194, hDo_194, hco_194⟩ := w2_N hW (show 3 < 19 by first | decide | omega)
        have hbo_194 : zo_194 ≤ 3000 := by omega
        refine g_outv hlo (g_runV (As := [.ref h1]) (rest := []) ⟨hx, hb, hml, hown, hts⟩ hK hZ hRc hRs (n_setTo l D cA lo MC MS G B X ad V hW hX1 hX2 3 (by first | decide | omega) h1 v1 k1 (rd_mono (P1 := fun x => ¬ x = 3) hr1 (fun _ h => by first | trivial | omega)) hk1 (by omega)) (fun _ _ => cwV 1 hts (tb_good (tb_cons wm407 (tb_cons wm408 (tb_cons wm409 (tb_cons wm5 k_Na_setTo))))) rfl rfl rfl (by decide +kernel) ⟨by rw [hRf]; exact Nat.le_of_ble_eq_true rfl, by rw [hRl]; exact Nat.le_of_ble_eq_true rfl⟩) hho_194 rfl (show B.1 ≤ MC by omega) (show B.2 ≤ MS by omega) rfl (Nat.le_of_ble_eq_true rfl) d_Cd_find_27) (fun G_195 B_196 p_197 => ?_)
        obtain ⟨V_198, s_199, k_200⟩ := p_197
        have f_201 : G_195 hd = some (30, .inr (2, [.ref (ad 0), .ref (ad 1), .ref (ad 2)])) := s_199.2.2 _ _ hhd (by first | decide | omega)
        have f_202 : G_195 hc = some (19, .inr (1, [.ref hd, .ref (ad 3), .ref (ad 4), .long fa, .long fb, .long fc, .long fd])) := s_199.2.2 _ _ hhc (by first | decide | omega)
        have rd_203 := rd_fr hr1 s_199.2.2 (fun _ h => by omega)
        have rd_204 := rd_fr hr2 s_199.2.2 (fun _ h => by omega)
        have W_205 := s_199.1
        have S_206 : w2s cA X ad (fun x => x < 5 ∨ x = 19) G V V_198 (G_195, B_196) := w2s_mono (w2s_tr hS0 s_199) (fun _ h => by omega)
        have bl_207 := w2_le W_205
        refine gs (pc' := 31) (fun _ _ _ _ _ hl => lv_aload_n hx hb d_Cd_find_30 rfl (lv_at hl 1 rfl)) ?_
        refine g_get hx hb hts hin_Cd hown hK f_202 rfl 2 (by decide) (hts _ wm108) (fun _ h9 => h9) rfl d_Cd_find_31 ?_
        refine gs (pc' := 35) (fun _ _ _ _ _ hl => lv_iload_n hx hb d_Cd_find_34 rfl (lv_at hl 0 rfl)) ?_
        refine gsb (pc1 := 42) (pc2 := 38) (fun _ _ _ _ _ => lv_if_eq (tgt := 42) hx hb d_Cd_find_35 (by decide)) (fun c_208 => ?_) (fun c_208 => ?_)
        · skip
          have nc_208 : 1 = 0 := (n0_eq (a := 1) (by omega)).1 c_208
          exact absurd nc_208 (by omega)
        · skip
          have nc_208 : 1 ≠ 0 := (n0_eq (a := 1) (by omega)).2 c_208
          refine gs (pc' := 39) (fun _ _ _ _ _ hl => lv_aload_n hx hb d_Cd_find_38 rfl (lv_at hl 3 rfl)) ?_
          refine gs (pc' := 43) (fun _ _ _ _ _ hl => lv_goto (tgt := 43) hx hb d_Cd_find_39 (by decide)) ?_
          obtain ⟨κo_209, ao_209, zo_209, fo_209, hho_209, hao_209, hzo_209, hDo_209, hco_209⟩ := w2_N W_205 (show 4 < 19 by first | decide | omega)
          have hbo_209 : zo_209 ≤ 3000 := by omega
          refine g_outv hlo (g_runV (As := [.ref h2]) (rest := []) ⟨hx, hb, hml, hown, hts⟩ hK hZ hRc hRs (n_setTo l D cA lo MC MS G_195 B_196 X ad V_198 W_205 hX1 hX2 4 (by first | decide | omega) h2 v2 k1 (rd_mono (P1 := fun x => ¬ x = 4) rd_204 (fun _ h => by first | trivial | omega)) hk2 (by omega)) (fun _ _ => cwV 1 hts (tb_good (tb_cons wm407 (tb_cons wm408 (tb_cons wm409 (tb_cons wm5 k_Na_setTo))))) rfl rfl rfl (by decide +kernel) ⟨by rw [hRf]; exact Nat.le_of_ble_eq_true rfl, by rw [hRl]; exact Nat.le_of_ble_eq_true rfl⟩) hho_209 rfl (show B_196.1 ≤ MC by omega) (show B_196.2 ≤ MS by omega) rfl (Nat.le_of_ble_eq_true rfl) d_Cd_find_43) (fun G_210 B_211 p_212 => ?_)
          obtain ⟨V_213, s_214, k_215⟩ := p_212
          have f_216 : G_210 hd = some (30, .inr (2, [.ref (ad 0), .ref (ad 1), .ref (ad 2)])) := s_214.2.2 _ _ f_201 (by first | decide | omega)
          have f_217 : G_210 hc = some (19, .inr (1, [.ref hd, .ref (ad 3), .ref (ad 4), .long fa, .long fb, .long fc, .long fd])) := s_214.2.2 _ _ f_202 (by first | decide | omega)
          have k_218 : V_213 3 = v1 := (s_214.2.1 3 (by first | decide | omega)).trans k_200
          have rd_219 := rd_fr rd_203 s_214.2.2 (fun _ h => by omega)
          have rd_220 := rd_fr rd_204 s_214.2.2 (fun _ h => by omega)
          have W_221 := s_214.1
          have S_222 : w2s cA X ad (fun x => x < 5 ∨ x = 19) G V V_213 (G_210, B_211) := w2s_mono (w2s_tr S_206 s_214) (fun _ h => by omega)
          have bl_223 := w2_le W_221
          refine gs (pc' := 47) (fun _ _ _ _ _ hl => lv_iconst (v := nI 0) hx hb d_Cd_find_46 (by decide)) ?_
          refine gst (pc' := 49) (L' := [(4, .int (nI 0)), (3, .int (nI 1)), (0, .ref hc), (1, .ref h1), (2, .ref h2)]) (fun _ _ _ _ _ hl => lv_istore hx hb d_Cd_find_47 hl (by decide) rfl) ?_
          refine gsub [0, 2] rfl ?_
          exact loop 1000000 0 v1 v2 _ _ _ _ G_210 B_211 V_213 (by omega) S_222 k_218 k_215 (by omega) rfl hk1 (lb_two hk1 hk2 (by omega)) f_216 f_217
