set_option maxHeartbeats 4000000 in
set_option maxRecDepth 100000 in
theorem c_Mo_digits (l : Launch) (D : va_G) (cA : Nat → ClassId) (lo MC MS : Nat) (G : gT) (B : Nat × Nat) (hm : Nat) (A : Nat → Nat) (I : Nat → Int32) (hob : G hm = some (70, .inr (9, mfs A I))) (Rg : Nat → Nat) (hR : MR cA A Rg G) (r : Nat) (hb_r : r < 9) (hB1 : B.1 ≤ MC) (hB2 : B.2 ≤ MS) : gMet l y_Mo_digits w_Mo_digits 0 0 D clS (gtys cA) lo MC MS [.ref hm, .int (nI r)] G B (gQi D clS lo (fun r9 u => u = (G, B) ∧ r9 = nI (ndig (Rg r)))) := by
  refine g_meti (cc := prog_11_method_16_code) (nL := 4) (L := [(0, .ref hm), (1, .int (nI r))]) (by decide +kernel) rfl (Nat.le_of_ble_eq_true rfl) rfl ?_
  intro p e R s m args below meth c Q hF hRc hRs hRf hRl hret
  obtain ⟨hx, hb, hr, hml, hts0, hown, hlocks, hin, hK, hlo, hZ⟩ := hF
  have hts : ∀ w ∈ tbg, w.before args s = true := fun w h => hts0 w (List.mem_cons_of_mem _ h)
  refine gs (pc' := 1) (fun _ _ _ _ _ hl => lv_aload_n hx hb d_Mo_digits_0 rfl (lv_at hl 0 rfl)) ?_
  refine g_get hx hb hts hin_Mo hown hK hob rfl 9 (by decide) (hts _ wm763) (fun _ h9 => h9) rfl d_Mo_digits_1 ?_
  refine gs (pc' := 5) (fun _ _ _ _ _ hl => lv_iload_n hx hb d_Mo_digits_4 rfl (lv_at hl 1 rfl)) ?_
  obtain ⟨lm_1, sz_2, f_3, f_4, rg_5⟩ := id hR
  refine g_iald hx hb hK 0 f_4 rfl (show vp_in (nI r) 9 from vp_in_nI (by omega) (by omega)) d_Mo_digits_5 ?_
  refine g_eqi (show sz_2 (nI r).toNatClampNeg = sz_2 r from by rw [nI_clamp (by omega)]) ?_
  obtain ⟨zz_6, hg_7, hz_8, hD_9⟩ := rg_5 r hb_r
  refine g_eqi (show sz_2 r = nI zz_6 from hg_7) ?_
  refine gsb (pc1 := 11) (pc2 := 9) (fun _ _ _ _ _ => lv_if_ne (tgt := 11) hx hb d_Mo_digits_6 (by decide)) (fun c_10 => ?_) (fun c_10 => ?_)
  · skip
    have nc_10 : zz_6 ≠ 0 := (n0_ne (a := zz_6) (by omega)).1 c_10
    have hz0 : 0 < zz_6 := by omega
    refine gs (pc' := 13) (fun _ _ _ _ _ hl => lv_bipush (v := nI 9) hx hb d_Mo_digits_11 (by decide)) ?_
    refine gs (pc' := 14) (fun _ _ _ _ _ hl => lv_aload_n hx hb d_Mo_digits_13 rfl (lv_at hl 0 rfl)) ?_
    refine g_get hx hb hts hin_Mo hown hK hob rfl 9 (by decide) (hts _ wm763) (fun _ h9 => h9) rfl d_Mo_digits_14 ?_
    refine gs (pc' := 18) (fun _ _ _ _ _ hl => lv_iload_n hx hb d_Mo_digits_17 rfl (lv_at hl 1 rfl)) ?_
    refine g_iald hx hb hK 0 f_4 rfl (show vp_in (nI r) 9 from vp_in_nI (by omega) (by omega)) d_Mo_digits_18 ?_
    refine g_eqi (show sz_2 (nI r).toNatClampNeg = sz_2 r from by rw [nI_clamp (by omega)]) ?_
    refine g_eqi (show sz_2 r = nI zz_6 from hg_7) ?_
    refine gs (pc' := 20) (fun _ _ _ _ _ hl => lv_iconst (v := nI 1) hx hb d_Mo_digits_19 (by decide)) ?_
    refine gs (pc' := 21) (fun _ _ _ _ _ hl => lv_isub hx hb d_Mo_digits_20) ?_
    refine g_eqi (show (nI zz_6) - (nI 1) = nI (zz_6 - 1) from pk_sub (by omega)) ?_
    refine gs (pc' := 22) (fun _ _ _ _ _ hl => lv_imul hx hb d_Mo_digits_21) ?_
    refine g_eqi (show (nI 9) * (nI (zz_6 - 1)) = nI (9 * (zz_6 - 1)) from pk_mul _ _) ?_
    refine gst (pc' := 23) (L' := [(2, .int (nI (9 * (zz_6 - 1)))), (0, .ref hm), (1, .int (nI r))]) (fun _ _ _ _ _ hl => lv_istore_n hx hb d_Mo_digits_22 rfl hl (by decide) rfl) ?_
    refine gs (pc' := 24) (fun _ _ _ _ _ hl => lv_aload_n hx hb d_Mo_digits_23 rfl (lv_at hl 1 rfl)) ?_
    refine g_get hx hb hts hin_Mo hown hK hob rfl 8 (by decide) (hts _ wm762) (fun _ h9 => h9) rfl d_Mo_digits_24 ?_
    refine gs (pc' := 30) (fun _ _ _ _ _ hl => lv_sipush (v := nI 4300) hx hb d_Mo_digits_27 (by decide)) ?_
    refine gs (pc' := 31) (fun _ _ _ _ _ hl => lv_iload_n hx hb d_Mo_digits_30 rfl (lv_at hl 2 rfl)) ?_
    refine gs (pc' := 32) (fun _ _ _ _ _ hl => lv_imul hx hb d_Mo_digits_31) ?_
    refine g_eqi (show (nI 4300) * (nI r) = nI (4300 * r) from pk_mul _ _) ?_
    refine gs (pc' := 33) (fun _ _ _ _ _ hl => lv_aload_n hx hb d_Mo_digits_32 rfl (lv_at hl 1 rfl)) ?_
    refine g_get hx hb hts hin_Mo hown hK hob rfl 9 (by decide) (hts _ wm763) (fun _ h9 => h9) rfl d_Mo_digits_33 ?_
    refine gs (pc' := 37) (fun _ _ _ _ _ hl => lv_iload_n hx hb d_Mo_digits_36 rfl (lv_at hl 2 rfl)) ?_
    refine g_iald hx hb hK 0 f_4 rfl (show vp_in (nI r) 9 from vp_in_nI (by omega) (by omega)) d_Mo_digits_37 ?_
    refine g_eqi (show sz_2 (nI r).toNatClampNeg = sz_2 r from by rw [nI_clamp (by omega)]) ?_
    refine g_eqi (show sz_2 r = nI zz_6 from hg_7) ?_
    refine gs (pc' := 39) (fun _ _ _ _ _ hl => lv_iadd hx hb d_Mo_digits_38) ?_
    refine g_eqi (show (nI (4300 * r)) + (nI zz_6) = nI ((4300 * r) + zz_6) from nI_add _ _) ?_
    refine gs (pc' := 40) (fun _ _ _ _ _ hl => lv_iconst (v := nI 1) hx hb d_Mo_digits_39 (by decide)) ?_
    refine gs (pc' := 41) (fun _ _ _ _ _ hl => lv_isub hx hb d_Mo_digits_40) ?_
    refine g_eqi (show (nI ((4300 * r) + zz_6)) - (nI 1) = nI (4300 * r + (zz_6 - 1)) from (pk_sub (by omega)).trans (congrArg nI (show ((4300 * r) + zz_6) - 1 = 4300 * r + (zz_6 - 1) by omega))) ?_
    refine g_iald hx hb hK 0 f_3 rfl (show vp_in (nI (4300 * r + (zz_6 - 1))) 38700 from vp_in_nI (by omega) (by omega)) d_Mo_digits_41 ?_
    refine g_eqi (show lm_1 (nI (4300 * r + (zz_6 - 1))).toNatClampNeg = lm_1 (4300 * r + (zz_6 - 1)) from by rw [nI_clamp (by omega)]) ?_
    obtain ⟨tv, htv⟩ : ∃ y9, y9 = df (sh lm_1 r) (zz_6 - 1) := ⟨_, rfl⟩
    have htb : tv < 1000000000 := by rw [htv]; exact (hD_9.1 (zz_6 - 1) (by omega)).2
    have ht0 : 0 < tv := by
      rcases hD_9.2.1 with e9 | e9
      · omega
      · rw [htv]; exact Nat.pos_of_ne_zero e9
    refine g_eqi (show lm_1 (4300 * r + (zz_6 - 1)) = nI tv from by rw [htv]; exact (hD_9.1 (zz_6 - 1) (by omega)).1) ?_
    refine gst (pc' := 43) (L' := [(3, .int (nI tv)), (2, .int (nI (9 * (zz_6 - 1)))), (0, .ref hm), (1, .int (nI r))]) (fun _ _ _ _ _ hl => lv_istore_n hx hb d_Mo_digits_42 rfl hl (by decide) rfl) ?_
    refine gsub [0, 1, 2, 3] rfl ?_
    have loop : ∀ (q cc9 : Nat), cc9 + q = 10 → (cc9 = 0 ∨ 10 ^ (cc9 - 1) ≤ tv) → gV p l e R s m args below meth c D clS lo 4 Q 43 [(3, .int (nI (tv / 10 ^ cc9))), (2, .int (nI (9 * (zz_6 - 1) + cc9))), (0, .ref hm), (1, .int (nI r))] [] G B := by
      intro q
      induction q with
      | zero =>
        intro cc9 hq hc
        have hdl : tv / 10 ^ cc9 ≤ tv := Nat.div_le_self _ _
        have hc10 : cc9 = 10 := by omega
        have hz9 : tv / 10 ^ cc9 = 0 := by rw [hc10]; exact Nat.div_eq_of_lt (Nat.lt_of_lt_of_le htb (by decide))
        refine gs (pc' := 44) (fun _ _ _ _ _ hl => lv_iload_n hx hb d_Mo_digits_43 rfl (lv_at hl 0 rfl)) ?_
        refine gsb (pc1 := 58) (pc2 := 47) (fun _ _ _ _ _ => lv_if_le (tgt := 58) hx hb d_Mo_digits_44 (by decide)) (fun c_11 => ?_) (fun c_11 => ?_)
        · skip
          have nc_11 : (tv / 10 ^ cc9) ≤ 0 := (n0_le (a := (tv / 10 ^ cc9)) (by omega)).1 c_11
          have hlt9 : tv < 10 ^ cc9 := by
            rcases Nat.lt_or_ge tv (10 ^ cc9) with y9 | y9
            · exact y9
            · have := Nat.div_pos y9 (Nat.pow_pos (n := cc9) (show 0 < 10 by decide)); omega
          have hc1 : 1 ≤ cc9 := by
            rcases Nat.eq_zero_or_pos cc9 with y9 | y9
            · subst y9; rw [Nat.pow_zero] at hlt9; omega
            · exact y9
          have hc2 : cc9 = 1 ∨ 10 ^ (cc9 - 1) ≤ tv := by rcases hc with y9 | y9; (omega); (exact Or.inr y9)
          refine gs (pc' := 59) (fun _ _ _ _ _ hl => lv_iload_n hx hb d_Mo_digits_58 rfl (lv_at hl 1 rfl)) ?_
          exact hret 59 _ _ _ _ d_Mo_digits_59 hB1 hB2 ⟨rfl, by rw [← ndig_of (isK_of hD_9 hz0 hc1 (by rw [← htv]; exact hlt9) (by rw [← htv]; exact hc2)), Nat.mul_comm]⟩
        · skip
          have nc_11 : (tv / 10 ^ cc9) > 0 := (n0_le (a := (tv / 10 ^ cc9)) (by omega)).2 c_11
          exact absurd nc_11 (by omega)
      | succ q ih =>
        intro cc9 hq hc
        have hdl : tv / 10 ^ cc9 ≤ tv := Nat.div_le_self _ _
        refine gs (pc' := 44) (fun _ _ _ _ _ hl => lv_iload_n hx hb d_Mo_digits_43 rfl (lv_at hl 0 rfl)) ?_
        refine gsb (pc1 := 58) (pc2 := 47) (fun _ _ _ _ _ => lv_if_le (tgt := 58) hx hb d_Mo_digits_44 (by decide)) (fun c_12 => ?_) (fun c_12 => ?_)
        · skip
          have nc_12 : (tv / 10 ^ cc9) ≤ 0 := (n0_le (a := (tv / 10 ^ cc9)) (by omega)).1 c_12
          have hlt9 : tv < 10 ^ cc9 := by
            rcases Nat.lt_or_ge tv (10 ^ cc9) with y9 | y9
            · exact y9
            · have := Nat.div_pos y9 (Nat.pow_pos (n := cc9) (show 0 < 10 by decide)); omega
          have hc1 : 1 ≤ cc9 := by
            rcases Nat.eq_zero_or_pos cc9 with y9 | y9
            · subst y9; rw [Nat.pow_zero] at hlt9; omega
            · exact y9
          have hc2 : cc9 = 1 ∨ 10 ^ (cc9 - 1) ≤ tv := by rcases hc with y9 | y9; (omega); (exact Or.inr y9)
          refine gs (pc' := 59) (fun _ _ _ _ _ hl => lv_iload_n hx hb d_Mo_digits_58 rfl (lv_at hl 1 rfl)) ?_
          exact hret 59 _ _ _ _ d_Mo_digits_59 hB1 hB2 ⟨rfl, by rw [← ndig_of (isK_of hD_9 hz0 hc1 (by rw [← htv]; exact hlt9) (by rw [← htv]; exact hc2)), Nat.mul_comm]⟩
        · skip
          have nc_12 : (tv / 10 ^ cc9) > 0 := (n0_le (a := (tv / 10 ^ cc9)) (by omega)).2 c_12
          have hge9 : 10 ^ cc9 ≤ tv := by
            rcases Nat.lt_or_ge tv (10 ^ cc9) with y9 | y9
            · have := Nat.div_eq_of_lt y9; omega
            · exact y9
          refine gst (pc' := 50) (L' := [(2, .int (nI (9 * (zz_6 - 1) + (cc9 + 1)))), (3, .int (nI (tv / 10 ^ cc9))), (0, .ref hm), (1, .int (nI r))]) (fun _ _ _ _ _ hl => lv_iinc (v := nI (9 * (zz_6 - 1) + (cc9 + 1))) hx hb d_Mo_digits_47 hl (k := 1) rfl (nI_add (9 * (zz_6 - 1) + cc9) 1) (by decide) rfl) ?_
          refine gs (pc' := 51) (fun _ _ _ _ _ hl => lv_iload_n hx hb d_Mo_digits_50 rfl (lv_at hl 1 rfl)) ?_
          refine gs (pc' := 53) (fun _ _ _ _ _ hl => lv_bipush (v := nI 10) hx hb d_Mo_digits_51 (by decide)) ?_
          refine gs (pc' := 54) (fun _ _ _ _ _ hl => lv_idiv hx hb d_Mo_digits_53 (by decide)) ?_
          refine g_eqi (show (nI (tv / 10 ^ cc9)) / (nI 10) = nI ((tv / 10 ^ cc9) / 10) from pk_div (by omega) (by omega) (by omega)) ?_
          refine g_eqi (show nI ((tv / 10 ^ cc9) / 10) = nI (tv / 10 ^ (cc9 + 1)) from by rw [Nat.pow_succ, Nat.div_div_eq_div_mul]) ?_
          refine gst (pc' := 55) (L' := [(3, .int (nI (tv / 10 ^ (cc9 + 1)))), (2, .int (nI (9 * (zz_6 - 1) + (cc9 + 1)))), (0, .ref hm), (1, .int (nI r))]) (fun _ _ _ _ _ hl => lv_istore_n hx hb d_Mo_digits_54 rfl hl (by decide) rfl) ?_
          refine gs (pc' := 43) (fun _ _ _ _ _ hl => lv_goto (tgt := 43) hx hb d_Mo_digits_55 (by decide)) ?_
          refine gsub [0, 1, 2, 3] rfl ?_
          exact ih (cc9 + 1) (by omega) (Or.inr (by rw [Nat.add_sub_cancel]; exact hge9))
    have lp := loop 10 0 (by omega) (Or.inl rfl)
    rw [Nat.pow_zero, Nat.div_one, Nat.add_zero] at lp
    exact lp
  · skip
    have nc_10 : zz_6 = 0 := (n0_ne (a := zz_6) (by omega)).2 c_10
    have hv0 : Rg r = 0 := (isD_z0 hD_9).mp nc_10
    refine gs (pc' := 10) (fun _ _ _ _ _ hl => lv_iconst (v := nI 1) hx hb d_Mo_digits_9 (by decide)) ?_
    exact hret 10 _ _ _ _ d_Mo_digits_10 hB1 hB2 ⟨rfl, by rw [hv0]; exact congrArg nI (ndig_of (Or.inl ⟨rfl, rfl⟩))⟩
set_option maxHeartbeats 4000000 in
set_option maxRecDepth 100000 in
theorem c_Mo_reduce (l : Launch) (D : va_G) (cA : Nat → ClassId) (lo MC MS : Nat) (G : gT) (B : Nat × Nat) (hm : Nat) (A : Nat → Nat) (I : Nat → Int32) (hob : G hm = some (70, .inr (9, mfs A I))) (Rg : Nat → Nat) (hR : MR cA A Rg G) (hpos : 0 < Rg 1) (k : Nat) (hkt : Rg 0 < 1000000000 ^ k) (hkb : Rg 1 < 1000000000 ^ k) (hk : k ≤ 4280) (hB1 : B.1 ≤ MC) (hB2 : B.2 ≤ MS) : gMet l y_Mo_reduce w_Mo_reduce 3 86 D clS (gtys cA) lo MC MS [.ref hm] G B (gQv D clS lo (fun u => u.2 = B ∧ (∃ R9 : Nat → Nat, MR cA A R9 u.1 ∧ R9 0 = rdn (Rg 0) (Rg 1) ∧ R9 1 = rdd (Rg 0) (Rg 1) ∧ R9 2 = Rg 2 ∧ R9 3 = Rg 3) ∧ u.1 hm = some (70, .inr (9, mfs A (if Rg 0 = 0 then fup I 6 (nI 0) else I))) ∧ gfr (fun x => x = 70 ∨ x = 75 ∨ x = 76) G u.1)) := by
  refine g_metv (cc := prog_11_method_17_code) (nL := 4) (L := [(0, .ref hm)]) (by decide +kernel) rfl (Nat.le_of_ble_eq_true rfl) rfl ?_
  intro p e R s m args below meth c Q hF hRc hRs hRf hRl hret
  obtain ⟨hx, hb, hr, hml, hts0, hown, hlocks, hin, hK, hlo, hZ⟩ := hF
  have hts : ∀ w ∈ tbg, w.before args s = true := fun w h => hts0 w (List.mem_cons_of_mem _ h)
  refine gs (pc' := 1) (fun _ _ _ _ _ hl => lv_aload_n hx hb d_Mo_reduce_0 rfl (lv_at hl 0 rfl)) ?_
  refine g_get hx hb hts hin_Mo hown hK hob rfl 9 (by decide) (hts _ wm763) (fun _ h9 => h9) rfl d_Mo_reduce_1 ?_
  refine gs (pc' := 5) (fun _ _ _ _ _ hl => lv_iconst (v := nI 0) hx hb d_Mo_reduce_4 (by decide)) ?_
  obtain ⟨lm_1, sz_2, f_3, f_4, rg_5⟩ := id hR
  refine g_iald hx hb hK 0 f_4 rfl (show vp_in (nI 0) 9 from vp_in_nI (by omega) (by omega)) d_Mo_reduce_5 ?_
  refine g_eqi (show sz_2 (nI 0).toNatClampNeg = sz_2 0 from by rw [nI_clamp (by omega)]) ?_
  obtain ⟨zz_6, hg_7, hz_8, hD_9⟩ := rg_5 0 (by decide)
  refine g_eqi (show sz_2 0 = nI zz_6 from hg_7) ?_
  refine gsb (pc1 := 21) (pc2 := 9) (fun _ _ _ _ _ => lv_if_ne (tgt := 21) hx hb d_Mo_reduce_6 (by decide)) (fun c_10 => ?_) (fun c_10 => ?_)
  · skip
    have nc_10 : zz_6 ≠ 0 := (n0_ne (a := zz_6) (by omega)).1 c_10
    have hT : Rg 0 ≠ 0 := fun e9 => nc_10 ((isD_z0 hD_9).mpr e9)
    refine gs (pc' := 22) (fun _ _ _ _ _ hl => lv_aload_n hx hb d_Mo_reduce_21 rfl (lv_at hl 0 rfl)) ?_
    refine gs (pc' := 24) (fun _ _ _ _ _ hl => lv_bipush (v := nI 6) hx hb d_Mo_reduce_22 (by decide)) ?_
    refine gs (pc' := 25) (fun _ _ _ _ _ hl => lv_iconst (v := nI 0) hx hb d_Mo_reduce_24 (by decide)) ?_
    refine g_outv hlo (g_runV (As := [.int (nI 6), .int (nI 0)]) (rest := []) ⟨hx, hb, hml, hown, hts⟩ hK hZ hRc hRs (c_Mo_copy l D cA lo MC MS G B hm A I hob Rg hR 6 (by decide) 0 (by decide) (by decide) hB1 hB2) (fun _ _ => cwV 2 hts (tb_good (tb_cons wm847 (tb_cons wm849 (tb_cons ws23 (tb_cons wm12 k_Mo_copy))))) rfl rfl rfl (by decide +kernel) ⟨by rw [hRf]; exact Nat.le_of_ble_eq_true rfl, by rw [hRl]; exact Nat.le_of_ble_eq_true rfl⟩) hob rfl hB1 hB2 rfl (Nat.le_of_ble_eq_true rfl) d_Mo_reduce_25) (fun G_11 B_12 p_13 => ?_)
    obtain ⟨e_14, mr_15, f_16, gf_17⟩ := p_13
    have e_14b : B = B_12 := e_14.symm
    subst e_14b
    have gf_18 : gfr (fun x => x = 75 ∨ x = 76) G G_11 := gfr_mono (gfr_tr gfr_rf gf_17) (fun x h9 => by rcases h9 with h9 | h9 <;> exact h9)
    have f_19 : G_11 hm = some (70, .inr (9, [.int (I 0), .int (I 1), .ref (A 2), .ref (A 3), .ref (A 4), .ref (A 5), .int (I 6), .int (I 7), .ref (A 8), .ref (A 9), .int (I 10), .ref (A 11), .ref (A 12), .ref (A 13), .int (I 14), .ref (A 15), .ref (A 16), .ref (A 17), .ref (A 18), .int (I 19), .int (I 20), .int (I 21)])) := f_16
    refine gs (pc' := 29) (fun _ _ _ _ _ hl => lv_aload_n hx hb d_Mo_reduce_28 rfl (lv_at hl 0 rfl)) ?_
    refine gs (pc' := 31) (fun _ _ _ _ _ hl => lv_bipush (v := nI 7) hx hb d_Mo_reduce_29 (by decide)) ?_
    refine gs (pc' := 32) (fun _ _ _ _ _ hl => lv_iconst (v := nI 1) hx hb d_Mo_reduce_31 (by decide)) ?_
    refine g_outv hlo (g_runV (As := [.int (nI 7), .int (nI 1)]) (rest := []) ⟨hx, hb, hml, hown, hts⟩ hK hZ hRc hRs (c_Mo_copy l D cA lo MC MS G_11 B hm A I f_19 (fup Rg 6 (Rg 0)) mr_15 7 (by decide) 1 (by decide) (by decide) hB1 hB2) (fun _ _ => cwV 2 hts (tb_good (tb_cons wm847 (tb_cons wm849 (tb_cons ws23 (tb_cons wm12 k_Mo_copy))))) rfl rfl rfl (by decide +kernel) ⟨by rw [hRf]; exact Nat.le_of_ble_eq_true rfl, by rw [hRl]; exact Nat.le_of_ble_eq_true rfl⟩) f_19 rfl hB1 hB2 rfl (Nat.le_of_ble_eq_true rfl) d_Mo_reduce_32) (fun G_20 B_21 p_22 => ?_)
    obtain ⟨e_23, mr_24, f_25, gf_26⟩ := p_22
    have e_23b : B = B_21 := e_23.symm
    subst e_23b
    have gf_27 : gfr (fun x => x = 75 ∨ x = 76) G G_20 := gfr_mono (gfr_tr gf_18 gf_26) (fun x h9 => by rcases h9 with h9 | h9 <;> exact h9)
    have f_28 : G_20 hm = some (70, .inr (9, [.int (I 0), .int (I 1), .ref (A 2), .ref (A 3), .ref (A 4), .ref (A 5), .int (I 6), .int (I 7), .ref (A 8), .ref (A 9), .int (I 10), .ref (A 11), .ref (A 12), .ref (A 13), .int (I 14), .ref (A 15), .ref (A 16), .ref (A 17), .ref (A 18), .int (I 19), .int (I 20), .int (I 21)])) := f_25
    refine gs (pc' := 37) (fun _ _ _ _ _ hl => lv_bipush (v := nI 6) hx hb d_Mo_reduce_35 (by decide)) ?_
    refine gst (pc' := 38) (L' := [(1, .int (nI 6)), (0, .ref hm)]) (fun _ _ _ _ _ hl => lv_istore_n hx hb d_Mo_reduce_37 rfl hl (by decide) rfl) ?_
    refine gs (pc' := 40) (fun _ _ _ _ _ hl => lv_bipush (v := nI 7) hx hb d_Mo_reduce_38 (by decide)) ?_
    refine gst (pc' := 41) (L' := [(2, .int (nI 7)), (1, .int (nI 6)), (0, .ref hm)]) (fun _ _ _ _ _ hl => lv_istore_n hx hb d_Mo_reduce_40 rfl hl (by decide) rfl) ?_
    refine gsub [1, 0, 2] rfl ?_
    have hRa : (fup (fup Rg 6 (Rg 0)) 7 ((fup Rg 6 (Rg 0)) 1)) 6 = Rg 0 := rfl
    have hRb : (fup (fup Rg 6 (Rg 0)) 7 ((fup Rg 6 (Rg 0)) 1)) 7 = Rg 1 := rfl
    have loop : ∀ (n one two : Nat) (R1 : Nat → Nat) (Gk : gT), (one = 6 ∧ two = 7 ∨ one = 7 ∧ two = 6) → R1 two ≤ n → 0 < R1 one → R1 one < 1000000000 ^ k → R1 two < 1000000000 ^ k → Nat.gcd (R1 one) (R1 two) = Nat.gcd (Rg 0) (Rg 1) → R1 0 = Rg 0 → R1 1 = Rg 1 → R1 2 = Rg 2 → R1 3 = Rg 3 → MR cA A R1 Gk → Gk hm = some (70, .inr (9, [.int (I 0), .int (I 1), .ref (A 2), .ref (A 3), .ref (A 4), .ref (A 5), .int (I 6), .int (I 7), .ref (A 8), .ref (A 9), .int (I 10), .ref (A 11), .ref (A 12), .ref (A 13), .int (I 14), .ref (A 15), .ref (A 16), .ref (A 17), .ref (A 18), .int (I 19), .int (I 20), .int (I 21)])) → gfr (fun x => x = 75 ∨ x = 76) G Gk → gV p l e R s m args below meth c D clS lo 4 Q 41 [(1, .int (nI one)), (2, .int (nI two)), (0, .ref hm)] [] Gk B := by
      intro n
      induction n with
      | zero =>
        intro one two R1 Gk hot hn h1 hb1 hb2 hgc e0 e1 e2 e3 hM ho hfr
        have hb_one : one < 9 := by omega
        have hb_two : two < 9 := by omega
        refine gs (pc' := 42) (fun _ _ _ _ _ hl => lv_aload_n hx hb d_Mo_reduce_41 rfl (lv_at hl 2 rfl)) ?_
        refine g_get hx hb hts hin_Mo hown hK ho rfl 9 (by decide) (hts _ wm763) (fun _ h9 => h9) rfl d_Mo_reduce_42 ?_
        refine gs (pc' := 46) (fun _ _ _ _ _ hl => lv_iload_n hx hb d_Mo_reduce_45 rfl (lv_at hl 1 rfl)) ?_
        obtain ⟨lm_29, sz_30, f_31, f_32, rg_33⟩ := id hM
        refine g_iald hx hb hK 0 f_32 rfl (show vp_in (nI two) 9 from vp_in_nI (by omega) (by omega)) d_Mo_reduce_46 ?_
        refine g_eqi (show sz_30 (nI two).toNatClampNeg = sz_30 two from by rw [nI_clamp (by omega)]) ?_
        obtain ⟨zz_34, hg_35, hz_36, hD_37⟩ := rg_33 two hb_two
        refine g_eqi (show sz_30 two = nI zz_34 from hg_35) ?_
        refine gsb (pc1 := 65) (pc2 := 50) (fun _ _ _ _ _ => lv_if_le (tgt := 65) hx hb d_Mo_reduce_47 (by decide)) (fun c_38 => ?_) (fun c_38 => ?_)
        · skip
          have nc_38 : zz_34 ≤ 0 := (n0_le (a := zz_34) (by omega)).1 c_38
          have h20 : R1 two = 0 := (isD_z0 hD_37).mp (by omega)
          rw [h20, Nat.gcd_zero_right] at hgc
          refine gs (pc' := 66) (fun _ _ _ _ _ hl => lv_aload_n hx hb d_Mo_reduce_65 rfl (lv_at hl 2 rfl)) ?_
          refine g_get hx hb hts hin_Mo hown hK ho rfl 9 (by decide) (hts _ wm763) (fun _ h9 => h9) rfl d_Mo_reduce_66 ?_
          refine gs (pc' := 70) (fun _ _ _ _ _ hl => lv_iload_n hx hb d_Mo_reduce_69 rfl (lv_at hl 0 rfl)) ?_
          refine g_iald hx hb hK 0 f_32 rfl (show vp_in (nI one) 9 from vp_in_nI (by omega) (by omega)) d_Mo_reduce_70 ?_
          refine g_eqi (show sz_30 (nI one).toNatClampNeg = sz_30 one from by rw [nI_clamp (by omega)]) ?_
          obtain ⟨zz_39, hg_40, hz_41, hD_42⟩ := rg_33 one hb_one
          refine g_eqi (show sz_30 one = nI zz_39 from hg_40) ?_
          refine gs (pc' := 72) (fun _ _ _ _ _ hl => lv_iconst (v := nI 1) hx hb d_Mo_reduce_71 (by decide)) ?_
          refine gsb (pc1 := 89) (pc2 := 75) (fun _ _ _ _ _ => lv_icmp_gt (tgt := 89) hx hb d_Mo_reduce_72 (by decide)) (fun c_43 => ?_) (fun c_43 => ?_)
          · skip
            have nc_43 : zz_39 > 1 := (nn_gt (a := zz_39) (b := 1) (by omega) (by omega)).1 c_43
            refine gs (pc' := 90) (fun _ _ _ _ _ hl => lv_aload_n hx hb d_Mo_reduce_89 rfl (lv_at hl 2 rfl)) ?_
            refine gs (pc' := 91) (fun _ _ _ _ _ hl => lv_iconst (v := nI 0) hx hb d_Mo_reduce_90 (by decide)) ?_
            refine gs (pc' := 92) (fun _ _ _ _ _ hl => lv_iload_n hx hb d_Mo_reduce_91 rfl (lv_at hl 0 rfl)) ?_
            refine g_outv hlo (g_runV (As := [.int (nI 0), .int (nI one)]) (rest := []) ⟨hx, hb, hml, hown, hts⟩ hK hZ hRc hRs (c_Mo_divide l D cA lo MC MS Gk B hm A I ho R1 hM 0 (by decide) one hb_one (by omega) (by decide) (by omega) h1 k (by rw [e0]; exact hkt) hb1 hk hB1 hB2) (fun _ _ => cwV 2 hts (tb_good (tb_cons wm851 (tb_cons wm853 (tb_cons ws24 (tb_cons wm12 k_Mo_divide))))) rfl rfl rfl (by decide +kernel) ⟨by rw [hRf]; exact Nat.le_of_ble_eq_true rfl, by rw [hRl]; exact Nat.le_of_ble_eq_true rfl⟩) ho rfl hB1 hB2 rfl (Nat.le_of_ble_eq_true rfl) d_Mo_reduce_92) (fun G_44 B_45 p_46 => ?_)
            obtain ⟨e_47, mr_48, f_49, gf_50⟩ := p_46
            have e_47b : B = B_45 := e_47.symm
            subst e_47b
            have gf_51 : gfr (fun x => x = 75 ∨ x = 76) G G_44 := gfr_mono (gfr_tr hfr gf_50) (fun x h9 => by rcases h9 with h9 | h9 <;> exact h9)
            have f_52 : G_44 hm = some (70, .inr (9, [.int (I 0), .int (I 1), .ref (A 2), .ref (A 3), .ref (A 4), .ref (A 5), .int (I 6), .int (I 7), .ref (A 8), .ref (A 9), .int (I 10), .ref (A 11), .ref (A 12), .ref (A 13), .int (I 14), .ref (A 15), .ref (A 16), .ref (A 17), .ref (A 18), .int (I 19), .int (I 20), .int (I 21)])) := f_49
            refine gs (pc' := 96) (fun _ _ _ _ _ hl => lv_aload_n hx hb d_Mo_reduce_95 rfl (lv_at hl 2 rfl)) ?_
            refine gs (pc' := 97) (fun _ _ _ _ _ hl => lv_iconst (v := nI 0) hx hb d_Mo_reduce_96 (by decide)) ?_
            refine gs (pc' := 99) (fun _ _ _ _ _ hl => lv_bipush (v := nI 8) hx hb d_Mo_reduce_97 (by decide)) ?_
            refine g_outv hlo (g_runV (As := [.int (nI 0), .int (nI 8)]) (rest := []) ⟨hx, hb, hml, hown, hts⟩ hK hZ hRc hRs (c_Mo_copy l D cA lo MC MS G_44 B hm A I f_52 (fup (fup R1 8 (R1 0 / R1 one)) 0 (R1 0 % R1 one)) mr_48 0 (by decide) 8 (by decide) (by decide) hB1 hB2) (fun _ _ => cwV 2 hts (tb_good (tb_cons wm847 (tb_cons wm849 (tb_cons ws23 (tb_cons wm12 k_Mo_copy))))) rfl rfl rfl (by decide +kernel) ⟨by rw [hRf]; exact Nat.le_of_ble_eq_true rfl, by rw [hRl]; exact Nat.le_of_ble_eq_true rfl⟩) f_52 rfl hB1 hB2 rfl (Nat.le_of_ble_eq_true rfl) d_Mo_reduce_99) (fun G_53 B_54 p_55 => ?_)
            obtain ⟨e_56, mr_57, f_58, gf_59⟩ := p_55
            have e_56b : B = B_54 := e_56.symm
            subst e_56b
            obtain ⟨R2, hR2⟩ : ∃ y9, y9 = fup (fup (fup R1 8 (R1 0 / R1 one)) 0 (R1 0 % R1 one)) 0 ((fup (fup R1 8 (R1 0 / R1 one)) 0 (R1 0 % R1 one)) 8) := ⟨_, rfl⟩
            rw [← hR2] at mr_57
            have q0 : R2 0 = R1 0 / R1 one := by rw [hR2]; rfl
            have q1 : R2 1 = R1 1 := by rw [hR2]; rfl
            have q2 : R2 2 = R1 2 := by rw [hR2]; rfl
            have q3 : R2 3 = R1 3 := by rw [hR2]; rfl
            have qo : R2 one = R1 one := by rw [hR2, fup_n (by omega), fup_n (by omega), fup_n (by omega)]
            have gf_60 : gfr (fun x => x = 75 ∨ x = 76) G G_53 := gfr_mono (gfr_tr gf_51 gf_59) (fun x h9 => by rcases h9 with h9 | h9 <;> exact h9)
            have f_61 : G_53 hm = some (70, .inr (9, [.int (I 0), .int (I 1), .ref (A 2), .ref (A 3), .ref (A 4), .ref (A 5), .int (I 6), .int (I 7), .ref (A 8), .ref (A 9), .int (I 10), .ref (A 11), .ref (A 12), .ref (A 13), .int (I 14), .ref (A 15), .ref (A 16), .ref (A 17), .ref (A 18), .int (I 19), .int (I 20), .int (I 21)])) := f_58
            refine gs (pc' := 103) (fun _ _ _ _ _ hl => lv_aload_n hx hb d_Mo_reduce_102 rfl (lv_at hl 2 rfl)) ?_
            refine gs (pc' := 104) (fun _ _ _ _ _ hl => lv_iconst (v := nI 1) hx hb d_Mo_reduce_103 (by decide)) ?_
            refine gs (pc' := 105) (fun _ _ _ _ _ hl => lv_iload_n hx hb d_Mo_reduce_104 rfl (lv_at hl 0 rfl)) ?_
            refine g_outv hlo (g_runV (As := [.int (nI 1), .int (nI one)]) (rest := []) ⟨hx, hb, hml, hown, hts⟩ hK hZ hRc hRs (c_Mo_divide l D cA lo MC MS G_53 B hm A I f_61 R2 mr_57 1 (by decide) one hb_one (by omega) (by decide) (by omega) (by rw [qo]; exact h1) k (by rw [q1, e1]; exact hkb) (by rw [qo]; exact hb1) hk hB1 hB2) (fun _ _ => cwV 2 hts (tb_good (tb_cons wm851 (tb_cons wm853 (tb_cons ws24 (tb_cons wm12 k_Mo_divide))))) rfl rfl rfl (by decide +kernel) ⟨by rw [hRf]; exact Nat.le_of_ble_eq_true rfl, by rw [hRl]; exact Nat.le_of_ble_eq_true rfl⟩) f_61 rfl hB1 hB2 rfl (Nat.le_of_ble_eq_true rfl) d_Mo_reduce_105) (fun G_62 B_63 p_64 => ?_)
            obtain ⟨e_65, mr_66, f_67, gf_68⟩ := p_64
            have e_65b : B = B_63 := e_65.symm
            subst e_65b
            have gf_69 : gfr (fun x => x = 75 ∨ x = 76) G G_62 := gfr_mono (gfr_tr gf_60 gf_68) (fun x h9 => by rcases h9 with h9 | h9 <;> exact h9)
            have f_70 : G_62 hm = some (70, .inr (9, [.int (I 0), .int (I 1), .ref (A 2), .ref (A 3), .ref (A 4), .ref (A 5), .int (I 6), .int (I 7), .ref (A 8), .ref (A 9), .int (I 10), .ref (A 11), .ref (A 12), .ref (A 13), .int (I 14), .ref (A 15), .ref (A 16), .ref (A 17), .ref (A 18), .int (I 19), .int (I 20), .int (I 21)])) := f_67
            refine gs (pc' := 109) (fun _ _ _ _ _ hl => lv_aload_n hx hb d_Mo_reduce_108 rfl (lv_at hl 2 rfl)) ?_
            refine gs (pc' := 110) (fun _ _ _ _ _ hl => lv_iconst (v := nI 1) hx hb d_Mo_reduce_109 (by decide)) ?_
            refine gs (pc' := 112) (fun _ _ _ _ _ hl => lv_bipush (v := nI 8) hx hb d_Mo_reduce_110 (by decide)) ?_
            refine g_outv hlo (g_runV (As := [.int (nI 1), .int (nI 8)]) (rest := []) ⟨hx, hb, hml, hown, hts⟩ hK hZ hRc hRs (c_Mo_copy l D cA lo MC MS G_62 B hm A I f_70 (fup (fup R2 8 (R2 1 / R2 one)) 1 (R2 1 % R2 one)) mr_66 1 (by decide) 8 (by decide) (by decide) hB1 hB2) (fun _ _ => cwV 2 hts (tb_good (tb_cons wm847 (tb_cons wm849 (tb_cons ws23 (tb_cons wm12 k_Mo_copy))))) rfl rfl rfl (by decide +kernel) ⟨by rw [hRf]; exact Nat.le_of_ble_eq_true rfl, by rw [hRl]; exact Nat.le_of_ble_eq_true rfl⟩) f_70 rfl hB1 hB2 rfl (Nat.le_of_ble_eq_true rfl) d_Mo_reduce_112) (fun G_71 B_72 p_73 => ?_)
            obtain ⟨e_74, mr_75, f_76, gf_77⟩ := p_73
            have e_74b : B = B_72 := e_74.symm
            subst e_74b
            have gf_78 : gfr (fun x => x = 75 ∨ x = 76) G G_71 := gfr_mono (gfr_tr gf_69 gf_77) (fun x h9 => by rcases h9 with h9 | h9 <;> exact h9)
            have f_79 : G_71 hm = some (70, .inr (9, [.int (I 0), .int (I 1), .ref (A 2), .ref (A 3), .ref (A 4), .ref (A 5), .int (I 6), .int (I 7), .ref (A 8), .ref (A 9), .int (I 10), .ref (A 11), .ref (A 12), .ref (A 13), .int (I 14), .ref (A 15), .ref (A 16), .ref (A 17), .ref (A 18), .int (I 19), .int (I 20), .int (I 21)])) := f_76
            exact hret 115 _ _ _ d_Mo_reduce_115 hB1 hB2 ⟨rfl, ⟨_, mr_75, by show R2 0 = _; rw [q0, e0]; unfold rdn; rw [← hgc], by show R2 1 / R2 one = _; rw [q1, qo, e1]; unfold rdd; rw [← hgc], q2.trans e2, q3.trans e3⟩, by rw [if_neg hT]; exact f_79, gfr_mono gf_78 (fun x h9 => Or.inr h9)⟩
          · skip
            have nc_43 : zz_39 ≤ 1 := (nn_gt (a := zz_39) (b := 1) (by omega) (by omega)).2 c_43
            refine gs (pc' := 76) (fun _ _ _ _ _ hl => lv_aload_n hx hb d_Mo_reduce_75 rfl (lv_at hl 2 rfl)) ?_
            refine g_get hx hb hts hin_Mo hown hK ho rfl 8 (by decide) (hts _ wm762) (fun _ h9 => h9) rfl d_Mo_reduce_76 ?_
            refine gs (pc' := 82) (fun _ _ _ _ _ hl => lv_sipush (v := nI 4300) hx hb d_Mo_reduce_79 (by decide)) ?_
            refine gs (pc' := 83) (fun _ _ _ _ _ hl => lv_iload_n hx hb d_Mo_reduce_82 rfl (lv_at hl 0 rfl)) ?_
            refine gs (pc' := 84) (fun _ _ _ _ _ hl => lv_imul hx hb d_Mo_reduce_83) ?_
            refine g_eqi (show (nI 4300) * (nI one) = nI (4300 * one) from pk_mul _ _) ?_
            refine g_iald hx hb hK 0 f_31 rfl (show vp_in (nI (4300 * one)) 38700 from vp_in_nI (by omega) (by omega)) d_Mo_reduce_84 ?_
            refine g_eqi (show lm_29 (nI (4300 * one)).toNatClampNeg = lm_29 (4300 * one) from by rw [nI_clamp (by omega)]) ?_
            have hz1 : zz_39 = 1 := by
              have : zz_39 ≠ 0 := fun e9 => by have := (isD_z0 hD_42).mp e9; omega
              omega
            have hone := isD_one hD_42 h1 (by have h9 := isD_lt hD_42; rw [hz1, Nat.pow_one] at h9; exact h9)
            have hol : R1 one < 1000000000 := by have h9 := isD_lt hD_42; rw [hz1, Nat.pow_one] at h9; exact h9
            refine g_eqi (show lm_29 (4300 * one) = nI (R1 one) from hone.2) ?_
            refine gs (pc' := 86) (fun _ _ _ _ _ hl => lv_iconst (v := nI 1) hx hb d_Mo_reduce_85 (by decide)) ?_
            refine gsb (pc1 := 115) (pc2 := 89) (fun _ _ _ _ _ => lv_icmp_le (tgt := 115) hx hb d_Mo_reduce_86 (by decide)) (fun c_80 => ?_) (fun c_80 => ?_)
            · skip
              have nc_80 : (R1 one) ≤ 1 := (nn_le (a := (R1 one)) (b := 1) (by omega) (by omega)).1 c_80
              have hg1 : R1 one = 1 := by omega
              exact hret 115 _ _ _ d_Mo_reduce_115 hB1 hB2 ⟨rfl, ⟨R1, hM, by unfold rdn; rw [← hgc, hg1, Nat.div_one]; exact e0, by unfold rdd; rw [← hgc, hg1, Nat.div_one]; exact e1, e2, e3⟩, by rw [if_neg hT]; exact ho, gfr_mono hfr (fun x h9 => Or.inr h9)⟩
            · skip
              have nc_80 : (R1 one) > 1 := (nn_le (a := (R1 one)) (b := 1) (by omega) (by omega)).2 c_80
              refine gs (pc' := 90) (fun _ _ _ _ _ hl => lv_aload_n hx hb d_Mo_reduce_89 rfl (lv_at hl 2 rfl)) ?_
              refine gs (pc' := 91) (fun _ _ _ _ _ hl => lv_iconst (v := nI 0) hx hb d_Mo_reduce_90 (by decide)) ?_
              refine gs (pc' := 92) (fun _ _ _ _ _ hl => lv_iload_n hx hb d_Mo_reduce_91 rfl (lv_at hl 0 rfl)) ?_
              refine g_outv hlo (g_runV (As := [.int (nI 0), .int (nI one)]) (rest := []) ⟨hx, hb, hml, hown, hts⟩ hK hZ hRc hRs (c_Mo_divide l D cA lo MC MS Gk B hm A I ho R1 hM 0 (by decide) one hb_one (by omega) (by decide) (by omega) h1 k (by rw [e0]; exact hkt) hb1 hk hB1 hB2) (fun _ _ => cwV 2 hts (tb_good (tb_cons wm851 (tb_cons wm853 (tb_cons ws24 (tb_cons wm12 k_Mo_divide))))) rfl rfl rfl (by decide +kernel) ⟨by rw [hRf]; exact Nat.le_of_ble_eq_true rfl, by rw [hRl]; exact Nat.le_of_ble_eq_true rfl⟩) ho rfl hB1 hB2 rfl (Nat.le_of_ble_eq_true rfl) d_Mo_reduce_92) (fun G_81 B_82 p_83 => ?_)
              obtain ⟨e_84, mr_85, f_86, gf_87⟩ := p_83
              have e_84b : B = B_82 := e_84.symm
              subst e_84b
              have gf_88 : gfr (fun x => x = 75 ∨ x = 76) G G_81 := gfr_mono (gfr_tr hfr gf_87) (fun x h9 => by rcases h9 with h9 | h9 <;> exact h9)
              have f_89 : G_81 hm = some (70, .inr (9, [.int (I 0), .int (I 1), .ref (A 2), .ref (A 3), .ref (A 4), .ref (A 5), .int (I 6), .int (I 7), .ref (A 8), .ref (A 9), .int (I 10), .ref (A 11), .ref (A 12), .ref (A 13), .int (I 14), .ref (A 15), .ref (A 16), .ref (A 17), .ref (A 18), .int (I 19), .int (I 20), .int (I 21)])) := f_86
              refine gs (pc' := 96) (fun _ _ _ _ _ hl => lv_aload_n hx hb d_Mo_reduce_95 rfl (lv_at hl 2 rfl)) ?_
              refine gs (pc' := 97) (fun _ _ _ _ _ hl => lv_iconst (v := nI 0) hx hb d_Mo_reduce_96 (by decide)) ?_
              refine gs (pc' := 99) (fun _ _ _ _ _ hl => lv_bipush (v := nI 8) hx hb d_Mo_reduce_97 (by decide)) ?_
              refine g_outv hlo (g_runV (As := [.int (nI 0), .int (nI 8)]) (rest := []) ⟨hx, hb, hml, hown, hts⟩ hK hZ hRc hRs (c_Mo_copy l D cA lo MC MS G_81 B hm A I f_89 (fup (fup R1 8 (R1 0 / R1 one)) 0 (R1 0 % R1 one)) mr_85 0 (by decide) 8 (by decide) (by decide) hB1 hB2) (fun _ _ => cwV 2 hts (tb_good (tb_cons wm847 (tb_cons wm849 (tb_cons ws23 (tb_cons wm12 k_Mo_copy))))) rfl rfl rfl (by decide +kernel) ⟨by rw [hRf]; exact Nat.le_of_ble_eq_true rfl, by rw [hRl]; exact Nat.le_of_ble_eq_true rfl⟩) f_89 rfl hB1 hB2 rfl (Nat.le_of_ble_eq_true rfl) d_Mo_reduce_99) (fun G_90 B_91 p_92 => ?_)
              obtain ⟨e_93, mr_94, f_95, gf_96⟩ := p_92
              have e_93b : B = B_91 := e_93.symm
              subst e_93b
              obtain ⟨R2, hR2⟩ : ∃ y9, y9 = fup (fup (fup R1 8 (R1 0 / R1 one)) 0 (R1 0 % R1 one)) 0 ((fup (fup R1 8 (R1 0 / R1 one)) 0 (R1 0 % R1 one)) 8) := ⟨_, rfl⟩
              rw [← hR2] at mr_94
              have q0 : R2 0 = R1 0 / R1 one := by rw [hR2]; rfl
              have q1 : R2 1 = R1 1 := by rw [hR2]; rfl
              have q2 : R2 2 = R1 2 := by rw [hR2]; rfl
              have q3 : R2 3 = R1 3 := by rw [hR2]; rfl
              have qo : R2 one = R1 one := by rw [hR2, fup_n (by omega), fup_n (by omega), fup_n (by omega)]
              have gf_97 : gfr (fun x => x = 75 ∨ x = 76) G G_90 := gfr_mono (gfr_tr gf_88 gf_96) (fun x h9 => by rcases h9 with h9 | h9 <;> exact h9)
              have f_98 : G_90 hm = some (70, .inr (9, [.int (I 0), .int (I 1), .ref (A 2), .ref (A 3), .ref (A 4), .ref (A 5), .int (I 6), .int (I 7), .ref (A 8), .ref (A 9), .int (I 10), .ref (A 11), .ref (A 12), .ref (A 13), .int (I 14), .ref (A 15), .ref (A 16), .ref (A 17), .ref (A 18), .int (I 19), .int (I 20), .int (I 21)])) := f_95
              refine gs (pc' := 103) (fun _ _ _ _ _ hl => lv_aload_n hx hb d_Mo_reduce_102 rfl (lv_at hl 2 rfl)) ?_
              refine gs (pc' := 104) (fun _ _ _ _ _ hl => lv_iconst (v := nI 1) hx hb d_Mo_reduce_103 (by decide)) ?_
              refine gs (pc' := 105) (fun _ _ _ _ _ hl => lv_iload_n hx hb d_Mo_reduce_104 rfl (lv_at hl 0 rfl)) ?_
              refine g_outv hlo (g_runV (As := [.int (nI 1), .int (nI one)]) (rest := []) ⟨hx, hb, hml, hown, hts⟩ hK hZ hRc hRs (c_Mo_divide l D cA lo MC MS G_90 B hm A I f_98 R2 mr_94 1 (by decide) one hb_one (by omega) (by decide) (by omega) (by rw [qo]; exact h1) k (by rw [q1, e1]; exact hkb) (by rw [qo]; exact hb1) hk hB1 hB2) (fun _ _ => cwV 2 hts (tb_good (tb_cons wm851 (tb_cons wm853 (tb_cons ws24 (tb_cons wm12 k_Mo_divide))))) rfl rfl rfl (by decide +kernel) ⟨by rw [hRf]; exact Nat.le_of_ble_eq_true rfl, by rw [hRl]; exact Nat.le_of_ble_eq_true rfl⟩) f_98 rfl hB1 hB2 rfl (Nat.le_of_ble_eq_true rfl) d_Mo_reduce_105) (fun G_99 B_100 p_101 => ?_)
              obtain ⟨e_102, mr_103, f_104, gf_105⟩ := p_101
              have e_102b : B = B_100 := e_102.symm
              subst e_102b
              have gf_106 : gfr (fun x => x = 75 ∨ x = 76) G G_99 := gfr_mono (gfr_tr gf_97 gf_105) (fun x h9 => by rcases h9 with h9 | h9 <;> exact h9)
              have f_107 : G_99 hm = some (70, .inr (9, [.int (I 0), .int (I 1), .ref (A 2), .ref (A 3), .ref (A 4), .ref (A 5), .int (I 6), .int (I 7), .ref (A 8), .ref (A 9), .int (I 10), .ref (A 11), .ref (A 12), .ref (A 13), .int (I 14), .ref (A 15), .ref (A 16), .ref (A 17), .ref (A 18), .int (I 19), .int (I 20), .int (I 21)])) := f_104
              refine gs (pc' := 109) (fun _ _ _ _ _ hl => lv_aload_n hx hb d_Mo_reduce_108 rfl (lv_at hl 2 rfl)) ?_
              refine gs (pc' := 110) (fun _ _ _ _ _ hl => lv_iconst (v := nI 1) hx hb d_Mo_reduce_109 (by decide)) ?_
              refine gs (pc' := 112) (fun _ _ _ _ _ hl => lv_bipush (v := nI 8) hx hb d_Mo_reduce_110 (by decide)) ?_
              refine g_outv hlo (g_runV (As := [.int (nI 1), .int (nI 8)]) (rest := []) ⟨hx, hb, hml, hown, hts⟩ hK hZ hRc hRs (c_Mo_copy l D cA lo MC MS G_99 B hm A I f_107 (fup (fup R2 8 (R2 1 / R2 one)) 1 (R2 1 % R2 one)) mr_103 1 (by decide) 8 (by decide) (by decide) hB1 hB2) (fun _ _ => cwV 2 hts (tb_good (tb_cons wm847 (tb_cons wm849 (tb_cons ws23 (tb_cons wm12 k_Mo_copy))))) rfl rfl rfl (by decide +kernel) ⟨by rw [hRf]; exact Nat.le_of_ble_eq_true rfl, by rw [hRl]; exact Nat.le_of_ble_eq_true rfl⟩) f_107 rfl hB1 hB2 rfl (Nat.le_of_ble_eq_true rfl) d_Mo_reduce_112) (fun G_108 B_109 p_110 => ?_)
              obtain ⟨e_111, mr_112, f_113, gf_114⟩ := p_110
              have e_111b : B = B_109 := e_111.symm
              subst e_111b
              have gf_115 : gfr (fun x => x = 75 ∨ x = 76) G G_108 := gfr_mono (gfr_tr gf_106 gf_114) (fun x h9 => by rcases h9 with h9 | h9 <;> exact h9)
              have f_116 : G_108 hm = some (70, .inr (9, [.int (I 0), .int (I 1), .ref (A 2), .ref (A 3), .ref (A 4), .ref (A 5), .int (I 6), .int (I 7), .ref (A 8), .ref (A 9), .int (I 10), .ref (A 11), .ref (A 12), .ref (A 13), .int (I 14), .ref (A 15), .ref (A 16), .ref (A 17), .ref (A 18), .int (I 19), .int (I 20), .int (I 21)])) := f_113
              exact hret 115 _ _ _ d_Mo_reduce_115 hB1 hB2 ⟨rfl, ⟨_, mr_112, by show R2 0 = _; rw [q0, e0]; unfold rdn; rw [← hgc], by show R2 1 / R2 one = _; rw [q1, qo, e1]; unfold rdd; rw [← hgc], q2.trans e2, q3.trans e3⟩, by rw [if_neg hT]; exact f_116, gfr_mono gf_115 (fun x h9 => Or.inr h9)⟩
        · skip
          have nc_38 : zz_34 > 0 := (n0_le (a := zz_34) (by omega)).2 c_38
          have h2p : 0 < R1 two := Nat.pos_of_ne_zero fun e9 => by have := (isD_z0 hD_37).mpr e9; omega
          omega
      | succ n ih =>
        intro one two R1 Gk hot hn h1 hb1 hb2 hgc e0 e1 e2 e3 hM ho hfr
        have hb_one : one < 9 := by omega
        have hb_two : two < 9 := by omega
        refine gs (pc' := 42) (fun _ _ _ _ _ hl => lv_aload_n hx hb d_Mo_reduce_41 rfl (lv_at hl 2 rfl)) ?_
        refine g_get hx hb hts hin_Mo hown hK ho rfl 9 (by decide) (hts _ wm763) (fun _ h9 => h9) rfl d_Mo_reduce_42 ?_
        refine gs (pc' := 46) (fun _ _ _ _ _ hl => lv_iload_n hx hb d_Mo_reduce_45 rfl (lv_at hl 1 rfl)) ?_
        obtain ⟨lm_117, sz_118, f_119, f_120, rg_121⟩ := id hM
        refine g_iald hx hb hK 0 f_120 rfl (show vp_in (nI two) 9 from vp_in_nI (by omega) (by omega)) d_Mo_reduce_46 ?_
        refine g_eqi (show sz_118 (nI two).toNatClampNeg = sz_118 two from by rw [nI_clamp (by omega)]) ?_
        obtain ⟨zz_122, hg_123, hz_124, hD_125⟩ := rg_121 two hb_two
        refine g_eqi (show sz_118 two = nI zz_122 from hg_123) ?_
        refine gsb (pc1 := 65) (pc2 := 50) (fun _ _ _ _ _ => lv_if_le (tgt := 65) hx hb d_Mo_reduce_47 (by decide)) (fun c_126 => ?_) (fun c_126 => ?_)
        · skip
          have nc_126 : zz_122 ≤ 0 := (n0_le (a := zz_122) (by omega)).1 c_126
          have h20 : R1 two = 0 := (isD_z0 hD_125).mp (by omega)
          rw [h20, Nat.gcd_zero_right] at hgc
          refine gs (pc' := 66) (fun _ _ _ _ _ hl => lv_aload_n hx hb d_Mo_reduce_65 rfl (lv_at hl 2 rfl)) ?_
          refine g_get hx hb hts hin_Mo hown hK ho rfl 9 (by decide) (hts _ wm763) (fun _ h9 => h9) rfl d_Mo_reduce_66 ?_
          refine gs (pc' := 70) (fun _ _ _ _ _ hl => lv_iload_n hx hb d_Mo_reduce_69 rfl (lv_at hl 0 rfl)) ?_
          refine g_iald hx hb hK 0 f_120 rfl (show vp_in (nI one) 9 from vp_in_nI (by omega) (by omega)) d_Mo_reduce_70 ?_
          refine g_eqi (show sz_118 (nI one).toNatClampNeg = sz_118 one from by rw [nI_clamp (by omega)]) ?_
          obtain ⟨zz_127, hg_128, hz_129, hD_130⟩ := rg_121 one hb_one
          refine g_eqi (show sz_118 one = nI zz_127 from hg_128) ?_
          refine gs (pc' := 72) (fun _ _ _ _ _ hl => lv_iconst (v := nI 1) hx hb d_Mo_reduce_71 (by decide)) ?_
          refine gsb (pc1 := 89) (pc2 := 75) (fun _ _ _ _ _ => lv_icmp_gt (tgt := 89) hx hb d_Mo_reduce_72 (by decide)) (fun c_131 => ?_) (fun c_131 => ?_)
          · skip
            have nc_131 : zz_127 > 1 := (nn_gt (a := zz_127) (b := 1) (by omega) (by omega)).1 c_131
            refine gs (pc' := 90) (fun _ _ _ _ _ hl => lv_aload_n hx hb d_Mo_reduce_89 rfl (lv_at hl 2 rfl)) ?_
            refine gs (pc' := 91) (fun _ _ _ _ _ hl => lv_iconst (v := nI 0) hx hb d_Mo_reduce_90 (by decide)) ?_
            refine gs (pc' := 92) (fun _ _ _ _ _ hl => lv_iload_n hx hb d_Mo_reduce_91 rfl (lv_at hl 0 rfl)) ?_
            refine g_outv hlo (g_runV (As := [.int (nI 0), .int (nI one)]) (rest := []) ⟨hx, hb, hml, hown, hts⟩ hK hZ hRc hRs (c_Mo_divide l D cA lo MC MS Gk B hm A I ho R1 hM 0 (by decide) one hb_one (by omega) (by decide) (by omega) h1 k (by rw [e0]; exact hkt) hb1 hk hB1 hB2) (fun _ _ => cwV 2 hts (tb_good (tb_cons wm851 (tb_cons wm853 (tb_cons ws24 (tb_cons wm12 k_Mo_divide))))) rfl rfl rfl (by decide +kernel) ⟨by rw [hRf]; exact Nat.le_of_ble_eq_true rfl, by rw [hRl]; exact Nat.le_of_ble_eq_true rfl⟩) ho rfl hB1 hB2 rfl (Nat.le_of_ble_eq_true rfl) d_Mo_reduce_92) (fun G_132 B_133 p_134 => ?_)
            obtain ⟨e_135, mr_136, f_137, gf_138⟩ := p_134
            have e_135b : B = B_133 := e_135.symm
            subst e_135b
            have gf_139 : gfr (fun x => x = 75 ∨ x = 76) G G_132 := gfr_mono (gfr_tr hfr gf_138) (fun x h9 => by rcases h9 with h9 | h9 <;> exact h9)
            have f_140 : G_132 hm = some (70, .inr (9, [.int (I 0), .int (I 1), .ref (A 2), .ref (A 3), .ref (A 4), .ref (A 5), .int (I 6), .int (I 7), .ref (A 8), .ref (A 9), .int (I 10), .ref (A 11), .ref (A 12), .ref (A 13), .int (I 14), .ref (A 15), .ref (A 16), .ref (A 17), .ref (A 18), .int (I 19), .int (I 20), .int (I 21)])) := f_137
            refine gs (pc' := 96) (fun _ _ _ _ _ hl => lv_aload_n hx hb d_Mo_reduce_95 rfl (lv_at hl 2 rfl)) ?_
            refine gs (pc' := 97) (fun _ _ _ _ _ hl => lv_iconst (v := nI 0) hx hb d_Mo_reduce_96 (by decide)) ?_
            refine gs (pc' := 99) (fun _ _ _ _ _ hl => lv_bipush (v := nI 8) hx hb d_Mo_reduce_97 (by decide)) ?_
            refine g_outv hlo (g_runV (As := [.int (nI 0), .int (nI 8)]) (rest := []) ⟨hx, hb, hml, hown, hts⟩ hK hZ hRc hRs (c_Mo_copy l D cA lo MC MS G_132 B hm A I f_140 (fup (fup R1 8 (R1 0 / R1 one)) 0 (R1 0 % R1 one)) mr_136 0 (by decide) 8 (by decide) (by decide) hB1 hB2) (fun _ _ => cwV 2 hts (tb_good (tb_cons wm847 (tb_cons wm849 (tb_cons ws23 (tb_cons wm12 k_Mo_copy))))) rfl rfl rfl (by decide +kernel) ⟨by rw [hRf]; exact Nat.le_of_ble_eq_true rfl, by rw [hRl]; exact Nat.le_of_ble_eq_true rfl⟩) f_140 rfl hB1 hB2 rfl (Nat.le_of_ble_eq_true rfl) d_Mo_reduce_99) (fun G_141 B_142 p_143 => ?_)
            obtain ⟨e_144, mr_145, f_146, gf_147⟩ := p_143
            have e_144b : B = B_142 := e_144.symm
            subst e_144b
            obtain ⟨R2, hR2⟩ : ∃ y9, y9 = fup (fup (fup R1 8 (R1 0 / R1 one)) 0 (R1 0 % R1 one)) 0 ((fup (fup R1 8 (R1 0 / R1 one)) 0 (R1 0 % R1 one)) 8) := ⟨_, rfl⟩
            rw [← hR2] at mr_145
            have q0 : R2 0 = R1 0 / R1 one := by rw [hR2]; rfl
            have q1 : R2 1 = R1 1 := by rw [hR2]; rfl
            have q2 : R2 2 = R1 2 := by rw [hR2]; rfl
            have q3 : R2 3 = R1 3 := by rw [hR2]; rfl
            have qo : R2 one = R1 one := by rw [hR2, fup_n (by omega), fup_n (by omega), fup_n (by omega)]
            have gf_148 : gfr (fun x => x = 75 ∨ x = 76) G G_141 := gfr_mono (gfr_tr gf_139 gf_147) (fun x h9 => by rcases h9 with h9 | h9 <;> exact h9)
            have f_149 : G_141 hm = some (70, .inr (9, [.int (I 0), .int (I 1), .ref (A 2), .ref (A 3), .ref (A 4), .ref (A 5), .int (I 6), .int (I 7), .ref (A 8), .ref (A 9), .int (I 10), .ref (A 11), .ref (A 12), .ref (A 13), .int (I 14), .ref (A 15), .ref (A 16), .ref (A 17), .ref (A 18), .int (I 19), .int (I 20), .int (I 21)])) := f_146
            refine gs (pc' := 103) (fun _ _ _ _ _ hl => lv_aload_n hx hb d_Mo_reduce_102 rfl (lv_at hl 2 rfl)) ?_
            refine gs (pc' := 104) (fun _ _ _ _ _ hl => lv_iconst (v := nI 1) hx hb d_Mo_reduce_103 (by decide)) ?_
            refine gs (pc' := 105) (fun _ _ _ _ _ hl => lv_iload_n hx hb d_Mo_reduce_104 rfl (lv_at hl 0 rfl)) ?_
            refine g_outv hlo (g_runV (As := [.int (nI 1), .int (nI one)]) (rest := []) ⟨hx, hb, hml, hown, hts⟩ hK hZ hRc hRs (c_Mo_divide l D cA lo MC MS G_141 B hm A I f_149 R2 mr_145 1 (by decide) one hb_one (by omega) (by decide) (by omega) (by rw [qo]; exact h1) k (by rw [q1, e1]; exact hkb) (by rw [qo]; exact hb1) hk hB1 hB2) (fun _ _ => cwV 2 hts (tb_good (tb_cons wm851 (tb_cons wm853 (tb_cons ws24 (tb_cons wm12 k_Mo_divide))))) rfl rfl rfl (by decide +kernel) ⟨by rw [hRf]; exact Nat.le_of_ble_eq_true rfl, by rw [hRl]; exact Nat.le_of_ble_eq_true rfl⟩) f_149 rfl hB1 hB2 rfl (Nat.le_of_ble_eq_true rfl) d_Mo_reduce_105) (fun G_150 B_151 p_152 => ?_)
            obtain ⟨e_153, mr_154, f_155, gf_156⟩ := p_152
            have e_153b : B = B_151 := e_153.symm
            subst e_153b
            have gf_157 : gfr (fun x => x = 75 ∨ x = 76) G G_150 := gfr_mono (gfr_tr gf_148 gf_156) (fun x h9 => by rcases h9 with h9 | h9 <;> exact h9)
            have f_158 : G_150 hm = some (70, .inr (9, [.int (I 0), .int (I 1), .ref (A 2), .ref (A 3), .ref (A 4), .ref (A 5), .int (I 6), .int (I 7), .ref (A 8), .ref (A 9), .int (I 10), .ref (A 11), .ref (A 12), .ref (A 13), .int (I 14), .ref (A 15), .ref (A 16), .ref (A 17), .ref (A 18), .int (I 19), .int (I 20), .int (I 21)])) := f_155
            refine gs (pc' := 109) (fun _ _ _ _ _ hl => lv_aload_n hx hb d_Mo_reduce_108 rfl (lv_at hl 2 rfl)) ?_
            refine gs (pc' := 110) (fun _ _ _ _ _ hl => lv_iconst (v := nI 1) hx hb d_Mo_reduce_109 (by decide)) ?_
            refine gs (pc' := 112) (fun _ _ _ _ _ hl => lv_bipush (v := nI 8) hx hb d_Mo_reduce_110 (by decide)) ?_
            refine g_outv hlo (g_runV (As := [.int (nI 1), .int (nI 8)]) (rest := []) ⟨hx, hb, hml, hown, hts⟩ hK hZ hRc hRs (c_Mo_copy l D cA lo MC MS G_150 B hm A I f_158 (fup (fup R2 8 (R2 1 / R2 one)) 1 (R2 1 % R2 one)) mr_154 1 (by decide) 8 (by decide) (by decide) hB1 hB2) (fun _ _ => cwV 2 hts (tb_good (tb_cons wm847 (tb_cons wm849 (tb_cons ws23 (tb_cons wm12 k_Mo_copy))))) rfl rfl rfl (by decide +kernel) ⟨by rw [hRf]; exact Nat.le_of_ble_eq_true rfl, by rw [hRl]; exact Nat.le_of_ble_eq_true rfl⟩) f_158 rfl hB1 hB2 rfl (Nat.le_of_ble_eq_true rfl) d_Mo_reduce_112) (fun G_159 B_160 p_161 => ?_)
            obtain ⟨e_162, mr_163, f_164, gf_165⟩ := p_161
            have e_162b : B = B_160 := e_162.symm
            subst e_162b
            have gf_166 : gfr (fun x => x = 75 ∨ x = 76) G G_159 := gfr_mono (gfr_tr gf_157 gf_165) (fun x h9 => by rcases h9 with h9 | h9 <;> exact h9)
            have f_167 : G_159 hm = some (70, .inr (9, [.int (I 0), .int (I 1), .ref (A 2), .ref (A 3), .ref (A 4), .ref (A 5), .int (I 6), .int (I 7), .ref (A 8), .ref (A 9), .int (I 10), .ref (A 11), .ref (A 12), .ref (A 13), .int (I 14), .ref (A 15), .ref (A 16), .ref (A 17), .ref (A 18), .int (I 19), .int (I 20), .int (I 21)])) := f_164
            exact hret 115 _ _ _ d_Mo_reduce_115 hB1 hB2 ⟨rfl, ⟨_, mr_163, by show R2 0 = _; rw [q0, e0]; unfold rdn; rw [← hgc], by show R2 1 / R2 one = _; rw [q1, qo, e1]; unfold rdd; rw [← hgc], q2.trans e2, q3.trans e3⟩, by rw [if_neg hT]; exact f_167, gfr_mono gf_166 (fun x h9 => Or.inr h9)⟩
          · skip
            have nc_131 : zz_127 ≤ 1 := (nn_gt (a := zz_127) (b := 1) (by omega) (by omega)).2 c_131
            refine gs (pc' := 76) (fun _ _ _ _ _ hl => lv_aload_n hx hb d_Mo_reduce_75 rfl (lv_at hl 2 rfl)) ?_
            refine g_get hx hb hts hin_Mo hown hK ho rfl 8 (by decide) (hts _ wm762) (fun _ h9 => h9) rfl d_Mo_reduce_76 ?_
            refine gs (pc' := 82) (fun _ _ _ _ _ hl => lv_sipush (v := nI 4300) hx hb d_Mo_reduce_79 (by decide)) ?_
            refine gs (pc' := 83) (fun _ _ _ _ _ hl => lv_iload_n hx hb d_Mo_reduce_82 rfl (lv_at hl 0 rfl)) ?_
            refine gs (pc' := 84) (fun _ _ _ _ _ hl => lv_imul hx hb d_Mo_reduce_83) ?_
            refine g_eqi (show (nI 4300) * (nI one) = nI (4300 * one) from pk_mul _ _) ?_
            refine g_iald hx hb hK 0 f_119 rfl (show vp_in (nI (4300 * one)) 38700 from vp_in_nI (by omega) (by omega)) d_Mo_reduce_84 ?_
            refine g_eqi (show lm_117 (nI (4300 * one)).toNatClampNeg = lm_117 (4300 * one) from by rw [nI_clamp (by omega)]) ?_
            have hz1 : zz_127 = 1 := by
              have : zz_127 ≠ 0 := fun e9 => by have := (isD_z0 hD_130).mp e9; omega
              omega
            have hone := isD_one hD_130 h1 (by have h9 := isD_lt hD_130; rw [hz1, Nat.pow_one] at h9; exact h9)
            have hol : R1 one < 1000000000 := by have h9 := isD_lt hD_130; rw [hz1, Nat.pow_one] at h9; exact h9
            refine g_eqi (show lm_117 (4300 * one) = nI (R1 one) from hone.2) ?_
            refine gs (pc' := 86) (fun _ _ _ _ _ hl => lv_iconst (v := nI 1) hx hb d_Mo_reduce_85 (by decide)) ?_
            refine gsb (pc1 := 115) (pc2 := 89) (fun _ _ _ _ _ => lv_icmp_le (tgt := 115) hx hb d_Mo_reduce_86 (by decide)) (fun c_168 => ?_) (fun c_168 => ?_)
            · skip
              have nc_168 : (R1 one) ≤ 1 := (nn_le (a := (R1 one)) (b := 1) (by omega) (by omega)).1 c_168
              have hg1 : R1 one = 1 := by omega
              exact hret 115 _ _ _ d_Mo_reduce_115 hB1 hB2 ⟨rfl, ⟨R1, hM, by unfold rdn; rw [← hgc, hg1, Nat.div_one]; exact e0, by unfold rdd; rw [← hgc, hg1, Nat.div_one]; exact e1, e2, e3⟩, by rw [if_neg hT]; exact ho, gfr_mono hfr (fun x h9 => Or.inr h9)⟩
            · skip
              have nc_168 : (R1 one) > 1 := (nn_le (a := (R1 one)) (b := 1) (by omega) (by omega)).2 c_168
              refine gs (pc' := 90) (fun _ _ _ _ _ hl => lv_aload_n hx hb d_Mo_reduce_89 rfl (lv_at hl 2 rfl)) ?_
              refine gs (pc' := 91) (fun _ _ _ _ _ hl => lv_iconst (v := nI 0) hx hb d_Mo_reduce_90 (by decide)) ?_
              refine gs (pc' := 92) (fun _ _ _ _ _ hl => lv_iload_n hx hb d_Mo_reduce_91 rfl (lv_at hl 0 rfl)) ?_
              refine g_outv hlo (g_runV (As := [.int (nI 0), .int (nI one)]) (rest := []) ⟨hx, hb, hml, hown, hts⟩ hK hZ hRc hRs (c_Mo_divide l D cA lo MC MS Gk B hm A I ho R1 hM 0 (by decide) one hb_one (by omega) (by decide) (by omega) h1 k (by rw [e0]; exact hkt) hb1 hk hB1 hB2) (fun _ _ => cwV 2 hts (tb_good (tb_cons wm851 (tb_cons wm853 (tb_cons ws24 (tb_cons wm12 k_Mo_divide))))) rfl rfl rfl (by decide +kernel) ⟨by rw [hRf]; exact Nat.le_of_ble_eq_true rfl, by rw [hRl]; exact Nat.le_of_ble_eq_true rfl⟩) ho rfl hB1 hB2 rfl (Nat.le_of_ble_eq_true rfl) d_Mo_reduce_92) (fun G_169 B_170 p_171 => ?_)
              obtain ⟨e_172, mr_173, f_174, gf_175⟩ := p_171
              have e_172b : B = B_170 := e_172.symm
              subst e_172b
              have gf_176 : gfr (fun x => x = 75 ∨ x = 76) G G_169 := gfr_mono (gfr_tr hfr gf_175) (fun x h9 => by rcases h9 with h9 | h9 <;> exact h9)
              have f_177 : G_169 hm = some (70, .inr (9, [.int (I 0), .int (I 1), .ref (A 2), .ref (A 3), .ref (A 4), .ref (A 5), .int (I 6), .int (I 7), .ref (A 8), .ref (A 9), .int (I 10), .ref (A 11), .ref (A 12), .ref (A 13), .int (I 14), .ref (A 15), .ref (A 16), .ref (A 17), .ref (A 18), .int (I 19), .int (I 20), .int (I 21)])) := f_174
              refine gs (pc' := 96) (fun _ _ _ _ _ hl => lv_aload_n hx hb d_Mo_reduce_95 rfl (lv_at hl 2 rfl)) ?_
              refine gs (pc' := 97) (fun _ _ _ _ _ hl => lv_iconst (v := nI 0) hx hb d_Mo_reduce_96 (by decide)) ?_
              refine gs (pc' := 99) (fun _ _ _ _ _ hl => lv_bipush (v := nI 8) hx hb d_Mo_reduce_97 (by decide)) ?_
              refine g_outv hlo (g_runV (As := [.int (nI 0), .int (nI 8)]) (rest := []) ⟨hx, hb, hml, hown, hts⟩ hK hZ hRc hRs (c_Mo_copy l D cA lo MC MS G_169 B hm A I f_177 (fup (fup R1 8 (R1 0 / R1 one)) 0 (R1 0 % R1 one)) mr_173 0 (by decide) 8 (by decide) (by decide) hB1 hB2) (fun _ _ => cwV 2 hts (tb_good (tb_cons wm847 (tb_cons wm849 (tb_cons ws23 (tb_cons wm12 k_Mo_copy))))) rfl rfl rfl (by decide +kernel) ⟨by rw [hRf]; exact Nat.le_of_ble_eq_true rfl, by rw [hRl]; exact Nat.le_of_ble_eq_true rfl⟩) f_177 rfl hB1 hB2 rfl (Nat.le_of_ble_eq_true rfl) d_Mo_reduce_99) (fun G_178 B_179 p_180 => ?_)
              obtain ⟨e_181, mr_182, f_183, gf_184⟩ := p_180
              have e_181b : B = B_179 := e_181.symm
              subst e_181b
              obtain ⟨R2, hR2⟩ : ∃ y9, y9 = fup (fup (fup R1 8 (R1 0 / R1 one)) 0 (R1 0 % R1 one)) 0 ((fup (fup R1 8 (R1 0 / R1 one)) 0 (R1 0 % R1 one)) 8) := ⟨_, rfl⟩
              rw [← hR2] at mr_182
              have q0 : R2 0 = R1 0 / R1 one := by rw [hR2]; rfl
              have q1 : R2 1 = R1 1 := by rw [hR2]; rfl
              have q2 : R2 2 = R1 2 := by rw [hR2]; rfl
              have q3 : R2 3 = R1 3 := by rw [hR2]; rfl
              have qo : R2 one = R1 one := by rw [hR2, fup_n (by omega), fup_n (by omega), fup_n (by omega)]
              have gf_185 : gfr (fun x => x = 75 ∨ x = 76) G G_178 := gfr_mono (gfr_tr gf_176 gf_184) (fun x h9 => by rcases h9 with h9 | h9 <;> exact h9)
              have f_186 : G_178 hm = some (70, .inr (9, [.int (I 0), .int (I 1), .ref (A 2), .ref (A 3), .ref (A 4), .ref (A 5), .int (I 6), .int (I 7), .ref (A 8), .ref (A 9), .int (I 10), .ref (A 11), .ref (A 12), .ref (A 13), .int (I 14), .ref (A 15), .ref (A 16), .ref (A 17), .ref (A 18), .int (I 19), .int (I 20), .int (I 21)])) := f_183
              refine gs (pc' := 103) (fun _ _ _ _ _ hl => lv_aload_n hx hb d_Mo_reduce_102 rfl (lv_at hl 2 rfl)) ?_
              refine gs (pc' := 104) (fun _ _ _ _ _ hl => lv_iconst (v := nI 1) hx hb d_Mo_reduce_103 (by decide)) ?_
              refine gs (pc' := 105) (fun _ _ _ _ _ hl => lv_iload_n hx hb d_Mo_reduce_104 rfl (lv_at hl 0 rfl)) ?_
              refine g_outv hlo (g_runV (As := [.int (nI 1), .int (nI one)]) (rest := []) ⟨hx, hb, hml, hown, hts⟩ hK hZ hRc hRs (c_Mo_divide l D cA lo MC MS G_178 B hm A I f_186 R2 mr_182 1 (by decide) one hb_one (by omega) (by decide) (by omega) (by rw [qo]; exact h1) k (by rw [q1, e1]; exact hkb) (by rw [qo]; exact hb1) hk hB1 hB2) (fun _ _ => cwV 2 hts (tb_good (tb_cons wm851 (tb_cons wm853 (tb_cons ws24 (tb_cons wm12 k_Mo_divide))))) rfl rfl rfl (by decide +kernel) ⟨by rw [hRf]; exact Nat.le_of_ble_eq_true rfl, by rw [hRl]; exact Nat.le_of_ble_eq_true rfl⟩) f_186 rfl hB1 hB2 rfl (Nat.le_of_ble_eq_true rfl) d_Mo_reduce_105) (fun G_187 B_188 p_189 => ?_)
              obtain ⟨e_190, mr_191, f_192, gf_193⟩ := p_189
              have e_190b : B = B_188 := e_190.symm
              subst e_190b
              have gf_194 : gfr (fun x => x = 75 ∨ x = 76) G G_187 := gfr_mono (gfr_tr gf_185 gf_193) (fun x h9 => by rcases h9 with h9 | h9 <;> exact h9)
              have f_195 : G_187 hm = some (70, .inr (9, [.int (I 0), .int (I 1), .ref (A 2), .ref (A 3), .ref (A 4), .ref (A 5), .int (I 6), .int (I 7), .ref (A 8), .ref (A 9), .int (I 10), .ref (A 11), .ref (A 12), .ref (A 13), .int (I 14), .ref (A 15), .ref (A 16), .ref (A 17), .ref (A 18), .int (I 19), .int (I 20), .int (I 21)])) := f_192
              refine gs (pc' := 109) (fun _ _ _ _ _ hl => lv_aload_n hx hb d_Mo_reduce_108 rfl (lv_at hl 2 rfl)) ?_
              refine gs (pc' := 110) (fun _ _ _ _ _ hl => lv_iconst (v := nI 1) hx hb d_Mo_reduce_109 (by decide)) ?_
              refine gs (pc' := 112) (fun _ _ _ _ _ hl => lv_bipush (v := nI 8) hx hb d_Mo_reduce_110 (by decide)) ?_
              refine g_outv hlo (g_runV (As := [.int (nI 1), .int (nI 8)]) (rest := []) ⟨hx, hb, hml, hown, hts⟩ hK hZ hRc hRs (c_Mo_copy l D cA lo MC MS G_187 B hm A I f_195 (fup (fup R2 8 (R2 1 / R2 one)) 1 (R2 1 % R2 one)) mr_191 1 (by decide) 8 (by decide) (by decide) hB1 hB2) (fun _ _ => cwV 2 hts (tb_good (tb_cons wm847 (tb_cons wm849 (tb_cons ws23 (tb_cons wm12 k_Mo_copy))))) rfl rfl rfl (by decide +kernel) ⟨by rw [hRf]; exact Nat.le_of_ble_eq_true rfl, by rw [hRl]; exact Nat.le_of_ble_eq_true rfl⟩) f_195 rfl hB1 hB2 rfl (Nat.le_of_ble_eq_true rfl) d_Mo_reduce_112) (fun G_196 B_197 p_198 => ?_)
              obtain ⟨e_199, mr_200, f_201, gf_202⟩ := p_198
              have e_199b : B = B_197 := e_199.symm
              subst e_199b
              have gf_203 : gfr (fun x => x = 75 ∨ x = 76) G G_196 := gfr_mono (gfr_tr gf_194 gf_202) (fun x h9 => by rcases h9 with h9 | h9 <;> exact h9)
              have f_204 : G_196 hm = some (70, .inr (9, [.int (I 0), .int (I 1), .ref (A 2), .ref (A 3), .ref (A 4), .ref (A 5), .int (I 6), .int (I 7), .ref (A 8), .ref (A 9), .int (I 10), .ref (A 11), .ref (A 12), .ref (A 13), .int (I 14), .ref (A 15), .ref (A 16), .ref (A 17), .ref (A 18), .int (I 19), .int (I 20), .int (I 21)])) := f_201
              exact hret 115 _ _ _ d_Mo_reduce_115 hB1 hB2 ⟨rfl, ⟨_, mr_200, by show R2 0 = _; rw [q0, e0]; unfold rdn; rw [← hgc], by show R2 1 / R2 one = _; rw [q1, qo, e1]; unfold rdd; rw [← hgc], q2.trans e2, q3.trans e3⟩, by rw [if_neg hT]; exact f_204, gfr_mono gf_203 (fun x h9 => Or.inr h9)⟩
        · skip
          have nc_126 : zz_122 > 0 := (n0_le (a := zz_122) (by omega)).2 c_126
          have h2p : 0 < R1 two := Nat.pos_of_ne_zero fun e9 => by have := (isD_z0 hD_125).mpr e9; omega
          refine gs (pc' := 51) (fun _ _ _ _ _ hl => lv_aload_n hx hb d_Mo_reduce_50 rfl (lv_at hl 2 rfl)) ?_
          refine gs (pc' := 52) (fun _ _ _ _ _ hl => lv_iload_n hx hb d_Mo_reduce_51 rfl (lv_at hl 0 rfl)) ?_
          refine gs (pc' := 53) (fun _ _ _ _ _ hl => lv_iload_n hx hb d_Mo_reduce_52 rfl (lv_at hl 1 rfl)) ?_
          refine g_outv hlo (g_runV (As := [.int (nI one), .int (nI two)]) (rest := []) ⟨hx, hb, hml, hown, hts⟩ hK hZ hRc hRs (c_Mo_divide l D cA lo MC MS Gk B hm A I ho R1 hM one hb_one two hb_two (by omega) (by omega) (by omega) h2p k hb1 hb2 hk hB1 hB2) (fun _ _ => cwV 2 hts (tb_good (tb_cons wm851 (tb_cons wm853 (tb_cons ws24 (tb_cons wm12 k_Mo_divide))))) rfl rfl rfl (by decide +kernel) ⟨by rw [hRf]; exact Nat.le_of_ble_eq_true rfl, by rw [hRl]; exact Nat.le_of_ble_eq_true rfl⟩) ho rfl hB1 hB2 rfl (Nat.le_of_ble_eq_true rfl) d_Mo_reduce_53) (fun G_205 B_206 p_207 => ?_)
          obtain ⟨e_208, mr_209, f_210, gf_211⟩ := p_207
          have e_208b : B = B_206 := e_208.symm
          subst e_208b
          have gf_212 : gfr (fun x => x = 75 ∨ x = 76) G G_205 := gfr_mono (gfr_tr hfr gf_211) (fun x h9 => by rcases h9 with h9 | h9 <;> exact h9)
          have f_213 : G_205 hm = some (70, .inr (9, [.int (I 0), .int (I 1), .ref (A 2), .ref (A 3), .ref (A 4), .ref (A 5), .int (I 6), .int (I 7), .ref (A 8), .ref (A 9), .int (I 10), .ref (A 11), .ref (A 12), .ref (A 13), .int (I 14), .ref (A 15), .ref (A 16), .ref (A 17), .ref (A 18), .int (I 19), .int (I 20), .int (I 21)])) := f_210
          refine gs (pc' := 57) (fun _ _ _ _ _ hl => lv_iload_n hx hb d_Mo_reduce_56 rfl (lv_at hl 0 rfl)) ?_
          refine gst (pc' := 58) (L' := [(3, .int (nI one)), (1, .int (nI one)), (2, .int (nI two)), (0, .ref hm)]) (fun _ _ _ _ _ hl => lv_istore_n hx hb d_Mo_reduce_57 rfl hl (by decide) rfl) ?_
          refine gs (pc' := 59) (fun _ _ _ _ _ hl => lv_iload_n hx hb d_Mo_reduce_58 rfl (lv_at hl 2 rfl)) ?_
          refine gst (pc' := 60) (L' := [(1, .int (nI two)), (3, .int (nI one)), (2, .int (nI two)), (0, .ref hm)]) (fun _ _ _ _ _ hl => lv_istore_n hx hb d_Mo_reduce_59 rfl hl (by decide) rfl) ?_
          refine gs (pc' := 61) (fun _ _ _ _ _ hl => lv_iload_n hx hb d_Mo_reduce_60 rfl (lv_at hl 1 rfl)) ?_
          refine gst (pc' := 62) (L' := [(2, .int (nI one)), (1, .int (nI two)), (3, .int (nI one)), (0, .ref hm)]) (fun _ _ _ _ _ hl => lv_istore_n hx hb d_Mo_reduce_61 rfl hl (by decide) rfl) ?_
          refine gs (pc' := 41) (fun _ _ _ _ _ hl => lv_goto (tgt := 41) hx hb d_Mo_reduce_62 (by decide)) ?_
          refine gsub [1, 0, 3] rfl ?_
          have hrl := Nat.mod_lt (R1 one) h2p
          have ea : (fup (fup R1 8 (R1 one / R1 two)) one (R1 one % R1 two)) two = R1 two := by rw [fup_n (show two ≠ one by omega), fup_n (show two ≠ 8 by omega)]
          have eb : (fup (fup R1 8 (R1 one / R1 two)) one (R1 one % R1 two)) one = R1 one % R1 two := fup_s
          have eo : ∀ q, q < 4 → (fup (fup R1 8 (R1 one / R1 two)) one (R1 one % R1 two)) q = R1 q := fun q h9 => by rw [fup_n (show q ≠ one by omega), fup_n (show q ≠ 8 by omega)]
          exact ih two one _ G_205 (by omega) (by rw [eb]; omega) (by rw [ea]; exact h2p) (by rw [ea]; exact hb2) (by rw [eb]; omega) (by rw [ea, eb, Nat.gcd_comm, ← Nat.gcd_rec, Nat.gcd_comm]; exact hgc) ((eo 0 (by decide)).trans e0) ((eo 1 (by decide)).trans e1) ((eo 2 (by decide)).trans e2) ((eo 3 (by decide)).trans e3) mr_209 f_213 gf_212
    exact loop (Rg 1) 6 7 (fup (fup Rg 6 (Rg 0)) 7 ((fup Rg 6 (Rg 0)) 1)) G_20 (Or.inl ⟨rfl, rfl⟩) (by rw [hRb]; exact Nat.le_refl _) (by rw [hRa]; omega) (by rw [hRa]; exact hkt) (by rw [hRb]; exact hkb) (by rw [hRa, hRb]) rfl rfl rfl rfl mr_24 f_28 gf_27
  · skip
    have nc_10 : zz_6 = 0 := (n0_ne (a := zz_6) (by omega)).2 c_10
    have hT : Rg 0 = 0 := (isD_z0 hD_9).mp nc_10
    refine gs (pc' := 10) (fun _ _ _ _ _ hl => lv_aload_n hx hb d_Mo_reduce_9 rfl (lv_at hl 0 rfl)) ?_
    refine gs (pc' := 11) (fun _ _ _ _ _ hl => lv_iconst (v := nI 0) hx hb d_Mo_reduce_10 (by decide)) ?_
    refine g_put (ty := .int) hx hb hts hin_Mo ty_Mo ty_Mo_ok nm_Mo hown hK hob rfl 6 (by decide) (hts _ wm760) (fun _ h9 => h9) rfl (by decide +kernel) rfl rfl (Nat.le_of_ble_eq_true rfl) d_Mo_reduce_11 (fun G_214 f_215 o_216 => ?_)
    have f_217 : G_214 hm = some (70, .inr (9, [.int (I 0), .int (I 1), .ref (A 2), .ref (A 3), .ref (A 4), .ref (A 5), .int (nI 0), .int (I 7), .ref (A 8), .ref (A 9), .int (I 10), .ref (A 11), .ref (A 12), .ref (A 13), .int (I 14), .ref (A 15), .ref (A 16), .ref (A 17), .ref (A 18), .int (I 19), .int (I 20), .int (I 21)])) := f_215
    have f_218 : G_214 (A 8) = some (75, .inl (cA 0, 38700, .inl lm_1)) := (o_216 _ (gne f_3 hob (fun e => by cases e))).trans f_3
    have f_219 : G_214 (A 9) = some (76, .inl (cA 0, 9, .inl sz_2)) := (o_216 _ (gne f_4 hob (fun e => by cases e))).trans f_4
    have hf70 : gfr (fun x => x = 70) G G_214 := gfr_put gfr_rf hob rfl o_216
    have hR70 : MR cA A Rg G_214 := MR_fr hR hf70 (show ¬ (75 : Nat) = 70 by decide) (show ¬ (76 : Nat) = 70 by decide)
    refine gs (pc' := 15) (fun _ _ _ _ _ hl => lv_aload_n hx hb d_Mo_reduce_14 rfl (lv_at hl 0 rfl)) ?_
    refine gs (pc' := 16) (fun _ _ _ _ _ hl => lv_iconst (v := nI 1) hx hb d_Mo_reduce_15 (by decide)) ?_
    refine gs (pc' := 17) (fun _ _ _ _ _ hl => lv_lconst (v := lN 1) hx hb d_Mo_reduce_16 (by decide)) ?_
    have hgz : gfr (fun x => x = 75 ∨ x = 76) G_214 G_214 := gfr_rf
    refine g_outv hlo (g_runV (As := [.int (nI 1), .long (lN 1)]) (rest := []) ⟨hx, hb, hml, hown, hts⟩ hK hZ hRc hRs (c_Mo_set l D cA lo MC MS G_214 B hm A (fup I 6 (nI 0)) f_217 Rg hR70 1 (by decide) 1 (by omega) hB1 hB2) (fun _ _ => cwV 2 hts (tb_good (tb_cons wm838 (tb_cons wm840 (tb_cons ws21 (tb_cons wm12 k_Mo_set))))) rfl rfl rfl (by decide +kernel) ⟨by rw [hRf]; exact Nat.le_of_ble_eq_true rfl, by rw [hRl]; exact Nat.le_of_ble_eq_true rfl⟩) f_217 rfl hB1 hB2 rfl (Nat.le_of_ble_eq_true rfl) d_Mo_reduce_17) (fun G_220 B_221 p_222 => ?_)
    obtain ⟨e_223, mr_224, f_225, gf_226⟩ := p_222
    have e_223b : B = B_221 := e_223.symm
    subst e_223b
    exact hret 20 _ _ _ d_Mo_reduce_20 hB1 hB2 ⟨rfl, ⟨_, mr_224, by rw [fup_n (by decide), hT]; unfold rdn; rw [Nat.zero_div], by rw [fup_s, hT]; unfold rdd; rw [Nat.gcd_zero_left]; exact (Nat.div_self hpos).symm, fup_n (by decide), fup_n (by decide)⟩, by rw [if_pos hT]; exact f_225, gfr_mono (gfr_tr hf70 gf_226) (fun x h9 => by rcases h9 with h9 | h9; (exact Or.inl h9); (exact Or.inr h9))⟩
