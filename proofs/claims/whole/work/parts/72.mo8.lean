set_option maxHeartbeats 4000000 in
set_option maxRecDepth 100000 in
theorem c_Mo_divide (l : Launch) (D : va_G) (cA : Nat → ClassId) (lo MC MS : Nat) (G : gT) (B : Nat × Nat) (hm : Nat) (A : Nat → Nat) (I : Nat → Int32) (hob : G hm = some (70, .inr (9, mfs A I))) (Rg : Nat → Nat) (hR : MR cA A Rg G) (r : Nat) (hb_r : r < 9) (o : Nat) (hb_o : o < 9) (hro : o ≠ r) (hr8 : r ≠ 8) (ho8 : o ≠ 8) (hpos : 0 < Rg o) (k : Nat) (hk1 : Rg r < 1000000000 ^ k) (hk2 : Rg o < 1000000000 ^ k) (hk : k ≤ 4280) (hB1 : B.1 ≤ MC) (hB2 : B.2 ≤ MS) : gMet l y_Mo_divide w_Mo_divide 2 49 D clS (gtys cA) lo MC MS [.ref hm, .int (nI r), .int (nI o)] G B (gQv D clS lo (fun u => u.2 = B ∧ MR cA A (fup (fup Rg 8 (Rg r / Rg o)) r (Rg r % Rg o)) u.1 ∧ u.1 hm = some (70, .inr (9, mfs A I)) ∧ gfr (fun x => x = 75 ∨ x = 76) G u.1)) := by
  refine g_metv (cc := prog_11_method_15_code) (nL := 18) (L := [(0, .ref hm), (1, .int (nI r)), (2, .int (nI o))]) (by decide +kernel) rfl (Nat.le_of_ble_eq_true rfl) rfl ?_
  intro p e R s m args below meth c Q hF hRc hRs hRf hRl hret
  obtain ⟨hx, hb, hr, hml, hts0, hown, hlocks, hin, hK, hlo, hZ⟩ := hF
  have hts : ∀ w ∈ tbg, w.before args s = true := fun w h => hts0 w (List.mem_cons_of_mem _ h)
  refine gs (pc' := 1) (fun _ _ _ _ _ hl => lv_aload_n hx hb d_Mo_divide_0 rfl (lv_at hl 0 rfl)) ?_
  refine gs (pc' := 2) (fun _ _ _ _ _ hl => lv_iload_n hx hb d_Mo_divide_1 rfl (lv_at hl 1 rfl)) ?_
  refine gs (pc' := 3) (fun _ _ _ _ _ hl => lv_iload_n hx hb d_Mo_divide_2 rfl (lv_at hl 2 rfl)) ?_
  refine g_outi hlo (g_runV (As := [.int (nI r), .int (nI o)]) (rest := []) ⟨hx, hb, hml, hown, hts⟩ hK hZ hRc hRs (c_Mo_compare l D cA lo MC MS G B hm A I hob Rg hR r hb_r o hb_o hB1 hB2) (fun _ _ => cwV 2 hts (tb_good (tb_cons wm855 (tb_cons wm857 (tb_cons ws25 (tb_cons wm12 k_Mo_compare))))) rfl rfl rfl (by decide +kernel) ⟨by rw [hRf]; exact Nat.le_of_ble_eq_true rfl, by rw [hRl]; exact Nat.le_of_ble_eq_true rfl⟩) hob rfl hB1 hB2 rfl (Nat.le_of_ble_eq_true rfl) d_Mo_divide_3) (fun r_4 G_1 B_2 p_3 => ?_)
  obtain ⟨u_5, hcm⟩ := p_3
  cases u_5
  refine gsb (pc1 := 18) (pc2 := 9) (fun _ _ _ _ _ => lv_if_ge (tgt := 18) hx hb d_Mo_divide_6 (by decide)) (fun c_6 => ?_) (fun c_6 => ?_)
  · skip
    have hge := cmp_ge hcm c_6
    refine gs (pc' := 19) (fun _ _ _ _ _ hl => lv_aload_n hx hb d_Mo_divide_18 rfl (lv_at hl 0 rfl)) ?_
    refine g_get hx hb hts hin_Mo hown hK hob rfl 9 (by decide) (hts _ wm763) (fun _ h9 => h9) rfl d_Mo_divide_19 ?_
    refine gs (pc' := 23) (fun _ _ _ _ _ hl => lv_iload_n hx hb d_Mo_divide_22 rfl (lv_at hl 2 rfl)) ?_
    obtain ⟨lm_7, sz_8, f_9, f_10, rg_11⟩ := id hR
    refine g_iald hx hb hK 0 f_10 rfl (show vp_in (nI o) 9 from vp_in_nI (by omega) (by omega)) d_Mo_divide_23 ?_
    refine g_eqi (show sz_8 (nI o).toNatClampNeg = sz_8 o from by rw [nI_clamp (by omega)]) ?_
    obtain ⟨zz_12, hg_13, hz_14, hD_15⟩ := rg_11 o hb_o
    refine g_eqi (show sz_8 o = nI zz_12 from hg_13) ?_
    refine gs (pc' := 25) (fun _ _ _ _ _ hl => lv_iconst (v := nI 1) hx hb d_Mo_divide_24 (by decide)) ?_
    refine gsb (pc1 := 60) (pc2 := 28) (fun _ _ _ _ _ => lv_icmp_ne (tgt := 60) hx hb d_Mo_divide_25 (by decide)) (fun c_16 => ?_) (fun c_16 => ?_)
    · skip
      have nc_16 : zz_12 ≠ 1 := (nn_ne (a := zz_12) (b := 1) (by omega) (by omega)).1 c_16
      have hz00 : zz_12 ≠ 0 := fun e9 => by have := (isD_z0 hD_15).mp e9; omega
      obtain ⟨md, hmd⟩ : ∃ md, zz_12 = md + 2 := ⟨zz_12 - 2, by omega⟩
      subst hmd
      have hR8 : 1000000000 ^ (md + 1) ≤ Rg o := isD_ge hD_15 (by omega)
      refine gs (pc' := 62) (fun _ _ _ _ _ hl => lv_ldc (v := 1000000000) hx hb hown (hts _ wm867) d_Mo_divide_60) ?_
      refine g_eqi (show 1000000000 = nI 1000000000 from rfl) ?_
      refine gs (pc' := 63) (fun _ _ _ _ _ hl => lv_aload_n hx hb d_Mo_divide_62 rfl (lv_at hl 0 rfl)) ?_
      refine g_get hx hb hts hin_Mo hown hK hob rfl 8 (by decide) (hts _ wm762) (fun _ h9 => h9) rfl d_Mo_divide_63 ?_
      refine gs (pc' := 69) (fun _ _ _ _ _ hl => lv_sipush (v := nI 4300) hx hb d_Mo_divide_66 (by decide)) ?_
      refine gs (pc' := 70) (fun _ _ _ _ _ hl => lv_iload_n hx hb d_Mo_divide_69 rfl (lv_at hl 2 rfl)) ?_
      refine gs (pc' := 71) (fun _ _ _ _ _ hl => lv_imul hx hb d_Mo_divide_70) ?_
      refine g_eqi (show (nI 4300) * (nI o) = nI (4300 * o) from pk_mul _ _) ?_
      refine gs (pc' := 72) (fun _ _ _ _ _ hl => lv_aload_n hx hb d_Mo_divide_71 rfl (lv_at hl 0 rfl)) ?_
      refine g_get hx hb hts hin_Mo hown hK hob rfl 9 (by decide) (hts _ wm763) (fun _ h9 => h9) rfl d_Mo_divide_72 ?_
      refine gs (pc' := 76) (fun _ _ _ _ _ hl => lv_iload_n hx hb d_Mo_divide_75 rfl (lv_at hl 2 rfl)) ?_
      refine g_iald hx hb hK 0 f_10 rfl (show vp_in (nI o) 9 from vp_in_nI (by omega) (by omega)) d_Mo_divide_76 ?_
      refine g_eqi (show sz_8 (nI o).toNatClampNeg = sz_8 o from by rw [nI_clamp (by omega)]) ?_
      refine g_eqi (show sz_8 o = nI (md + 2) from hg_13) ?_
      refine gs (pc' := 78) (fun _ _ _ _ _ hl => lv_iadd hx hb d_Mo_divide_77) ?_
      refine g_eqi (show (nI (4300 * o)) + (nI (md + 2)) = nI ((4300 * o) + (md + 2)) from nI_add _ _) ?_
      refine gs (pc' := 79) (fun _ _ _ _ _ hl => lv_iconst (v := nI 1) hx hb d_Mo_divide_78 (by decide)) ?_
      refine gs (pc' := 80) (fun _ _ _ _ _ hl => lv_isub hx hb d_Mo_divide_79) ?_
      refine g_eqi (show (nI ((4300 * o) + (md + 2))) - (nI 1) = nI (4300 * o + (md + 1)) from (pk_sub (by omega)).trans (congrArg nI (show ((4300 * o) + (md + 2)) - 1 = 4300 * o + (md + 1) by omega))) ?_
      refine g_iald hx hb hK 0 f_9 rfl (show vp_in (nI (4300 * o + (md + 1))) 38700 from vp_in_nI (by omega) (by omega)) d_Mo_divide_80 ?_
      refine g_eqi (show lm_7 (nI (4300 * o + (md + 1))).toNatClampNeg = lm_7 (4300 * o + (md + 1)) from by rw [nI_clamp (by omega)]) ?_
      obtain ⟨t0, ht0e⟩ : ∃ y9, y9 = df (sh lm_7 o) (md + 1) := ⟨_, rfl⟩
      have ht0b : t0 < 1000000000 := by rw [ht0e]; exact (hD_15.1 (md + 1) (by omega)).2
      have ht01 : 1 ≤ t0 := by
        rcases hD_15.2.1 with e9 | e9
        · omega
        · rw [ht0e]; exact Nat.pos_of_ne_zero e9
      refine g_eqi (show lm_7 (4300 * o + (md + 1)) = nI t0 from by rw [ht0e]; exact (hD_15.1 (md + 1) (by omega)).1) ?_
      refine gs (pc' := 82) (fun _ _ _ _ _ hl => lv_iconst (v := nI 1) hx hb d_Mo_divide_81 (by decide)) ?_
      refine gs (pc' := 83) (fun _ _ _ _ _ hl => lv_iadd hx hb d_Mo_divide_82) ?_
      refine g_eqi (show (nI t0) + (nI 1) = nI (t0 + 1) from nI_add _ _) ?_
      refine gs (pc' := 84) (fun _ _ _ _ _ hl => lv_idiv hx hb d_Mo_divide_83 (fun e => absurd ((nI_eq (by omega) (by omega)).mp (e.trans (show _ = nI 0 from rfl))) (by omega))) ?_
      refine g_eqi (show (nI 1000000000) / (nI (t0 + 1)) = nI (1000000000 / (t0 + 1)) from pk_div (by omega) (by omega) (by omega)) ?_
      obtain ⟨sc, hsc⟩ : ∃ y9, y9 = 1000000000 / (t0 + 1) := ⟨_, rfl⟩
      obtain ⟨hs1, hs2, hs3⟩ := kd_scale ht01 ht0b hsc
      have hs4 : sc ≤ 1000000000 := Nat.le_trans (Nat.le_mul_of_pos_right sc (show 0 < t0 + 1 by omega)) hs2
      refine g_eqi (show nI (1000000000 / (t0 + 1)) = nI sc from by rw [hsc]) ?_
      refine gst (pc' := 85) (L' := [(3, .int (nI sc)), (0, .ref hm), (1, .int (nI r)), (2, .int (nI o))]) (fun _ _ _ _ _ hl => lv_istore_n hx hb d_Mo_divide_84 rfl hl (by decide) rfl) ?_
      refine gs (pc' := 86) (fun _ _ _ _ _ hl => lv_aload_n hx hb d_Mo_divide_85 rfl (lv_at hl 1 rfl)) ?_
      refine gs (pc' := 87) (fun _ _ _ _ _ hl => lv_iload_n hx hb d_Mo_divide_86 rfl (lv_at hl 2 rfl)) ?_
      refine gs (pc' := 88) (fun _ _ _ _ _ hl => lv_iload_n hx hb d_Mo_divide_87 rfl (lv_at hl 0 rfl)) ?_
      refine gs (pc' := 89) (fun _ _ _ _ _ hl => lv_i2l (v := lN sc) hx hb d_Mo_divide_88 (nI_l (by omega))) ?_
      refine g_outv hlo (g_runV (As := [.int (nI r), .long (lN sc)]) (rest := []) ⟨hx, hb, hml, hown, hts⟩ hK hZ hRc hRs (c_Mo_scale l D cA lo MC MS G B hm A I hob Rg hR r hb_r sc hs4 k hk1 (by omega) hB1 hB2) (fun _ _ => cwV 2 hts (tb_good (tb_cons wm868 (tb_cons wm870 (tb_cons ws28 (tb_cons wm12 k_Mo_scale))))) rfl rfl rfl (by decide +kernel) ⟨by rw [hRf]; exact Nat.le_of_ble_eq_true rfl, by rw [hRl]; exact Nat.le_of_ble_eq_true rfl⟩) hob rfl hB1 hB2 rfl (Nat.le_of_ble_eq_true rfl) d_Mo_divide_89) (fun G_17 B_18 p_19 => ?_)
      obtain ⟨e_20, mr_21, f_22, gf_23⟩ := p_19
      have e_20b : B = B_18 := e_20.symm
      subst e_20b
      have gf_24 : gfr (fun x => x = 75 ∨ x = 76) G G_17 := gfr_mono (gfr_tr gfr_rf gf_23) (fun x h9 => by rcases h9 with h9 | h9 <;> exact h9)
      have f_25 : G_17 hm = some (70, .inr (9, [.int (I 0), .int (I 1), .ref (A 2), .ref (A 3), .ref (A 4), .ref (A 5), .int (I 6), .int (I 7), .ref (A 8), .ref (A 9), .int (I 10), .ref (A 11), .ref (A 12), .ref (A 13), .int (I 14), .ref (A 15), .ref (A 16), .ref (A 17), .ref (A 18), .int (I 19), .int (I 20), .int (I 21)])) := f_22
      refine gs (pc' := 93) (fun _ _ _ _ _ hl => lv_aload_n hx hb d_Mo_divide_92 rfl (lv_at hl 1 rfl)) ?_
      refine gs (pc' := 94) (fun _ _ _ _ _ hl => lv_iload_n hx hb d_Mo_divide_93 rfl (lv_at hl 3 rfl)) ?_
      refine gs (pc' := 95) (fun _ _ _ _ _ hl => lv_iload_n hx hb d_Mo_divide_94 rfl (lv_at hl 0 rfl)) ?_
      refine gs (pc' := 96) (fun _ _ _ _ _ hl => lv_i2l (v := lN sc) hx hb d_Mo_divide_95 (nI_l (by omega))) ?_
      refine g_outv hlo (g_runV (As := [.int (nI o), .long (lN sc)]) (rest := []) ⟨hx, hb, hml, hown, hts⟩ hK hZ hRc hRs (c_Mo_scale l D cA lo MC MS G_17 B hm A I f_25 (fup Rg r (Rg r * sc)) mr_21 o hb_o sc hs4 k (by rw [fup_n hro]; exact hk2) (by omega) hB1 hB2) (fun _ _ => cwV 2 hts (tb_good (tb_cons wm868 (tb_cons wm870 (tb_cons ws28 (tb_cons wm12 k_Mo_scale))))) rfl rfl rfl (by decide +kernel) ⟨by rw [hRf]; exact Nat.le_of_ble_eq_true rfl, by rw [hRl]; exact Nat.le_of_ble_eq_true rfl⟩) f_25 rfl hB1 hB2 rfl (Nat.le_of_ble_eq_true rfl) d_Mo_divide_96) (fun G_26 B_27 p_28 => ?_)
      obtain ⟨e_29, mr_30, f_31, gf_32⟩ := p_28
      have e_29b : B = B_27 := e_29.symm
      subst e_29b
      rw [fup_n hro] at mr_30
      have gf_33 : gfr (fun x => x = 75 ∨ x = 76) G G_26 := gfr_mono (gfr_tr gf_24 gf_32) (fun x h9 => by rcases h9 with h9 | h9 <;> exact h9)
      have f_34 : G_26 hm = some (70, .inr (9, [.int (I 0), .int (I 1), .ref (A 2), .ref (A 3), .ref (A 4), .ref (A 5), .int (I 6), .int (I 7), .ref (A 8), .ref (A 9), .int (I 10), .ref (A 11), .ref (A 12), .ref (A 13), .int (I 14), .ref (A 15), .ref (A 16), .ref (A 17), .ref (A 18), .int (I 19), .int (I 20), .int (I 21)])) := f_31
      obtain ⟨lm_35, sz_36, f_37, f_38, rg_39⟩ := id mr_30
      obtain ⟨zz_40, hg_41, hz_42, hD_43⟩ := rg_39 o hb_o
      rw [show (fup (fup Rg r (Rg r * sc)) o (Rg o * sc)) o = Rg o * sc from fup_s] at hD_43
      obtain ⟨zz_44, hg_45, hz_46, hD_47⟩ := rg_39 r hb_r
      rw [show (fup (fup Rg r (Rg r * sc)) o (Rg o * sc)) r = Rg r * sc from (fup_n hro.symm).trans fup_s] at hD_47
      obtain ⟨vv, hvv⟩ : ∃ y9, y9 = Rg o * sc := ⟨_, rfl⟩
      obtain ⟨uu, huu⟩ : ∃ y9, y9 = Rg r * sc := ⟨_, rfl⟩
      have hDo2 := hD_43
      have hDr2 := hD_47
      have hslt := sd_lt hD_15 (by rw [← ht0e]; exact hs2) hs1
      obtain ⟨hzo2, htop⟩ := sd_top hD_15 (by rw [← ht0e]; exact hs3) hDo2 hslt
      rw [← hvv] at hDo2 hslt
      rw [← huu] at hDr2
      have hle9 : vv ≤ uu := by rw [hvv, huu]; exact Nat.mul_le_mul_right sc hge
      have hv0 : 0 < vv := by rw [hvv]; exact Nat.mul_pos hpos hs1
      have hzrs : md + 2 ≤ zz_44 := by rw [← hzo2]; exact isD_size hDo2 (Nat.lt_of_le_of_lt hle9 (isD_lt hDr2))
      obtain ⟨sm, hsm⟩ : ∃ sm, zz_44 = sm + (md + 2) := ⟨zz_44 - (md + 2), by omega⟩
      have hzk : zz_44 ≤ k + 1 := isD_size hDr2 (by rw [huu]; exact sd_n hk1 hs4)
      rw [hzo2] at hDo2 hg_41
      subst hsm
      refine gs (pc' := 100) (fun _ _ _ _ _ hl => lv_aload_n hx hb d_Mo_divide_99 rfl (lv_at hl 1 rfl)) ?_
      refine g_get hx hb hts hin_Mo hown hK f_34 rfl 9 (by decide) (hts _ wm763) (fun _ h9 => h9) rfl d_Mo_divide_100 ?_
      refine gs (pc' := 104) (fun _ _ _ _ _ hl => lv_iload_n hx hb d_Mo_divide_103 rfl (lv_at hl 3 rfl)) ?_
      refine g_iald hx hb hK 0 f_38 rfl (show vp_in (nI o) 9 from vp_in_nI (by omega) (by omega)) d_Mo_divide_104 ?_
      refine g_eqi (show sz_36 (nI o).toNatClampNeg = sz_36 o from by rw [nI_clamp (by omega)]) ?_
      refine g_eqi (show sz_36 o = nI (md + 2) from hg_41) ?_
      refine gst (pc' := 107) (L' := [(4, .int (nI (md + 2))), (3, .int (nI sc)), (0, .ref hm), (1, .int (nI r)), (2, .int (nI o))]) (fun _ _ _ _ _ hl => lv_istore hx hb d_Mo_divide_105 hl (by decide) rfl) ?_
      refine gs (pc' := 108) (fun _ _ _ _ _ hl => lv_aload_n hx hb d_Mo_divide_107 rfl (lv_at hl 2 rfl)) ?_
      refine g_get hx hb hts hin_Mo hown hK f_34 rfl 9 (by decide) (hts _ wm763) (fun _ h9 => h9) rfl d_Mo_divide_108 ?_
      refine gs (pc' := 112) (fun _ _ _ _ _ hl => lv_iload_n hx hb d_Mo_divide_111 rfl (lv_at hl 3 rfl)) ?_
      refine g_iald hx hb hK 0 f_38 rfl (show vp_in (nI r) 9 from vp_in_nI (by omega) (by omega)) d_Mo_divide_112 ?_
      refine g_eqi (show sz_36 (nI r).toNatClampNeg = sz_36 r from by rw [nI_clamp (by omega)]) ?_
      refine g_eqi (show sz_36 r = nI (sm + (md + 2)) from hg_45) ?_
      refine gs (pc' := 115) (fun _ _ _ _ _ hl => lv_iload hx hb d_Mo_divide_113 (lv_at hl 0 rfl)) ?_
      refine gs (pc' := 116) (fun _ _ _ _ _ hl => lv_isub hx hb d_Mo_divide_115) ?_
      refine g_eqi (show (nI (sm + (md + 2))) - (nI (md + 2)) = nI sm from (pk_sub (by omega)).trans (congrArg nI (show (sm + (md + 2)) - (md + 2) = sm by omega))) ?_
      refine gst (pc' := 118) (L' := [(5, .int (nI sm)), (4, .int (nI (md + 2))), (3, .int (nI sc)), (0, .ref hm), (1, .int (nI r)), (2, .int (nI o))]) (fun _ _ _ _ _ hl => lv_istore hx hb d_Mo_divide_116 hl (by decide) rfl) ?_
      refine gs (pc' := 119) (fun _ _ _ _ _ hl => lv_aload_n hx hb d_Mo_divide_118 rfl (lv_at hl 3 rfl)) ?_
      refine g_get hx hb hts hin_Mo hown hK f_34 rfl 8 (by decide) (hts _ wm762) (fun _ h9 => h9) rfl d_Mo_divide_119 ?_
      refine gs (pc' := 125) (fun _ _ _ _ _ hl => lv_sipush (v := nI 4300) hx hb d_Mo_divide_122 (by decide)) ?_
      refine gs (pc' := 126) (fun _ _ _ _ _ hl => lv_iload_n hx hb d_Mo_divide_125 rfl (lv_at hl 4 rfl)) ?_
      refine gs (pc' := 127) (fun _ _ _ _ _ hl => lv_imul hx hb d_Mo_divide_126) ?_
      refine g_eqi (show (nI 4300) * (nI r) = nI (4300 * r) from pk_mul _ _) ?_
      refine gs (pc' := 128) (fun _ _ _ _ _ hl => lv_aload_n hx hb d_Mo_divide_127 rfl (lv_at hl 3 rfl)) ?_
      refine g_get hx hb hts hin_Mo hown hK f_34 rfl 9 (by decide) (hts _ wm763) (fun _ h9 => h9) rfl d_Mo_divide_128 ?_
      refine gs (pc' := 132) (fun _ _ _ _ _ hl => lv_iload_n hx hb d_Mo_divide_131 rfl (lv_at hl 4 rfl)) ?_
      refine g_iald hx hb hK 0 f_38 rfl (show vp_in (nI r) 9 from vp_in_nI (by omega) (by omega)) d_Mo_divide_132 ?_
      refine g_eqi (show sz_36 (nI r).toNatClampNeg = sz_36 r from by rw [nI_clamp (by omega)]) ?_
      refine g_eqi (show sz_36 r = nI (sm + (md + 2)) from hg_45) ?_
      refine gs (pc' := 134) (fun _ _ _ _ _ hl => lv_iadd hx hb d_Mo_divide_133) ?_
      refine g_eqi (show (nI (4300 * r)) + (nI (sm + (md + 2))) = nI (4300 * r + (sm + md + 2)) from (nI_add _ _).trans (congrArg nI (show (4300 * r) + (sm + (md + 2)) = 4300 * r + (sm + md + 2) by omega))) ?_
      refine gs (pc' := 135) (fun _ _ _ _ _ hl => lv_iconst (v := nI 0) hx hb d_Mo_divide_134 (by decide)) ?_
      refine g_iast hx hb hK 0 f_37 rfl (show vp_in (nI (4300 * r + (sm + md + 2))) 38700 from vp_in_nI (by omega) (by omega)) d_Mo_divide_135 (fun G_48 f_49 o_50 => ?_)
      rw [nI_clamp (by omega)] at f_49
      have f_51 : G_48 hm = some (70, .inr (9, [.int (I 0), .int (I 1), .ref (A 2), .ref (A 3), .ref (A 4), .ref (A 5), .int (I 6), .int (I 7), .ref (A 8), .ref (A 9), .int (I 10), .ref (A 11), .ref (A 12), .ref (A 13), .int (I 14), .ref (A 15), .ref (A 16), .ref (A 17), .ref (A 18), .int (I 19), .int (I 20), .int (I 21)])) := (o_50 _ (gne f_34 f_37 (fun e => by cases e))).trans f_34
      have f_52 : G_48 (A 9) = some (76, .inl (cA 0, 9, .inl sz_36)) := (o_50 _ (gne f_38 f_37 (by simp))).trans f_38
      have hfr0 : gfr (fun x => x = 75 ∨ x = 76) G G_48 := gfr_put gf_33 f_37 (Or.inl rfl) o_50
      obtain ⟨f0, hf0⟩ : ∃ y9, y9 = upd lm_35 (4300 * r + (sm + md + 2)) (nI 0) := ⟨_, rfl⟩
      rw [← hf0] at f_49
      have hsr : sh f0 r = upd (sh lm_35 r) (sm + md + 2) (nI 0) := by rw [hf0]; exact sh_us
      have hot0 : oth r lm_35 f0 := by rw [hf0]; exact oth_up oth_rf (by omega)
      have hlo0 : lim (sh f0 o) (md + 2) := lim_oth hot0 hro (by omega) hDo2.1
      have hlr0 : lim (sh f0 r) (sm + md + 3) := by rw [hsr]; exact lim_upd_s (n := sm + md + 2) hDr2.1 (by decide)
      have hvo : dv (df (sh f0 o)) (md + 2) = vv := by rw [← hDo2.2.2]; exact dv_dcongr (fun i9 h9 => hot0 o hro i9 (by omega))
      have huo : uu = dv (df (sh f0 r)) (sm + md + 3) := by rw [hsr, show sm + md + 3 = sm + md + 2 + 1 by omega, dv_upd_s (by decide), Nat.zero_mul, Nat.add_zero]; exact hDr2.2.2.symm
      have htp0 : 500000000 ≤ df (sh f0 o) (md + 1) := by
        have e9 : sh f0 o (md + 1) = sh lm_35 o (md + 1) := hot0 o hro (md + 1) (by omega)
        unfold df
        rw [e9]
        exact htop
      obtain ⟨hi9, hhi⟩ : ∃ y9, y9 = df (sh f0 o) (md + 1) := ⟨_, rfl⟩
      obtain ⟨nx9, hnx⟩ : ∃ y9, y9 = df (sh f0 o) md := ⟨_, rfl⟩
      have hhb : hi9 < 1000000000 := by rw [hhi]; exact (hlo0 (md + 1) (by omega)).2
      have hnb : nx9 < 1000000000 := by rw [hnx]; exact (hlo0 md (by omega)).2
      rw [← hhi] at htp0
      refine gs (pc' := 137) (fun _ _ _ _ _ hl => lv_aload_n hx hb d_Mo_divide_136 rfl (lv_at hl 3 rfl)) ?_
      refine g_get hx hb hts hin_Mo hown hK f_51 rfl 8 (by decide) (hts _ wm762) (fun _ h9 => h9) rfl d_Mo_divide_137 ?_
      refine gs (pc' := 143) (fun _ _ _ _ _ hl => lv_sipush (v := nI 4300) hx hb d_Mo_divide_140 (by decide)) ?_
      refine gs (pc' := 144) (fun _ _ _ _ _ hl => lv_iload_n hx hb d_Mo_divide_143 rfl (lv_at hl 5 rfl)) ?_
      refine gs (pc' := 145) (fun _ _ _ _ _ hl => lv_imul hx hb d_Mo_divide_144) ?_
      refine g_eqi (show (nI 4300) * (nI o) = nI (4300 * o) from pk_mul _ _) ?_
      refine gs (pc' := 147) (fun _ _ _ _ _ hl => lv_iload hx hb d_Mo_divide_145 (lv_at hl 1 rfl)) ?_
      refine gs (pc' := 148) (fun _ _ _ _ _ hl => lv_iadd hx hb d_Mo_divide_147) ?_
      refine g_eqi (show (nI (4300 * o)) + (nI (md + 2)) = nI ((4300 * o) + (md + 2)) from nI_add _ _) ?_
      refine gs (pc' := 149) (fun _ _ _ _ _ hl => lv_iconst (v := nI 1) hx hb d_Mo_divide_148 (by decide)) ?_
      refine gs (pc' := 150) (fun _ _ _ _ _ hl => lv_isub hx hb d_Mo_divide_149) ?_
      refine g_eqi (show (nI ((4300 * o) + (md + 2))) - (nI 1) = nI (4300 * o + (md + 1)) from (pk_sub (by omega)).trans (congrArg nI (show ((4300 * o) + (md + 2)) - 1 = 4300 * o + (md + 1) by omega))) ?_
      refine g_iald hx hb hK 0 f_49 rfl (show vp_in (nI (4300 * o + (md + 1))) 38700 from vp_in_nI (by omega) (by omega)) d_Mo_divide_150 ?_
      refine g_eqi (show f0 (nI (4300 * o + (md + 1))).toNatClampNeg = f0 (4300 * o + (md + 1)) from by rw [nI_clamp (by omega)]) ?_
      refine g_eqi (show f0 (4300 * o + (md + 1)) = nI hi9 from by rw [hhi]; exact (hlo0 (md + 1) (by omega)).1) ?_
      refine gs (pc' := 152) (fun _ _ _ _ _ hl => lv_i2l (v := lN hi9) hx hb d_Mo_divide_151 (nI_l (by omega))) ?_
      refine gst (pc' := 154) (L' := [(6, .long (lN hi9)), (5, .int (nI sm)), (4, .int (nI (md + 2))), (3, .int (nI sc)), (0, .ref hm), (1, .int (nI r)), (2, .int (nI o))]) (fun _ _ _ _ _ hl => lv_lstore hx hb d_Mo_divide_152 hl (by decide) rfl) ?_
      refine gs (pc' := 155) (fun _ _ _ _ _ hl => lv_aload_n hx hb d_Mo_divide_154 rfl (lv_at hl 4 rfl)) ?_
      refine g_get hx hb hts hin_Mo hown hK f_51 rfl 8 (by decide) (hts _ wm762) (fun _ h9 => h9) rfl d_Mo_divide_155 ?_
      refine gs (pc' := 161) (fun _ _ _ _ _ hl => lv_sipush (v := nI 4300) hx hb d_Mo_divide_158 (by decide)) ?_
      refine gs (pc' := 162) (fun _ _ _ _ _ hl => lv_iload_n hx hb d_Mo_divide_161 rfl (lv_at hl 6 rfl)) ?_
      refine gs (pc' := 163) (fun _ _ _ _ _ hl => lv_imul hx hb d_Mo_divide_162) ?_
      refine g_eqi (show (nI 4300) * (nI o) = nI (4300 * o) from pk_mul _ _) ?_
      refine gs (pc' := 165) (fun _ _ _ _ _ hl => lv_iload hx hb d_Mo_divide_163 (lv_at hl 2 rfl)) ?_
      refine gs (pc' := 166) (fun _ _ _ _ _ hl => lv_iadd hx hb d_Mo_divide_165) ?_
      refine g_eqi (show (nI (4300 * o)) + (nI (md + 2)) = nI ((4300 * o) + (md + 2)) from nI_add _ _) ?_
      refine gs (pc' := 167) (fun _ _ _ _ _ hl => lv_iconst (v := nI 2) hx hb d_Mo_divide_166 (by decide)) ?_
      refine gs (pc' := 168) (fun _ _ _ _ _ hl => lv_isub hx hb d_Mo_divide_167) ?_
      refine g_eqi (show (nI ((4300 * o) + (md + 2))) - (nI 2) = nI (4300 * o + md) from (pk_sub (by omega)).trans (congrArg nI (show ((4300 * o) + (md + 2)) - 2 = 4300 * o + md by omega))) ?_
      refine g_iald hx hb hK 0 f_49 rfl (show vp_in (nI (4300 * o + md)) 38700 from vp_in_nI (by omega) (by omega)) d_Mo_divide_168 ?_
      refine g_eqi (show f0 (nI (4300 * o + md)).toNatClampNeg = f0 (4300 * o + md) from by rw [nI_clamp (by omega)]) ?_
      refine g_eqi (show f0 (4300 * o + md) = nI nx9 from by rw [hnx]; exact (hlo0 md (by omega)).1) ?_
      refine gs (pc' := 170) (fun _ _ _ _ _ hl => lv_i2l (v := lN nx9) hx hb d_Mo_divide_169 (nI_l (by omega))) ?_
      refine gst (pc' := 172) (L' := [(8, .long (lN nx9)), (6, .long (lN hi9)), (5, .int (nI sm)), (4, .int (nI (md + 2))), (3, .int (nI sc)), (0, .ref hm), (1, .int (nI r)), (2, .int (nI o))]) (fun _ _ _ _ _ hl => lv_lstore hx hb d_Mo_divide_170 hl (by decide) rfl) ?_
      have hR9 : Rg r < 1000000000 ^ (sm + md + 2) := Nat.lt_of_le_of_lt (Nat.le_mul_of_pos_right _ hs1) (by rw [← huu]; exact isD_lt hDr2)
      refine gs (pc' := 174) (fun _ _ _ _ _ hl => lv_iload hx hb d_Mo_divide_172 (lv_at hl 2 rfl)) ?_
      refine gst (pc' := 176) (L' := [(10, .int (nI sm)), (8, .long (lN nx9)), (6, .long (lN hi9)), (5, .int (nI sm)), (4, .int (nI (md + 2))), (3, .int (nI sc)), (0, .ref hm), (1, .int (nI r)), (2, .int (nI o))]) (fun _ _ _ _ _ hl => lv_istore hx hb d_Mo_divide_174 hl (by decide) rfl) ?_
      refine gsub [0, 5, 4, 3, 2, 1, 6, 7, 8] rfl ?_
      have loop : ∀ (j : Nat) (f1 : Nat → Int32) (Gk : gT), (j ≤ sm + 1) → (lim (sh f1 r) (sm + md + 3)) → (∀ x, x < j → sh f1 r x = sh f0 r x) → (dv (dsh (df (sh f1 r)) j) (md + 2) < vv) → (∀ x, j ≤ x → x < sm + 1 → sh f1 8 x = nI (df (sh f1 8) x) ∧ df (sh f1 8) x < 1000000000) → (uu = dv (dsh (df (sh f1 8)) j) (sm + 1 - j) * vv * 1000000000 ^ j + dv (dsh (df (sh f1 r)) j) (md + 2) * 1000000000 ^ j + dv (df (sh f0 r)) j) → (oth2 r f0 f1) → (gfr (fun x => x = 75 ∨ x = 76) G Gk) → Gk hm = some (70, .inr (9, [.int (I 0), .int (I 1), .ref (A 2), .ref (A 3), .ref (A 4), .ref (A 5), .int (I 6), .int (I 7), .ref (A 8), .ref (A 9), .int (I 10), .ref (A 11), .ref (A 12), .ref (A 13), .int (I 14), .ref (A 15), .ref (A 16), .ref (A 17), .ref (A 18), .int (I 19), .int (I 20), .int (I 21)])) → Gk (A 8) = some (75, .inl (cA 0, 38700, .inl f1)) → Gk (A 9) = some (76, .inl (cA 0, 9, .inl sz_36)) → ∀ (iv : Int32), iv + nI 1 = nI j → gV p l e R s m args below meth c D clS lo 18 Q 176 [(10, .int iv), (3, .int (nI sc)), (4, .int (nI (md + 2))), (5, .int (nI sm)), (6, .long (lN hi9)), (8, .long (lN nx9)), (0, .ref hm), (1, .int (nI r)), (2, .int (nI o))] [] Gk B := by
        intro j
        induction j with
        | zero =>
          intro f1 Gk hj hl1 hsm1 hRj hp8 hu hot hfr k1 k2 k3 iv hiv
          have hm1 := iv_0 hiv
          subst hm1
          have hlp : lim (sh f1 8) (sm + 1) := fun x9 h9 => hp8 x9 (Nat.zero_le _) h9
          rw [dsh_0, dsh_0, dv_0, Nat.pow_zero, Nat.mul_one, Nat.mul_one, Nat.add_zero, Nat.sub_zero] at hu
          rw [dsh_0] at hRj
          have hqr := qr_of hu hRj
          have hsd := sd_qr (a := Rg r) (b := Rg o) hs1
          rw [← huu, ← hvv] at hsd
          refine gs (pc' := 178) (fun _ _ _ _ _ hl => lv_iload hx hb d_Mo_divide_176 (lv_at hl 0 rfl)) ?_
          refine gsb (pc1 := 343) (pc2 := 181) (fun _ _ _ _ _ => lv_if_lt (tgt := 343) hx hb d_Mo_divide_178 (by decide)) (fun c_53 => ?_) (fun c_53 => ?_)
          · skip
            refine gs (pc' := 344) (fun _ _ _ _ _ hl => lv_aload_n hx hb d_Mo_divide_343 rfl (lv_at hl 6 rfl)) ?_
            refine g_get hx hb hts hin_Mo hown hK k1 rfl 9 (by decide) (hts _ wm763) (fun _ h9 => h9) rfl d_Mo_divide_344 ?_
            refine gs (pc' := 349) (fun _ _ _ _ _ hl => lv_bipush (v := nI 8) hx hb d_Mo_divide_347 (by decide)) ?_
            refine gs (pc' := 351) (fun _ _ _ _ _ hl => lv_iload hx hb d_Mo_divide_349 (lv_at hl 3 rfl)) ?_
            refine gs (pc' := 352) (fun _ _ _ _ _ hl => lv_iconst (v := nI 1) hx hb d_Mo_divide_351 (by decide)) ?_
            refine gs (pc' := 353) (fun _ _ _ _ _ hl => lv_iadd hx hb d_Mo_divide_352) ?_
            refine g_eqi (show (nI sm) + (nI 1) = nI (sm + 1) from nI_add _ _) ?_
            refine g_iast hx hb hK 0 k3 rfl (show vp_in (nI 8) 9 from vp_in_nI (by omega) (by omega)) d_Mo_divide_353 (fun G_54 f_55 o_56 => ?_)
            rw [nI_clamp (by omega)] at f_55
            have f_57 : G_54 hm = some (70, .inr (9, [.int (I 0), .int (I 1), .ref (A 2), .ref (A 3), .ref (A 4), .ref (A 5), .int (I 6), .int (I 7), .ref (A 8), .ref (A 9), .int (I 10), .ref (A 11), .ref (A 12), .ref (A 13), .int (I 14), .ref (A 15), .ref (A 16), .ref (A 17), .ref (A 18), .int (I 19), .int (I 20), .int (I 21)])) := (o_56 _ (gne k1 k3 (fun e => by cases e))).trans k1
            have f_58 : G_54 (A 8) = some (75, .inl (cA 0, 38700, .inl f1)) := (o_56 _ (gne k2 k3 (by simp))).trans k2
            have gf_59 : gfr (fun x => x = 75 ∨ x = 76) G G_54 := gfr_put hfr k3 (show (76 : Nat) = 75 ∨ (76 : Nat) = 76 by simp) o_56
            refine gs (pc' := 355) (fun _ _ _ _ _ hl => lv_aload_n hx hb d_Mo_divide_354 rfl (lv_at hl 6 rfl)) ?_
            refine gs (pc' := 357) (fun _ _ _ _ _ hl => lv_bipush (v := nI 8) hx hb d_Mo_divide_355 (by decide)) ?_
            refine g_outv hlo (g_runV (As := [.int (nI 8)]) (rest := []) ⟨hx, hb, hml, hown, hts⟩ hK hZ hRc hRs (c_Mo_trim l D cA lo MC MS G_54 B hm A I f_57 f1 (upd sz_36 8 (nI (sm + 1))) f_58 f_55 8 (by decide) (sm + 1) pk_us (by omega) hlp (uu / vv) hqr.1 hB1 hB2) (fun _ _ => cwV 1 hts (tb_good (tb_cons wm863 (tb_cons wm865 (tb_cons ws27 (tb_cons wm12 k_Mo_trim))))) rfl rfl rfl (by decide +kernel) ⟨by rw [hRf]; exact Nat.le_of_ble_eq_true rfl, by rw [hRl]; exact Nat.le_of_ble_eq_true rfl⟩) f_57 rfl hB1 hB2 rfl (Nat.le_of_ble_eq_true rfl) d_Mo_divide_357) (fun G_60 B_61 p_62 => ?_)
            obtain ⟨e_63, g_64, y_65, f_66, f_67, f_68, tg_69, to_70, ty_71, tD_72, tf_73⟩ := p_62
            have e_63b : B = B_61 := e_63.symm
            subst e_63b
            have gf_74 : gfr (fun x => x = 75 ∨ x = 76) G G_60 := gfr_mono (gfr_tr gf_59 tf_73) (fun x h9 => by rcases h9 with h9 | h9; exact h9; exact Or.inr h9)
            refine gs (pc' := 361) (fun _ _ _ _ _ hl => lv_aload_n hx hb d_Mo_divide_360 rfl (lv_at hl 6 rfl)) ?_
            refine g_get hx hb hts hin_Mo hown hK f_66 rfl 9 (by decide) (hts _ wm763) (fun _ h9 => h9) rfl d_Mo_divide_361 ?_
            refine gs (pc' := 365) (fun _ _ _ _ _ hl => lv_iload_n hx hb d_Mo_divide_364 rfl (lv_at hl 7 rfl)) ?_
            refine gs (pc' := 367) (fun _ _ _ _ _ hl => lv_iload hx hb d_Mo_divide_365 (lv_at hl 2 rfl)) ?_
            refine g_iast hx hb hK 0 f_68 rfl (show vp_in (nI r) 9 from vp_in_nI (by omega) (by omega)) d_Mo_divide_367 (fun G_75 f_76 o_77 => ?_)
            rw [nI_clamp (by omega)] at f_76
            have f_78 : G_75 hm = some (70, .inr (9, [.int (I 0), .int (I 1), .ref (A 2), .ref (A 3), .ref (A 4), .ref (A 5), .int (I 6), .int (I 7), .ref (A 8), .ref (A 9), .int (I 10), .ref (A 11), .ref (A 12), .ref (A 13), .int (I 14), .ref (A 15), .ref (A 16), .ref (A 17), .ref (A 18), .int (I 19), .int (I 20), .int (I 21)])) := (o_77 _ (gne f_66 f_68 (fun e => by cases e))).trans f_66
            have f_79 : G_75 (A 8) = some (75, .inl (cA 0, 38700, .inl f1)) := (o_77 _ (gne f_67 f_68 (by simp))).trans f_67
            have gf_80 : gfr (fun x => x = 75 ∨ x = 76) G G_75 := gfr_put gf_74 f_68 (show (76 : Nat) = 75 ∨ (76 : Nat) = 76 by simp) o_77
            refine gs (pc' := 369) (fun _ _ _ _ _ hl => lv_aload_n hx hb d_Mo_divide_368 rfl (lv_at hl 6 rfl)) ?_
            refine gs (pc' := 370) (fun _ _ _ _ _ hl => lv_iload_n hx hb d_Mo_divide_369 rfl (lv_at hl 7 rfl)) ?_
            refine g_outv hlo (g_runV (As := [.int (nI r)]) (rest := []) ⟨hx, hb, hml, hown, hts⟩ hK hZ hRc hRs (c_Mo_trim l D cA lo MC MS G_75 B hm A I f_78 f1 (upd g_64 r (nI (md + 2))) f_79 f_76 r hb_r (md + 2) pk_us (by omega) (lim_le hl1 (by omega)) (uu % vv) hqr.2 hB1 hB2) (fun _ _ => cwV 1 hts (tb_good (tb_cons wm863 (tb_cons wm865 (tb_cons ws27 (tb_cons wm12 k_Mo_trim))))) rfl rfl rfl (by decide +kernel) ⟨by rw [hRf]; exact Nat.le_of_ble_eq_true rfl, by rw [hRl]; exact Nat.le_of_ble_eq_true rfl⟩) f_78 rfl hB1 hB2 rfl (Nat.le_of_ble_eq_true rfl) d_Mo_divide_370) (fun G_81 B_82 p_83 => ?_)
            obtain ⟨e_84, g_85, y_86, f_87, f_88, f_89, tg_90, to_91, ty_92, tD_93, tf_94⟩ := p_83
            have e_84b : B = B_82 := e_84.symm
            subst e_84b
            have gf_95 : gfr (fun x => x = 75 ∨ x = 76) G G_81 := gfr_mono (gfr_tr gf_80 tf_94) (fun x h9 => by rcases h9 with h9 | h9; exact h9; exact Or.inr h9)
            have hMz : MR cA A (fup (fup (fup (fup Rg r (Rg r * sc)) o (Rg o * sc)) 8 (uu / vv)) r (uu % vv)) G_81 := ⟨_, _, f_88, f_89, RG_two rg_39 hr8 (fun q9 h1 h8 i9 h9 => (hot q9 h1 h8 i9 h9).trans (hot0 q9 h1 i9 h9)) tg_90 ((to_91 8 hr8.symm).trans ((pk_un hr8.symm).trans tg_69)) (fun q9 h1 h8 => (to_91 q9 h1).trans ((pk_un h1).trans ((to_70 q9 h8).trans (pk_un h8)))) (by have := ty_92; omega) (by have := ty_71; omega) tD_93 tD_72⟩
            refine gs (pc' := 374) (fun _ _ _ _ _ hl => lv_aload_n hx hb d_Mo_divide_373 rfl (lv_at hl 6 rfl)) ?_
            refine gs (pc' := 375) (fun _ _ _ _ _ hl => lv_iload_n hx hb d_Mo_divide_374 rfl (lv_at hl 7 rfl)) ?_
            refine gs (pc' := 376) (fun _ _ _ _ _ hl => lv_iload_n hx hb d_Mo_divide_375 rfl (lv_at hl 1 rfl)) ?_
            refine gs (pc' := 377) (fun _ _ _ _ _ hl => lv_i2l (v := lN sc) hx hb d_Mo_divide_376 (nI_l (by omega))) ?_
            refine g_outl hlo (g_runV (As := [.int (nI r), .long (lN sc)]) (rest := []) ⟨hx, hb, hml, hown, hts⟩ hK hZ hRc hRs (c_Mo_small l D cA lo MC MS G_81 B hm A I f_87 (fup (fup (fup (fup Rg r (Rg r * sc)) o (Rg o * sc)) 8 (uu / vv)) r (uu % vv)) hMz r hb_r sc hs1 hs4 hB1 hB2) (fun _ _ => cwV 2 hts (tb_good (tb_cons wm859 (tb_cons wm861 (tb_cons ws26 (tb_cons wm12 k_Mo_small))))) rfl rfl rfl (by decide +kernel) ⟨by rw [hRf]; exact Nat.le_of_ble_eq_true rfl, by rw [hRl]; exact Nat.le_of_ble_eq_true rfl⟩) f_87 rfl hB1 hB2 rfl (Nat.le_of_ble_eq_true rfl) d_Mo_divide_377) (fun r_99 G_96 B_97 p_98 => ?_)
            obtain ⟨e_100, e_104, mr_101, f_102, gf_103⟩ := p_98
            have e_100b : B = B_97 := e_100.symm
            subst e_100b
            subst e_104
            have gf_105 : gfr (fun x => x = 75 ∨ x = 76) G G_96 := gfr_mono (gfr_tr gf_95 gf_103) (fun x h9 => by rcases h9 with h9 | h9 <;> exact h9)
            have f_106 : G_96 hm = some (70, .inr (9, [.int (I 0), .int (I 1), .ref (A 2), .ref (A 3), .ref (A 4), .ref (A 5), .int (I 6), .int (I 7), .ref (A 8), .ref (A 9), .int (I 10), .ref (A 11), .ref (A 12), .ref (A 13), .int (I 14), .ref (A 15), .ref (A 16), .ref (A 17), .ref (A 18), .int (I 19), .int (I 20), .int (I 21)])) := f_102
            refine gs (pc' := 381) (fun _ _ _ _ _ hl => lv_aload_n hx hb d_Mo_divide_380 rfl (lv_at hl 6 rfl)) ?_
            refine gs (pc' := 382) (fun _ _ _ _ _ hl => lv_iload_n hx hb d_Mo_divide_381 rfl (lv_at hl 8 rfl)) ?_
            refine gs (pc' := 383) (fun _ _ _ _ _ hl => lv_iload_n hx hb d_Mo_divide_382 rfl (lv_at hl 1 rfl)) ?_
            refine gs (pc' := 384) (fun _ _ _ _ _ hl => lv_i2l (v := lN sc) hx hb d_Mo_divide_383 (nI_l (by omega))) ?_
            refine g_outl hlo (g_runV (As := [.int (nI o), .long (lN sc)]) (rest := [.long (lN ((fup (fup (fup (fup Rg r (Rg r * sc)) o (Rg o * sc)) 8 (uu / vv)) r (uu % vv)) r % sc))]) ⟨hx, hb, hml, hown, hts⟩ hK hZ hRc hRs (c_Mo_small l D cA lo MC MS G_96 B hm A I f_106 (fup (fup (fup (fup (fup Rg r (Rg r * sc)) o (Rg o * sc)) 8 (uu / vv)) r (uu % vv)) r ((fup (fup (fup (fup Rg r (Rg r * sc)) o (Rg o * sc)) 8 (uu / vv)) r (uu % vv)) r / sc)) mr_101 o hb_o sc hs1 hs4 hB1 hB2) (fun _ _ => cwV 2 hts (tb_good (tb_cons wm859 (tb_cons wm861 (tb_cons ws26 (tb_cons wm12 k_Mo_small))))) rfl rfl rfl (by decide +kernel) ⟨by rw [hRf]; exact Nat.le_of_ble_eq_true rfl, by rw [hRl]; exact Nat.le_of_ble_eq_true rfl⟩) f_106 rfl hB1 hB2 rfl (Nat.le_of_ble_eq_true rfl) d_Mo_divide_384) (fun r_110 G_107 B_108 p_109 => ?_)
            obtain ⟨e_111, e_115, mr_112, f_113, gf_114⟩ := p_109
            have e_111b : B = B_108 := e_111.symm
            subst e_111b
            subst e_115
            have gf_116 : gfr (fun x => x = 75 ∨ x = 76) G G_107 := gfr_mono (gfr_tr gf_105 gf_114) (fun x h9 => by rcases h9 with h9 | h9 <;> exact h9)
            have f_117 : G_107 hm = some (70, .inr (9, [.int (I 0), .int (I 1), .ref (A 2), .ref (A 3), .ref (A 4), .ref (A 5), .int (I 6), .int (I 7), .ref (A 8), .ref (A 9), .int (I 10), .ref (A 11), .ref (A 12), .ref (A 13), .int (I 14), .ref (A 15), .ref (A 16), .ref (A 17), .ref (A 18), .int (I 19), .int (I 20), .int (I 21)])) := f_113
            refine gs (pc' := 388) (fun _ _ _ _ _ hl => lv_ladd hx hb d_Mo_divide_387) ?_
            refine gst (pc' := 390) (L' := [(10, .long ((lN ((fup (fup (fup (fup Rg r (Rg r * sc)) o (Rg o * sc)) 8 (uu / vv)) r (uu % vv)) r % sc)) + (lN ((fup (fup (fup (fup (fup Rg r (Rg r * sc)) o (Rg o * sc)) 8 (uu / vv)) r (uu % vv)) r ((fup (fup (fup (fup Rg r (Rg r * sc)) o (Rg o * sc)) 8 (uu / vv)) r (uu % vv)) r / sc)) o % sc)))), (3, .int (nI sc)), (4, .int (nI (md + 2))), (5, .int (nI sm)), (6, .long (lN hi9)), (8, .long (lN nx9)), (0, .ref hm), (1, .int (nI r)), (2, .int (nI o))]) (fun _ _ _ _ _ hl => lv_lstore hx hb d_Mo_divide_388 hl (by decide) rfl) ?_
            exact hret 390 _ _ _ d_Mo_divide_390 hB1 hB2 ⟨rfl, MR_eq mr_112 (fun q9 => by
              by_cases e1 : q9 = o
              · subst e1; rw [fup_s, fup_n hro, fup_n hro, fup_n ho8, fup_s, fup_n hro, fup_n ho8]; exact Nat.mul_div_cancel _ hs1
              · rw [fup_n e1]
                by_cases e2 : q9 = r
                · subst e2; rw [fup_s, fup_s, fup_s]; exact hsd.2
                · rw [fup_n e2, fup_n e2, fup_n e2]
                  by_cases e3 : q9 = 8
                  · subst e3; rw [fup_s, fup_s]; exact hsd.1
                  · rw [fup_n e3, fup_n e3, fup_n e1, fup_n e2]), f_117, gf_116⟩
          · skip
            exact absurd (show (-1 : Int32) < 0 by decide) c_53
        | succ j ih =>
          intro f1 Gk hj hl1 hsm1 hRj hp8 hu hot hfr k1 k2 k3 iv hiv
          have hm1 := iv_s hiv
          subst hm1
          obtain ⟨U, hU⟩ : ∃ U, U = dv (dsh (df (sh f1 r)) j) (md + 3) := ⟨_, rfl⟩
          have hUs : U = df (sh f1 r) j + 1000000000 * dv (dsh (df (sh f1 r)) (j + 1)) (md + 2) := hU.trans (dsh_s j (md + 2))
          have hdj : df (sh f1 r) j < 1000000000 := (hl1 j (by omega)).2
          have hUlt : U < 1000000000 * vv := by omega
          have hlo1 : lim (sh f1 o) (md + 2) := lim_congr hlo0 (fun i9 h9 => hot o hro ho8 i9 (by omega))
          have hvo1 : dv (df (sh f1 o)) (md + 2) = vv := by rw [← hvo]; exact dv_dcongr (fun i9 h9 => hot o hro ho8 i9 (by omega))
          have hhi1 : hi9 = df (sh f1 o) (md + 1) := by rw [hhi]; unfold df; rw [hot o hro ho8 (md + 1) (by omega)]
          have hnx1 : nx9 = df (sh f1 o) md := by rw [hnx]; unfold df; rw [hot o hro ho8 md (by omega)]
          obtain ⟨u0, hu0e⟩ : ∃ y9, y9 = df (sh f1 r) (j + md + 2) := ⟨_, rfl⟩
          obtain ⟨u1, hu1e⟩ : ∃ y9, y9 = df (sh f1 r) (j + md + 1) := ⟨_, rfl⟩
          obtain ⟨u2, hu2e⟩ : ∃ y9, y9 = df (sh f1 r) (j + md) := ⟨_, rfl⟩
          have hu0b : u0 < 1000000000 := by rw [hu0e]; exact (hl1 (j + md + 2) (by omega)).2
          have hu1 : u1 < 1000000000 := by rw [hu1e]; exact (hl1 (j + md + 1) (by omega)).2
          have hu2 : u2 < 1000000000 := by rw [hu2e]; exact (hl1 (j + md) (by omega)).2
          have e1 := hvo1.symm.trans (kd_v (d := df (sh f1 o)) md)
          rw [← hhi1, ← hnx1] at e1
          have e2 := hU.trans (kd_u (d := df (sh f1 r)) j md)
          rw [← hu0e, ← hu1e, ← hu2e] at e2
          have hvl := dv_lt (lim_dok (lim_le hlo1 (show md ≤ md + 2 by omega)))
          have hul : dv (dsh (df (sh f1 r)) j) md < 1000000000 ^ md := dv_lt (fun x hx2 => (hl1 (j + x) (by omega)).2)
          have hPp := pB_pos md
          obtain ⟨qq, hqq⟩ : ∃ qq, qq = U / vv := ⟨_, rfl⟩
          have hqB := kd_lt hUlt hqq
          have hu0 := kd_u0 e1 hvl hnb e2 hUlt
          have hf1 := kd_first e1 hv0 (show 0 < hi9 by omega) hu1 hu2 hul e2 hqq
          have hf2 := kd_two e1 hv0 hPp hvl hnb htp0 hhb hu1 hu0 e2 hqq
          have fin : ∀ gg : Nat, gg < 1000000000 → qq ≤ gg → gg ≤ qq + 1 → gV p l e R s m args below meth c D clS lo 18 Q 296 [(14, .long (lN gg)), (10, .int (nI j)), (3, .int (nI sc)), (4, .int (nI (md + 2))), (5, .int (nI sm)), (6, .long (lN hi9)), (8, .long (lN nx9)), (0, .ref hm), (1, .int (nI r)), (2, .int (nI o))] [] Gk B := by
            intro gg hgb hg1 hg2
            skip
            refine gs (pc' := 297) (fun _ _ _ _ _ hl => lv_aload_n hx hb d_Mo_divide_296 rfl (lv_at hl 7 rfl)) ?_
            refine gs (pc' := 298) (fun _ _ _ _ _ hl => lv_iload_n hx hb d_Mo_divide_297 rfl (lv_at hl 8 rfl)) ?_
            refine gs (pc' := 299) (fun _ _ _ _ _ hl => lv_iload_n hx hb d_Mo_divide_298 rfl (lv_at hl 9 rfl)) ?_
            refine gs (pc' := 301) (fun _ _ _ _ _ hl => lv_lload hx hb d_Mo_divide_299 (lv_at hl 0 rfl)) ?_
            refine gs (pc' := 302) (fun _ _ _ _ _ hl => lv_l2i (v := nI gg) hx hb d_Mo_divide_301 (lN_i _)) ?_
            refine gs (pc' := 304) (fun _ _ _ _ _ hl => lv_iload hx hb d_Mo_divide_302 (lv_at hl 1 rfl)) ?_
            refine g_outi hlo (g_runV (As := [.int (nI r), .int (nI o), .int (nI gg), .int (nI j)]) (rest := []) ⟨hx, hb, hml, hown, hts⟩ hK hZ hRc hRs (c_Mo_takeOff l D cA lo MC MS Gk B hm A I k1 f1 sz_36 k2 k3 r hb_r o hb_o hro (md + 2) hg_41 hlo1 j (by omega) (lim_le hl1 (by omega)) gg hgb hB1 hB2) (fun _ _ => cwV 4 hts (tb_good (tb_cons wm872 (tb_cons wm874 (tb_cons ws29 (tb_cons wm12 k_Mo_takeOff))))) rfl rfl rfl (by decide +kernel) ⟨by rw [hRf]; exact Nat.le_of_ble_eq_true rfl, by rw [hRl]; exact Nat.le_of_ble_eq_true rfl⟩) k1 rfl hB1 hB2 rfl (Nat.le_of_ble_eq_true rfl) d_Mo_divide_304) (fun r_121 G_118 B_119 p_120 => ?_)
            obtain ⟨eB, f2, cy, q1, q2, q3, hl2, hun2, hot2, hdv2, hor, hgf2⟩ := p_120
            have eBb : B = B_119 := eB.symm
            subst eBb
            rw [show md + 2 + 1 = md + 3 by omega, hvo1, ← hU] at hdv2
            have hnew : dv (dsh (df (sh f2 r)) j) (md + 3) < 1000000000 ^ (md + 3) := dv_lt (fun x hx2 => (hl2 (j + x) (by omega)).2)
            have hvM : vv ≤ 1000000000 ^ (md + 3) := Nat.le_trans (Nat.le_of_lt hslt) (Nat.pow_le_pow_right (by decide) (by omega))
            have hfit := mk_fit hv0 hqq hg1 hg2 hvM hnew hdv2
            rcases hor with ⟨hr7, hcz⟩ | ⟨hr7, hcz⟩
            · skip
              subst hr7
              have hsub := hfit.1 hcz
              refine gsb (pc1 := 324) (pc2 := 310) (fun _ _ _ _ _ => lv_if_eq (tgt := 324) hx hb d_Mo_divide_307 (by decide)) (fun c_122 => ?_) (fun c_122 => ?_)
              · skip
                have nc_122 : 0 = 0 := (n0_eq (a := 0) (by omega)).1 c_122
                refine gs (pc' := 325) (fun _ _ _ _ _ hl => lv_aload_n hx hb d_Mo_divide_324 rfl (lv_at hl 7 rfl)) ?_
                refine g_get hx hb hts hin_Mo hown hK q1 rfl 8 (by decide) (hts _ wm762) (fun _ h9 => h9) rfl d_Mo_divide_325 ?_
                refine gs (pc' := 330) (fun _ _ _ _ _ hl => lv_ldc (v := 34400) hx hb hown (hts _ wm880) d_Mo_divide_328) ?_
                refine g_eqi (show 34400 = nI 34400 from rfl) ?_
                refine gs (pc' := 332) (fun _ _ _ _ _ hl => lv_iload hx hb d_Mo_divide_330 (lv_at hl 1 rfl)) ?_
                refine gs (pc' := 333) (fun _ _ _ _ _ hl => lv_iadd hx hb d_Mo_divide_332) ?_
                refine g_eqi (show (nI 34400) + (nI j) = nI (4300 * 8 + j) from (nI_add _ _).trans (congrArg nI (show 34400 + j = 4300 * 8 + j by omega))) ?_
                refine gs (pc' := 335) (fun _ _ _ _ _ hl => lv_lload hx hb d_Mo_divide_333 (lv_at hl 0 rfl)) ?_
                refine gs (pc' := 336) (fun _ _ _ _ _ hl => lv_l2i (v := nI gg) hx hb d_Mo_divide_335 (lN_i _)) ?_
                refine g_iast hx hb hK 0 q2 rfl (show vp_in (nI (4300 * 8 + j)) 38700 from vp_in_nI (by omega) (by omega)) d_Mo_divide_336 (fun G_123 f_124 o_125 => ?_)
                rw [nI_clamp (by omega)] at f_124
                have f_126 : G_123 hm = some (70, .inr (9, [.int (I 0), .int (I 1), .ref (A 2), .ref (A 3), .ref (A 4), .ref (A 5), .int (I 6), .int (I 7), .ref (A 8), .ref (A 9), .int (I 10), .ref (A 11), .ref (A 12), .ref (A 13), .int (I 14), .ref (A 15), .ref (A 16), .ref (A 17), .ref (A 18), .int (I 19), .int (I 20), .int (I 21)])) := (o_125 _ (gne q1 q2 (fun e => by cases e))).trans q1
                have f_127 : G_123 (A 9) = some (76, .inl (cA 0, 9, .inl sz_36)) := (o_125 _ (gne q3 q2 (by simp))).trans q3
                refine gst (pc' := 340) (L' := [(10, .int (nI j + (-1))), (14, .long (lN gg)), (3, .int (nI sc)), (4, .int (nI (md + 2))), (5, .int (nI sm)), (6, .long (lN hi9)), (8, .long (lN nx9)), (0, .ref hm), (1, .int (nI r)), (2, .int (nI o))]) (fun _ _ _ _ _ hl => lv_iinc (v := nI j + (-1)) hx hb d_Mo_divide_337 hl (k := 1) rfl (rfl) (by decide) rfl) ?_
                refine gs (pc' := 176) (fun _ _ _ _ _ hl => lv_goto (tgt := 176) hx hb d_Mo_divide_340 (by decide)) ?_
                refine gsub [0, 2, 3, 4, 5, 6, 7, 8, 9] rfl ?_
                have hqd : gg = U / vv := by rw [← hqq]; exact hsub.1
                have hdm := Nat.div_add_mod U vv
                rw [← hqd] at hdm
                have hR3 : dv (dsh (df (sh f2 r)) j) (md + 3) = U % vv := hsub.2
                have hlx : lim (sh f2 r) (j + (md + 2) + 1) := hl2
                have hRn : dv (dsh (df (sh f2 r)) j) (md + 2) = U % vv := rem_low (M := 1000000000 ^ (md + 2)) (by rw [← dv_s]; exact hR3) (Nat.lt_trans (Nat.mod_lt _ hv0) hslt)
                have hunx : ∀ x, x < j ∨ j + (md + 2) + 1 ≤ x → sh f2 r x = sh f1 r x := hun2
                have hotx : oth r f1 f2 := hot2
                have hlim : lim (sh f2 r) (sm + md + 3) := fun x hx2 => by
                  by_cases e : x < j + md + 3
                  · exact hlx x (by omega)
                  · have e9 : sh f2 r x = sh f1 r x := hunx x (Or.inr (by omega))
                    have := hl1 x hx2
                    unfold df at *
                    rw [e9]
                    exact this
                have hfj : df (sh f1 r) j = df (sh f0 r) j := by unfold df; rw [hsm1 j (by omega)]
                have hqq9 : gg < 1000000000 := by omega
                have h8 : ∀ i, i < 4300 → sh f2 8 i = sh f1 8 i := fun i h => hotx 8 hr8.symm i h
                have hfin : sh (upd f2 (4300 * 8 + j) (nI (gg))) 8 = upd (sh f2 8) j (nI (gg)) := sh_us
                have hrx : ∀ i, i < 4300 → sh (upd f2 (4300 * 8 + j) (nI (gg))) r i = sh f2 r i := sh_un hr8 (by omega)
                have hpu : dv (dsh (df (sh (upd f2 (4300 * 8 + j) (nI (gg))) 8)) j) (sm + 1 - j) = (gg) + 1000000000 * dv (dsh (df (sh f1 8)) (j + 1)) (sm + 1 - (j + 1)) := by
                  rw [hfin, show sm + 1 - j = sm + 1 - (j + 1) + 1 by omega, dsh_s, df_us (by omega), dsh_congr (e := df (sh f1 8)) (fun x h1 h2 => by rw [df_un (by omega)]; unfold df; rw [h8 x (by omega)])]
                have hRu : dv (dsh (df (sh (upd f2 (4300 * 8 + j) (nI (gg))) r)) j) (md + 2) = U % vv := by
                  rw [← hRn]
                  exact dsh_congr (fun x h1 h2 => by unfold df; rw [hrx x (by omega)])
                exact ih (upd f2 (4300 * 8 + j) (nI (gg))) G_123 (by omega) (lim_congr hlim (fun i9 h9 => hrx i9 (by omega))) (fun x h => (hrx x (by omega)).trans ((hunx x (Or.inl h)).trans (hsm1 x (by omega)))) (by rw [hRu]; exact Nat.mod_lt _ hv0) (fun x h1 h2 => by
                    rw [hfin]
                    by_cases e : x = j
                    · subst e; rw [df_us (by omega), pk_us]; exact ⟨rfl, hqq9⟩
                    · have := hp8 x (by omega) h2
                      rw [df_un e, pk_un e]
                      unfold df at *
                      rw [h8 x (by omega)]
                      exact this) (by rw [hpu, hRu]; rw [dv_s (df (sh f0 r)) j, pB_s] at hu; exact st_div hu (by rw [hUs, hfj]) hdm) (oth2_up (oth2_tr hot hotx) (by omega)) (gfr_put (gfr_mono (gfr_tr hfr hgf2) (fun _ h => h.elim id (fun h9 => Or.inl h9))) q2 (Or.inl rfl) o_125) f_126 f_124 f_127 _ (by rw [Int32.add_assoc]; exact Int32.add_zero _)
              · skip
                have nc_122 : 0 ≠ 0 := (n0_eq (a := 0) (by omega)).2 c_122
                exact absurd nc_122 (by omega)
            · skip
              subst hr7
              have hsub := hfit.2 hcz
              refine gsb (pc1 := 324) (pc2 := 310) (fun _ _ _ _ _ => lv_if_eq (tgt := 324) hx hb d_Mo_divide_307 (by decide)) (fun c_128 => ?_) (fun c_128 => ?_)
              · skip
                have nc_128 : 1 = 0 := (n0_eq (a := 1) (by omega)).1 c_128
                exact absurd nc_128 (by omega)
              · skip
                have nc_128 : 1 ≠ 0 := (n0_eq (a := 1) (by omega)).2 c_128
                refine gs (pc' := 312) (fun _ _ _ _ _ hl => lv_lload hx hb d_Mo_divide_310 (lv_at hl 0 rfl)) ?_
                refine gs (pc' := 313) (fun _ _ _ _ _ hl => lv_lconst (v := lN 1) hx hb d_Mo_divide_312 (by decide)) ?_
                refine gs (pc' := 314) (fun _ _ _ _ _ hl => lv_lsub hx hb d_Mo_divide_313) ?_
                refine g_eql (show (lN gg) - (lN 1) = lN (gg - 1) from lN_sub (by omega)) ?_
                refine gst (pc' := 316) (L' := [(14, .long (lN (gg - 1))), (10, .int (nI j)), (3, .int (nI sc)), (4, .int (nI (md + 2))), (5, .int (nI sm)), (6, .long (lN hi9)), (8, .long (lN nx9)), (0, .ref hm), (1, .int (nI r)), (2, .int (nI o))]) (fun _ _ _ _ _ hl => lv_lstore hx hb d_Mo_divide_314 hl (by decide) rfl) ?_
                refine gs (pc' := 317) (fun _ _ _ _ _ hl => lv_aload_n hx hb d_Mo_divide_316 rfl (lv_at hl 7 rfl)) ?_
                refine gs (pc' := 318) (fun _ _ _ _ _ hl => lv_iload_n hx hb d_Mo_divide_317 rfl (lv_at hl 8 rfl)) ?_
                refine gs (pc' := 319) (fun _ _ _ _ _ hl => lv_iload_n hx hb d_Mo_divide_318 rfl (lv_at hl 9 rfl)) ?_
                refine gs (pc' := 321) (fun _ _ _ _ _ hl => lv_iload hx hb d_Mo_divide_319 (lv_at hl 1 rfl)) ?_
                refine g_outv hlo (g_runV (As := [.int (nI r), .int (nI o), .int (nI j)]) (rest := []) ⟨hx, hb, hml, hown, hts⟩ hK hZ hRc hRs (c_Mo_putOn l D cA lo MC MS G_118 B hm A I q1 f2 sz_36 q2 q3 r hb_r o hb_o hro (md + 2) hg_41 (lim_oth hot2 hro (by omega) hlo1) j (by omega) hl2 hB1 hB2) (fun _ _ => cwV 3 hts (tb_good (tb_cons wm876 (tb_cons wm878 (tb_cons ws30 (tb_cons wm12 k_Mo_putOn))))) rfl rfl rfl (by decide +kernel) ⟨by rw [hRf]; exact Nat.le_of_ble_eq_true rfl, by rw [hRl]; exact Nat.le_of_ble_eq_true rfl⟩) q1 rfl hB1 hB2 rfl (Nat.le_of_ble_eq_true rfl) d_Mo_divide_321) (fun G_129 B_130 p_131 => ?_)
                obtain ⟨eC, f3, cz, p1, p2, p3, hl3, hun3, hot3, hdv3, hgf3⟩ := p_131
                have eCb : B = B_130 := eC.symm
                subst eCb
                rw [show md + 2 + 1 = md + 3 by omega, show dv (df (sh f2 o)) (md + 2) = vv from (dv_dcongr (fun i9 h9 => hot2 o hro i9 (by omega))).trans hvo1] at hdv3
                have hres3 : dv (dsh (df (sh f3 r)) j) (md + 3) = U % vv := mk_back (M := 1000000000 ^ (md + 3)) (Nat.mod_lt _ hv0) hvM hsub.2.2 (dv_lt (fun x hx2 => (hl3 (j + x) (by omega)).2)) hdv3
                refine gs (pc' := 325) (fun _ _ _ _ _ hl => lv_aload_n hx hb d_Mo_divide_324 rfl (lv_at hl 7 rfl)) ?_
                refine g_get hx hb hts hin_Mo hown hK p1 rfl 8 (by decide) (hts _ wm762) (fun _ h9 => h9) rfl d_Mo_divide_325 ?_
                refine gs (pc' := 330) (fun _ _ _ _ _ hl => lv_ldc (v := 34400) hx hb hown (hts _ wm880) d_Mo_divide_328) ?_
                refine g_eqi (show 34400 = nI 34400 from rfl) ?_
                refine gs (pc' := 332) (fun _ _ _ _ _ hl => lv_iload hx hb d_Mo_divide_330 (lv_at hl 1 rfl)) ?_
                refine gs (pc' := 333) (fun _ _ _ _ _ hl => lv_iadd hx hb d_Mo_divide_332) ?_
                refine g_eqi (show (nI 34400) + (nI j) = nI (4300 * 8 + j) from (nI_add _ _).trans (congrArg nI (show 34400 + j = 4300 * 8 + j by omega))) ?_
                refine gs (pc' := 335) (fun _ _ _ _ _ hl => lv_lload hx hb d_Mo_divide_333 (lv_at hl 0 rfl)) ?_
                refine gs (pc' := 336) (fun _ _ _ _ _ hl => lv_l2i (v := nI (gg - 1)) hx hb d_Mo_divide_335 (lN_i _)) ?_
                refine g_iast hx hb hK 0 p2 rfl (show vp_in (nI (4300 * 8 + j)) 38700 from vp_in_nI (by omega) (by omega)) d_Mo_divide_336 (fun G_132 f_133 o_134 => ?_)
                rw [nI_clamp (by omega)] at f_133
                have f_135 : G_132 hm = some (70, .inr (9, [.int (I 0), .int (I 1), .ref (A 2), .ref (A 3), .ref (A 4), .ref (A 5), .int (I 6), .int (I 7), .ref (A 8), .ref (A 9), .int (I 10), .ref (A 11), .ref (A 12), .ref (A 13), .int (I 14), .ref (A 15), .ref (A 16), .ref (A 17), .ref (A 18), .int (I 19), .int (I 20), .int (I 21)])) := (o_134 _ (gne p1 p2 (fun e => by cases e))).trans p1
                have f_136 : G_132 (A 9) = some (76, .inl (cA 0, 9, .inl sz_36)) := (o_134 _ (gne p3 p2 (by simp))).trans p3
                refine gst (pc' := 340) (L' := [(10, .int (nI j + (-1))), (14, .long (lN (gg - 1))), (3, .int (nI sc)), (4, .int (nI (md + 2))), (5, .int (nI sm)), (6, .long (lN hi9)), (8, .long (lN nx9)), (0, .ref hm), (1, .int (nI r)), (2, .int (nI o))]) (fun _ _ _ _ _ hl => lv_iinc (v := nI j + (-1)) hx hb d_Mo_divide_337 hl (k := 1) rfl (rfl) (by decide) rfl) ?_
                refine gs (pc' := 176) (fun _ _ _ _ _ hl => lv_goto (tgt := 176) hx hb d_Mo_divide_340 (by decide)) ?_
                refine gsub [0, 2, 3, 4, 5, 6, 7, 8, 9] rfl ?_
                have hqd : gg - 1 = U / vv := by rw [← hqq, hsub.2.1]; exact Nat.add_sub_cancel _ _
                have hdm := Nat.div_add_mod U vv
                rw [← hqd] at hdm
                have hR3 : dv (dsh (df (sh f3 r)) j) (md + 3) = U % vv := hres3
                have hlx : lim (sh f3 r) (j + (md + 2) + 1) := hl3
                have hRn : dv (dsh (df (sh f3 r)) j) (md + 2) = U % vv := rem_low (M := 1000000000 ^ (md + 2)) (by rw [← dv_s]; exact hR3) (Nat.lt_trans (Nat.mod_lt _ hv0) hslt)
                have hunx : ∀ x, x < j ∨ j + (md + 2) + 1 ≤ x → sh f3 r x = sh f1 r x := fun x h => (hun3 x h).trans (hun2 x h)
                have hotx : oth r f1 f3 := oth_tr hot2 hot3
                have hlim : lim (sh f3 r) (sm + md + 3) := fun x hx2 => by
                  by_cases e : x < j + md + 3
                  · exact hlx x (by omega)
                  · have e9 : sh f3 r x = sh f1 r x := hunx x (Or.inr (by omega))
                    have := hl1 x hx2
                    unfold df at *
                    rw [e9]
                    exact this
                have hfj : df (sh f1 r) j = df (sh f0 r) j := by unfold df; rw [hsm1 j (by omega)]
                have hqq9 : gg - 1 < 1000000000 := by omega
                have h8 : ∀ i, i < 4300 → sh f3 8 i = sh f1 8 i := fun i h => hotx 8 hr8.symm i h
                have hfin : sh (upd f3 (4300 * 8 + j) (nI (gg - 1))) 8 = upd (sh f3 8) j (nI (gg - 1)) := sh_us
                have hrx : ∀ i, i < 4300 → sh (upd f3 (4300 * 8 + j) (nI (gg - 1))) r i = sh f3 r i := sh_un hr8 (by omega)
                have hpu : dv (dsh (df (sh (upd f3 (4300 * 8 + j) (nI (gg - 1))) 8)) j) (sm + 1 - j) = (gg - 1) + 1000000000 * dv (dsh (df (sh f1 8)) (j + 1)) (sm + 1 - (j + 1)) := by
                  rw [hfin, show sm + 1 - j = sm + 1 - (j + 1) + 1 by omega, dsh_s, df_us (by omega), dsh_congr (e := df (sh f1 8)) (fun x h1 h2 => by rw [df_un (by omega)]; unfold df; rw [h8 x (by omega)])]
                have hRu : dv (dsh (df (sh (upd f3 (4300 * 8 + j) (nI (gg - 1))) r)) j) (md + 2) = U % vv := by
                  rw [← hRn]
                  exact dsh_congr (fun x h1 h2 => by unfold df; rw [hrx x (by omega)])
                exact ih (upd f3 (4300 * 8 + j) (nI (gg - 1))) G_132 (by omega) (lim_congr hlim (fun i9 h9 => hrx i9 (by omega))) (fun x h => (hrx x (by omega)).trans ((hunx x (Or.inl h)).trans (hsm1 x (by omega)))) (by rw [hRu]; exact Nat.mod_lt _ hv0) (fun x h1 h2 => by
                    rw [hfin]
                    by_cases e : x = j
                    · subst e; rw [df_us (by omega), pk_us]; exact ⟨rfl, hqq9⟩
                    · have := hp8 x (by omega) h2
                      rw [df_un e, pk_un e]
                      unfold df at *
                      rw [h8 x (by omega)]
                      exact this) (by rw [hpu, hRu]; rw [dv_s (df (sh f0 r)) j, pB_s] at hu; exact st_div hu (by rw [hUs, hfj]) hdm) (oth2_up (oth2_tr hot hotx) (by omega)) (gfr_put (gfr_mono (gfr_tr hfr (gfr_tr hgf2 hgf3)) (fun _ h => h.elim id (fun h9 => Or.inl (h9.elim id id)))) p2 (Or.inl rfl) o_134) f_135 f_133 f_136 _ (by rw [Int32.add_assoc]; exact Int32.add_zero _)
          have wl : ∀ (n gg rs : Nat), u0 * 1000000000 + u1 = gg * hi9 + rs → qq ≤ gg → gg ≤ qq + n → gg ≤ qq + 2 → gV p l e R s m args below meth c D clS lo 18 Q 236 [(16, .long (lN rs)), (14, .long (lN gg)), (11, .int (nI (4300 * r + (j + md + 2)))), (10, .int (nI j)), (3, .int (nI sc)), (4, .int (nI (md + 2))), (5, .int (nI sm)), (6, .long (lN hi9)), (8, .long (lN nx9)), (0, .ref hm), (1, .int (nI r)), (2, .int (nI o))] [] Gk B := by
            intro n
            induction n with
            | zero =>
              intro gg rs hl hq1 hq2 hq3
              have hm9 : gg * nx9 ≤ 1000000002 * 999999999 := Nat.mul_le_mul (by omega) (by omega)
              have hrsb : rs ≤ u0 * 1000000000 + u1 := by omega
              refine gs (pc' := 238) (fun _ _ _ _ _ hl => lv_lload hx hb d_Mo_divide_236 (lv_at hl 0 rfl)) ?_
              refine gs (pc' := 241) (fun _ _ _ _ _ hl => lv_ldc2 (v := 1000000000) hx hb hown (hts _ wm842) d_Mo_divide_238) ?_
              refine g_eql (show 1000000000 = lN 1000000000 from rfl) ?_
              refine gs (pc' := 242) (fun _ _ _ _ _ hl => W.lcmp hx hb d_Mo_divide_241) ?_
              refine gsb (pc1 := 296) (pc2 := 245) (fun _ _ _ _ _ => lv_if_ge (tgt := 296) hx hb d_Mo_divide_242 (by decide)) (fun c_137 => ?_) (fun c_137 => ?_)
              · skip
                have nc_137 : rs ≥ 1000000000 := (lcN_ge (a := rs) (b := 1000000000) (by omega) (by omega)).1 c_137
                have hkr := kd_rest (u2 := u2) hnb hu1 hu0 hl nc_137
                have hgl := hkr.1
                have hfin := kd_ok e1 hv0 hvl htp0 e2 hqq hl hgl hkr.2
                refine gsub [1, 3, 4, 5, 6, 7, 8, 9, 10, 11] rfl ?_
                exact fin gg hgl hq1 hfin
              · skip
                have nc_137 : rs < 1000000000 := (lcN_ge (a := rs) (b := 1000000000) (by omega) (by omega)).2 c_137
                refine gs (pc' := 247) (fun _ _ _ _ _ hl => lv_lload hx hb d_Mo_divide_245 (lv_at hl 1 rfl)) ?_
                refine gs (pc' := 250) (fun _ _ _ _ _ hl => lv_ldc2 (v := 1000000000) hx hb hown (hts _ wm842) d_Mo_divide_247) ?_
                refine g_eql (show 1000000000 = lN 1000000000 from rfl) ?_
                refine gs (pc' := 251) (fun _ _ _ _ _ hl => W.lcmp hx hb d_Mo_divide_250) ?_
                refine gsb (pc1 := 280) (pc2 := 254) (fun _ _ _ _ _ => lv_if_ge (tgt := 280) hx hb d_Mo_divide_251 (by decide)) (fun c_138 => ?_) (fun c_138 => ?_)
                · skip
                  have nc_138 : gg ≥ 1000000000 := (lcN_ge (a := gg) (b := 1000000000) (by omega) (by omega)).1 c_138
                  have hdec : qq < gg := by omega
                  exact absurd hdec (by omega)
                · skip
                  have nc_138 : gg < 1000000000 := (lcN_ge (a := gg) (b := 1000000000) (by omega) (by omega)).2 c_138
                  have hgl : gg < 1000000000 := nc_138
                  refine gs (pc' := 256) (fun _ _ _ _ _ hl => lv_lload hx hb d_Mo_divide_254 (lv_at hl 1 rfl)) ?_
                  refine gs (pc' := 258) (fun _ _ _ _ _ hl => lv_lload hx hb d_Mo_divide_256 (lv_at hl 8 rfl)) ?_
                  refine gs (pc' := 259) (fun _ _ _ _ _ hl => lv_lmul hx hb d_Mo_divide_258) ?_
                  refine g_eql (show (lN gg) * (lN nx9) = lN (gg * nx9) from lN_mul _ _) ?_
                  refine gs (pc' := 261) (fun _ _ _ _ _ hl => lv_lload hx hb d_Mo_divide_259 (lv_at hl 0 rfl)) ?_
                  refine gs (pc' := 264) (fun _ _ _ _ _ hl => lv_ldc2 (v := 1000000000) hx hb hown (hts _ wm842) d_Mo_divide_261) ?_
                  refine g_eql (show 1000000000 = lN 1000000000 from rfl) ?_
                  refine gs (pc' := 265) (fun _ _ _ _ _ hl => lv_lmul hx hb d_Mo_divide_264) ?_
                  refine g_eql (show (lN rs) * (lN 1000000000) = lN (rs * 1000000000) from lN_mul _ _) ?_
                  refine gs (pc' := 266) (fun _ _ _ _ _ hl => lv_aload_n hx hb d_Mo_divide_265 rfl (lv_at hl 9 rfl)) ?_
                  refine g_get hx hb hts hin_Mo hown hK k1 rfl 8 (by decide) (hts _ wm762) (fun _ h9 => h9) rfl d_Mo_divide_266 ?_
                  refine gs (pc' := 271) (fun _ _ _ _ _ hl => lv_iload hx hb d_Mo_divide_269 (lv_at hl 2 rfl)) ?_
                  refine gs (pc' := 272) (fun _ _ _ _ _ hl => lv_iconst (v := nI 2) hx hb d_Mo_divide_271 (by decide)) ?_
                  refine gs (pc' := 273) (fun _ _ _ _ _ hl => lv_isub hx hb d_Mo_divide_272) ?_
                  refine g_eqi (show (nI (4300 * r + (j + md + 2))) - (nI 2) = nI (4300 * r + (j + md)) from (pk_sub (by omega)).trans (congrArg nI (show (4300 * r + (j + md + 2)) - 2 = 4300 * r + (j + md) by omega))) ?_
                  refine g_iald hx hb hK 0 k2 rfl (show vp_in (nI (4300 * r + (j + md))) 38700 from vp_in_nI (by omega) (by omega)) d_Mo_divide_273 ?_
                  refine g_eqi (show f1 (nI (4300 * r + (j + md))).toNatClampNeg = f1 (4300 * r + (j + md)) from by rw [nI_clamp (by omega)]) ?_
                  refine g_eqi (show f1 (4300 * r + (j + md)) = nI u2 from by rw [hu2e]; exact (hl1 (j + md) (by omega)).1) ?_
                  refine gs (pc' := 275) (fun _ _ _ _ _ hl => lv_i2l (v := lN u2) hx hb d_Mo_divide_274 (nI_l (by omega))) ?_
                  refine gs (pc' := 276) (fun _ _ _ _ _ hl => lv_ladd hx hb d_Mo_divide_275) ?_
                  refine g_eql (show (lN (rs * 1000000000)) + (lN u2) = lN ((rs * 1000000000) + u2) from lN_add _ _) ?_
                  refine gs (pc' := 277) (fun _ _ _ _ _ hl => W.lcmp hx hb d_Mo_divide_276) ?_
                  refine gsb (pc1 := 296) (pc2 := 280) (fun _ _ _ _ _ => lv_if_le (tgt := 296) hx hb d_Mo_divide_277 (by decide)) (fun c_139 => ?_) (fun c_139 => ?_)
                  · skip
                    have nc_139 : (gg * nx9) ≤ ((rs * 1000000000) + u2) := (lcN_le (a := (gg * nx9)) (b := ((rs * 1000000000) + u2)) (by omega) (by omega)).1 c_139
                    have hfin := kd_ok e1 hv0 hvl htp0 e2 hqq hl hgl nc_139
                    refine gsub [1, 3, 4, 5, 6, 7, 8, 9, 10, 11] rfl ?_
                    exact fin gg hgl hq1 hfin
                  · skip
                    have nc_139 : (gg * nx9) > ((rs * 1000000000) + u2) := (lcN_le (a := (gg * nx9)) (b := ((rs * 1000000000) + u2)) (by omega) (by omega)).2 c_139
                    have hdec := kd_dec e1 hv0 hul e2 hqq hl nc_139
                    exact absurd hdec (by omega)
            | succ n ih9 =>
              intro gg rs hl hq1 hq2 hq3
              have hm9 : gg * nx9 ≤ 1000000002 * 999999999 := Nat.mul_le_mul (by omega) (by omega)
              have hrsb : rs ≤ u0 * 1000000000 + u1 := by omega
              refine gs (pc' := 238) (fun _ _ _ _ _ hl => lv_lload hx hb d_Mo_divide_236 (lv_at hl 0 rfl)) ?_
              refine gs (pc' := 241) (fun _ _ _ _ _ hl => lv_ldc2 (v := 1000000000) hx hb hown (hts _ wm842) d_Mo_divide_238) ?_
              refine g_eql (show 1000000000 = lN 1000000000 from rfl) ?_
              refine gs (pc' := 242) (fun _ _ _ _ _ hl => W.lcmp hx hb d_Mo_divide_241) ?_
              refine gsb (pc1 := 296) (pc2 := 245) (fun _ _ _ _ _ => lv_if_ge (tgt := 296) hx hb d_Mo_divide_242 (by decide)) (fun c_140 => ?_) (fun c_140 => ?_)
              · skip
                have nc_140 : rs ≥ 1000000000 := (lcN_ge (a := rs) (b := 1000000000) (by omega) (by omega)).1 c_140
                have hkr := kd_rest (u2 := u2) hnb hu1 hu0 hl nc_140
                have hgl := hkr.1
                have hfin := kd_ok e1 hv0 hvl htp0 e2 hqq hl hgl hkr.2
                refine gsub [1, 3, 4, 5, 6, 7, 8, 9, 10, 11] rfl ?_
                exact fin gg hgl hq1 hfin
              · skip
                have nc_140 : rs < 1000000000 := (lcN_ge (a := rs) (b := 1000000000) (by omega) (by omega)).2 c_140
                refine gs (pc' := 247) (fun _ _ _ _ _ hl => lv_lload hx hb d_Mo_divide_245 (lv_at hl 1 rfl)) ?_
                refine gs (pc' := 250) (fun _ _ _ _ _ hl => lv_ldc2 (v := 1000000000) hx hb hown (hts _ wm842) d_Mo_divide_247) ?_
                refine g_eql (show 1000000000 = lN 1000000000 from rfl) ?_
                refine gs (pc' := 251) (fun _ _ _ _ _ hl => W.lcmp hx hb d_Mo_divide_250) ?_
                refine gsb (pc1 := 280) (pc2 := 254) (fun _ _ _ _ _ => lv_if_ge (tgt := 280) hx hb d_Mo_divide_251 (by decide)) (fun c_141 => ?_) (fun c_141 => ?_)
                · skip
                  have nc_141 : gg ≥ 1000000000 := (lcN_ge (a := gg) (b := 1000000000) (by omega) (by omega)).1 c_141
                  have hdec : qq < gg := by omega
                  refine gs (pc' := 282) (fun _ _ _ _ _ hl => lv_lload hx hb d_Mo_divide_280 (lv_at hl 1 rfl)) ?_
                  refine gs (pc' := 283) (fun _ _ _ _ _ hl => lv_lconst (v := lN 1) hx hb d_Mo_divide_282 (by decide)) ?_
                  refine gs (pc' := 284) (fun _ _ _ _ _ hl => lv_lsub hx hb d_Mo_divide_283) ?_
                  refine g_eql (show (lN gg) - (lN 1) = lN (gg - 1) from lN_sub (by omega)) ?_
                  refine gst (pc' := 286) (L' := [(14, .long (lN (gg - 1))), (16, .long (lN rs)), (11, .int (nI (4300 * r + (j + md + 2)))), (10, .int (nI j)), (3, .int (nI sc)), (4, .int (nI (md + 2))), (5, .int (nI sm)), (6, .long (lN hi9)), (8, .long (lN nx9)), (0, .ref hm), (1, .int (nI r)), (2, .int (nI o))]) (fun _ _ _ _ _ hl => lv_lstore hx hb d_Mo_divide_284 hl (by decide) rfl) ?_
                  refine gs (pc' := 288) (fun _ _ _ _ _ hl => lv_lload hx hb d_Mo_divide_286 (lv_at hl 1 rfl)) ?_
                  refine gs (pc' := 290) (fun _ _ _ _ _ hl => lv_lload hx hb d_Mo_divide_288 (lv_at hl 7 rfl)) ?_
                  refine gs (pc' := 291) (fun _ _ _ _ _ hl => lv_ladd hx hb d_Mo_divide_290) ?_
                  refine g_eql (show (lN rs) + (lN hi9) = lN (rs + hi9) from lN_add _ _) ?_
                  refine gst (pc' := 293) (L' := [(16, .long (lN (rs + hi9))), (14, .long (lN (gg - 1))), (11, .int (nI (4300 * r + (j + md + 2)))), (10, .int (nI j)), (3, .int (nI sc)), (4, .int (nI (md + 2))), (5, .int (nI sm)), (6, .long (lN hi9)), (8, .long (lN nx9)), (0, .ref hm), (1, .int (nI r)), (2, .int (nI o))]) (fun _ _ _ _ _ hl => lv_lstore hx hb d_Mo_divide_291 hl (by decide) rfl) ?_
                  refine gs (pc' := 236) (fun _ _ _ _ _ hl => lv_goto (tgt := 236) hx hb d_Mo_divide_293 (by decide)) ?_
                  refine gsub [0, 1, 2, 3, 4, 5, 6, 7, 8, 9, 10, 11] rfl ?_
                  exact ih9 (gg - 1) (rs + hi9) (kd_step hl (by omega)) (by omega) (by omega) (by omega)
                · skip
                  have nc_141 : gg < 1000000000 := (lcN_ge (a := gg) (b := 1000000000) (by omega) (by omega)).2 c_141
                  have hgl : gg < 1000000000 := nc_141
                  refine gs (pc' := 256) (fun _ _ _ _ _ hl => lv_lload hx hb d_Mo_divide_254 (lv_at hl 1 rfl)) ?_
                  refine gs (pc' := 258) (fun _ _ _ _ _ hl => lv_lload hx hb d_Mo_divide_256 (lv_at hl 8 rfl)) ?_
                  refine gs (pc' := 259) (fun _ _ _ _ _ hl => lv_lmul hx hb d_Mo_divide_258) ?_
                  refine g_eql (show (lN gg) * (lN nx9) = lN (gg * nx9) from lN_mul _ _) ?_
                  refine gs (pc' := 261) (fun _ _ _ _ _ hl => lv_lload hx hb d_Mo_divide_259 (lv_at hl 0 rfl)) ?_
                  refine gs (pc' := 264) (fun _ _ _ _ _ hl => lv_ldc2 (v := 1000000000) hx hb hown (hts _ wm842) d_Mo_divide_261) ?_
                  refine g_eql (show 1000000000 = lN 1000000000 from rfl) ?_
                  refine gs (pc' := 265) (fun _ _ _ _ _ hl => lv_lmul hx hb d_Mo_divide_264) ?_
                  refine g_eql (show (lN rs) * (lN 1000000000) = lN (rs * 1000000000) from lN_mul _ _) ?_
                  refine gs (pc' := 266) (fun _ _ _ _ _ hl => lv_aload_n hx hb d_Mo_divide_265 rfl (lv_at hl 9 rfl)) ?_
                  refine g_get hx hb hts hin_Mo hown hK k1 rfl 8 (by decide) (hts _ wm762) (fun _ h9 => h9) rfl d_Mo_divide_266 ?_
                  refine gs (pc' := 271) (fun _ _ _ _ _ hl => lv_iload hx hb d_Mo_divide_269 (lv_at hl 2 rfl)) ?_
                  refine gs (pc' := 272) (fun _ _ _ _ _ hl => lv_iconst (v := nI 2) hx hb d_Mo_divide_271 (by decide)) ?_
                  refine gs (pc' := 273) (fun _ _ _ _ _ hl => lv_isub hx hb d_Mo_divide_272) ?_
                  refine g_eqi (show (nI (4300 * r + (j + md + 2))) - (nI 2) = nI (4300 * r + (j + md)) from (pk_sub (by omega)).trans (congrArg nI (show (4300 * r + (j + md + 2)) - 2 = 4300 * r + (j + md) by omega))) ?_
                  refine g_iald hx hb hK 0 k2 rfl (show vp_in (nI (4300 * r + (j + md))) 38700 from vp_in_nI (by omega) (by omega)) d_Mo_divide_273 ?_
                  refine g_eqi (show f1 (nI (4300 * r + (j + md))).toNatClampNeg = f1 (4300 * r + (j + md)) from by rw [nI_clamp (by omega)]) ?_
                  refine g_eqi (show f1 (4300 * r + (j + md)) = nI u2 from by rw [hu2e]; exact (hl1 (j + md) (by omega)).1) ?_
                  refine gs (pc' := 275) (fun _ _ _ _ _ hl => lv_i2l (v := lN u2) hx hb d_Mo_divide_274 (nI_l (by omega))) ?_
                  refine gs (pc' := 276) (fun _ _ _ _ _ hl => lv_ladd hx hb d_Mo_divide_275) ?_
                  refine g_eql (show (lN (rs * 1000000000)) + (lN u2) = lN ((rs * 1000000000) + u2) from lN_add _ _) ?_
                  refine gs (pc' := 277) (fun _ _ _ _ _ hl => W.lcmp hx hb d_Mo_divide_276) ?_
                  refine gsb (pc1 := 296) (pc2 := 280) (fun _ _ _ _ _ => lv_if_le (tgt := 296) hx hb d_Mo_divide_277 (by decide)) (fun c_142 => ?_) (fun c_142 => ?_)
                  · skip
                    have nc_142 : (gg * nx9) ≤ ((rs * 1000000000) + u2) := (lcN_le (a := (gg * nx9)) (b := ((rs * 1000000000) + u2)) (by omega) (by omega)).1 c_142
                    have hfin := kd_ok e1 hv0 hvl htp0 e2 hqq hl hgl nc_142
                    refine gsub [1, 3, 4, 5, 6, 7, 8, 9, 10, 11] rfl ?_
                    exact fin gg hgl hq1 hfin
                  · skip
                    have nc_142 : (gg * nx9) > ((rs * 1000000000) + u2) := (lcN_le (a := (gg * nx9)) (b := ((rs * 1000000000) + u2)) (by omega) (by omega)).2 c_142
                    have hdec := kd_dec e1 hv0 hul e2 hqq hl nc_142
                    refine gs (pc' := 282) (fun _ _ _ _ _ hl => lv_lload hx hb d_Mo_divide_280 (lv_at hl 1 rfl)) ?_
                    refine gs (pc' := 283) (fun _ _ _ _ _ hl => lv_lconst (v := lN 1) hx hb d_Mo_divide_282 (by decide)) ?_
                    refine gs (pc' := 284) (fun _ _ _ _ _ hl => lv_lsub hx hb d_Mo_divide_283) ?_
                    refine g_eql (show (lN gg) - (lN 1) = lN (gg - 1) from lN_sub (by omega)) ?_
                    refine gst (pc' := 286) (L' := [(14, .long (lN (gg - 1))), (16, .long (lN rs)), (11, .int (nI (4300 * r + (j + md + 2)))), (10, .int (nI j)), (3, .int (nI sc)), (4, .int (nI (md + 2))), (5, .int (nI sm)), (6, .long (lN hi9)), (8, .long (lN nx9)), (0, .ref hm), (1, .int (nI r)), (2, .int (nI o))]) (fun _ _ _ _ _ hl => lv_lstore hx hb d_Mo_divide_284 hl (by decide) rfl) ?_
                    refine gs (pc' := 288) (fun _ _ _ _ _ hl => lv_lload hx hb d_Mo_divide_286 (lv_at hl 1 rfl)) ?_
                    refine gs (pc' := 290) (fun _ _ _ _ _ hl => lv_lload hx hb d_Mo_divide_288 (lv_at hl 7 rfl)) ?_
                    refine gs (pc' := 291) (fun _ _ _ _ _ hl => lv_ladd hx hb d_Mo_divide_290) ?_
                    refine g_eql (show (lN rs) + (lN hi9) = lN (rs + hi9) from lN_add _ _) ?_
                    refine gst (pc' := 293) (L' := [(16, .long (lN (rs + hi9))), (14, .long (lN (gg - 1))), (11, .int (nI (4300 * r + (j + md + 2)))), (10, .int (nI j)), (3, .int (nI sc)), (4, .int (nI (md + 2))), (5, .int (nI sm)), (6, .long (lN hi9)), (8, .long (lN nx9)), (0, .ref hm), (1, .int (nI r)), (2, .int (nI o))]) (fun _ _ _ _ _ hl => lv_lstore hx hb d_Mo_divide_291 hl (by decide) rfl) ?_
                    refine gs (pc' := 236) (fun _ _ _ _ _ hl => lv_goto (tgt := 236) hx hb d_Mo_divide_293 (by decide)) ?_
                    refine gsub [0, 1, 2, 3, 4, 5, 6, 7, 8, 9, 10, 11] rfl ?_
                    exact ih9 (gg - 1) (rs + hi9) (kd_step hl (by omega)) (by omega) (by omega) (by omega)
          have hgt : (u0 * 1000000000 + u1) / hi9 * hi9 ≤ u0 * 1000000000 + u1 := Nat.div_mul_le_self _ _
          refine gs (pc' := 178) (fun _ _ _ _ _ hl => lv_iload hx hb d_Mo_divide_176 (lv_at hl 0 rfl)) ?_
          refine gsb (pc1 := 343) (pc2 := 181) (fun _ _ _ _ _ => lv_if_lt (tgt := 343) hx hb d_Mo_divide_178 (by decide)) (fun c_143 => ?_) (fun c_143 => ?_)
          · skip
            have nc_143 : j < 0 := (n0_lt (a := j) (by omega)).1 c_143
            exact absurd nc_143 (by omega)
          · skip
            have nc_143 : j ≥ 0 := (n0_lt (a := j) (by omega)).2 c_143
            refine gs (pc' := 184) (fun _ _ _ _ _ hl => lv_sipush (v := nI 4300) hx hb d_Mo_divide_181 (by decide)) ?_
            refine gs (pc' := 185) (fun _ _ _ _ _ hl => lv_iload_n hx hb d_Mo_divide_184 rfl (lv_at hl 7 rfl)) ?_
            refine gs (pc' := 186) (fun _ _ _ _ _ hl => lv_imul hx hb d_Mo_divide_185) ?_
            refine g_eqi (show (nI 4300) * (nI r) = nI (4300 * r) from pk_mul _ _) ?_
            refine gs (pc' := 188) (fun _ _ _ _ _ hl => lv_iload hx hb d_Mo_divide_186 (lv_at hl 0 rfl)) ?_
            refine gs (pc' := 189) (fun _ _ _ _ _ hl => lv_iadd hx hb d_Mo_divide_188) ?_
            refine g_eqi (show (nI (4300 * r)) + (nI j) = nI ((4300 * r) + j) from nI_add _ _) ?_
            refine gs (pc' := 191) (fun _ _ _ _ _ hl => lv_iload hx hb d_Mo_divide_189 (lv_at hl 2 rfl)) ?_
            refine gs (pc' := 192) (fun _ _ _ _ _ hl => lv_iadd hx hb d_Mo_divide_191) ?_
            refine g_eqi (show (nI ((4300 * r) + j)) + (nI (md + 2)) = nI (4300 * r + (j + md + 2)) from (nI_add _ _).trans (congrArg nI (show ((4300 * r) + j) + (md + 2) = 4300 * r + (j + md + 2) by omega))) ?_
            refine gst (pc' := 194) (L' := [(11, .int (nI (4300 * r + (j + md + 2)))), (10, .int (nI j)), (3, .int (nI sc)), (4, .int (nI (md + 2))), (5, .int (nI sm)), (6, .long (lN hi9)), (8, .long (lN nx9)), (0, .ref hm), (1, .int (nI r)), (2, .int (nI o))]) (fun _ _ _ _ _ hl => lv_istore hx hb d_Mo_divide_192 hl (by decide) rfl) ?_
            refine gs (pc' := 195) (fun _ _ _ _ _ hl => lv_aload_n hx hb d_Mo_divide_194 rfl (lv_at hl 7 rfl)) ?_
            refine g_get hx hb hts hin_Mo hown hK k1 rfl 8 (by decide) (hts _ wm762) (fun _ h9 => h9) rfl d_Mo_divide_195 ?_
            refine gs (pc' := 200) (fun _ _ _ _ _ hl => lv_iload hx hb d_Mo_divide_198 (lv_at hl 0 rfl)) ?_
            refine g_iald hx hb hK 0 k2 rfl (show vp_in (nI (4300 * r + (j + md + 2))) 38700 from vp_in_nI (by omega) (by omega)) d_Mo_divide_200 ?_
            refine g_eqi (show f1 (nI (4300 * r + (j + md + 2))).toNatClampNeg = f1 (4300 * r + (j + md + 2)) from by rw [nI_clamp (by omega)]) ?_
            refine g_eqi (show f1 (4300 * r + (j + md + 2)) = nI u0 from by rw [hu0e]; exact (hl1 (j + md + 2) (by omega)).1) ?_
            refine gs (pc' := 202) (fun _ _ _ _ _ hl => lv_i2l (v := lN u0) hx hb d_Mo_divide_201 (nI_l (by omega))) ?_
            refine gs (pc' := 205) (fun _ _ _ _ _ hl => lv_ldc2 (v := 1000000000) hx hb hown (hts _ wm842) d_Mo_divide_202) ?_
            refine g_eql (show 1000000000 = lN 1000000000 from rfl) ?_
            refine gs (pc' := 206) (fun _ _ _ _ _ hl => lv_lmul hx hb d_Mo_divide_205) ?_
            refine g_eql (show (lN u0) * (lN 1000000000) = lN (u0 * 1000000000) from lN_mul _ _) ?_
            refine gs (pc' := 207) (fun _ _ _ _ _ hl => lv_aload_n hx hb d_Mo_divide_206 rfl (lv_at hl 7 rfl)) ?_
            refine g_get hx hb hts hin_Mo hown hK k1 rfl 8 (by decide) (hts _ wm762) (fun _ h9 => h9) rfl d_Mo_divide_207 ?_
            refine gs (pc' := 212) (fun _ _ _ _ _ hl => lv_iload hx hb d_Mo_divide_210 (lv_at hl 0 rfl)) ?_
            refine gs (pc' := 213) (fun _ _ _ _ _ hl => lv_iconst (v := nI 1) hx hb d_Mo_divide_212 (by decide)) ?_
            refine gs (pc' := 214) (fun _ _ _ _ _ hl => lv_isub hx hb d_Mo_divide_213) ?_
            refine g_eqi (show (nI (4300 * r + (j + md + 2))) - (nI 1) = nI (4300 * r + (j + md + 1)) from (pk_sub (by omega)).trans (congrArg nI (show (4300 * r + (j + md + 2)) - 1 = 4300 * r + (j + md + 1) by omega))) ?_
            refine g_iald hx hb hK 0 k2 rfl (show vp_in (nI (4300 * r + (j + md + 1))) 38700 from vp_in_nI (by omega) (by omega)) d_Mo_divide_214 ?_
            refine g_eqi (show f1 (nI (4300 * r + (j + md + 1))).toNatClampNeg = f1 (4300 * r + (j + md + 1)) from by rw [nI_clamp (by omega)]) ?_
            refine g_eqi (show f1 (4300 * r + (j + md + 1)) = nI u1 from by rw [hu1e]; exact (hl1 (j + md + 1) (by omega)).1) ?_
            refine gs (pc' := 216) (fun _ _ _ _ _ hl => lv_i2l (v := lN u1) hx hb d_Mo_divide_215 (nI_l (by omega))) ?_
            refine gs (pc' := 217) (fun _ _ _ _ _ hl => lv_ladd hx hb d_Mo_divide_216) ?_
            refine g_eql (show (lN (u0 * 1000000000)) + (lN u1) = lN ((u0 * 1000000000) + u1) from lN_add _ _) ?_
            refine gst (pc' := 219) (L' := [(12, .long (lN ((u0 * 1000000000) + u1))), (11, .int (nI (4300 * r + (j + md + 2)))), (10, .int (nI j)), (3, .int (nI sc)), (4, .int (nI (md + 2))), (5, .int (nI sm)), (6, .long (lN hi9)), (8, .long (lN nx9)), (0, .ref hm), (1, .int (nI r)), (2, .int (nI o))]) (fun _ _ _ _ _ hl => lv_lstore hx hb d_Mo_divide_217 hl (by decide) rfl) ?_
            refine gs (pc' := 221) (fun _ _ _ _ _ hl => lv_lload hx hb d_Mo_divide_219 (lv_at hl 0 rfl)) ?_
            refine gs (pc' := 223) (fun _ _ _ _ _ hl => lv_lload hx hb d_Mo_divide_221 (lv_at hl 6 rfl)) ?_
            refine gs (pc' := 224) (fun _ _ _ _ _ hl => lv_ldiv hx hb d_Mo_divide_223 (fun e => absurd ((pk_lEQ (by omega) (by omega)).mp (e.trans (show _ = lN 0 from rfl))) (by omega))) ?_
            refine g_eql (show (lN ((u0 * 1000000000) + u1)) / (lN hi9) = lN (((u0 * 1000000000) + u1) / hi9) from pk_lDiv (by omega) (by omega) (by omega)) ?_
            refine gst (pc' := 226) (L' := [(14, .long (lN (((u0 * 1000000000) + u1) / hi9))), (12, .long (lN ((u0 * 1000000000) + u1))), (11, .int (nI (4300 * r + (j + md + 2)))), (10, .int (nI j)), (3, .int (nI sc)), (4, .int (nI (md + 2))), (5, .int (nI sm)), (6, .long (lN hi9)), (8, .long (lN nx9)), (0, .ref hm), (1, .int (nI r)), (2, .int (nI o))]) (fun _ _ _ _ _ hl => lv_lstore hx hb d_Mo_divide_224 hl (by decide) rfl) ?_
            refine gs (pc' := 228) (fun _ _ _ _ _ hl => lv_lload hx hb d_Mo_divide_226 (lv_at hl 1 rfl)) ?_
            refine gs (pc' := 230) (fun _ _ _ _ _ hl => lv_lload hx hb d_Mo_divide_228 (lv_at hl 0 rfl)) ?_
            refine gs (pc' := 232) (fun _ _ _ _ _ hl => lv_lload hx hb d_Mo_divide_230 (lv_at hl 7 rfl)) ?_
            refine gs (pc' := 233) (fun _ _ _ _ _ hl => lv_lmul hx hb d_Mo_divide_232) ?_
            refine g_eql (show (lN (((u0 * 1000000000) + u1) / hi9)) * (lN hi9) = lN ((((u0 * 1000000000) + u1) / hi9) * hi9) from lN_mul _ _) ?_
            refine gs (pc' := 234) (fun _ _ _ _ _ hl => lv_lsub hx hb d_Mo_divide_233) ?_
            refine g_eql (show (lN ((u0 * 1000000000) + u1)) - (lN ((((u0 * 1000000000) + u1) / hi9) * hi9)) = lN (((u0 * 1000000000) + u1) - ((((u0 * 1000000000) + u1) / hi9) * hi9)) from lN_sub (by omega)) ?_
            refine gst (pc' := 236) (L' := [(16, .long (lN (((u0 * 1000000000) + u1) - ((((u0 * 1000000000) + u1) / hi9) * hi9)))), (14, .long (lN (((u0 * 1000000000) + u1) / hi9))), (12, .long (lN ((u0 * 1000000000) + u1))), (11, .int (nI (4300 * r + (j + md + 2)))), (10, .int (nI j)), (3, .int (nI sc)), (4, .int (nI (md + 2))), (5, .int (nI sm)), (6, .long (lN hi9)), (8, .long (lN nx9)), (0, .ref hm), (1, .int (nI r)), (2, .int (nI o))]) (fun _ _ _ _ _ hl => lv_lstore hx hb d_Mo_divide_234 hl (by decide) rfl) ?_
            refine gsub [0, 1, 3, 4, 5, 6, 7, 8, 9, 10, 11, 12] rfl ?_
            have hdm2 := Nat.div_add_mod (u0 * 1000000000 + u1) hi9
            rw [Nat.mul_comm] at hdm2
            exact wl 2 _ _ (by omega) hf1 hf2 hf2
      exact loop (sm + 1) f0 G_48 (Nat.le_refl _) hlr0 (fun _ _ => rfl) (by rw [huu] at huo; rw [hvv]; exact sd_R0 (v1 := Rg r) (v2 := Rg o) (s := sc) huo.symm hR9 hR8 hs1) (fun x h1 h2 => absurd h1 (by omega)) (by rw [Nat.sub_self, dv_0, Nat.zero_mul, Nat.zero_mul, Nat.zero_add, huo, show sm + md + 3 = (sm + 1) + (md + 2) by omega, dv_split, Nat.add_comm, Nat.mul_comm]) oth2_rf hfr0 f_51 f_49 f_52 _ (nI_add _ _)
    · skip
      have nc_16 : zz_12 = 1 := (nn_ne (a := zz_12) (b := 1) (by omega) (by omega)).2 c_16
      have hz1 : 1 = zz_12 := by omega
      subst hz1
      have hv1 := isD_1v hD_15
      refine gs (pc' := 29) (fun _ _ _ _ _ hl => lv_aload_n hx hb d_Mo_divide_28 rfl (lv_at hl 0 rfl)) ?_
      refine gs (pc' := 31) (fun _ _ _ _ _ hl => lv_bipush (v := nI 8) hx hb d_Mo_divide_29 (by decide)) ?_
      refine gs (pc' := 32) (fun _ _ _ _ _ hl => lv_iload_n hx hb d_Mo_divide_31 rfl (lv_at hl 1 rfl)) ?_
      refine g_outv hlo (g_runV (As := [.int (nI 8), .int (nI r)]) (rest := []) ⟨hx, hb, hml, hown, hts⟩ hK hZ hRc hRs (c_Mo_copy l D cA lo MC MS G B hm A I hob Rg hR 8 (by decide) r hb_r hr8 hB1 hB2) (fun _ _ => cwV 2 hts (tb_good (tb_cons wm847 (tb_cons wm849 (tb_cons ws23 (tb_cons wm12 k_Mo_copy))))) rfl rfl rfl (by decide +kernel) ⟨by rw [hRf]; exact Nat.le_of_ble_eq_true rfl, by rw [hRl]; exact Nat.le_of_ble_eq_true rfl⟩) hob rfl hB1 hB2 rfl (Nat.le_of_ble_eq_true rfl) d_Mo_divide_32) (fun G_144 B_145 p_146 => ?_)
      obtain ⟨e_147, mr_148, f_149, gf_150⟩ := p_146
      have e_147b : B = B_145 := e_147.symm
      subst e_147b
      have gf_151 : gfr (fun x => x = 75 ∨ x = 76) G G_144 := gfr_mono (gfr_tr gfr_rf gf_150) (fun x h9 => by rcases h9 with h9 | h9 <;> exact h9)
      have f_152 : G_144 hm = some (70, .inr (9, [.int (I 0), .int (I 1), .ref (A 2), .ref (A 3), .ref (A 4), .ref (A 5), .int (I 6), .int (I 7), .ref (A 8), .ref (A 9), .int (I 10), .ref (A 11), .ref (A 12), .ref (A 13), .int (I 14), .ref (A 15), .ref (A 16), .ref (A 17), .ref (A 18), .int (I 19), .int (I 20), .int (I 21)])) := f_149
      refine gs (pc' := 36) (fun _ _ _ _ _ hl => lv_aload_n hx hb d_Mo_divide_35 rfl (lv_at hl 0 rfl)) ?_
      refine gs (pc' := 38) (fun _ _ _ _ _ hl => lv_bipush (v := nI 8) hx hb d_Mo_divide_36 (by decide)) ?_
      refine gs (pc' := 39) (fun _ _ _ _ _ hl => lv_aload_n hx hb d_Mo_divide_38 rfl (lv_at hl 0 rfl)) ?_
      refine g_get hx hb hts hin_Mo hown hK f_152 rfl 8 (by decide) (hts _ wm762) (fun _ h9 => h9) rfl d_Mo_divide_39 ?_
      refine gs (pc' := 45) (fun _ _ _ _ _ hl => lv_sipush (v := nI 4300) hx hb d_Mo_divide_42 (by decide)) ?_
      refine gs (pc' := 46) (fun _ _ _ _ _ hl => lv_iload_n hx hb d_Mo_divide_45 rfl (lv_at hl 2 rfl)) ?_
      refine gs (pc' := 47) (fun _ _ _ _ _ hl => lv_imul hx hb d_Mo_divide_46) ?_
      refine g_eqi (show (nI 4300) * (nI o) = nI (4300 * o) from pk_mul _ _) ?_
      obtain ⟨lm_153, sz_154, f_155, f_156, rg_157⟩ := id mr_148
      refine g_iald hx hb hK 0 f_155 rfl (show vp_in (nI (4300 * o)) 38700 from vp_in_nI (by omega) (by omega)) d_Mo_divide_47 ?_
      refine g_eqi (show lm_153 (nI (4300 * o)).toNatClampNeg = lm_153 (4300 * o) from by rw [nI_clamp (by omega)]) ?_
      obtain ⟨zz_158, hg_159, hz_160, hD_161⟩ := rg_157 o hb_o
      rw [fup_n ho8] at hD_161
      refine g_eqi (show lm_153 (4300 * o) = nI (Rg o) from (isD_one hD_161 hpos hv1).2) ?_
      refine gs (pc' := 49) (fun _ _ _ _ _ hl => lv_i2l (v := lN (Rg o)) hx hb d_Mo_divide_48 (nI_l (by omega))) ?_
      refine g_outl hlo (g_runV (As := [.int (nI 8), .long (lN (Rg o))]) (rest := []) ⟨hx, hb, hml, hown, hts⟩ hK hZ hRc hRs (c_Mo_small l D cA lo MC MS G_144 B hm A I f_152 (fup Rg 8 (Rg r)) mr_148 8 (by decide) (Rg o) hpos (by omega) hB1 hB2) (fun _ _ => cwV 2 hts (tb_good (tb_cons wm859 (tb_cons wm861 (tb_cons ws26 (tb_cons wm12 k_Mo_small))))) rfl rfl rfl (by decide +kernel) ⟨by rw [hRf]; exact Nat.le_of_ble_eq_true rfl, by rw [hRl]; exact Nat.le_of_ble_eq_true rfl⟩) f_152 rfl hB1 hB2 rfl (Nat.le_of_ble_eq_true rfl) d_Mo_divide_49) (fun r_165 G_162 B_163 p_164 => ?_)
      obtain ⟨e_166, e_170, mr_167, f_168, gf_169⟩ := p_164
      have e_166b : B = B_163 := e_166.symm
      subst e_166b
      subst e_170
      have gf_171 : gfr (fun x => x = 75 ∨ x = 76) G G_162 := gfr_mono (gfr_tr gf_151 gf_169) (fun x h9 => by rcases h9 with h9 | h9 <;> exact h9)
      have f_172 : G_162 hm = some (70, .inr (9, [.int (I 0), .int (I 1), .ref (A 2), .ref (A 3), .ref (A 4), .ref (A 5), .int (I 6), .int (I 7), .ref (A 8), .ref (A 9), .int (I 10), .ref (A 11), .ref (A 12), .ref (A 13), .int (I 14), .ref (A 15), .ref (A 16), .ref (A 17), .ref (A 18), .int (I 19), .int (I 20), .int (I 21)])) := f_168
      refine g_eql (show lN ((fup Rg 8 (Rg r)) 8 % Rg o) = lN (Rg r % Rg o) from by rw [fup_s]) ?_
      refine gst (pc' := 53) (L' := [(3, .long (lN (Rg r % Rg o))), (0, .ref hm), (1, .int (nI r)), (2, .int (nI o))]) (fun _ _ _ _ _ hl => lv_lstore_n hx hb d_Mo_divide_52 rfl hl (by decide) rfl) ?_
      refine gs (pc' := 54) (fun _ _ _ _ _ hl => lv_aload_n hx hb d_Mo_divide_53 rfl (lv_at hl 1 rfl)) ?_
      refine gs (pc' := 55) (fun _ _ _ _ _ hl => lv_iload_n hx hb d_Mo_divide_54 rfl (lv_at hl 2 rfl)) ?_
      refine gs (pc' := 56) (fun _ _ _ _ _ hl => lv_lload_n hx hb d_Mo_divide_55 rfl (lv_at hl 0 rfl)) ?_
      have hmlt := Nat.mod_lt (Rg r) hpos
      refine g_outv hlo (g_runV (As := [.int (nI r), .long (lN (Rg r % Rg o))]) (rest := []) ⟨hx, hb, hml, hown, hts⟩ hK hZ hRc hRs (c_Mo_set l D cA lo MC MS G_162 B hm A I f_172 (fup (fup Rg 8 (Rg r)) 8 ((fup Rg 8 (Rg r)) 8 / Rg o)) mr_167 r hb_r (Rg r % Rg o) (by omega) hB1 hB2) (fun _ _ => cwV 2 hts (tb_good (tb_cons wm838 (tb_cons wm840 (tb_cons ws21 (tb_cons wm12 k_Mo_set))))) rfl rfl rfl (by decide +kernel) ⟨by rw [hRf]; exact Nat.le_of_ble_eq_true rfl, by rw [hRl]; exact Nat.le_of_ble_eq_true rfl⟩) f_172 rfl hB1 hB2 rfl (Nat.le_of_ble_eq_true rfl) d_Mo_divide_56) (fun G_173 B_174 p_175 => ?_)
      obtain ⟨e_176, mr_177, f_178, gf_179⟩ := p_175
      have e_176b : B = B_174 := e_176.symm
      subst e_176b
      have gf_180 : gfr (fun x => x = 75 ∨ x = 76) G G_173 := gfr_mono (gfr_tr gf_171 gf_179) (fun x h9 => by rcases h9 with h9 | h9 <;> exact h9)
      have f_181 : G_173 hm = some (70, .inr (9, [.int (I 0), .int (I 1), .ref (A 2), .ref (A 3), .ref (A 4), .ref (A 5), .int (I 6), .int (I 7), .ref (A 8), .ref (A 9), .int (I 10), .ref (A 11), .ref (A 12), .ref (A 13), .int (I 14), .ref (A 15), .ref (A 16), .ref (A 17), .ref (A 18), .int (I 19), .int (I 20), .int (I 21)])) := f_178
      exact hret 59 _ _ _ d_Mo_divide_59 hB1 hB2 ⟨rfl, MR_eq mr_177 (fun q9 => by
        by_cases e1 : q9 = r
        · subst e1; rw [fup_s, fup_s]
        · rw [fup_n e1, fup_n e1]
          by_cases e2 : q9 = 8
          · subst e2; rw [fup_s, fup_s, fup_s]
          · rw [fup_n e2, fup_n e2, fup_n e2]), f_181, gf_180⟩
  · skip
    have hlt := cmp_lt hcm c_6
    refine gs (pc' := 10) (fun _ _ _ _ _ hl => lv_aload_n hx hb d_Mo_divide_9 rfl (lv_at hl 0 rfl)) ?_
    refine g_get hx hb hts hin_Mo hown hK hob rfl 9 (by decide) (hts _ wm763) (fun _ h9 => h9) rfl d_Mo_divide_10 ?_
    refine gs (pc' := 15) (fun _ _ _ _ _ hl => lv_bipush (v := nI 8) hx hb d_Mo_divide_13 (by decide)) ?_
    refine gs (pc' := 16) (fun _ _ _ _ _ hl => lv_iconst (v := nI 0) hx hb d_Mo_divide_15 (by decide)) ?_
    obtain ⟨lm_182, sz_183, f_184, f_185, rg_186⟩ := id hR
    have hsz17 := f_185
    refine g_iast hx hb hK 0 f_185 rfl (show vp_in (nI 8) 9 from vp_in_nI (by omega) (by omega)) d_Mo_divide_16 (fun G_187 f_188 o_189 => ?_)
    rw [nI_clamp (by omega)] at f_188
    have f_190 : G_187 hm = some (70, .inr (9, [.int (I 0), .int (I 1), .ref (A 2), .ref (A 3), .ref (A 4), .ref (A 5), .int (I 6), .int (I 7), .ref (A 8), .ref (A 9), .int (I 10), .ref (A 11), .ref (A 12), .ref (A 13), .int (I 14), .ref (A 15), .ref (A 16), .ref (A 17), .ref (A 18), .int (I 19), .int (I 20), .int (I 21)])) := (o_189 _ (gne hob f_185 (fun e => by cases e))).trans hob
    have f_191 : G_187 (A 8) = some (75, .inl (cA 0, 38700, .inl lm_182)) := (o_189 _ (gne f_184 f_185 (by simp))).trans f_184
    have hMt : MR cA A (fup Rg 8 0) G_187 := ⟨_, _, f_191, f_188, RG_set rg_186 oth_rf (by omega) isD_0⟩
    exact hret 17 _ _ _ d_Mo_divide_17 hB1 hB2 ⟨rfl, MR_eq hMt (fun q9 => by
      rw [Nat.div_eq_of_lt hlt, Nat.mod_eq_of_lt hlt]
      by_cases e1 : q9 = r
      · subst e1; rw [fup_s, fup_n hr8]
      · rw [fup_n e1]), f_190, gfr_put gfr_rf hsz17 (Or.inr rfl) o_189⟩
