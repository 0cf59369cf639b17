set_option maxHeartbeats 4000000 in
set_option maxRecDepth 100000 in
theorem c_Mo_scale (l : Launch) (D : va_G) (cA : Nat → ClassId) (lo MC MS : Nat) (G : gT) (B : Nat × Nat) (hm : Nat) (A : Nat → Nat) (I : Nat → Int32) (hob : G hm = some (70, .inr (9, mfs A I))) (Rg : Nat → Nat) (hR : MR cA A Rg G) (r : Nat) (hb_r : r < 9) (by9 : Nat) (hby : by9 ≤ 1000000000) (k : Nat) (hk1 : Rg r < 1000000000 ^ k) (hk : k ≤ 4290) (hB1 : B.1 ≤ MC) (hB2 : B.2 ≤ MS) : gMet l y_Mo_scale w_Mo_scale 1 21 D clS (gtys cA) lo MC MS [.ref hm, .int (nI r), .long (lN by9)] G B (gQv D clS lo (fun u => u.2 = B ∧ MR cA A (fup Rg r (Rg r * by9)) u.1 ∧ u.1 hm = some (70, .inr (9, mfs A I)) ∧ gfr (fun x => x = 75 ∨ x = 76) G u.1)) := by
  refine g_metv (cc := prog_11_method_11_code) (nL := 9) (L := [(0, .ref hm), (1, .int (nI r)), (2, .long (lN by9))]) (by decide +kernel) rfl (Nat.le_of_ble_eq_true rfl) rfl ?_
  intro p e R s m args below meth c Q hF hRc hRs hRf hRl hret
  obtain ⟨hx, hb, hr, hml, hts0, hown, hlocks, hin, hK, hlo, hZ⟩ := hF
  have hts : ∀ w ∈ tbg, w.before args s = true := fun w h => hts0 w (List.mem_cons_of_mem _ h)
  obtain ⟨f, g, hlm, hsz, hRG⟩ := hR
  obtain ⟨zr, hgr, hzr, hDr⟩ := hRG r hb_r
  have hlr := hDr.1
  have hzrk : zr ≤ k := isD_size hDr hk1
  refine gs (pc' := 1) (fun _ _ _ _ _ hl => lv_lconst (v := lN 0) hx hb d_Mo_scale_0 (by decide)) ?_
  refine gst (pc' := 3) (L' := [(4, .long (lN 0)), (0, .ref hm), (1, .int (nI r)), (2, .long (lN by9))]) (fun _ _ _ _ _ hl => lv_lstore hx hb d_Mo_scale_1 hl (by decide) rfl) ?_
  refine gs (pc' := 6) (fun _ _ _ _ _ hl => lv_sipush (v := nI 4300) hx hb d_Mo_scale_3 (by decide)) ?_
  refine gs (pc' := 7) (fun _ _ _ _ _ hl => lv_iload_n hx hb d_Mo_scale_6 rfl (lv_at hl 2 rfl)) ?_
  refine gs (pc' := 8) (fun _ _ _ _ _ hl => lv_imul hx hb d_Mo_scale_7) ?_
  refine g_eqi (show (nI 4300) * (nI r) = nI (4300 * r) from pk_mul _ _) ?_
  refine gst (pc' := 10) (L' := [(6, .int (nI (4300 * r))), (4, .long (lN 0)), (0, .ref hm), (1, .int (nI r)), (2, .long (lN by9))]) (fun _ _ _ _ _ hl => lv_istore hx hb d_Mo_scale_8 hl (by decide) rfl) ?_
  refine gsub [0, 1, 2, 3, 4] rfl ?_
  have loop : ∀ (n j c0 : Nat) (f1 : Nat → Int32) (Gk : gT), (j + n = zr) → (c0 ≤ 1000000000) → (lim (sh f1 r) zr) → (dv (df (sh f1 r)) j + c0 * 1000000000 ^ j = dv (df (sh f r)) j * by9) → (∀ x, j ≤ x → sh f1 r x = sh f r x) → (oth r f f1) → (gfr (fun x => x = 75 ∨ x = 76) G Gk) → Gk hm = some (70, .inr (9, [.int (I 0), .int (I 1), .ref (A 2), .ref (A 3), .ref (A 4), .ref (A 5), .int (I 6), .int (I 7), .ref (A 8), .ref (A 9), .int (I 10), .ref (A 11), .ref (A 12), .ref (A 13), .int (I 14), .ref (A 15), .ref (A 16), .ref (A 17), .ref (A 18), .int (I 19), .int (I 20), .int (I 21)])) → Gk (A 8) = some (75, .inl (cA 0, 38700, .inl f1)) → Gk (A 9) = some (76, .inl (cA 0, 9, .inl g)) → gV p l e R s m args below meth c D clS lo 9 Q 10 [(6, .int (nI (4300 * r + j))), (4, .long (lN c0)), (0, .ref hm), (1, .int (nI r)), (2, .long (lN by9))] [] Gk B := by
    intro n
    induction n with
    | zero =>
      intro j c0 f1 Gk hj hc0 hl1 hmu hup hot hfr k1 k2 k3
      have hjn : zr = j := by omega
      refine gs (pc' := 12) (fun _ _ _ _ _ hl => lv_iload hx hb d_Mo_scale_10 (lv_at hl 0 rfl)) ?_
      refine gs (pc' := 15) (fun _ _ _ _ _ hl => lv_sipush (v := nI 4300) hx hb d_Mo_scale_12 (by decide)) ?_
      refine gs (pc' := 16) (fun _ _ _ _ _ hl => lv_iload_n hx hb d_Mo_scale_15 rfl (lv_at hl 3 rfl)) ?_
      refine gs (pc' := 17) (fun _ _ _ _ _ hl => lv_imul hx hb d_Mo_scale_16) ?_
      refine g_eqi (show (nI 4300) * (nI r) = nI (4300 * r) from pk_mul _ _) ?_
      refine gs (pc' := 18) (fun _ _ _ _ _ hl => lv_aload_n hx hb d_Mo_scale_17 rfl (lv_at hl 2 rfl)) ?_
      refine g_get hx hb hts hin_Mo hown hK k1 rfl 9 (by decide) (hts _ wm763) (fun _ h9 => h9) rfl d_Mo_scale_18 ?_
      refine gs (pc' := 22) (fun _ _ _ _ _ hl => lv_iload_n hx hb d_Mo_scale_21 rfl (lv_at hl 3 rfl)) ?_
      refine g_iald hx hb hK 0 k3 rfl (show vp_in (nI r) 9 from vp_in_nI (by omega) (by omega)) d_Mo_scale_22 ?_
      refine g_eqi (show g (nI r).toNatClampNeg = g r from by rw [nI_clamp (by omega)]) ?_
      refine g_eqi (show g r = nI zr from hgr) ?_
      refine gs (pc' := 24) (fun _ _ _ _ _ hl => lv_iadd hx hb d_Mo_scale_23) ?_
      refine g_eqi (show (nI (4300 * r)) + (nI zr) = nI ((4300 * r) + zr) from nI_add _ _) ?_
      refine gsb (pc1 := 73) (pc2 := 27) (fun _ _ _ _ _ => lv_icmp_ge (tgt := 73) hx hb d_Mo_scale_24 (by decide)) (fun c_1 => ?_) (fun c_1 => ?_)
      · skip
        have nc_1 : (4300 * r + j) ≥ ((4300 * r) + zr) := (nn_ge (a := (4300 * r + j)) (b := ((4300 * r) + zr)) (by omega) (by omega)).1 c_1
        refine gsub [1, 2, 3, 4] rfl ?_
        have tail : ∀ (n2 lf y : Nat) (f2 g2 : Nat → Int32) (Gm : gT), (lf < 1000000000 ^ n2) → (lf ≤ 1000000000) → (y + n2 ≤ zr + 2) → (g2 r = nI y) → (∀ o, o ≠ r → g2 o = g o) → (lim (sh f2 r) y) → (dv (df (sh f2 r)) y + lf * 1000000000 ^ y = Rg r * by9) → (oth r f f2) → (gfr (fun x => x = 75 ∨ x = 76) G Gm) → Gm hm = some (70, .inr (9, [.int (I 0), .int (I 1), .ref (A 2), .ref (A 3), .ref (A 4), .ref (A 5), .int (I 6), .int (I 7), .ref (A 8), .ref (A 9), .int (I 10), .ref (A 11), .ref (A 12), .ref (A 13), .int (I 14), .ref (A 15), .ref (A 16), .ref (A 17), .ref (A 18), .int (I 19), .int (I 20), .int (I 21)])) → Gm (A 8) = some (75, .inl (cA 0, 38700, .inl f2)) → Gm (A 9) = some (76, .inl (cA 0, 9, .inl g2)) → gV p l e R s m args below meth c D clS lo 9 Q 73 [(4, .long (lN lf)), (0, .ref hm), (1, .int (nI r)), (2, .long (lN by9))] [] Gm B := by
          intro n2
          induction n2 with
          | zero =>
            intro lf y f2 g2 Gm hlq hlb hyq hg2r hg2o hl2 hdv hot2 hfr2 m1 m2 m3
            have hl1z : lf < 1 := hlq
            refine gs (pc' := 75) (fun _ _ _ _ _ hl => lv_lload hx hb d_Mo_scale_73 (lv_at hl 0 rfl)) ?_
            refine gs (pc' := 76) (fun _ _ _ _ _ hl => lv_lconst (v := lN 0) hx hb d_Mo_scale_75 (by decide)) ?_
            refine gs (pc' := 77) (fun _ _ _ _ _ hl => W.lcmp hx hb d_Mo_scale_76) ?_
            refine gsb (pc1 := 125) (pc2 := 80) (fun _ _ _ _ _ => lv_if_le (tgt := 125) hx hb d_Mo_scale_77 (by decide)) (fun c_2 => ?_) (fun c_2 => ?_)
            · skip
              have nc_2 : lf ≤ 0 := (lcN_le (a := lf) (b := 0) (by omega) (by omega)).1 c_2
              have hl0 : lf = 0 := by omega
              rw [hl0, Nat.zero_mul, Nat.add_zero] at hdv
              refine gs (pc' := 126) (fun _ _ _ _ _ hl => lv_aload_n hx hb d_Mo_scale_125 rfl (lv_at hl 1 rfl)) ?_
              refine gs (pc' := 127) (fun _ _ _ _ _ hl => lv_iload_n hx hb d_Mo_scale_126 rfl (lv_at hl 2 rfl)) ?_
              refine g_outv hlo (g_runV (As := [.int (nI r)]) (rest := []) ⟨hx, hb, hml, hown, hts⟩ hK hZ hRc hRs (c_Mo_trim l D cA lo MC MS Gm B hm A I m1 f2 g2 m2 m3 r hb_r y hg2r (by omega) hl2 (Rg r * by9) hdv hB1 hB2) (fun _ _ => cwV 1 hts (tb_good (tb_cons wm863 (tb_cons wm865 (tb_cons ws27 (tb_cons wm12 k_Mo_trim))))) rfl rfl rfl (by decide +kernel) ⟨by rw [hRf]; exact Nat.le_of_ble_eq_true rfl, by rw [hRl]; exact Nat.le_of_ble_eq_true rfl⟩) m1 rfl hB1 hB2 rfl (Nat.le_of_ble_eq_true rfl) d_Mo_scale_127) (fun G_3 B_4 p_5 => ?_)
              obtain ⟨e_6, g_7, y_8, f_9, f_10, f_11, tg_12, to_13, ty_14, tD_15, tf_16⟩ := p_5
              have e_6b : B_4 = B := e_6
              subst e_6b
              have gf_17 : gfr (fun x => x = 75 ∨ x = 76) G G_3 := gfr_mono (gfr_tr hfr2 tf_16) (fun x h9 => by rcases h9 with h9 | h9; exact h9; exact Or.inr h9)
              exact hret 130 _ _ _ d_Mo_scale_130 hB1 hB2 ⟨rfl, ⟨_, _, f_10, f_11, RG_set' hRG hot2 tg_12 (fun o9 h9 => (to_13 o9 h9).trans (hg2o o9 h9)) (by have := ty_14; omega) tD_15⟩, f_9, gfr_mono gf_17 (fun x h9 => by omega)⟩
            · skip
              have nc_2 : lf > 0 := (lcN_le (a := lf) (b := 0) (by omega) (by omega)).2 c_2
              exact absurd nc_2 (by omega)
          | succ n2 ih2 =>
            intro lf y f2 g2 Gm hlq hlb hyq hg2r hg2o hl2 hdv hot2 hfr2 m1 m2 m3
            refine gs (pc' := 75) (fun _ _ _ _ _ hl => lv_lload hx hb d_Mo_scale_73 (lv_at hl 0 rfl)) ?_
            refine gs (pc' := 76) (fun _ _ _ _ _ hl => lv_lconst (v := lN 0) hx hb d_Mo_scale_75 (by decide)) ?_
            refine gs (pc' := 77) (fun _ _ _ _ _ hl => W.lcmp hx hb d_Mo_scale_76) ?_
            refine gsb (pc1 := 125) (pc2 := 80) (fun _ _ _ _ _ => lv_if_le (tgt := 125) hx hb d_Mo_scale_77 (by decide)) (fun c_18 => ?_) (fun c_18 => ?_)
            · skip
              have nc_18 : lf ≤ 0 := (lcN_le (a := lf) (b := 0) (by omega) (by omega)).1 c_18
              have hl0 : lf = 0 := by omega
              rw [hl0, Nat.zero_mul, Nat.add_zero] at hdv
              refine gs (pc' := 126) (fun _ _ _ _ _ hl => lv_aload_n hx hb d_Mo_scale_125 rfl (lv_at hl 1 rfl)) ?_
              refine gs (pc' := 127) (fun _ _ _ _ _ hl => lv_iload_n hx hb d_Mo_scale_126 rfl (lv_at hl 2 rfl)) ?_
              refine g_outv hlo (g_runV (As := [.int (nI r)]) (rest := []) ⟨hx, hb, hml, hown, hts⟩ hK hZ hRc hRs (c_Mo_trim l D cA lo MC MS Gm B hm A I m1 f2 g2 m2 m3 r hb_r y hg2r (by omega) hl2 (Rg r * by9) hdv hB1 hB2) (fun _ _ => cwV 1 hts (tb_good (tb_cons wm863 (tb_cons wm865 (tb_cons ws27 (tb_cons wm12 k_Mo_trim))))) rfl rfl rfl (by decide +kernel) ⟨by rw [hRf]; exact Nat.le_of_ble_eq_true rfl, by rw [hRl]; exact Nat.le_of_ble_eq_true rfl⟩) m1 rfl hB1 hB2 rfl (Nat.le_of_ble_eq_true rfl) d_Mo_scale_127) (fun G_19 B_20 p_21 => ?_)
              obtain ⟨e_22, g_23, y_24, f_25, f_26, f_27, tg_28, to_29, ty_30, tD_31, tf_32⟩ := p_21
              have e_22b : B_20 = B := e_22
              subst e_22b
              have gf_33 : gfr (fun x => x = 75 ∨ x = 76) G G_19 := gfr_mono (gfr_tr hfr2 tf_32) (fun x h9 => by rcases h9 with h9 | h9; exact h9; exact Or.inr h9)
              exact hret 130 _ _ _ d_Mo_scale_130 hB1 hB2 ⟨rfl, ⟨_, _, f_26, f_27, RG_set' hRG hot2 tg_28 (fun o9 h9 => (to_29 o9 h9).trans (hg2o o9 h9)) (by have := ty_30; omega) tD_31⟩, f_25, gfr_mono gf_33 (fun x h9 => by omega)⟩
            · skip
              have nc_18 : lf > 0 := (lcN_le (a := lf) (b := 0) (by omega) (by omega)).2 c_18
              have hlp : 0 < lf := by omega
              have hdm := Nat.div_add_mod lf 1000000000
              have hml := Nat.mod_lt lf (show 0 < 1000000000 by decide)
              refine gs (pc' := 81) (fun _ _ _ _ _ hl => lv_aload_n hx hb d_Mo_scale_80 rfl (lv_at hl 1 rfl)) ?_
              refine g_get hx hb hts hin_Mo hown hK m1 rfl 8 (by decide) (hts _ wm762) (fun _ h9 => h9) rfl d_Mo_scale_81 ?_
              refine gs (pc' := 87) (fun _ _ _ _ _ hl => lv_sipush (v := nI 4300) hx hb d_Mo_scale_84 (by decide)) ?_
              refine gs (pc' := 88) (fun _ _ _ _ _ hl => lv_iload_n hx hb d_Mo_scale_87 rfl (lv_at hl 2 rfl)) ?_
              refine gs (pc' := 89) (fun _ _ _ _ _ hl => lv_imul hx hb d_Mo_scale_88) ?_
              refine g_eqi (show (nI 4300) * (nI r) = nI (4300 * r) from pk_mul _ _) ?_
              refine gs (pc' := 90) (fun _ _ _ _ _ hl => lv_aload_n hx hb d_Mo_scale_89 rfl (lv_at hl 1 rfl)) ?_
              refine g_get hx hb hts hin_Mo hown hK m1 rfl 9 (by decide) (hts _ wm763) (fun _ h9 => h9) rfl d_Mo_scale_90 ?_
              refine gs (pc' := 94) (fun _ _ _ _ _ hl => lv_iload_n hx hb d_Mo_scale_93 rfl (lv_at hl 2 rfl)) ?_
              refine g_iald hx hb hK 0 m3 rfl (show vp_in (nI r) 9 from vp_in_nI (by omega) (by omega)) d_Mo_scale_94 ?_
              refine g_eqi (show g2 (nI r).toNatClampNeg = g2 r from by rw [nI_clamp (by omega)]) ?_
              refine g_eqi (show g2 r = nI y from hg2r) ?_
              refine gs (pc' := 96) (fun _ _ _ _ _ hl => lv_iadd hx hb d_Mo_scale_95) ?_
              refine g_eqi (show (nI (4300 * r)) + (nI y) = nI ((4300 * r) + y) from nI_add _ _) ?_
              refine gs (pc' := 98) (fun _ _ _ _ _ hl => lv_lload hx hb d_Mo_scale_96 (lv_at hl 0 rfl)) ?_
              refine gs (pc' := 101) (fun _ _ _ _ _ hl => lv_ldc2 (v := 1000000000) hx hb hown (hts _ wm842) d_Mo_scale_98) ?_
              refine g_eql (show 1000000000 = lN 1000000000 from rfl) ?_
              refine gs (pc' := 102) (fun _ _ _ _ _ hl => lv_lrem hx hb d_Mo_scale_101 (by decide)) ?_
              refine g_eql (show (lN lf) - (lN lf) / (lN 1000000000) * (lN 1000000000) = lN (lf % 1000000000) from pk_lRem (by omega) (by omega) (by omega)) ?_
              refine gs (pc' := 103) (fun _ _ _ _ _ hl => lv_l2i (v := nI (lf % 1000000000)) hx hb d_Mo_scale_102 (lN_i _)) ?_
              refine g_iast hx hb hK 0 m2 rfl (show vp_in (nI ((4300 * r) + y)) 38700 from vp_in_nI (by omega) (by omega)) d_Mo_scale_103 (fun G_34 f_35 o_36 => ?_)
              rw [nI_clamp (by omega)] at f_35
              have f_37 : G_34 hm = some (70, .inr (9, [.int (I 0), .int (I 1), .ref (A 2), .ref (A 3), .ref (A 4), .ref (A 5), .int (I 6), .int (I 7), .ref (A 8), .ref (A 9), .int (I 10), .ref (A 11), .ref (A 12), .ref (A 13), .int (I 14), .ref (A 15), .ref (A 16), .ref (A 17), .ref (A 18), .int (I 19), .int (I 20), .int (I 21)])) := (o_36 _ (gne m1 m2 (fun e => by cases e))).trans m1
              have f_38 : G_34 (A 9) = some (76, .inl (cA 0, 9, .inl g2)) := (o_36 _ (gne m3 m2 (by simp))).trans m3
              have gf_39 : gfr (fun x => x = 75 ∨ x = 76) G G_34 := gfr_put hfr2 m2 (show (75 : Nat) = 75 ∨ (75 : Nat) = 76 by simp) o_36
              refine gs (pc' := 105) (fun _ _ _ _ _ hl => lv_aload_n hx hb d_Mo_scale_104 rfl (lv_at hl 1 rfl)) ?_
              refine g_get hx hb hts hin_Mo hown hK f_37 rfl 9 (by decide) (hts _ wm763) (fun _ h9 => h9) rfl d_Mo_scale_105 ?_
              refine gs (pc' := 109) (fun _ _ _ _ _ hl => lv_iload_n hx hb d_Mo_scale_108 rfl (lv_at hl 2 rfl)) ?_
              refine gs (pc' := 110) (fun _ _ _ _ _ hl => lv_dup2_11 hx hb d_Mo_scale_109 rfl rfl) ?_
              refine g_iald hx hb hK 0 f_38 rfl (show vp_in (nI r) 9 from vp_in_nI (by omega) (by omega)) d_Mo_scale_110 ?_
              refine g_eqi (show g2 (nI r).toNatClampNeg = g2 r from by rw [nI_clamp (by omega)]) ?_
              refine g_eqi (show g2 r = nI y from hg2r) ?_
              refine gs (pc' := 112) (fun _ _ _ _ _ hl => lv_iconst (v := nI 1) hx hb d_Mo_scale_111 (by decide)) ?_
              refine gs (pc' := 113) (fun _ _ _ _ _ hl => lv_iadd hx hb d_Mo_scale_112) ?_
              refine g_eqi (show (nI y) + (nI 1) = nI (y + 1) from nI_add _ _) ?_
              refine g_iast hx hb hK 0 f_38 rfl (show vp_in (nI r) 9 from vp_in_nI (by omega) (by omega)) d_Mo_scale_113 (fun G_40 f_41 o_42 => ?_)
              rw [nI_clamp (by omega)] at f_41
              have f_43 : G_40 hm = some (70, .inr (9, [.int (I 0), .int (I 1), .ref (A 2), .ref (A 3), .ref (A 4), .ref (A 5), .int (I 6), .int (I 7), .ref (A 8), .ref (A 9), .int (I 10), .ref (A 11), .ref (A 12), .ref (A 13), .int (I 14), .ref (A 15), .ref (A 16), .ref (A 17), .ref (A 18), .int (I 19), .int (I 20), .int (I 21)])) := (o_42 _ (gne f_37 f_38 (fun e => by cases e))).trans f_37
              have f_44 : G_40 (A 8) = some (75, .inl (cA 0, 38700, .inl (upd f2 ((4300 * r) + y) (nI (lf % 1000000000))))) := (o_42 _ (gne f_35 f_38 (by simp))).trans f_35
              have gf_45 : gfr (fun x => x = 75 ∨ x = 76) G G_40 := gfr_put gf_39 f_38 (show (76 : Nat) = 75 ∨ (76 : Nat) = 76 by simp) o_42
              refine gs (pc' := 116) (fun _ _ _ _ _ hl => lv_lload hx hb d_Mo_scale_114 (lv_at hl 0 rfl)) ?_
              refine gs (pc' := 119) (fun _ _ _ _ _ hl => lv_ldc2 (v := 1000000000) hx hb hown (hts _ wm842) d_Mo_scale_116) ?_
              refine g_eql (show 1000000000 = lN 1000000000 from rfl) ?_
              refine gs (pc' := 120) (fun _ _ _ _ _ hl => lv_ldiv hx hb d_Mo_scale_119 (by decide)) ?_
              refine g_eql (show (lN lf) / (lN 1000000000) = lN (lf / 1000000000) from pk_lDiv (by omega) (by omega) (by omega)) ?_
              refine gst (pc' := 122) (L' := [(4, .long (lN (lf / 1000000000))), (0, .ref hm), (1, .int (nI r)), (2, .long (lN by9))]) (fun _ _ _ _ _ hl => lv_lstore hx hb d_Mo_scale_120 hl (by decide) rfl) ?_
              refine gs (pc' := 73) (fun _ _ _ _ _ hl => lv_goto (tgt := 73) hx hb d_Mo_scale_122 (by decide)) ?_
              refine gsub [0, 1, 2, 3] rfl ?_
              exact ih2 (lf / 1000000000) (y + 1) (upd f2 ((4300 * r) + y) (nI (lf % 1000000000))) (upd g2 r (nI (y + 1))) G_40 (by rw [pB_s] at hlq; omega) (Nat.le_trans (Nat.div_le_self _ _) hlb) (by omega) pk_us (fun o9 h9 => (pk_un h9).trans (hg2o o9 h9)) (by rw [sh_us]; exact lim_upd_s hl2 (by omega)) (by rw [sh_us, dv_upd_s (by omega), ← hdv, pB_s]; exact set_st hdm) (oth_up hot2 (by omega)) gf_45 f_43 f_44 f_41
        exact tail 2 c0 zr f1 g Gk (lt_pow2 hc0) hc0 (Nat.le_refl _) hgr (fun _ _ => rfl) hl1 (by rw [hjn, hmu, ← hjn, hDr.2.2]) hot hfr k1 k2 k3
      · skip
        have nc_1 : (4300 * r + j) < ((4300 * r) + zr) := (nn_ge (a := (4300 * r + j)) (b := ((4300 * r) + zr)) (by omega) (by omega)).2 c_1
        exact absurd nc_1 (by omega)
    | succ n ih =>
      intro j c0 f1 Gk hj hc0 hl1 hmu hup hot hfr k1 k2 k3
      have hbx : df (sh f1 r) j < 1000000000 := (hl1 j (by omega)).2
      have hmm : df (sh f1 r) j * by9 ≤ 999999999 * 1000000000 := Nat.mul_le_mul (by omega) (by omega)
      have hsm : df (sh f1 r) j = df (sh f r) j := by unfold df; rw [hup j (Nat.le_refl _)]
      refine gs (pc' := 12) (fun _ _ _ _ _ hl => lv_iload hx hb d_Mo_scale_10 (lv_at hl 0 rfl)) ?_
      refine gs (pc' := 15) (fun _ _ _ _ _ hl => lv_sipush (v := nI 4300) hx hb d_Mo_scale_12 (by decide)) ?_
      refine gs (pc' := 16) (fun _ _ _ _ _ hl => lv_iload_n hx hb d_Mo_scale_15 rfl (lv_at hl 3 rfl)) ?_
      refine gs (pc' := 17) (fun _ _ _ _ _ hl => lv_imul hx hb d_Mo_scale_16) ?_
      refine g_eqi (show (nI 4300) * (nI r) = nI (4300 * r) from pk_mul _ _) ?_
      refine gs (pc' := 18) (fun _ _ _ _ _ hl => lv_aload_n hx hb d_Mo_scale_17 rfl (lv_at hl 2 rfl)) ?_
      refine g_get hx hb hts hin_Mo hown hK k1 rfl 9 (by decide) (hts _ wm763) (fun _ h9 => h9) rfl d_Mo_scale_18 ?_
      refine gs (pc' := 22) (fun _ _ _ _ _ hl => lv_iload_n hx hb d_Mo_scale_21 rfl (lv_at hl 3 rfl)) ?_
      refine g_iald hx hb hK 0 k3 rfl (show vp_in (nI r) 9 from vp_in_nI (by omega) (by omega)) d_Mo_scale_22 ?_
      refine g_eqi (show g (nI r).toNatClampNeg = g r from by rw [nI_clamp (by omega)]) ?_
      refine g_eqi (show g r = nI zr from hgr) ?_
      refine gs (pc' := 24) (fun _ _ _ _ _ hl => lv_iadd hx hb d_Mo_scale_23) ?_
      refine g_eqi (show (nI (4300 * r)) + (nI zr) = nI ((4300 * r) + zr) from nI_add _ _) ?_
      refine gsb (pc1 := 73) (pc2 := 27) (fun _ _ _ _ _ => lv_icmp_ge (tgt := 73) hx hb d_Mo_scale_24 (by decide)) (fun c_46 => ?_) (fun c_46 => ?_)
      · skip
        have nc_46 : (4300 * r + j) ≥ ((4300 * r) + zr) := (nn_ge (a := (4300 * r + j)) (b := ((4300 * r) + zr)) (by omega) (by omega)).1 c_46
        exact absurd nc_46 (by omega)
      · skip
        have nc_46 : (4300 * r + j) < ((4300 * r) + zr) := (nn_ge (a := (4300 * r + j)) (b := ((4300 * r) + zr)) (by omega) (by omega)).2 c_46
        refine gs (pc' := 28) (fun _ _ _ _ _ hl => lv_aload_n hx hb d_Mo_scale_27 rfl (lv_at hl 2 rfl)) ?_
        refine g_get hx hb hts hin_Mo hown hK k1 rfl 8 (by decide) (hts _ wm762) (fun _ h9 => h9) rfl d_Mo_scale_28 ?_
        refine gs (pc' := 33) (fun _ _ _ _ _ hl => lv_iload hx hb d_Mo_scale_31 (lv_at hl 0 rfl)) ?_
        refine g_iald hx hb hK 0 k2 rfl (show vp_in (nI (4300 * r + j)) 38700 from vp_in_nI (by omega) (by omega)) d_Mo_scale_33 ?_
        refine g_eqi (show f1 (nI (4300 * r + j)).toNatClampNeg = f1 (4300 * r + j) from by rw [nI_clamp (by omega)]) ?_
        refine g_eqi (show f1 (4300 * r + j) = nI (df (sh f1 r) j) from (hl1 j (by omega)).1) ?_
        refine gs (pc' := 35) (fun _ _ _ _ _ hl => lv_i2l (v := lN (df (sh f1 r) j)) hx hb d_Mo_scale_34 (nI_l (by omega))) ?_
        refine gs (pc' := 36) (fun _ _ _ _ _ hl => lv_lload_n hx hb d_Mo_scale_35 rfl (lv_at hl 4 rfl)) ?_
        refine gs (pc' := 37) (fun _ _ _ _ _ hl => lv_lmul hx hb d_Mo_scale_36) ?_
        refine g_eql (show (lN (df (sh f1 r) j)) * (lN by9) = lN ((df (sh f1 r) j) * by9) from lN_mul _ _) ?_
        refine gs (pc' := 39) (fun _ _ _ _ _ hl => lv_lload hx hb d_Mo_scale_37 (lv_at hl 1 rfl)) ?_
        refine gs (pc' := 40) (fun _ _ _ _ _ hl => lv_ladd hx hb d_Mo_scale_39) ?_
        refine g_eql (show (lN ((df (sh f1 r) j) * by9)) + (lN c0) = lN (((df (sh f1 r) j) * by9) + c0) from lN_add _ _) ?_
        refine gst (pc' := 42) (L' := [(7, .long (lN (((df (sh f1 r) j) * by9) + c0))), (6, .int (nI (4300 * r + j))), (4, .long (lN c0)), (0, .ref hm), (1, .int (nI r)), (2, .long (lN by9))]) (fun _ _ _ _ _ hl => lv_lstore hx hb d_Mo_scale_40 hl (by decide) rfl) ?_
        refine gs (pc' := 44) (fun _ _ _ _ _ hl => lv_lload hx hb d_Mo_scale_42 (lv_at hl 0 rfl)) ?_
        refine gs (pc' := 47) (fun _ _ _ _ _ hl => lv_ldc2 (v := 1000000000) hx hb hown (hts _ wm842) d_Mo_scale_44) ?_
        refine g_eql (show 1000000000 = lN 1000000000 from rfl) ?_
        refine gs (pc' := 48) (fun _ _ _ _ _ hl => lv_ldiv hx hb d_Mo_scale_47 (by decide)) ?_
        refine g_eql (show (lN (((df (sh f1 r) j) * by9) + c0)) / (lN 1000000000) = lN ((((df (sh f1 r) j) * by9) + c0) / 1000000000) from pk_lDiv (by omega) (by omega) (by omega)) ?_
        refine gst (pc' := 50) (L' := [(4, .long (lN ((((df (sh f1 r) j) * by9) + c0) / 1000000000))), (7, .long (lN (((df (sh f1 r) j) * by9) + c0))), (6, .int (nI (4300 * r + j))), (0, .ref hm), (1, .int (nI r)), (2, .long (lN by9))]) (fun _ _ _ _ _ hl => lv_lstore hx hb d_Mo_scale_48 hl (by decide) rfl) ?_
        refine gs (pc' := 51) (fun _ _ _ _ _ hl => lv_aload_n hx hb d_Mo_scale_50 rfl (lv_at hl 3 rfl)) ?_
        refine g_get hx hb hts hin_Mo hown hK k1 rfl 8 (by decide) (hts _ wm762) (fun _ h9 => h9) rfl d_Mo_scale_51 ?_
        refine gs (pc' := 56) (fun _ _ _ _ _ hl => lv_iload hx hb d_Mo_scale_54 (lv_at hl 2 rfl)) ?_
        refine gs (pc' := 58) (fun _ _ _ _ _ hl => lv_lload hx hb d_Mo_scale_56 (lv_at hl 1 rfl)) ?_
        refine gs (pc' := 60) (fun _ _ _ _ _ hl => lv_lload hx hb d_Mo_scale_58 (lv_at hl 0 rfl)) ?_
        refine gs (pc' := 63) (fun _ _ _ _ _ hl => lv_ldc2 (v := 1000000000) hx hb hown (hts _ wm842) d_Mo_scale_60) ?_
        refine g_eql (show 1000000000 = lN 1000000000 from rfl) ?_
        refine gs (pc' := 64) (fun _ _ _ _ _ hl => lv_lmul hx hb d_Mo_scale_63) ?_
        refine g_eql (show (lN ((((df (sh f1 r) j) * by9) + c0) / 1000000000)) * (lN 1000000000) = lN (((((df (sh f1 r) j) * by9) + c0) / 1000000000) * 1000000000) from lN_mul _ _) ?_
        refine gs (pc' := 65) (fun _ _ _ _ _ hl => lv_lsub hx hb d_Mo_scale_64) ?_
        refine g_eql (show (lN (((df (sh f1 r) j) * by9) + c0)) - (lN (((((df (sh f1 r) j) * by9) + c0) / 1000000000) * 1000000000)) = lN ((df (sh f1 r) j * by9 + c0) % 1000000000) from (lN_sub (by omega)).trans (congrArg lN (show (((df (sh f1 r) j) * by9) + c0) - (((((df (sh f1 r) j) * by9) + c0) / 1000000000) * 1000000000) = (df (sh f1 r) j * by9 + c0) % 1000000000 by omega))) ?_
        refine gs (pc' := 66) (fun _ _ _ _ _ hl => lv_l2i (v := nI ((df (sh f1 r) j * by9 + c0) % 1000000000)) hx hb d_Mo_scale_65 (lN_i _)) ?_
        refine g_iast hx hb hK 0 k2 rfl (show vp_in (nI (4300 * r + j)) 38700 from vp_in_nI (by omega) (by omega)) d_Mo_scale_66 (fun G_47 f_48 o_49 => ?_)
        rw [nI_clamp (by omega)] at f_48
        have f_50 : G_47 hm = some (70, .inr (9, [.int (I 0), .int (I 1), .ref (A 2), .ref (A 3), .ref (A 4), .ref (A 5), .int (I 6), .int (I 7), .ref (A 8), .ref (A 9), .int (I 10), .ref (A 11), .ref (A 12), .ref (A 13), .int (I 14), .ref (A 15), .ref (A 16), .ref (A 17), .ref (A 18), .int (I 19), .int (I 20), .int (I 21)])) := (o_49 _ (gne k1 k2 (fun e => by cases e))).trans k1
        have f_51 : G_47 (A 9) = some (76, .inl (cA 0, 9, .inl g)) := (o_49 _ (gne k3 k2 (by simp))).trans k3
        refine gst (pc' := 70) (L' := [(6, .int (nI (4300 * r + (j + 1)))), (4, .long (lN ((((df (sh f1 r) j) * by9) + c0) / 1000000000))), (7, .long (lN (((df (sh f1 r) j) * by9) + c0))), (0, .ref hm), (1, .int (nI r)), (2, .long (lN by9))]) (fun _ _ _ _ _ hl => lv_iinc (v := nI (4300 * r + (j + 1))) hx hb d_Mo_scale_67 hl (k := 2) rfl (nI_add (4300 * r + j) 1) (by decide) rfl) ?_
        refine gs (pc' := 10) (fun _ _ _ _ _ hl => lv_goto (tgt := 10) hx hb d_Mo_scale_70 (by decide)) ?_
        refine gsub [0, 1, 3, 4, 5] rfl ?_
        exact ih (j + 1) ((((df (sh f1 r) j) * by9) + c0) / 1000000000) (upd f1 (4300 * r + j) (nI ((df (sh f1 r) j * by9 + c0) % 1000000000))) G_47 (by omega) (by omega) (by rw [sh_us]; exact lim_upd hl1 (by omega)) (by rw [sh_us, dv_upd_s (by omega), dv_s]; exact st_mul hmu (by rw [← hsm]; omega)) (fun x9 h9 => by rw [sh_us, pk_un (by omega)]; exact hup x9 (by omega)) (oth_up hot (by omega)) (gfr_put hfr k2 (Or.inl rfl) o_49) f_50 f_48 f_51
  exact loop zr 0 0 f G (by omega) (by omega) hlr (by simp [dv_0]) (fun _ _ => rfl) oth_rf gfr_rf hob hlm hsz
set_option maxHeartbeats 4000000 in
set_option maxRecDepth 100000 in
theorem c_Mo_small (l : Launch) (D : va_G) (cA : Nat → ClassId) (lo MC MS : Nat) (G : gT) (B : Nat × Nat) (hm : Nat) (A : Nat → Nat) (I : Nat → Int32) (hob : G hm = some (70, .inr (9, mfs A I))) (Rg : Nat → Nat) (hR : MR cA A Rg G) (r : Nat) (hb_r : r < 9) (by9 : Nat) (hby0 : 0 < by9) (hby : by9 ≤ 1000000000) (hB1 : B.1 ≤ MC) (hB2 : B.2 ≤ MS) : gMet l y_Mo_small w_Mo_small 1 21 D clS (gtys cA) lo MC MS [.ref hm, .int (nI r), .long (lN by9)] G B (gQl D clS lo (fun r9 u => u.2 = B ∧ r9 = lN (Rg r % by9) ∧ MR cA A (fup Rg r (Rg r / by9)) u.1 ∧ u.1 hm = some (70, .inr (9, mfs A I)) ∧ gfr (fun x => x = 75 ∨ x = 76) G u.1)) := by
  refine g_metl (cc := prog_11_method_12_code) (nL := 9) (L := [(0, .ref hm), (1, .int (nI r)), (2, .long (lN by9))]) (by decide +kernel) rfl (Nat.le_of_ble_eq_true rfl) rfl ?_
  intro p e R s m args below meth c Q hF hRc hRs hRf hRl hret
  obtain ⟨hx, hb, hr, hml, hts0, hown, hlocks, hin, hK, hlo, hZ⟩ := hF
  have hts : ∀ w ∈ tbg, w.before args s = true := fun w h => hts0 w (List.mem_cons_of_mem _ h)
  obtain ⟨f, g, hlm, hsz, hRG⟩ := hR
  obtain ⟨zr, hgr, hzr, hDr⟩ := hRG r hb_r
  have hlr := hDr.1
  refine gs (pc' := 1) (fun _ _ _ _ _ hl => lv_lconst (v := lN 0) hx hb d_Mo_small_0 (by decide)) ?_
  refine gst (pc' := 3) (L' := [(4, .long (lN 0)), (0, .ref hm), (1, .int (nI r)), (2, .long (lN by9))]) (fun _ _ _ _ _ hl => lv_lstore hx hb d_Mo_small_1 hl (by decide) rfl) ?_
  refine gs (pc' := 6) (fun _ _ _ _ _ hl => lv_sipush (v := nI 4300) hx hb d_Mo_small_3 (by decide)) ?_
  refine gs (pc' := 7) (fun _ _ _ _ _ hl => lv_iload_n hx hb d_Mo_small_6 rfl (lv_at hl 2 rfl)) ?_
  refine gs (pc' := 8) (fun _ _ _ _ _ hl => lv_imul hx hb d_Mo_small_7) ?_
  refine g_eqi (show (nI 4300) * (nI r) = nI (4300 * r) from pk_mul _ _) ?_
  refine gs (pc' := 9) (fun _ _ _ _ _ hl => lv_aload_n hx hb d_Mo_small_8 rfl (lv_at hl 1 rfl)) ?_
  refine g_get hx hb hts hin_Mo hown hK hob rfl 9 (by decide) (hts _ wm763) (fun _ h9 => h9) rfl d_Mo_small_9 ?_
  refine gs (pc' := 13) (fun _ _ _ _ _ hl => lv_iload_n hx hb d_Mo_small_12 rfl (lv_at hl 2 rfl)) ?_
  refine g_iald hx hb hK 0 hsz rfl (show vp_in (nI r) 9 from vp_in_nI (by omega) (by omega)) d_Mo_small_13 ?_
  refine g_eqi (show g (nI r).toNatClampNeg = g r from by rw [nI_clamp (by omega)]) ?_
  refine g_eqi (show g r = nI zr from hgr) ?_
  refine gs (pc' := 15) (fun _ _ _ _ _ hl => lv_iadd hx hb d_Mo_small_14) ?_
  refine g_eqi (show (nI (4300 * r)) + (nI zr) = nI ((4300 * r) + zr) from nI_add _ _) ?_
  refine gs (pc' := 16) (fun _ _ _ _ _ hl => lv_iconst (v := nI 1) hx hb d_Mo_small_15 (by decide)) ?_
  refine gs (pc' := 17) (fun _ _ _ _ _ hl => lv_isub hx hb d_Mo_small_16) ?_
  refine g_eqi (show (nI ((4300 * r) + zr)) - (nI 1) = iI (((4300 * r + zr : Nat) : Int) - 1) from by rw [nI_iI, nI_iI]; exact iI_sub _ _) ?_
  refine gst (pc' := 19) (L' := [(6, .int (iI (((4300 * r + zr : Nat) : Int) - 1))), (4, .long (lN 0)), (0, .ref hm), (1, .int (nI r)), (2, .long (lN by9))]) (fun _ _ _ _ _ hl => lv_istore hx hb d_Mo_small_17 hl (by decide) rfl) ?_
  refine gsub [0, 1, 2, 3, 4] rfl ?_
  have loop : ∀ (j rs : Nat) (f1 : Nat → Int32) (Gk : gT), j ≤ zr → rs < by9 → lim (sh f1 r) zr → Rg r = dv (df (sh f r)) j + 1000000000 ^ j * (dv (dsh (df (sh f1 r)) j) (zr - j) * by9 + rs) → (∀ x, x < j → sh f1 r x = sh f r x) → oth r f f1 → gfr (fun x => x = 75 ∨ x = 76) G Gk → Gk hm = some (70, .inr (9, [.int (I 0), .int (I 1), .ref (A 2), .ref (A 3), .ref (A 4), .ref (A 5), .int (I 6), .int (I 7), .ref (A 8), .ref (A 9), .int (I 10), .ref (A 11), .ref (A 12), .ref (A 13), .int (I 14), .ref (A 15), .ref (A 16), .ref (A 17), .ref (A 18), .int (I 19), .int (I 20), .int (I 21)])) → Gk (A 8) = some (75, .inl (cA 0, 38700, .inl f1)) → Gk (A 9) = some (76, .inl (cA 0, 9, .inl g)) → gV p l e R s m args below meth c D clS lo 9 Q 19 [(6, .int (iI (((4300 * r + j : Nat) : Int) - 1))), (4, .long (lN rs)), (0, .ref hm), (1, .int (nI r)), (2, .long (lN by9))] [] Gk B := by
    intro j
    induction j with
    | zero =>
      intro rs f1 Gk hj hrs hl1 hq hdn hot hfr k1 k2 k3
      rw [dv_0, Nat.zero_add, Nat.sub_zero, dsh_0, Nat.pow_zero, Nat.one_mul] at hq
      obtain ⟨hQq, hRsm⟩ := qr_of hq hrs
      refine gs (pc' := 21) (fun _ _ _ _ _ hl => lv_iload hx hb d_Mo_small_19 (lv_at hl 0 rfl)) ?_
      refine gs (pc' := 24) (fun _ _ _ _ _ hl => lv_sipush (v := nI 4300) hx hb d_Mo_small_21 (by decide)) ?_
      refine gs (pc' := 25) (fun _ _ _ _ _ hl => lv_iload_n hx hb d_Mo_small_24 rfl (lv_at hl 3 rfl)) ?_
      refine gs (pc' := 26) (fun _ _ _ _ _ hl => lv_imul hx hb d_Mo_small_25) ?_
      refine g_eqi (show (nI 4300) * (nI r) = nI (4300 * r) from pk_mul _ _) ?_
      refine gsb (pc1 := 70) (pc2 := 29) (fun _ _ _ _ _ => lv_icmp_lt (tgt := 70) hx hb d_Mo_small_26 (by decide)) (fun c_1 => ?_) (fun c_1 => ?_)
      · skip
        have nc_1 : (((4300 * r + 0 : Nat) : Int) - 1) < ((4300 * r : Nat) : Int) := (ii_lt (a := (((4300 * r + 0 : Nat) : Int) - 1)) (b := ((4300 * r : Nat) : Int)) (by omega) (by omega) (by omega) (by omega)).1 (by first | exact c_1 | (have z9 := c_1; simp only [nI_iI] at z9; exact z9))
        refine gs (pc' := 71) (fun _ _ _ _ _ hl => lv_aload_n hx hb d_Mo_small_70 rfl (lv_at hl 2 rfl)) ?_
        refine gs (pc' := 72) (fun _ _ _ _ _ hl => lv_iload_n hx hb d_Mo_small_71 rfl (lv_at hl 3 rfl)) ?_
        refine g_outv hlo (g_runV (As := [.int (nI r)]) (rest := []) ⟨hx, hb, hml, hown, hts⟩ hK hZ hRc hRs (c_Mo_trim l D cA lo MC MS Gk B hm A I k1 f1 g k2 k3 r hb_r zr hgr hzr hl1 (Rg r / by9) hQq hB1 hB2) (fun _ _ => cwV 1 hts (tb_good (tb_cons wm863 (tb_cons wm865 (tb_cons ws27 (tb_cons wm12 k_Mo_trim))))) rfl rfl rfl (by decide +kernel) ⟨by rw [hRf]; exact Nat.le_of_ble_eq_true rfl, by rw [hRl]; exact Nat.le_of_ble_eq_true rfl⟩) k1 rfl hB1 hB2 rfl (Nat.le_of_ble_eq_true rfl) d_Mo_small_72) (fun G_2 B_3 p_4 => ?_)
        obtain ⟨e_5, g_6, y_7, f_8, f_9, f_10, tg_11, to_12, ty_13, tD_14, tf_15⟩ := p_4
        have e_5b : B_3 = B := e_5
        subst e_5b
        have gf_16 : gfr (fun x => x = 75 ∨ x = 76) G G_2 := gfr_mono (gfr_tr hfr tf_15) (fun x h9 => by rcases h9 with h9 | h9; exact h9; exact Or.inr h9)
        refine gs (pc' := 77) (fun _ _ _ _ _ hl => lv_lload hx hb d_Mo_small_75 (lv_at hl 1 rfl)) ?_
        exact hret 77 _ _ _ _ d_Mo_small_77 hB1 hB2 ⟨rfl, by rw [hRsm], ⟨_, _, f_9, f_10, RG_set' hRG hot tg_11 to_12 (by have := ty_13; omega) tD_14⟩, f_8, gfr_mono gf_16 (fun x h9 => by omega)⟩
      · skip
        have nc_1 : (((4300 * r + 0 : Nat) : Int) - 1) ≥ ((4300 * r : Nat) : Int) := (ii_lt (a := (((4300 * r + 0 : Nat) : Int) - 1)) (b := ((4300 * r : Nat) : Int)) (by omega) (by omega) (by omega) (by omega)).2 (by first | exact c_1 | (have z9 := c_1; simp only [nI_iI] at z9; exact z9))
        exact absurd nc_1 (by omega)
    | succ j ih =>
      intro rs f1 Gk hj hrs hl1 hq hdn hot hfr k1 k2 k3
      rw [show iI (((4300 * r + (j + 1) : Nat) : Int) - 1) = nI (4300 * r + j) from by rw [nI_iI]; congr 1; omega]
      have hbx : df (sh f1 r) j < 1000000000 := (hl1 j (by omega)).2
      have hsm : df (sh f1 r) j = df (sh f r) j := by unfold df; rw [hdn j (Nat.lt_succ_self _)]
      have hvq : (rs * 1000000000 + df (sh f1 r) j) / by9 < 1000000000 := rd_q hrs hbx
      have hvr : (rs * 1000000000 + df (sh f1 r) j) % by9 < by9 := Nat.mod_lt _ (by omega)
      have hve := Nat.div_add_mod (rs * 1000000000 + df (sh f1 r) j) by9
      refine gs (pc' := 21) (fun _ _ _ _ _ hl => lv_iload hx hb d_Mo_small_19 (lv_at hl 0 rfl)) ?_
      refine gs (pc' := 24) (fun _ _ _ _ _ hl => lv_sipush (v := nI 4300) hx hb d_Mo_small_21 (by decide)) ?_
      refine gs (pc' := 25) (fun _ _ _ _ _ hl => lv_iload_n hx hb d_Mo_small_24 rfl (lv_at hl 3 rfl)) ?_
      refine gs (pc' := 26) (fun _ _ _ _ _ hl => lv_imul hx hb d_Mo_small_25) ?_
      refine g_eqi (show (nI 4300) * (nI r) = nI (4300 * r) from pk_mul _ _) ?_
      refine gsb (pc1 := 70) (pc2 := 29) (fun _ _ _ _ _ => lv_icmp_lt (tgt := 70) hx hb d_Mo_small_26 (by decide)) (fun c_17 => ?_) (fun c_17 => ?_)
      · skip
        have nc_17 : (4300 * r + j) < (4300 * r) := (nn_lt (a := (4300 * r + j)) (b := (4300 * r)) (by omega) (by omega)).1 c_17
        exact absurd nc_17 (by omega)
      · skip
        have nc_17 : (4300 * r + j) ≥ (4300 * r) := (nn_lt (a := (4300 * r + j)) (b := (4300 * r)) (by omega) (by omega)).2 c_17
        refine gs (pc' := 31) (fun _ _ _ _ _ hl => lv_lload hx hb d_Mo_small_29 (lv_at hl 1 rfl)) ?_
        refine gs (pc' := 34) (fun _ _ _ _ _ hl => lv_ldc2 (v := 1000000000) hx hb hown (hts _ wm842) d_Mo_small_31) ?_
        refine g_eql (show 1000000000 = lN 1000000000 from rfl) ?_
        refine gs (pc' := 35) (fun _ _ _ _ _ hl => lv_lmul hx hb d_Mo_small_34) ?_
        refine g_eql (show (lN rs) * (lN 1000000000) = lN (rs * 1000000000) from lN_mul _ _) ?_
        refine gs (pc' := 36) (fun _ _ _ _ _ hl => lv_aload_n hx hb d_Mo_small_35 rfl (lv_at hl 2 rfl)) ?_
        refine g_get hx hb hts hin_Mo hown hK k1 rfl 8 (by decide) (hts _ wm762) (fun _ h9 => h9) rfl d_Mo_small_36 ?_
        refine gs (pc' := 41) (fun _ _ _ _ _ hl => lv_iload hx hb d_Mo_small_39 (lv_at hl 0 rfl)) ?_
        refine g_iald hx hb hK 0 k2 rfl (show vp_in (nI (4300 * r + j)) 38700 from vp_in_nI (by omega) (by omega)) d_Mo_small_41 ?_
        refine g_eqi (show f1 (nI (4300 * r + j)).toNatClampNeg = f1 (4300 * r + j) from by rw [nI_clamp (by omega)]) ?_
        refine g_eqi (show f1 (4300 * r + j) = nI (df (sh f1 r) j) from (hl1 j (by omega)).1) ?_
        refine gs (pc' := 43) (fun _ _ _ _ _ hl => lv_i2l (v := lN (df (sh f1 r) j)) hx hb d_Mo_small_42 (nI_l (by omega))) ?_
        refine gs (pc' := 44) (fun _ _ _ _ _ hl => lv_ladd hx hb d_Mo_small_43) ?_
        refine g_eql (show (lN (rs * 1000000000)) + (lN (df (sh f1 r) j)) = lN ((rs * 1000000000) + (df (sh f1 r) j)) from lN_add _ _) ?_
        refine gst (pc' := 46) (L' := [(7, .long (lN ((rs * 1000000000) + (df (sh f1 r) j)))), (6, .int (nI (4300 * r + j))), (4, .long (lN rs)), (0, .ref hm), (1, .int (nI r)), (2, .long (lN by9))]) (fun _ _ _ _ _ hl => lv_lstore hx hb d_Mo_small_44 hl (by decide) rfl) ?_
        refine gs (pc' := 47) (fun _ _ _ _ _ hl => lv_aload_n hx hb d_Mo_small_46 rfl (lv_at hl 3 rfl)) ?_
        refine g_get hx hb hts hin_Mo hown hK k1 rfl 8 (by decide) (hts _ wm762) (fun _ h9 => h9) rfl d_Mo_small_47 ?_
        refine gs (pc' := 52) (fun _ _ _ _ _ hl => lv_iload hx hb d_Mo_small_50 (lv_at hl 1 rfl)) ?_
        refine gs (pc' := 54) (fun _ _ _ _ _ hl => lv_lload hx hb d_Mo_small_52 (lv_at hl 0 rfl)) ?_
        refine gs (pc' := 55) (fun _ _ _ _ _ hl => lv_lload_n hx hb d_Mo_small_54 rfl (lv_at hl 5 rfl)) ?_
        refine gs (pc' := 56) (fun _ _ _ _ _ hl => lv_ldiv hx hb d_Mo_small_55 (fun e => absurd ((pk_lEQ (by omega) (by omega)).mp (e.trans (show _ = lN 0 from rfl))) (by omega))) ?_
        refine g_eql (show (lN ((rs * 1000000000) + (df (sh f1 r) j))) / (lN by9) = lN (((rs * 1000000000) + (df (sh f1 r) j)) / by9) from pk_lDiv (by omega) (by omega) (by omega)) ?_
        refine gs (pc' := 57) (fun _ _ _ _ _ hl => lv_l2i (v := nI (((rs * 1000000000) + (df (sh f1 r) j)) / by9)) hx hb d_Mo_small_56 (lN_i _)) ?_
        refine g_iast hx hb hK 0 k2 rfl (show vp_in (nI (4300 * r + j)) 38700 from vp_in_nI (by omega) (by omega)) d_Mo_small_57 (fun G_18 f_19 o_20 => ?_)
        rw [nI_clamp (by omega)] at f_19
        have f_21 : G_18 hm = some (70, .inr (9, [.int (I 0), .int (I 1), .ref (A 2), .ref (A 3), .ref (A 4), .ref (A 5), .int (I 6), .int (I 7), .ref (A 8), .ref (A 9), .int (I 10), .ref (A 11), .ref (A 12), .ref (A 13), .int (I 14), .ref (A 15), .ref (A 16), .ref (A 17), .ref (A 18), .int (I 19), .int (I 20), .int (I 21)])) := (o_20 _ (gne k1 k2 (fun e => by cases e))).trans k1
        have f_22 : G_18 (A 9) = some (76, .inl (cA 0, 9, .inl g)) := (o_20 _ (gne k3 k2 (by simp))).trans k3
        refine gs (pc' := 60) (fun _ _ _ _ _ hl => lv_lload hx hb d_Mo_small_58 (lv_at hl 0 rfl)) ?_
        refine gs (pc' := 61) (fun _ _ _ _ _ hl => lv_lload_n hx hb d_Mo_small_60 rfl (lv_at hl 5 rfl)) ?_
        refine gs (pc' := 62) (fun _ _ _ _ _ hl => lv_lrem hx hb d_Mo_small_61 (fun e => absurd ((pk_lEQ (by omega) (by omega)).mp (e.trans (show _ = lN 0 from rfl))) (by omega))) ?_
        refine g_eql (show (lN ((rs * 1000000000) + (df (sh f1 r) j))) - (lN ((rs * 1000000000) + (df (sh f1 r) j))) / (lN by9) * (lN by9) = lN (((rs * 1000000000) + (df (sh f1 r) j)) % by9) from pk_lRem (by omega) (by omega) (by omega)) ?_
        refine gst (pc' := 64) (L' := [(4, .long (lN (((rs * 1000000000) + (df (sh f1 r) j)) % by9))), (7, .long (lN ((rs * 1000000000) + (df (sh f1 r) j)))), (6, .int (nI (4300 * r + j))), (0, .ref hm), (1, .int (nI r)), (2, .long (lN by9))]) (fun _ _ _ _ _ hl => lv_lstore hx hb d_Mo_small_62 hl (by decide) rfl) ?_
        refine gst (pc' := 67) (L' := [(6, .int (iI (((4300 * r + j : Nat) : Int) - 1))), (4, .long (lN (((rs * 1000000000) + (df (sh f1 r) j)) % by9))), (7, .long (lN ((rs * 1000000000) + (df (sh f1 r) j)))), (0, .ref hm), (1, .int (nI r)), (2, .long (lN by9))]) (fun _ _ _ _ _ hl => lv_iinc (v := iI (((4300 * r + j : Nat) : Int) - 1)) hx hb d_Mo_small_64 hl (k := 2) rfl (inc_m _) (by decide) rfl) ?_
        refine gs (pc' := 19) (fun _ _ _ _ _ hl => lv_goto (tgt := 19) hx hb d_Mo_small_67 (by decide)) ?_
        refine gsub [0, 1, 3, 4, 5] rfl ?_
        rw [pB_s, dv_s, ← hsm] at hq
        exact ih (((rs * 1000000000) + (df (sh f1 r) j)) % by9) (upd f1 (4300 * r + j) (nI (((rs * 1000000000) + (df (sh f1 r) j)) / by9))) G_18 (by omega) hvr (by rw [sh_us]; exact lim_upd hl1 hvq) (by rw [sh_us, show zr - j = (zr - (j + 1)) + 1 by omega, dsh_s, df_us (by omega), dsh_congr (d := df (upd (sh f1 r) j _)) (e := df (sh f1 r)) (fun x9 h1 h2 => df_un (by omega))]; exact sm_st hq (by rw [Nat.mul_comm] at hve; omega)) (fun x9 h9 => by rw [sh_us, pk_un (by omega)]; exact hdn x9 (by omega)) (oth_up hot (by omega)) (gfr_put hfr k2 (Or.inl rfl) o_20) f_21 f_19 f_22
  exact loop zr 0 f G (Nat.le_refl _) hby0 hlr (by rw [hDr.2.2, Nat.sub_self]; simp [dv_0]) (fun _ _ => rfl) oth_rf gfr_rf hob hlm hsz
