set_option maxHeartbeats 4000000 in
set_option maxRecDepth 100000 in
/-- setSum -/
theorem c_Na_setSum (l : Launch) (D : va_G) (cA : Nat → ClassId) (lo MC MS : Nat) (G : gT) (B : Nat × Nat) (t h a cap : Nat) (zv : Int32) (f : Nat → Int32) (hh : G h = some (t, .inr (4, [.ref a, .int zv]))) (ha : G a = some (t, .inl (cA 0, cap, .inl f))) (hc : cap ≤ 50000) (t1 h1 a1 z1 cap1 : Nat) (f1 : Nat → Int32) (hh1 : G h1 = some (t1, .inr (4, [.ref a1, .int (nI z1)]))) (ha1 : G a1 = some (t1, .inl (cA 0, cap1, .inl f1))) (hz1 : z1 ≤ cap1) (hc1 : cap1 ≤ 50000) (t2 h2 a2 z2 cap2 : Nat) (f2 : Nat → Int32) (hh2 : G h2 = some (t2, .inr (4, [.ref a2, .int (nI z2)]))) (ha2 : G a2 = some (t2, .inl (cA 0, cap2, .inl f2))) (hz2 : z2 ≤ cap2) (hc2 : cap2 ≤ 50000) (v1 v2 : Nat) (hn1 : ¬ t1 = t) (hn2 : ¬ t2 = t) (hD1 : isD f1 z1 v1) (hD2 : isD f2 z2 v2) (hC : B.1 + (gcap cap (max z1 z2 + 1) - cap) ≤ MC) (hS : B.2 + 2 * (gcap cap (max z1 z2 + 1) - cap) ≤ MS) (hK : max z1 z2 + 1 ≤ 50000) (hB1 : B.1 ≤ MC) (hB2 : B.2 ≤ MS) : gMet l y_Na_setSum w_Na_setSum 3 83 D clS (gtys cA) lo MC MS [.ref h, .ref h1, .ref h2] G B (gQv D clS lo (nres cA G B t h cap (max z1 z2 + 1) (v1 + v2))) := by
  refine g_metv (cc := prog_6_method_15_code) (nL := 8) (L := [(0, .ref h), (1, .ref h1), (2, .ref h2)]) (by decide +kernel) rfl (Nat.le_of_ble_eq_true rfl) rfl ?_
  intro p e R s m args below meth c Q hF hRc hRs hRf hRl hret
  obtain ⟨hx, hb, hr, hml, hts0, hown, hlocks, hin, hK, hlo, hZ⟩ := hF
  have hts : ∀ w ∈ tbg, w.before args s = true := fun w h => hts0 w (List.mem_cons_of_mem _ h)
  have hl1 := hD1.1
  have hl2 := hD2.1
  refine gs (pc' := 1) (fun _ _ _ _ _ hl => lv_aload_n hx hb d_Na_setSum_0 rfl (lv_at hl 1 rfl)) ?_
  refine g_get hx hb hts hin_Na hown hK hh1 rfl 1 (by decide) (hts _ wm75) (fun _ h9 => h9) rfl d_Na_setSum_1 ?_
  refine gs (pc' := 5) (fun _ _ _ _ _ hl => lv_aload_n hx hb d_Na_setSum_4 rfl (lv_at hl 2 rfl)) ?_
  refine g_get hx hb hts hin_Na hown hK hh2 rfl 1 (by decide) (hts _ wm75) (fun _ h9 => h9) rfl d_Na_setSum_5 ?_
  refine g_outi hlo (g_runS (As := [.int (nI z1), .int (nI z2)]) (rest := []) ⟨hx, hb, hml, hown, hts⟩ hK hZ hRc hRs (c_Math_max l D cA lo MC MS G B z1 z2 (by omega) (by omega) hB1 hB2) (fun _ _ => va_cwS 2 hts (tb_good (tb_cons wm69 (tb_cons wm70 (tb_cons wm6 k_Math_max)))) rfl rfl rfl (by decide +kernel) ⟨by rw [hRf]; exact Nat.le_of_ble_eq_true rfl, by rw [hRl]; exact Nat.le_of_ble_eq_true rfl⟩) hB1 hB2 rfl (Nat.le_of_ble_eq_true rfl) d_Na_setSum_8) (fun r_4 G_1 B_2 p_3 => ?_)
  obtain ⟨hu, hr1⟩ := p_3
  cases hu
  subst hr1
  refine gst (pc' := 12) (L' := [(3, .int (nI (max z1 z2))), (0, .ref h), (1, .ref h1), (2, .ref h2)]) (fun _ _ _ _ _ hl => lv_istore_n hx hb d_Na_setSum_11 rfl hl (by decide) rfl) ?_
  refine gs (pc' := 13) (fun _ _ _ _ _ hl => lv_aload_n hx hb d_Na_setSum_12 rfl (lv_at hl 1 rfl)) ?_
  refine gs (pc' := 14) (fun _ _ _ _ _ hl => lv_iload_n hx hb d_Na_setSum_13 rfl (lv_at hl 0 rfl)) ?_
  refine gs (pc' := 15) (fun _ _ _ _ _ hl => lv_iconst (v := nI 1) hx hb d_Na_setSum_14 (by decide)) ?_
  refine gs (pc' := 16) (fun _ _ _ _ _ hl => lv_iadd hx hb d_Na_setSum_15) ?_
  refine g_eqi (show (nI (max z1 z2)) + (nI 1) = nI ((max z1 z2) + 1) from nI_add _ _) ?_
  refine g_outv hlo (g_runV (As := [.int (nI ((max z1 z2) + 1))]) (rest := []) ⟨hx, hb, hml, hown, hts⟩ hK hZ hRc hRs (c_Na_grow l D cA lo MC MS G B t h a cap ((max z1 z2) + 1) zv f hh ha (by omega) (by omega) (by omega) (by omega) hB1 hB2) (fun _ _ => cwV 1 hts (tb_good (tb_cons wm188 (tb_cons wm189 (tb_cons wm190 (tb_cons wm5 k_Na_grow))))) rfl rfl rfl (by decide +kernel) ⟨by rw [hRf]; exact Nat.le_of_ble_eq_true rfl, by rw [hRl]; exact Nat.le_of_ble_eq_true rfl⟩) hh rfl hB1 hB2 rfl (Nat.le_of_ble_eq_true rfl) d_Na_setSum_16) (fun G_5 B_6 p_7 => ?_)
  obtain ⟨a_8, g_9, e_10, e_11, e_12, e_13, e_14, e_15⟩ := p_7
  have e_14 : B_6.1 + cap ≤ B.1 + gcap cap ((max z1 z2) + 1) := e_14
  have e_15 : B_6.2 + 2 * cap ≤ B.2 + 2 * gcap cap ((max z1 z2) + 1) := e_15
  have gg_16 := gcap_ge cap ((max z1 z2) + 1)
  have gg_17 : gcap cap ((max z1 z2) + 1) ≤ 2 * 50000 := gcap_le (by omega) (by omega)
  have f_18 : G_5 h1 = some (t1, .inr (4, [.ref a1, .int (nI z1)])) := e_13 _ _ hh1 hn1
  have f_19 : G_5 a1 = some (t1, .inl (cA 0, cap1, .inl f1)) := e_13 _ _ ha1 hn1
  have f_20 : G_5 h2 = some (t2, .inr (4, [.ref a2, .int (nI z2)])) := e_13 _ _ hh2 hn2
  have f_21 : G_5 a2 = some (t2, .inl (cA 0, cap2, .inl f2)) := e_13 _ _ ha2 hn2
  refine gs (pc' := 20) (fun _ _ _ _ _ hl => lv_iconst (v := nI 0) hx hb d_Na_setSum_19 (by decide)) ?_
  refine gst (pc' := 22) (L' := [(4, .int (nI 0)), (3, .int (nI (max z1 z2))), (0, .ref h), (1, .ref h1), (2, .ref h2)]) (fun _ _ _ _ _ hl => lv_istore hx hb d_Na_setSum_20 hl (by decide) rfl) ?_
  refine gs (pc' := 23) (fun _ _ _ _ _ hl => lv_iconst (v := nI 0) hx hb d_Na_setSum_22 (by decide)) ?_
  refine gst (pc' := 25) (L' := [(5, .int (nI 0)), (4, .int (nI 0)), (3, .int (nI (max z1 z2))), (0, .ref h), (1, .ref h1), (2, .ref h2)]) (fun _ _ _ _ _ hl => lv_istore hx hb d_Na_setSum_23 hl (by decide) rfl) ?_
  refine gsub [0, 1, 2, 3, 4, 5] rfl ?_
  have loop : ∀ (n i c0 : Nat) (g : Nat → Int32) (Gk : gT), i + n = max z1 z2 → c0 ≤ 1 → lim g i → dv (df g) i + c0 * 1000000000 ^ i = dv (dx f1 z1) i + dv (dx f2 z2) i → gfr (fun x => x = t) G Gk → Gk h = some (t, .inr (4, [.ref a_8, .int zv])) → Gk a_8 = some (t, .inl (cA 0, (gcap cap (max z1 z2 + 1)), .inl g)) → Gk h1 = some (t1, .inr (4, [.ref a1, .int (nI z1)])) → Gk a1 = some (t1, .inl (cA 0, cap1, .inl f1)) → Gk h2 = some (t2, .inr (4, [.ref a2, .int (nI z2)])) → Gk a2 = some (t2, .inl (cA 0, cap2, .inl f2)) → gV p l e R s m args below meth c D clS lo 8 Q 25 [(5, .int (nI i)), (4, .int (nI c0)), (3, .int (nI (max z1 z2))), (0, .ref h), (1, .ref h1), (2, .ref h2)] [] Gk B_6 := by
    intro n
    induction n with
    | zero =>
      intro i c0 g Gk hi hc0 hg hv hfr k1 k2 k3 k4 k5 k6
      have hiM : i = max z1 z2 := by omega
      subst hiM
      refine gs (pc' := 27) (fun _ _ _ _ _ hl => lv_iload hx hb d_Na_setSum_25 (lv_at hl 0 rfl)) ?_
      refine gs (pc' := 28) (fun _ _ _ _ _ hl => lv_iload_n hx hb d_Na_setSum_27 rfl (lv_at hl 2 rfl)) ?_
      refine gsb (pc1 := 92) (pc2 := 31) (fun _ _ _ _ _ => lv_icmp_ge (tgt := 92) hx hb d_Na_setSum_28 (by decide)) (fun c_22 => ?_) (fun c_22 => ?_)
      · skip
        have nc_22 : (max z1 z2) ≥ (max z1 z2) := (nn_ge (a := (max z1 z2)) (b := (max z1 z2)) (by omega) (by omega)).1 c_22
        refine gs (pc' := 93) (fun _ _ _ _ _ hl => lv_aload_n hx hb d_Na_setSum_92 rfl (lv_at hl 3 rfl)) ?_
        refine g_get hx hb hts hin_Na hown hK k1 rfl 0 (by decide) (hts _ wm72) (fun _ h9 => h9) rfl d_Na_setSum_93 ?_
        refine gs (pc' := 97) (fun _ _ _ _ _ hl => lv_iload_n hx hb d_Na_setSum_96 rfl (lv_at hl 2 rfl)) ?_
        refine gs (pc' := 99) (fun _ _ _ _ _ hl => lv_iload hx hb d_Na_setSum_97 (lv_at hl 1 rfl)) ?_
        refine g_iast hx hb hK 0 k2 rfl (show vp_in (nI (max z1 z2)) (gcap cap (max z1 z2 + 1)) from vp_in_nI (by omega) (by omega)) d_Na_setSum_99 (fun G_23 f_24 o_25 => ?_)
        rw [nI_clamp (by omega)] at f_24
        have f_26 : G_23 h = some (t, .inr (4, [.ref a_8, .int zv])) := (o_25 _ (gne k1 k2 (fun e => by cases e))).trans k1
        have f_27 : G_23 h1 = some (t1, .inr (4, [.ref a1, .int (nI z1)])) := (o_25 _ (gne k3 k2 (fun e => by cases e))).trans k3
        have f_28 : G_23 a1 = some (t1, .inl (cA 0, cap1, .inl f1)) := (o_25 _ (gne k4 k2 (fun e => hn1 (congrArg Prod.fst e)))).trans k4
        have f_29 : G_23 h2 = some (t2, .inr (4, [.ref a2, .int (nI z2)])) := (o_25 _ (gne k5 k2 (fun e => by cases e))).trans k5
        have f_30 : G_23 a2 = some (t2, .inl (cA 0, cap2, .inl f2)) := (o_25 _ (gne k6 k2 (fun e => hn2 (congrArg Prod.fst e)))).trans k6
        have w_31 : gfr (fun x => x = t) G G_23 := gfr_put hfr k2 rfl o_25
        refine gs (pc' := 101) (fun _ _ _ _ _ hl => lv_aload_n hx hb d_Na_setSum_100 rfl (lv_at hl 3 rfl)) ?_
        refine gs (pc' := 102) (fun _ _ _ _ _ hl => lv_iload_n hx hb d_Na_setSum_101 rfl (lv_at hl 2 rfl)) ?_
        refine gs (pc' := 103) (fun _ _ _ _ _ hl => lv_iconst (v := nI 1) hx hb d_Na_setSum_102 (by decide)) ?_
        refine gs (pc' := 104) (fun _ _ _ _ _ hl => lv_iadd hx hb d_Na_setSum_103) ?_
        refine g_eqi (show (nI (max z1 z2)) + (nI 1) = nI ((max z1 z2) + 1) from nI_add _ _) ?_
        refine g_put (ty := .int) hx hb hts hin_Na ty_Na ty_Na_ok nm_Na hown hK f_26 rfl 1 (by decide) (hts _ wm75) (fun _ h9 => h9) rfl (by decide +kernel) rfl rfl (Nat.le_of_ble_eq_true rfl) d_Na_setSum_104 (fun G_32 f_33 o_34 => ?_)
        have f_35 : G_32 h = some (t, .inr (4, [.ref a_8, .int (nI ((max z1 z2) + 1))])) := f_33
        have f_36 : G_32 h1 = some (t1, .inr (4, [.ref a1, .int (nI z1)])) := (o_34 _ (gne f_27 f_26 (fun e => hn1 (congrArg Prod.fst e)))).trans f_27
        have f_37 : G_32 a1 = some (t1, .inl (cA 0, cap1, .inl f1)) := (o_34 _ (gne f_28 f_26 (fun e => by cases e))).trans f_28
        have f_38 : G_32 h2 = some (t2, .inr (4, [.ref a2, .int (nI z2)])) := (o_34 _ (gne f_29 f_26 (fun e => hn2 (congrArg Prod.fst e)))).trans f_29
        have f_39 : G_32 a2 = some (t2, .inl (cA 0, cap2, .inl f2)) := (o_34 _ (gne f_30 f_26 (fun e => by cases e))).trans f_30
        have f_40 : G_32 a_8 = some (t, .inl (cA 0, (gcap cap (max z1 z2 + 1)), .inl (upd g (max z1 z2) (nI c0)))) := (o_34 _ (gne f_24 f_26 (fun e => by cases e))).trans f_24
        have w_41 : gfr (fun x => x = t) G G_32 := gfr_put w_31 f_26 rfl o_34
        refine gs (pc' := 108) (fun _ _ _ _ _ hl => lv_aload_n hx hb d_Na_setSum_107 rfl (lv_at hl 3 rfl)) ?_
        have hgl : lim (upd g (max z1 z2) (nI c0)) (max z1 z2 + 1) := lim_upd_s hg (by omega)
        refine g_outv hlo (g_runV (As := []) (rest := []) ⟨hx, hb, hml, hown, hts⟩ hK hZ hRc hRs (c_Na_trim l D cA lo MC MS G_32 B_6 t h a_8 ((max z1 z2) + 1) (gcap cap (max z1 z2 + 1)) (upd g (max z1 z2) (nI c0)) f_35 f_40 (by omega) (by omega) hgl (show B_6.1 ≤ MC by omega) (show B_6.2 ≤ MS by omega)) (fun _ _ => cwV 0 hts (tb_good (tb_cons wm212 (tb_cons wm213 (tb_cons wm214 (tb_cons wm5 k_Na_trim))))) rfl rfl rfl (by decide +kernel) ⟨by rw [hRf]; exact Nat.le_of_ble_eq_true rfl, by rw [hRl]; exact Nat.le_of_ble_eq_true rfl⟩) f_35 rfl (show B_6.1 ≤ MC by omega) (show B_6.2 ≤ MS by omega) rfl (Nat.le_of_ble_eq_true rfl) d_Na_setSum_108) (fun G_42 B_43 p_44 => ?_)
        obtain ⟨e_45, z_46, e_47, e_48, e_49, f_50, o_51⟩ := p_44
        have e_45 : B_6 = B_43 := (show B_43 = B_6 from e_45).symm
        subst e_45
        have f_52 : G_42 h1 = some (t1, .inr (4, [.ref a1, .int (nI z1)])) := (o_51 _ (gne f_36 f_35 (fun e => hn1 (congrArg Prod.fst e)))).trans f_36
        have f_53 : G_42 a1 = some (t1, .inl (cA 0, cap1, .inl f1)) := (o_51 _ (gne f_37 f_35 (fun e => by cases e))).trans f_37
        have f_54 : G_42 h2 = some (t2, .inr (4, [.ref a2, .int (nI z2)])) := (o_51 _ (gne f_38 f_35 (fun e => hn2 (congrArg Prod.fst e)))).trans f_38
        have f_55 : G_42 a2 = some (t2, .inl (cA 0, cap2, .inl f2)) := (o_51 _ (gne f_39 f_35 (fun e => by cases e))).trans f_39
        have f_56 : G_42 a_8 = some (t, .inl (cA 0, (gcap cap (max z1 z2 + 1)), .inl (upd g (max z1 z2) (nI c0)))) := (o_51 _ (gne f_40 f_35 (fun e => by cases e))).trans f_40
        exact hret 111 _ _ _ d_Na_setSum_111 (show B_6.1 ≤ MC by omega) (show B_6.2 ≤ MS by omega) ⟨a_8, z_46, _, f_50, f_56, by omega, ⟨lim_le hgl e_47, e_48, by rw [e_49, dv_upd_s (by omega), hv, dv_dx (by omega), dv_dx (by omega), hD1.2.2, hD2.2.2]⟩, gfr_put w_41 f_35 rfl o_51, e_14, e_15⟩
      · skip
        have nc_22 : (max z1 z2) < (max z1 z2) := (nn_ge (a := (max z1 z2)) (b := (max z1 z2)) (by omega) (by omega)).2 c_22
        exact absurd nc_22 (by omega)
    | succ n ih =>
      intro i c0 g Gk hi hc0 hg hv hfr k1 k2 k3 k4 k5 k6
      refine gs (pc' := 27) (fun _ _ _ _ _ hl => lv_iload hx hb d_Na_setSum_25 (lv_at hl 0 rfl)) ?_
      refine gs (pc' := 28) (fun _ _ _ _ _ hl => lv_iload_n hx hb d_Na_setSum_27 rfl (lv_at hl 2 rfl)) ?_
      refine gsb (pc1 := 92) (pc2 := 31) (fun _ _ _ _ _ => lv_icmp_ge (tgt := 92) hx hb d_Na_setSum_28 (by decide)) (fun c_57 => ?_) (fun c_57 => ?_)
      · skip
        have nc_57 : i ≥ (max z1 z2) := (nn_ge (a := i) (b := (max z1 z2)) (by omega) (by omega)).1 c_57
        exact absurd nc_57 (by omega)
      · skip
        have nc_57 : i < (max z1 z2) := (nn_ge (a := i) (b := (max z1 z2)) (by omega) (by omega)).2 c_57
        refine gs (pc' := 32) (fun _ _ _ _ _ hl => lv_aload_n hx hb d_Na_setSum_31 rfl (lv_at hl 4 rfl)) ?_
        refine gs (pc' := 34) (fun _ _ _ _ _ hl => lv_iload hx hb d_Na_setSum_32 (lv_at hl 0 rfl)) ?_
        refine g_outi hlo (g_runV (As := [.int (nI i)]) (rest := []) ⟨hx, hb, hml, hown, hts⟩ hK hZ hRc hRs (c_Na_limb l D cA lo MC MS Gk B_6 t1 h1 a1 z1 cap1 f1 k3 k4 (by omega) (by omega) (nI i) (show B_6.1 ≤ MC by omega) (show B_6.2 ≤ MS by omega)) (fun _ _ => cwV 1 hts (tb_good (tb_cons wm430 (tb_cons wm418 (tb_cons wm419 (tb_cons wm5 k_Na_limb))))) rfl rfl rfl (by decide +kernel) ⟨by rw [hRf]; exact Nat.le_of_ble_eq_true rfl, by rw [hRl]; exact Nat.le_of_ble_eq_true rfl⟩) k3 rfl (show B_6.1 ≤ MC by omega) (show B_6.2 ≤ MS by omega) rfl (Nat.le_of_ble_eq_true rfl) d_Na_setSum_34) (fun r_61 G_58 B_59 p_60 => ?_)
        obtain ⟨u_62, v_63⟩ := p_60
        cases u_62
        rw [limb_dx hl1 (by omega)] at v_63
        subst v_63
        have b_64 : dx f1 z1 i < 1000000000 := dx_lt hl1
        refine gs (pc' := 38) (fun _ _ _ _ _ hl => lv_i2l (v := lN (dx f1 z1 i)) hx hb d_Na_setSum_37 (nI_l (by omega))) ?_
        refine gs (pc' := 39) (fun _ _ _ _ _ hl => lv_aload_n hx hb d_Na_setSum_38 rfl (lv_at hl 5 rfl)) ?_
        refine gs (pc' := 41) (fun _ _ _ _ _ hl => lv_iload hx hb d_Na_setSum_39 (lv_at hl 0 rfl)) ?_
        refine g_outi hlo (g_runV (As := [.int (nI i)]) (rest := [.long (lN (dx f1 z1 i))]) ⟨hx, hb, hml, hown, hts⟩ hK hZ hRc hRs (c_Na_limb l D cA lo MC MS Gk B_6 t2 h2 a2 z2 cap2 f2 k5 k6 (by omega) (by omega) (nI i) (show B_6.1 ≤ MC by omega) (show B_6.2 ≤ MS by omega)) (fun _ _ => cwV 1 hts (tb_good (tb_cons wm430 (tb_cons wm418 (tb_cons wm419 (tb_cons wm5 k_Na_limb))))) rfl rfl rfl (by decide +kernel) ⟨by rw [hRf]; exact Nat.le_of_ble_eq_true rfl, by rw [hRl]; exact Nat.le_of_ble_eq_true rfl⟩) k5 rfl (show B_6.1 ≤ MC by omega) (show B_6.2 ≤ MS by omega) rfl (Nat.le_of_ble_eq_true rfl) d_Na_setSum_41) (fun r_68 G_65 B_66 p_67 => ?_)
        obtain ⟨u_69, v_70⟩ := p_67
        cases u_69
        rw [limb_dx hl2 (by omega)] at v_70
        subst v_70
        have b_71 : dx f2 z2 i < 1000000000 := dx_lt hl2
        refine gs (pc' := 45) (fun _ _ _ _ _ hl => lv_i2l (v := lN (dx f2 z2 i)) hx hb d_Na_setSum_44 (nI_l (by omega))) ?_
        refine gs (pc' := 46) (fun _ _ _ _ _ hl => lv_ladd hx hb d_Na_setSum_45) ?_
        refine g_eql (show (lN (dx f1 z1 i)) + (lN (dx f2 z2 i)) = lN ((dx f1 z1 i) + (dx f2 z2 i)) from lN_add _ _) ?_
        refine gs (pc' := 48) (fun _ _ _ _ _ hl => lv_iload hx hb d_Na_setSum_46 (lv_at hl 1 rfl)) ?_
        refine gs (pc' := 49) (fun _ _ _ _ _ hl => lv_i2l (v := lN c0) hx hb d_Na_setSum_48 (nI_l (by omega))) ?_
        refine gs (pc' := 50) (fun _ _ _ _ _ hl => lv_ladd hx hb d_Na_setSum_49) ?_
        refine g_eql (show (lN ((dx f1 z1 i) + (dx f2 z2 i))) + (lN c0) = lN (((dx f1 z1 i) + (dx f2 z2 i)) + c0) from lN_add _ _) ?_
        refine gst (pc' := 52) (L' := [(6, .long (lN (((dx f1 z1 i) + (dx f2 z2 i)) + c0))), (5, .int (nI i)), (4, .int (nI c0)), (3, .int (nI (max z1 z2))), (0, .ref h), (1, .ref h1), (2, .ref h2)]) (fun _ _ _ _ _ hl => lv_lstore hx hb d_Na_setSum_50 hl (by decide) rfl) ?_
        refine gs (pc' := 54) (fun _ _ _ _ _ hl => lv_lload hx hb d_Na_setSum_52 (lv_at hl 0 rfl)) ?_
        refine gs (pc' := 57) (fun _ _ _ _ _ hl => lv_ldc2 (v := 1000000000) hx hb hown (hts _ wm208) d_Na_setSum_54) ?_
        refine g_eql (show 1000000000 = lN 1000000000 from rfl) ?_
        refine gs (pc' := 58) (fun _ _ _ _ _ hl => W.lcmp hx hb d_Na_setSum_57) ?_
        refine gsb (pc1 := 65) (pc2 := 61) (fun _ _ _ _ _ => lv_if_lt (tgt := 65) hx hb d_Na_setSum_58 (by decide)) (fun c_72 => ?_) (fun c_72 => ?_)
        · skip
          have nc_72 : (((dx f1 z1 i) + (dx f2 z2 i)) + c0) < 1000000000 := (lcN_lt (a := (((dx f1 z1 i) + (dx f2 z2 i)) + c0)) (b := 1000000000) (by omega) (by omega)).1 c_72
          refine gs (pc' := 66) (fun _ _ _ _ _ hl => lv_iconst (v := nI 0) hx hb d_Na_setSum_65 (by decide)) ?_
          refine gst (pc' := 68) (L' := [(4, .int (nI 0)), (6, .long (lN (((dx f1 z1 i) + (dx f2 z2 i)) + c0))), (5, .int (nI i)), (3, .int (nI (max z1 z2))), (0, .ref h), (1, .ref h1), (2, .ref h2)]) (fun _ _ _ _ _ hl => lv_istore hx hb d_Na_setSum_66 hl (by decide) rfl) ?_
          refine gs (pc' := 69) (fun _ _ _ _ _ hl => lv_aload_n hx hb d_Na_setSum_68 rfl (lv_at hl 4 rfl)) ?_
          refine g_get hx hb hts hin_Na hown hK k1 rfl 0 (by decide) (hts _ wm72) (fun _ h9 => h9) rfl d_Na_setSum_69 ?_
          refine gs (pc' := 74) (fun _ _ _ _ _ hl => lv_iload hx hb d_Na_setSum_72 (lv_at hl 2 rfl)) ?_
          refine gs (pc' := 76) (fun _ _ _ _ _ hl => lv_lload hx hb d_Na_setSum_74 (lv_at hl 1 rfl)) ?_
          refine gs (pc' := 78) (fun _ _ _ _ _ hl => lv_iload hx hb d_Na_setSum_76 (lv_at hl 0 rfl)) ?_
          refine gs (pc' := 79) (fun _ _ _ _ _ hl => lv_i2l (v := lN 0) hx hb d_Na_setSum_78 (nI_l (by omega))) ?_
          refine gs (pc' := 82) (fun _ _ _ _ _ hl => lv_ldc2 (v := 1000000000) hx hb hown (hts _ wm208) d_Na_setSum_79) ?_
          refine g_eql (show 1000000000 = lN 1000000000 from rfl) ?_
          refine gs (pc' := 83) (fun _ _ _ _ _ hl => lv_lmul hx hb d_Na_setSum_82) ?_
          refine g_eql (show (lN 0) * (lN 1000000000) = lN 0 from (lN_mul 0 1000000000).trans (congrArg lN (Nat.zero_mul 1000000000))) ?_
          refine gs (pc' := 84) (fun _ _ _ _ _ hl => lv_lsub hx hb d_Na_setSum_83) ?_
          refine g_eql (show (lN (((dx f1 z1 i) + (dx f2 z2 i)) + c0)) - (lN 0) = lN (((dx f1 z1 i) + (dx f2 z2 i)) + c0) from (lN_sub (by omega)).trans (congrArg lN (show (((dx f1 z1 i) + (dx f2 z2 i)) + c0) - 0 = (((dx f1 z1 i) + (dx f2 z2 i)) + c0) by omega))) ?_
          refine gs (pc' := 85) (fun _ _ _ _ _ hl => lv_l2i (v := nI (((dx f1 z1 i) + (dx f2 z2 i)) + c0)) hx hb d_Na_setSum_84 (lN_i _)) ?_
          refine g_iast hx hb hK 0 k2 rfl (show vp_in (nI i) (gcap cap (max z1 z2 + 1)) from vp_in_nI (by omega) (by omega)) d_Na_setSum_85 (fun G_73 f_74 o_75 => ?_)
          rw [nI_clamp (by omega)] at f_74
          have f_76 : G_73 h = some (t, .inr (4, [.ref a_8, .int zv])) := (o_75 _ (gne k1 k2 (fun e => by cases e))).trans k1
          have f_77 : G_73 h1 = some (t1, .inr (4, [.ref a1, .int (nI z1)])) := (o_75 _ (gne k3 k2 (fun e => by cases e))).trans k3
          have f_78 : G_73 a1 = some (t1, .inl (cA 0, cap1, .inl f1)) := (o_75 _ (gne k4 k2 (fun e => hn1 (congrArg Prod.fst e)))).trans k4
          have f_79 : G_73 h2 = some (t2, .inr (4, [.ref a2, .int (nI z2)])) := (o_75 _ (gne k5 k2 (fun e => by cases e))).trans k5
          have f_80 : G_73 a2 = some (t2, .inl (cA 0, cap2, .inl f2)) := (o_75 _ (gne k6 k2 (fun e => hn2 (congrArg Prod.fst e)))).trans k6
          refine gst (pc' := 89) (L' := [(5, .int (nI (i + 1))), (4, .int (nI 0)), (6, .long (lN (((dx f1 z1 i) + (dx f2 z2 i)) + c0))), (3, .int (nI (max z1 z2))), (0, .ref h), (1, .ref h1), (2, .ref h2)]) (fun _ _ _ _ _ hl => lv_iinc (v := nI (i + 1)) hx hb d_Na_setSum_86 hl (k := 2) rfl (nI_add _ 1) (by decide) rfl) ?_
          refine gs (pc' := 25) (fun _ _ _ _ _ hl => lv_goto (tgt := 25) hx hb d_Na_setSum_89 (by decide)) ?_
          refine gsub [0, 1, 3, 4, 5, 6] rfl ?_
          exact ih (i + 1) 0 (upd g i (nI (((dx f1 z1 i) + (dx f2 z2 i)) + c0))) G_73 (by omega) (by omega) (lim_upd_s hg (by omega)) (by rw [dv_upd_s (by omega), dv_s, dv_s]; exact st_sum hv (by omega)) (gfr_put hfr k2 rfl o_75) f_76 f_74 f_77 f_78 f_79 f_80
        · skip
          have nc_72 : (((dx f1 z1 i) + (dx f2 z2 i)) + c0) ≥ 1000000000 := (lcN_lt (a := (((dx f1 z1 i) + (dx f2 z2 i)) + c0)) (b := 1000000000) (by omega) (by omega)).2 c_72
          refine gs (pc' := 62) (fun _ _ _ _ _ hl => lv_iconst (v := nI 1) hx hb d_Na_setSum_61 (by decide)) ?_
          refine gs (pc' := 66) (fun _ _ _ _ _ hl => lv_goto (tgt := 66) hx hb d_Na_setSum_62 (by decide)) ?_
          refine gst (pc' := 68) (L' := [(4, .int (nI 1)), (6, .long (lN (((dx f1 z1 i) + (dx f2 z2 i)) + c0))), (5, .int (nI i)), (3, .int (nI (max z1 z2))), (0, .ref h), (1, .ref h1), (2, .ref h2)]) (fun _ _ _ _ _ hl => lv_istore hx hb d_Na_setSum_66 hl (by decide) rfl) ?_
          refine gs (pc' := 69) (fun _ _ _ _ _ hl => lv_aload_n hx hb d_Na_setSum_68 rfl (lv_at hl 4 rfl)) ?_
          refine g_get hx hb hts hin_Na hown hK k1 rfl 0 (by decide) (hts _ wm72) (fun _ h9 => h9) rfl d_Na_setSum_69 ?_
          refine gs (pc' := 74) (fun _ _ _ _ _ hl => lv_iload hx hb d_Na_setSum_72 (lv_at hl 2 rfl)) ?_
          refine gs (pc' := 76) (fun _ _ _ _ _ hl => lv_lload hx hb d_Na_setSum_74 (lv_at hl 1 rfl)) ?_
          refine gs (pc' := 78) (fun _ _ _ _ _ hl => lv_iload hx hb d_Na_setSum_76 (lv_at hl 0 rfl)) ?_
          refine gs (pc' := 79) (fun _ _ _ _ _ hl => lv_i2l (v := lN 1) hx hb d_Na_setSum_78 (nI_l (by omega))) ?_
          refine gs (pc' := 82) (fun _ _ _ _ _ hl => lv_ldc2 (v := 1000000000) hx hb hown (hts _ wm208) d_Na_setSum_79) ?_
          refine g_eql (show 1000000000 = lN 1000000000 from rfl) ?_
          refine gs (pc' := 83) (fun _ _ _ _ _ hl => lv_lmul hx hb d_Na_setSum_82) ?_
          refine g_eql (show (lN 1) * (lN 1000000000) = lN 1000000000 from (lN_mul 1 1000000000).trans (congrArg lN (Nat.one_mul 1000000000))) ?_
          refine gs (pc' := 84) (fun _ _ _ _ _ hl => lv_lsub hx hb d_Na_setSum_83) ?_
          refine g_eql (show (lN (((dx f1 z1 i) + (dx f2 z2 i)) + c0)) - (lN 1000000000) = lN ((((dx f1 z1 i) + (dx f2 z2 i)) + c0) - 1000000000) from lN_sub (by omega)) ?_
          refine gs (pc' := 85) (fun _ _ _ _ _ hl => lv_l2i (v := nI ((((dx f1 z1 i) + (dx f2 z2 i)) + c0) - 1000000000)) hx hb d_Na_setSum_84 (lN_i _)) ?_
          refine g_iast hx hb hK 0 k2 rfl (show vp_in (nI i) (gcap cap (max z1 z2 + 1)) from vp_in_nI (by omega) (by omega)) d_Na_setSum_85 (fun G_81 f_82 o_83 => ?_)
          rw [nI_clamp (by omega)] at f_82
          have f_84 : G_81 h = some (t, .inr (4, [.ref a_8, .int zv])) := (o_83 _ (gne k1 k2 (fun e => by cases e))).trans k1
          have f_85 : G_81 h1 = some (t1, .inr (4, [.ref a1, .int (nI z1)])) := (o_83 _ (gne k3 k2 (fun e => by cases e))).trans k3
          have f_86 : G_81 a1 = some (t1, .inl (cA 0, cap1, .inl f1)) := (o_83 _ (gne k4 k2 (fun e => hn1 (congrArg Prod.fst e)))).trans k4
          have f_87 : G_81 h2 = some (t2, .inr (4, [.ref a2, .int (nI z2)])) := (o_83 _ (gne k5 k2 (fun e => by cases e))).trans k5
          have f_88 : G_81 a2 = some (t2, .inl (cA 0, cap2, .inl f2)) := (o_83 _ (gne k6 k2 (fun e => hn2 (congrArg Prod.fst e)))).trans k6
          refine gst (pc' := 89) (L' := [(5, .int (nI (i + 1))), (4, .int (nI 1)), (6, .long (lN (((dx f1 z1 i) + (dx f2 z2 i)) + c0))), (3, .int (nI (max z1 z2))), (0, .ref h), (1, .ref h1), (2, .ref h2)]) (fun _ _ _ _ _ hl => lv_iinc (v := nI (i + 1)) hx hb d_Na_setSum_86 hl (k := 2) rfl (nI_add _ 1) (by decide) rfl) ?_
          refine gs (pc' := 25) (fun _ _ _ _ _ hl => lv_goto (tgt := 25) hx hb d_Na_setSum_89 (by decide)) ?_
          refine gsub [0, 1, 3, 4, 5, 6] rfl ?_
          exact ih (i + 1) 1 (upd g i (nI ((((dx f1 z1 i) + (dx f2 z2 i)) + c0) - 1000000000))) G_81 (by omega) (by omega) (lim_upd_s hg (by omega)) (by rw [dv_upd_s (by omega), dv_s, dv_s]; exact st_sum hv (by omega)) (gfr_put hfr k2 rfl o_83) f_84 f_82 f_85 f_86 f_87 f_88
  exact loop (max z1 z2) 0 0 g_9 G_5 (by omega) (by omega) (fun i hi => absurd hi (Nat.not_lt_zero i)) rfl e_13 e_10 e_11 f_18 f_19 f_20 f_21
