set_option maxHeartbeats 4000000 in
set_option maxRecDepth 100000 in
/-- setDifference -/
theorem c_Na_setDifference (l : Launch) (D : va_G) (cA : Nat → ClassId) (lo MC MS : Nat) (G : gT) (B : Nat × Nat) (t h a cap : Nat) (zv : Int32) (f : Nat → Int32) (hh : G h = some (t, .inr (4, [.ref a, .int zv]))) (ha : G a = some (t, .inl (cA 0, cap, .inl f))) (hc : cap ≤ 50000) (t1 h1 a1 z1 cap1 : Nat) (f1 : Nat → Int32) (hh1 : G h1 = some (t1, .inr (4, [.ref a1, .int (nI z1)]))) (ha1 : G a1 = some (t1, .inl (cA 0, cap1, .inl f1))) (hz1 : z1 ≤ cap1) (hc1 : cap1 ≤ 50000) (t2 h2 a2 z2 cap2 : Nat) (f2 : Nat → Int32) (hh2 : G h2 = some (t2, .inr (4, [.ref a2, .int (nI z2)]))) (ha2 : G a2 = some (t2, .inl (cA 0, cap2, .inl f2))) (hz2 : z2 ≤ cap2) (hc2 : cap2 ≤ 50000) (v1 v2 : Nat) (hn1 : ¬ t1 = t) (hn2 : ¬ t2 = t) (hD1 : isD f1 z1 v1) (hD2 : isD f2 z2 v2) (hge : v2 ≤ v1) (hC : B.1 + (gcap cap (z1) - cap) ≤ MC) (hS : B.2 + 2 * (gcap cap (z1) - cap) ≤ MS) (hB1 : B.1 ≤ MC) (hB2 : B.2 ≤ MS) : gMet l y_Na_setDifference w_Na_setDifference 3 83 D clS (gtys cA) lo MC MS [.ref h, .ref h1, .ref h2] G B (gQv D clS lo (nres cA G B t h cap z1 (v1 - v2))) := by
  refine g_metv (cc := prog_6_method_16_code) (nL := 7) (L := [(0, .ref h), (1, .ref h1), (2, .ref h2)]) (by decide +kernel) rfl (Nat.le_of_ble_eq_true rfl) rfl ?_
  intro p e R s m args below meth c Q hF hRc hRs hRf hRl hret
  obtain ⟨hx, hb, hr, hml, hts0, hown, hlocks, hin, hK, hlo, hZ⟩ := hF
  have hts : ∀ w ∈ tbg, w.before args s = true := fun w h => hts0 w (List.mem_cons_of_mem _ h)
  have hl1 := hD1.1
  have hl2 := hD2.1
  have hz21 : z2 ≤ z1 := isD_size hD2 (Nat.lt_of_le_of_lt hge (isD_lt hD1))
  refine gs (pc' := 1) (fun _ _ _ _ _ hl => lv_aload_n hx hb d_Na_setDifference_0 rfl (lv_at hl 0 rfl)) ?_
  refine gs (pc' := 2) (fun _ _ _ _ _ hl => lv_aload_n hx hb d_Na_setDifference_1 rfl (lv_at hl 1 rfl)) ?_
  refine g_get hx hb hts hin_Na hown hK hh1 rfl 1 (by decide) (hts _ wm75) (fun _ h9 => h9) rfl d_Na_setDifference_2 ?_
  refine g_outv hlo (g_runV (As := [.int (nI z1)]) (rest := []) ⟨hx, hb, hml, hown, hts⟩ hK hZ hRc hRs (c_Na_grow l D cA lo MC MS G B t h a cap z1 zv f hh ha (by omega) (by omega) (by omega) (by omega) hB1 hB2) (fun _ _ => cwV 1 hts (tb_good (tb_cons wm188 (tb_cons wm189 (tb_cons wm190 (tb_cons wm5 k_Na_grow))))) rfl rfl rfl (by decide +kernel) ⟨by rw [hRf]; exact Nat.le_of_ble_eq_true rfl, by rw [hRl]; exact Nat.le_of_ble_eq_true rfl⟩) hh rfl hB1 hB2 rfl (Nat.le_of_ble_eq_true rfl) d_Na_setDifference_5) (fun G_1 B_2 p_3 => ?_)
  obtain ⟨a_4, g_5, e_6, e_7, e_8, e_9, e_10, e_11⟩ := p_3
  have e_10 : B_2.1 + cap ≤ B.1 + gcap cap z1 := e_10
  have e_11 : B_2.2 + 2 * cap ≤ B.2 + 2 * gcap cap z1 := e_11
  have gg_12 := gcap_ge cap z1
  have gg_13 : gcap cap z1 ≤ 2 * 50000 := gcap_le (by omega) (by omega)
  have f_14 : G_1 h1 = some (t1, .inr (4, [.ref a1, .int (nI z1)])) := e_9 _ _ hh1 hn1
  have f_15 : G_1 a1 = some (t1, .inl (cA 0, cap1, .inl f1)) := e_9 _ _ ha1 hn1
  have f_16 : G_1 h2 = some (t2, .inr (4, [.ref a2, .int (nI z2)])) := e_9 _ _ hh2 hn2
  have f_17 : G_1 a2 = some (t2, .inl (cA 0, cap2, .inl f2)) := e_9 _ _ ha2 hn2
  refine gs (pc' := 9) (fun _ _ _ _ _ hl => lv_iconst (v := nI 0) hx hb d_Na_setDifference_8 (by decide)) ?_
  refine gst (pc' := 10) (L' := [(3, .int (nI 0)), (0, .ref h), (1, .ref h1), (2, .ref h2)]) (fun _ _ _ _ _ hl => lv_istore_n hx hb d_Na_setDifference_9 rfl hl (by decide) rfl) ?_
  refine gs (pc' := 11) (fun _ _ _ _ _ hl => lv_iconst (v := nI 0) hx hb d_Na_setDifference_10 (by decide)) ?_
  refine gst (pc' := 13) (L' := [(4, .int (nI 0)), (3, .int (nI 0)), (0, .ref h), (1, .ref h1), (2, .ref h2)]) (fun _ _ _ _ _ hl => lv_istore hx hb d_Na_setDifference_11 hl (by decide) rfl) ?_
  refine gsub [0, 1, 2, 3, 4] rfl ?_
  have loop : ∀ (n i b0 : Nat) (g : Nat → Int32) (Gk : gT), (i + n = z1) → (b0 ≤ 1) → (lim g i) → (dv (df g) i + dv (dx f2 z2) i = dv (df f1) i + b0 * 1000000000 ^ i) → (gfr (fun x => x = t) G Gk) → Gk h = some (t, .inr (4, [.ref a_4, .int zv])) → Gk a_4 = some (t, .inl (cA 0, (gcap cap z1), .inl g)) → Gk h1 = some (t1, .inr (4, [.ref a1, .int (nI z1)])) → Gk a1 = some (t1, .inl (cA 0, cap1, .inl f1)) → Gk h2 = some (t2, .inr (4, [.ref a2, .int (nI z2)])) → Gk a2 = some (t2, .inl (cA 0, cap2, .inl f2)) → gV p l e R s m args below meth c D clS lo 7 Q 13 [(4, .int (nI i)), (3, .int (nI b0)), (0, .ref h), (1, .ref h1), (2, .ref h2)] [] Gk B_2 := by
    intro n
    induction n with
    | zero =>
      intro i b0 g Gk hi hb0 hg hv hfr k1 k2 k3 k4 k5 k6
      have hiM : z1 = i := by omega
      subst hiM
      have hv1 := hD1.2.2
      have hlt := dv_lt (lim_dok hg)
      rw [hv1, dv_dx hz21, hD2.2.2] at hv
      have hb00 : b0 = 0 := by
        rcases (show b0 = 0 ∨ b0 = 1 by omega) with q | q
        · exact q
        · subst q; omega
      subst hb00
      refine gs (pc' := 15) (fun _ _ _ _ _ hl => lv_iload hx hb d_Na_setDifference_13 (lv_at hl 0 rfl)) ?_
      refine gs (pc' := 16) (fun _ _ _ _ _ hl => lv_aload_n hx hb d_Na_setDifference_15 rfl (lv_at hl 3 rfl)) ?_
      refine g_get hx hb hts hin_Na hown hK k3 rfl 1 (by decide) (hts _ wm75) (fun _ h9 => h9) rfl d_Na_setDifference_16 ?_
      refine gsb (pc1 := 79) (pc2 := 22) (fun _ _ _ _ _ => lv_icmp_ge (tgt := 79) hx hb d_Na_setDifference_19 (by decide)) (fun c_18 => ?_) (fun c_18 => ?_)
      · skip
        have nc_18 : z1 ≥ z1 := (nn_ge (a := z1) (b := z1) (by omega) (by omega)).1 c_18
        refine gs (pc' := 80) (fun _ _ _ _ _ hl => lv_aload_n hx hb d_Na_setDifference_79 rfl (lv_at hl 2 rfl)) ?_
        refine gs (pc' := 81) (fun _ _ _ _ _ hl => lv_aload_n hx hb d_Na_setDifference_80 rfl (lv_at hl 3 rfl)) ?_
        refine g_get hx hb hts hin_Na hown hK k3 rfl 1 (by decide) (hts _ wm75) (fun _ h9 => h9) rfl d_Na_setDifference_81 ?_
        refine g_put (ty := .int) hx hb hts hin_Na ty_Na ty_Na_ok nm_Na hown hK k1 rfl 1 (by decide) (hts _ wm75) (fun _ h9 => h9) rfl (by decide +kernel) rfl rfl (Nat.le_of_ble_eq_true rfl) d_Na_setDifference_84 (fun G_19 f_20 o_21 => ?_)
        have f_22 : G_19 h = some (t, .inr (4, [.ref a_4, .int (nI z1)])) := f_20
        have f_23 : G_19 a_4 = some (t, .inl (cA 0, (gcap cap z1), .inl g)) := (o_21 _ (gne k2 k1 (fun e => by cases e))).trans k2
        have f_24 : G_19 h1 = some (t1, .inr (4, [.ref a1, .int (nI z1)])) := (o_21 _ (gne k3 k1 (fun e => hn1 (congrArg Prod.fst e)))).trans k3
        have f_25 : G_19 a1 = some (t1, .inl (cA 0, cap1, .inl f1)) := (o_21 _ (gne k4 k1 (fun e => by cases e))).trans k4
        have f_26 : G_19 h2 = some (t2, .inr (4, [.ref a2, .int (nI z2)])) := (o_21 _ (gne k5 k1 (fun e => hn2 (congrArg Prod.fst e)))).trans k5
        have f_27 : G_19 a2 = some (t2, .inl (cA 0, cap2, .inl f2)) := (o_21 _ (gne k6 k1 (fun e => by cases e))).trans k6
        have w_28 : gfr (fun x => x = t) G G_19 := gfr_put hfr k1 rfl o_21
        refine gs (pc' := 88) (fun _ _ _ _ _ hl => lv_aload_n hx hb d_Na_setDifference_87 rfl (lv_at hl 2 rfl)) ?_
        refine g_outv hlo (g_runV (As := []) (rest := []) ⟨hx, hb, hml, hown, hts⟩ hK hZ hRc hRs (c_Na_trim l D cA lo MC MS G_19 B_2 t h a_4 z1 (gcap cap z1) g f_22 f_23 (by omega) (by omega) hg (show B_2.1 ≤ MC by omega) (show B_2.2 ≤ MS by omega)) (fun _ _ => cwV 0 hts (tb_good (tb_cons wm212 (tb_cons wm213 (tb_cons wm214 (tb_cons wm5 k_Na_trim))))) rfl rfl rfl (by decide +kernel) ⟨by rw [hRf]; exact Nat.le_of_ble_eq_true rfl, by rw [hRl]; exact Nat.le_of_ble_eq_true rfl⟩) f_22 rfl (show B_2.1 ≤ MC by omega) (show B_2.2 ≤ MS by omega) rfl (Nat.le_of_ble_eq_true rfl) d_Na_setDifference_88) (fun G_29 B_30 p_31 => ?_)
        obtain ⟨e_32, z_33, e_34, e_35, e_36, f_37, o_38⟩ := p_31
        have e_32 : B_2 = B_30 := (show B_30 = B_2 from e_32).symm
        subst e_32
        have f_39 : G_29 a_4 = some (t, .inl (cA 0, (gcap cap z1), .inl g)) := (o_38 _ (gne f_23 f_22 (fun e => by cases e))).trans f_23
        have f_40 : G_29 h1 = some (t1, .inr (4, [.ref a1, .int (nI z1)])) := (o_38 _ (gne f_24 f_22 (fun e => hn1 (congrArg Prod.fst e)))).trans f_24
        have f_41 : G_29 a1 = some (t1, .inl (cA 0, cap1, .inl f1)) := (o_38 _ (gne f_25 f_22 (fun e => by cases e))).trans f_25
        have f_42 : G_29 h2 = some (t2, .inr (4, [.ref a2, .int (nI z2)])) := (o_38 _ (gne f_26 f_22 (fun e => hn2 (congrArg Prod.fst e)))).trans f_26
        have f_43 : G_29 a2 = some (t2, .inl (cA 0, cap2, .inl f2)) := (o_38 _ (gne f_27 f_22 (fun e => by cases e))).trans f_27
        exact hret 91 _ _ _ d_Na_setDifference_91 (show B_2.1 ≤ MC by omega) (show B_2.2 ≤ MS by omega) ⟨a_4, z_33, _, f_37, f_39, by omega, ⟨lim_le hg e_34, e_35, by rw [e_36]; omega⟩, gfr_put w_28 f_22 rfl o_38, e_10, e_11⟩
      · skip
        have nc_18 : z1 < z1 := (nn_ge (a := z1) (b := z1) (by omega) (by omega)).2 c_18
        exact absurd nc_18 (by omega)
    | succ n ih =>
      intro i b0 g Gk hi hb0 hg hv hfr k1 k2 k3 k4 k5 k6
      refine gs (pc' := 15) (fun _ _ _ _ _ hl => lv_iload hx hb d_Na_setDifference_13 (lv_at hl 0 rfl)) ?_
      refine gs (pc' := 16) (fun _ _ _ _ _ hl => lv_aload_n hx hb d_Na_setDifference_15 rfl (lv_at hl 3 rfl)) ?_
      refine g_get hx hb hts hin_Na hown hK k3 rfl 1 (by decide) (hts _ wm75) (fun _ h9 => h9) rfl d_Na_setDifference_16 ?_
      refine gsb (pc1 := 79) (pc2 := 22) (fun _ _ _ _ _ => lv_icmp_ge (tgt := 79) hx hb d_Na_setDifference_19 (by decide)) (fun c_44 => ?_) (fun c_44 => ?_)
      · skip
        have nc_44 : i ≥ z1 := (nn_ge (a := i) (b := z1) (by omega) (by omega)).1 c_44
        exact absurd nc_44 (by omega)
      · skip
        have nc_44 : i < z1 := (nn_ge (a := i) (b := z1) (by omega) (by omega)).2 c_44
        refine gs (pc' := 23) (fun _ _ _ _ _ hl => lv_aload_n hx hb d_Na_setDifference_22 rfl (lv_at hl 3 rfl)) ?_
        refine g_get hx hb hts hin_Na hown hK k3 rfl 0 (by decide) (hts _ wm72) (fun _ h9 => h9) rfl d_Na_setDifference_23 ?_
        refine gs (pc' := 28) (fun _ _ _ _ _ hl => lv_iload hx hb d_Na_setDifference_26 (lv_at hl 0 rfl)) ?_
        refine g_iald hx hb hK 0 k4 rfl (show vp_in (nI i) cap1 from vp_in_nI (by omega) (by omega)) d_Na_setDifference_28 ?_
        refine g_eqi (show f1 (nI i).toNatClampNeg = f1 i from by rw [nI_clamp (by omega)]) ?_
        have b_45 : df f1 i < 1000000000 := (hl1 i (by omega)).2
        refine g_eqi (show f1 i = nI (df f1 i) from (hl1 i (by omega)).1) ?_
        refine gs (pc' := 30) (fun _ _ _ _ _ hl => lv_i2l (v := lN (df f1 i)) hx hb d_Na_setDifference_29 (nI_l (by omega))) ?_
        refine gs (pc' := 31) (fun _ _ _ _ _ hl => lv_aload_n hx hb d_Na_setDifference_30 rfl (lv_at hl 4 rfl)) ?_
        refine gs (pc' := 33) (fun _ _ _ _ _ hl => lv_iload hx hb d_Na_setDifference_31 (lv_at hl 0 rfl)) ?_
        refine g_outi hlo (g_runV (As := [.int (nI i)]) (rest := [.long (lN (df f1 i))]) ⟨hx, hb, hml, hown, hts⟩ hK hZ hRc hRs (c_Na_limb l D cA lo MC MS Gk B_2 t2 h2 a2 z2 cap2 f2 k5 k6 (by omega) (by omega) (nI i) (show B_2.1 ≤ MC by omega) (show B_2.2 ≤ MS by omega)) (fun _ _ => cwV 1 hts (tb_good (tb_cons wm430 (tb_cons wm418 (tb_cons wm419 (tb_cons wm5 k_Na_limb))))) rfl rfl rfl (by decide +kernel) ⟨by rw [hRf]; exact Nat.le_of_ble_eq_true rfl, by rw [hRl]; exact Nat.le_of_ble_eq_true rfl⟩) k5 rfl (show B_2.1 ≤ MC by omega) (show B_2.2 ≤ MS by omega) rfl (Nat.le_of_ble_eq_true rfl) d_Na_setDifference_33) (fun r_49 G_46 B_47 p_48 => ?_)
        obtain ⟨u_50, v_51⟩ := p_48
        cases u_50
        rw [limb_dx hl2 (by omega)] at v_51
        subst v_51
        have b_52 : dx f2 z2 i < 1000000000 := dx_lt hl2
        refine gs (pc' := 37) (fun _ _ _ _ _ hl => lv_i2l (v := lN (dx f2 z2 i)) hx hb d_Na_setDifference_36 (nI_l (by omega))) ?_
        refine gs (pc' := 38) (fun _ _ _ _ _ hl => lv_lsub hx hb d_Na_setDifference_37) ?_
        refine g_eql (show (lN (df f1 i)) - (lN (dx f2 z2 i)) = lI (((df f1 i : Nat) : Int) - ((dx f2 z2 i : Nat) : Int)) from lNN_sub _ _) ?_
        refine gs (pc' := 39) (fun _ _ _ _ _ hl => lv_iload_n hx hb d_Na_setDifference_38 rfl (lv_at hl 1 rfl)) ?_
        refine gs (pc' := 40) (fun _ _ _ _ _ hl => lv_i2l (v := lN b0) hx hb d_Na_setDifference_39 (nI_l (by omega))) ?_
        refine gs (pc' := 41) (fun _ _ _ _ _ hl => lv_lsub hx hb d_Na_setDifference_40) ?_
        refine g_eql (show (lI (((df f1 i : Nat) : Int) - ((dx f2 z2 i : Nat) : Int))) - (lN b0) = lI ((((df f1 i : Nat) : Int) - ((dx f2 z2 i : Nat) : Int)) - ((b0 : Nat) : Int)) from lIN_sub _ _) ?_
        refine gst (pc' := 43) (L' := [(5, .long (lI ((((df f1 i : Nat) : Int) - ((dx f2 z2 i : Nat) : Int)) - ((b0 : Nat) : Int)))), (4, .int (nI i)), (3, .int (nI b0)), (0, .ref h), (1, .ref h1), (2, .ref h2)]) (fun _ _ _ _ _ hl => lv_lstore hx hb d_Na_setDifference_41 hl (by decide) rfl) ?_
        refine gs (pc' := 45) (fun _ _ _ _ _ hl => lv_lload hx hb d_Na_setDifference_43 (lv_at hl 0 rfl)) ?_
        refine gs (pc' := 46) (fun _ _ _ _ _ hl => lv_lconst (v := lN 0) hx hb d_Na_setDifference_45 (by decide)) ?_
        refine gs (pc' := 47) (fun _ _ _ _ _ hl => W.lcmp hx hb d_Na_setDifference_46) ?_
        refine gsb (pc1 := 54) (pc2 := 50) (fun _ _ _ _ _ => lv_if_ge (tgt := 54) hx hb d_Na_setDifference_47 (by decide)) (fun c_53 => ?_) (fun c_53 => ?_)
        · skip
          have nc_53 : ((((df f1 i : Nat) : Int) - ((dx f2 z2 i : Nat) : Int)) - ((b0 : Nat) : Int)) ≥ ((0 : Nat) : Int) := (lcI_ge (a := ((((df f1 i : Nat) : Int) - ((dx f2 z2 i : Nat) : Int)) - ((b0 : Nat) : Int))) (b := ((0 : Nat) : Int)) (by omega) (by omega) (by omega) (by omega)).1 (by rw [cmp_IN] at c_53; exact c_53)
          refine gs (pc' := 55) (fun _ _ _ _ _ hl => lv_iconst (v := nI 0) hx hb d_Na_setDifference_54 (by decide)) ?_
          refine gst (pc' := 56) (L' := [(3, .int (nI 0)), (5, .long (lI ((((df f1 i : Nat) : Int) - ((dx f2 z2 i : Nat) : Int)) - ((b0 : Nat) : Int)))), (4, .int (nI i)), (0, .ref h), (1, .ref h1), (2, .ref h2)]) (fun _ _ _ _ _ hl => lv_istore_n hx hb d_Na_setDifference_55 rfl hl (by decide) rfl) ?_
          refine gs (pc' := 57) (fun _ _ _ _ _ hl => lv_aload_n hx hb d_Na_setDifference_56 rfl (lv_at hl 3 rfl)) ?_
          refine g_get hx hb hts hin_Na hown hK k1 rfl 0 (by decide) (hts _ wm72) (fun _ h9 => h9) rfl d_Na_setDifference_57 ?_
          refine gs (pc' := 62) (fun _ _ _ _ _ hl => lv_iload hx hb d_Na_setDifference_60 (lv_at hl 2 rfl)) ?_
          refine gs (pc' := 64) (fun _ _ _ _ _ hl => lv_lload hx hb d_Na_setDifference_62 (lv_at hl 1 rfl)) ?_
          refine gs (pc' := 65) (fun _ _ _ _ _ hl => lv_iload_n hx hb d_Na_setDifference_64 rfl (lv_at hl 0 rfl)) ?_
          refine gs (pc' := 66) (fun _ _ _ _ _ hl => lv_i2l (v := lN 0) hx hb d_Na_setDifference_65 (nI_l (by omega))) ?_
          refine gs (pc' := 69) (fun _ _ _ _ _ hl => lv_ldc2 (v := 1000000000) hx hb hown (hts _ wm208) d_Na_setDifference_66) ?_
          refine g_eql (show 1000000000 = lN 1000000000 from rfl) ?_
          refine gs (pc' := 70) (fun _ _ _ _ _ hl => lv_lmul hx hb d_Na_setDifference_69) ?_
          refine g_eql (show (lN 0) * (lN 1000000000) = lN 0 from (lN_mul 0 1000000000).trans (congrArg lN (Nat.zero_mul 1000000000))) ?_
          refine gs (pc' := 71) (fun _ _ _ _ _ hl => lv_ladd hx hb d_Na_setDifference_70) ?_
          refine g_eql (show (lI ((((df f1 i : Nat) : Int) - ((dx f2 z2 i : Nat) : Int)) - ((b0 : Nat) : Int))) + (lN 0) = lI (((((df f1 i : Nat) : Int) - ((dx f2 z2 i : Nat) : Int)) - ((b0 : Nat) : Int)) + ((0 : Nat) : Int)) from lIN_add _ _) ?_
          refine gs (pc' := 72) (fun _ _ _ _ _ hl => lv_l2i (v := nI (df f1 i - dx f2 z2 i - b0)) hx hb d_Na_setDifference_71 (lI_i (by omega))) ?_
          refine g_iast hx hb hK 0 k2 rfl (show vp_in (nI i) (gcap cap z1) from vp_in_nI (by omega) (by omega)) d_Na_setDifference_72 (fun G_54 f_55 o_56 => ?_)
          rw [nI_clamp (by omega)] at f_55
          have f_57 : G_54 h = some (t, .inr (4, [.ref a_4, .int zv])) := (o_56 _ (gne k1 k2 (fun e => by cases e))).trans k1
          have f_58 : G_54 h1 = some (t1, .inr (4, [.ref a1, .int (nI z1)])) := (o_56 _ (gne k3 k2 (fun e => by cases e))).trans k3
          have f_59 : G_54 a1 = some (t1, .inl (cA 0, cap1, .inl f1)) := (o_56 _ (gne k4 k2 (fun e => hn1 (congrArg Prod.fst e)))).trans k4
          have f_60 : G_54 h2 = some (t2, .inr (4, [.ref a2, .int (nI z2)])) := (o_56 _ (gne k5 k2 (fun e => by cases e))).trans k5
          have f_61 : G_54 a2 = some (t2, .inl (cA 0, cap2, .inl f2)) := (o_56 _ (gne k6 k2 (fun e => hn2 (congrArg Prod.fst e)))).trans k6
          refine gst (pc' := 76) (L' := [(4, .int (nI (i + 1))), (3, .int (nI 0)), (5, .long (lI ((((df f1 i : Nat) : Int) - ((dx f2 z2 i : Nat) : Int)) - ((b0 : Nat) : Int)))), (0, .ref h), (1, .ref h1), (2, .ref h2)]) (fun _ _ _ _ _ hl => lv_iinc (v := nI (i + 1)) hx hb d_Na_setDifference_73 hl (k := 2) rfl (nI_add _ 1) (by decide) rfl) ?_
          refine gs (pc' := 13) (fun _ _ _ _ _ hl => lv_goto (tgt := 13) hx hb d_Na_setDifference_76 (by decide)) ?_
          refine gsub [0, 1, 3, 4, 5] rfl ?_
          exact ih (i + 1) 0 (upd g i (nI (df f1 i - dx f2 z2 i - b0))) G_54 (by omega) (by omega) (lim_upd_s hg (by omega)) (by rw [dv_upd_s (by omega), dv_s, dv_s]; exact st_dif hv (by omega)) (gfr_put hfr k2 rfl o_56) f_57 f_55 f_58 f_59 f_60 f_61
        · skip
          have nc_53 : ((((df f1 i : Nat) : Int) - ((dx f2 z2 i : Nat) : Int)) - ((b0 : Nat) : Int)) < ((0 : Nat) : Int) := (lcI_ge (a := ((((df f1 i : Nat) : Int) - ((dx f2 z2 i : Nat) : Int)) - ((b0 : Nat) : Int))) (b := ((0 : Nat) : Int)) (by omega) (by omega) (by omega) (by omega)).2 (by rw [cmp_IN] at c_53; exact c_53)
          refine gs (pc' := 51) (fun _ _ _ _ _ hl => lv_iconst (v := nI 1) hx hb d_Na_setDifference_50 (by decide)) ?_
          refine gs (pc' := 55) (fun _ _ _ _ _ hl => lv_goto (tgt := 55) hx hb d_Na_setDifference_51 (by decide)) ?_
          refine gst (pc' := 56) (L' := [(3, .int (nI 1)), (5, .long (lI ((((df f1 i : Nat) : Int) - ((dx f2 z2 i : Nat) : Int)) - ((b0 : Nat) : Int)))), (4, .int (nI i)), (0, .ref h), (1, .ref h1), (2, .ref h2)]) (fun _ _ _ _ _ hl => lv_istore_n hx hb d_Na_setDifference_55 rfl hl (by decide) rfl) ?_
          refine gs (pc' := 57) (fun _ _ _ _ _ hl => lv_aload_n hx hb d_Na_setDifference_56 rfl (lv_at hl 3 rfl)) ?_
          refine g_get hx hb hts hin_Na hown hK k1 rfl 0 (by decide) (hts _ wm72) (fun _ h9 => h9) rfl d_Na_setDifference_57 ?_
          refine gs (pc' := 62) (fun _ _ _ _ _ hl => lv_iload hx hb d_Na_setDifference_60 (lv_at hl 2 rfl)) ?_
          refine gs (pc' := 64) (fun _ _ _ _ _ hl => lv_lload hx hb d_Na_setDifference_62 (lv_at hl 1 rfl)) ?_
          refine gs (pc' := 65) (fun _ _ _ _ _ hl => lv_iload_n hx hb d_Na_setDifference_64 rfl (lv_at hl 0 rfl)) ?_
          refine gs (pc' := 66) (fun _ _ _ _ _ hl => lv_i2l (v := lN 1) hx hb d_Na_setDifference_65 (nI_l (by omega))) ?_
          refine gs (pc' := 69) (fun _ _ _ _ _ hl => lv_ldc2 (v := 1000000000) hx hb hown (hts _ wm208) d_Na_setDifference_66) ?_
          refine g_eql (show 1000000000 = lN 1000000000 from rfl) ?_
          refine gs (pc' := 70) (fun _ _ _ _ _ hl => lv_lmul hx hb d_Na_setDifference_69) ?_
          refine g_eql (show (lN 1) * (lN 1000000000) = lN 1000000000 from (lN_mul 1 1000000000).trans (congrArg lN (Nat.one_mul 1000000000))) ?_
          refine gs (pc' := 71) (fun _ _ _ _ _ hl => lv_ladd hx hb d_Na_setDifference_70) ?_
          refine g_eql (show (lI ((((df f1 i : Nat) : Int) - ((dx f2 z2 i : Nat) : Int)) - ((b0 : Nat) : Int))) + (lN 1000000000) = lI (((((df f1 i : Nat) : Int) - ((dx f2 z2 i : Nat) : Int)) - ((b0 : Nat) : Int)) + ((1000000000 : Nat) : Int)) from lIN_add _ _) ?_
          refine gs (pc' := 72) (fun _ _ _ _ _ hl => lv_l2i (v := nI (df f1 i + 1000000000 - dx f2 z2 i - b0)) hx hb d_Na_setDifference_71 (lI_i (by omega))) ?_
          refine g_iast hx hb hK 0 k2 rfl (show vp_in (nI i) (gcap cap z1) from vp_in_nI (by omega) (by omega)) d_Na_setDifference_72 (fun G_62 f_63 o_64 => ?_)
          rw [nI_clamp (by omega)] at f_63
          have f_65 : G_62 h = some (t, .inr (4, [.ref a_4, .int zv])) := (o_64 _ (gne k1 k2 (fun e => by cases e))).trans k1
          have f_66 : G_62 h1 = some (t1, .inr (4, [.ref a1, .int (nI z1)])) := (o_64 _ (gne k3 k2 (fun e => by cases e))).trans k3
          have f_67 : G_62 a1 = some (t1, .inl (cA 0, cap1, .inl f1)) := (o_64 _ (gne k4 k2 (fun e => hn1 (congrArg Prod.fst e)))).trans k4
          have f_68 : G_62 h2 = some (t2, .inr (4, [.ref a2, .int (nI z2)])) := (o_64 _ (gne k5 k2 (fun e => by cases e))).trans k5
          have f_69 : G_62 a2 = some (t2, .inl (cA 0, cap2, .inl f2)) := (o_64 _ (gne k6 k2 (fun e => hn2 (congrArg Prod.fst e)))).trans k6
          refine gst (pc' := 76) (L' := [(4, .int (nI (i + 1))), (3, .int (nI 1)), (5, .long (lI ((((df f1 i : Nat) : Int) - ((dx f2 z2 i : Nat) : Int)) - ((b0 : Nat) : Int)))), (0, .ref h), (1, .ref h1), (2, .ref h2)]) (fun _ _ _ _ _ hl => lv_iinc (v := nI (i + 1)) hx hb d_Na_setDifference_73 hl (k := 2) rfl (nI_add _ 1) (by decide) rfl) ?_
          refine gs (pc' := 13) (fun _ _ _ _ _ hl => lv_goto (tgt := 13) hx hb d_Na_setDifference_76 (by decide)) ?_
          refine gsub [0, 1, 3, 4, 5] rfl ?_
          exact ih (i + 1) 1 (upd g i (nI (df f1 i + 1000000000 - dx f2 z2 i - b0))) G_62 (by omega) (by omega) (lim_upd_s hg (by omega)) (by rw [dv_upd_s (by omega), dv_s, dv_s]; exact st_dif hv (by omega)) (gfr_put hfr k2 rfl o_64) f_65 f_63 f_66 f_67 f_68 f_69
  exact loop z1 0 0 g_5 G_1 (by omega) (by omega) (fun i hi => absurd hi (Nat.not_lt_zero i)) (by simp [dv_0]) e_9 e_6 e_7 f_14 f_15 f_16 f_17
set_option maxHeartbeats 4000000 in
set_option maxRecDepth 100000 in
/-- setScaled -/
theorem c_Na_setScaled (l : Launch) (D : va_G) (cA : Nat → ClassId) (lo MC MS : Nat) (G : gT) (B : Nat × Nat) (t h a cap : Nat) (zv : Int32) (f : Nat → Int32) (hh : G h = some (t, .inr (4, [.ref a, .int zv]))) (ha : G a = some (t, .inl (cA 0, cap, .inl f))) (hc : cap ≤ 50000) (t1 h1 a1 z1 cap1 : Nat) (f1 : Nat → Int32) (hh1 : G h1 = some (t1, .inr (4, [.ref a1, .int (nI z1)]))) (ha1 : G a1 = some (t1, .inl (cA 0, cap1, .inl f1))) (hz1 : z1 ≤ cap1) (hc1 : cap1 ≤ 50000) (v1 sc : Nat) (hn1 : ¬ t1 = t) (hD1 : isD f1 z1 v1) (hsc : sc < 1000000000) (hC : B.1 + (gcap cap (z1 + 1) - cap) ≤ MC) (hS : B.2 + 2 * (gcap cap (z1 + 1) - cap) ≤ MS) (hK : z1 + 1 ≤ 50000) (hB1 : B.1 ≤ MC) (hB2 : B.2 ≤ MS) : gMet l y_Na_setScaled w_Na_setScaled 3 83 D clS (gtys cA) lo MC MS [.ref h, .ref h1, .int (nI sc)] G B (gQv D clS lo (nres2 cA G B t h cap (z1 + 1) (v1 * sc))) := by
  refine g_metv (cc := prog_6_method_18_code) (nL := 8) (L := [(0, .ref h), (1, .ref h1), (2, .int (nI sc))]) (by decide +kernel) rfl (Nat.le_of_ble_eq_true rfl) rfl ?_
  intro p e R s m args below meth c Q hF hRc hRs hRf hRl hret
  obtain ⟨hx, hb, hr, hml, hts0, hown, hlocks, hin, hK, hlo, hZ⟩ := hF
  have hts : ∀ w ∈ tbg, w.before args s = true := fun w h => hts0 w (List.mem_cons_of_mem _ h)
  have hl1 := hD1.1
  refine gs (pc' := 1) (fun _ _ _ _ _ hl => lv_aload_n hx hb d_Na_setScaled_0 rfl (lv_at hl 0 rfl)) ?_
  refine gs (pc' := 2) (fun _ _ _ _ _ hl => lv_aload_n hx hb d_Na_setScaled_1 rfl (lv_at hl 1 rfl)) ?_
  refine g_get hx hb hts hin_Na hown hK hh1 rfl 1 (by decide) (hts _ wm75) (fun _ h9 => h9) rfl d_Na_setScaled_2 ?_
  refine gs (pc' := 6) (fun _ _ _ _ _ hl => lv_iconst (v := nI 1) hx hb d_Na_setScaled_5 (by decide)) ?_
  refine gs (pc' := 7) (fun _ _ _ _ _ hl => lv_iadd hx hb d_Na_setScaled_6) ?_
  refine g_eqi (show (nI z1) + (nI 1) = nI (z1 + 1) from nI_add _ _) ?_
  refine g_outv hlo (g_runV (As := [.int (nI (z1 + 1))]) (rest := []) ⟨hx, hb, hml, hown, hts⟩ hK hZ hRc hRs (c_Na_grow l D cA lo MC MS G B t h a cap (z1 + 1) zv f hh ha (by omega) (by omega) (by omega) (by omega) hB1 hB2) (fun _ _ => cwV 1 hts (tb_good (tb_cons wm188 (tb_cons wm189 (tb_cons wm190 (tb_cons wm5 k_Na_grow))))) rfl rfl rfl (by decide +kernel) ⟨by rw [hRf]; exact Nat.le_of_ble_eq_true rfl, by rw [hRl]; exact Nat.le_of_ble_eq_true rfl⟩) hh rfl hB1 hB2 rfl (Nat.le_of_ble_eq_true rfl) d_Na_setScaled_7) (fun G_1 B_2 p_3 => ?_)
  obtain ⟨a_4, g_5, e_6, e_7, e_8, e_9, e_10, e_11⟩ := p_3
  have e_10 : B_2.1 + cap ≤ B.1 + gcap cap (z1 + 1) := e_10
  have e_11 : B_2.2 + 2 * cap ≤ B.2 + 2 * gcap cap (z1 + 1) := e_11
  have gg_12 := gcap_ge cap (z1 + 1)
  have gg_13 : gcap cap (z1 + 1) ≤ 2 * 50000 := gcap_le (by omega) (by omega)
  have f_14 : G_1 h1 = some (t1, .inr (4, [.ref a1, .int (nI z1)])) := e_9 _ _ hh1 hn1
  have f_15 : G_1 a1 = some (t1, .inl (cA 0, cap1, .inl f1)) := e_9 _ _ ha1 hn1
  refine gs (pc' := 11) (fun _ _ _ _ _ hl => lv_lconst (v := lN 0) hx hb d_Na_setScaled_10 (by decide)) ?_
  refine gst (pc' := 12) (L' := [(3, .long (lN 0)), (0, .ref h), (1, .ref h1), (2, .int (nI sc))]) (fun _ _ _ _ _ hl => lv_lstore_n hx hb d_Na_setScaled_11 rfl hl (by decide) rfl) ?_
  refine gs (pc' := 13) (fun _ _ _ _ _ hl => lv_iconst (v := nI 0) hx hb d_Na_setScaled_12 (by decide)) ?_
  refine gst (pc' := 15) (L' := [(5, .int (nI 0)), (3, .long (lN 0)), (0, .ref h), (1, .ref h1), (2, .int (nI sc))]) (fun _ _ _ _ _ hl => lv_istore hx hb d_Na_setScaled_13 hl (by decide) rfl) ?_
  refine gsub [0, 1, 2, 3, 4] rfl ?_
  have loop : ∀ (n i c0 : Nat) (g : Nat → Int32) (Gk : gT), (i + n = z1) → (c0 < 1000000000) → (lim g i) → (dv (df g) i + c0 * 1000000000 ^ i = dv (df f1) i * sc) → (gfr (fun x => x = t) G Gk) → Gk h = some (t, .inr (4, [.ref a_4, .int zv])) → Gk a_4 = some (t, .inl (cA 0, (gcap cap (z1 + 1)), .inl g)) → Gk h1 = some (t1, .inr (4, [.ref a1, .int (nI z1)])) → Gk a1 = some (t1, .inl (cA 0, cap1, .inl f1)) → gV p l e R s m args below meth c D clS lo 8 Q 15 [(5, .int (nI i)), (3, .long (lN c0)), (0, .ref h), (1, .ref h1), (2, .int (nI sc))] [] Gk B_2 := by
    intro n
    induction n with
    | zero =>
      intro i c0 g Gk hi hc0 hg hv hfr k1 k2 k3 k4
      have hiM : z1 = i := by omega
      subst hiM
      rw [hD1.2.2] at hv
      refine gs (pc' := 17) (fun _ _ _ _ _ hl => lv_iload hx hb d_Na_setScaled_15 (lv_at hl 0 rfl)) ?_
      refine gs (pc' := 18) (fun _ _ _ _ _ hl => lv_aload_n hx hb d_Na_setScaled_17 rfl (lv_at hl 3 rfl)) ?_
      refine g_get hx hb hts hin_Na hown hK k3 rfl 1 (by decide) (hts _ wm75) (fun _ h9 => h9) rfl d_Na_setScaled_18 ?_
      refine gsb (pc1 := 68) (pc2 := 24) (fun _ _ _ _ _ => lv_icmp_ge (tgt := 68) hx hb d_Na_setScaled_21 (by decide)) (fun c_16 => ?_) (fun c_16 => ?_)
      · skip
        have nc_16 : z1 ≥ z1 := (nn_ge (a := z1) (b := z1) (by omega) (by omega)).1 c_16
        refine gs (pc' := 69) (fun _ _ _ _ _ hl => lv_aload_n hx hb d_Na_setScaled_68 rfl (lv_at hl 2 rfl)) ?_
        refine g_get hx hb hts hin_Na hown hK k1 rfl 0 (by decide) (hts _ wm72) (fun _ h9 => h9) rfl d_Na_setScaled_69 ?_
        refine gs (pc' := 73) (fun _ _ _ _ _ hl => lv_aload_n hx hb d_Na_setScaled_72 rfl (lv_at hl 3 rfl)) ?_
        refine g_get hx hb hts hin_Na hown hK k3 rfl 1 (by decide) (hts _ wm75) (fun _ h9 => h9) rfl d_Na_setScaled_73 ?_
        refine gs (pc' := 77) (fun _ _ _ _ _ hl => lv_lload_n hx hb d_Na_setScaled_76 rfl (lv_at hl 1 rfl)) ?_
        refine gs (pc' := 78) (fun _ _ _ _ _ hl => lv_l2i (v := nI c0) hx hb d_Na_setScaled_77 (lN_i _)) ?_
        refine g_iast hx hb hK 0 k2 rfl (show vp_in (nI z1) (gcap cap (z1 + 1)) from vp_in_nI (by omega) (by omega)) d_Na_setScaled_78 (fun G_17 f_18 o_19 => ?_)
        rw [nI_clamp (by omega)] at f_18
        have f_20 : G_17 h = some (t, .inr (4, [.ref a_4, .int zv])) := (o_19 _ (gne k1 k2 (fun e => by cases e))).trans k1
        have f_21 : G_17 h1 = some (t1, .inr (4, [.ref a1, .int (nI z1)])) := (o_19 _ (gne k3 k2 (fun e => by cases e))).trans k3
        have f_22 : G_17 a1 = some (t1, .inl (cA 0, cap1, .inl f1)) := (o_19 _ (gne k4 k2 (fun e => hn1 (congrArg Prod.fst e)))).trans k4
        have w_23 : gfr (fun x => x = t) G G_17 := gfr_put hfr k2 rfl o_19
        refine gs (pc' := 80) (fun _ _ _ _ _ hl => lv_aload_n hx hb d_Na_setScaled_79 rfl (lv_at hl 2 rfl)) ?_
        refine gs (pc' := 81) (fun _ _ _ _ _ hl => lv_aload_n hx hb d_Na_setScaled_80 rfl (lv_at hl 3 rfl)) ?_
        refine g_get hx hb hts hin_Na hown hK f_21 rfl 1 (by decide) (hts _ wm75) (fun _ h9 => h9) rfl d_Na_setScaled_81 ?_
        refine gs (pc' := 85) (fun _ _ _ _ _ hl => lv_iconst (v := nI 1) hx hb d_Na_setScaled_84 (by decide)) ?_
        refine gs (pc' := 86) (fun _ _ _ _ _ hl => lv_iadd hx hb d_Na_setScaled_85) ?_
        refine g_eqi (show (nI z1) + (nI 1) = nI (z1 + 1) from nI_add _ _) ?_
        refine g_put (ty := .int) hx hb hts hin_Na ty_Na ty_Na_ok nm_Na hown hK f_20 rfl 1 (by decide) (hts _ wm75) (fun _ h9 => h9) rfl (by decide +kernel) rfl rfl (Nat.le_of_ble_eq_true rfl) d_Na_setScaled_86 (fun G_24 f_25 o_26 => ?_)
        have f_27 : G_24 h = some (t, .inr (4, [.ref a_4, .int (nI (z1 + 1))])) := f_25
        have f_28 : G_24 h1 = some (t1, .inr (4, [.ref a1, .int (nI z1)])) := (o_26 _ (gne f_21 f_20 (fun e => hn1 (congrArg Prod.fst e)))).trans f_21
        have f_29 : G_24 a1 = some (t1, .inl (cA 0, cap1, .inl f1)) := (o_26 _ (gne f_22 f_20 (fun e => by cases e))).trans f_22
        have f_30 : G_24 a_4 = some (t, .inl (cA 0, (gcap cap (z1 + 1)), .inl (upd g z1 (nI c0)))) := (o_26 _ (gne f_18 f_20 (fun e => by cases e))).trans f_18
        have w_31 : gfr (fun x => x = t) G G_24 := gfr_put w_23 f_20 rfl o_26
        refine gs (pc' := 90) (fun _ _ _ _ _ hl => lv_aload_n hx hb d_Na_setScaled_89 rfl (lv_at hl 2 rfl)) ?_
        have hgl : lim (upd g z1 (nI c0)) (z1 + 1) := lim_upd_s hg hc0
        refine g_outv hlo (g_runV (As := []) (rest := []) ⟨hx, hb, hml, hown, hts⟩ hK hZ hRc hRs (c_Na_trim l D cA lo MC MS G_24 B_2 t h a_4 (z1 + 1) (gcap cap (z1 + 1)) (upd g z1 (nI c0)) f_27 f_30 (by omega) (by omega) hgl (show B_2.1 ≤ MC by omega) (show B_2.2 ≤ MS by omega)) (fun _ _ => cwV 0 hts (tb_good (tb_cons wm212 (tb_cons wm213 (tb_cons wm214 (tb_cons wm5 k_Na_trim))))) rfl rfl rfl (by decide +kernel) ⟨by rw [hRf]; exact Nat.le_of_ble_eq_true rfl, by rw [hRl]; exact Nat.le_of_ble_eq_true rfl⟩) f_27 rfl (show B_2.1 ≤ MC by omega) (show B_2.2 ≤ MS by omega) rfl (Nat.le_of_ble_eq_true rfl) d_Na_setScaled_90) (fun G_32 B_33 p_34 => ?_)
        obtain ⟨e_35, z_36, e_37, e_38, e_39, f_40, o_41⟩ := p_34
        have e_35 : B_2 = B_33 := (show B_33 = B_2 from e_35).symm
        subst e_35
        have f_42 : G_32 h1 = some (t1, .inr (4, [.ref a1, .int (nI z1)])) := (o_41 _ (gne f_28 f_27 (fun e => hn1 (congrArg Prod.fst e)))).trans f_28
        have f_43 : G_32 a1 = some (t1, .inl (cA 0, cap1, .inl f1)) := (o_41 _ (gne f_29 f_27 (fun e => by cases e))).trans f_29
        have f_44 : G_32 a_4 = some (t, .inl (cA 0, (gcap cap (z1 + 1)), .inl (upd g z1 (nI c0)))) := (o_41 _ (gne f_30 f_27 (fun e => by cases e))).trans f_30
        have hvv : dv (df (upd g z1 (nI c0))) (z1 + 1) = v1 * sc := by rw [dv_upd_s (by omega), hv]
        exact hret 93 _ _ _ d_Na_setScaled_93 (show B_2.1 ≤ MC by omega) (show B_2.2 ≤ MS by omega) ⟨a_4, z_36, _, f_40, f_44, by omega, ⟨lim_le hgl e_37, e_38, by rw [e_39]; exact hvv⟩, hgl, hvv, gfr_put w_31 f_27 rfl o_41, e_10, e_11⟩
      · skip
        have nc_16 : z1 < z1 := (nn_ge (a := z1) (b := z1) (by omega) (by omega)).2 c_16
        exact absurd nc_16 (by omega)
    | succ n ih =>
      intro i c0 g Gk hi hc0 hg hv hfr k1 k2 k3 k4
      have hdi : df f1 i < 1000000000 := (hl1 i (by omega)).2
      have hmu : df f1 i * sc ≤ 999999999 * 999999999 := Nat.mul_le_mul (by omega) (by omega)
      refine gs (pc' := 17) (fun _ _ _ _ _ hl => lv_iload hx hb d_Na_setScaled_15 (lv_at hl 0 rfl)) ?_
      refine gs (pc' := 18) (fun _ _ _ _ _ hl => lv_aload_n hx hb d_Na_setScaled_17 rfl (lv_at hl 3 rfl)) ?_
      refine g_get hx hb hts hin_Na hown hK k3 rfl 1 (by decide) (hts _ wm75) (fun _ h9 => h9) rfl d_Na_setScaled_18 ?_
      refine gsb (pc1 := 68) (pc2 := 24) (fun _ _ _ _ _ => lv_icmp_ge (tgt := 68) hx hb d_Na_setScaled_21 (by decide)) (fun c_45 => ?_) (fun c_45 => ?_)
      · skip
        have nc_45 : i ≥ z1 := (nn_ge (a := i) (b := z1) (by omega) (by omega)).1 c_45
        exact absurd nc_45 (by omega)
      · skip
        have nc_45 : i < z1 := (nn_ge (a := i) (b := z1) (by omega) (by omega)).2 c_45
        refine gs (pc' := 25) (fun _ _ _ _ _ hl => lv_aload_n hx hb d_Na_setScaled_24 rfl (lv_at hl 3 rfl)) ?_
        refine g_get hx hb hts hin_Na hown hK k3 rfl 0 (by decide) (hts _ wm72) (fun _ h9 => h9) rfl d_Na_setScaled_25 ?_
        refine gs (pc' := 30) (fun _ _ _ _ _ hl => lv_iload hx hb d_Na_setScaled_28 (lv_at hl 0 rfl)) ?_
        refine g_iald hx hb hK 0 k4 rfl (show vp_in (nI i) cap1 from vp_in_nI (by omega) (by omega)) d_Na_setScaled_30 ?_
        refine g_eqi (show f1 (nI i).toNatClampNeg = f1 i from by rw [nI_clamp (by omega)]) ?_
        have b_46 : df f1 i < 1000000000 := (hl1 i (by omega)).2
        refine g_eqi (show f1 i = nI (df f1 i) from (hl1 i (by omega)).1) ?_
        refine gs (pc' := 32) (fun _ _ _ _ _ hl => lv_i2l (v := lN (df f1 i)) hx hb d_Na_setScaled_31 (nI_l (by omega))) ?_
        refine gs (pc' := 33) (fun _ _ _ _ _ hl => lv_iload_n hx hb d_Na_setScaled_32 rfl (lv_at hl 4 rfl)) ?_
        refine gs (pc' := 34) (fun _ _ _ _ _ hl => lv_i2l (v := lN sc) hx hb d_Na_setScaled_33 (nI_l (by omega))) ?_
        refine gs (pc' := 35) (fun _ _ _ _ _ hl => lv_lmul hx hb d_Na_setScaled_34) ?_
        refine g_eql (show (lN (df f1 i)) * (lN sc) = lN ((df f1 i) * sc) from lN_mul _ _) ?_
        refine gs (pc' := 36) (fun _ _ _ _ _ hl => lv_lload_n hx hb d_Na_setScaled_35 rfl (lv_at hl 1 rfl)) ?_
        refine gs (pc' := 37) (fun _ _ _ _ _ hl => lv_ladd hx hb d_Na_setScaled_36) ?_
        refine g_eql (show (lN ((df f1 i) * sc)) + (lN c0) = lN (((df f1 i) * sc) + c0) from lN_add _ _) ?_
        refine gst (pc' := 39) (L' := [(6, .long (lN (((df f1 i) * sc) + c0))), (5, .int (nI i)), (3, .long (lN c0)), (0, .ref h), (1, .ref h1), (2, .int (nI sc))]) (fun _ _ _ _ _ hl => lv_lstore hx hb d_Na_setScaled_37 hl (by decide) rfl) ?_
        refine gs (pc' := 41) (fun _ _ _ _ _ hl => lv_lload hx hb d_Na_setScaled_39 (lv_at hl 0 rfl)) ?_
        refine gs (pc' := 44) (fun _ _ _ _ _ hl => lv_ldc2 (v := 1000000000) hx hb hown (hts _ wm208) d_Na_setScaled_41) ?_
        refine g_eql (show 1000000000 = lN 1000000000 from rfl) ?_
        refine gs (pc' := 45) (fun _ _ _ _ _ hl => lv_ldiv hx hb d_Na_setScaled_44 (by decide)) ?_
        refine g_eql (show (lN (((df f1 i) * sc) + c0)) / (lN 1000000000) = lN ((((df f1 i) * sc) + c0) / 1000000000) from pk_lDiv (by omega) (by omega) (by omega)) ?_
        refine gst (pc' := 46) (L' := [(3, .long (lN ((((df f1 i) * sc) + c0) / 1000000000))), (6, .long (lN (((df f1 i) * sc) + c0))), (5, .int (nI i)), (0, .ref h), (1, .ref h1), (2, .int (nI sc))]) (fun _ _ _ _ _ hl => lv_lstore_n hx hb d_Na_setScaled_45 rfl hl (by decide) rfl) ?_
        refine gs (pc' := 47) (fun _ _ _ _ _ hl => lv_aload_n hx hb d_Na_setScaled_46 rfl (lv_at hl 3 rfl)) ?_
        refine g_get hx hb hts hin_Na hown hK k1 rfl 0 (by decide) (hts _ wm72) (fun _ h9 => h9) rfl d_Na_setScaled_47 ?_
        refine gs (pc' := 52) (fun _ _ _ _ _ hl => lv_iload hx hb d_Na_setScaled_50 (lv_at hl 2 rfl)) ?_
        refine gs (pc' := 54) (fun _ _ _ _ _ hl => lv_lload hx hb d_Na_setScaled_52 (lv_at hl 1 rfl)) ?_
        refine gs (pc' := 55) (fun _ _ _ _ _ hl => lv_lload_n hx hb d_Na_setScaled_54 rfl (lv_at hl 0 rfl)) ?_
        refine gs (pc' := 58) (fun _ _ _ _ _ hl => lv_ldc2 (v := 1000000000) hx hb hown (hts _ wm208) d_Na_setScaled_55) ?_
        refine g_eql (show 1000000000 = lN 1000000000 from rfl) ?_
        refine gs (pc' := 59) (fun _ _ _ _ _ hl => lv_lmul hx hb d_Na_setScaled_58) ?_
        refine g_eql (show (lN ((((df f1 i) * sc) + c0) / 1000000000)) * (lN 1000000000) = lN (((((df f1 i) * sc) + c0) / 1000000000) * 1000000000) from lN_mul _ _) ?_
        refine gs (pc' := 60) (fun _ _ _ _ _ hl => lv_lsub hx hb d_Na_setScaled_59) ?_
        refine g_eql (show (lN (((df f1 i) * sc) + c0)) - (lN (((((df f1 i) * sc) + c0) / 1000000000) * 1000000000)) = lN ((((df f1 i) * sc) + c0) - (((((df f1 i) * sc) + c0) / 1000000000) * 1000000000)) from lN_sub (by omega)) ?_
        refine gs (pc' := 61) (fun _ _ _ _ _ hl => lv_l2i (v := nI ((((df f1 i) * sc) + c0) - (((((df f1 i) * sc) + c0) / 1000000000) * 1000000000))) hx hb d_Na_setScaled_60 (lN_i _)) ?_
        refine g_iast hx hb hK 0 k2 rfl (show vp_in (nI i) (gcap cap (z1 + 1)) from vp_in_nI (by omega) (by omega)) d_Na_setScaled_61 (fun G_47 f_48 o_49 => ?_)
        rw [nI_clamp (by omega)] at f_48
        have f_50 : G_47 h = some (t, .inr (4, [.ref a_4, .int zv])) := (o_49 _ (gne k1 k2 (fun e => by cases e))).trans k1
        have f_51 : G_47 h1 = some (t1, .inr (4, [.ref a1, .int (nI z1)])) := (o_49 _ (gne k3 k2 (fun e => by cases e))).trans k3
        have f_52 : G_47 a1 = some (t1, .inl (cA 0, cap1, .inl f1)) := (o_49 _ (gne k4 k2 (fun e => hn1 (congrArg Prod.fst e)))).trans k4
        refine gst (pc' := 65) (L' := [(5, .int (nI (i + 1))), (3, .long (lN ((((df f1 i) * sc) + c0) / 1000000000))), (6, .long (lN (((df f1 i) * sc) + c0))), (0, .ref h), (1, .ref h1), (2, .int (nI sc))]) (fun _ _ _ _ _ hl => lv_iinc (v := nI (i + 1)) hx hb d_Na_setScaled_62 hl (k := 2) rfl (nI_add _ 1) (by decide) rfl) ?_
        refine gs (pc' := 15) (fun _ _ _ _ _ hl => lv_goto (tgt := 15) hx hb d_Na_setScaled_65 (by decide)) ?_
        refine gsub [0, 1, 3, 4, 5] rfl ?_
        exact ih (i + 1) ((((df f1 i) * sc) + c0) / 1000000000) (upd g i (nI ((((df f1 i) * sc) + c0) - (((((df f1 i) * sc) + c0) / 1000000000) * 1000000000)))) G_47 (by omega) (by omega) (lim_upd_s hg (by omega)) (by rw [dv_upd_s (by omega), dv_s]; exact st_mul hv (by omega)) (gfr_put hfr k2 rfl o_49) f_50 f_48 f_51 f_52
  exact loop z1 0 0 g_5 G_1 (by omega) (by omega) (fun i hi => absurd hi (Nat.not_lt_zero i)) (by simp [dv_0]) e_9 e_6 e_7 f_14 f_15
