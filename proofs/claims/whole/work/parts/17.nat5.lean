set_option maxHeartbeats 4000000 in
set_option maxRecDepth 100000 in
/-- setProduct -/
theorem c_Na_setProduct (l : Launch) (D : va_G) (cA : Nat → ClassId) (lo MC MS : Nat) (G : gT) (B : Nat × Nat) (t h a cap : Nat) (zv : Int32) (f : Nat → Int32) (hh : G h = some (t, .inr (4, [.ref a, .int zv]))) (ha : G a = some (t, .inl (cA 0, cap, .inl f))) (hc : cap ≤ 50000) (t1 h1 a1 z1 cap1 : Nat) (f1 : Nat → Int32) (hh1 : G h1 = some (t1, .inr (4, [.ref a1, .int (nI z1)]))) (ha1 : G a1 = some (t1, .inl (cA 0, cap1, .inl f1))) (hz1 : z1 ≤ cap1) (hc1 : cap1 ≤ 50000) (t2 h2 a2 z2 cap2 : Nat) (f2 : Nat → Int32) (hh2 : G h2 = some (t2, .inr (4, [.ref a2, .int (nI z2)]))) (ha2 : G a2 = some (t2, .inl (cA 0, cap2, .inl f2))) (hz2 : z2 ≤ cap2) (hc2 : cap2 ≤ 50000) (v1 v2 : Nat) (hn1 : ¬ t1 = t) (hn2 : ¬ t2 = t) (hD1 : isD f1 z1 v1) (hD2 : isD f2 z2 v2) (hC : B.1 + (gcap cap (z1 + z2) - cap) ≤ MC) (hS : B.2 + 2 * (gcap cap (z1 + z2) - cap) ≤ MS) (hK12 : z1 + z2 ≤ 50000) (hB1 : B.1 ≤ MC) (hB2 : B.2 ≤ MS) : gMet l y_Na_setProduct w_Na_setProduct 4 105 D clS (gtys cA) lo MC MS [.ref h, .ref h1, .ref h2] G B (gQv D clS lo (nres cA G B t h cap (z1 + z2) (v1 * v2))) := by
  refine g_metv (cc := prog_6_method_17_code) (nL := 11) (L := [(0, .ref h), (1, .ref h1), (2, .ref h2)]) (by decide +kernel) rfl (Nat.le_of_ble_eq_true rfl) rfl ?_
  intro p e R s m args below meth c Q hF hRc hRs hRf hRl hret
  obtain ⟨hx, hb, hr, hml, hts0, hown, hlocks, hin, hK, hlo, hZ⟩ := hF
  have hts : ∀ w ∈ tbg, w.before args s = true := fun w h => hts0 w (List.mem_cons_of_mem _ h)
  have hl1 := hD1.1
  have hl2 := hD2.1
  refine gs (pc' := 1) (fun _ _ _ _ _ hl => lv_aload_n hx hb d_Na_setProduct_0 rfl (lv_at hl 0 rfl)) ?_
  refine gs (pc' := 2) (fun _ _ _ _ _ hl => lv_iconst (v := nI 0) hx hb d_Na_setProduct_1 (by decide)) ?_
  refine g_put (ty := .int) hx hb hts hin_Na ty_Na ty_Na_ok nm_Na hown hK hh rfl 1 (by decide) (hts _ wm75) (fun _ h9 => h9) rfl (by decide +kernel) rfl rfl (Nat.le_of_ble_eq_true rfl) d_Na_setProduct_2 (fun G_1 f_2 o_3 => ?_)
  have f_4 : G_1 h = some (t, .inr (4, [.ref a, .int (nI 0)])) := f_2
  have f_5 : G_1 a = some (t, .inl (cA 0, cap, .inl f)) := (o_3 _ (gne ha hh (fun e => by cases e))).trans ha
  have f_6 : G_1 h1 = some (t1, .inr (4, [.ref a1, .int (nI z1)])) := (o_3 _ (gne hh1 hh (fun e => hn1 (congrArg Prod.fst e)))).trans hh1
  have f_7 : G_1 a1 = some (t1, .inl (cA 0, cap1, .inl f1)) := (o_3 _ (gne ha1 hh (fun e => by cases e))).trans ha1
  have f_8 : G_1 h2 = some (t2, .inr (4, [.ref a2, .int (nI z2)])) := (o_3 _ (gne hh2 hh (fun e => hn2 (congrArg Prod.fst e)))).trans hh2
  have f_9 : G_1 a2 = some (t2, .inl (cA 0, cap2, .inl f2)) := (o_3 _ (gne ha2 hh (fun e => by cases e))).trans ha2
  have hfr0 : gfr (fun x => x = t) G G_1 := gfr_put gfr_rf hh rfl o_3
  refine gs (pc' := 6) (fun _ _ _ _ _ hl => lv_aload_n hx hb d_Na_setProduct_5 rfl (lv_at hl 0 rfl)) ?_
  refine gs (pc' := 7) (fun _ _ _ _ _ hl => lv_aload_n hx hb d_Na_setProduct_6 rfl (lv_at hl 1 rfl)) ?_
  refine g_get hx hb hts hin_Na hown hK f_6 rfl 1 (by decide) (hts _ wm75) (fun _ h9 => h9) rfl d_Na_setProduct_7 ?_
  refine gs (pc' := 11) (fun _ _ _ _ _ hl => lv_aload_n hx hb d_Na_setProduct_10 rfl (lv_at hl 2 rfl)) ?_
  refine g_get hx hb hts hin_Na hown hK f_8 rfl 1 (by decide) (hts _ wm75) (fun _ h9 => h9) rfl d_Na_setProduct_11 ?_
  refine gs (pc' := 15) (fun _ _ _ _ _ hl => lv_iadd hx hb d_Na_setProduct_14) ?_
  refine g_eqi (show (nI z1) + (nI z2) = nI (z1 + z2) from nI_add _ _) ?_
  refine g_outv hlo (g_runV (As := [.int (nI (z1 + z2))]) (rest := []) ⟨hx, hb, hml, hown, hts⟩ hK hZ hRc hRs (c_Na_widen l D cA lo MC MS G_1 B t h a 0 cap f f_4 f_5 (by omega) (by omega) (z1 + z2) (by omega) (by omega) (by omega) (by omega) hB1 hB2) (fun _ _ => cwV 1 hts (tb_good (tb_cons wm567 (tb_cons wm438 (tb_cons wm439 (tb_cons wm5 k_Na_widen))))) rfl rfl rfl (by decide +kernel) ⟨by rw [hRf]; exact Nat.le_of_ble_eq_true rfl, by rw [hRl]; exact Nat.le_of_ble_eq_true rfl⟩) f_4 rfl hB1 hB2 rfl (Nat.le_of_ble_eq_true rfl) d_Na_setProduct_15) (fun G_10 B_11 p_12 => ?_)
  obtain ⟨a_13, g_14, e_15, e_16, e_17, e_18, e_19, e_20, e_21⟩ := p_12
  have e_20 : B_11.1 + cap ≤ B.1 + gcap cap (z1 + z2) := e_20
  have e_21 : B_11.2 + 2 * cap ≤ B.2 + 2 * gcap cap (z1 + z2) := e_21
  have gg_22 := gcap_ge cap (z1 + z2)
  have gg_23 : gcap cap (z1 + z2) ≤ 2 * 50000 := gcap_le (by omega) (by omega)
  have f_24 : G_10 h1 = some (t1, .inr (4, [.ref a1, .int (nI z1)])) := e_19 _ _ f_6 hn1
  have f_25 : G_10 a1 = some (t1, .inl (cA 0, cap1, .inl f1)) := e_19 _ _ f_7 hn1
  have f_26 : G_10 h2 = some (t2, .inr (4, [.ref a2, .int (nI z2)])) := e_19 _ _ f_8 hn2
  have f_27 : G_10 a2 = some (t2, .inl (cA 0, cap2, .inl f2)) := e_19 _ _ f_9 hn2
  refine gs (pc' := 19) (fun _ _ _ _ _ hl => lv_iconst (v := nI 0) hx hb d_Na_setProduct_18 (by decide)) ?_
  refine gst (pc' := 20) (L' := [(3, .int (nI 0)), (0, .ref h), (1, .ref h1), (2, .ref h2)]) (fun _ _ _ _ _ hl => lv_istore_n hx hb d_Na_setProduct_19 rfl hl (by decide) rfl) ?_
  refine gsub [0, 1, 2, 3] rfl ?_
  have hfr1 : gfr (fun x => x = t) G G_10 := gfr_mono (gfr_tr hfr0 e_19) (fun _ h => h.elim id id)
  have loop : ∀ (n i : Nat) (g : Nat → Int32) (Gk : gT), (i + n = z1) → (lim g (z1 + z2)) → (dv (df g) (i + z2) = dv (df f1) i * v2) → (∀ x, i + z2 ≤ x → x < z1 + z2 → df g x = 0) → (gfr (fun x => x = t) G Gk) → Gk h = some (t, .inr (4, [.ref a_13, .int (nI (z1 + z2))])) → Gk a_13 = some (t, .inl (cA 0, (gcap cap (z1 + z2)), .inl g)) → Gk h1 = some (t1, .inr (4, [.ref a1, .int (nI z1)])) → Gk a1 = some (t1, .inl (cA 0, cap1, .inl f1)) → Gk h2 = some (t2, .inr (4, [.ref a2, .int (nI z2)])) → Gk a2 = some (t2, .inl (cA 0, cap2, .inl f2)) → gV p l e R s m args below meth c D clS lo 11 Q 20 [(3, .int (nI i)), (0, .ref h), (1, .ref h1), (2, .ref h2)] [] Gk B_11 := by
    intro n
    induction n with
    | zero =>
      intro i g Gk hi hg hv hzr hfr k1 k2 k3 k4 k5 k6
      have hiM : z1 = i := by omega
      subst hiM
      refine gs (pc' := 21) (fun _ _ _ _ _ hl => lv_iload_n hx hb d_Na_setProduct_20 rfl (lv_at hl 0 rfl)) ?_
      refine gs (pc' := 22) (fun _ _ _ _ _ hl => lv_aload_n hx hb d_Na_setProduct_21 rfl (lv_at hl 2 rfl)) ?_
      refine g_get hx hb hts hin_Na hown hK k3 rfl 1 (by decide) (hts _ wm75) (fun _ h9 => h9) rfl d_Na_setProduct_22 ?_
      refine gsb (pc1 := 132) (pc2 := 28) (fun _ _ _ _ _ => lv_icmp_ge (tgt := 132) hx hb d_Na_setProduct_25 (by decide)) (fun c_28 => ?_) (fun c_28 => ?_)
      · skip
        have nc_28 : z1 ≥ z1 := (nn_ge (a := z1) (b := z1) (by omega) (by omega)).1 c_28
        refine gs (pc' := 133) (fun _ _ _ _ _ hl => lv_aload_n hx hb d_Na_setProduct_132 rfl (lv_at hl 1 rfl)) ?_
        refine g_outv hlo (g_runV (As := []) (rest := []) ⟨hx, hb, hml, hown, hts⟩ hK hZ hRc hRs (c_Na_trim l D cA lo MC MS Gk B_11 t h a_13 (z1 + z2) (gcap cap (z1 + z2)) g k1 k2 (by omega) (by omega) hg (show B_11.1 ≤ MC by omega) (show B_11.2 ≤ MS by omega)) (fun _ _ => cwV 0 hts (tb_good (tb_cons wm212 (tb_cons wm213 (tb_cons wm214 (tb_cons wm5 k_Na_trim))))) rfl rfl rfl (by decide +kernel) ⟨by rw [hRf]; exact Nat.le_of_ble_eq_true rfl, by rw [hRl]; exact Nat.le_of_ble_eq_true rfl⟩) k1 rfl (show B_11.1 ≤ MC by omega) (show B_11.2 ≤ MS by omega) rfl (Nat.le_of_ble_eq_true rfl) d_Na_setProduct_133) (fun G_29 B_30 p_31 => ?_)
        obtain ⟨e_32, z_33, e_34, e_35, e_36, f_37, o_38⟩ := p_31
        have e_32 : B_11 = B_30 := (show B_30 = B_11 from e_32).symm
        subst e_32
        have f_39 : G_29 a_13 = some (t, .inl (cA 0, (gcap cap (z1 + z2)), .inl g)) := (o_38 _ (gne k2 k1 (fun e => by cases e))).trans k2
        have f_40 : G_29 h1 = some (t1, .inr (4, [.ref a1, .int (nI z1)])) := (o_38 _ (gne k3 k1 (fun e => hn1 (congrArg Prod.fst e)))).trans k3
        have f_41 : G_29 a1 = some (t1, .inl (cA 0, cap1, .inl f1)) := (o_38 _ (gne k4 k1 (fun e => by cases e))).trans k4
        have f_42 : G_29 h2 = some (t2, .inr (4, [.ref a2, .int (nI z2)])) := (o_38 _ (gne k5 k1 (fun e => hn2 (congrArg Prod.fst e)))).trans k5
        have f_43 : G_29 a2 = some (t2, .inl (cA 0, cap2, .inl f2)) := (o_38 _ (gne k6 k1 (fun e => by cases e))).trans k6
        exact hret 136 _ _ _ d_Na_setProduct_136 (show B_11.1 ≤ MC by omega) (show B_11.2 ≤ MS by omega) ⟨a_13, z_33, _, f_37, f_39, by omega, ⟨lim_le hg e_34, e_35, by rw [e_36, hv, hD1.2.2]⟩, gfr_put hfr k1 rfl o_38, e_20, e_21⟩
      · skip
        have nc_28 : z1 < z1 := (nn_ge (a := z1) (b := z1) (by omega) (by omega)).2 c_28
        exact absurd nc_28 (by omega)
    | succ n ih =>
      intro i g Gk hi hg hv hzr hfr k1 k2 k3 k4 k5 k6
      refine gs (pc' := 21) (fun _ _ _ _ _ hl => lv_iload_n hx hb d_Na_setProduct_20 rfl (lv_at hl 0 rfl)) ?_
      refine gs (pc' := 22) (fun _ _ _ _ _ hl => lv_aload_n hx hb d_Na_setProduct_21 rfl (lv_at hl 2 rfl)) ?_
      refine g_get hx hb hts hin_Na hown hK k3 rfl 1 (by decide) (hts _ wm75) (fun _ h9 => h9) rfl d_Na_setProduct_22 ?_
      refine gsb (pc1 := 132) (pc2 := 28) (fun _ _ _ _ _ => lv_icmp_ge (tgt := 132) hx hb d_Na_setProduct_25 (by decide)) (fun c_44 => ?_) (fun c_44 => ?_)
      · skip
        have nc_44 : i ≥ z1 := (nn_ge (a := i) (b := z1) (by omega) (by omega)).1 c_44
        exact absurd nc_44 (by omega)
      · skip
        have nc_44 : i < z1 := (nn_ge (a := i) (b := z1) (by omega) (by omega)).2 c_44
        refine gs (pc' := 29) (fun _ _ _ _ _ hl => lv_aload_n hx hb d_Na_setProduct_28 rfl (lv_at hl 2 rfl)) ?_
        refine g_get hx hb hts hin_Na hown hK k3 rfl 0 (by decide) (hts _ wm72) (fun _ h9 => h9) rfl d_Na_setProduct_29 ?_
        refine gs (pc' := 33) (fun _ _ _ _ _ hl => lv_iload_n hx hb d_Na_setProduct_32 rfl (lv_at hl 0 rfl)) ?_
        refine g_iald hx hb hK 0 k4 rfl (show vp_in (nI i) cap1 from vp_in_nI (by omega) (by omega)) d_Na_setProduct_33 ?_
        refine g_eqi (show f1 (nI i).toNatClampNeg = f1 i from by rw [nI_clamp (by omega)]) ?_
        have b_45 : df f1 i < 1000000000 := (hl1 i (by omega)).2
        refine g_eqi (show f1 i = nI (df f1 i) from (hl1 i (by omega)).1) ?_
        refine gs (pc' := 35) (fun _ _ _ _ _ hl => lv_i2l (v := lN (df f1 i)) hx hb d_Na_setProduct_34 (nI_l (by omega))) ?_
        refine gst (pc' := 37) (L' := [(4, .long (lN (df f1 i))), (3, .int (nI i)), (0, .ref h), (1, .ref h1), (2, .ref h2)]) (fun _ _ _ _ _ hl => lv_lstore hx hb d_Na_setProduct_35 hl (by decide) rfl) ?_
        refine gs (pc' := 38) (fun _ _ _ _ _ hl => lv_lconst (v := lN 0) hx hb d_Na_setProduct_37 (by decide)) ?_
        refine gst (pc' := 40) (L' := [(6, .long (lN 0)), (4, .long (lN (df f1 i))), (3, .int (nI i)), (0, .ref h), (1, .ref h1), (2, .ref h2)]) (fun _ _ _ _ _ hl => lv_lstore hx hb d_Na_setProduct_38 hl (by decide) rfl) ?_
        refine gs (pc' := 41) (fun _ _ _ _ _ hl => lv_iconst (v := nI 0) hx hb d_Na_setProduct_40 (by decide)) ?_
        refine gst (pc' := 43) (L' := [(8, .int (nI 0)), (6, .long (lN 0)), (4, .long (lN (df f1 i))), (3, .int (nI i)), (0, .ref h), (1, .ref h1), (2, .ref h2)]) (fun _ _ _ _ _ hl => lv_istore hx hb d_Na_setProduct_41 hl (by decide) rfl) ?_
        refine gsub [0, 1, 2, 3, 4, 5, 6] rfl ?_
        have inner : ∀ (n2 j c0 : Nat) (g1 : Nat → Int32) (Gm : gT), (j + n2 = z2) → (c0 < 1000000000) → (lim g1 (z1 + z2)) → (dv (df g1) (i + j) + c0 * 1000000000 ^ (i + j) = dv (df g) (i + j) + df f1 i * dv (df f2) j * 1000000000 ^ i) → (∀ x, i + j ≤ x → x < z1 + z2 → df g1 x = df g x) → (gfr (fun x => x = t) G Gm) → Gm h = some (t, .inr (4, [.ref a_13, .int (nI (z1 + z2))])) → Gm a_13 = some (t, .inl (cA 0, (gcap cap (z1 + z2)), .inl g1)) → Gm h1 = some (t1, .inr (4, [.ref a1, .int (nI z1)])) → Gm a1 = some (t1, .inl (cA 0, cap1, .inl f1)) → Gm h2 = some (t2, .inr (4, [.ref a2, .int (nI z2)])) → Gm a2 = some (t2, .inl (cA 0, cap2, .inl f2)) → gV p l e R s m args below meth c D clS lo 11 Q 43 [(8, .int (nI j)), (6, .long (lN c0)), (4, .long (lN (df f1 i))), (3, .int (nI i)), (0, .ref h), (1, .ref h1), (2, .ref h2)] [] Gm B_11 := by
          intro n2
          induction n2 with
          | zero =>
            intro j c0 g1 Gm hj hc0 hg1 hin hrest hfr2 m1 m2 m3 m4 m5 m6
            have hjM : z2 = j := by omega
            subst hjM
            refine gs (pc' := 45) (fun _ _ _ _ _ hl => lv_iload hx hb d_Na_setProduct_43 (lv_at hl 0 rfl)) ?_
            refine gs (pc' := 46) (fun _ _ _ _ _ hl => lv_aload_n hx hb d_Na_setProduct_45 rfl (lv_at hl 6 rfl)) ?_
            refine g_get hx hb hts hin_Na hown hK m5 rfl 1 (by decide) (hts _ wm75) (fun _ h9 => h9) rfl d_Na_setProduct_46 ?_
            refine gsb (pc1 := 112) (pc2 := 52) (fun _ _ _ _ _ => lv_icmp_ge (tgt := 112) hx hb d_Na_setProduct_49 (by decide)) (fun c_46 => ?_) (fun c_46 => ?_)
            · skip
              have nc_46 : z2 ≥ z2 := (nn_ge (a := z2) (b := z2) (by omega) (by omega)).1 c_46
              refine gs (pc' := 113) (fun _ _ _ _ _ hl => lv_aload_n hx hb d_Na_setProduct_112 rfl (lv_at hl 4 rfl)) ?_
              refine g_get hx hb hts hin_Na hown hK m1 rfl 0 (by decide) (hts _ wm72) (fun _ h9 => h9) rfl d_Na_setProduct_113 ?_
              refine gs (pc' := 117) (fun _ _ _ _ _ hl => lv_iload_n hx hb d_Na_setProduct_116 rfl (lv_at hl 3 rfl)) ?_
              refine gs (pc' := 118) (fun _ _ _ _ _ hl => lv_aload_n hx hb d_Na_setProduct_117 rfl (lv_at hl 6 rfl)) ?_
              refine g_get hx hb hts hin_Na hown hK m5 rfl 1 (by decide) (hts _ wm75) (fun _ h9 => h9) rfl d_Na_setProduct_118 ?_
              refine gs (pc' := 122) (fun _ _ _ _ _ hl => lv_iadd hx hb d_Na_setProduct_121) ?_
              refine g_eqi (show (nI i) + (nI z2) = nI (i + z2) from nI_add _ _) ?_
              refine gs (pc' := 124) (fun _ _ _ _ _ hl => lv_lload hx hb d_Na_setProduct_122 (lv_at hl 1 rfl)) ?_
              refine gs (pc' := 125) (fun _ _ _ _ _ hl => lv_l2i (v := nI c0) hx hb d_Na_setProduct_124 (lN_i _)) ?_
              refine g_iast hx hb hK 0 m2 rfl (show vp_in (nI (i + z2)) (gcap cap (z1 + z2)) from vp_in_nI (by omega) (by omega)) d_Na_setProduct_125 (fun G_47 f_48 o_49 => ?_)
              rw [nI_clamp (by omega)] at f_48
              have f_50 : G_47 h = some (t, .inr (4, [.ref a_13, .int (nI (z1 + z2))])) := (o_49 _ (gne m1 m2 (fun e => by cases e))).trans m1
              have f_51 : G_47 h1 = some (t1, .inr (4, [.ref a1, .int (nI z1)])) := (o_49 _ (gne m3 m2 (fun e => by cases e))).trans m3
              have f_52 : G_47 a1 = some (t1, .inl (cA 0, cap1, .inl f1)) := (o_49 _ (gne m4 m2 (fun e => hn1 (congrArg Prod.fst e)))).trans m4
              have f_53 : G_47 h2 = some (t2, .inr (4, [.ref a2, .int (nI z2)])) := (o_49 _ (gne m5 m2 (fun e => by cases e))).trans m5
              have f_54 : G_47 a2 = some (t2, .inl (cA 0, cap2, .inl f2)) := (o_49 _ (gne m6 m2 (fun e => hn2 (congrArg Prod.fst e)))).trans m6
              refine gst (pc' := 129) (L' := [(3, .int (nI (i + 1))), (8, .int (nI z2)), (6, .long (lN c0)), (4, .long (lN (df f1 i))), (0, .ref h), (1, .ref h1), (2, .ref h2)]) (fun _ _ _ _ _ hl => lv_iinc (v := nI (i + 1)) hx hb d_Na_setProduct_126 hl (k := 3) rfl (nI_add _ 1) (by decide) rfl) ?_
              refine gs (pc' := 20) (fun _ _ _ _ _ hl => lv_goto (tgt := 20) hx hb d_Na_setProduct_129 (by decide)) ?_
              refine gsub [0, 4, 5, 6] rfl ?_
              have hlim2 := lim_upd (k := i + z2) hg1 hc0
              exact ih (i + 1) (upd g1 (i + z2) (nI c0)) G_47 (by omega) hlim2 (by rw [show i + 1 + z2 = i + z2 + 1 by omega, dv_upd_s (by omega), hin, hv, hD2.2.2, dv_s]; grind) (fun x h1 h2 => by rw [df_un (by omega), hrest x (by omega) h2]; exact hzr x (by omega) h2) (gfr_put hfr2 m2 rfl o_49) f_50 f_48 f_51 f_52 f_53 f_54
            · skip
              have nc_46 : z2 < z2 := (nn_ge (a := z2) (b := z2) (by omega) (by omega)).2 c_46
              exact absurd nc_46 (by omega)
          | succ n2 ih2 =>
            intro j c0 g1 Gm hj hc0 hg1 hin hrest hfr2 m1 m2 m3 m4 m5 m6
            have hb1 : df f1 i < 1000000000 := (hl1 i (by omega)).2
            have hb2 : df f2 j < 1000000000 := (hl2 j (by omega)).2
            have hb3 : df g1 (i + j) < 1000000000 := (hg1 (i + j) (by omega)).2
            have hmu : df f1 i * df f2 j ≤ 999999999 * 999999999 := Nat.mul_le_mul (by omega) (by omega)
            refine gs (pc' := 45) (fun _ _ _ _ _ hl => lv_iload hx hb d_Na_setProduct_43 (lv_at hl 0 rfl)) ?_
            refine gs (pc' := 46) (fun _ _ _ _ _ hl => lv_aload_n hx hb d_Na_setProduct_45 rfl (lv_at hl 6 rfl)) ?_
            refine g_get hx hb hts hin_Na hown hK m5 rfl 1 (by decide) (hts _ wm75) (fun _ h9 => h9) rfl d_Na_setProduct_46 ?_
            refine gsb (pc1 := 112) (pc2 := 52) (fun _ _ _ _ _ => lv_icmp_ge (tgt := 112) hx hb d_Na_setProduct_49 (by decide)) (fun c_55 => ?_) (fun c_55 => ?_)
            · skip
              have nc_55 : j ≥ z2 := (nn_ge (a := j) (b := z2) (by omega) (by omega)).1 c_55
              exact absurd nc_55 (by omega)
            · skip
              have nc_55 : j < z2 := (nn_ge (a := j) (b := z2) (by omega) (by omega)).2 c_55
              refine gs (pc' := 54) (fun _ _ _ _ _ hl => lv_lload hx hb d_Na_setProduct_52 (lv_at hl 2 rfl)) ?_
              refine gs (pc' := 55) (fun _ _ _ _ _ hl => lv_aload_n hx hb d_Na_setProduct_54 rfl (lv_at hl 6 rfl)) ?_
              refine g_get hx hb hts hin_Na hown hK m5 rfl 0 (by decide) (hts _ wm72) (fun _ h9 => h9) rfl d_Na_setProduct_55 ?_
              refine gs (pc' := 60) (fun _ _ _ _ _ hl => lv_iload hx hb d_Na_setProduct_58 (lv_at hl 0 rfl)) ?_
              refine g_iald hx hb hK 0 m6 rfl (show vp_in (nI j) cap2 from vp_in_nI (by omega) (by omega)) d_Na_setProduct_60 ?_
              refine g_eqi (show f2 (nI j).toNatClampNeg = f2 j from by rw [nI_clamp (by omega)]) ?_
              have b_56 : df f2 j < 1000000000 := (hl2 j (by omega)).2
              refine g_eqi (show f2 j = nI (df f2 j) from (hl2 j (by omega)).1) ?_
              refine gs (pc' := 62) (fun _ _ _ _ _ hl => lv_i2l (v := lN (df f2 j)) hx hb d_Na_setProduct_61 (nI_l (by omega))) ?_
              refine gs (pc' := 63) (fun _ _ _ _ _ hl => lv_lmul hx hb d_Na_setProduct_62) ?_
              refine g_eql (show (lN (df f1 i)) * (lN (df f2 j)) = lN ((df f1 i) * (df f2 j)) from lN_mul _ _) ?_
              refine gs (pc' := 64) (fun _ _ _ _ _ hl => lv_aload_n hx hb d_Na_setProduct_63 rfl (lv_at hl 4 rfl)) ?_
              refine g_get hx hb hts hin_Na hown hK m1 rfl 0 (by decide) (hts _ wm72) (fun _ h9 => h9) rfl d_Na_setProduct_64 ?_
              refine gs (pc' := 68) (fun _ _ _ _ _ hl => lv_iload_n hx hb d_Na_setProduct_67 rfl (lv_at hl 3 rfl)) ?_
              refine gs (pc' := 70) (fun _ _ _ _ _ hl => lv_iload hx hb d_Na_setProduct_68 (lv_at hl 0 rfl)) ?_
              refine gs (pc' := 71) (fun _ _ _ _ _ hl => lv_iadd hx hb d_Na_setProduct_70) ?_
              refine g_eqi (show (nI i) + (nI j) = nI (i + j) from nI_add _ _) ?_
              refine g_iald hx hb hK 0 m2 rfl (show vp_in (nI (i + j)) (gcap cap (z1 + z2)) from vp_in_nI (by omega) (by omega)) d_Na_setProduct_71 ?_
              refine g_eqi (show g1 (nI (i + j)).toNatClampNeg = g1 (i + j) from by rw [nI_clamp (by omega)]) ?_
              have b_57 : df g1 (i + j) < 1000000000 := (hg1 (i + j) (by omega)).2
              refine g_eqi (show g1 (i + j) = nI (df g1 (i + j)) from (hg1 (i + j) (by omega)).1) ?_
              refine gs (pc' := 73) (fun _ _ _ _ _ hl => lv_i2l (v := lN (df g1 (i + j))) hx hb d_Na_setProduct_72 (nI_l (by omega))) ?_
              refine gs (pc' := 74) (fun _ _ _ _ _ hl => lv_ladd hx hb d_Na_setProduct_73) ?_
              refine g_eql (show (lN ((df f1 i) * (df f2 j))) + (lN (df g1 (i + j))) = lN (((df f1 i) * (df f2 j)) + (df g1 (i + j))) from lN_add _ _) ?_
              refine gs (pc' := 76) (fun _ _ _ _ _ hl => lv_lload hx hb d_Na_setProduct_74 (lv_at hl 1 rfl)) ?_
              refine gs (pc' := 77) (fun _ _ _ _ _ hl => lv_ladd hx hb d_Na_setProduct_76) ?_
              refine g_eql (show (lN (((df f1 i) * (df f2 j)) + (df g1 (i + j)))) + (lN c0) = lN ((((df f1 i) * (df f2 j)) + (df g1 (i + j))) + c0) from lN_add _ _) ?_
              refine gst (pc' := 79) (L' := [(9, .long (lN ((((df f1 i) * (df f2 j)) + (df g1 (i + j))) + c0))), (8, .int (nI j)), (6, .long (lN c0)), (4, .long (lN (df f1 i))), (3, .int (nI i)), (0, .ref h), (1, .ref h1), (2, .ref h2)]) (fun _ _ _ _ _ hl => lv_lstore hx hb d_Na_setProduct_77 hl (by decide) rfl) ?_
              refine gs (pc' := 81) (fun _ _ _ _ _ hl => lv_lload hx hb d_Na_setProduct_79 (lv_at hl 0 rfl)) ?_
              refine gs (pc' := 84) (fun _ _ _ _ _ hl => lv_ldc2 (v := 1000000000) hx hb hown (hts _ wm208) d_Na_setProduct_81) ?_
              refine g_eql (show 1000000000 = lN 1000000000 from rfl) ?_
              refine gs (pc' := 85) (fun _ _ _ _ _ hl => lv_ldiv hx hb d_Na_setProduct_84 (by decide)) ?_
              refine g_eql (show (lN ((((df f1 i) * (df f2 j)) + (df g1 (i + j))) + c0)) / (lN 1000000000) = lN (((((df f1 i) * (df f2 j)) + (df g1 (i + j))) + c0) / 1000000000) from pk_lDiv (by omega) (by omega) (by omega)) ?_
              refine gst (pc' := 87) (L' := [(6, .long (lN (((((df f1 i) * (df f2 j)) + (df g1 (i + j))) + c0) / 1000000000))), (9, .long (lN ((((df f1 i) * (df f2 j)) + (df g1 (i + j))) + c0))), (8, .int (nI j)), (4, .long (lN (df f1 i))), (3, .int (nI i)), (0, .ref h), (1, .ref h1), (2, .ref h2)]) (fun _ _ _ _ _ hl => lv_lstore hx hb d_Na_setProduct_85 hl (by decide) rfl) ?_
              refine gs (pc' := 88) (fun _ _ _ _ _ hl => lv_aload_n hx hb d_Na_setProduct_87 rfl (lv_at hl 5 rfl)) ?_
              refine g_get hx hb hts hin_Na hown hK m1 rfl 0 (by decide) (hts _ wm72) (fun _ h9 => h9) rfl d_Na_setProduct_88 ?_
              refine gs (pc' := 92) (fun _ _ _ _ _ hl => lv_iload_n hx hb d_Na_setProduct_91 rfl (lv_at hl 4 rfl)) ?_
              refine gs (pc' := 94) (fun _ _ _ _ _ hl => lv_iload hx hb d_Na_setProduct_92 (lv_at hl 2 rfl)) ?_
              refine gs (pc' := 95) (fun _ _ _ _ _ hl => lv_iadd hx hb d_Na_setProduct_94) ?_
              refine g_eqi (show (nI i) + (nI j) = nI (i + j) from nI_add _ _) ?_
              refine gs (pc' := 97) (fun _ _ _ _ _ hl => lv_lload hx hb d_Na_setProduct_95 (lv_at hl 1 rfl)) ?_
              refine gs (pc' := 99) (fun _ _ _ _ _ hl => lv_lload hx hb d_Na_setProduct_97 (lv_at hl 0 rfl)) ?_
              refine gs (pc' := 102) (fun _ _ _ _ _ hl => lv_ldc2 (v := 1000000000) hx hb hown (hts _ wm208) d_Na_setProduct_99) ?_
              refine g_eql (show 1000000000 = lN 1000000000 from rfl) ?_
              refine gs (pc' := 103) (fun _ _ _ _ _ hl => lv_lmul hx hb d_Na_setProduct_102) ?_
              refine g_eql (show (lN (((((df f1 i) * (df f2 j)) + (df g1 (i + j))) + c0) / 1000000000)) * (lN 1000000000) = lN ((((((df f1 i) * (df f2 j)) + (df g1 (i + j))) + c0) / 1000000000) * 1000000000) from lN_mul _ _) ?_
              refine gs (pc' := 104) (fun _ _ _ _ _ hl => lv_lsub hx hb d_Na_setProduct_103) ?_
              refine g_eql (show (lN ((((df f1 i) * (df f2 j)) + (df g1 (i + j))) + c0)) - (lN ((((((df f1 i) * (df f2 j)) + (df g1 (i + j))) + c0) / 1000000000) * 1000000000)) = lN (((((df f1 i) * (df f2 j)) + (df g1 (i + j))) + c0) - ((((((df f1 i) * (df f2 j)) + (df g1 (i + j))) + c0) / 1000000000) * 1000000000)) from lN_sub (by omega)) ?_
              refine gs (pc' := 105) (fun _ _ _ _ _ hl => lv_l2i (v := nI (((((df f1 i) * (df f2 j)) + (df g1 (i + j))) + c0) - ((((((df f1 i) * (df f2 j)) + (df g1 (i + j))) + c0) / 1000000000) * 1000000000))) hx hb d_Na_setProduct_104 (lN_i _)) ?_
              refine g_iast hx hb hK 0 m2 rfl (show vp_in (nI (i + j)) (gcap cap (z1 + z2)) from vp_in_nI (by omega) (by omega)) d_Na_setProduct_105 (fun G_58 f_59 o_60 => ?_)
              rw [nI_clamp (by omega)] at f_59
              have f_61 : G_58 h = some (t, .inr (4, [.ref a_13, .int (nI (z1 + z2))])) := (o_60 _ (gne m1 m2 (fun e => by cases e))).trans m1
              have f_62 : G_58 h1 = some (t1, .inr (4, [.ref a1, .int (nI z1)])) := (o_60 _ (gne m3 m2 (fun e => by cases e))).trans m3
              have f_63 : G_58 a1 = some (t1, .inl (cA 0, cap1, .inl f1)) := (o_60 _ (gne m4 m2 (fun e => hn1 (congrArg Prod.fst e)))).trans m4
              have f_64 : G_58 h2 = some (t2, .inr (4, [.ref a2, .int (nI z2)])) := (o_60 _ (gne m5 m2 (fun e => by cases e))).trans m5
              have f_65 : G_58 a2 = some (t2, .inl (cA 0, cap2, .inl f2)) := (o_60 _ (gne m6 m2 (fun e => hn2 (congrArg Prod.fst e)))).trans m6
              refine gst (pc' := 109) (L' := [(8, .int (nI (j + 1))), (6, .long (lN (((((df f1 i) * (df f2 j)) + (df g1 (i + j))) + c0) / 1000000000))), (9, .long (lN ((((df f1 i) * (df f2 j)) + (df g1 (i + j))) + c0))), (4, .long (lN (df f1 i))), (3, .int (nI i)), (0, .ref h), (1, .ref h1), (2, .ref h2)]) (fun _ _ _ _ _ hl => lv_iinc (v := nI (j + 1)) hx hb d_Na_setProduct_106 hl (k := 2) rfl (nI_add _ 1) (by decide) rfl) ?_
              refine gs (pc' := 43) (fun _ _ _ _ _ hl => lv_goto (tgt := 43) hx hb d_Na_setProduct_109 (by decide)) ?_
              refine gsub [0, 1, 3, 4, 5, 6, 7] rfl ?_
              have hq := hrest (i + j) (Nat.le_refl _) (by omega)
              exact ih2 (j + 1) (((((df f1 i) * (df f2 j)) + (df g1 (i + j))) + c0) / 1000000000) (upd g1 (i + j) (nI (((((df f1 i) * (df f2 j)) + (df g1 (i + j))) + c0) - ((((((df f1 i) * (df f2 j)) + (df g1 (i + j))) + c0) / 1000000000) * 1000000000)))) G_58 (by omega) (by omega) (lim_upd hg1 (by omega)) (by rw [show i + (j + 1) = i + j + 1 by omega, dv_upd_s (by omega), dv_s, dv_s]; exact st_prd hin (by rw [← hq]; omega)) (fun x h1 h2 => by rw [df_un (by omega)]; exact hrest x (by omega) h2) (gfr_put hfr2 m2 rfl o_60) f_61 f_59 f_62 f_63 f_64 f_65
        exact inner z2 0 0 g Gk (by omega) (by omega) hg (by simp [dv_0]) (fun _ _ _ => rfl) hfr k1 k2 k3 k4 k5 k6
  have hzz := e_18
  exact loop z1 0 g_14 G_10 (by omega) (lim_ext (n := 0) (fun i hi => absurd hi (Nat.not_lt_zero i)) hzz) (by rw [dv_ext (n := 0) (Nat.zero_le _) (fun j h1 h2 => hzz j h1 (by omega))]; simp [dv_0]) (fun x h1 h2 => by unfold df; rw [hzz x (Nat.zero_le _) h2]; rfl) hfr1 e_15 e_16 f_24 f_25 f_26 f_27
set_option maxHeartbeats 4000000 in
set_option maxRecDepth 100000 in
/-- increase -/
theorem c_Na_increase (l : Launch) (D : va_G) (cA : Nat → ClassId) (lo MC MS : Nat) (G : gT) (B : Nat × Nat) (t h a z cap : Nat) (f : Nat → Int32) (hh : G h = some (t, .inr (4, [.ref a, .int (nI z)]))) (ha : G a = some (t, .inl (cA 0, cap, .inl f))) (hz : z ≤ cap) (hc : cap ≤ 50000) (v : Nat) (hD : isD f z v) (hC : B.1 + (gcap cap (z + 1) - cap) ≤ MC) (hS : B.2 + 2 * (gcap cap (z + 1) - cap) ≤ MS) (hK1 : z + 1 ≤ 50000) (hB1 : B.1 ≤ MC) (hB2 : B.2 ≤ MS) : gMet l y_Na_increase w_Na_increase 4 105 D clS (gtys cA) lo MC MS [.ref h] G B (gQv D clS lo (nres cA G B t h cap (z + 1) (v + 1))) := by
  refine g_metv (cc := prog_6_method_19_code) (nL := 3) (L := [(0, .ref h)]) (by decide +kernel) rfl (Nat.le_of_ble_eq_true rfl) rfl ?_
  intro p e R s m args below meth c Q hF hRc hRs hRf hRl hret
  obtain ⟨hx, hb, hr, hml, hts0, hown, hlocks, hin, hK, hlo, hZ⟩ := hF
  have hts : ∀ w ∈ tbg, w.before args s = true := fun w h => hts0 w (List.mem_cons_of_mem _ h)
  refine gs (pc' := 1) (fun _ _ _ _ _ hl => lv_aload_n hx hb d_Na_increase_0 rfl (lv_at hl 0 rfl)) ?_
  refine gs (pc' := 2) (fun _ _ _ _ _ hl => lv_aload_n hx hb d_Na_increase_1 rfl (lv_at hl 0 rfl)) ?_
  refine g_get hx hb hts hin_Na hown hK hh rfl 1 (by decide) (hts _ wm75) (fun _ h9 => h9) rfl d_Na_increase_2 ?_
  refine gs (pc' := 6) (fun _ _ _ _ _ hl => lv_iconst (v := nI 1) hx hb d_Na_increase_5 (by decide)) ?_
  refine gs (pc' := 7) (fun _ _ _ _ _ hl => lv_iadd hx hb d_Na_increase_6) ?_
  refine g_eqi (show (nI z) + (nI 1) = nI (z + 1) from nI_add _ _) ?_
  refine g_outv hlo (g_runV (As := [.int (nI (z + 1))]) (rest := []) ⟨hx, hb, hml, hown, hts⟩ hK hZ hRc hRs (c_Na_widen l D cA lo MC MS G B t h a z cap f hh ha (by omega) (by omega) (z + 1) (by omega) (by omega) (by omega) (by omega) hB1 hB2) (fun _ _ => cwV 1 hts (tb_good (tb_cons wm567 (tb_cons wm438 (tb_cons wm439 (tb_cons wm5 k_Na_widen))))) rfl rfl rfl (by decide +kernel) ⟨by rw [hRf]; exact Nat.le_of_ble_eq_true rfl, by rw [hRl]; exact Nat.le_of_ble_eq_true rfl⟩) hh rfl hB1 hB2 rfl (Nat.le_of_ble_eq_true rfl) d_Na_increase_7) (fun G_1 B_2 p_3 => ?_)
  obtain ⟨a_4, g_5, e_6, e_7, e_8, e_9, e_10, e_11, e_12⟩ := p_3
  have e_11 : B_2.1 + cap ≤ B.1 + gcap cap (z + 1) := e_11
  have e_12 : B_2.2 + 2 * cap ≤ B.2 + 2 * gcap cap (z + 1) := e_12
  have gg_13 := gcap_ge cap (z + 1)
  have gg_14 : gcap cap (z + 1) ≤ 2 * 50000 := gcap_le (by omega) (by omega)
  refine gs (pc' := 11) (fun _ _ _ _ _ hl => lv_iconst (v := nI 1) hx hb d_Na_increase_10 (by decide)) ?_
  refine gst (pc' := 12) (L' := [(1, .int (nI 1)), (0, .ref h)]) (fun _ _ _ _ _ hl => lv_istore_n hx hb d_Na_increase_11 rfl hl (by decide) rfl) ?_
  refine gs (pc' := 13) (fun _ _ _ _ _ hl => lv_iconst (v := nI 0) hx hb d_Na_increase_12 (by decide)) ?_
  refine gst (pc' := 14) (L' := [(2, .int (nI 0)), (1, .int (nI 1)), (0, .ref h)]) (fun _ _ _ _ _ hl => lv_istore_n hx hb d_Na_increase_13 rfl hl (by decide) rfl) ?_
  refine gsub [0, 1, 2] rfl ?_
  have hl0 : lim g_5 (z + 1) := lim_ext (lim_congr hD.1 e_8) e_9
  have hv0 : dv (df g_5) (z + 1) = v := by rw [dv_ext (Nat.le_succ z) e_9, dv_dcongr e_8]; exact hD.2.2
  have hvlt : v < 1000000000 ^ z := isD_lt hD
  have hpz := pB_s z
  have hpp := pB_pos z
  have loop : ∀ (n i c0 : Nat) (g : Nat → Int32) (Gk : gT), (i + n = z + 1) → (c0 ≤ 1) → (lim g (z + 1)) → (dv (df g) (z + 1) + c0 * 1000000000 ^ i = v + 1) → (gfr (fun x => x = t) G Gk) → Gk h = some (t, .inr (4, [.ref a_4, .int (nI (z + 1))])) → Gk a_4 = some (t, .inl (cA 0, (gcap cap (z + 1)), .inl g)) → gV p l e R s m args below meth c D clS lo 3 Q 14 [(2, .int (nI i)), (1, .int (nI c0)), (0, .ref h)] [] Gk B_2 := by
    intro n
    induction n with
    | zero =>
      intro i c0 g Gk hi hc0 hg hv hfr k1 k2
      have hiM : i = z + 1 := by omega
      have hvv : dv (df g) (z + 1) = v + 1 := by
        rcases (show c0 = 0 ∨ c0 = 1 by omega) with q | q
        · subst q; omega
        · subst q; rw [hiM] at hv; omega
      refine gs (pc' := 15) (fun _ _ _ _ _ hl => lv_iload_n hx hb d_Na_increase_14 rfl (lv_at hl 0 rfl)) ?_
      refine gs (pc' := 16) (fun _ _ _ _ _ hl => lv_aload_n hx hb d_Na_increase_15 rfl (lv_at hl 2 rfl)) ?_
      refine g_get hx hb hts hin_Na hown hK k1 rfl 1 (by decide) (hts _ wm75) (fun _ h9 => h9) rfl d_Na_increase_16 ?_
      refine gsb (pc1 := 76) (pc2 := 22) (fun _ _ _ _ _ => lv_icmp_ge (tgt := 76) hx hb d_Na_increase_19 (by decide)) (fun c_15 => ?_) (fun c_15 => ?_)
      · skip
        have nc_15 : i ≥ (z + 1) := (nn_ge (a := i) (b := (z + 1)) (by omega) (by omega)).1 c_15
        refine gs (pc' := 77) (fun _ _ _ _ _ hl => lv_aload_n hx hb d_Na_increase_76 rfl (lv_at hl 2 rfl)) ?_
        refine g_outv hlo (g_runV (As := []) (rest := []) ⟨hx, hb, hml, hown, hts⟩ hK hZ hRc hRs (c_Na_trim l D cA lo MC MS Gk B_2 t h a_4 (z + 1) (gcap cap (z + 1)) g k1 k2 (by omega) (by omega) hg (show B_2.1 ≤ MC by omega) (show B_2.2 ≤ MS by omega)) (fun _ _ => cwV 0 hts (tb_good (tb_cons wm212 (tb_cons wm213 (tb_cons wm214 (tb_cons wm5 k_Na_trim))))) rfl rfl rfl (by decide +kernel) ⟨by rw [hRf]; exact Nat.le_of_ble_eq_true rfl, by rw [hRl]; exact Nat.le_of_ble_eq_true rfl⟩) k1 rfl (show B_2.1 ≤ MC by omega) (show B_2.2 ≤ MS by omega) rfl (Nat.le_of_ble_eq_true rfl) d_Na_increase_77) (fun G_16 B_17 p_18 => ?_)
        obtain ⟨e_19, z_20, e_21, e_22, e_23, f_24, o_25⟩ := p_18
        have e_19 : B_2 = B_17 := (show B_17 = B_2 from e_19).symm
        subst e_19
        have f_26 : G_16 a_4 = some (t, .inl (cA 0, (gcap cap (z + 1)), .inl g)) := (o_25 _ (gne k2 k1 (fun e => by cases e))).trans k2
        exact hret 80 _ _ _ d_Na_increase_80 (show B_2.1 ≤ MC by omega) (show B_2.2 ≤ MS by omega) ⟨a_4, z_20, _, f_24, f_26, by omega, ⟨lim_le hg e_21, e_22, by rw [e_23]; exact hvv⟩, gfr_put hfr k1 rfl o_25, e_11, e_12⟩
      · skip
        have nc_15 : i < (z + 1) := (nn_ge (a := i) (b := (z + 1)) (by omega) (by omega)).2 c_15
        exact absurd nc_15 (by omega)
    | succ n ih =>
      intro i c0 g Gk hi hc0 hg hv hfr k1 k2
      refine gs (pc' := 15) (fun _ _ _ _ _ hl => lv_iload_n hx hb d_Na_increase_14 rfl (lv_at hl 0 rfl)) ?_
      refine gs (pc' := 16) (fun _ _ _ _ _ hl => lv_aload_n hx hb d_Na_increase_15 rfl (lv_at hl 2 rfl)) ?_
      refine g_get hx hb hts hin_Na hown hK k1 rfl 1 (by decide) (hts _ wm75) (fun _ h9 => h9) rfl d_Na_increase_16 ?_
      refine gsb (pc1 := 76) (pc2 := 22) (fun _ _ _ _ _ => lv_icmp_ge (tgt := 76) hx hb d_Na_increase_19 (by decide)) (fun c_27 => ?_) (fun c_27 => ?_)
      · skip
        have nc_27 : i ≥ (z + 1) := (nn_ge (a := i) (b := (z + 1)) (by omega) (by omega)).1 c_27
        exact absurd nc_27 (by omega)
      · skip
        have nc_27 : i < (z + 1) := (nn_ge (a := i) (b := (z + 1)) (by omega) (by omega)).2 c_27
        refine gs (pc' := 23) (fun _ _ _ _ _ hl => lv_iload_n hx hb d_Na_increase_22 rfl (lv_at hl 1 rfl)) ?_
        refine gsb (pc1 := 76) (pc2 := 26) (fun _ _ _ _ _ => lv_if_le (tgt := 76) hx hb d_Na_increase_23 (by decide)) (fun c_28 => ?_) (fun c_28 => ?_)
        · skip
          have nc_28 : c0 ≤ 0 := (n0_le (a := c0) (by omega)).1 c_28
          have hq0 : c0 = 0 := by omega
          have hvv : dv (df g) (z + 1) = v + 1 := by rw [hq0] at hv; omega
          refine gs (pc' := 77) (fun _ _ _ _ _ hl => lv_aload_n hx hb d_Na_increase_76 rfl (lv_at hl 2 rfl)) ?_
          refine g_outv hlo (g_runV (As := []) (rest := []) ⟨hx, hb, hml, hown, hts⟩ hK hZ hRc hRs (c_Na_trim l D cA lo MC MS Gk B_2 t h a_4 (z + 1) (gcap cap (z + 1)) g k1 k2 (by omega) (by omega) hg (show B_2.1 ≤ MC by omega) (show B_2.2 ≤ MS by omega)) (fun _ _ => cwV 0 hts (tb_good (tb_cons wm212 (tb_cons wm213 (tb_cons wm214 (tb_cons wm5 k_Na_trim))))) rfl rfl rfl (by decide +kernel) ⟨by rw [hRf]; exact Nat.le_of_ble_eq_true rfl, by rw [hRl]; exact Nat.le_of_ble_eq_true rfl⟩) k1 rfl (show B_2.1 ≤ MC by omega) (show B_2.2 ≤ MS by omega) rfl (Nat.le_of_ble_eq_true rfl) d_Na_increase_77) (fun G_29 B_30 p_31 => ?_)
          obtain ⟨e_32, z_33, e_34, e_35, e_36, f_37, o_38⟩ := p_31
          have e_32 : B_2 = B_30 := (show B_30 = B_2 from e_32).symm
          subst e_32
          have f_39 : G_29 a_4 = some (t, .inl (cA 0, (gcap cap (z + 1)), .inl g)) := (o_38 _ (gne k2 k1 (fun e => by cases e))).trans k2
          exact hret 80 _ _ _ d_Na_increase_80 (show B_2.1 ≤ MC by omega) (show B_2.2 ≤ MS by omega) ⟨a_4, z_33, _, f_37, f_39, by omega, ⟨lim_le hg e_34, e_35, by rw [e_36]; exact hvv⟩, gfr_put hfr k1 rfl o_38, e_11, e_12⟩
        · skip
          have nc_28 : c0 > 0 := (n0_le (a := c0) (by omega)).2 c_28
          have hq1 : c0 = 1 := by omega
          rw [hq1, Nat.one_mul] at hv
          refine gs (pc' := 27) (fun _ _ _ _ _ hl => lv_aload_n hx hb d_Na_increase_26 rfl (lv_at hl 2 rfl)) ?_
          refine g_get hx hb hts hin_Na hown hK k1 rfl 0 (by decide) (hts _ wm72) (fun _ h9 => h9) rfl d_Na_increase_27 ?_
          refine gs (pc' := 31) (fun _ _ _ _ _ hl => lv_iload_n hx hb d_Na_increase_30 rfl (lv_at hl 0 rfl)) ?_
          refine g_iald hx hb hK 0 k2 rfl (show vp_in (nI i) (gcap cap (z + 1)) from vp_in_nI (by omega) (by omega)) d_Na_increase_31 ?_
          refine g_eqi (show g (nI i).toNatClampNeg = g i from by rw [nI_clamp (by omega)]) ?_
          have b_40 : df g i < 1000000000 := (hg i (by omega)).2
          refine g_eqi (show g i = nI (df g i) from (hg i (by omega)).1) ?_
          refine gs (pc' := 33) (fun _ _ _ _ _ hl => lv_iconst (v := nI 1) hx hb d_Na_increase_32 (by decide)) ?_
          refine gs (pc' := 34) (fun _ _ _ _ _ hl => lv_iadd hx hb d_Na_increase_33) ?_
          refine g_eqi (show (nI (df g i)) + (nI 1) = nI ((df g i) + 1) from nI_add _ _) ?_
          refine gs (pc' := 35) (fun _ _ _ _ _ hl => lv_i2l (v := lN ((df g i) + 1)) hx hb d_Na_increase_34 (nI_l (by omega))) ?_
          refine gs (pc' := 38) (fun _ _ _ _ _ hl => lv_ldc2 (v := 1000000000) hx hb hown (hts _ wm208) d_Na_increase_35) ?_
          refine g_eql (show 1000000000 = lN 1000000000 from rfl) ?_
          refine gs (pc' := 39) (fun _ _ _ _ _ hl => W.lcmp hx hb d_Na_increase_38) ?_
          refine gsb (pc1 := 46) (pc2 := 42) (fun _ _ _ _ _ => lv_if_ne (tgt := 46) hx hb d_Na_increase_39 (by decide)) (fun c_41 => ?_) (fun c_41 => ?_)
          · skip
            have nc_41 : ((df g i) + 1) ≠ 1000000000 := (lcN_ne (a := ((df g i) + 1)) (b := 1000000000) (by omega) (by omega)).1 c_41
            refine gs (pc' := 47) (fun _ _ _ _ _ hl => lv_iconst (v := nI 0) hx hb d_Na_increase_46 (by decide)) ?_
            refine gst (pc' := 48) (L' := [(1, .int (nI 0)), (2, .int (nI i)), (0, .ref h)]) (fun _ _ _ _ _ hl => lv_istore_n hx hb d_Na_increase_47 rfl hl (by decide) rfl) ?_
            refine gs (pc' := 49) (fun _ _ _ _ _ hl => lv_aload_n hx hb d_Na_increase_48 rfl (lv_at hl 2 rfl)) ?_
            refine g_get hx hb hts hin_Na hown hK k1 rfl 0 (by decide) (hts _ wm72) (fun _ h9 => h9) rfl d_Na_increase_49 ?_
            refine gs (pc' := 53) (fun _ _ _ _ _ hl => lv_iload_n hx hb d_Na_increase_52 rfl (lv_at hl 1 rfl)) ?_
            refine gs (pc' := 54) (fun _ _ _ _ _ hl => lv_iload_n hx hb d_Na_increase_53 rfl (lv_at hl 0 rfl)) ?_
            refine gsb (pc1 := 61) (pc2 := 57) (fun _ _ _ _ _ => lv_if_le (tgt := 61) hx hb d_Na_increase_54 (by decide)) (fun c_42 => ?_) (fun c_42 => ?_)
            · skip
              have nc_42 : 0 ≤ 0 := (n0_le (a := 0) (by omega)).1 c_42
              refine gs (pc' := 62) (fun _ _ _ _ _ hl => lv_aload_n hx hb d_Na_increase_61 rfl (lv_at hl 2 rfl)) ?_
              refine g_get hx hb hts hin_Na hown hK k1 rfl 0 (by decide) (hts _ wm72) (fun _ h9 => h9) rfl d_Na_increase_62 ?_
              refine gs (pc' := 66) (fun _ _ _ _ _ hl => lv_iload_n hx hb d_Na_increase_65 rfl (lv_at hl 1 rfl)) ?_
              refine g_iald hx hb hK 0 k2 rfl (show vp_in (nI i) (gcap cap (z + 1)) from vp_in_nI (by omega) (by omega)) d_Na_increase_66 ?_
              refine g_eqi (show g (nI i).toNatClampNeg = g i from by rw [nI_clamp (by omega)]) ?_
              have b_43 : df g i < 1000000000 := (hg i (by omega)).2
              refine g_eqi (show g i = nI (df g i) from (hg i (by omega)).1) ?_
              refine gs (pc' := 68) (fun _ _ _ _ _ hl => lv_iconst (v := nI 1) hx hb d_Na_increase_67 (by decide)) ?_
              refine gs (pc' := 69) (fun _ _ _ _ _ hl => lv_iadd hx hb d_Na_increase_68) ?_
              refine g_eqi (show (nI (df g i)) + (nI 1) = nI ((df g i) + 1) from nI_add _ _) ?_
              refine g_iast hx hb hK 0 k2 rfl (show vp_in (nI i) (gcap cap (z + 1)) from vp_in_nI (by omega) (by omega)) d_Na_increase_69 (fun G_44 f_45 o_46 => ?_)
              rw [nI_clamp (by omega)] at f_45
              have f_47 : G_44 h = some (t, .inr (4, [.ref a_4, .int (nI (z + 1))])) := (o_46 _ (gne k1 k2 (fun e => by cases e))).trans k1
              refine gst (pc' := 73) (L' := [(2, .int (nI (i + 1))), (1, .int (nI 0)), (0, .ref h)]) (fun _ _ _ _ _ hl => lv_iinc (v := nI (i + 1)) hx hb d_Na_increase_70 hl (k := 1) rfl (nI_add _ 1) (by decide) rfl) ?_
              refine gs (pc' := 14) (fun _ _ _ _ _ hl => lv_goto (tgt := 14) hx hb d_Na_increase_73 (by decide)) ?_
              refine gsub [0, 1, 2] rfl ?_
              have hst := dv_set (f := g) (i := i) (x := df g i + 1) (by omega) (show i < z + 1 by omega)
              exact ih (i + 1) 0 (upd g i (nI ((df g i) + 1))) G_44 (by omega) (by omega) (lim_upd hg (by omega)) (by rw [pB_s]; rw [Nat.add_mul] at hst; omega) (gfr_put hfr k2 rfl o_46) f_47 f_45
            · skip
              have nc_42 : 0 > 0 := (n0_le (a := 0) (by omega)).2 c_42
              exact absurd nc_42 (by omega)
          · skip
            have nc_41 : ((df g i) + 1) = 1000000000 := (lcN_ne (a := ((df g i) + 1)) (b := 1000000000) (by omega) (by omega)).2 c_41
            refine gs (pc' := 43) (fun _ _ _ _ _ hl => lv_iconst (v := nI 1) hx hb d_Na_increase_42 (by decide)) ?_
            refine gs (pc' := 47) (fun _ _ _ _ _ hl => lv_goto (tgt := 47) hx hb d_Na_increase_43 (by decide)) ?_
            refine gst (pc' := 48) (L' := [(1, .int (nI 1)), (2, .int (nI i)), (0, .ref h)]) (fun _ _ _ _ _ hl => lv_istore_n hx hb d_Na_increase_47 rfl hl (by decide) rfl) ?_
            refine gs (pc' := 49) (fun _ _ _ _ _ hl => lv_aload_n hx hb d_Na_increase_48 rfl (lv_at hl 2 rfl)) ?_
            refine g_get hx hb hts hin_Na hown hK k1 rfl 0 (by decide) (hts _ wm72) (fun _ h9 => h9) rfl d_Na_increase_49 ?_
            refine gs (pc' := 53) (fun _ _ _ _ _ hl => lv_iload_n hx hb d_Na_increase_52 rfl (lv_at hl 1 rfl)) ?_
            refine gs (pc' := 54) (fun _ _ _ _ _ hl => lv_iload_n hx hb d_Na_increase_53 rfl (lv_at hl 0 rfl)) ?_
            refine gsb (pc1 := 61) (pc2 := 57) (fun _ _ _ _ _ => lv_if_le (tgt := 61) hx hb d_Na_increase_54 (by decide)) (fun c_48 => ?_) (fun c_48 => ?_)
            · skip
              have nc_48 : 1 ≤ 0 := (n0_le (a := 1) (by omega)).1 c_48
              exact absurd nc_48 (by omega)
            · skip
              have nc_48 : 1 > 0 := (n0_le (a := 1) (by omega)).2 c_48
              refine gs (pc' := 58) (fun _ _ _ _ _ hl => lv_iconst (v := nI 0) hx hb d_Na_increase_57 (by decide)) ?_
              refine gs (pc' := 69) (fun _ _ _ _ _ hl => lv_goto (tgt := 69) hx hb d_Na_increase_58 (by decide)) ?_
              refine g_iast hx hb hK 0 k2 rfl (show vp_in (nI i) (gcap cap (z + 1)) from vp_in_nI (by omega) (by omega)) d_Na_increase_69 (fun G_49 f_50 o_51 => ?_)
              rw [nI_clamp (by omega)] at f_50
              have f_52 : G_49 h = some (t, .inr (4, [.ref a_4, .int (nI (z + 1))])) := (o_51 _ (gne k1 k2 (fun e => by cases e))).trans k1
              refine gst (pc' := 73) (L' := [(2, .int (nI (i + 1))), (1, .int (nI 1)), (0, .ref h)]) (fun _ _ _ _ _ hl => lv_iinc (v := nI (i + 1)) hx hb d_Na_increase_70 hl (k := 1) rfl (nI_add _ 1) (by decide) rfl) ?_
              refine gs (pc' := 14) (fun _ _ _ _ _ hl => lv_goto (tgt := 14) hx hb d_Na_increase_73 (by decide)) ?_
              refine gsub [0, 1, 2] rfl ?_
              have hst := dv_set (f := g) (i := i) (x := 0) (by omega) (show i < z + 1 by omega)
              exact ih (i + 1) 1 (upd g i (nI 0)) G_49 (by omega) (by omega) (lim_upd hg (by omega)) (by rw [pB_s]; rw [show df g i = 999999999 by omega] at hst; omega) (gfr_put hfr k2 rfl o_51) f_52 f_50
  exact loop (z + 1) 0 1 g_5 G_1 (by omega) (by omega) hl0 (by rw [hv0, Nat.pow_zero]) e_10 e_6 e_7
set_option maxHeartbeats 4000000 in
set_option maxRecDepth 100000 in
/-- reduce: divides by one limb, answers what remains -/
theorem c_Na_reduce (l : Launch) (D : va_G) (cA : Nat → ClassId) (lo MC MS : Nat) (G : gT) (B : Nat × Nat) (t h a z cap : Nat) (f : Nat → Int32) (hh : G h = some (t, .inr (4, [.ref a, .int (nI z)]))) (ha : G a = some (t, .inl (cA 0, cap, .inl f))) (hz : z ≤ cap) (hc : cap ≤ 50000) (v dn : Nat) (hl : lim f z) (hv0 : dv (df f) z = v) (hd0 : 0 < dn) (hd1 : dn < 1000000000) (hB1 : B.1 ≤ MC) (hB2 : B.2 ≤ MS) : gMet l y_Na_reduce w_Na_reduce 1 20 D clS (gtys cA) lo MC MS [.ref h, .int (nI dn)] G B (gQl D clS lo (fun r u => r = lN (v % dn) ∧ u.2 = B ∧ ∃ (z2 : Nat) (f2 : Nat → Int32), u.1 h = some (t, .inr (4, [.ref a, .int (nI z2)])) ∧ u.1 a = some (t, .inl (cA 0, cap, .inl f2)) ∧ z2 ≤ z ∧ isD f2 z2 (v / dn) ∧ gfr (fun x => x = t) G u.1)) := by
  refine g_metl (cc := prog_6_method_20_code) (nL := 7) (L := [(0, .ref h), (1, .int (nI dn))]) (by decide +kernel) rfl (Nat.le_of_ble_eq_true rfl) rfl ?_
  intro p e R s m args below meth c Q hF hRc hRs hRf hRl hret
  obtain ⟨hx, hb, hr, hml, hts0, hown, hlocks, hin, hK, hlo, hZ⟩ := hF
  have hts : ∀ w ∈ tbg, w.before args s = true := fun w h => hts0 w (List.mem_cons_of_mem _ h)
  refine gs (pc' := 1) (fun _ _ _ _ _ hl => lv_iload_n hx hb d_Na_reduce_0 rfl (lv_at hl 1 rfl)) ?_
  refine gsb (pc1 := 6) (pc2 := 4) (fun _ _ _ _ _ => lv_if_gt (tgt := 6) hx hb d_Na_reduce_1 (by decide)) (fun c_1 => ?_) (fun c_1 => ?_)
  · skip
    have nc_1 : dn > 0 := (n0_gt (a := dn) (by omega)).1 c_1
    refine gs (pc' := 7) (fun _ _ _ _ _ hl => lv_lconst (v := lN 0) hx hb d_Na_reduce_6 (by decide)) ?_
    refine gst (pc' := 8) (L' := [(2, .long (lN 0)), (0, .ref h), (1, .int (nI dn))]) (fun _ _ _ _ _ hl => lv_lstore_n hx hb d_Na_reduce_7 rfl hl (by decide) rfl) ?_
    refine gs (pc' := 9) (fun _ _ _ _ _ hl => lv_aload_n hx hb d_Na_reduce_8 rfl (lv_at hl 1 rfl)) ?_
    refine g_get hx hb hts hin_Na hown hK hh rfl 1 (by decide) (hts _ wm75) (fun _ h9 => h9) rfl d_Na_reduce_9 ?_
    refine gs (pc' := 13) (fun _ _ _ _ _ hl => lv_iconst (v := nI 1) hx hb d_Na_reduce_12 (by decide)) ?_
    refine gs (pc' := 14) (fun _ _ _ _ _ hl => lv_isub hx hb d_Na_reduce_13) ?_
    refine gst (pc' := 16) (L' := [(4, .int ((nI z) - (nI 1))), (2, .long (lN 0)), (0, .ref h), (1, .int (nI dn))]) (fun _ _ _ _ _ hl => lv_istore hx hb d_Na_reduce_14 hl (by decide) rfl) ?_
    refine gsub [0, 1, 2, 3] rfl ?_
    have loop : ∀ (j r0 : Nat) (g : Nat → Int32) (Gk : gT), j ≤ z → r0 < dn → lim g z → (∀ x, x < j → g x = f x) → v + dv (df f) j * dn = dv (df g) z * dn + r0 * 1000000000 ^ j + dv (df f) j → gfr (fun x => x = t) G Gk → Gk h = some (t, .inr (4, [.ref a, .int (nI z)])) → Gk a = some (t, .inl (cA 0, cap, .inl g)) → ∀ (iv : Int32), iv + nI 1 = nI j → gV p l e R s m args below meth c D clS lo 7 Q 16 [(4, .int iv), (2, .long (lN r0)), (0, .ref h), (1, .int (nI dn))] [] Gk B := by
      intro j
      induction j with
      | zero =>
        intro r0 g Gk hj hr0 hg hsm hv hfr k1 k2 iv hiv
        have hm1 := iv_0 hiv
        subst hm1
        have hqr := qr_of (Q := dv (df g) z) (m := dn) (r := r0) (v := v) (by rw [dv_0, Nat.zero_mul, Nat.pow_zero] at hv; omega) hr0
        refine gs (pc' := 18) (fun _ _ _ _ _ hl => lv_iload hx hb d_Na_reduce_16 (lv_at hl 0 rfl)) ?_
        refine gsb (pc1 := 62) (pc2 := 21) (fun _ _ _ _ _ => lv_if_lt (tgt := 62) hx hb d_Na_reduce_18 (by decide)) (fun c_2 => ?_) (fun c_2 => ?_)
        · skip
          refine gs (pc' := 63) (fun _ _ _ _ _ hl => lv_aload_n hx hb d_Na_reduce_62 rfl (lv_at hl 2 rfl)) ?_
          refine g_outv hlo (g_runV (As := []) (rest := []) ⟨hx, hb, hml, hown, hts⟩ hK hZ hRc hRs (c_Na_trim l D cA lo MC MS Gk B t h a z cap g k1 k2 (by omega) (by omega) hg hB1 hB2) (fun _ _ => cwV 0 hts (tb_good (tb_cons wm212 (tb_cons wm213 (tb_cons wm214 (tb_cons wm5 k_Na_trim))))) rfl rfl rfl (by decide +kernel) ⟨by rw [hRf]; exact Nat.le_of_ble_eq_true rfl, by rw [hRl]; exact Nat.le_of_ble_eq_true rfl⟩) k1 rfl hB1 hB2 rfl (Nat.le_of_ble_eq_true rfl) d_Na_reduce_63) (fun G_3 B_4 p_5 => ?_)
          obtain ⟨e_6, z_7, e_8, e_9, e_10, f_11, o_12⟩ := p_5
          have e_6 : B = B_4 := (show B_4 = B from e_6).symm
          subst e_6
          have f_13 : G_3 a = some (t, .inl (cA 0, cap, .inl g)) := (o_12 _ (gne k2 k1 (fun e => by cases e))).trans k2
          refine gs (pc' := 67) (fun _ _ _ _ _ hl => lv_lload_n hx hb d_Na_reduce_66 rfl (lv_at hl 1 rfl)) ?_
          exact hret 67 _ _ _ _ d_Na_reduce_67 hB1 hB2 ⟨congrArg lN hqr.2, rfl, z_7, g, f_11, f_13, e_8, ⟨lim_le hg e_8, e_9, by rw [e_10]; exact hqr.1⟩, gfr_put hfr k1 rfl o_12⟩
        · skip
          exact absurd (show (-1 : Int32) < 0 by decide) c_2
      | succ j ih =>
        intro r0 g Gk hj hr0 hg hsm hv hfr k1 k2 iv hiv
        have hm1 := iv_s hiv
        subst hm1
        have hdj : df g j < 1000000000 := (hg j (by omega)).2
        have hqb := rd_q hr0 hdj
        refine gs (pc' := 18) (fun _ _ _ _ _ hl => lv_iload hx hb d_Na_reduce_16 (lv_at hl 0 rfl)) ?_
        refine gsb (pc1 := 62) (pc2 := 21) (fun _ _ _ _ _ => lv_if_lt (tgt := 62) hx hb d_Na_reduce_18 (by decide)) (fun c_14 => ?_) (fun c_14 => ?_)
        · skip
          have nc_14 : j < 0 := (n0_lt (a := j) (by omega)).1 c_14
          exact absurd nc_14 (by omega)
        · skip
          have nc_14 : j ≥ 0 := (n0_lt (a := j) (by omega)).2 c_14
          refine gs (pc' := 22) (fun _ _ _ _ _ hl => lv_lload_n hx hb d_Na_reduce_21 rfl (lv_at hl 1 rfl)) ?_
          refine gs (pc' := 25) (fun _ _ _ _ _ hl => lv_ldc2 (v := 1000000000) hx hb hown (hts _ wm208) d_Na_reduce_22) ?_
          refine g_eql (show 1000000000 = lN 1000000000 from rfl) ?_
          refine gs (pc' := 26) (fun _ _ _ _ _ hl => lv_lmul hx hb d_Na_reduce_25) ?_
          refine g_eql (show (lN r0) * (lN 1000000000) = lN (r0 * 1000000000) from lN_mul _ _) ?_
          refine gs (pc' := 27) (fun _ _ _ _ _ hl => lv_aload_n hx hb d_Na_reduce_26 rfl (lv_at hl 2 rfl)) ?_
          refine g_get hx hb hts hin_Na hown hK k1 rfl 0 (by decide) (hts _ wm72) (fun _ h9 => h9) rfl d_Na_reduce_27 ?_
          refine gs (pc' := 32) (fun _ _ _ _ _ hl => lv_iload hx hb d_Na_reduce_30 (lv_at hl 0 rfl)) ?_
          refine g_iald hx hb hK 0 k2 rfl (show vp_in (nI j) cap from vp_in_nI (by omega) (by omega)) d_Na_reduce_32 ?_
          refine g_eqi (show g (nI j).toNatClampNeg = g j from by rw [nI_clamp (by omega)]) ?_
          have b_15 : df g j < 1000000000 := (hg j (by omega)).2
          refine g_eqi (show g j = nI (df g j) from (hg j (by omega)).1) ?_
          refine gs (pc' := 34) (fun _ _ _ _ _ hl => lv_i2l (v := lN (df g j)) hx hb d_Na_reduce_33 (nI_l (by omega))) ?_
          refine gs (pc' := 35) (fun _ _ _ _ _ hl => lv_ladd hx hb d_Na_reduce_34) ?_
          refine g_eql (show (lN (r0 * 1000000000)) + (lN (df g j)) = lN ((r0 * 1000000000) + (df g j)) from lN_add _ _) ?_
          refine gst (pc' := 37) (L' := [(5, .long (lN ((r0 * 1000000000) + (df g j)))), (4, .int (nI j)), (2, .long (lN r0)), (0, .ref h), (1, .int (nI dn))]) (fun _ _ _ _ _ hl => lv_lstore hx hb d_Na_reduce_35 hl (by decide) rfl) ?_
          refine gs (pc' := 38) (fun _ _ _ _ _ hl => lv_aload_n hx hb d_Na_reduce_37 rfl (lv_at hl 3 rfl)) ?_
          refine g_get hx hb hts hin_Na hown hK k1 rfl 0 (by decide) (hts _ wm72) (fun _ h9 => h9) rfl d_Na_reduce_38 ?_
          refine gs (pc' := 43) (fun _ _ _ _ _ hl => lv_iload hx hb d_Na_reduce_41 (lv_at hl 1 rfl)) ?_
          refine gs (pc' := 45) (fun _ _ _ _ _ hl => lv_lload hx hb d_Na_reduce_43 (lv_at hl 0 rfl)) ?_
          refine gs (pc' := 46) (fun _ _ _ _ _ hl => lv_iload_n hx hb d_Na_reduce_45 rfl (lv_at hl 4 rfl)) ?_
          refine gs (pc' := 47) (fun _ _ _ _ _ hl => lv_i2l (v := lN dn) hx hb d_Na_reduce_46 (nI_l (by omega))) ?_
          refine gs (pc' := 48) (fun _ _ _ _ _ hl => lv_ldiv hx hb d_Na_reduce_47 (fun e => absurd ((pk_lEQ (by omega) (by omega)).mp (e.trans (show _ = lN 0 from rfl))) (by omega))) ?_
          refine g_eql (show (lN ((r0 * 1000000000) + (df g j))) / (lN dn) = lN (((r0 * 1000000000) + (df g j)) / dn) from pk_lDiv (by omega) (by omega) (by omega)) ?_
          refine gs (pc' := 49) (fun _ _ _ _ _ hl => lv_l2i (v := nI (((r0 * 1000000000) + (df g j)) / dn)) hx hb d_Na_reduce_48 (lN_i _)) ?_
          refine g_iast hx hb hK 0 k2 rfl (show vp_in (nI j) cap from vp_in_nI (by omega) (by omega)) d_Na_reduce_49 (fun G_16 f_17 o_18 => ?_)
          rw [nI_clamp (by omega)] at f_17
          have f_19 : G_16 h = some (t, .inr (4, [.ref a, .int (nI z)])) := (o_18 _ (gne k1 k2 (fun e => by cases e))).trans k1
          refine gs (pc' := 52) (fun _ _ _ _ _ hl => lv_lload hx hb d_Na_reduce_50 (lv_at hl 0 rfl)) ?_
          refine gs (pc' := 53) (fun _ _ _ _ _ hl => lv_iload_n hx hb d_Na_reduce_52 rfl (lv_at hl 4 rfl)) ?_
          refine gs (pc' := 54) (fun _ _ _ _ _ hl => lv_i2l (v := lN dn) hx hb d_Na_reduce_53 (nI_l (by omega))) ?_
          refine gs (pc' := 55) (fun _ _ _ _ _ hl => lv_lrem hx hb d_Na_reduce_54 (fun e => absurd ((pk_lEQ (by omega) (by omega)).mp (e.trans (show _ = lN 0 from rfl))) (by omega))) ?_
          refine g_eql (show (lN ((r0 * 1000000000) + (df g j))) - (lN ((r0 * 1000000000) + (df g j))) / (lN dn) * (lN dn) = lN (((r0 * 1000000000) + (df g j)) % dn) from pk_lRem (by omega) (by omega) (by omega)) ?_
          refine gst (pc' := 56) (L' := [(2, .long (lN (((r0 * 1000000000) + (df g j)) % dn))), (5, .long (lN ((r0 * 1000000000) + (df g j)))), (4, .int (nI j)), (0, .ref h), (1, .int (nI dn))]) (fun _ _ _ _ _ hl => lv_lstore_n hx hb d_Na_reduce_55 rfl hl (by decide) rfl) ?_
          refine gst (pc' := 59) (L' := [(4, .int (nI j + (-1))), (2, .long (lN (((r0 * 1000000000) + (df g j)) % dn))), (5, .long (lN ((r0 * 1000000000) + (df g j)))), (0, .ref h), (1, .int (nI dn))]) (fun _ _ _ _ _ hl => lv_iinc (v := nI j + (-1)) hx hb d_Na_reduce_56 hl (k := 2) rfl (rfl) (by decide) rfl) ?_
          refine gs (pc' := 16) (fun _ _ _ _ _ hl => lv_goto (tgt := 16) hx hb d_Na_reduce_59 (by decide)) ?_
          refine gsub [0, 1, 3, 4] rfl ?_
          have hst := dv_set (f := g) (i := j) (x := (r0 * 1000000000 + df g j) / dn) (by omega) (show j < z by omega)
          have hdm := Nat.div_add_mod (r0 * 1000000000 + df g j) dn
          have hml2 := Nat.mod_lt (r0 * 1000000000 + df g j) (show 0 < dn by omega)
          have hfj : df f j = df g j := by unfold df; rw [hsm j (by omega)]
          exact ih ((r0 * 1000000000 + df g j) % dn) (upd g j (nI (((r0 * 1000000000) + (df g j)) / dn))) G_16 (by omega) hml2 (lim_upd hg hqb) (fun x hx2 => by rw [pk_un (by omega)]; exact hsm x (by omega)) (by rw [dv_s, hfj, pB_s] at hv; exact st_red hst hv (by rw [Nat.mul_comm _ dn]; exact hdm.symm)) (gfr_put hfr k2 rfl o_18) f_19 f_17 _ (by rw [Int32.add_assoc]; exact Int32.add_zero _)
    exact loop z 0 f G (Nat.le_refl _) (by omega) hl (fun _ _ => rfl) (by rw [hv0]; omega) gfr_rf hh ha _ (Int32.sub_add_cancel _ _)
  · skip
    have nc_1 : dn ≤ 0 := (n0_gt (a := dn) (by omega)).2 c_1
    exact absurd nc_1 (by omega)
