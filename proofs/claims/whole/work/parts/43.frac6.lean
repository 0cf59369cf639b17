set_option maxHeartbeats 4000000 in
set_option maxRecDepth 100000 in
theorem c_Fr_setTo (l : Launch) (D : va_G) (cA : Nat → ClassId) (lo MC MS : Nat) (G : gT) (B : Nat × Nat) (hf ta tb to ja jb ka kb va vb : Nat) (sf : Int32) (hhf : G hf = some (to, .inr (3, [.int sf, .ref ja, .ref jb]))) (hNa : isN cA G ka ta ja va) (hNb : isN cA G kb tb jb vb) (hka : ka ≤ 3000) (hkb : kb ≤ 3000) (h1 t1 a1 b1 : Nat) (s1 : Int32) (hh : G h1 = some (t1, .inr (3, [.int s1, .ref a1, .ref b1]))) (c1 z1 g1 u1 : Nat) (f1 : Nat → Int32) (v1 : Nat) (hh1 : G a1 = some (u1, .inr (4, [.ref c1, .int (nI z1)]))) (ha1 : G c1 = some (u1, .inl (cA 0, g1, .inl f1))) (hz1 : z1 ≤ g1) (hg1 : g1 ≤ 3000) (hD1 : isD f1 z1 v1) (c2 z2 g2 u2 : Nat) (f2 : Nat → Int32) (v2 : Nat) (hh2 : G b1 = some (u2, .inr (4, [.ref c2, .int (nI z2)]))) (ha2 : G c2 = some (u2, .inl (cA 0, g2, .inl f2))) (hz2 : z2 ≤ g2) (hg2 : g2 ≤ 3000) (hD2 : isD f2 z2 v2) (hzz1 : z1 ≤ 1500) (hzz2 : z2 ≤ 1500) (n1 : ¬ t1 = ta ∧ ¬ t1 = tb ∧ ¬ t1 = to) (n2 : ¬ u1 = ta ∧ ¬ u1 = tb ∧ ¬ u1 = to) (n3 : ¬ u2 = ta ∧ ¬ u2 = tb ∧ ¬ u2 = to) (n4 : ¬ ta = tb ∧ ¬ ta = to ∧ ¬ tb = to) (hC : B.1 + (gcap ka z1 - ka) + (gcap kb z2 - kb) ≤ MC) (hS : B.2 + 2 * (gcap ka z1 - ka) + 2 * (gcap kb z2 - kb) ≤ MS) (hB1 : B.1 ≤ MC) (hB2 : B.2 ≤ MS) : gMet l y_Fr_setTo w_Fr_setTo 4 104 D clS (gtys cA) lo MC MS [.ref hf, .ref h1] G B (gQv D clS lo (fun u => isN cA u.1 (gcap ka z1) ta ja v1 ∧ isN cA u.1 (gcap kb z2) tb jb v2 ∧ u.1 hf = some (to, .inr (3, [.int s1, .ref ja, .ref jb])) ∧ gfr (fun x => x = ta ∨ x = tb ∨ x = to) G u.1 ∧ u.2.1 + ka + kb ≤ B.1 + gcap ka z1 + gcap kb z2 ∧ u.2.2 + 2 * ka + 2 * kb ≤ B.2 + 2 * gcap ka z1 + 2 * gcap kb z2)) := by
  refine g_metv (cc := prog_5_method_3_code) (nL := 2) (L := [(0, .ref hf), (1, .ref h1)]) (by decide +kernel) rfl (Nat.le_of_ble_eq_true rfl) rfl ?_
  intro p e R s m args below meth c Q hF hRc hRs hRf hRl hret
  obtain ⟨hx, hb, hr, hml, hts0, hown, hlocks, hin, hK, hlo, hZ⟩ := hF
  have hts : ∀ w ∈ tbg, w.before args s = true := fun w h => hts0 w (List.mem_cons_of_mem _ h)
  obtain ⟨aa, za, fa, gh1, ga1, gz1, gD1⟩ := hNa
  obtain ⟨ab, zb, fb, gh2, ga2, gz2, gD2⟩ := hNb
  have hgg1 := gcap_ge ka z1
  have hgg2 := gcap_ge kb z2
  refine gs (pc' := 1) (fun _ _ _ _ _ hl => lv_aload_n hx hb d_Fr_setTo_0 rfl (lv_at hl 0 rfl)) ?_
  refine gs (pc' := 2) (fun _ _ _ _ _ hl => lv_aload_n hx hb d_Fr_setTo_1 rfl (lv_at hl 1 rfl)) ?_
  refine g_get hx hb hts hin_Fr hown hK hh rfl 0 (by decide) (hts _ wm163) (fun _ h9 => h9) rfl d_Fr_setTo_2 ?_
  refine g_put (ty := .int) hx hb hts hin_Fr ty_Fr ty_Fr_ok nm_Fr hown hK hhf rfl 0 (by decide) (hts _ wm163) (fun _ h9 => h9) rfl (by decide +kernel) rfl rfl (Nat.le_of_ble_eq_true rfl) d_Fr_setTo_5 (fun G_1 f_2 o_3 => ?_)
  have f_4 : G_1 hf = some (to, .inr (3, [.int s1, .ref ja, .ref jb])) := f_2
  have f_5 : G_1 h1 = some (t1, .inr (3, [.int s1, .ref a1, .ref b1])) := (o_3 _ (gne hh hhf (fun e => n1.2.2 (congrArg Prod.fst e)))).trans hh
  have f_6 : G_1 ja = some (ta, .inr (4, [.ref aa, .int (nI za)])) := (o_3 _ (gne gh1 hhf (fun e => by cases e))).trans gh1
  have f_7 : G_1 aa = some (ta, .inl (cA 0, ka, .inl fa)) := (o_3 _ (gne ga1 hhf (fun e => by cases e))).trans ga1
  have f_8 : G_1 jb = some (tb, .inr (4, [.ref ab, .int (nI zb)])) := (o_3 _ (gne gh2 hhf (fun e => by cases e))).trans gh2
  have f_9 : G_1 ab = some (tb, .inl (cA 0, kb, .inl fb)) := (o_3 _ (gne ga2 hhf (fun e => by cases e))).trans ga2
  have f_10 : G_1 a1 = some (u1, .inr (4, [.ref c1, .int (nI z1)])) := (o_3 _ (gne hh1 hhf (fun e => by cases e))).trans hh1
  have f_11 : G_1 c1 = some (u1, .inl (cA 0, g1, .inl f1)) := (o_3 _ (gne ha1 hhf (fun e => by cases e))).trans ha1
  have f_12 : G_1 b1 = some (u2, .inr (4, [.ref c2, .int (nI z2)])) := (o_3 _ (gne hh2 hhf (fun e => by cases e))).trans hh2
  have f_13 : G_1 c2 = some (u2, .inl (cA 0, g2, .inl f2)) := (o_3 _ (gne ha2 hhf (fun e => by cases e))).trans ha2
  have hfr0 : gfr (fun x => x = ta ∨ x = tb ∨ x = to) G G_1 := gfr_put gfr_rf hhf (Or.inr (Or.inr rfl)) o_3
  refine gs (pc' := 9) (fun _ _ _ _ _ hl => lv_aload_n hx hb d_Fr_setTo_8 rfl (lv_at hl 0 rfl)) ?_
  refine g_get hx hb hts hin_Fr hown hK f_4 rfl 1 (by decide) (hts _ wm166) (fun _ h9 => h9) rfl d_Fr_setTo_9 ?_
  refine gs (pc' := 13) (fun _ _ _ _ _ hl => lv_aload_n hx hb d_Fr_setTo_12 rfl (lv_at hl 1 rfl)) ?_
  refine g_get hx hb hts hin_Fr hown hK f_5 rfl 1 (by decide) (hts _ wm166) (fun _ h9 => h9) rfl d_Fr_setTo_13 ?_
  have gg_14 := gcap_3 (c := ka) (k := z1) (by omega) (by omega)
  have gg_15 := gcap_ge ka z1
  refine g_outv hlo (g_runV (As := [.ref a1]) (rest := []) ⟨hx, hb, hml, hown, hts⟩ hK hZ hRc hRs (c_Na_setTo l D cA lo MC MS G_1 B ta ja aa ka (nI za) fa f_6 f_7 (by omega) u1 a1 c1 z1 g1 f1 f_10 f_11 (by omega) (by omega) v1 n2.1 hD1 (by omega) (by omega) hB1 hB2) (fun _ _ => cwV 1 hts (tb_good (tb_cons wm517 (tb_cons wm408 (tb_cons wm409 (tb_cons wm5 k_Na_setTo))))) rfl rfl rfl (by decide +kernel) ⟨by rw [hRf]; exact Nat.le_of_ble_eq_true rfl, by rw [hRl]; exact Nat.le_of_ble_eq_true rfl⟩) f_6 rfl hB1 hB2 rfl (Nat.le_of_ble_eq_true rfl) d_Fr_setTo_16) (fun G_16 B_17 p_18 => ?_)
  obtain ⟨a_19, z_20, g_21, e_22, e_23, e_24, e_25, e_26, e_27, e_28⟩ := p_18
  have e_27 : B_17.1 + ka ≤ B.1 + gcap ka z1 := e_27
  have e_28 : B_17.2 + 2 * ka ≤ B.2 + 2 * gcap ka z1 := e_28
  have f_31 : G_16 h1 = some (t1, .inr (3, [.int s1, .ref a1, .ref b1])) := e_26 _ _ f_5 n1.1
  have f_32 : G_16 jb = some (tb, .inr (4, [.ref ab, .int (nI zb)])) := e_26 _ _ f_8 (fun e => n4.1 e.symm)
  have f_33 : G_16 ab = some (tb, .inl (cA 0, kb, .inl fb)) := e_26 _ _ f_9 (fun e => n4.1 e.symm)
  have f_34 : G_16 a1 = some (u1, .inr (4, [.ref c1, .int (nI z1)])) := e_26 _ _ f_10 n2.1
  have f_35 : G_16 c1 = some (u1, .inl (cA 0, g1, .inl f1)) := e_26 _ _ f_11 n2.1
  have f_36 : G_16 b1 = some (u2, .inr (4, [.ref c2, .int (nI z2)])) := e_26 _ _ f_12 n3.1
  have f_37 : G_16 c2 = some (u2, .inl (cA 0, g2, .inl f2)) := e_26 _ _ f_13 n3.1
  have f_38 : G_16 hf = some (to, .inr (3, [.int s1, .ref ja, .ref jb])) := e_26 _ _ f_4 (fun e => n4.2.1 e.symm)
  refine gs (pc' := 20) (fun _ _ _ _ _ hl => lv_aload_n hx hb d_Fr_setTo_19 rfl (lv_at hl 0 rfl)) ?_
  refine g_get hx hb hts hin_Fr hown hK f_38 rfl 2 (by decide) (hts _ wm169) (fun _ h9 => h9) rfl d_Fr_setTo_20 ?_
  refine gs (pc' := 24) (fun _ _ _ _ _ hl => lv_aload_n hx hb d_Fr_setTo_23 rfl (lv_at hl 1 rfl)) ?_
  refine g_get hx hb hts hin_Fr hown hK f_31 rfl 2 (by decide) (hts _ wm169) (fun _ h9 => h9) rfl d_Fr_setTo_24 ?_
  have gg_39 := gcap_3 (c := kb) (k := z2) (by omega) (by omega)
  have gg_40 := gcap_ge kb z2
  refine g_outv hlo (g_runV (As := [.ref b1]) (rest := []) ⟨hx, hb, hml, hown, hts⟩ hK hZ hRc hRs (c_Na_setTo l D cA lo MC MS G_16 B_17 tb jb ab kb (nI zb) fb f_32 f_33 (by omega) u2 b1 c2 z2 g2 f2 f_36 f_37 (by omega) (by omega) v2 n3.2.1 hD2 (by omega) (by omega) (show B_17.1 ≤ MC by omega) (show B_17.2 ≤ MS by omega)) (fun _ _ => cwV 1 hts (tb_good (tb_cons wm517 (tb_cons wm408 (tb_cons wm409 (tb_cons wm5 k_Na_setTo))))) rfl rfl rfl (by decide +kernel) ⟨by rw [hRf]; exact Nat.le_of_ble_eq_true rfl, by rw [hRl]; exact Nat.le_of_ble_eq_true rfl⟩) f_32 rfl (show B_17.1 ≤ MC by omega) (show B_17.2 ≤ MS by omega) rfl (Nat.le_of_ble_eq_true rfl) d_Fr_setTo_27) (fun G_41 B_42 p_43 => ?_)
  obtain ⟨a_44, z_45, g_46, e_47, e_48, e_49, e_50, e_51, e_52, e_53⟩ := p_43
  have e_52 : B_42.1 + kb ≤ B_17.1 + gcap kb z2 := e_52
  have e_53 : B_42.2 + 2 * kb ≤ B_17.2 + 2 * gcap kb z2 := e_53
  have f_56 : G_41 h1 = some (t1, .inr (3, [.int s1, .ref a1, .ref b1])) := e_51 _ _ f_31 n1.2.1
  have f_57 : G_41 a1 = some (u1, .inr (4, [.ref c1, .int (nI z1)])) := e_51 _ _ f_34 n2.2.1
  have f_58 : G_41 c1 = some (u1, .inl (cA 0, g1, .inl f1)) := e_51 _ _ f_35 n2.2.1
  have f_59 : G_41 b1 = some (u2, .inr (4, [.ref c2, .int (nI z2)])) := e_51 _ _ f_36 n3.2.1
  have f_60 : G_41 c2 = some (u2, .inl (cA 0, g2, .inl f2)) := e_51 _ _ f_37 n3.2.1
  have f_61 : G_41 hf = some (to, .inr (3, [.int s1, .ref ja, .ref jb])) := e_51 _ _ f_38 (fun e => n4.2.2 e.symm)
  have f_62 : G_41 ja = some (ta, .inr (4, [.ref a_19, .int (nI z_20)])) := e_51 _ _ e_22 n4.1
  have f_63 : G_41 a_19 = some (ta, .inl (cA 0, (gcap ka z1), .inl g_21)) := e_51 _ _ e_23 n4.1
  exact hret 30 _ _ _ d_Fr_setTo_30 (show B_42.1 ≤ MC by omega) (show B_42.2 ≤ MS by omega) ⟨⟨_, _, _, f_62, f_63, by omega, e_25⟩, ⟨_, _, _, e_47, e_48, by omega, e_50⟩, f_61, gfr_mono (gfr_tr (gfr_tr hfr0 e_26) e_51) (fun _ h => by omega), by show B_42.1 + _ + _ ≤ _; omega, by show B_42.2 + _ + _ ≤ _; omega⟩
set_option maxHeartbeats 4000000 in
theorem n_FsetTo (l : Launch) (D : va_G) (cA : Nat → ClassId) (lo MC MS : Nat) (G : gT) (B : Nat × Nat) (X : Nat × Nat) (ad V : Nat → Nat) (hW : w2 cA X ad V (G, B)) (hX1 : X.1 ≤ MC) (hX2 : X.2 ≤ MS) (hf ta tb to : Nat) (sf : Int32) (hhf : G hf = some (to, .inr (3, [.int sf, .ref (ad ta), .ref (ad tb)]))) (hta : 11 ≤ ta) (hta2 : ta < 19) (htb : 11 ≤ tb) (htb2 : tb < 19) (htab : ¬ ta = tb) (hto : 20 ≤ to) (hto2 : to ≤ 23) (h1 : Nat) (p1 : Int) (q1 k1 : Nat) (hr1 : rf cA G (fun x => 11 ≤ x ∧ ¬ x = 19 ∧ ¬ x = ta ∧ ¬ x = tb ∧ ¬ x = to) h1 p1 q1) (hp1 : p1.natAbs < 1000000000 ^ k1) (hq1 : q1 < 1000000000 ^ k1) (hkk : k1 ≤ 1500) : gMet l y_Fr_setTo w_Fr_setTo 4 104 D clS (gtys cA) lo MC MS [.ref hf, .ref h1] G B (gQv D clS lo (fun u => ∃ V1, w2s cA X ad (fun x => x = ta ∨ x = tb ∨ x = to) G V V1 u ∧ V1 ta = p1.natAbs ∧ V1 tb = q1 ∧ u.1 hf = some (to, .inr (3, [.int (sgI p1), .ref (ad ta), .ref (ad tb)])))) := by
  have hB := w2_le hW
  obtain ⟨κ, hκ, hb1, hb2⟩ := hW
  have hb1 : B.1 + 57000 ≤ X.1 + ks κ 19 := hb1
  have hb2 : B.2 + 114000 ≤ X.2 + 2 * ks κ 19 := hb2
  obtain ⟨t1, a1, b1, ht1, hh, ⟨u1, g1, hu1, hg1, c1, z1, f1, hh1, ha1, hz1, hD1⟩, ⟨u2, g2, hu2, hg2, c2, z2, f2, hh2, ha2, hz2, hD2⟩⟩ := hr1
  have e1 := isD_size hD1 hp1
  have e2 := isD_size hD2 hq1
  have hs := ks_st hκ hta2 htb2 htab
  have q1 := gcap_3 (hκ ta hta2).2 (show z1 ≤ 1500 by omega)
  have q2 := gcap_3 (hκ tb htb2).2 (show z2 ≤ 1500 by omega)
  have q3 := (gcap_ge (κ ta) z1).1
  have q4 := (gcap_ge (κ tb) z2).1
  refine gMet_v (c_Fr_setTo l D cA lo MC MS G B hf ta tb to (ad ta) (ad tb) (κ ta) (κ tb) (V ta) (V tb) sf hhf (hκ ta hta2).1 (hκ tb htb2).1 (hκ ta hta2).2 (hκ tb htb2).2 h1 t1 a1 b1 (sgI p1) hh c1 z1 g1 u1 f1 _ hh1 ha1 hz1 hg1 hD1 c2 z2 g2 u2 f2 _ hh2 ha2 hz2 hg2 hD2 (by omega) (by omega) ht1.2.2 hu1.2.2 hu2.2.2 ⟨htab, by omega, by omega⟩ (by omega) (by omega) (by omega) (by omega)) (fun u hu => ?_)
  obtain ⟨i1, i2, i3, i4, i5, i6⟩ := hu
  obtain ⟨V1, w1, w2, w3⟩ := w2_twoM (V := V) hκ hb1 hb2 hta2 htb2 htab i4 (fun x _ n1 n2 h => by omega) (Or.inl rfl) (Or.inr (Or.inl rfl)) i1 i2 q1 q2 i5 i6
  exact ⟨V1, w1, w2, w3, i3⟩
set_option maxHeartbeats 4000000 in
set_option maxRecDepth 100000 in
theorem c_Fr_copy (l : Launch) (D : va_G) (cA : Nat → ClassId) (lo MC MS : Nat) (G : gT) (B : Nat × Nat) (h1 t1 a1 b1 : Nat) (pv : Int) (qv : Nat) (hh : G h1 = some (t1, .inr (3, [.int (sgI pv), .ref a1, .ref b1]))) (c1 z1 g1 u1 : Nat) (f1 : Nat → Int32) (v1 : Nat) (hh1 : G a1 = some (u1, .inr (4, [.ref c1, .int (nI z1)]))) (ha1 : G c1 = some (u1, .inl (cA 0, g1, .inl f1))) (hz1 : z1 ≤ g1) (hg1 : g1 ≤ 3000) (hD1 : isD f1 z1 v1) (c2 z2 g2 u2 : Nat) (f2 : Nat → Int32) (v2 : Nat) (hh2 : G b1 = some (u2, .inr (4, [.ref c2, .int (nI z2)]))) (ha2 : G c2 = some (u2, .inl (cA 0, g2, .inl f2))) (hz2 : z2 ≤ g2) (hg2 : g2 ≤ 3000) (hD2 : isD f2 z2 v2) (hzz1 : z1 ≤ 1500) (hzz2 : z2 ≤ 1500) (hv1 : v1 = pv.natAbs) (hv2 : v2 = qv) (hC : B.1 + 5 ≤ MC) (hS : B.2 + 7 + z1 + z2 ≤ MS) (hB1 : B.1 ≤ MC) (hB2 : B.2 ≤ MS) : gMet l y_Fr_copy w_Fr_copy 5 125 D clS (gtys cA) lo MC MS [.ref h1] G B (gQr D clS lo (fun r u => gex (fun _ => False) G u.1 ∧ rf cA u.1 (fun x => x = 30) r pv qv ∧ u.2.1 ≤ B.1 + 5 ∧ u.2.2 ≤ B.2 + 7 + z1 + z2)) := by
  refine g_metr (cc := prog_5_method_4_code) (nL := 2) (L := [(0, .ref h1)]) (rt := ((.object "MetreFractions$Fraction"))) (by first | exact Or.inl ⟨_, rfl⟩ | exact Or.inr ⟨_, rfl⟩) (by decide +kernel) rfl (Nat.le_of_ble_eq_true rfl) rfl ?_
  intro p e R s m args below meth c Q hF hRc hRs hRf hRl hret
  obtain ⟨hx, hb, hr, hml, hts0, hown, hlocks, hin, hK, hlo, hZ⟩ := hF
  have hts : ∀ w ∈ tbg, w.before args s = true := fun w h => hts0 w (List.mem_cons_of_mem _ h)
  refine g_tag (fun T hT0 hT => ?_)
  have hT1 : t1 < T := hT _ _ hh
  have hT2 : u1 < T := hT _ _ hh1
  have hT3 : u2 < T := hT _ _ hh2
  have hgz1 : gcap z1 z1 = z1 := gcap_no (Nat.le_refl _)
  have hgz2 : gcap z2 z2 = z2 := gcap_no (Nat.le_refl _)
  have hz1b : z1 ≤ 1500 := hzz1
  have hz2b : z2 ≤ 1500 := hzz2
  have hE : gex (fun _ => False) G G := gex_rf
  refine g_new hx hb hts hin_Fr ty_Fr ty_Fr_ok hown (hts _ wm182) (hts _ wm156) (hts _ wm8) hK (ci := 3) rfl (fs := [.int (nI 0), .null, .null]) (fun j => match j with | 0 => fun _ => rfl | 1 => fun _ => rfl | 2 => fun _ => rfl | n + 3 => fun h9 => absurd h9 (by omega)) hlo hRc hRs (show B.1 + 1 ≤ MC by omega) (show B.2 + 3 ≤ MS by omega) d_Fr_copy_0 (T + 2) (fun q_1 G_2 z_3 f_4 o_5 => ?_)
  have f_6 : G_2 h1 = some (t1, .inr (3, [.int (sgI pv), .ref a1, .ref b1])) := (o_5 _ (fun e => by subst e; rw [hh] at z_3; cases z_3)).trans hh
  have f_7 : G_2 a1 = some (u1, .inr (4, [.ref c1, .int (nI z1)])) := (o_5 _ (fun e => by subst e; rw [hh1] at z_3; cases z_3)).trans hh1
  have f_8 : G_2 c1 = some (u1, .inl (cA 0, g1, .inl f1)) := (o_5 _ (fun e => by subst e; rw [ha1] at z_3; cases z_3)).trans ha1
  have f_9 : G_2 b1 = some (u2, .inr (4, [.ref c2, .int (nI z2)])) := (o_5 _ (fun e => by subst e; rw [hh2] at z_3; cases z_3)).trans hh2
  have f_10 : G_2 c2 = some (u2, .inl (cA 0, g2, .inl f2)) := (o_5 _ (fun e => by subst e; rw [ha2] at z_3; cases z_3)).trans ha2
  have z_11 : G q_1 = none := gex_0 hE z_3 (fun z => z)
  have x_12 : gex (fun _ => False) G G_2 := gex_new hE z_3 o_5
  refine g_Beq (B' := (B.1 + 1, B.2 + 3)) rfl ?_
  refine gs (pc' := 4) (fun _ _ _ _ _ hl => lv_dup hx hb d_Fr_copy_3 rfl) ?_
  refine gs (pc' := 5) (fun _ _ _ _ _ hl => lv_aload_n hx hb d_Fr_copy_4 rfl (lv_at hl 0 rfl)) ?_
  refine g_get hx hb hts hin_Fr hown hK f_6 rfl 1 (by decide) (hts _ wm166) (fun _ h9 => h9) rfl d_Fr_copy_5 ?_
  refine g_get hx hb hts hin_Na hown hK f_7 rfl 1 (by decide) (hts _ wm78) (fun _ h9 => h9) rfl d_Fr_copy_8 ?_
  refine gs (pc' := 12) (fun _ _ _ _ _ hl => lv_aload_n hx hb d_Fr_copy_11 rfl (lv_at hl 0 rfl)) ?_
  refine g_get hx hb hts hin_Fr hown hK f_6 rfl 2 (by decide) (hts _ wm169) (fun _ h9 => h9) rfl d_Fr_copy_12 ?_
  refine g_get hx hb hts hin_Na hown hK f_9 rfl 1 (by decide) (hts _ wm78) (fun _ h9 => h9) rfl d_Fr_copy_15 ?_
  refine g_outv hlo (g_runI (b := q_1) (As := [.int (nI z1), .int (nI z2)]) (rest := [.ref q_1]) ⟨hx, hb, hml, hown, hts⟩ hK hZ hRc hRs (c_Fr_init l D cA lo MC MS G_2 (B.1 + 1, B.2 + 3) (T + 2) T (T + 1) q_1 z1 z2 (by omega) f_4 (by omega) (by omega) (show B.1 + 1 + 4 ≤ MC by omega) (show B.2 + 3 + 4 + z1 + z2 ≤ MS by omega) (show B.1 + 1 ≤ MC by omega) (show B.2 + 3 ≤ MS by omega)) (fun _ _ => cwI 2 hts (tb_good k_Fr_init) rfl rfl rfl (hts _ wm8) (hts _ wm183) (hts _ wm158) rfl (by decide +kernel) ⟨by rw [hRf]; exact Nat.le_of_ble_eq_true rfl, by rw [hRl]; exact Nat.le_of_ble_eq_true rfl⟩) (show B.1 + 1 ≤ MC by omega) (show B.2 + 3 ≤ MS by omega) rfl (Nat.le_of_ble_eq_true rfl) d_Fr_copy_18) (fun G_13 B_14 p_15 => ?_)
  obtain ⟨a_16, b_17, z_18, z_19, f_20, n_21, n_22, x_23, e_24⟩ := p_15
  have e_24 : B_14 = (B.1 + 1 + 1 + 1 + 1 + 1, B.2 + 3 + 2 + z1 + 2 + z2) := e_24
  subst e_24
  have f_25 : G_13 h1 = some (t1, .inr (3, [.int (sgI pv), .ref a1, .ref b1])) := x_23 _ _ f_6 (gne f_6 f_4 (fun e9 => by have e8 := congrArg Prod.fst e9; simp only at e8; omega))
  have f_26 : G_13 a1 = some (u1, .inr (4, [.ref c1, .int (nI z1)])) := x_23 _ _ f_7 (gne f_7 f_4 (fun e9 => by have e8 := congrArg Prod.fst e9; simp only at e8; omega))
  have f_27 : G_13 c1 = some (u1, .inl (cA 0, g1, .inl f1)) := x_23 _ _ f_8 (gne f_8 f_4 (fun e9 => by have e8 := congrArg Prod.fst e9; simp only at e8; omega))
  have f_28 : G_13 b1 = some (u2, .inr (4, [.ref c2, .int (nI z2)])) := x_23 _ _ f_9 (gne f_9 f_4 (fun e9 => by have e8 := congrArg Prod.fst e9; simp only at e8; omega))
  have f_29 : G_13 c2 = some (u2, .inl (cA 0, g2, .inl f2)) := x_23 _ _ f_10 (gne f_10 f_4 (fun e9 => by have e8 := congrArg Prod.fst e9; simp only at e8; omega))
  have x_30 : gex (fun _ => False) G G_13 := gex_tr x_12 x_23 (fun x y hx9 _ e => by subst e; rw [z_11] at hx9; cases hx9)
  refine gst (pc' := 22) (L' := [(1, .ref q_1), (0, .ref h1)]) (fun _ _ _ _ _ hl => lv_astore_n hx hb d_Fr_copy_21 rfl hl (by decide) rfl) ?_
  refine gs (pc' := 23) (fun _ _ _ _ _ hl => lv_aload_n hx hb d_Fr_copy_22 rfl (lv_at hl 0 rfl)) ?_
  refine gs (pc' := 24) (fun _ _ _ _ _ hl => lv_aload_n hx hb d_Fr_copy_23 rfl (lv_at hl 1 rfl)) ?_
  refine g_outv hlo (g_runV (As := [.ref h1]) (rest := []) ⟨hx, hb, hml, hown, hts⟩ hK hZ hRc hRs (c_Fr_setTo l D cA lo MC MS G_13 (B.1 + 1 + 1 + 1 + 1 + 1, B.2 + 3 + 2 + z1 + 2 + z2) q_1 T (T + 1) (T + 2) a_16 b_17 z1 z2 0 0 (nI 0) f_20 n_21 n_22 (by omega) (by omega) h1 t1 a1 b1 (sgI pv) f_25 c1 z1 g1 u1 f1 v1 f_26 f_27 hz1 hg1 hD1 c2 z2 g2 u2 f2 v2 f_28 f_29 hz2 hg2 hD2 (by omega) (by omega) (by omega) (by omega) (by omega) (by omega) (by omega) (by omega) (show B.1 + 1 + 1 + 1 + 1 + 1 ≤ MC by omega) (show B.2 + 3 + 2 + z1 + 2 + z2 ≤ MS by omega)) (fun _ _ => cwV 1 hts (tb_good (tb_cons wm513 (tb_cons wm514 (tb_cons wm515 (tb_cons wm8 k_Fr_setTo))))) rfl rfl rfl (by decide +kernel) ⟨by rw [hRf]; exact Nat.le_of_ble_eq_true rfl, by rw [hRl]; exact Nat.le_of_ble_eq_true rfl⟩) f_20 rfl (show B.1 + 1 + 1 + 1 + 1 + 1 ≤ MC by omega) (show B.2 + 3 + 2 + z1 + 2 + z2 ≤ MS by omega) rfl (Nat.le_of_ble_eq_true rfl) d_Fr_copy_24) (fun G_31 B_32 p_33 => ?_)
  obtain ⟨i1, i2, i3, i4, i5, i6⟩ := p_33
  have hxx : gex (fun _ => False) G G_31 := gex_fr x_30 i4 (fun x y hx9 _ hm => by have := hT x y hx9; omega)
  have i5 : B_32.1 + _ + _ ≤ _ := i5
  have i6 : B_32.2 + _ + _ ≤ _ := i6
  rw [hgz1, hgz2] at i5 i6
  have i5 : B_32.1 + z1 + z2 ≤ B.1 + 1 + 1 + 1 + 1 + 1 + z1 + z2 := i5
  have i6 : B_32.2 + 2 * z1 + 2 * z2 ≤ B.2 + 3 + 2 + z1 + 2 + z2 + 2 * z1 + 2 * z2 := i6
  refine gs (pc' := 28) (fun _ _ _ _ _ hl => lv_aload_n hx hb d_Fr_copy_27 rfl (lv_at hl 0 rfl)) ?_
  refine g_ghost (G' := retag T 30 G_31) (fun a t x h => retag_g a t x h) ?_
  exact hret 28 _ _ _ _ d_Fr_copy_28 (show B_32.1 ≤ MC by omega) (show B_32.2 ≤ MS by omega) ⟨retag_ex hxx hT, ⟨30, _, _, rfl, retag_new i3 (show T ≤ T + 2 by omega), ⟨30, _, rfl, (show gcap z1 z1 ≤ 3000 by omega), hv1 ▸ retag_N i1 (Nat.le_refl _)⟩, ⟨30, _, rfl, (show gcap z2 z2 ≤ 3000 by omega), hv2 ▸ retag_N i2 (by omega)⟩⟩, by show B_32.1 ≤ _; omega, by show B_32.2 ≤ _; omega⟩
