set_option maxHeartbeats 4000000 in
set_option maxRecDepth 100000 in
theorem c_Fr_init (l : Launch) (D : va_G) (cA : Nat → ClassId) (lo MC MS : Nat) (G : gT) (B : Nat × Nat) (to ta tb h r1 r2 : Nat) (htab : ¬ ta = tb) (hh : G h = some (to, .inr (3, [.int (nI 0), .null, .null]))) (hr1 : r1 ≤ 100000) (hr2 : r2 ≤ 100000) (hC : B.1 + 4 ≤ MC) (hS : B.2 + 4 + r1 + r2 ≤ MS) (hB1 : B.1 ≤ MC) (hB2 : B.2 ≤ MS) : gMet l y_Fr_init w_Fr_init 2 42 D clS (gtys cA) lo MC MS [.ref h, .int (nI r1), .int (nI r2)] G B (gQv D clS lo (fun u => ∃ ha hb, G ha = none ∧ G hb = none ∧ u.1 h = some (to, .inr (3, [.int (nI 0), .ref ha, .ref hb])) ∧ isN cA u.1 r1 ta ha 0 ∧ isN cA u.1 r2 tb hb 0 ∧ gex (fun x => x = h) G u.1 ∧ u.2 = (B.1 + 1 + 1 + 1 + 1, B.2 + 2 + r1 + 2 + r2))) := by
  refine g_metv (cc := prog_5_method_1_code) (nL := 3) (L := [(0, .ref h), (1, .int (nI r1)), (2, .int (nI r2))]) (by decide +kernel) rfl (Nat.le_of_ble_eq_true rfl) rfl ?_
  intro p e R s m args below meth c Q hF hRc hRs hRf hRl hret
  obtain ⟨hx, hb, hr, hml, hts0, hown, hlocks, hin, hK, hlo, hZ⟩ := hF
  have hts : ∀ w ∈ tbg, w.before args s = true := fun w h => hts0 w (List.mem_cons_of_mem _ h)
  have hE : gex (fun x => x = h) G G := gex_rf
  refine gs (pc' := 1) (fun _ _ _ _ _ hl => lv_aload_n hx hb d_Fr_init_0 rfl (lv_at hl 0 rfl)) ?_
  refine gs (pc' := 4) (st' := []) (fun _ _ _ _ _ hl => fun kk => W.objInit (g := F0 m 1 _ (.ref h :: [])) hx hb hown (hts _ wm160) (hts _ wm26) (hts _ wm27) rfl (by rw [hml]; exact hl.1) rfl d_Fr_init_1 (by rw [hRf]; exact Nat.le_of_ble_eq_true rfl) (by rw [hRl]; exact Nat.le_of_ble_eq_true rfl) kk) ?_
  refine gs (pc' := 5) (fun _ _ _ _ _ hl => lv_aload_n hx hb d_Fr_init_4 rfl (lv_at hl 0 rfl)) ?_
  refine gs (pc' := 6) (fun _ _ _ _ _ hl => lv_iconst (v := nI 0) hx hb d_Fr_init_5 (by decide)) ?_
  refine g_put (ty := .int) hx hb hts hin_Fr ty_Fr ty_Fr_ok nm_Fr hown hK hh rfl 0 (by decide) (hts _ wm163) (fun _ h9 => h9) rfl (by decide +kernel) rfl rfl (Nat.le_of_ble_eq_true rfl) d_Fr_init_6 (fun G_1 f_2 o_3 => ?_)
  have f_4 : G_1 h = some (to, .inr (3, [.int (nI 0), .null, .null])) := f_2
  have x_5 : gex (fun x => x = h) G G_1 := gex_put hE o_3 (Or.inl rfl)
  refine gs (pc' := 10) (fun _ _ _ _ _ hl => lv_aload_n hx hb d_Fr_init_9 rfl (lv_at hl 0 rfl)) ?_
  refine g_new hx hb hts hin_Na ty_Na ty_Na_ok hown (hts _ wm161) (hts _ wm64) (hts _ wm5) hK (ci := 4) rfl (fs := [.null, .int (nI 0)]) (fun j => match j with | 0 => fun _ => rfl | 1 => fun _ => rfl | n + 2 => fun h9 => absurd h9 (by omega)) hlo hRc hRs (show B.1 + 1 ≤ MC by omega) (show B.2 + 2 ≤ MS by omega) d_Fr_init_10 ta (fun q_6 G_7 z_8 f_9 o_10 => ?_)
  have f_11 : G_7 h = some (to, .inr (3, [.int (nI 0), .null, .null])) := (o_10 _ (fun e => by subst e; rw [f_4] at z_8; cases z_8)).trans f_4
  have z_12 : G q_6 = none := gex_0 x_5 z_8 (fun z => by have z := z.symm; subst z; rw [f_4] at z_8; cases z_8)
  have x_13 : gex (fun x => x = h) G G_7 := gex_new x_5 z_8 o_10
  refine g_Beq (B' := (B.1 + 1, B.2 + 2)) rfl ?_
  refine gs (pc' := 14) (fun _ _ _ _ _ hl => lv_dup hx hb d_Fr_init_13 rfl) ?_
  refine gs (pc' := 15) (fun _ _ _ _ _ hl => lv_iload_n hx hb d_Fr_init_14 rfl (lv_at hl 1 rfl)) ?_
  refine g_outv hlo (g_runI (b := q_6) (As := [.int (nI r1)]) (rest := [.ref q_6, .ref h]) ⟨hx, hb, hml, hown, hts⟩ hK hZ hRc hRs (c_Na_init l D cA lo MC MS G_7 (B.1 + 1, B.2 + 2) ta q_6 r1 f_9 (by omega) (show B.1 + 1 + 1 ≤ MC by omega) (show B.2 + 2 + r1 ≤ MS by omega) (show B.1 + 1 ≤ MC by omega) (show B.2 + 2 ≤ MS by omega)) (fun _ _ => cwI 1 hts (tb_good k_Na_init) rfl rfl rfl (hts _ wm5) (hts _ wm162) (hts _ wm66) rfl (by decide +kernel) ⟨by rw [hRf]; exact Nat.le_of_ble_eq_true rfl, by rw [hRl]; exact Nat.le_of_ble_eq_true rfl⟩) (show B.1 + 1 ≤ MC by omega) (show B.2 + 2 ≤ MS by omega) rfl (Nat.le_of_ble_eq_true rfl) d_Fr_init_15) (fun G_14 B_15 p_16 => ?_)
  obtain ⟨a_17, z_18, f_19, f_20, x_21, e_22⟩ := p_16
  have z_23 : G a_17 = none := gex_0 x_13 z_18 (fun z => by have z := z.symm; subst z; rw [f_11] at z_18; cases z_18)
  have e_22 : B_15 = (B.1 + 1 + 1, B.2 + 2 + r1) := e_22
  subst e_22
  have f_24 : G_14 h = some (to, .inr (3, [.int (nI 0), .null, .null])) := x_21 _ _ f_11 (gne f_11 f_9 (fun e => by cases e))
  have x_25 : gex (fun x => x = h) G G_14 := gex_tr x_13 x_21 (fun x y hx9 _ e => by subst e; rw [z_12] at hx9; cases hx9)
  refine g_putF (ty := .object "MetreFractions$Natural") hx hb hts hin_Fr ty_Fr ty_Fr_ok nm_Fr hown hK f_24 rfl 1 (by decide) (hts _ wm166) (fun _ h9 => h9) rfl hin rfl (by decide +kernel) rfl rfl (Nat.le_of_ble_eq_true rfl) d_Fr_init_18 (fun G_26 f_27 o_28 => ?_)
  have f_29 : G_26 h = some (to, .inr (3, [.int (nI 0), .ref q_6, .null])) := f_27
  have f_30 : G_26 q_6 = some (ta, .inr (4, [.ref a_17, .int (nI 0)])) := (o_28 _ (gne f_19 f_24 (fun e => by cases e))).trans f_19
  have f_31 : G_26 a_17 = some (ta, .inl (cA 0, r1, .inl (fun _ => 0))) := (o_28 _ (gne f_20 f_24 (fun e => by cases e))).trans f_20
  have x_32 : gex (fun x => x = h) G G_26 := gex_put x_25 o_28 (Or.inl rfl)
  refine gs (pc' := 22) (fun _ _ _ _ _ hl => lv_aload_n hx hb d_Fr_init_21 rfl (lv_at hl 0 rfl)) ?_
  refine g_new hx hb hts hin_Na ty_Na ty_Na_ok hown (hts _ wm161) (hts _ wm64) (hts _ wm5) hK (ci := 4) rfl (fs := [.null, .int (nI 0)]) (fun j => match j with | 0 => fun _ => rfl | 1 => fun _ => rfl | n + 2 => fun h9 => absurd h9 (by omega)) hlo hRc hRs (show B.1 + 1 + 1 + 1 ≤ MC by omega) (show B.2 + 2 + r1 + 2 ≤ MS by omega) d_Fr_init_22 tb (fun q_33 G_34 z_35 f_36 o_37 => ?_)
  have f_38 : G_34 q_6 = some (ta, .inr (4, [.ref a_17, .int (nI 0)])) := (o_37 _ (fun e => by subst e; rw [f_30] at z_35; cases z_35)).trans f_30
  have f_39 : G_34 a_17 = some (ta, .inl (cA 0, r1, .inl (fun _ => 0))) := (o_37 _ (fun e => by subst e; rw [f_31] at z_35; cases z_35)).trans f_31
  have f_40 : G_34 h = some (to, .inr (3, [.int (nI 0), .ref q_6, .null])) := (o_37 _ (fun e => by subst e; rw [f_29] at z_35; cases z_35)).trans f_29
  have z_41 : G q_33 = none := gex_0 x_32 z_35 (fun z => by have z := z.symm; subst z; rw [f_29] at z_35; cases z_35)
  have x_42 : gex (fun x => x = h) G G_34 := gex_new x_32 z_35 o_37
  refine g_Beq (B' := (B.1 + 1 + 1 + 1, B.2 + 2 + r1 + 2)) rfl ?_
  refine gs (pc' := 26) (fun _ _ _ _ _ hl => lv_dup hx hb d_Fr_init_25 rfl) ?_
  refine gs (pc' := 27) (fun _ _ _ _ _ hl => lv_iload_n hx hb d_Fr_init_26 rfl (lv_at hl 2 rfl)) ?_
  refine g_outv hlo (g_runI (b := q_33) (As := [.int (nI r2)]) (rest := [.ref q_33, .ref h]) ⟨hx, hb, hml, hown, hts⟩ hK hZ hRc hRs (c_Na_init l D cA lo MC MS G_34 (B.1 + 1 + 1 + 1, B.2 + 2 + r1 + 2) tb q_33 r2 f_36 (by omega) (show B.1 + 1 + 1 + 1 + 1 ≤ MC by omega) (show B.2 + 2 + r1 + 2 + r2 ≤ MS by omega) (show B.1 + 1 + 1 + 1 ≤ MC by omega) (show B.2 + 2 + r1 + 2 ≤ MS by omega)) (fun _ _ => cwI 1 hts (tb_good k_Na_init) rfl rfl rfl (hts _ wm5) (hts _ wm162) (hts _ wm66) rfl (by decide +kernel) ⟨by rw [hRf]; exact Nat.le_of_ble_eq_true rfl, by rw [hRl]; exact Nat.le_of_ble_eq_true rfl⟩) (show B.1 + 1 + 1 + 1 ≤ MC by omega) (show B.2 + 2 + r1 + 2 ≤ MS by omega) rfl (Nat.le_of_ble_eq_true rfl) d_Fr_init_27) (fun G_43 B_44 p_45 => ?_)
  obtain ⟨a_46, z_47, f_48, f_49, x_50, e_51⟩ := p_45
  have z_52 : G a_46 = none := gex_0 x_42 z_47 (fun z => by have z := z.symm; subst z; rw [f_40] at z_47; cases z_47)
  have e_51 : B_44 = (B.1 + 1 + 1 + 1 + 1, B.2 + 2 + r1 + 2 + r2) := e_51
  subst e_51
  have f_53 : G_43 q_6 = some (ta, .inr (4, [.ref a_17, .int (nI 0)])) := x_50 _ _ f_38 (gne f_38 f_36 (fun e => htab (congrArg Prod.fst e)))
  have f_54 : G_43 a_17 = some (ta, .inl (cA 0, r1, .inl (fun _ => 0))) := x_50 _ _ f_39 (gne f_39 f_36 (fun e => by cases e))
  have f_55 : G_43 h = some (to, .inr (3, [.int (nI 0), .ref q_6, .null])) := x_50 _ _ f_40 (gne f_40 f_36 (fun e => by cases e))
  have x_56 : gex (fun x => x = h) G G_43 := gex_tr x_42 x_50 (fun x y hx9 _ e => by subst e; rw [z_41] at hx9; cases hx9)
  refine g_putF (ty := .object "MetreFractions$Natural") hx hb hts hin_Fr ty_Fr ty_Fr_ok nm_Fr hown hK f_55 rfl 2 (by decide) (hts _ wm169) (fun _ h9 => h9) rfl hin rfl (by decide +kernel) rfl rfl (Nat.le_of_ble_eq_true rfl) d_Fr_init_30 (fun G_57 f_58 o_59 => ?_)
  have f_60 : G_57 h = some (to, .inr (3, [.int (nI 0), .ref q_6, .ref q_33])) := f_58
  have f_61 : G_57 q_6 = some (ta, .inr (4, [.ref a_17, .int (nI 0)])) := (o_59 _ (gne f_53 f_55 (fun e => by cases e))).trans f_53
  have f_62 : G_57 a_17 = some (ta, .inl (cA 0, r1, .inl (fun _ => 0))) := (o_59 _ (gne f_54 f_55 (fun e => by cases e))).trans f_54
  have f_63 : G_57 q_33 = some (tb, .inr (4, [.ref a_46, .int (nI 0)])) := (o_59 _ (gne f_48 f_55 (fun e => by cases e))).trans f_48
  have f_64 : G_57 a_46 = some (tb, .inl (cA 0, r2, .inl (fun _ => 0))) := (o_59 _ (gne f_49 f_55 (fun e => by cases e))).trans f_49
  have x_65 : gex (fun x => x = h) G G_57 := gex_put x_56 o_59 (Or.inl rfl)
  exact hret 33 _ _ _ d_Fr_init_33 (show B.1 + 1 + 1 + 1 + 1 ≤ MC by omega) (show B.2 + 2 + r1 + 2 + r2 ≤ MS by omega) ⟨q_6, q_33, z_12, z_41, f_60, isN_0 f_61 f_62, isN_0 f_63 f_64, x_65, rfl⟩
set_option maxHeartbeats 4000000 in
set_option maxRecDepth 100000 in
theorem c_Di_init (l : Launch) (D : va_G) (cA : Nat → ClassId) (lo MC MS : Nat) (G : gT) (B : Nat × Nat) (t h : Nat) (hh : G h = some (t, .inr (2, [.null, .null, .null]))) (hC : B.1 + 6 ≤ MC) (hS : B.2 + 78 ≤ MS) (hB1 : B.1 ≤ MC) (hB2 : B.2 ≤ MS) : gMet l y_Di_init w_Di_init 2 42 D clS (gtys cA) lo MC MS [.ref h] G B (gQv D clS lo (fun u => ∃ a0 a1 a2, u.1 h = some (t, .inr (2, [.ref a0, .ref a1, .ref a2])) ∧ isN cA u.1 24 0 a0 0 ∧ isN cA u.1 24 1 a1 0 ∧ isN cA u.1 24 2 a2 0 ∧ gex (fun x => x = h) G u.1 ∧ u.2 = (B.1 + 1 + 1 + 1 + 1 + 1 + 1, B.2 + 2 + 24 + 2 + 24 + 2 + 24))) := by
  refine g_metv (cc := prog_4_method_1_code) (nL := 1) (L := [(0, .ref h)]) (by decide +kernel) rfl (Nat.le_of_ble_eq_true rfl) rfl ?_
  intro p e R s m args below meth c Q hF hRc hRs hRf hRl hret
  obtain ⟨hx, hb, hr, hml, hts0, hown, hlocks, hin, hK, hlo, hZ⟩ := hF
  have hts : ∀ w ∈ tbg, w.before args s = true := fun w h => hts0 w (List.mem_cons_of_mem _ h)
  have hE : gex (fun x => x = h) G G := gex_rf
  refine gs (pc' := 1) (fun _ _ _ _ _ hl => lv_aload_n hx hb d_Di_init_0 rfl (lv_at hl 0 rfl)) ?_
  refine gs (pc' := 4) (st' := []) (fun _ _ _ _ _ hl => fun kk => W.objInit (g := F0 m 1 _ (.ref h :: [])) hx hb hown (hts _ wm62) (hts _ wm26) (hts _ wm27) rfl (by rw [hml]; exact hl.1) rfl d_Di_init_1 (by rw [hRf]; exact Nat.le_of_ble_eq_true rfl) (by rw [hRl]; exact Nat.le_of_ble_eq_true rfl) kk) ?_
  refine gs (pc' := 5) (fun _ _ _ _ _ hl => lv_aload_n hx hb d_Di_init_4 rfl (lv_at hl 0 rfl)) ?_
  refine g_new hx hb hts hin_Na ty_Na ty_Na_ok hown (hts _ wm63) (hts _ wm64) (hts _ wm5) hK (ci := 4) rfl (fs := [.null, .int (nI 0)]) (fun j => match j with | 0 => fun _ => rfl | 1 => fun _ => rfl | n + 2 => fun h9 => absurd h9 (by omega)) hlo hRc hRs (show B.1 + 1 ≤ MC by omega) (show B.2 + 2 ≤ MS by omega) d_Di_init_5 0 (fun q_1 G_2 z_3 f_4 o_5 => ?_)
  have f_6 : G_2 h = some (t, .inr (2, [.null, .null, .null])) := (o_5 _ (fun e => by subst e; rw [hh] at z_3; cases z_3)).trans hh
  have z_7 : G q_1 = none := gex_0 hE z_3 (fun z => by have z := z.symm; subst z; rw [hh] at z_3; cases z_3)
  have x_8 : gex (fun x => x = h) G G_2 := gex_new hE z_3 o_5
  refine g_Beq (B' := (B.1 + 1, B.2 + 2)) rfl ?_
  refine gs (pc' := 9) (fun _ _ _ _ _ hl => lv_dup hx hb d_Di_init_8 rfl) ?_
  refine gs (pc' := 11) (fun _ _ _ _ _ hl => lv_bipush (v := nI 24) hx hb d_Di_init_9 (by decide)) ?_
  refine g_outv hlo (g_runI (b := q_1) (As := [.int (nI 24)]) (rest := [.ref q_1, .ref h]) ⟨hx, hb, hml, hown, hts⟩ hK hZ hRc hRs (c_Na_init l D cA lo MC MS G_2 (B.1 + 1, B.2 + 2) 0 q_1 24 f_4 (by omega) (show B.1 + 1 + 1 ≤ MC by omega) (show B.2 + 2 + 24 ≤ MS by omega) (show B.1 + 1 ≤ MC by omega) (show B.2 + 2 ≤ MS by omega)) (fun _ _ => cwI 1 hts (tb_good k_Na_init) rfl rfl rfl (hts _ wm5) (hts _ wm65) (hts _ wm66) rfl (by decide +kernel) ⟨by rw [hRf]; exact Nat.le_of_ble_eq_true rfl, by rw [hRl]; exact Nat.le_of_ble_eq_true rfl⟩) (show B.1 + 1 ≤ MC by omega) (show B.2 + 2 ≤ MS by omega) rfl (Nat.le_of_ble_eq_true rfl) d_Di_init_11) (fun G_9 B_10 p_11 => ?_)
  obtain ⟨a_12, z_13, f_14, f_15, x_16, e_17⟩ := p_11
  have z_18 : G a_12 = none := gex_0 x_8 z_13 (fun z => by have z := z.symm; subst z; rw [f_6] at z_13; cases z_13)
  have e_17 : B_10 = (B.1 + 1 + 1, B.2 + 2 + 24) := e_17
  subst e_17
  have f_19 : G_9 h = some (t, .inr (2, [.null, .null, .null])) := x_16 _ _ f_6 (gne f_6 f_4 (fun e => by cases e))
  have x_20 : gex (fun x => x = h) G G_9 := gex_tr x_8 x_16 (fun x y hx9 _ e => by subst e; rw [z_7] at hx9; cases hx9)
  refine g_putF (ty := .object "MetreFractions$Natural") hx hb hts hin_Di ty_Di ty_Di_ok nm_Di hown hK f_19 rfl 0 (by decide) (hts _ wm85) (fun _ h9 => h9) rfl hin rfl (by decide +kernel) rfl rfl (Nat.le_of_ble_eq_true rfl) d_Di_init_14 (fun G_21 f_22 o_23 => ?_)
  have f_24 : G_21 h = some (t, .inr (2, [.ref q_1, .null, .null])) := f_22
  have f_25 : G_21 q_1 = some (0, .inr (4, [.ref a_12, .int (nI 0)])) := (o_23 _ (gne f_14 f_19 (fun e => by cases e))).trans f_14
  have f_26 : G_21 a_12 = some (0, .inl (cA 0, 24, .inl (fun _ => 0))) := (o_23 _ (gne f_15 f_19 (fun e => by cases e))).trans f_15
  have x_27 : gex (fun x => x = h) G G_21 := gex_put x_20 o_23 (Or.inl rfl)
  refine gs (pc' := 18) (fun _ _ _ _ _ hl => lv_aload_n hx hb d_Di_init_17 rfl (lv_at hl 0 rfl)) ?_
  refine g_new hx hb hts hin_Na ty_Na ty_Na_ok hown (hts _ wm63) (hts _ wm64) (hts _ wm5) hK (ci := 4) rfl (fs := [.null, .int (nI 0)]) (fun j => match j with | 0 => fun _ => rfl | 1 => fun _ => rfl | n + 2 => fun h9 => absurd h9 (by omega)) hlo hRc hRs (show B.1 + 1 + 1 + 1 ≤ MC by omega) (show B.2 + 2 + 24 + 2 ≤ MS by omega) d_Di_init_18 1 (fun q_28 G_29 z_30 f_31 o_32 => ?_)
  have f_33 : G_29 q_1 = some (0, .inr (4, [.ref a_12, .int (nI 0)])) := (o_32 _ (fun e => by subst e; rw [f_25] at z_30; cases z_30)).trans f_25
  have f_34 : G_29 a_12 = some (0, .inl (cA 0, 24, .inl (fun _ => 0))) := (o_32 _ (fun e => by subst e; rw [f_26] at z_30; cases z_30)).trans f_26
  have f_35 : G_29 h = some (t, .inr (2, [.ref q_1, .null, .null])) := (o_32 _ (fun e => by subst e; rw [f_24] at z_30; cases z_30)).trans f_24
  have z_36 : G q_28 = none := gex_0 x_27 z_30 (fun z => by have z := z.symm; subst z; rw [f_24] at z_30; cases z_30)
  have x_37 : gex (fun x => x = h) G G_29 := gex_new x_27 z_30 o_32
  refine g_Beq (B' := (B.1 + 1 + 1 + 1, B.2 + 2 + 24 + 2)) rfl ?_
  refine gs (pc' := 22) (fun _ _ _ _ _ hl => lv_dup hx hb d_Di_init_21 rfl) ?_
  refine gs (pc' := 24) (fun _ _ _ _ _ hl => lv_bipush (v := nI 24) hx hb d_Di_init_22 (by decide)) ?_
  refine g_outv hlo (g_runI (b := q_28) (As := [.int (nI 24)]) (rest := [.ref q_28, .ref h]) ⟨hx, hb, hml, hown, hts⟩ hK hZ hRc hRs (c_Na_init l D cA lo MC MS G_29 (B.1 + 1 + 1 + 1, B.2 + 2 + 24 + 2) 1 q_28 24 f_31 (by omega) (show B.1 + 1 + 1 + 1 + 1 ≤ MC by omega) (show B.2 + 2 + 24 + 2 + 24 ≤ MS by omega) (show B.1 + 1 + 1 + 1 ≤ MC by omega) (show B.2 + 2 + 24 + 2 ≤ MS by omega)) (fun _ _ => cwI 1 hts (tb_good k_Na_init) rfl rfl rfl (hts _ wm5) (hts _ wm65) (hts _ wm66) rfl (by decide +kernel) ⟨by rw [hRf]; exact Nat.le_of_ble_eq_true rfl, by rw [hRl]; exact Nat.le_of_ble_eq_true rfl⟩) (show B.1 + 1 + 1 + 1 ≤ MC by omega) (show B.2 + 2 + 24 + 2 ≤ MS by omega) rfl (Nat.le_of_ble_eq_true rfl) d_Di_init_24) (fun G_38 B_39 p_40 => ?_)
  obtain ⟨a_41, z_42, f_43, f_44, x_45, e_46⟩ := p_40
  have z_47 : G a_41 = none := gex_0 x_37 z_42 (fun z => by have z := z.symm; subst z; rw [f_35] at z_42; cases z_42)
  have e_46 : B_39 = (B.1 + 1 + 1 + 1 + 1, B.2 + 2 + 24 + 2 + 24) := e_46
  subst e_46
  have f_48 : G_38 q_1 = some (0, .inr (4, [.ref a_12, .int (nI 0)])) := x_45 _ _ f_33 (gne f_33 f_31 (by simp))
  have f_49 : G_38 a_12 = some (0, .inl (cA 0, 24, .inl (fun _ => 0))) := x_45 _ _ f_34 (gne f_34 f_31 (fun e => by cases e))
  have f_50 : G_38 h = some (t, .inr (2, [.ref q_1, .null, .null])) := x_45 _ _ f_35 (gne f_35 f_31 (fun e => by cases e))
  have x_51 : gex (fun x => x = h) G G_38 := gex_tr x_37 x_45 (fun x y hx9 _ e => by subst e; rw [z_36] at hx9; cases hx9)
  refine g_putF (ty := .object "MetreFractions$Natural") hx hb hts hin_Di ty_Di ty_Di_ok nm_Di hown hK f_50 rfl 1 (by decide) (hts _ wm87) (fun _ h9 => h9) rfl hin rfl (by decide +kernel) rfl rfl (Nat.le_of_ble_eq_true rfl) d_Di_init_27 (fun G_52 f_53 o_54 => ?_)
  have f_55 : G_52 h = some (t, .inr (2, [.ref q_1, .ref q_28, .null])) := f_53
  have f_56 : G_52 q_1 = some (0, .inr (4, [.ref a_12, .int (nI 0)])) := (o_54 _ (gne f_48 f_50 (fun e => by cases e))).trans f_48
  have f_57 : G_52 a_12 = some (0, .inl (cA 0, 24, .inl (fun _ => 0))) := (o_54 _ (gne f_49 f_50 (fun e => by cases e))).trans f_49
  have f_58 : G_52 q_28 = some (1, .inr (4, [.ref a_41, .int (nI 0)])) := (o_54 _ (gne f_43 f_50 (fun e => by cases e))).trans f_43
  have f_59 : G_52 a_41 = some (1, .inl (cA 0, 24, .inl (fun _ => 0))) := (o_54 _ (gne f_44 f_50 (fun e => by cases e))).trans f_44
  have x_60 : gex (fun x => x = h) G G_52 := gex_put x_51 o_54 (Or.inl rfl)
  refine gs (pc' := 31) (fun _ _ _ _ _ hl => lv_aload_n hx hb d_Di_init_30 rfl (lv_at hl 0 rfl)) ?_
  refine g_new hx hb hts hin_Na ty_Na ty_Na_ok hown (hts _ wm63) (hts _ wm64) (hts _ wm5) hK (ci := 4) rfl (fs := [.null, .int (nI 0)]) (fun j => match j with | 0 => fun _ => rfl | 1 => fun _ => rfl | n + 2 => fun h9 => absurd h9 (by omega)) hlo hRc hRs (show B.1 + 1 + 1 + 1 + 1 + 1 ≤ MC by omega) (show B.2 + 2 + 24 + 2 + 24 + 2 ≤ MS by omega) d_Di_init_31 2 (fun q_61 G_62 z_63 f_64 o_65 => ?_)
  have f_66 : G_62 q_1 = some (0, .inr (4, [.ref a_12, .int (nI 0)])) := (o_65 _ (fun e => by subst e; rw [f_56] at z_63; cases z_63)).trans f_56
  have f_67 : G_62 a_12 = some (0, .inl (cA 0, 24, .inl (fun _ => 0))) := (o_65 _ (fun e => by subst e; rw [f_57] at z_63; cases z_63)).trans f_57
  have f_68 : G_62 q_28 = some (1, .inr (4, [.ref a_41, .int (nI 0)])) := (o_65 _ (fun e => by subst e; rw [f_58] at z_63; cases z_63)).trans f_58
  have f_69 : G_62 a_41 = some (1, .inl (cA 0, 24, .inl (fun _ => 0))) := (o_65 _ (fun e => by subst e; rw [f_59] at z_63; cases z_63)).trans f_59
  have f_70 : G_62 h = some (t, .inr (2, [.ref q_1, .ref q_28, .null])) := (o_65 _ (fun e => by subst e; rw [f_55] at z_63; cases z_63)).trans f_55
  have z_71 : G q_61 = none := gex_0 x_60 z_63 (fun z => by have z := z.symm; subst z; rw [f_55] at z_63; cases z_63)
  have x_72 : gex (fun x => x = h) G G_62 := gex_new x_60 z_63 o_65
  refine g_Beq (B' := (B.1 + 1 + 1 + 1 + 1 + 1, B.2 + 2 + 24 + 2 + 24 + 2)) rfl ?_
  refine gs (pc' := 35) (fun _ _ _ _ _ hl => lv_dup hx hb d_Di_init_34 rfl) ?_
  refine gs (pc' := 37) (fun _ _ _ _ _ hl => lv_bipush (v := nI 24) hx hb d_Di_init_35 (by decide)) ?_
  refine g_outv hlo (g_runI (b := q_61) (As := [.int (nI 24)]) (rest := [.ref q_61, .ref h]) ⟨hx, hb, hml, hown, hts⟩ hK hZ hRc hRs (c_Na_init l D cA lo MC MS G_62 (B.1 + 1 + 1 + 1 + 1 + 1, B.2 + 2 + 24 + 2 + 24 + 2) 2 q_61 24 f_64 (by omega) (show B.1 + 1 + 1 + 1 + 1 + 1 + 1 ≤ MC by omega) (show B.2 + 2 + 24 + 2 + 24 + 2 + 24 ≤ MS by omega) (show B.1 + 1 + 1 + 1 + 1 + 1 ≤ MC by omega) (show B.2 + 2 + 24 + 2 + 24 + 2 ≤ MS by omega)) (fun _ _ => cwI 1 hts (tb_good k_Na_init) rfl rfl rfl (hts _ wm5) (hts _ wm65) (hts _ wm66) rfl (by decide +kernel) ⟨by rw [hRf]; exact Nat.le_of_ble_eq_true rfl, by rw [hRl]; exact Nat.le_of_ble_eq_true rfl⟩) (show B.1 + 1 + 1 + 1 + 1 + 1 ≤ MC by omega) (show B.2 + 2 + 24 + 2 + 24 + 2 ≤ MS by omega) rfl (Nat.le_of_ble_eq_true rfl) d_Di_init_37) (fun G_73 B_74 p_75 => ?_)
  obtain ⟨a_76, z_77, f_78, f_79, x_80, e_81⟩ := p_75
  have z_82 : G a_76 = none := gex_0 x_72 z_77 (fun z => by have z := z.symm; subst z; rw [f_70] at z_77; cases z_77)
  have e_81 : B_74 = (B.1 + 1 + 1 + 1 + 1 + 1 + 1, B.2 + 2 + 24 + 2 + 24 + 2 + 24) := e_81
  subst e_81
  have f_83 : G_73 q_1 = some (0, .inr (4, [.ref a_12, .int (nI 0)])) := x_80 _ _ f_66 (gne f_66 f_64 (by simp))
  have f_84 : G_73 a_12 = some (0, .inl (cA 0, 24, .inl (fun _ => 0))) := x_80 _ _ f_67 (gne f_67 f_64 (fun e => by cases e))
  have f_85 : G_73 q_28 = some (1, .inr (4, [.ref a_41, .int (nI 0)])) := x_80 _ _ f_68 (gne f_68 f_64 (by simp))
  have f_86 : G_73 a_41 = some (1, .inl (cA 0, 24, .inl (fun _ => 0))) := x_80 _ _ f_69 (gne f_69 f_64 (fun e => by cases e))
  have f_87 : G_73 h = some (t, .inr (2, [.ref q_1, .ref q_28, .null])) := x_80 _ _ f_70 (gne f_70 f_64 (fun e => by cases e))
  have x_88 : gex (fun x => x = h) G G_73 := gex_tr x_72 x_80 (fun x y hx9 _ e => by subst e; rw [z_71] at hx9; cases hx9)
  refine g_putF (ty := .object "MetreFractions$Natural") hx hb hts hin_Di ty_Di ty_Di_ok nm_Di hown hK f_87 rfl 2 (by decide) (hts _ wm90) (fun _ h9 => h9) rfl hin rfl (by decide +kernel) rfl rfl (Nat.le_of_ble_eq_true rfl) d_Di_init_40 (fun G_89 f_90 o_91 => ?_)
  have f_92 : G_89 h = some (t, .inr (2, [.ref q_1, .ref q_28, .ref q_61])) := f_90
  have f_93 : G_89 q_1 = some (0, .inr (4, [.ref a_12, .int (nI 0)])) := (o_91 _ (gne f_83 f_87 (fun e => by cases e))).trans f_83
  have f_94 : G_89 a_12 = some (0, .inl (cA 0, 24, .inl (fun _ => 0))) := (o_91 _ (gne f_84 f_87 (fun e => by cases e))).trans f_84
  have f_95 : G_89 q_28 = some (1, .inr (4, [.ref a_41, .int (nI 0)])) := (o_91 _ (gne f_85 f_87 (fun e => by cases e))).trans f_85
  have f_96 : G_89 a_41 = some (1, .inl (cA 0, 24, .inl (fun _ => 0))) := (o_91 _ (gne f_86 f_87 (fun e => by cases e))).trans f_86
  have f_97 : G_89 q_61 = some (2, .inr (4, [.ref a_76, .int (nI 0)])) := (o_91 _ (gne f_78 f_87 (fun e => by cases e))).trans f_78
  have f_98 : G_89 a_76 = some (2, .inl (cA 0, 24, .inl (fun _ => 0))) := (o_91 _ (gne f_79 f_87 (fun e => by cases e))).trans f_79
  have x_99 : gex (fun x => x = h) G G_89 := gex_put x_88 o_91 (Or.inl rfl)
  exact hret 43 _ _ _ d_Di_init_43 (show B.1 + 1 + 1 + 1 + 1 + 1 + 1 ≤ MC by omega) (show B.2 + 2 + 24 + 2 + 24 + 2 + 24 ≤ MS by omega) ⟨q_1, q_28, q_61, f_92, isN_0 f_93 f_94, isN_0 f_95 f_96, isN_0 f_97 f_98, x_99, rfl⟩
set_option maxHeartbeats 4000000 in
set_option maxRecDepth 100000 in
theorem c_Cd_init (l : Launch) (D : va_G) (cA : Nat → ClassId) (lo MC MS : Nat) (G : gT) (B : Nat × Nat) (t h hd : Nat) (hh : G h = some (t, .inr (1, [.null, .null, .null, .long (lN 0), .long (lN 0), .long (lN 0), .long (lN 0)]))) (hC : B.1 + 4 ≤ MC) (hS : B.2 + 52 ≤ MS) (hB1 : B.1 ≤ MC) (hB2 : B.2 ≤ MS) : gMet l y_Cd_init w_Cd_init 2 42 D clS (gtys cA) lo MC MS [.ref h, .ref hd] G B (gQv D clS lo (fun u => ∃ a3 a4, u.1 h = some (t, .inr (1, [.ref hd, .ref a3, .ref a4, .long (lN 0), .long (lN 0), .long (lN 0), .long (lN 0)])) ∧ isN cA u.1 24 3 a3 0 ∧ isN cA u.1 24 4 a4 0 ∧ gex (fun x => x = h) G u.1 ∧ u.2 = (B.1 + 1 + 1 + 1 + 1, B.2 + 2 + 24 + 2 + 24))) := by
  refine g_metv (cc := prog_3_method_1_code) (nL := 2) (L := [(0, .ref h), (1, .ref hd)]) (by decide +kernel) rfl (Nat.le_of_ble_eq_true rfl) rfl ?_
  intro p e R s m args below meth c Q hF hRc hRs hRf hRl hret
  obtain ⟨hx, hb, hr, hml, hts0, hown, hlocks, hin, hK, hlo, hZ⟩ := hF
  have hts : ∀ w ∈ tbg, w.before args s = true := fun w h => hts0 w (List.mem_cons_of_mem _ h)
  have hE : gex (fun x => x = h) G G := gex_rf
  refine gs (pc' := 1) (fun _ _ _ _ _ hl => lv_aload_n hx hb d_Cd_init_0 rfl (lv_at hl 0 rfl)) ?_
  refine gs (pc' := 4) (st' := []) (fun _ _ _ _ _ hl => fun kk => W.objInit (g := F0 m 1 _ (.ref h :: [])) hx hb hown (hts _ wm103) (hts _ wm26) (hts _ wm27) rfl (by rw [hml]; exact hl.1) rfl d_Cd_init_1 (by rw [hRf]; exact Nat.le_of_ble_eq_true rfl) (by rw [hRl]; exact Nat.le_of_ble_eq_true rfl) kk) ?_
  refine gs (pc' := 5) (fun _ _ _ _ _ hl => lv_aload_n hx hb d_Cd_init_4 rfl (lv_at hl 0 rfl)) ?_
  refine g_new hx hb hts hin_Na ty_Na ty_Na_ok hown (hts _ wm104) (hts _ wm64) (hts _ wm5) hK (ci := 4) rfl (fs := [.null, .int (nI 0)]) (fun j => match j with | 0 => fun _ => rfl | 1 => fun _ => rfl | n + 2 => fun h9 => absurd h9 (by omega)) hlo hRc hRs (show B.1 + 1 ≤ MC by omega) (show B.2 + 2 ≤ MS by omega) d_Cd_init_5 3 (fun q_1 G_2 z_3 f_4 o_5 => ?_)
  have f_6 : G_2 h = some (t, .inr (1, [.null, .null, .null, .long (lN 0), .long (lN 0), .long (lN 0), .long (lN 0)])) := (o_5 _ (fun e => by subst e; rw [hh] at z_3; cases z_3)).trans hh
  have z_7 : G q_1 = none := gex_0 hE z_3 (fun z => by have z := z.symm; subst z; rw [hh] at z_3; cases z_3)
  have x_8 : gex (fun x => x = h) G G_2 := gex_new hE z_3 o_5
  refine g_Beq (B' := (B.1 + 1, B.2 + 2)) rfl ?_
  refine gs (pc' := 9) (fun _ _ _ _ _ hl => lv_dup hx hb d_Cd_init_8 rfl) ?_
  refine gs (pc' := 11) (fun _ _ _ _ _ hl => lv_bipush (v := nI 24) hx hb d_Cd_init_9 (by decide)) ?_
  refine g_outv hlo (g_runI (b := q_1) (As := [.int (nI 24)]) (rest := [.ref q_1, .ref h]) ⟨hx, hb, hml, hown, hts⟩ hK hZ hRc hRs (c_Na_init l D cA lo MC MS G_2 (B.1 + 1, B.2 + 2) 3 q_1 24 f_4 (by omega) (show B.1 + 1 + 1 ≤ MC by omega) (show B.2 + 2 + 24 ≤ MS by omega) (show B.1 + 1 ≤ MC by omega) (show B.2 + 2 ≤ MS by omega)) (fun _ _ => cwI 1 hts (tb_good k_Na_init) rfl rfl rfl (hts _ wm5) (hts _ wm105) (hts _ wm66) rfl (by decide +kernel) ⟨by rw [hRf]; exact Nat.le_of_ble_eq_true rfl, by rw [hRl]; exact Nat.le_of_ble_eq_true rfl⟩) (show B.1 + 1 ≤ MC by omega) (show B.2 + 2 ≤ MS by omega) rfl (Nat.le_of_ble_eq_true rfl) d_Cd_init_11) (fun G_9 B_10 p_11 => ?_)
  obtain ⟨a_12, z_13, f_14, f_15, x_16, e_17⟩ := p_11
  have z_18 : G a_12 = none := gex_0 x_8 z_13 (fun z => by have z := z.symm; subst z; rw [f_6] at z_13; cases z_13)
  have e_17 : B_10 = (B.1 + 1 + 1, B.2 + 2 + 24) := e_17
  subst e_17
  have f_19 : G_9 h = some (t, .inr (1, [.null, .null, .null, .long (lN 0), .long (lN 0), .long (lN 0), .long (lN 0)])) := x_16 _ _ f_6 (gne f_6 f_4 (fun e => by cases e))
  have x_20 : gex (fun x => x = h) G G_9 := gex_tr x_8 x_16 (fun x y hx9 _ e => by subst e; rw [z_7] at hx9; cases hx9)
  refine g_putF (ty := .object "MetreFractions$Natural") hx hb hts hin_Cd ty_Cd ty_Cd_ok nm_Cd hown hK f_19 rfl 1 (by decide) (hts _ wm107) (fun _ h9 => h9) rfl hin rfl (by decide +kernel) rfl rfl (Nat.le_of_ble_eq_true rfl) d_Cd_init_14 (fun G_21 f_22 o_23 => ?_)
  have f_24 : G_21 h = some (t, .inr (1, [.null, .ref q_1, .null, .long (lN 0), .long (lN 0), .long (lN 0), .long (lN 0)])) := f_22
  have f_25 : G_21 q_1 = some (3, .inr (4, [.ref a_12, .int (nI 0)])) := (o_23 _ (gne f_14 f_19 (fun e => by cases e))).trans f_14
  have f_26 : G_21 a_12 = some (3, .inl (cA 0, 24, .inl (fun _ => 0))) := (o_23 _ (gne f_15 f_19 (fun e => by cases e))).trans f_15
  have x_27 : gex (fun x => x = h) G G_21 := gex_put x_20 o_23 (Or.inl rfl)
  refine gs (pc' := 18) (fun _ _ _ _ _ hl => lv_aload_n hx hb d_Cd_init_17 rfl (lv_at hl 0 rfl)) ?_
  refine g_new hx hb hts hin_Na ty_Na ty_Na_ok hown (hts _ wm104) (hts _ wm64) (hts _ wm5) hK (ci := 4) rfl (fs := [.null, .int (nI 0)]) (fun j => match j with | 0 => fun _ => rfl | 1 => fun _ => rfl | n + 2 => fun h9 => absurd h9 (by omega)) hlo hRc hRs (show B.1 + 1 + 1 + 1 ≤ MC by omega) (show B.2 + 2 + 24 + 2 ≤ MS by omega) d_Cd_init_18 4 (fun q_28 G_29 z_30 f_31 o_32 => ?_)
  have f_33 : G_29 q_1 = some (3, .inr (4, [.ref a_12, .int (nI 0)])) := (o_32 _ (fun e => by subst e; rw [f_25] at z_30; cases z_30)).trans f_25
  have f_34 : G_29 a_12 = some (3, .inl (cA 0, 24, .inl (fun _ => 0))) := (o_32 _ (fun e => by subst e; rw [f_26] at z_30; cases z_30)).trans f_26
  have f_35 : G_29 h = some (t, .inr (1, [.null, .ref q_1, .null, .long (lN 0), .long (lN 0), .long (lN 0), .long (lN 0)])) := (o_32 _ (fun e => by subst e; rw [f_24] at z_30; cases z_30)).trans f_24
  have z_36 : G q_28 = none := gex_0 x_27 z_30 (fun z => by have z := z.symm; subst z; rw [f_24] at z_30; cases z_30)
  have x_37 : gex (fun x => x = h) G G_29 := gex_new x_27 z_30 o_32
  refine g_Beq (B' := (B.1 + 1 + 1 + 1, B.2 + 2 + 24 + 2)) rfl ?_
  refine gs (pc' := 22) (fun _ _ _ _ _ hl => lv_dup hx hb d_Cd_init_21 rfl) ?_
  refine gs (pc' := 24) (fun _ _ _ _ _ hl => lv_bipush (v := nI 24) hx hb d_Cd_init_22 (by decide)) ?_
  refine g_outv hlo (g_runI (b := q_28) (As := [.int (nI 24)]) (rest := [.ref q_28, .ref h]) ⟨hx, hb, hml, hown, hts⟩ hK hZ hRc hRs (c_Na_init l D cA lo MC MS G_29 (B.1 + 1 + 1 + 1, B.2 + 2 + 24 + 2) 4 q_28 24 f_31 (by omega) (show B.1 + 1 + 1 + 1 + 1 ≤ MC by omega) (show B.2 + 2 + 24 + 2 + 24 ≤ MS by omega) (show B.1 + 1 + 1 + 1 ≤ MC by omega) (show B.2 + 2 + 24 + 2 ≤ MS by omega)) (fun _ _ => cwI 1 hts (tb_good k_Na_init) rfl rfl rfl (hts _ wm5) (hts _ wm105) (hts _ wm66) rfl (by decide +kernel) ⟨by rw [hRf]; exact Nat.le_of_ble_eq_true rfl, by rw [hRl]; exact Nat.le_of_ble_eq_true rfl⟩) (show B.1 + 1 + 1 + 1 ≤ MC by omega) (show B.2 + 2 + 24 + 2 ≤ MS by omega) rfl (Nat.le_of_ble_eq_true rfl) d_Cd_init_24) (fun G_38 B_39 p_40 => ?_)
  obtain ⟨a_41, z_42, f_43, f_44, x_45, e_46⟩ := p_40
  have z_47 : G a_41 = none := gex_0 x_37 z_42 (fun z => by have z := z.symm; subst z; rw [f_35] at z_42; cases z_42)
  have e_46 : B_39 = (B.1 + 1 + 1 + 1 + 1, B.2 + 2 + 24 + 2 + 24) := e_46
  subst e_46
  have f_48 : G_38 q_1 = some (3, .inr (4, [.ref a_12, .int (nI 0)])) := x_45 _ _ f_33 (gne f_33 f_31 (by simp))
  have f_49 : G_38 a_12 = some (3, .inl (cA 0, 24, .inl (fun _ => 0))) := x_45 _ _ f_34 (gne f_34 f_31 (fun e => by cases e))
  have f_50 : G_38 h = some (t, .inr (1, [.null, .ref q_1, .null, .long (lN 0), .long (lN 0), .long (lN 0), .long (lN 0)])) := x_45 _ _ f_35 (gne f_35 f_31 (fun e => by cases e))
  have x_51 : gex (fun x => x = h) G G_38 := gex_tr x_37 x_45 (fun x y hx9 _ e => by subst e; rw [z_36] at hx9; cases hx9)
  refine g_putF (ty := .object "MetreFractions$Natural") hx hb hts hin_Cd ty_Cd ty_Cd_ok nm_Cd hown hK f_50 rfl 2 (by decide) (hts _ wm108) (fun _ h9 => h9) rfl hin rfl (by decide +kernel) rfl rfl (Nat.le_of_ble_eq_true rfl) d_Cd_init_27 (fun G_52 f_53 o_54 => ?_)
  have f_55 : G_52 h = some (t, .inr (1, [.null, .ref q_1, .ref q_28, .long (lN 0), .long (lN 0), .long (lN 0), .long (lN 0)])) := f_53
  have f_56 : G_52 q_1 = some (3, .inr (4, [.ref a_12, .int (nI 0)])) := (o_54 _ (gne f_48 f_50 (fun e => by cases e))).trans f_48
  have f_57 : G_52 a_12 = some (3, .inl (cA 0, 24, .inl (fun _ => 0))) := (o_54 _ (gne f_49 f_50 (fun e => by cases e))).trans f_49
  have f_58 : G_52 q_28 = some (4, .inr (4, [.ref a_41, .int (nI 0)])) := (o_54 _ (gne f_43 f_50 (fun e => by cases e))).trans f_43
  have f_59 : G_52 a_41 = some (4, .inl (cA 0, 24, .inl (fun _ => 0))) := (o_54 _ (gne f_44 f_50 (fun e => by cases e))).trans f_44
  have x_60 : gex (fun x => x = h) G G_52 := gex_put x_51 o_54 (Or.inl rfl)
  refine gs (pc' := 31) (fun _ _ _ _ _ hl => lv_aload_n hx hb d_Cd_init_30 rfl (lv_at hl 0 rfl)) ?_
  refine gs (pc' := 32) (fun _ _ _ _ _ hl => lv_aload_n hx hb d_Cd_init_31 rfl (lv_at hl 1 rfl)) ?_
  refine g_putF (ty := .object "MetreFractions$Divider") hx hb hts hin_Cd ty_Cd ty_Cd_ok nm_Cd hown hK f_55 rfl 0 (by decide) (hts _ wm106) (fun _ h9 => h9) rfl hin rfl (by decide +kernel) rfl rfl (Nat.le_of_ble_eq_true rfl) d_Cd_init_32 (fun G_61 f_62 o_63 => ?_)
  have f_64 : G_61 h = some (t, .inr (1, [.ref hd, .ref q_1, .ref q_28, .long (lN 0), .long (lN 0), .long (lN 0), .long (lN 0)])) := f_62
  have f_65 : G_61 q_1 = some (3, .inr (4, [.ref a_12, .int (nI 0)])) := (o_63 _ (gne f_56 f_55 (fun e => by cases e))).trans f_56
  have f_66 : G_61 a_12 = some (3, .inl (cA 0, 24, .inl (fun _ => 0))) := (o_63 _ (gne f_57 f_55 (fun e => by cases e))).trans f_57
  have f_67 : G_61 q_28 = some (4, .inr (4, [.ref a_41, .int (nI 0)])) := (o_63 _ (gne f_58 f_55 (fun e => by cases e))).trans f_58
  have f_68 : G_61 a_41 = some (4, .inl (cA 0, 24, .inl (fun _ => 0))) := (o_63 _ (gne f_59 f_55 (fun e => by cases e))).trans f_59
  have x_69 : gex (fun x => x = h) G G_61 := gex_put x_60 o_63 (Or.inl rfl)
  exact hret 35 _ _ _ d_Cd_init_35 (show B.1 + 1 + 1 + 1 + 1 ≤ MC by omega) (show B.2 + 2 + 24 + 2 + 24 ≤ MS by omega) ⟨q_1, q_28, f_64, isN_0 f_65 f_66, isN_0 f_67 f_68, x_69, rfl⟩
set_option maxHeartbeats 4000000 in
set_option maxRecDepth 100000 in
theorem c_We_init (l : Launch) (D : va_G) (cA : Nat → ClassId) (lo MC MS : Nat) (G : gT) (B : Nat × Nat) (t te tc h : Nat) (h1 : ¬ te = t) (h2 : ¬ tc = t) (h3 : ¬ te = tc) (hh : G h = some (t, .inr (7, [.null, .null, .int (nI 0)]))) (hC : B.1 + 2 ≤ MC) (hS : B.2 + 24 ≤ MS) (hB1 : B.1 ≤ MC) (hB2 : B.2 ≤ MS) : gMet l y_We_init w_We_init 1 12 D clS (gtys cA) lo MC MS [.ref h] G B (gQv D clS lo (fun u => ∃ ae ac, u.1 h = some (t, .inr (7, [.ref ae, .ref ac, .int (nI 0)])) ∧ u.1 ae = some (te, .inl (cA 0, 12, .inl (fun _ => 0))) ∧ u.1 ac = some (tc, .inl (cA 1, 12, .inr (.inl (fun _ => 0)))) ∧ gex (fun x => x = h) G u.1 ∧ u.2 = (B.1 + 1 + 1, B.2 + 12 + 12))) := by
  refine g_metv (cc := prog_9_method_1_code) (nL := 1) (L := [(0, .ref h)]) (by decide +kernel) rfl (Nat.le_of_ble_eq_true rfl) rfl ?_
  intro p e R s m args below meth c Q hF hRc hRs hRf hRl hret
  obtain ⟨hx, hb, hr, hml, hts0, hown, hlocks, hin, hK, hlo, hZ⟩ := hF
  have hts : ∀ w ∈ tbg, w.before args s = true := fun w h => hts0 w (List.mem_cons_of_mem _ h)
  have hE : gex (fun x => x = h) G G := gex_rf
  refine gs (pc' := 1) (fun _ _ _ _ _ hl => lv_aload_n hx hb d_We_init_0 rfl (lv_at hl 0 rfl)) ?_
  refine gs (pc' := 4) (st' := []) (fun _ _ _ _ _ hl => fun kk => W.objInit (g := F0 m 1 _ (.ref h :: [])) hx hb hown (hts _ wm37) (hts _ wm26) (hts _ wm27) rfl (by rw [hml]; exact hl.1) rfl d_We_init_1 (by rw [hRf]; exact Nat.le_of_ble_eq_true rfl) (by rw [hRl]; exact Nat.le_of_ble_eq_true rfl) kk) ?_
  refine gs (pc' := 5) (fun _ _ _ _ _ hl => lv_aload_n hx hb d_We_init_4 rfl (lv_at hl 0 rfl)) ?_
  refine gs (pc' := 7) (fun _ _ _ _ _ hl => lv_bipush (v := nI 12) hx hb d_We_init_5 (by decide)) ?_
  refine g_newa (atype := .int) hx hb (hts _ wm49) hK 0 rfl (fun C h => by cases h) (a0 := (12, .inl (fun _ => 0))) (fun _ => rfl) (nI_pos (by omega)) (nI_clamp (by omega)) (by show 12 * 4 ≤ 536870912; omega) hlo hRc hRs (show B.1 + 1 ≤ MC by omega) (show B.2 + 12 ≤ MS by omega) d_We_init_7 te (fun q_1 G_2 z_3 f_4 o_5 => ?_)
  have f_6 : G_2 h = some (t, .inr (7, [.null, .null, .int (nI 0)])) := (o_5 _ (fun e => by subst e; rw [hh] at z_3; cases z_3)).trans hh
  have z_7 : G q_1 = none := gex_0 hE z_3 (fun z => by have z := z.symm; subst z; rw [hh] at z_3; cases z_3)
  have x_8 : gex (fun x => x = h) G G_2 := gex_new hE z_3 o_5
  refine g_Beq (B' := (B.1 + 1, B.2 + 12)) rfl ?_
  refine g_putF (ty := .array .int) hx hb hts hin_We ty_We ty_We_ok nm_We hown hK f_6 rfl 0 (by decide) (hts _ wm38) (fun _ h9 => h9) rfl hin rfl (by decide +kernel) rfl rfl (Nat.le_of_ble_eq_true rfl) d_We_init_9 (fun G_9 f_10 o_11 => ?_)
  have f_12 : G_9 h = some (t, .inr (7, [.ref q_1, .null, .int (nI 0)])) := f_10
  have f_13 : G_9 q_1 = some (te, .inl (cA 0, 12, .inl (fun _ => 0))) := (o_11 _ (gne f_4 f_6 (fun e => by cases e))).trans f_4
  have x_14 : gex (fun x => x = h) G G_9 := gex_put x_8 o_11 (Or.inl rfl)
  refine gs (pc' := 13) (fun _ _ _ _ _ hl => lv_aload_n hx hb d_We_init_12 rfl (lv_at hl 0 rfl)) ?_
  refine gs (pc' := 15) (fun _ _ _ _ _ hl => lv_bipush (v := nI 12) hx hb d_We_init_13 (by decide)) ?_
  refine g_newa (atype := .long) hx hb (hts _ wm50) hK 1 rfl (fun C h => by cases h) (a0 := (12, .inr (.inl (fun _ => 0)))) (fun _ => rfl) (nI_pos (by omega)) (nI_clamp (by omega)) (by show 12 * 8 ≤ 536870912; omega) hlo hRc hRs (show B.1 + 1 + 1 ≤ MC by omega) (show B.2 + 12 + 12 ≤ MS by omega) d_We_init_15 tc (fun q_15 G_16 z_17 f_18 o_19 => ?_)
  have f_20 : G_16 q_1 = some (te, .inl (cA 0, 12, .inl (fun _ => 0))) := (o_19 _ (fun e => by subst e; rw [f_13] at z_17; cases z_17)).trans f_13
  have f_21 : G_16 h = some (t, .inr (7, [.ref q_1, .null, .int (nI 0)])) := (o_19 _ (fun e => by subst e; rw [f_12] at z_17; cases z_17)).trans f_12
  have z_22 : G q_15 = none := gex_0 x_14 z_17 (fun z => by have z := z.symm; subst z; rw [f_12] at z_17; cases z_17)
  have x_23 : gex (fun x => x = h) G G_16 := gex_new x_14 z_17 o_19
  refine g_Beq (B' := (B.1 + 1 + 1, B.2 + 12 + 12)) rfl ?_
  refine g_putF (ty := .array .long) hx hb hts hin_We ty_We ty_We_ok nm_We hown hK f_21 rfl 1 (by decide) (hts _ wm39) (fun _ h9 => h9) rfl hin rfl (by decide +kernel) rfl rfl (Nat.le_of_ble_eq_true rfl) d_We_init_17 (fun G_24 f_25 o_26 => ?_)
  have f_27 : G_24 h = some (t, .inr (7, [.ref q_1, .ref q_15, .int (nI 0)])) := f_25
  have f_28 : G_24 q_1 = some (te, .inl (cA 0, 12, .inl (fun _ => 0))) := (o_26 _ (gne f_20 f_21 (fun e => by cases e))).trans f_20
  have f_29 : G_24 q_15 = some (tc, .inl (cA 1, 12, .inr (.inl (fun _ => 0)))) := (o_26 _ (gne f_18 f_21 (fun e => by cases e))).trans f_18
  have x_30 : gex (fun x => x = h) G G_24 := gex_put x_23 o_26 (Or.inl rfl)
  refine gs (pc' := 21) (fun _ _ _ _ _ hl => lv_aload_n hx hb d_We_init_20 rfl (lv_at hl 0 rfl)) ?_
  refine gs (pc' := 22) (fun _ _ _ _ _ hl => lv_iconst (v := nI 0) hx hb d_We_init_21 (by decide)) ?_
  refine g_put (ty := .int) hx hb hts hin_We ty_We ty_We_ok nm_We hown hK f_27 rfl 2 (by decide) (hts _ wm40) (fun _ h9 => h9) rfl (by decide +kernel) rfl rfl (Nat.le_of_ble_eq_true rfl) d_We_init_22 (fun G_31 f_32 o_33 => ?_)
  have f_34 : G_31 h = some (t, .inr (7, [.ref q_1, .ref q_15, .int (nI 0)])) := f_32
  have f_35 : G_31 q_1 = some (te, .inl (cA 0, 12, .inl (fun _ => 0))) := (o_33 _ (gne f_28 f_27 (fun e => by cases e))).trans f_28
  have f_36 : G_31 q_15 = some (tc, .inl (cA 1, 12, .inr (.inl (fun _ => 0)))) := (o_33 _ (gne f_29 f_27 (fun e => by cases e))).trans f_29
  have x_37 : gex (fun x => x = h) G G_31 := gex_put x_30 o_33 (Or.inl rfl)
  exact hret 25 _ _ _ d_We_init_25 (show B.1 + 1 + 1 ≤ MC by omega) (show B.2 + 12 + 12 ≤ MS by omega) ⟨q_1, q_15, f_34, f_35, f_36, x_37, rfl⟩
set_option maxHeartbeats 4000000 in
set_option maxRecDepth 100000 in
theorem c_Va_init (l : Launch) (D : va_G) (cA : Nat → ClassId) (lo MC MS : Nat) (G : gT) (B : Nat × Nat) (t h hf : Nat) (un : Int32) (hh : G h = some (t, .inr (6, [.null, .int (nI 0)]))) (hB1 : B.1 ≤ MC) (hB2 : B.2 ≤ MS) : gMet l y_Va_init w_Va_init 1 12 D clS (gtys cA) lo MC MS [.ref h, .ref hf, .int un] G B (gQv D clS lo (fun u => u.1 h = some (t, .inr (6, [.ref hf, .int un])) ∧ gex (fun x => x = h) G u.1 ∧ u.2 = B)) := by
  refine g_metv (cc := prog_8_method_1_code) (nL := 3) (L := [(0, .ref h), (1, .ref hf), (2, .int un)]) (by decide +kernel) rfl (Nat.le_of_ble_eq_true rfl) rfl ?_
  intro p e R s m args below meth c Q hF hRc hRs hRf hRl hret
  obtain ⟨hx, hb, hr, hml, hts0, hown, hlocks, hin, hK, hlo, hZ⟩ := hF
  have hts : ∀ w ∈ tbg, w.before args s = true := fun w h => hts0 w (List.mem_cons_of_mem _ h)
  have hE : gex (fun x => x = h) G G := gex_rf
  refine gs (pc' := 1) (fun _ _ _ _ _ hl => lv_aload_n hx hb d_Va_init_0 rfl (lv_at hl 0 rfl)) ?_
  refine gs (pc' := 4) (st' := []) (fun _ _ _ _ _ hl => fun kk => W.objInit (g := F0 m 1 _ (.ref h :: [])) hx hb hown (hts _ wm521) (hts _ wm26) (hts _ wm27) rfl (by rw [hml]; exact hl.1) rfl d_Va_init_1 (by rw [hRf]; exact Nat.le_of_ble_eq_true rfl) (by rw [hRl]; exact Nat.le_of_ble_eq_true rfl) kk) ?_
  refine gs (pc' := 5) (fun _ _ _ _ _ hl => lv_aload_n hx hb d_Va_init_4 rfl (lv_at hl 0 rfl)) ?_
  refine gs (pc' := 6) (fun _ _ _ _ _ hl => lv_aload_n hx hb d_Va_init_5 rfl (lv_at hl 1 rfl)) ?_
  refine g_putF (ty := .object "MetreFractions$Fraction") hx hb hts hin_Va ty_Va ty_Va_ok nm_Va hown hK hh rfl 0 (by decide) (hts _ wm522) (fun _ h9 => h9) rfl hin rfl (by decide +kernel) rfl rfl (Nat.le_of_ble_eq_true rfl) d_Va_init_6 (fun G_1 f_2 o_3 => ?_)
  have f_4 : G_1 h = some (t, .inr (6, [.ref hf, .int (nI 0)])) := f_2
  have x_5 : gex (fun x => x = h) G G_1 := gex_put hE o_3 (Or.inl rfl)
  refine gs (pc' := 10) (fun _ _ _ _ _ hl => lv_aload_n hx hb d_Va_init_9 rfl (lv_at hl 0 rfl)) ?_
  refine gs (pc' := 11) (fun _ _ _ _ _ hl => lv_iload_n hx hb d_Va_init_10 rfl (lv_at hl 2 rfl)) ?_
  refine g_putF (ty := .int) hx hb hts hin_Va ty_Va ty_Va_ok nm_Va hown hK f_4 rfl 1 (by decide) (hts _ wm524) (fun _ h9 => h9) rfl hin rfl (by decide +kernel) rfl rfl (Nat.le_of_ble_eq_true rfl) d_Va_init_11 (fun G_6 f_7 o_8 => ?_)
  have f_9 : G_6 h = some (t, .inr (6, [.ref hf, .int un])) := f_7
  have x_10 : gex (fun x => x = h) G G_6 := gex_put x_5 o_8 (Or.inl rfl)
  exact hret 14 _ _ _ d_Va_init_14 hB1 hB2 ⟨f_9, x_10, rfl⟩
set_option maxHeartbeats 4000000 in
set_option maxRecDepth 100000 in
theorem c_Ro_init (l : Launch) (D : va_G) (cA : Nat → ClassId) (lo MC MS : Nat) (G : gT) (B : Nat × Nat) (t tp th h : Nat) (h1 : ¬ tp = t) (h2 : ¬ th = t) (h3 : ¬ tp = th) (hh : G h = some (t, .inr (5, [.null, .null, .int (nI 0)]))) (hC : B.1 + 2 ≤ MC) (hS : B.2 + 32 ≤ MS) (hB1 : B.1 ≤ MC) (hB2 : B.2 ≤ MS) : gMet l y_Ro_init w_Ro_init 1 12 D clS (gtys cA) lo MC MS [.ref h] G B (gQv D clS lo (fun u => ∃ ap ah, u.1 h = some (t, .inr (5, [.ref ap, .ref ah, .int (nI 0)])) ∧ u.1 ap = some (tp, .inl (cA 2, 16, .inr (.inr (.inr (.inr (fun _ => none)))))) ∧ u.1 ah = some (th, .inl (cA 2, 16, .inr (.inr (.inr (.inr (fun _ => none)))))) ∧ gex (fun x => x = h) G u.1 ∧ u.2 = (B.1 + 1 + 1, B.2 + 16 + 16))) := by
  refine g_metv (cc := prog_7_method_1_code) (nL := 1) (L := [(0, .ref h)]) (by decide +kernel) rfl (Nat.le_of_ble_eq_true rfl) rfl ?_
  intro p e R s m args below meth c Q hF hRc hRs hRf hRl hret
  obtain ⟨hx, hb, hr, hml, hts0, hown, hlocks, hin, hK, hlo, hZ⟩ := hF
  have hts : ∀ w ∈ tbg, w.before args s = true := fun w h => hts0 w (List.mem_cons_of_mem _ h)
  obtain ⟨⟨-, -, -, -, -, hA1, hA2, -⟩, -⟩ := id hZ
  have hE : gex (fun x => x = h) G G := gex_rf
  refine gs (pc' := 1) (fun _ _ _ _ _ hl => lv_aload_n hx hb d_Ro_init_0 rfl (lv_at hl 0 rfl)) ?_
  refine gs (pc' := 4) (st' := []) (fun _ _ _ _ _ hl => fun kk => W.objInit (g := F0 m 1 _ (.ref h :: [])) hx hb hown (hts _ wm220) (hts _ wm26) (hts _ wm27) rfl (by rw [hml]; exact hl.1) rfl d_Ro_init_1 (by rw [hRf]; exact Nat.le_of_ble_eq_true rfl) (by rw [hRl]; exact Nat.le_of_ble_eq_true rfl) kk) ?_
  refine gs (pc' := 5) (fun _ _ _ _ _ hl => lv_aload_n hx hb d_Ro_init_4 rfl (lv_at hl 0 rfl)) ?_
  refine gs (pc' := 7) (fun _ _ _ _ _ hl => lv_bipush (v := nI 16) hx hb d_Ro_init_5 (by decide)) ?_
  refine g_anew hx hb hown (hts _ wm221) (va_AO.use hA1) hK 2 rfl (nI_pos (by omega)) (nI_clamp (by omega)) (by show 16 * 4 ≤ 536870912; omega) hlo hRc hRs (show B.1 + 1 ≤ MC by omega) (show B.2 + 16 ≤ MS by omega) d_Ro_init_7 tp (fun q_1 G_2 z_3 f_4 o_5 => ?_)
  have f_6 : G_2 h = some (t, .inr (5, [.null, .null, .int (nI 0)])) := (o_5 _ (fun e => by subst e; rw [hh] at z_3; cases z_3)).trans hh
  have z_7 : G q_1 = none := gex_0 hE z_3 (fun z => by have z := z.symm; subst z; rw [hh] at z_3; cases z_3)
  have x_8 : gex (fun x => x = h) G G_2 := gex_new hE z_3 o_5
  refine g_Beq (B' := (B.1 + 1, B.2 + 16)) rfl ?_
  refine g_putF (ty := .array (.object "MetreFractions$Value")) hx hb hts hin_Ro ty_Ro ty_Ro_ok nm_Ro hown hK f_6 rfl 0 (by decide) (hts _ wm222) (fun _ h9 => h9) rfl hin rfl (by decide +kernel) rfl rfl (Nat.le_of_ble_eq_true rfl) d_Ro_init_10 (fun G_9 f_10 o_11 => ?_)
  have f_12 : G_9 h = some (t, .inr (5, [.ref q_1, .null, .int (nI 0)])) := f_10
  have f_13 : G_9 q_1 = some (tp, .inl (cA 2, 16, .inr (.inr (.inr (.inr (fun _ => none)))))) := (o_11 _ (gne f_4 f_6 (fun e => by cases e))).trans f_4
  have x_14 : gex (fun x => x = h) G G_9 := gex_put x_8 o_11 (Or.inl rfl)
  refine gs (pc' := 14) (fun _ _ _ _ _ hl => lv_aload_n hx hb d_Ro_init_13 rfl (lv_at hl 0 rfl)) ?_
  refine gs (pc' := 16) (fun _ _ _ _ _ hl => lv_bipush (v := nI 16) hx hb d_Ro_init_14 (by decide)) ?_
  refine g_anew hx hb hown (hts _ wm221) (va_AO.use hA1) hK 2 rfl (nI_pos (by omega)) (nI_clamp (by omega)) (by show 16 * 4 ≤ 536870912; omega) hlo hRc hRs (show B.1 + 1 + 1 ≤ MC by omega) (show B.2 + 16 + 16 ≤ MS by omega) d_Ro_init_16 th (fun q_15 G_16 z_17 f_18 o_19 => ?_)
  have f_20 : G_16 q_1 = some (tp, .inl (cA 2, 16, .inr (.inr (.inr (.inr (fun _ => none)))))) := (o_19 _ (fun e => by subst e; rw [f_13] at z_17; cases z_17)).trans f_13
  have f_21 : G_16 h = some (t, .inr (5, [.ref q_1, .null, .int (nI 0)])) := (o_19 _ (fun e => by subst e; rw [f_12] at z_17; cases z_17)).trans f_12
  have z_22 : G q_15 = none := gex_0 x_14 z_17 (fun z => by have z := z.symm; subst z; rw [f_12] at z_17; cases z_17)
  have x_23 : gex (fun x => x = h) G G_16 := gex_new x_14 z_17 o_19
  refine g_Beq (B' := (B.1 + 1 + 1, B.2 + 16 + 16)) rfl ?_
  refine g_putF (ty := .array (.object "MetreFractions$Value")) hx hb hts hin_Ro ty_Ro ty_Ro_ok nm_Ro hown hK f_21 rfl 1 (by decide) (hts _ wm224) (fun _ h9 => h9) rfl hin rfl (by decide +kernel) rfl rfl (Nat.le_of_ble_eq_true rfl) d_Ro_init_19 (fun G_24 f_25 o_26 => ?_)
  have f_27 : G_24 h = some (t, .inr (5, [.ref q_1, .ref q_15, .int (nI 0)])) := f_25
  have f_28 : G_24 q_1 = some (tp, .inl (cA 2, 16, .inr (.inr (.inr (.inr (fun _ => none)))))) := (o_26 _ (gne f_20 f_21 (fun e => by cases e))).trans f_20
  have f_29 : G_24 q_15 = some (th, .inl (cA 2, 16, .inr (.inr (.inr (.inr (fun _ => none)))))) := (o_26 _ (gne f_18 f_21 (fun e => by cases e))).trans f_18
  have x_30 : gex (fun x => x = h) G G_24 := gex_put x_23 o_26 (Or.inl rfl)
  refine gs (pc' := 23) (fun _ _ _ _ _ hl => lv_aload_n hx hb d_Ro_init_22 rfl (lv_at hl 0 rfl)) ?_
  refine gs (pc' := 24) (fun _ _ _ _ _ hl => lv_iconst (v := nI 0) hx hb d_Ro_init_23 (by decide)) ?_
  refine g_put (ty := .int) hx hb hts hin_Ro ty_Ro ty_Ro_ok nm_Ro hown hK f_27 rfl 2 (by decide) (hts _ wm226) (fun _ h9 => h9) rfl (by decide +kernel) rfl rfl (Nat.le_of_ble_eq_true rfl) d_Ro_init_24 (fun G_31 f_32 o_33 => ?_)
  have f_34 : G_31 h = some (t, .inr (5, [.ref q_1, .ref q_15, .int (nI 0)])) := f_32
  have f_35 : G_31 q_1 = some (tp, .inl (cA 2, 16, .inr (.inr (.inr (.inr (fun _ => none)))))) := (o_33 _ (gne f_28 f_27 (fun e => by cases e))).trans f_28
  have f_36 : G_31 q_15 = some (th, .inl (cA 2, 16, .inr (.inr (.inr (.inr (fun _ => none)))))) := (o_33 _ (gne f_29 f_27 (fun e => by cases e))).trans f_29
  have x_37 : gex (fun x => x = h) G G_31 := gex_put x_30 o_33 (Or.inl rfl)
  exact hret 27 _ _ _ d_Ro_init_27 (show B.1 + 1 + 1 ≤ MC by omega) (show B.2 + 16 + 16 ≤ MS by omega) ⟨q_1, q_15, f_34, f_35, f_36, x_37, rfl⟩
