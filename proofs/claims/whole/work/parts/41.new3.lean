set_option maxHeartbeats 4000000 in
set_option maxRecDepth 100000 in
theorem c_Ca_init (l : Launch) (D : va_G) (cA : Nat → ClassId) (lo MC MS : Nat) (G : gT) (B : Nat × Nat) (h : Nat) (hh : G h = some (30, .inr (0, [.null, .null, .null, .null, .null, .null, .null, .null]))) (hC : B.1 + 24 ≤ MC) (hS : B.2 + 296 ≤ MS) (hB1 : B.1 ≤ MC) (hB2 : B.2 ≤ MS) : gMet l y_Ca_init w_Ca_init 3 63 D clS (gtys cA) lo MC MS [.ref h] G B (gQv D clS lo (fun u => ∃ (ad : Nat → Nat) (hd hc : Nat), cdO ad hd hc u.1 ∧ u.1 h = some (30, .inr (0, [.ref hd, .ref hc, .ref (ad 5), .ref (ad 6), .ref (ad 7), .ref (ad 8), .ref (ad 9), .ref (ad 10)])) ∧ u.1 hd = some (30, .inr (2, [.ref (ad 0), .ref (ad 1), .ref (ad 2)])) ∧ (∀ t, t < 11 → isN cA u.1 24 t (ad t) 0) ∧ gex (fun x => x = h) G u.1 ∧ u.2 = (B.1 + 1 + 1 + 1 + 1 + 1 + 1 + 1 + 1 + 1 + 1 + 1 + 1 + 1 + 1 + 1 + 1 + 1 + 1 + 1 + 1 + 1 + 1 + 1 + 1, B.2 + 3 + 2 + 24 + 2 + 24 + 2 + 24 + 7 + 2 + 24 + 2 + 24 + 2 + 24 + 2 + 24 + 2 + 24 + 2 + 24 + 2 + 24 + 2 + 24))) := by
  refine g_metv (cc := prog_2_method_1_code) (nL := 1) (L := [(0, .ref h)]) (by decide +kernel) rfl (Nat.le_of_ble_eq_true rfl) rfl ?_
  intro p e R s m args below meth c Q hF hRc hRs hRf hRl hret
  obtain ⟨hx, hb, hr, hml, hts0, hown, hlocks, hin, hK, hlo, hZ⟩ := hF
  have hts : ∀ w ∈ tbg, w.before args s = true := fun w h => hts0 w (List.mem_cons_of_mem _ h)
  have hE : gex (fun x => x = h) G G := gex_rf
  refine gs (pc' := 1) (fun _ _ _ _ _ hl => lv_aload_n hx hb d_Ca_init_0 rfl (lv_at hl 0 rfl)) ?_
  refine gs (pc' := 4) (st' := []) (fun _ _ _ _ _ hl => fun kk => W.objInit (g := F0 m 1 _ (.ref h :: [])) hx hb hown (hts _ wm56) (hts _ wm26) (hts _ wm27) rfl (by rw [hml]; exact hl.1) rfl d_Ca_init_1 (by rw [hRf]; exact Nat.le_of_ble_eq_true rfl) (by rw [hRl]; exact Nat.le_of_ble_eq_true rfl) kk) ?_
  refine gs (pc' := 5) (fun _ _ _ _ _ hl => lv_aload_n hx hb d_Ca_init_4 rfl (lv_at hl 0 rfl)) ?_
  refine g_new hx hb hts hin_Di ty_Di ty_Di_ok hown (hts _ wm57) (hts _ wm58) (hts _ wm4) hK (ci := 2) rfl (fs := [.null, .null, .null]) (fun j => match j with | 0 => fun _ => rfl | 1 => fun _ => rfl | 2 => fun _ => rfl | n + 3 => fun h9 => absurd h9 (by omega)) hlo hRc hRs (show B.1 + 1 ≤ MC by omega) (show B.2 + 3 ≤ MS by omega) d_Ca_init_5 30 (fun q_1 G_2 z_3 f_4 o_5 => ?_)
  have f_6 : G_2 h = some (30, .inr (0, [.null, .null, .null, .null, .null, .null, .null, .null])) := (o_5 _ (fun e => by subst e; rw [hh] at z_3; cases z_3)).trans hh
  have z_7 : G q_1 = none := gex_0 hE z_3 (fun z => by have z := z.symm; subst z; rw [hh] at z_3; cases z_3)
  have x_8 : gex (fun x => x = h) G G_2 := gex_new hE z_3 o_5
  refine g_Beq (B' := (B.1 + 1, B.2 + 3)) rfl ?_
  refine gs (pc' := 9) (fun _ _ _ _ _ hl => lv_dup hx hb d_Ca_init_8 rfl) ?_
  obtain ⟨⟨hN1, hN2, hN3, hN4, -, -, -⟩, -⟩ := id hZ
  refine g_outv hlo (g_runIN (b := q_1) (As := []) (rest := [.ref q_1, .ref h]) ⟨hx, hb, hml, hown, hts⟩ hK hZ hRc hRs (c_Di_init l D cA lo MC MS G_2 (B.1 + 1, B.2 + 3) 30 q_1 f_4 (show B.1 + 1 + 6 ≤ MC by omega) (show B.2 + 3 + 78 ≤ MS by omega) (show B.1 + 1 ≤ MC by omega) (show B.2 + 3 ≤ MS by omega)) (fun _ _ => ⟨va_cnB 0 hts (tb_good k_Di_init) rfl rfl rfl hN3 (hts _ wm4) (by decide +kernel) ⟨by rw [hRf]; exact Nat.le_of_ble_eq_true rfl, by rw [hRl]; exact Nat.le_of_ble_eq_true rfl⟩, rfl, hts _ wm60⟩) (show B.1 + 1 ≤ MC by omega) (show B.2 + 3 ≤ MS by omega) rfl (Nat.le_of_ble_eq_true rfl) d_Ca_init_9) (fun G_9 B_10 p_11 => ?_)
  obtain ⟨a_12, a_13, a_14, f_18, n_15, n_16, n_17, x_19, e_20⟩ := p_11
  have e_20 : B_10 = (B.1 + 1 + 1 + 1 + 1 + 1 + 1 + 1, B.2 + 3 + 2 + 24 + 2 + 24 + 2 + 24) := e_20
  subst e_20
  have f_21 : G_9 h = some (30, .inr (0, [.null, .null, .null, .null, .null, .null, .null, .null])) := x_19 _ _ f_6 (gne f_6 f_4 (fun e => by cases e))
  have x_22 : gex (fun x => x = h) G G_9 := gex_tr x_8 x_19 (fun x y hx9 _ e => by subst e; rw [z_7] at hx9; cases hx9)
  refine g_putF (ty := .object "MetreFractions$Divider") hx hb hts hin_Ca ty_Ca ty_Ca_ok nm_Ca hown hK f_21 rfl 0 (by decide) (hts _ wm130) (fun _ h9 => h9) rfl hin rfl (by decide +kernel) rfl rfl (Nat.le_of_ble_eq_true rfl) d_Ca_init_12 (fun G_23 f_24 o_25 => ?_)
  have f_26 : G_23 h = some (30, .inr (0, [.ref q_1, .null, .null, .null, .null, .null, .null, .null])) := f_24
  have f_27 : G_23 q_1 = some (30, .inr (2, [.ref a_12, .ref a_13, .ref a_14])) := (o_25 _ (gne f_18 f_21 (fun e => by cases e))).trans f_18
  have x_28 : gex (fun x => x = h) G G_23 := gex_put x_22 o_25 (Or.inl rfl)
  have fr_29 : gfr (fun y => y = 30) G_9 G_23 := gfr_put gfr_rf f_21 rfl o_25
  have n_30 : isN cA G_23 24 0 a_12 0 := isN_fr n_15 fr_29 (show ¬ 0 = 30 by decide)
  have n_31 : isN cA G_23 24 1 a_13 0 := isN_fr n_16 fr_29 (show ¬ 1 = 30 by decide)
  have n_32 : isN cA G_23 24 2 a_14 0 := isN_fr n_17 fr_29 (show ¬ 2 = 30 by decide)
  refine gs (pc' := 16) (fun _ _ _ _ _ hl => lv_aload_n hx hb d_Ca_init_15 rfl (lv_at hl 0 rfl)) ?_
  refine g_new hx hb hts hin_Cd ty_Cd ty_Cd_ok hown (hts _ wm98) (hts _ wm99) (hts _ wm7) hK (ci := 1) rfl (fs := [.null, .null, .null, .long (lN 0), .long (lN 0), .long (lN 0), .long (lN 0)]) (fun j => match j with | 0 => fun _ => rfl | 1 => fun _ => rfl | 2 => fun _ => rfl | 3 => fun _ => rfl | 4 => fun _ => rfl | 5 => fun _ => rfl | 6 => fun _ => rfl | n + 7 => fun h9 => absurd h9 (by omega)) hlo hRc hRs (show B.1 + 1 + 1 + 1 + 1 + 1 + 1 + 1 + 1 ≤ MC by omega) (show B.2 + 3 + 2 + 24 + 2 + 24 + 2 + 24 + 7 ≤ MS by omega) d_Ca_init_16 19 (fun q_33 G_34 z_35 f_36 o_37 => ?_)
  have fr_38 : gfr (fun y => y = 1000) G_23 G_34 := gfr_new gfr_rf z_35 o_37
  have n_39 : isN cA G_34 24 0 a_12 0 := isN_fr n_30 fr_38 (show ¬ 0 = 1000 by decide)
  have n_40 : isN cA G_34 24 1 a_13 0 := isN_fr n_31 fr_38 (show ¬ 1 = 1000 by decide)
  have n_41 : isN cA G_34 24 2 a_14 0 := isN_fr n_32 fr_38 (show ¬ 2 = 1000 by decide)
  have f_42 : G_34 q_1 = some (30, .inr (2, [.ref a_12, .ref a_13, .ref a_14])) := (o_37 _ (fun e => by subst e; rw [f_27] at z_35; cases z_35)).trans f_27
  have f_43 : G_34 h = some (30, .inr (0, [.ref q_1, .null, .null, .null, .null, .null, .null, .null])) := (o_37 _ (fun e => by subst e; rw [f_26] at z_35; cases z_35)).trans f_26
  have z_44 : G q_33 = none := gex_0 x_28 z_35 (fun z => by have z := z.symm; subst z; rw [f_26] at z_35; cases z_35)
  have x_45 : gex (fun x => x = h) G G_34 := gex_new x_28 z_35 o_37
  refine g_Beq (B' := (B.1 + 1 + 1 + 1 + 1 + 1 + 1 + 1 + 1, B.2 + 3 + 2 + 24 + 2 + 24 + 2 + 24 + 7)) rfl ?_
  refine gs (pc' := 20) (fun _ _ _ _ _ hl => lv_dup hx hb d_Ca_init_19 rfl) ?_
  refine gs (pc' := 21) (fun _ _ _ _ _ hl => lv_aload_n hx hb d_Ca_init_20 rfl (lv_at hl 0 rfl)) ?_
  refine g_get hx hb hts hin_Ca hown hK f_43 rfl 0 (by decide) (hts _ wm130) (fun _ h9 => h9) rfl d_Ca_init_21 ?_
  refine g_outv hlo (g_runI (b := q_33) (As := [.ref q_1]) (rest := [.ref q_33, .ref h]) ⟨hx, hb, hml, hown, hts⟩ hK hZ hRc hRs (c_Cd_init l D cA lo MC MS G_34 (B.1 + 1 + 1 + 1 + 1 + 1 + 1 + 1 + 1, B.2 + 3 + 2 + 24 + 2 + 24 + 2 + 24 + 7) 19 q_33 q_1 f_36 (show B.1 + 1 + 1 + 1 + 1 + 1 + 1 + 1 + 1 + 4 ≤ MC by omega) (show B.2 + 3 + 2 + 24 + 2 + 24 + 2 + 24 + 7 + 52 ≤ MS by omega) (show B.1 + 1 + 1 + 1 + 1 + 1 + 1 + 1 + 1 ≤ MC by omega) (show B.2 + 3 + 2 + 24 + 2 + 24 + 2 + 24 + 7 ≤ MS by omega)) (fun _ _ => cwI 1 hts (tb_good k_Cd_init) rfl rfl rfl (hts _ wm7) (hts _ wm100) (hts _ wm101) rfl (by decide +kernel) ⟨by rw [hRf]; exact Nat.le_of_ble_eq_true rfl, by rw [hRl]; exact Nat.le_of_ble_eq_true rfl⟩) (show B.1 + 1 + 1 + 1 + 1 + 1 + 1 + 1 + 1 ≤ MC by omega) (show B.2 + 3 + 2 + 24 + 2 + 24 + 2 + 24 + 7 ≤ MS by omega) rfl (Nat.le_of_ble_eq_true rfl) d_Ca_init_24) (fun G_46 B_47 p_48 => ?_)
  obtain ⟨a_49, a_50, f_53, n_51, n_52, x_54, e_55⟩ := p_48
  have fr_56 : gfr (fun y => y = 19) G_34 G_46 := gfr_gex x_54 f_36
  have n_57 : isN cA G_46 24 0 a_12 0 := isN_fr n_39 fr_56 (show ¬ 0 = 19 by decide)
  have n_58 : isN cA G_46 24 1 a_13 0 := isN_fr n_40 fr_56 (show ¬ 1 = 19 by decide)
  have n_59 : isN cA G_46 24 2 a_14 0 := isN_fr n_41 fr_56 (show ¬ 2 = 19 by decide)
  have e_55 : B_47 = (B.1 + 1 + 1 + 1 + 1 + 1 + 1 + 1 + 1 + 1 + 1 + 1 + 1, B.2 + 3 + 2 + 24 + 2 + 24 + 2 + 24 + 7 + 2 + 24 + 2 + 24) := e_55
  subst e_55
  have f_60 : G_46 q_1 = some (30, .inr (2, [.ref a_12, .ref a_13, .ref a_14])) := x_54 _ _ f_42 (gne f_42 f_36 (fun e => by cases e))
  have f_61 : G_46 h = some (30, .inr (0, [.ref q_1, .null, .null, .null, .null, .null, .null, .null])) := x_54 _ _ f_43 (gne f_43 f_36 (fun e => by cases e))
  have x_62 : gex (fun x => x = h) G G_46 := gex_tr x_45 x_54 (fun x y hx9 _ e => by subst e; rw [z_44] at hx9; cases hx9)
  refine g_putF (ty := .object "MetreFractions$CommonDivisor") hx hb hts hin_Ca ty_Ca ty_Ca_ok nm_Ca hown hK f_61 rfl 1 (by decide) (hts _ wm131) (fun _ h9 => h9) rfl hin rfl (by decide +kernel) rfl rfl (Nat.le_of_ble_eq_true rfl) d_Ca_init_27 (fun G_63 f_64 o_65 => ?_)
  have f_66 : G_63 h = some (30, .inr (0, [.ref q_1, .ref q_33, .null, .null, .null, .null, .null, .null])) := f_64
  have f_67 : G_63 q_1 = some (30, .inr (2, [.ref a_12, .ref a_13, .ref a_14])) := (o_65 _ (gne f_60 f_61 (fun e => by cases e))).trans f_60
  have f_68 : G_63 q_33 = some (19, .inr (1, [.ref q_1, .ref a_49, .ref a_50, .long (lN 0), .long (lN 0), .long (lN 0), .long (lN 0)])) := (o_65 _ (gne f_53 f_61 (fun e => by cases e))).trans f_53
  have x_69 : gex (fun x => x = h) G G_63 := gex_put x_62 o_65 (Or.inl rfl)
  have fr_70 : gfr (fun y => y = 30) G_46 G_63 := gfr_put gfr_rf f_61 rfl o_65
  have n_71 : isN cA G_63 24 0 a_12 0 := isN_fr n_57 fr_70 (show ¬ 0 = 30 by decide)
  have n_72 : isN cA G_63 24 1 a_13 0 := isN_fr n_58 fr_70 (show ¬ 1 = 30 by decide)
  have n_73 : isN cA G_63 24 2 a_14 0 := isN_fr n_59 fr_70 (show ¬ 2 = 30 by decide)
  have n_74 : isN cA G_63 24 3 a_49 0 := isN_fr n_51 fr_70 (show ¬ 3 = 30 by decide)
  have n_75 : isN cA G_63 24 4 a_50 0 := isN_fr n_52 fr_70 (show ¬ 4 = 30 by decide)
  refine gs (pc' := 31) (fun _ _ _ _ _ hl => lv_aload_n hx hb d_Ca_init_30 rfl (lv_at hl 0 rfl)) ?_
  refine g_new hx hb hts hin_Na ty_Na ty_Na_ok hown (hts _ wm128) (hts _ wm64) (hts _ wm5) hK (ci := 4) rfl (fs := [.null, .int (nI 0)]) (fun j => match j with | 0 => fun _ => rfl | 1 => fun _ => rfl | n + 2 => fun h9 => absurd h9 (by omega)) hlo hRc hRs (show B.1 + 1 + 1 + 1 + 1 + 1 + 1 + 1 + 1 + 1 + 1 + 1 + 1 + 1 ≤ MC by omega) (show B.2 + 3 + 2 + 24 + 2 + 24 + 2 + 24 + 7 + 2 + 24 + 2 + 24 + 2 ≤ MS by omega) d_Ca_init_31 5 (fun q_76 G_77 z_78 f_79 o_80 => ?_)
  have fr_81 : gfr (fun y => y = 1000) G_63 G_77 := gfr_new gfr_rf z_78 o_80
  have n_82 : isN cA G_77 24 0 a_12 0 := isN_fr n_71 fr_81 (show ¬ 0 = 1000 by decide)
  have n_83 : isN cA G_77 24 1 a_13 0 := isN_fr n_72 fr_81 (show ¬ 1 = 1000 by decide)
  have n_84 : isN cA G_77 24 2 a_14 0 := isN_fr n_73 fr_81 (show ¬ 2 = 1000 by decide)
  have n_85 : isN cA G_77 24 3 a_49 0 := isN_fr n_74 fr_81 (show ¬ 3 = 1000 by decide)
  have n_86 : isN cA G_77 24 4 a_50 0 := isN_fr n_75 fr_81 (show ¬ 4 = 1000 by decide)
  have f_87 : G_77 q_1 = some (30, .inr (2, [.ref a_12, .ref a_13, .ref a_14])) := (o_80 _ (fun e => by subst e; rw [f_67] at z_78; cases z_78)).trans f_67
  have f_88 : G_77 q_33 = some (19, .inr (1, [.ref q_1, .ref a_49, .ref a_50, .long (lN 0), .long (lN 0), .long (lN 0), .long (lN 0)])) := (o_80 _ (fun e => by subst e; rw [f_68] at z_78; cases z_78)).trans f_68
  have f_89 : G_77 h = some (30, .inr (0, [.ref q_1, .ref q_33, .null, .null, .null, .null, .null, .null])) := (o_80 _ (fun e => by subst e; rw [f_66] at z_78; cases z_78)).trans f_66
  have z_90 : G q_76 = none := gex_0 x_69 z_78 (fun z => by have z := z.symm; subst z; rw [f_66] at z_78; cases z_78)
  have x_91 : gex (fun x => x = h) G G_77 := gex_new x_69 z_78 o_80
  refine g_Beq (B' := (B.1 + 1 + 1 + 1 + 1 + 1 + 1 + 1 + 1 + 1 + 1 + 1 + 1 + 1, B.2 + 3 + 2 + 24 + 2 + 24 + 2 + 24 + 7 + 2 + 24 + 2 + 24 + 2)) rfl ?_
  refine gs (pc' := 35) (fun _ _ _ _ _ hl => lv_dup hx hb d_Ca_init_34 rfl) ?_
  refine gs (pc' := 37) (fun _ _ _ _ _ hl => lv_bipush (v := nI 24) hx hb d_Ca_init_35 (by decide)) ?_
  refine g_outv hlo (g_runI (b := q_76) (As := [.int (nI 24)]) (rest := [.ref q_76, .ref h]) ⟨hx, hb, hml, hown, hts⟩ hK hZ hRc hRs (c_Na_init l D cA lo MC MS G_77 (B.1 + 1 + 1 + 1 + 1 + 1 + 1 + 1 + 1 + 1 + 1 + 1 + 1 + 1, B.2 + 3 + 2 + 24 + 2 + 24 + 2 + 24 + 7 + 2 + 24 + 2 + 24 + 2) 5 q_76 24 f_79 (by omega) (show B.1 + 1 + 1 + 1 + 1 + 1 + 1 + 1 + 1 + 1 + 1 + 1 + 1 + 1 + 1 ≤ MC by omega) (show B.2 + 3 + 2 + 24 + 2 + 24 + 2 + 24 + 7 + 2 + 24 + 2 + 24 + 2 + 24 ≤ MS by omega) (show B.1 + 1 + 1 + 1 + 1 + 1 + 1 + 1 + 1 + 1 + 1 + 1 + 1 + 1 ≤ MC by omega) (show B.2 + 3 + 2 + 24 + 2 + 24 + 2 + 24 + 7 + 2 + 24 + 2 + 24 + 2 ≤ MS by omega)) (fun _ _ => cwI 1 hts (tb_good k_Na_init) rfl rfl rfl (hts _ wm5) (hts _ wm129) (hts _ wm66) rfl (by decide +kernel) ⟨by rw [hRf]; exact Nat.le_of_ble_eq_true rfl, by rw [hRl]; exact Nat.le_of_ble_eq_true rfl⟩) (show B.1 + 1 + 1 + 1 + 1 + 1 + 1 + 1 + 1 + 1 + 1 + 1 + 1 + 1 ≤ MC by omega) (show B.2 + 3 + 2 + 24 + 2 + 24 + 2 + 24 + 7 + 2 + 24 + 2 + 24 + 2 ≤ MS by omega) rfl (Nat.le_of_ble_eq_true rfl) d_Ca_init_37) (fun G_92 B_93 p_94 => ?_)
  obtain ⟨a_95, z_96, f_97, f_98, x_99, e_100⟩ := p_94
  have z_101 : G a_95 = none := gex_0 x_91 z_96 (fun z => by have z := z.symm; subst z; rw [f_89] at z_96; cases z_96)
  have fr_102 : gfr (fun y => y = 5) G_77 G_92 := gfr_gex x_99 f_79
  have n_103 : isN cA G_92 24 0 a_12 0 := isN_fr n_82 fr_102 (show ¬ 0 = 5 by decide)
  have n_104 : isN cA G_92 24 1 a_13 0 := isN_fr n_83 fr_102 (show ¬ 1 = 5 by decide)
  have n_105 : isN cA G_92 24 2 a_14 0 := isN_fr n_84 fr_102 (show ¬ 2 = 5 by decide)
  have n_106 : isN cA G_92 24 3 a_49 0 := isN_fr n_85 fr_102 (show ¬ 3 = 5 by decide)
  have n_107 : isN cA G_92 24 4 a_50 0 := isN_fr n_86 fr_102 (show ¬ 4 = 5 by decide)
  have e_100 : B_93 = (B.1 + 1 + 1 + 1 + 1 + 1 + 1 + 1 + 1 + 1 + 1 + 1 + 1 + 1 + 1, B.2 + 3 + 2 + 24 + 2 + 24 + 2 + 24 + 7 + 2 + 24 + 2 + 24 + 2 + 24) := e_100
  subst e_100
  have f_108 : G_92 q_1 = some (30, .inr (2, [.ref a_12, .ref a_13, .ref a_14])) := x_99 _ _ f_87 (gne f_87 f_79 (fun e => by cases e))
  have f_109 : G_92 q_33 = some (19, .inr (1, [.ref q_1, .ref a_49, .ref a_50, .long (lN 0), .long (lN 0), .long (lN 0), .long (lN 0)])) := x_99 _ _ f_88 (gne f_88 f_79 (fun e => by cases e))
  have f_110 : G_92 h = some (30, .inr (0, [.ref q_1, .ref q_33, .null, .null, .null, .null, .null, .null])) := x_99 _ _ f_89 (gne f_89 f_79 (fun e => by cases e))
  have x_111 : gex (fun x => x = h) G G_92 := gex_tr x_91 x_99 (fun x y hx9 _ e => by subst e; rw [z_90] at hx9; cases hx9)
  have n_112 : isN cA G_92 24 5 q_76 0 := isN_0 f_97 f_98
  refine g_putF (ty := .object "MetreFractions$Natural") hx hb hts hin_Ca ty_Ca ty_Ca_ok nm_Ca hown hK f_110 rfl 2 (by decide) (hts _ wm132) (fun _ h9 => h9) rfl hin rfl (by decide +kernel) rfl rfl (Nat.le_of_ble_eq_true rfl) d_Ca_init_40 (fun G_113 f_114 o_115 => ?_)
  have f_116 : G_113 h = some (30, .inr (0, [.ref q_1, .ref q_33, .ref q_76, .null, .null, .null, .null, .null])) := f_114
  have f_117 : G_113 q_1 = some (30, .inr (2, [.ref a_12, .ref a_13, .ref a_14])) := (o_115 _ (gne f_108 f_110 (fun e => by cases e))).trans f_108
  have f_118 : G_113 q_33 = some (19, .inr (1, [.ref q_1, .ref a_49, .ref a_50, .long (lN 0), .long (lN 0), .long (lN 0), .long (lN 0)])) := (o_115 _ (gne f_109 f_110 (fun e => by cases e))).trans f_109
  have x_119 : gex (fun x => x = h) G G_113 := gex_put x_111 o_115 (Or.inl rfl)
  have fr_120 : gfr (fun y => y = 30) G_92 G_113 := gfr_put gfr_rf f_110 rfl o_115
  have n_121 : isN cA G_113 24 0 a_12 0 := isN_fr n_103 fr_120 (show ¬ 0 = 30 by decide)
  have n_122 : isN cA G_113 24 1 a_13 0 := isN_fr n_104 fr_120 (show ¬ 1 = 30 by decide)
  have n_123 : isN cA G_113 24 2 a_14 0 := isN_fr n_105 fr_120 (show ¬ 2 = 30 by decide)
  have n_124 : isN cA G_113 24 3 a_49 0 := isN_fr n_106 fr_120 (show ¬ 3 = 30 by decide)
  have n_125 : isN cA G_113 24 4 a_50 0 := isN_fr n_107 fr_120 (show ¬ 4 = 30 by decide)
  have n_126 : isN cA G_113 24 5 q_76 0 := isN_fr n_112 fr_120 (show ¬ 5 = 30 by decide)
  refine gs (pc' := 44) (fun _ _ _ _ _ hl => lv_aload_n hx hb d_Ca_init_43 rfl (lv_at hl 0 rfl)) ?_
  refine g_new hx hb hts hin_Na ty_Na ty_Na_ok hown (hts _ wm128) (hts _ wm64) (hts _ wm5) hK (ci := 4) rfl (fs := [.null, .int (nI 0)]) (fun j => match j with | 0 => fun _ => rfl | 1 => fun _ => rfl | n + 2 => fun h9 => absurd h9 (by omega)) hlo hRc hRs (show B.1 + 1 + 1 + 1 + 1 + 1 + 1 + 1 + 1 + 1 + 1 + 1 + 1 + 1 + 1 + 1 ≤ MC by omega) (show B.2 + 3 + 2 + 24 + 2 + 24 + 2 + 24 + 7 + 2 + 24 + 2 + 24 + 2 + 24 + 2 ≤ MS by omega) d_Ca_init_44 6 (fun q_127 G_128 z_129 f_130 o_131 => ?_)
  have fr_132 : gfr (fun y => y = 1000) G_113 G_128 := gfr_new gfr_rf z_129 o_131
  have n_133 : isN cA G_128 24 0 a_12 0 := isN_fr n_121 fr_132 (show ¬ 0 = 1000 by decide)
  have n_134 : isN cA G_128 24 1 a_13 0 := isN_fr n_122 fr_132 (show ¬ 1 = 1000 by decide)
  have n_135 : isN cA G_128 24 2 a_14 0 := isN_fr n_123 fr_132 (show ¬ 2 = 1000 by decide)
  have n_136 : isN cA G_128 24 3 a_49 0 := isN_fr n_124 fr_132 (show ¬ 3 = 1000 by decide)
  have n_137 : isN cA G_128 24 4 a_50 0 := isN_fr n_125 fr_132 (show ¬ 4 = 1000 by decide)
  have n_138 : isN cA G_128 24 5 q_76 0 := isN_fr n_126 fr_132 (show ¬ 5 = 1000 by decide)
  have f_139 : G_128 q_1 = some (30, .inr (2, [.ref a_12, .ref a_13, .ref a_14])) := (o_131 _ (fun e => by subst e; rw [f_117] at z_129; cases z_129)).trans f_117
  have f_140 : G_128 q_33 = some (19, .inr (1, [.ref q_1, .ref a_49, .ref a_50, .long (lN 0), .long (lN 0), .long (lN 0), .long (lN 0)])) := (o_131 _ (fun e => by subst e; rw [f_118] at z_129; cases z_129)).trans f_118
  have f_141 : G_128 h = some (30, .inr (0, [.ref q_1, .ref q_33, .ref q_76, .null, .null, .null, .null, .null])) := (o_131 _ (fun e => by subst e; rw [f_116] at z_129; cases z_129)).trans f_116
  have z_142 : G q_127 = none := gex_0 x_119 z_129 (fun z => by have z := z.symm; subst z; rw [f_116] at z_129; cases z_129)
  have x_143 : gex (fun x => x = h) G G_128 := gex_new x_119 z_129 o_131
  refine g_Beq (B' := (B.1 + 1 + 1 + 1 + 1 + 1 + 1 + 1 + 1 + 1 + 1 + 1 + 1 + 1 + 1 + 1, B.2 + 3 + 2 + 24 + 2 + 24 + 2 + 24 + 7 + 2 + 24 + 2 + 24 + 2 + 24 + 2)) rfl ?_
  refine gs (pc' := 48) (fun _ _ _ _ _ hl => lv_dup hx hb d_Ca_init_47 rfl) ?_
  refine gs (pc' := 50) (fun _ _ _ _ _ hl => lv_bipush (v := nI 24) hx hb d_Ca_init_48 (by decide)) ?_
  refine g_outv hlo (g_runI (b := q_127) (As := [.int (nI 24)]) (rest := [.ref q_127, .ref h]) ⟨hx, hb, hml, hown, hts⟩ hK hZ hRc hRs (c_Na_init l D cA lo MC MS G_128 (B.1 + 1 + 1 + 1 + 1 + 1 + 1 + 1 + 1 + 1 + 1 + 1 + 1 + 1 + 1 + 1, B.2 + 3 + 2 + 24 + 2 + 24 + 2 + 24 + 7 + 2 + 24 + 2 + 24 + 2 + 24 + 2) 6 q_127 24 f_130 (by omega) (show B.1 + 1 + 1 + 1 + 1 + 1 + 1 + 1 + 1 + 1 + 1 + 1 + 1 + 1 + 1 + 1 + 1 ≤ MC by omega) (show B.2 + 3 + 2 + 24 + 2 + 24 + 2 + 24 + 7 + 2 + 24 + 2 + 24 + 2 + 24 + 2 + 24 ≤ MS by omega) (show B.1 + 1 + 1 + 1 + 1 + 1 + 1 + 1 + 1 + 1 + 1 + 1 + 1 + 1 + 1 + 1 ≤ MC by omega) (show B.2 + 3 + 2 + 24 + 2 + 24 + 2 + 24 + 7 + 2 + 24 + 2 + 24 + 2 + 24 + 2 ≤ MS by omega)) (fun _ _ => cwI 1 hts (tb_good k_Na_init) rfl rfl rfl (hts _ wm5) (hts _ wm129) (hts _ wm66) rfl (by decide +kernel) ⟨by rw [hRf]; exact Nat.le_of_ble_eq_true rfl, by rw [hRl]; exact Nat.le_of_ble_eq_true rfl⟩) (show B.1 + 1 + 1 + 1 + 1 + 1 + 1 + 1 + 1 + 1 + 1 + 1 + 1 + 1 + 1 + 1 ≤ MC by omega) (show B.2 + 3 + 2 + 24 + 2 + 24 + 2 + 24 + 7 + 2 + 24 + 2 + 24 + 2 + 24 + 2 ≤ MS by omega) rfl (Nat.le_of_ble_eq_true rfl) d_Ca_init_50) (fun G_144 B_145 p_146 => ?_)
  obtain ⟨a_147, z_148, f_149, f_150, x_151, e_152⟩ := p_146
  have z_153 : G a_147 = none := gex_0 x_143 z_148 (fun z => by have z := z.symm; subst z; rw [f_141] at z_148; cases z_148)
  have fr_154 : gfr (fun y => y = 6) G_128 G_144 := gfr_gex x_151 f_130
  have n_155 : isN cA G_144 24 0 a_12 0 := isN_fr n_133 fr_154 (show ¬ 0 = 6 by decide)
  have n_156 : isN cA G_144 24 1 a_13 0 := isN_fr n_134 fr_154 (show ¬ 1 = 6 by decide)
  have n_157 : isN cA G_144 24 2 a_14 0 := isN_fr n_135 fr_154 (show ¬ 2 = 6 by decide)
  have n_158 : isN cA G_144 24 3 a_49 0 := isN_fr n_136 fr_154 (show ¬ 3 = 6 by decide)
  have n_159 : isN cA G_144 24 4 a_50 0 := isN_fr n_137 fr_154 (show ¬ 4 = 6 by decide)
  have n_160 : isN cA G_144 24 5 q_76 0 := isN_fr n_138 fr_154 (show ¬ 5 = 6 by decide)
  have e_152 : B_145 = (B.1 + 1 + 1 + 1 + 1 + 1 + 1 + 1 + 1 + 1 + 1 + 1 + 1 + 1 + 1 + 1 + 1, B.2 + 3 + 2 + 24 + 2 + 24 + 2 + 24 + 7 + 2 + 24 + 2 + 24 + 2 + 24 + 2 + 24) := e_152
  subst e_152
  have f_161 : G_144 q_1 = some (30, .inr (2, [.ref a_12, .ref a_13, .ref a_14])) := x_151 _ _ f_139 (gne f_139 f_130 (fun e => by cases e))
  have f_162 : G_144 q_33 = some (19, .inr (1, [.ref q_1, .ref a_49, .ref a_50, .long (lN 0), .long (lN 0), .long (lN 0), .long (lN 0)])) := x_151 _ _ f_140 (gne f_140 f_130 (fun e => by cases e))
  have f_163 : G_144 h = some (30, .inr (0, [.ref q_1, .ref q_33, .ref q_76, .null, .null, .null, .null, .null])) := x_151 _ _ f_141 (gne f_141 f_130 (fun e => by cases e))
  have x_164 : gex (fun x => x = h) G G_144 := gex_tr x_143 x_151 (fun x y hx9 _ e => by subst e; rw [z_142] at hx9; cases hx9)
  have n_165 : isN cA G_144 24 6 q_127 0 := isN_0 f_149 f_150
  refine g_putF (ty := .object "MetreFractions$Natural") hx hb hts hin_Ca ty_Ca ty_Ca_ok nm_Ca hown hK f_163 rfl 3 (by decide) (hts _ wm133) (fun _ h9 => h9) rfl hin rfl (by decide +kernel) rfl rfl (Nat.le_of_ble_eq_true rfl) d_Ca_init_53 (fun G_166 f_167 o_168 => ?_)
  have f_169 : G_166 h = some (30, .inr (0, [.ref q_1, .ref q_33, .ref q_76, .ref q_127, .null, .null, .null, .null])) := f_167
  have f_170 : G_166 q_1 = some (30, .inr (2, [.ref a_12, .ref a_13, .ref a_14])) := (o_168 _ (gne f_161 f_163 (fun e => by cases e))).trans f_161
  have f_171 : G_166 q_33 = some (19, .inr (1, [.ref q_1, .ref a_49, .ref a_50, .long (lN 0), .long (lN 0), .long (lN 0), .long (lN 0)])) := (o_168 _ (gne f_162 f_163 (fun e => by cases e))).trans f_162
  have x_172 : gex (fun x => x = h) G G_166 := gex_put x_164 o_168 (Or.inl rfl)
  have fr_173 : gfr (fun y => y = 30) G_144 G_166 := gfr_put gfr_rf f_163 rfl o_168
  have n_174 : isN cA G_166 24 0 a_12 0 := isN_fr n_155 fr_173 (show ¬ 0 = 30 by decide)
  have n_175 : isN cA G_166 24 1 a_13 0 := isN_fr n_156 fr_173 (show ¬ 1 = 30 by decide)
  have n_176 : isN cA G_166 24 2 a_14 0 := isN_fr n_157 fr_173 (show ¬ 2 = 30 by decide)
  have n_177 : isN cA G_166 24 3 a_49 0 := isN_fr n_158 fr_173 (show ¬ 3 = 30 by decide)
  have n_178 : isN cA G_166 24 4 a_50 0 := isN_fr n_159 fr_173 (show ¬ 4 = 30 by decide)
  have n_179 : isN cA G_166 24 5 q_76 0 := isN_fr n_160 fr_173 (show ¬ 5 = 30 by decide)
  have n_180 : isN cA G_166 24 6 q_127 0 := isN_fr n_165 fr_173 (show ¬ 6 = 30 by decide)
  refine gs (pc' := 57) (fun _ _ _ _ _ hl => lv_aload_n hx hb d_Ca_init_56 rfl (lv_at hl 0 rfl)) ?_
  refine g_new hx hb hts hin_Na ty_Na ty_Na_ok hown (hts _ wm128) (hts _ wm64) (hts _ wm5) hK (ci := 4) rfl (fs := [.null, .int (nI 0)]) (fun j => match j with | 0 => fun _ => rfl | 1 => fun _ => rfl | n + 2 => fun h9 => absurd h9 (by omega)) hlo hRc hRs (show B.1 + 1 + 1 + 1 + 1 + 1 + 1 + 1 + 1 + 1 + 1 + 1 + 1 + 1 + 1 + 1 + 1 + 1 ≤ MC by omega) (show B.2 + 3 + 2 + 24 + 2 + 24 + 2 + 24 + 7 + 2 + 24 + 2 + 24 + 2 + 24 + 2 + 24 + 2 ≤ MS by omega) d_Ca_init_57 7 (fun q_181 G_182 z_183 f_184 o_185 => ?_)
  have fr_186 : gfr (fun y => y = 1000) G_166 G_182 := gfr_new gfr_rf z_183 o_185
  have n_187 : isN cA G_182 24 0 a_12 0 := isN_fr n_174 fr_186 (show ¬ 0 = 1000 by decide)
  have n_188 : isN cA G_182 24 1 a_13 0 := isN_fr n_175 fr_186 (show ¬ 1 = 1000 by decide)
  have n_189 : isN cA G_182 24 2 a_14 0 := isN_fr n_176 fr_186 (show ¬ 2 = 1000 by decide)
  have n_190 : isN cA G_182 24 3 a_49 0 := isN_fr n_177 fr_186 (show ¬ 3 = 1000 by decide)
  have n_191 : isN cA G_182 24 4 a_50 0 := isN_fr n_178 fr_186 (show ¬ 4 = 1000 by decide)
  have n_192 : isN cA G_182 24 5 q_76 0 := isN_fr n_179 fr_186 (show ¬ 5 = 1000 by decide)
  have n_193 : isN cA G_182 24 6 q_127 0 := isN_fr n_180 fr_186 (show ¬ 6 = 1000 by decide)
  have f_194 : G_182 q_1 = some (30, .inr (2, [.ref a_12, .ref a_13, .ref a_14])) := (o_185 _ (fun e => by subst e; rw [f_170] at z_183; cases z_183)).trans f_170
  have f_195 : G_182 q_33 = some (19, .inr (1, [.ref q_1, .ref a_49, .ref a_50, .long (lN 0), .long (lN 0), .long (lN 0), .long (lN 0)])) := (o_185 _ (fun e => by subst e; rw [f_171] at z_183; cases z_183)).trans f_171
  have f_196 : G_182 h = some (30, .inr (0, [.ref q_1, .ref q_33, .ref q_76, .ref q_127, .null, .null, .null, .null])) := (o_185 _ (fun e => by subst e; rw [f_169] at z_183; cases z_183)).trans f_169
  have z_197 : G q_181 = none := gex_0 x_172 z_183 (fun z => by have z := z.symm; subst z; rw [f_169] at z_183; cases z_183)
  have x_198 : gex (fun x => x = h) G G_182 := gex_new x_172 z_183 o_185
  refine g_Beq (B' := (B.1 + 1 + 1 + 1 + 1 + 1 + 1 + 1 + 1 + 1 + 1 + 1 + 1 + 1 + 1 + 1 + 1 + 1, B.2 + 3 + 2 + 24 + 2 + 24 + 2 + 24 + 7 + 2 + 24 + 2 + 24 + 2 + 24 + 2 + 24 + 2)) rfl ?_
  refine gs (pc' := 61) (fun _ _ _ _ _ hl => lv_dup hx hb d_Ca_init_60 rfl) ?_
  refine gs (pc' := 63) (fun _ _ _ _ _ hl => lv_bipush (v := nI 24) hx hb d_Ca_init_61 (by decide)) ?_
  refine g_outv hlo (g_runI (b := q_181) (As := [.int (nI 24)]) (rest := [.ref q_181, .ref h]) ⟨hx, hb, hml, hown, hts⟩ hK hZ hRc hRs (c_Na_init l D cA lo MC MS G_182 (B.1 + 1 + 1 + 1 + 1 + 1 + 1 + 1 + 1 + 1 + 1 + 1 + 1 + 1 + 1 + 1 + 1 + 1, B.2 + 3 + 2 + 24 + 2 + 24 + 2 + 24 + 7 + 2 + 24 + 2 + 24 + 2 + 24 + 2 + 24 + 2) 7 q_181 24 f_184 (by omega) (show B.1 + 1 + 1 + 1 + 1 + 1 + 1 + 1 + 1 + 1 + 1 + 1 + 1 + 1 + 1 + 1 + 1 + 1 + 1 ≤ MC by omega) (show B.2 + 3 + 2 + 24 + 2 + 24 + 2 + 24 + 7 + 2 + 24 + 2 + 24 + 2 + 24 + 2 + 24 + 2 + 24 ≤ MS by omega) (show B.1 + 1 + 1 + 1 + 1 + 1 + 1 + 1 + 1 + 1 + 1 + 1 + 1 + 1 + 1 + 1 + 1 + 1 ≤ MC by omega) (show B.2 + 3 + 2 + 24 + 2 + 24 + 2 + 24 + 7 + 2 + 24 + 2 + 24 + 2 + 24 + 2 + 24 + 2 ≤ MS by omega)) (fun _ _ => cwI 1 hts (tb_good k_Na_init) rfl rfl rfl (hts _ wm5) (hts _ wm129) (hts _ wm66) rfl (by decide +kernel) ⟨by rw [hRf]; exact Nat.le_of_ble_eq_true rfl, by rw [hRl]; exact Nat.le_of_ble_eq_true rfl⟩) (show B.1 + 1 + 1 + 1 + 1 + 1 + 1 + 1 + 1 + 1 + 1 + 1 + 1 + 1 + 1 + 1 + 1 + 1 ≤ MC by omega) (show B.2 + 3 + 2 + 24 + 2 + 24 + 2 + 24 + 7 + 2 + 24 + 2 + 24 + 2 + 24 + 2 + 24 + 2 ≤ MS by omega) rfl (Nat.le_of_ble_eq_true rfl) d_Ca_init_63) (fun G_199 B_200 p_201 => ?_)
  obtain ⟨a_202, z_203, f_204, f_205, x_206, e_207⟩ := p_201
  have z_208 : G a_202 = none := gex_0 x_198 z_203 (fun z => by have z := z.symm; subst z; rw [f_196] at z_203; cases z_203)
  have fr_209 : gfr (fun y => y = 7) G_182 G_199 := gfr_gex x_206 f_184
  have n_210 : isN cA G_199 24 0 a_12 0 := isN_fr n_187 fr_209 (show ¬ 0 = 7 by decide)
  have n_211 : isN cA G_199 24 1 a_13 0 := isN_fr n_188 fr_209 (show ¬ 1 = 7 by decide)
  have n_212 : isN cA G_199 24 2 a_14 0 := isN_fr n_189 fr_209 (show ¬ 2 = 7 by decide)
  have n_213 : isN cA G_199 24 3 a_49 0 := isN_fr n_190 fr_209 (show ¬ 3 = 7 by decide)
  have n_214 : isN cA G_199 24 4 a_50 0 := isN_fr n_191 fr_209 (show ¬ 4 = 7 by decide)
  have n_215 : isN cA G_199 24 5 q_76 0 := isN_fr n_192 fr_209 (show ¬ 5 = 7 by decide)
  have n_216 : isN cA G_199 24 6 q_127 0 := isN_fr n_193 fr_209 (show ¬ 6 = 7 by decide)
  have e_207 : B_200 = (B.1 + 1 + 1 + 1 + 1 + 1 + 1 + 1 + 1 + 1 + 1 + 1 + 1 + 1 + 1 + 1 + 1 + 1 + 1, B.2 + 3 + 2 + 24 + 2 + 24 + 2 + 24 + 7 + 2 + 24 + 2 + 24 + 2 + 24 + 2 + 24 + 2 + 24) := e_207
  subst e_207
  have f_217 : G_199 q_1 = some (30, .inr (2, [.ref a_12, .ref a_13, .ref a_14])) := x_206 _ _ f_194 (gne f_194 f_184 (fun e => by cases e))
  have f_218 : G_199 q_33 = some (19, .inr (1, [.ref q_1, .ref a_49, .ref a_50, .long (lN 0), .long (lN 0), .long (lN 0), .long (lN 0)])) := x_206 _ _ f_195 (gne f_195 f_184 (fun e => by cases e))
  have f_219 : G_199 h = some (30, .inr (0, [.ref q_1, .ref q_33, .ref q_76, .ref q_127, .null, .null, .null, .null])) := x_206 _ _ f_196 (gne f_196 f_184 (fun e => by cases e))
  have x_220 : gex (fun x => x = h) G G_199 := gex_tr x_198 x_206 (fun x y hx9 _ e => by subst e; rw [z_197] at hx9; cases hx9)
  have n_221 : isN cA G_199 24 7 q_181 0 := isN_0 f_204 f_205
  refine g_putF (ty := .object "MetreFractions$Natural") hx hb hts hin_Ca ty_Ca ty_Ca_ok nm_Ca hown hK f_219 rfl 4 (by decide) (hts _ wm134) (fun _ h9 => h9) rfl hin rfl (by decide +kernel) rfl rfl (Nat.le_of_ble_eq_true rfl) d_Ca_init_66 (fun G_222 f_223 o_224 => ?_)
  have f_225 : G_222 h = some (30, .inr (0, [.ref q_1, .ref q_33, .ref q_76, .ref q_127, .ref q_181, .null, .null, .null])) := f_223
  have f_226 : G_222 q_1 = some (30, .inr (2, [.ref a_12, .ref a_13, .ref a_14])) := (o_224 _ (gne f_217 f_219 (fun e => by cases e))).trans f_217
  have f_227 : G_222 q_33 = some (19, .inr (1, [.ref q_1, .ref a_49, .ref a_50, .long (lN 0), .long (lN 0), .long (lN 0), .long (lN 0)])) := (o_224 _ (gne f_218 f_219 (fun e => by cases e))).trans f_218
  have x_228 : gex (fun x => x = h) G G_222 := gex_put x_220 o_224 (Or.inl rfl)
  have fr_229 : gfr (fun y => y = 30) G_199 G_222 := gfr_put gfr_rf f_219 rfl o_224
  have n_230 : isN cA G_222 24 0 a_12 0 := isN_fr n_210 fr_229 (show ¬ 0 = 30 by decide)
  have n_231 : isN cA G_222 24 1 a_13 0 := isN_fr n_211 fr_229 (show ¬ 1 = 30 by decide)
  have n_232 : isN cA G_222 24 2 a_14 0 := isN_fr n_212 fr_229 (show ¬ 2 = 30 by decide)
  have n_233 : isN cA G_222 24 3 a_49 0 := isN_fr n_213 fr_229 (show ¬ 3 = 30 by decide)
  have n_234 : isN cA G_222 24 4 a_50 0 := isN_fr n_214 fr_229 (show ¬ 4 = 30 by decide)
  have n_235 : isN cA G_222 24 5 q_76 0 := isN_fr n_215 fr_229 (show ¬ 5 = 30 by decide)
  have n_236 : isN cA G_222 24 6 q_127 0 := isN_fr n_216 fr_229 (show ¬ 6 = 30 by decide)
  have n_237 : isN cA G_222 24 7 q_181 0 := isN_fr n_221 fr_229 (show ¬ 7 = 30 by decide)
  refine gs (pc' := 70) (fun _ _ _ _ _ hl => lv_aload_n hx hb d_Ca_init_69 rfl (lv_at hl 0 rfl)) ?_
  refine g_new hx hb hts hin_Na ty_Na ty_Na_ok hown (hts _ wm128) (hts _ wm64) (hts _ wm5) hK (ci := 4) rfl (fs := [.null, .int (nI 0)]) (fun j => match j with | 0 => fun _ => rfl | 1 => fun _ => rfl | n + 2 => fun h9 => absurd h9 (by omega)) hlo hRc hRs (show B.1 + 1 + 1 + 1 + 1 + 1 + 1 + 1 + 1 + 1 + 1 + 1 + 1 + 1 + 1 + 1 + 1 + 1 + 1 + 1 ≤ MC by omega) (show B.2 + 3 + 2 + 24 + 2 + 24 + 2 + 24 + 7 + 2 + 24 + 2 + 24 + 2 + 24 + 2 + 24 + 2 + 24 + 2 ≤ MS by omega) d_Ca_init_70 8 (fun q_238 G_239 z_240 f_241 o_242 => ?_)
  have fr_243 : gfr (fun y => y = 1000) G_222 G_239 := gfr_new gfr_rf z_240 o_242
  have n_244 : isN cA G_239 24 0 a_12 0 := isN_fr n_230 fr_243 (show ¬ 0 = 1000 by decide)
  have n_245 : isN cA G_239 24 1 a_13 0 := isN_fr n_231 fr_243 (show ¬ 1 = 1000 by decide)
  have n_246 : isN cA G_239 24 2 a_14 0 := isN_fr n_232 fr_243 (show ¬ 2 = 1000 by decide)
  have n_247 : isN cA G_239 24 3 a_49 0 := isN_fr n_233 fr_243 (show ¬ 3 = 1000 by decide)
  have n_248 : isN cA G_239 24 4 a_50 0 := isN_fr n_234 fr_243 (show ¬ 4 = 1000 by decide)
  have n_249 : isN cA G_239 24 5 q_76 0 := isN_fr n_235 fr_243 (show ¬ 5 = 1000 by decide)
  have n_250 : isN cA G_239 24 6 q_127 0 := isN_fr n_236 fr_243 (show ¬ 6 = 1000 by decide)
  have n_251 : isN cA G_239 24 7 q_181 0 := isN_fr n_237 fr_243 (show ¬ 7 = 1000 by decide)
  have f_252 : G_239 q_1 = some (30, .inr (2, [.ref a_12, .ref a_13, .ref a_14])) := (o_242 _ (fun e => by subst e; rw [f_226] at z_240; cases z_240)).trans f_226
  have f_253 : G_239 q_33 = some (19, .inr (1, [.ref q_1, .ref a_49, .ref a_50, .long (lN 0), .long (lN 0), .long (lN 0), .long (lN 0)])) := (o_242 _ (fun e => by subst e; rw [f_227] at z_240; cases z_240)).trans f_227
  have f_254 : G_239 h = some (30, .inr (0, [.ref q_1, .ref q_33, .ref q_76, .ref q_127, .ref q_181, .null, .null, .null])) := (o_242 _ (fun e => by subst e; rw [f_225] at z_240; cases z_240)).trans f_225
  have z_255 : G q_238 = none := gex_0 x_228 z_240 (fun z => by have z := z.symm; subst z; rw [f_225] at z_240; cases z_240)
  have x_256 : gex (fun x => x = h) G G_239 := gex_new x_228 z_240 o_242
  refine g_Beq (B' := (B.1 + 1 + 1 + 1 + 1 + 1 + 1 + 1 + 1 + 1 + 1 + 1 + 1 + 1 + 1 + 1 + 1 + 1 + 1 + 1, B.2 + 3 + 2 + 24 + 2 + 24 + 2 + 24 + 7 + 2 + 24 + 2 + 24 + 2 + 24 + 2 + 24 + 2 + 24 + 2)) rfl ?_
  refine gs (pc' := 74) (fun _ _ _ _ _ hl => lv_dup hx hb d_Ca_init_73 rfl) ?_
  refine gs (pc' := 76) (fun _ _ _ _ _ hl => lv_bipush (v := nI 24) hx hb d_Ca_init_74 (by decide)) ?_
  refine g_outv hlo (g_runI (b := q_238) (As := [.int (nI 24)]) (rest := [.ref q_238, .ref h]) ⟨hx, hb, hml, hown, hts⟩ hK hZ hRc hRs (c_Na_init l D cA lo MC MS G_239 (B.1 + 1 + 1 + 1 + 1 + 1 + 1 + 1 + 1 + 1 + 1 + 1 + 1 + 1 + 1 + 1 + 1 + 1 + 1 + 1, B.2 + 3 + 2 + 24 + 2 + 24 + 2 + 24 + 7 + 2 + 24 + 2 + 24 + 2 + 24 + 2 + 24 + 2 + 24 + 2) 8 q_238 24 f_241 (by omega) (show B.1 + 1 + 1 + 1 + 1 + 1 + 1 + 1 + 1 + 1 + 1 + 1 + 1 + 1 + 1 + 1 + 1 + 1 + 1 + 1 + 1 ≤ MC by omega) (show B.2 + 3 + 2 + 24 + 2 + 24 + 2 + 24 + 7 + 2 + 24 + 2 + 24 + 2 + 24 + 2 + 24 + 2 + 24 + 2 + 24 ≤ MS by omega) (show B.1 + 1 + 1 + 1 + 1 + 1 + 1 + 1 + 1 + 1 + 1 + 1 + 1 + 1 + 1 + 1 + 1 + 1 + 1 + 1 ≤ MC by omega) (show B.2 + 3 + 2 + 24 + 2 + 24 + 2 + 24 + 7 + 2 + 24 + 2 + 24 + 2 + 24 + 2 + 24 + 2 + 24 + 2 ≤ MS by omega)) (fun _ _ => cwI 1 hts (tb_good k_Na_init) rfl rfl rfl (hts _ wm5) (hts _ wm129) (hts _ wm66) rfl (by decide +kernel) ⟨by rw [hRf]; exact Nat.le_of_ble_eq_true rfl, by rw [hRl]; exact Nat.le_of_ble_eq_true rfl⟩) (show B.1 + 1 + 1 + 1 + 1 + 1 + 1 + 1 + 1 + 1 + 1 + 1 + 1 + 1 + 1 + 1 + 1 + 1 + 1 + 1 ≤ MC by omega) (show B.2 + 3 + 2 + 24 + 2 + 24 + 2 + 24 + 7 + 2 + 24 + 2 + 24 + 2 + 24 + 2 + 24 + 2 + 24 + 2 ≤ MS by omega) rfl (Nat.le_of_ble_eq_true rfl) d_Ca_init_76) (fun G_257 B_258 p_259 => ?_)
  obtain ⟨a_260, z_261, f_262, f_263, x_264, e_265⟩ := p_259
  have z_266 : G a_260 = none := gex_0 x_256 z_261 (fun z => by have z := z.symm; subst z; rw [f_254] at z_261; cases z_261)
  have fr_267 : gfr (fun y => y = 8) G_239 G_257 := gfr_gex x_264 f_241
  have n_268 : isN cA G_257 24 0 a_12 0 := isN_fr n_244 fr_267 (show ¬ 0 = 8 by decide)
  have n_269 : isN cA G_257 24 1 a_13 0 := isN_fr n_245 fr_267 (show ¬ 1 = 8 by decide)
  have n_270 : isN cA G_257 24 2 a_14 0 := isN_fr n_246 fr_267 (show ¬ 2 = 8 by decide)
  have n_271 : isN cA G_257 24 3 a_49 0 := isN_fr n_247 fr_267 (show ¬ 3 = 8 by decide)
  have n_272 : isN cA G_257 24 4 a_50 0 := isN_fr n_248 fr_267 (show ¬ 4 = 8 by decide)
  have n_273 : isN cA G_257 24 5 q_76 0 := isN_fr n_249 fr_267 (show ¬ 5 = 8 by decide)
  have n_274 : isN cA G_257 24 6 q_127 0 := isN_fr n_250 fr_267 (show ¬ 6 = 8 by decide)
  have n_275 : isN cA G_257 24 7 q_181 0 := isN_fr n_251 fr_267 (show ¬ 7 = 8 by decide)
  have e_265 : B_258 = (B.1 + 1 + 1 + 1 + 1 + 1 + 1 + 1 + 1 + 1 + 1 + 1 + 1 + 1 + 1 + 1 + 1 + 1 + 1 + 1 + 1, B.2 + 3 + 2 + 24 + 2 + 24 + 2 + 24 + 7 + 2 + 24 + 2 + 24 + 2 + 24 + 2 + 24 + 2 + 24 + 2 + 24) := e_265
  subst e_265
  have f_276 : G_257 q_1 = some (30, .inr (2, [.ref a_12, .ref a_13, .ref a_14])) := x_264 _ _ f_252 (gne f_252 f_241 (fun e => by cases e))
  have f_277 : G_257 q_33 = some (19, .inr (1, [.ref q_1, .ref a_49, .ref a_50, .long (lN 0), .long (lN 0), .long (lN 0), .long (lN 0)])) := x_264 _ _ f_253 (gne f_253 f_241 (fun e => by cases e))
  have f_278 : G_257 h = some (30, .inr (0, [.ref q_1, .ref q_33, .ref q_76, .ref q_127, .ref q_181, .null, .null, .null])) := x_264 _ _ f_254 (gne f_254 f_241 (fun e => by cases e))
  have x_279 : gex (fun x => x = h) G G_257 := gex_tr x_256 x_264 (fun x y hx9 _ e => by subst e; rw [z_255] at hx9; cases hx9)
  have n_280 : isN cA G_257 24 8 q_238 0 := isN_0 f_262 f_263
  refine g_putF (ty := .object "MetreFractions$Natural") hx hb hts hin_Ca ty_Ca ty_Ca_ok nm_Ca hown hK f_278 rfl 5 (by decide) (hts _ wm135) (fun _ h9 => h9) rfl hin rfl (by decide +kernel) rfl rfl (Nat.le_of_ble_eq_true rfl) d_Ca_init_79 (fun G_281 f_282 o_283 => ?_)
  have f_284 : G_281 h = some (30, .inr (0, [.ref q_1, .ref q_33, .ref q_76, .ref q_127, .ref q_181, .ref q_238, .null, .null])) := f_282
  have f_285 : G_281 q_1 = some (30, .inr (2, [.ref a_12, .ref a_13, .ref a_14])) := (o_283 _ (gne f_276 f_278 (fun e => by cases e))).trans f_276
  have f_286 : G_281 q_33 = some (19, .inr (1, [.ref q_1, .ref a_49, .ref a_50, .long (lN 0), .long (lN 0), .long (lN 0), .long (lN 0)])) := (o_283 _ (gne f_277 f_278 (fun e => by cases e))).trans f_277
  have x_287 : gex (fun x => x = h) G G_281 := gex_put x_279 o_283 (Or.inl rfl)
  have fr_288 : gfr (fun y => y = 30) G_257 G_281 := gfr_put gfr_rf f_278 rfl o_283
  have n_289 : isN cA G_281 24 0 a_12 0 := isN_fr n_268 fr_288 (show ¬ 0 = 30 by decide)
  have n_290 : isN cA G_281 24 1 a_13 0 := isN_fr n_269 fr_288 (show ¬ 1 = 30 by decide)
  have n_291 : isN cA G_281 24 2 a_14 0 := isN_fr n_270 fr_288 (show ¬ 2 = 30 by decide)
  have n_292 : isN cA G_281 24 3 a_49 0 := isN_fr n_271 fr_288 (show ¬ 3 = 30 by decide)
  have n_293 : isN cA G_281 24 4 a_50 0 := isN_fr n_272 fr_288 (show ¬ 4 = 30 by decide)
  have n_294 : isN cA G_281 24 5 q_76 0 := isN_fr n_273 fr_288 (show ¬ 5 = 30 by decide)
  have n_295 : isN cA G_281 24 6 q_127 0 := isN_fr n_274 fr_288 (show ¬ 6 = 30 by decide)
  have n_296 : isN cA G_281 24 7 q_181 0 := isN_fr n_275 fr_288 (show ¬ 7 = 30 by decide)
  have n_297 : isN cA G_281 24 8 q_238 0 := isN_fr n_280 fr_288 (show ¬ 8 = 30 by decide)
  refine gs (pc' := 83) (fun _ _ _ _ _ hl => lv_aload_n hx hb d_Ca_init_82 rfl (lv_at hl 0 rfl)) ?_
  refine g_new hx hb hts hin_Na ty_Na ty_Na_ok hown (hts _ wm128) (hts _ wm64) (hts _ wm5) hK (ci := 4) rfl (fs := [.null, .int (nI 0)]) (fun j => match j with | 0 => fun _ => rfl | 1 => fun _ => rfl | n + 2 => fun h9 => absurd h9 (by omega)) hlo hRc hRs (show B.1 + 1 + 1 + 1 + 1 + 1 + 1 + 1 + 1 + 1 + 1 + 1 + 1 + 1 + 1 + 1 + 1 + 1 + 1 + 1 + 1 + 1 ≤ MC by omega) (show B.2 + 3 + 2 + 24 + 2 + 24 + 2 + 24 + 7 + 2 + 24 + 2 + 24 + 2 + 24 + 2 + 24 + 2 + 24 + 2 + 24 + 2 ≤ MS by omega) d_Ca_init_83 9 (fun q_298 G_299 z_300 f_301 o_302 => ?_)
  have fr_303 : gfr (fun y => y = 1000) G_281 G_299 := gfr_new gfr_rf z_300 o_302
  have n_304 : isN cA G_299 24 0 a_12 0 := isN_fr n_289 fr_303 (show ¬ 0 = 1000 by decide)
  have n_305 : isN cA G_299 24 1 a_13 0 := isN_fr n_290 fr_303 (show ¬ 1 = 1000 by decide)
  have n_306 : isN cA G_299 24 2 a_14 0 := isN_fr n_291 fr_303 (show ¬ 2 = 1000 by decide)
  have n_307 : isN cA G_299 24 3 a_49 0 := isN_fr n_292 fr_303 (show ¬ 3 = 1000 by decide)
  have n_308 : isN cA G_299 24 4 a_50 0 := isN_fr n_293 fr_303 (show ¬ 4 = 1000 by decide)
  have n_309 : isN cA G_299 24 5 q_76 0 := isN_fr n_294 fr_303 (show ¬ 5 = 1000 by decide)
  have n_310 : isN cA G_299 24 6 q_127 0 := isN_fr n_295 fr_303 (show ¬ 6 = 1000 by decide)
  have n_311 : isN cA G_299 24 7 q_181 0 := isN_fr n_296 fr_303 (show ¬ 7 = 1000 by decide)
  have n_312 : isN cA G_299 24 8 q_238 0 := isN_fr n_297 fr_303 (show ¬ 8 = 1000 by decide)
  have f_313 : G_299 q_1 = some (30, .inr (2, [.ref a_12, .ref a_13, .ref a_14])) := (o_302 _ (fun e => by subst e; rw [f_285] at z_300; cases z_300)).trans f_285
  have f_314 : G_299 q_33 = some (19, .inr (1, [.ref q_1, .ref a_49, .ref a_50, .long (lN 0), .long (lN 0), .long (lN 0), .long (lN 0)])) := (o_302 _ (fun e => by subst e; rw [f_286] at z_300; cases z_300)).trans f_286
  have f_315 : G_299 h = some (30, .inr (0, [.ref q_1, .ref q_33, .ref q_76, .ref q_127, .ref q_181, .ref q_238, .null, .null])) := (o_302 _ (fun e => by subst e; rw [f_284] at z_300; cases z_300)).trans f_284
  have z_316 : G q_298 = none := gex_0 x_287 z_300 (fun z => by have z := z.symm; subst z; rw [f_284] at z_300; cases z_300)
  have x_317 : gex (fun x => x = h) G G_299 := gex_new x_287 z_300 o_302
  refine g_Beq (B' := (B.1 + 1 + 1 + 1 + 1 + 1 + 1 + 1 + 1 + 1 + 1 + 1 + 1 + 1 + 1 + 1 + 1 + 1 + 1 + 1 + 1 + 1, B.2 + 3 + 2 + 24 + 2 + 24 + 2 + 24 + 7 + 2 + 24 + 2 + 24 + 2 + 24 + 2 + 24 + 2 + 24 + 2 + 24 + 2)) rfl ?_
  refine gs (pc' := 87) (fun _ _ _ _ _ hl => lv_dup hx hb d_Ca_init_86 rfl) ?_
  refine gs (pc' := 89) (fun _ _ _ _ _ hl => lv_bipush (v := nI 24) hx hb d_Ca_init_87 (by decide)) ?_
  refine g_outv hlo (g_runI (b := q_298) (As := [.int (nI 24)]) (rest := [.ref q_298, .ref h]) ⟨hx, hb, hml, hown, hts⟩ hK hZ hRc hRs (c_Na_init l D cA lo MC MS G_299 (B.1 + 1 + 1 + 1 + 1 + 1 + 1 + 1 + 1 + 1 + 1 + 1 + 1 + 1 + 1 + 1 + 1 + 1 + 1 + 1 + 1 + 1, B.2 + 3 + 2 + 24 + 2 + 24 + 2 + 24 + 7 + 2 + 24 + 2 + 24 + 2 + 24 + 2 + 24 + 2 + 24 + 2 + 24 + 2) 9 q_298 24 f_301 (by omega) (show B.1 + 1 + 1 + 1 + 1 + 1 + 1 + 1 + 1 + 1 + 1 + 1 + 1 + 1 + 1 + 1 + 1 + 1 + 1 + 1 + 1 + 1 + 1 ≤ MC by omega) (show B.2 + 3 + 2 + 24 + 2 + 24 + 2 + 24 + 7 + 2 + 24 + 2 + 24 + 2 + 24 + 2 + 24 + 2 + 24 + 2 + 24 + 2 + 24 ≤ MS by omega) (show B.1 + 1 + 1 + 1 + 1 + 1 + 1 + 1 + 1 + 1 + 1 + 1 + 1 + 1 + 1 + 1 + 1 + 1 + 1 + 1 + 1 + 1 ≤ MC by omega) (show B.2 + 3 + 2 + 24 + 2 + 24 + 2 + 24 + 7 + 2 + 24 + 2 + 24 + 2 + 24 + 2 + 24 + 2 + 24 + 2 + 24 + 2 ≤ MS by omega)) (fun _ _ => cwI 1 hts (tb_good k_Na_init) rfl rfl rfl (hts _ wm5) (hts _ wm129) (hts _ wm66) rfl (by decide +kernel) ⟨by rw [hRf]; exact Nat.le_of_ble_eq_true rfl, by rw [hRl]; exact Nat.le_of_ble_eq_true rfl⟩) (show B.1 + 1 + 1 + 1 + 1 + 1 + 1 + 1 + 1 + 1 + 1 + 1 + 1 + 1 + 1 + 1 + 1 + 1 + 1 + 1 + 1 + 1 ≤ MC by omega) (show B.2 + 3 + 2 + 24 + 2 + 24 + 2 + 24 + 7 + 2 + 24 + 2 + 24 + 2 + 24 + 2 + 24 + 2 + 24 + 2 + 24 + 2 ≤ MS by omega) rfl (Nat.le_of_ble_eq_true rfl) d_Ca_init_89) (fun G_318 B_319 p_320 => ?_)
  obtain ⟨a_321, z_322, f_323, f_324, x_325, e_326⟩ := p_320
  have z_327 : G a_321 = none := gex_0 x_317 z_322 (fun z => by have z := z.symm; subst z; rw [f_315] at z_322; cases z_322)
  have fr_328 : gfr (fun y => y = 9) G_299 G_318 := gfr_gex x_325 f_301
  have n_329 : isN cA G_318 24 0 a_12 0 := isN_fr n_304 fr_328 (show ¬ 0 = 9 by decide)
  have n_330 : isN cA G_318 24 1 a_13 0 := isN_fr n_305 fr_328 (show ¬ 1 = 9 by decide)
  have n_331 : isN cA G_318 24 2 a_14 0 := isN_fr n_306 fr_328 (show ¬ 2 = 9 by decide)
  have n_332 : isN cA G_318 24 3 a_49 0 := isN_fr n_307 fr_328 (show ¬ 3 = 9 by decide)
  have n_333 : isN cA G_318 24 4 a_50 0 := isN_fr n_308 fr_328 (show ¬ 4 = 9 by decide)
  have n_334 : isN cA G_318 24 5 q_76 0 := isN_fr n_309 fr_328 (show ¬ 5 = 9 by decide)
  have n_335 : isN cA G_318 24 6 q_127 0 := isN_fr n_310 fr_328 (show ¬ 6 = 9 by decide)
  have n_336 : isN cA G_318 24 7 q_181 0 := isN_fr n_311 fr_328 (show ¬ 7 = 9 by decide)
  have n_337 : isN cA G_318 24 8 q_238 0 := isN_fr n_312 fr_328 (show ¬ 8 = 9 by decide)
  have e_326 : B_319 = (B.1 + 1 + 1 + 1 + 1 + 1 + 1 + 1 + 1 + 1 + 1 + 1 + 1 + 1 + 1 + 1 + 1 + 1 + 1 + 1 + 1 + 1 + 1, B.2 + 3 + 2 + 24 + 2 + 24 + 2 + 24 + 7 + 2 + 24 + 2 + 24 + 2 + 24 + 2 + 24 + 2 + 24 + 2 + 24 + 2 + 24) := e_326
  subst e_326
  have f_338 : G_318 q_1 = some (30, .inr (2, [.ref a_12, .ref a_13, .ref a_14])) := x_325 _ _ f_313 (gne f_313 f_301 (fun e => by cases e))
  have f_339 : G_318 q_33 = some (19, .inr (1, [.ref q_1, .ref a_49, .ref a_50, .long (lN 0), .long (lN 0), .long (lN 0), .long (lN 0)])) := x_325 _ _ f_314 (gne f_314 f_301 (fun e => by cases e))
  have f_340 : G_318 h = some (30, .inr (0, [.ref q_1, .ref q_33, .ref q_76, .ref q_127, .ref q_181, .ref q_238, .null, .null])) := x_325 _ _ f_315 (gne f_315 f_301 (fun e => by cases e))
  have x_341 : gex (fun x => x = h) G G_318 := gex_tr x_317 x_325 (fun x y hx9 _ e => by subst e; rw [z_316] at hx9; cases hx9)
  have n_342 : isN cA G_318 24 9 q_298 0 := isN_0 f_323 f_324
  refine g_putF (ty := .object "MetreFractions$Natural") hx hb hts hin_Ca ty_Ca ty_Ca_ok nm_Ca hown hK f_340 rfl 6 (by decide) (hts _ wm136) (fun _ h9 => h9) rfl hin rfl (by decide +kernel) rfl rfl (Nat.le_of_ble_eq_true rfl) d_Ca_init_92 (fun G_343 f_344 o_345 => ?_)
  have f_346 : G_343 h = some (30, .inr (0, [.ref q_1, .ref q_33, .ref q_76, .ref q_127, .ref q_181, .ref q_238, .ref q_298, .null])) := f_344
  have f_347 : G_343 q_1 = some (30, .inr (2, [.ref a_12, .ref a_13, .ref a_14])) := (o_345 _ (gne f_338 f_340 (fun e => by cases e))).trans f_338
  have f_348 : G_343 q_33 = some (19, .inr (1, [.ref q_1, .ref a_49, .ref a_50, .long (lN 0), .long (lN 0), .long (lN 0), .long (lN 0)])) := (o_345 _ (gne f_339 f_340 (fun e => by cases e))).trans f_339
  have x_349 : gex (fun x => x = h) G G_343 := gex_put x_341 o_345 (Or.inl rfl)
  have fr_350 : gfr (fun y => y = 30) G_318 G_343 := gfr_put gfr_rf f_340 rfl o_345
  have n_351 : isN cA G_343 24 0 a_12 0 := isN_fr n_329 fr_350 (show ¬ 0 = 30 by decide)
  have n_352 : isN cA G_343 24 1 a_13 0 := isN_fr n_330 fr_350 (show ¬ 1 = 30 by decide)
  have n_353 : isN cA G_343 24 2 a_14 0 := isN_fr n_331 fr_350 (show ¬ 2 = 30 by decide)
  have n_354 : isN cA G_343 24 3 a_49 0 := isN_fr n_332 fr_350 (show ¬ 3 = 30 by decide)
  have n_355 : isN cA G_343 24 4 a_50 0 := isN_fr n_333 fr_350 (show ¬ 4 = 30 by decide)
  have n_356 : isN cA G_343 24 5 q_76 0 := isN_fr n_334 fr_350 (show ¬ 5 = 30 by decide)
  have n_357 : isN cA G_343 24 6 q_127 0 := isN_fr n_335 fr_350 (show ¬ 6 = 30 by decide)
  have n_358 : isN cA G_343 24 7 q_181 0 := isN_fr n_336 fr_350 (show ¬ 7 = 30 by decide)
  have n_359 : isN cA G_343 24 8 q_238 0 := isN_fr n_337 fr_350 (show ¬ 8 = 30 by decide)
  have n_360 : isN cA G_343 24 9 q_298 0 := isN_fr n_342 fr_350 (show ¬ 9 = 30 by decide)
  refine gs (pc' := 96) (fun _ _ _ _ _ hl => lv_aload_n hx hb d_Ca_init_95 rfl (lv_at hl 0 rfl)) ?_
  refine g_new hx hb hts hin_Na ty_Na ty_Na_ok hown (hts _ wm128) (hts _ wm64) (hts _ wm5) hK (ci := 4) rfl (fs := [.null, .int (nI 0)]) (fun j => match j with | 0 => fun _ => rfl | 1 => fun _ => rfl | n + 2 => fun h9 => absurd h9 (by omega)) hlo hRc hRs (show B.1 + 1 + 1 + 1 + 1 + 1 + 1 + 1 + 1 + 1 + 1 + 1 + 1 + 1 + 1 + 1 + 1 + 1 + 1 + 1 + 1 + 1 + 1 + 1 ≤ MC by omega) (show B.2 + 3 + 2 + 24 + 2 + 24 + 2 + 24 + 7 + 2 + 24 + 2 + 24 + 2 + 24 + 2 + 24 + 2 + 24 + 2 + 24 + 2 + 24 + 2 ≤ MS by omega) d_Ca_init_96 10 (fun q_361 G_362 z_363 f_364 o_365 => ?_)
  have fr_366 : gfr (fun y => y = 1000) G_343 G_362 := gfr_new gfr_rf z_363 o_365
  have n_367 : isN cA G_362 24 0 a_12 0 := isN_fr n_351 fr_366 (show ¬ 0 = 1000 by decide)
  have n_368 : isN cA G_362 24 1 a_13 0 := isN_fr n_352 fr_366 (show ¬ 1 = 1000 by decide)
  have n_369 : isN cA G_362 24 2 a_14 0 := isN_fr n_353 fr_366 (show ¬ 2 = 1000 by decide)
  have n_370 : isN cA G_362 24 3 a_49 0 := isN_fr n_354 fr_366 (show ¬ 3 = 1000 by decide)
  have n_371 : isN cA G_362 24 4 a_50 0 := isN_fr n_355 fr_366 (show ¬ 4 = 1000 by decide)
  have n_372 : isN cA G_362 24 5 q_76 0 := isN_fr n_356 fr_366 (show ¬ 5 = 1000 by decide)
  have n_373 : isN cA G_362 24 6 q_127 0 := isN_fr n_357 fr_366 (show ¬ 6 = 1000 by decide)
  have n_374 : isN cA G_362 24 7 q_181 0 := isN_fr n_358 fr_366 (show ¬ 7 = 1000 by decide)
  have n_375 : isN cA G_362 24 8 q_238 0 := isN_fr n_359 fr_366 (show ¬ 8 = 1000 by decide)
  have n_376 : isN cA G_362 24 9 q_298 0 := isN_fr n_360 fr_366 (show ¬ 9 = 1000 by decide)
  have f_377 : G_362 q_1 = some (30, .inr (2, [.ref a_12, .ref a_13, .ref a_14])) := (o_365 _ (fun e => by subst e; rw [f_347] at z_363; cases z_363)).trans f_347
  have f_378 : G_362 q_33 = some (19, .inr (1, [.ref q_1, .ref a_49, .ref a_50, .long (lN 0), .long (lN 0), .long (lN 0), .long (lN 0)])) := (o_365 _ (fun e => by subst e; rw [f_348] at z_363; cases z_363)).trans f_348
  have f_379 : G_362 h = some (30, .inr (0, [.ref q_1, .ref q_33, .ref q_76, .ref q_127, .ref q_181, .ref q_238, .ref q_298, .null])) := (o_365 _ (fun e => by subst e; rw [f_346] at z_363; cases z_363)).trans f_346
  have z_380 : G q_361 = none := gex_0 x_349 z_363 (fun z => by have z := z.symm; subst z; rw [f_346] at z_363; cases z_363)
  have x_381 : gex (fun x => x = h) G G_362 := gex_new x_349 z_363 o_365
  refine g_Beq (B' := (B.1 + 1 + 1 + 1 + 1 + 1 + 1 + 1 + 1 + 1 + 1 + 1 + 1 + 1 + 1 + 1 + 1 + 1 + 1 + 1 + 1 + 1 + 1 + 1, B.2 + 3 + 2 + 24 + 2 + 24 + 2 + 24 + 7 + 2 + 24 + 2 + 24 + 2 + 24 + 2 + 24 + 2 + 24 + 2 + 24 + 2 + 24 + 2)) rfl ?_
  refine gs (pc' := 100) (fun _ _ _ _ _ hl => lv_dup hx hb d_Ca_init_99 rfl) ?_
  refine gs (pc' := 102) (fun _ _ _ _ _ hl => lv_bipush (v := nI 24) hx hb d_Ca_init_100 (by decide)) ?_
  refine g_outv hlo (g_runI (b := q_361) (As := [.int (nI 24)]) (rest := [.ref q_361, .ref h]) ⟨hx, hb, hml, hown, hts⟩ hK hZ hRc hRs (c_Na_init l D cA lo MC MS G_362 (B.1 + 1 + 1 + 1 + 1 + 1 + 1 + 1 + 1 + 1 + 1 + 1 + 1 + 1 + 1 + 1 + 1 + 1 + 1 + 1 + 1 + 1 + 1 + 1, B.2 + 3 + 2 + 24 + 2 + 24 + 2 + 24 + 7 + 2 + 24 + 2 + 24 + 2 + 24 + 2 + 24 + 2 + 24 + 2 + 24 + 2 + 24 + 2) 10 q_361 24 f_364 (by omega) (show B.1 + 1 + 1 + 1 + 1 + 1 + 1 + 1 + 1 + 1 + 1 + 1 + 1 + 1 + 1 + 1 + 1 + 1 + 1 + 1 + 1 + 1 + 1 + 1 + 1 ≤ MC by omega) (show B.2 + 3 + 2 + 24 + 2 + 24 + 2 + 24 + 7 + 2 + 24 + 2 + 24 + 2 + 24 + 2 + 24 + 2 + 24 + 2 + 24 + 2 + 24 + 2 + 24 ≤ MS by omega) (show B.1 + 1 + 1 + 1 + 1 + 1 + 1 + 1 + 1 + 1 + 1 + 1 + 1 + 1 + 1 + 1 + 1 + 1 + 1 + 1 + 1 + 1 + 1 + 1 ≤ MC by omega) (show B.2 + 3 + 2 + 24 + 2 + 24 + 2 + 24 + 7 + 2 + 24 + 2 + 24 + 2 + 24 + 2 + 24 + 2 + 24 + 2 + 24 + 2 + 24 + 2 ≤ MS by omega)) (fun _ _ => cwI 1 hts (tb_good k_Na_init) rfl rfl rfl (hts _ wm5) (hts _ wm129) (hts _ wm66) rfl (by decide +kernel) ⟨by rw [hRf]; exact Nat.le_of_ble_eq_true rfl, by rw [hRl]; exact Nat.le_of_ble_eq_true rfl⟩) (show B.1 + 1 + 1 + 1 + 1 + 1 + 1 + 1 + 1 + 1 + 1 + 1 + 1 + 1 + 1 + 1 + 1 + 1 + 1 + 1 + 1 + 1 + 1 + 1 ≤ MC by omega) (show B.2 + 3 + 2 + 24 + 2 + 24 + 2 + 24 + 7 + 2 + 24 + 2 + 24 + 2 + 24 + 2 + 24 + 2 + 24 + 2 + 24 + 2 + 24 + 2 ≤ MS by omega) rfl (Nat.le_of_ble_eq_true rfl) d_Ca_init_102) (fun G_382 B_383 p_384 => ?_)
  obtain ⟨a_385, z_386, f_387, f_388, x_389, e_390⟩ := p_384
  have z_391 : G a_385 = none := gex_0 x_381 z_386 (fun z => by have z := z.symm; subst z; rw [f_379] at z_386; cases z_386)
  have fr_392 : gfr (fun y => y = 10) G_362 G_382 := gfr_gex x_389 f_364
  have n_393 : isN cA G_382 24 0 a_12 0 := isN_fr n_367 fr_392 (show ¬ 0 = 10 by decide)
  have n_394 : isN cA G_382 24 1 a_13 0 := isN_fr n_368 fr_392 (show ¬ 1 = 10 by decide)
  have n_395 : isN cA G_382 24 2 a_14 0 := isN_fr n_369 fr_392 (show ¬ 2 = 10 by decide)
  have n_396 : isN cA G_382 24 3 a_49 0 := isN_fr n_370 fr_392 (show ¬ 3 = 10 by decide)
  have n_397 : isN cA G_382 24 4 a_50 0 := isN_fr n_371 fr_392 (show ¬ 4 = 10 by decide)
  have n_398 : isN cA G_382 24 5 q_76 0 := isN_fr n_372 fr_392 (show ¬ 5 = 10 by decide)
  have n_399 : isN cA G_382 24 6 q_127 0 := isN_fr n_373 fr_392 (show ¬ 6 = 10 by decide)
  have n_400 : isN cA G_382 24 7 q_181 0 := isN_fr n_374 fr_392 (show ¬ 7 = 10 by decide)
  have n_401 : isN cA G_382 24 8 q_238 0 := isN_fr n_375 fr_392 (show ¬ 8 = 10 by decide)
  have n_402 : isN cA G_382 24 9 q_298 0 := isN_fr n_376 fr_392 (show ¬ 9 = 10 by decide)
  have e_390 : B_383 = (B.1 + 1 + 1 + 1 + 1 + 1 + 1 + 1 + 1 + 1 + 1 + 1 + 1 + 1 + 1 + 1 + 1 + 1 + 1 + 1 + 1 + 1 + 1 + 1 + 1, B.2 + 3 + 2 + 24 + 2 + 24 + 2 + 24 + 7 + 2 + 24 + 2 + 24 + 2 + 24 + 2 + 24 + 2 + 24 + 2 + 24 + 2 + 24 + 2 + 24) := e_390
  subst e_390
  have f_403 : G_382 q_1 = some (30, .inr (2, [.ref a_12, .ref a_13, .ref a_14])) := x_389 _ _ f_377 (gne f_377 f_364 (fun e => by cases e))
  have f_404 : G_382 q_33 = some (19, .inr (1, [.ref q_1, .ref a_49, .ref a_50, .long (lN 0), .long (lN 0), .long (lN 0), .long (lN 0)])) := x_389 _ _ f_378 (gne f_378 f_364 (fun e => by cases e))
  have f_405 : G_382 h = some (30, .inr (0, [.ref q_1, .ref q_33, .ref q_76, .ref q_127, .ref q_181, .ref q_238, .ref q_298, .null])) := x_389 _ _ f_379 (gne f_379 f_364 (fun e => by cases e))
  have x_406 : gex (fun x => x = h) G G_382 := gex_tr x_381 x_389 (fun x y hx9 _ e => by subst e; rw [z_380] at hx9; cases hx9)
  have n_407 : isN cA G_382 24 10 q_361 0 := isN_0 f_387 f_388
  refine g_putF (ty := .object "MetreFractions$Natural") hx hb hts hin_Ca ty_Ca ty_Ca_ok nm_Ca hown hK f_405 rfl 7 (by decide) (hts _ wm137) (fun _ h9 => h9) rfl hin rfl (by decide +kernel) rfl rfl (Nat.le_of_ble_eq_true rfl) d_Ca_init_105 (fun G_408 f_409 o_410 => ?_)
  have f_411 : G_408 h = some (30, .inr (0, [.ref q_1, .ref q_33, .ref q_76, .ref q_127, .ref q_181, .ref q_238, .ref q_298, .ref q_361])) := f_409
  have f_412 : G_408 q_1 = some (30, .inr (2, [.ref a_12, .ref a_13, .ref a_14])) := (o_410 _ (gne f_403 f_405 (fun e => by cases e))).trans f_403
  have f_413 : G_408 q_33 = some (19, .inr (1, [.ref q_1, .ref a_49, .ref a_50, .long (lN 0), .long (lN 0), .long (lN 0), .long (lN 0)])) := (o_410 _ (gne f_404 f_405 (fun e => by cases e))).trans f_404
  have x_414 : gex (fun x => x = h) G G_408 := gex_put x_406 o_410 (Or.inl rfl)
  have fr_415 : gfr (fun y => y = 30) G_382 G_408 := gfr_put gfr_rf f_405 rfl o_410
  have n_416 : isN cA G_408 24 0 a_12 0 := isN_fr n_393 fr_415 (show ¬ 0 = 30 by decide)
  have n_417 : isN cA G_408 24 1 a_13 0 := isN_fr n_394 fr_415 (show ¬ 1 = 30 by decide)
  have n_418 : isN cA G_408 24 2 a_14 0 := isN_fr n_395 fr_415 (show ¬ 2 = 30 by decide)
  have n_419 : isN cA G_408 24 3 a_49 0 := isN_fr n_396 fr_415 (show ¬ 3 = 30 by decide)
  have n_420 : isN cA G_408 24 4 a_50 0 := isN_fr n_397 fr_415 (show ¬ 4 = 30 by decide)
  have n_421 : isN cA G_408 24 5 q_76 0 := isN_fr n_398 fr_415 (show ¬ 5 = 30 by decide)
  have n_422 : isN cA G_408 24 6 q_127 0 := isN_fr n_399 fr_415 (show ¬ 6 = 30 by decide)
  have n_423 : isN cA G_408 24 7 q_181 0 := isN_fr n_400 fr_415 (show ¬ 7 = 30 by decide)
  have n_424 : isN cA G_408 24 8 q_238 0 := isN_fr n_401 fr_415 (show ¬ 8 = 30 by decide)
  have n_425 : isN cA G_408 24 9 q_298 0 := isN_fr n_402 fr_415 (show ¬ 9 = 30 by decide)
  have n_426 : isN cA G_408 24 10 q_361 0 := isN_fr n_407 fr_415 (show ¬ 10 = 30 by decide)
  exact hret 108 _ _ _ d_Ca_init_108 (show B.1 + 1 + 1 + 1 + 1 + 1 + 1 + 1 + 1 + 1 + 1 + 1 + 1 + 1 + 1 + 1 + 1 + 1 + 1 + 1 + 1 + 1 + 1 + 1 + 1 ≤ MC by omega) (show B.2 + 3 + 2 + 24 + 2 + 24 + 2 + 24 + 7 + 2 + 24 + 2 + 24 + 2 + 24 + 2 + 24 + 2 + 24 + 2 + 24 + 2 + 24 + 2 + 24 ≤ MS by omega) ⟨(fun t => [a_12, a_13, a_14, a_49, a_50, q_76, q_127, q_181, q_238, q_298, q_361].getD t 0), q_1, q_33, ⟨_, _, _, _, f_413⟩, f_411, f_412, (fun t ht => match t, ht with | 0, _ => n_416 | 1, _ => n_417 | 2, _ => n_418 | 3, _ => n_419 | 4, _ => n_420 | 5, _ => n_421 | 6, _ => n_422 | 7, _ => n_423 | 8, _ => n_424 | 9, _ => n_425 | 10, _ => n_426 | n + 11, h => absurd h (by omega)), x_414, rfl⟩
