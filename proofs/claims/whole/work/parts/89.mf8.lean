set_option maxHeartbeats 4000000 in
set_option maxRecDepth 100000 in
theorem c_Mf_init (l : Launch) (D : va_G) (cA : Nat → ClassId) (lo MC MS : Nat) (G : gT) (B : Nat × Nat) (h : Nat) (hh : G h = some (31, .inr (8, [.null, .int (nI 0), .null, .int (nI 0), .null, .null, .null, .null, .null, .null, .null, .null, .null, .null]))) (hC : B.1 + 200 ≤ MC) (hS : B.2 + 2000 ≤ MS) (hB1 : B.1 ≤ MC) (hB2 : B.2 ≤ MS) : gMet l y_Mf_init w_Mf_init 5 130 D clS (gtys cA) lo MC MS [.ref h] G B (gQv D clS lo (fun u => ∃ a : AX, a.x = h ∧ CW3 cA (B.1 + 57000, B.2 + 115000) a st0 u)) := by
  refine g_metv (cc := prog_1_method_1_code) (nL := 2) (L := [(0, .ref h)]) (by decide +kernel) rfl (Nat.le_of_ble_eq_true rfl) rfl ?_
  intro p e R s m args below meth c Q hF hRc hRs hRf hRl hret
  obtain ⟨hx, hb, hr, hml, hts0, hown, hlocks, hin, hK, hlo, hZ⟩ := hF
  have hts : ∀ w ∈ tbg, w.before args s = true := fun w h => hts0 w (List.mem_cons_of_mem _ h)
  obtain ⟨⟨-, -, -, -, -, hA1, hA2, -⟩, -⟩ := id hZ
  have hE : gex (fun x => x = h) G G := gex_rf
  refine gs (pc' := 1) (fun _ _ _ _ _ hl => lv_aload_n hx hb d_Mf_init_0 rfl (lv_at hl 0 rfl)) ?_
  refine gs (pc' := 4) (st' := []) (fun _ _ _ _ _ hl => fun kk => W.objInit (g := F0 m 1 _ (.ref h :: [])) hx hb hown (hts _ wm25) (hts _ wm26) (hts _ wm27) rfl (by rw [hml]; exact hl.1) rfl d_Mf_init_1 (by rw [hRf]; exact Nat.le_of_ble_eq_true rfl) (by rw [hRl]; exact Nat.le_of_ble_eq_true rfl) kk) ?_
  refine gs (pc' := 5) (fun _ _ _ _ _ hl => lv_aload_n hx hb d_Mf_init_4 rfl (lv_at hl 0 rfl)) ?_
  refine gs (pc' := 8) (fun _ _ _ _ _ hl => lv_sipush (v := nI 200) hx hb d_Mf_init_5 (by decide)) ?_
  refine g_anew hx hb hown (hts _ wm28) (va_AO.use hA1) hK 2 rfl (nI_pos (by omega)) (nI_clamp (by omega)) (by show 200 * 4 ≤ 536870912; omega) hlo hRc hRs (show B.1 + 1 ≤ MC by omega) (show B.2 + 200 ≤ MS by omega) d_Mf_init_8 32 (fun q_1 G_2 z_3 f_4 o_5 => ?_)
  have fr_6 : gfr (fun y => y = 1000) G G_2 := gfr_new gfr_rf z_3 o_5
  have f_7 : G_2 h = some (31, .inr (8, [.null, .int (nI 0), .null, .int (nI 0), .null, .null, .null, .null, .null, .null, .null, .null, .null, .null])) := (o_5 _ (fun e => by subst e; rw [hh] at z_3; cases z_3)).trans hh
  have z_8 : G q_1 = none := gex_0 hE z_3 (fun z => by have z := z.symm; subst z; rw [hh] at z_3; cases z_3)
  have x_9 : gex (fun x => x = h) G G_2 := gex_new hE z_3 o_5
  refine g_Beq (B' := (B.1 + 1, B.2 + 200)) rfl ?_
  refine g_putF (ty := .array (.object "MetreFractions$Value")) hx hb hts hin_Mf ty_Mf ty_Mf_ok nm_Mf hown hK f_7 rfl 0 (by decide) (hts _ wm235) (fun _ h9 => h9) rfl hin rfl (by decide +kernel) rfl rfl (Nat.le_of_ble_eq_true rfl) d_Mf_init_11 (fun G_10 f_11 o_12 => ?_)
  have f_13 : G_10 h = some (31, .inr (8, [.ref q_1, .int (nI 0), .null, .int (nI 0), .null, .null, .null, .null, .null, .null, .null, .null, .null, .null])) := f_11
  have f_14 : G_10 q_1 = some (32, .inl (cA 2, 200, .inr (.inr (.inr (.inr (fun _ => none)))))) := (o_12 _ (gne f_4 f_7 (fun e => by cases e))).trans f_4
  have x_15 : gex (fun x => x = h) G G_10 := gex_put x_9 o_12 (Or.inl rfl)
  have fr_16 : gfr (fun y => y = 31) G_2 G_10 := gfr_put gfr_rf f_7 rfl o_12
  refine gs (pc' := 15) (fun _ _ _ _ _ hl => lv_aload_n hx hb d_Mf_init_14 rfl (lv_at hl 0 rfl)) ?_
  refine gs (pc' := 16) (fun _ _ _ _ _ hl => lv_iconst (v := nI 0) hx hb d_Mf_init_15 (by decide)) ?_
  refine g_put (ty := .int) hx hb hts hin_Mf ty_Mf ty_Mf_ok nm_Mf hown hK f_13 rfl 1 (by decide) (hts _ wm236) (fun _ h9 => h9) rfl (by decide +kernel) rfl rfl (Nat.le_of_ble_eq_true rfl) d_Mf_init_16 (fun G_17 f_18 o_19 => ?_)
  have f_20 : G_17 h = some (31, .inr (8, [.ref q_1, .int (nI 0), .null, .int (nI 0), .null, .null, .null, .null, .null, .null, .null, .null, .null, .null])) := f_18
  have f_21 : G_17 q_1 = some (32, .inl (cA 2, 200, .inr (.inr (.inr (.inr (fun _ => none)))))) := (o_19 _ (gne f_14 f_13 (fun e => by cases e))).trans f_14
  have x_22 : gex (fun x => x = h) G G_17 := gex_put x_15 o_19 (Or.inl rfl)
  have fr_23 : gfr (fun y => y = 31) G_10 G_17 := gfr_put gfr_rf f_13 rfl o_19
  refine gs (pc' := 20) (fun _ _ _ _ _ hl => lv_aload_n hx hb d_Mf_init_19 rfl (lv_at hl 0 rfl)) ?_
  refine gs (pc' := 22) (fun _ _ _ _ _ hl => lv_bipush (v := nI 8) hx hb d_Mf_init_20 (by decide)) ?_
  refine g_anew hx hb hown (hts _ wm30) (va_AO.use hA2) hK 3 rfl (nI_pos (by omega)) (nI_clamp (by omega)) (by show 8 * 4 ≤ 536870912; omega) hlo hRc hRs (show B.1 + 1 + 1 ≤ MC by omega) (show B.2 + 200 + 8 ≤ MS by omega) d_Mf_init_22 33 (fun q_24 G_25 z_26 f_27 o_28 => ?_)
  have fr_29 : gfr (fun y => y = 1000) G_17 G_25 := gfr_new gfr_rf z_26 o_28
  have f_30 : G_25 q_1 = some (32, .inl (cA 2, 200, .inr (.inr (.inr (.inr (fun _ => none)))))) := (o_28 _ (fun e => by subst e; rw [f_21] at z_26; cases z_26)).trans f_21
  have f_31 : G_25 h = some (31, .inr (8, [.ref q_1, .int (nI 0), .null, .int (nI 0), .null, .null, .null, .null, .null, .null, .null, .null, .null, .null])) := (o_28 _ (fun e => by subst e; rw [f_20] at z_26; cases z_26)).trans f_20
  have z_32 : G q_24 = none := gex_0 x_22 z_26 (fun z => by have z := z.symm; subst z; rw [f_20] at z_26; cases z_26)
  have x_33 : gex (fun x => x = h) G G_25 := gex_new x_22 z_26 o_28
  refine g_Beq (B' := (B.1 + 1 + 1, B.2 + 200 + 8)) rfl ?_
  refine g_putF (ty := .array (.object "MetreFractions$Row")) hx hb hts hin_Mf ty_Mf ty_Mf_ok nm_Mf hown hK f_31 rfl 2 (by decide) (hts _ wm237) (fun _ h9 => h9) rfl hin rfl (by decide +kernel) rfl rfl (Nat.le_of_ble_eq_true rfl) d_Mf_init_25 (fun G_34 f_35 o_36 => ?_)
  have f_37 : G_34 h = some (31, .inr (8, [.ref q_1, .int (nI 0), .ref q_24, .int (nI 0), .null, .null, .null, .null, .null, .null, .null, .null, .null, .null])) := f_35
  have f_38 : G_34 q_1 = some (32, .inl (cA 2, 200, .inr (.inr (.inr (.inr (fun _ => none)))))) := (o_36 _ (gne f_30 f_31 (fun e => by cases e))).trans f_30
  have f_39 : G_34 q_24 = some (33, .inl (cA 3, 8, .inr (.inr (.inr (.inr (fun _ => none)))))) := (o_36 _ (gne f_27 f_31 (fun e => by cases e))).trans f_27
  have x_40 : gex (fun x => x = h) G G_34 := gex_put x_33 o_36 (Or.inl rfl)
  have fr_41 : gfr (fun y => y = 31) G_25 G_34 := gfr_put gfr_rf f_31 rfl o_36
  refine gs (pc' := 29) (fun _ _ _ _ _ hl => lv_aload_n hx hb d_Mf_init_28 rfl (lv_at hl 0 rfl)) ?_
  refine gs (pc' := 30) (fun _ _ _ _ _ hl => lv_iconst (v := nI 0) hx hb d_Mf_init_29 (by decide)) ?_
  refine g_put (ty := .int) hx hb hts hin_Mf ty_Mf ty_Mf_ok nm_Mf hown hK f_37 rfl 3 (by decide) (hts _ wm238) (fun _ h9 => h9) rfl (by decide +kernel) rfl rfl (Nat.le_of_ble_eq_true rfl) d_Mf_init_30 (fun G_42 f_43 o_44 => ?_)
  have f_45 : G_42 h = some (31, .inr (8, [.ref q_1, .int (nI 0), .ref q_24, .int (nI 0), .null, .null, .null, .null, .null, .null, .null, .null, .null, .null])) := f_43
  have f_46 : G_42 q_1 = some (32, .inl (cA 2, 200, .inr (.inr (.inr (.inr (fun _ => none)))))) := (o_44 _ (gne f_38 f_37 (fun e => by cases e))).trans f_38
  have f_47 : G_42 q_24 = some (33, .inl (cA 3, 8, .inr (.inr (.inr (.inr (fun _ => none)))))) := (o_44 _ (gne f_39 f_37 (fun e => by cases e))).trans f_39
  have x_48 : gex (fun x => x = h) G G_42 := gex_put x_40 o_44 (Or.inl rfl)
  have fr_49 : gfr (fun y => y = 31) G_34 G_42 := gfr_put gfr_rf f_37 rfl o_44
  refine gs (pc' := 34) (fun _ _ _ _ _ hl => lv_aload_n hx hb d_Mf_init_33 rfl (lv_at hl 0 rfl)) ?_
  refine g_new hx hb hts hin_We ty_We ty_We_ok hown (hts _ wm32) (hts _ wm33) (hts _ wm2) hK (ci := 7) rfl (fs := [.null, .null, .int (nI 0)]) (fun j => match j with | 0 => fun _ => rfl | 1 => fun _ => rfl | 2 => fun _ => rfl | n + 3 => fun h9 => absurd h9 (by omega)) hlo hRc hRs (show B.1 + 1 + 1 + 1 ≤ MC by omega) (show B.2 + 200 + 8 + 3 ≤ MS by omega) d_Mf_init_34 35 (fun q_50 G_51 z_52 f_53 o_54 => ?_)
  have fr_55 : gfr (fun y => y = 1000) G_42 G_51 := gfr_new gfr_rf z_52 o_54
  have f_56 : G_51 q_1 = some (32, .inl (cA 2, 200, .inr (.inr (.inr (.inr (fun _ => none)))))) := (o_54 _ (fun e => by subst e; rw [f_46] at z_52; cases z_52)).trans f_46
  have f_57 : G_51 q_24 = some (33, .inl (cA 3, 8, .inr (.inr (.inr (.inr (fun _ => none)))))) := (o_54 _ (fun e => by subst e; rw [f_47] at z_52; cases z_52)).trans f_47
  have f_58 : G_51 h = some (31, .inr (8, [.ref q_1, .int (nI 0), .ref q_24, .int (nI 0), .null, .null, .null, .null, .null, .null, .null, .null, .null, .null])) := (o_54 _ (fun e => by subst e; rw [f_45] at z_52; cases z_52)).trans f_45
  have z_59 : G q_50 = none := gex_0 x_48 z_52 (fun z => by have z := z.symm; subst z; rw [f_45] at z_52; cases z_52)
  have x_60 : gex (fun x => x = h) G G_51 := gex_new x_48 z_52 o_54
  refine g_Beq (B' := (B.1 + 1 + 1 + 1, B.2 + 200 + 8 + 3)) rfl ?_
  refine gs (pc' := 38) (fun _ _ _ _ _ hl => lv_dup hx hb d_Mf_init_37 rfl) ?_
  obtain ⟨⟨hN1, hN2, hN3, hN4, -, -, -⟩, -⟩ := id hZ
  refine g_outv hlo (g_runIN (b := q_50) (As := []) (rest := [.ref q_50, .ref h]) ⟨hx, hb, hml, hown, hts⟩ hK hZ hRc hRs (c_We_init l D cA lo MC MS G_51 (B.1 + 1 + 1 + 1, B.2 + 200 + 8 + 3) 35 36 37 q_50 (by decide) (by decide) (by decide) f_53 (show B.1 + 1 + 1 + 1 + 2 ≤ MC by omega) (show B.2 + 200 + 8 + 3 + 24 ≤ MS by omega) (show B.1 + 1 + 1 + 1 ≤ MC by omega) (show B.2 + 200 + 8 + 3 ≤ MS by omega)) (fun _ _ => ⟨va_cnB 0 hts (tb_good k_We_init) rfl rfl rfl hN1 (hts _ wm2) (by decide +kernel) ⟨by rw [hRf]; exact Nat.le_of_ble_eq_true rfl, by rw [hRl]; exact Nat.le_of_ble_eq_true rfl⟩, rfl, hts _ wm35⟩) (show B.1 + 1 + 1 + 1 ≤ MC by omega) (show B.2 + 200 + 8 + 3 ≤ MS by omega) rfl (Nat.le_of_ble_eq_true rfl) d_Mf_init_38) (fun G_61 B_62 p_63 => ?_)
  obtain ⟨a_64, a_65, f_66, f_67, f_68, x_69, e_70⟩ := p_63
  have fr_71 : gfr (fun y => y = 35) G_51 G_61 := gfr_gex x_69 f_53
  have e_70 : B_62 = (B.1 + 1 + 1 + 1 + 1 + 1, B.2 + 200 + 8 + 3 + 12 + 12) := e_70
  subst e_70
  have f_72 : G_61 q_1 = some (32, .inl (cA 2, 200, .inr (.inr (.inr (.inr (fun _ => none)))))) := x_69 _ _ f_56 (gne f_56 f_53 (fun e => by cases e))
  have f_73 : G_61 q_24 = some (33, .inl (cA 3, 8, .inr (.inr (.inr (.inr (fun _ => none)))))) := x_69 _ _ f_57 (gne f_57 f_53 (fun e => by cases e))
  have f_74 : G_61 h = some (31, .inr (8, [.ref q_1, .int (nI 0), .ref q_24, .int (nI 0), .null, .null, .null, .null, .null, .null, .null, .null, .null, .null])) := x_69 _ _ f_58 (gne f_58 f_53 (fun e => by cases e))
  have x_75 : gex (fun x => x = h) G G_61 := gex_tr x_60 x_69 (fun x y hx9 _ e => by subst e; rw [z_59] at hx9; cases hx9)
  refine g_putF (ty := .object "MetreFractions$Weights") hx hb hts hin_Mf ty_Mf ty_Mf_ok nm_Mf hown hK f_74 rfl 4 (by decide) (hts _ wm239) (fun _ h9 => h9) rfl hin rfl (by decide +kernel) rfl rfl (Nat.le_of_ble_eq_true rfl) d_Mf_init_41 (fun G_76 f_77 o_78 => ?_)
  have f_79 : G_76 h = some (31, .inr (8, [.ref q_1, .int (nI 0), .ref q_24, .int (nI 0), .ref q_50, .null, .null, .null, .null, .null, .null, .null, .null, .null])) := f_77
  have f_80 : G_76 q_1 = some (32, .inl (cA 2, 200, .inr (.inr (.inr (.inr (fun _ => none)))))) := (o_78 _ (gne f_72 f_74 (fun e => by cases e))).trans f_72
  have f_81 : G_76 q_24 = some (33, .inl (cA 3, 8, .inr (.inr (.inr (.inr (fun _ => none)))))) := (o_78 _ (gne f_73 f_74 (fun e => by cases e))).trans f_73
  have f_82 : G_76 q_50 = some (35, .inr (7, [.ref a_64, .ref a_65, .int (nI 0)])) := (o_78 _ (gne f_66 f_74 (fun e => by cases e))).trans f_66
  have f_83 : G_76 a_64 = some (36, .inl (cA 0, 12, .inl (fun _ => 0))) := (o_78 _ (gne f_67 f_74 (fun e => by cases e))).trans f_67
  have f_84 : G_76 a_65 = some (37, .inl (cA 1, 12, .inr (.inl (fun _ => 0)))) := (o_78 _ (gne f_68 f_74 (fun e => by cases e))).trans f_68
  have x_85 : gex (fun x => x = h) G G_76 := gex_put x_75 o_78 (Or.inl rfl)
  have fr_86 : gfr (fun y => y = 31) G_61 G_76 := gfr_put gfr_rf f_74 rfl o_78
  refine gs (pc' := 45) (fun _ _ _ _ _ hl => lv_aload_n hx hb d_Mf_init_44 rfl (lv_at hl 0 rfl)) ?_
  refine g_new hx hb hts hin_Ca ty_Ca ty_Ca_ok hown (hts _ wm51) (hts _ wm52) (hts _ wm3) hK (ci := 0) rfl (fs := [.null, .null, .null, .null, .null, .null, .null, .null]) (fun j => match j with | 0 => fun _ => rfl | 1 => fun _ => rfl | 2 => fun _ => rfl | 3 => fun _ => rfl | 4 => fun _ => rfl | 5 => fun _ => rfl | 6 => fun _ => rfl | 7 => fun _ => rfl | n + 8 => fun h9 => absurd h9 (by omega)) hlo hRc hRs (show B.1 + 1 + 1 + 1 + 1 + 1 + 1 ≤ MC by omega) (show B.2 + 200 + 8 + 3 + 12 + 12 + 8 ≤ MS by omega) d_Mf_init_45 30 (fun q_87 G_88 z_89 f_90 o_91 => ?_)
  have fr_92 : gfr (fun y => y = 1000) G_76 G_88 := gfr_new gfr_rf z_89 o_91
  have f_93 : G_88 q_1 = some (32, .inl (cA 2, 200, .inr (.inr (.inr (.inr (fun _ => none)))))) := (o_91 _ (fun e => by subst e; rw [f_80] at z_89; cases z_89)).trans f_80
  have f_94 : G_88 q_24 = some (33, .inl (cA 3, 8, .inr (.inr (.inr (.inr (fun _ => none)))))) := (o_91 _ (fun e => by subst e; rw [f_81] at z_89; cases z_89)).trans f_81
  have f_95 : G_88 q_50 = some (35, .inr (7, [.ref a_64, .ref a_65, .int (nI 0)])) := (o_91 _ (fun e => by subst e; rw [f_82] at z_89; cases z_89)).trans f_82
  have f_96 : G_88 a_64 = some (36, .inl (cA 0, 12, .inl (fun _ => 0))) := (o_91 _ (fun e => by subst e; rw [f_83] at z_89; cases z_89)).trans f_83
  have f_97 : G_88 a_65 = some (37, .inl (cA 1, 12, .inr (.inl (fun _ => 0)))) := (o_91 _ (fun e => by subst e; rw [f_84] at z_89; cases z_89)).trans f_84
  have f_98 : G_88 h = some (31, .inr (8, [.ref q_1, .int (nI 0), .ref q_24, .int (nI 0), .ref q_50, .null, .null, .null, .null, .null, .null, .null, .null, .null])) := (o_91 _ (fun e => by subst e; rw [f_79] at z_89; cases z_89)).trans f_79
  have z_99 : G q_87 = none := gex_0 x_85 z_89 (fun z => by have z := z.symm; subst z; rw [f_79] at z_89; cases z_89)
  have x_100 : gex (fun x => x = h) G G_88 := gex_new x_85 z_89 o_91
  refine g_Beq (B' := (B.1 + 1 + 1 + 1 + 1 + 1 + 1, B.2 + 200 + 8 + 3 + 12 + 12 + 8)) rfl ?_
  refine gs (pc' := 49) (fun _ _ _ _ _ hl => lv_dup hx hb d_Mf_init_48 rfl) ?_
  obtain ⟨⟨hN1, hN2, hN3, hN4, -, -, -⟩, -⟩ := id hZ
  refine g_outv hlo (g_runIN (b := q_87) (As := []) (rest := [.ref q_87, .ref h]) ⟨hx, hb, hml, hown, hts⟩ hK hZ hRc hRs (c_Ca_init l D cA lo MC MS G_88 (B.1 + 1 + 1 + 1 + 1 + 1 + 1, B.2 + 200 + 8 + 3 + 12 + 12 + 8) q_87 f_90 (show B.1 + 1 + 1 + 1 + 1 + 1 + 1 + 24 ≤ MC by omega) (show B.2 + 200 + 8 + 3 + 12 + 12 + 8 + 296 ≤ MS by omega) (show B.1 + 1 + 1 + 1 + 1 + 1 + 1 ≤ MC by omega) (show B.2 + 200 + 8 + 3 + 12 + 12 + 8 ≤ MS by omega)) (fun _ _ => ⟨va_cnB 0 hts (tb_good k_Ca_init) rfl rfl rfl hN2 (hts _ wm3) (by decide +kernel) ⟨by rw [hRf]; exact Nat.le_of_ble_eq_true rfl, by rw [hRl]; exact Nat.le_of_ble_eq_true rfl⟩, rfl, hts _ wm54⟩) (show B.1 + 1 + 1 + 1 + 1 + 1 + 1 ≤ MC by omega) (show B.2 + 200 + 8 + 3 + 12 + 12 + 8 ≤ MS by omega) rfl (Nat.le_of_ble_eq_true rfl) d_Mf_init_49) (fun G_101 B_102 p_103 => ?_)
  obtain ⟨ad, hd, hc, ⟨l_109, l_110, l_111, l_112, f_113⟩, f_104, f_105, n_106, x_107, e_108⟩ := p_103
  have fr_114 : gfr (fun y => y = 30) G_88 G_101 := gfr_gex x_107 f_90
  have e_108 : B_102 = (B.1 + 1 + 1 + 1 + 1 + 1 + 1 + 1 + 1 + 1 + 1 + 1 + 1 + 1 + 1 + 1 + 1 + 1 + 1 + 1 + 1 + 1 + 1 + 1 + 1 + 1 + 1 + 1 + 1 + 1 + 1, B.2 + 200 + 8 + 3 + 12 + 12 + 8 + 3 + 2 + 24 + 2 + 24 + 2 + 24 + 7 + 2 + 24 + 2 + 24 + 2 + 24 + 2 + 24 + 2 + 24 + 2 + 24 + 2 + 24 + 2 + 24) := e_108
  subst e_108
  have f_115 : G_101 q_1 = some (32, .inl (cA 2, 200, .inr (.inr (.inr (.inr (fun _ => none)))))) := x_107 _ _ f_93 (gne f_93 f_90 (fun e => by cases e))
  have f_116 : G_101 q_24 = some (33, .inl (cA 3, 8, .inr (.inr (.inr (.inr (fun _ => none)))))) := x_107 _ _ f_94 (gne f_94 f_90 (fun e => by cases e))
  have f_117 : G_101 q_50 = some (35, .inr (7, [.ref a_64, .ref a_65, .int (nI 0)])) := x_107 _ _ f_95 (gne f_95 f_90 (fun e => by cases e))
  have f_118 : G_101 a_64 = some (36, .inl (cA 0, 12, .inl (fun _ => 0))) := x_107 _ _ f_96 (gne f_96 f_90 (fun e => by cases e))
  have f_119 : G_101 a_65 = some (37, .inl (cA 1, 12, .inr (.inl (fun _ => 0)))) := x_107 _ _ f_97 (gne f_97 f_90 (fun e => by cases e))
  have f_120 : G_101 h = some (31, .inr (8, [.ref q_1, .int (nI 0), .ref q_24, .int (nI 0), .ref q_50, .null, .null, .null, .null, .null, .null, .null, .null, .null])) := x_107 _ _ f_98 (gne f_98 f_90 (fun e => by cases e))
  have x_121 : gex (fun x => x = h) G G_101 := gex_tr x_100 x_107 (fun x y hx9 _ e => by subst e; rw [z_99] at hx9; cases hx9)
  refine g_putF (ty := .object "MetreFractions$Calculator") hx hb hts hin_Mf ty_Mf ty_Mf_ok nm_Mf hown hK f_120 rfl 5 (by decide) (hts _ wm240) (fun _ h9 => h9) rfl hin rfl (by decide +kernel) rfl rfl (Nat.le_of_ble_eq_true rfl) d_Mf_init_52 (fun G_122 f_123 o_124 => ?_)
  have f_125 : G_122 h = some (31, .inr (8, [.ref q_1, .int (nI 0), .ref q_24, .int (nI 0), .ref q_50, .ref q_87, .null, .null, .null, .null, .null, .null, .null, .null])) := f_123
  have f_126 : G_122 q_1 = some (32, .inl (cA 2, 200, .inr (.inr (.inr (.inr (fun _ => none)))))) := (o_124 _ (gne f_115 f_120 (fun e => by cases e))).trans f_115
  have f_127 : G_122 q_24 = some (33, .inl (cA 3, 8, .inr (.inr (.inr (.inr (fun _ => none)))))) := (o_124 _ (gne f_116 f_120 (fun e => by cases e))).trans f_116
  have f_128 : G_122 q_50 = some (35, .inr (7, [.ref a_64, .ref a_65, .int (nI 0)])) := (o_124 _ (gne f_117 f_120 (fun e => by cases e))).trans f_117
  have f_129 : G_122 a_64 = some (36, .inl (cA 0, 12, .inl (fun _ => 0))) := (o_124 _ (gne f_118 f_120 (fun e => by cases e))).trans f_118
  have f_130 : G_122 a_65 = some (37, .inl (cA 1, 12, .inr (.inl (fun _ => 0)))) := (o_124 _ (gne f_119 f_120 (fun e => by cases e))).trans f_119
  have f_131 : G_122 q_87 = some (30, .inr (0, [.ref hd, .ref hc, .ref (ad 5), .ref (ad 6), .ref (ad 7), .ref (ad 8), .ref (ad 9), .ref (ad 10)])) := (o_124 _ (gne f_104 f_120 (fun e => by cases e))).trans f_104
  have f_132 : G_122 hd = some (30, .inr (2, [.ref (ad 0), .ref (ad 1), .ref (ad 2)])) := (o_124 _ (gne f_105 f_120 (fun e => by cases e))).trans f_105
  have f_133 : G_122 hc = some (19, .inr (1, [.ref hd, .ref (ad 3), .ref (ad 4), .long l_109, .long l_110, .long l_111, .long l_112])) := (o_124 _ (gne f_113 f_120 (fun e => by cases e))).trans f_113
  have x_134 : gex (fun x => x = h) G G_122 := gex_put x_121 o_124 (Or.inl rfl)
  have fr_135 : gfr (fun y => y = 31) G_101 G_122 := gfr_put gfr_rf f_120 rfl o_124
  have n_136 : ∀ t9, t9 < 11 → isN cA G_122 24 t9 (ad t9) 0 := fun t9 h9 => isN_fr (n_106 t9 h9) fr_135 (show ¬ t9 = 31 by omega)
  refine gs (pc' := 56) (fun _ _ _ _ _ hl => lv_aload_n hx hb d_Mf_init_55 rfl (lv_at hl 0 rfl)) ?_
  refine g_new hx hb hts hin_Fr ty_Fr ty_Fr_ok hown (hts _ wm155) (hts _ wm156) (hts _ wm8) hK (ci := 3) rfl (fs := [.int (nI 0), .null, .null]) (fun j => match j with | 0 => fun _ => rfl | 1 => fun _ => rfl | 2 => fun _ => rfl | n + 3 => fun h9 => absurd h9 (by omega)) hlo hRc hRs (show B.1 + 1 + 1 + 1 + 1 + 1 + 1 + 1 + 1 + 1 + 1 + 1 + 1 + 1 + 1 + 1 + 1 + 1 + 1 + 1 + 1 + 1 + 1 + 1 + 1 + 1 + 1 + 1 + 1 + 1 + 1 + 1 ≤ MC by omega) (show B.2 + 200 + 8 + 3 + 12 + 12 + 8 + 3 + 2 + 24 + 2 + 24 + 2 + 24 + 7 + 2 + 24 + 2 + 24 + 2 + 24 + 2 + 24 + 2 + 24 + 2 + 24 + 2 + 24 + 2 + 24 + 3 ≤ MS by omega) d_Mf_init_56 20 (fun q_137 G_138 z_139 f_140 o_141 => ?_)
  have fr_142 : gfr (fun y => y = 1000) G_122 G_138 := gfr_new gfr_rf z_139 o_141
  have n_143 : ∀ t9, t9 < 11 → isN cA G_138 24 t9 (ad t9) 0 := fun t9 h9 => isN_fr (n_136 t9 h9) fr_142 (show ¬ t9 = 1000 by omega)
  have f_144 : G_138 q_1 = some (32, .inl (cA 2, 200, .inr (.inr (.inr (.inr (fun _ => none)))))) := (o_141 _ (fun e => by subst e; rw [f_126] at z_139; cases z_139)).trans f_126
  have f_145 : G_138 q_24 = some (33, .inl (cA 3, 8, .inr (.inr (.inr (.inr (fun _ => none)))))) := (o_141 _ (fun e => by subst e; rw [f_127] at z_139; cases z_139)).trans f_127
  have f_146 : G_138 q_50 = some (35, .inr (7, [.ref a_64, .ref a_65, .int (nI 0)])) := (o_141 _ (fun e => by subst e; rw [f_128] at z_139; cases z_139)).trans f_128
  have f_147 : G_138 a_64 = some (36, .inl (cA 0, 12, .inl (fun _ => 0))) := (o_141 _ (fun e => by subst e; rw [f_129] at z_139; cases z_139)).trans f_129
  have f_148 : G_138 a_65 = some (37, .inl (cA 1, 12, .inr (.inl (fun _ => 0)))) := (o_141 _ (fun e => by subst e; rw [f_130] at z_139; cases z_139)).trans f_130
  have f_149 : G_138 q_87 = some (30, .inr (0, [.ref hd, .ref hc, .ref (ad 5), .ref (ad 6), .ref (ad 7), .ref (ad 8), .ref (ad 9), .ref (ad 10)])) := (o_141 _ (fun e => by subst e; rw [f_131] at z_139; cases z_139)).trans f_131
  have f_150 : G_138 hd = some (30, .inr (2, [.ref (ad 0), .ref (ad 1), .ref (ad 2)])) := (o_141 _ (fun e => by subst e; rw [f_132] at z_139; cases z_139)).trans f_132
  have f_151 : G_138 hc = some (19, .inr (1, [.ref hd, .ref (ad 3), .ref (ad 4), .long l_109, .long l_110, .long l_111, .long l_112])) := (o_141 _ (fun e => by subst e; rw [f_133] at z_139; cases z_139)).trans f_133
  have f_152 : G_138 h = some (31, .inr (8, [.ref q_1, .int (nI 0), .ref q_24, .int (nI 0), .ref q_50, .ref q_87, .null, .null, .null, .null, .null, .null, .null, .null])) := (o_141 _ (fun e => by subst e; rw [f_125] at z_139; cases z_139)).trans f_125
  have z_153 : G q_137 = none := gex_0 x_134 z_139 (fun z => by have z := z.symm; subst z; rw [f_125] at z_139; cases z_139)
  have x_154 : gex (fun x => x = h) G G_138 := gex_new x_134 z_139 o_141
  refine g_Beq (B' := (B.1 + 1 + 1 + 1 + 1 + 1 + 1 + 1 + 1 + 1 + 1 + 1 + 1 + 1 + 1 + 1 + 1 + 1 + 1 + 1 + 1 + 1 + 1 + 1 + 1 + 1 + 1 + 1 + 1 + 1 + 1 + 1, B.2 + 200 + 8 + 3 + 12 + 12 + 8 + 3 + 2 + 24 + 2 + 24 + 2 + 24 + 7 + 2 + 24 + 2 + 24 + 2 + 24 + 2 + 24 + 2 + 24 + 2 + 24 + 2 + 24 + 2 + 24 + 3)) rfl ?_
  refine gs (pc' := 60) (fun _ _ _ _ _ hl => lv_dup hx hb d_Mf_init_59 rfl) ?_
  refine gs (pc' := 62) (fun _ _ _ _ _ hl => lv_bipush (v := nI 24) hx hb d_Mf_init_60 (by decide)) ?_
  refine gs (pc' := 64) (fun _ _ _ _ _ hl => lv_bipush (v := nI 24) hx hb d_Mf_init_62 (by decide)) ?_
  refine g_outv hlo (g_runI (b := q_137) (As := [.int (nI 24), .int (nI 24)]) (rest := [.ref q_137, .ref h]) ⟨hx, hb, hml, hown, hts⟩ hK hZ hRc hRs (c_Fr_init l D cA lo MC MS G_138 (B.1 + 1 + 1 + 1 + 1 + 1 + 1 + 1 + 1 + 1 + 1 + 1 + 1 + 1 + 1 + 1 + 1 + 1 + 1 + 1 + 1 + 1 + 1 + 1 + 1 + 1 + 1 + 1 + 1 + 1 + 1 + 1, B.2 + 200 + 8 + 3 + 12 + 12 + 8 + 3 + 2 + 24 + 2 + 24 + 2 + 24 + 7 + 2 + 24 + 2 + 24 + 2 + 24 + 2 + 24 + 2 + 24 + 2 + 24 + 2 + 24 + 2 + 24 + 3) 20 11 12 q_137 24 24 (by decide) f_140 (by omega) (by omega) (show B.1 + 1 + 1 + 1 + 1 + 1 + 1 + 1 + 1 + 1 + 1 + 1 + 1 + 1 + 1 + 1 + 1 + 1 + 1 + 1 + 1 + 1 + 1 + 1 + 1 + 1 + 1 + 1 + 1 + 1 + 1 + 1 + 4 ≤ MC by omega) (show B.2 + 200 + 8 + 3 + 12 + 12 + 8 + 3 + 2 + 24 + 2 + 24 + 2 + 24 + 7 + 2 + 24 + 2 + 24 + 2 + 24 + 2 + 24 + 2 + 24 + 2 + 24 + 2 + 24 + 2 + 24 + 3 + 4 + 24 + 24 ≤ MS by omega) (show B.1 + 1 + 1 + 1 + 1 + 1 + 1 + 1 + 1 + 1 + 1 + 1 + 1 + 1 + 1 + 1 + 1 + 1 + 1 + 1 + 1 + 1 + 1 + 1 + 1 + 1 + 1 + 1 + 1 + 1 + 1 + 1 ≤ MC by omega) (show B.2 + 200 + 8 + 3 + 12 + 12 + 8 + 3 + 2 + 24 + 2 + 24 + 2 + 24 + 7 + 2 + 24 + 2 + 24 + 2 + 24 + 2 + 24 + 2 + 24 + 2 + 24 + 2 + 24 + 2 + 24 + 3 ≤ MS by omega)) (fun _ _ => cwI 2 hts (tb_good k_Fr_init) rfl rfl rfl (hts _ wm8) (hts _ wm157) (hts _ wm158) rfl (by decide +kernel) ⟨by rw [hRf]; exact Nat.le_of_ble_eq_true rfl, by rw [hRl]; exact Nat.le_of_ble_eq_true rfl⟩) (show B.1 + 1 + 1 + 1 + 1 + 1 + 1 + 1 + 1 + 1 + 1 + 1 + 1 + 1 + 1 + 1 + 1 + 1 + 1 + 1 + 1 + 1 + 1 + 1 + 1 + 1 + 1 + 1 + 1 + 1 + 1 + 1 ≤ MC by omega) (show B.2 + 200 + 8 + 3 + 12 + 12 + 8 + 3 + 2 + 24 + 2 + 24 + 2 + 24 + 7 + 2 + 24 + 2 + 24 + 2 + 24 + 2 + 24 + 2 + 24 + 2 + 24 + 2 + 24 + 2 + 24 + 3 ≤ MS by omega) rfl (Nat.le_of_ble_eq_true rfl) d_Mf_init_64) (fun G_155 B_156 p_157 => ?_)
  obtain ⟨a_158, b_159, z_160, z_161, f_162, n_163, n_164, x_165, e_166⟩ := p_157
  have fr_167 : gfr (fun y => y = 20) G_138 G_155 := gfr_gex x_165 f_140
  have n_168 : ∀ t9, t9 < 11 → isN cA G_155 24 t9 (ad t9) 0 := fun t9 h9 => isN_fr (n_143 t9 h9) fr_167 (show ¬ t9 = 20 by omega)
  have e_166 : B_156 = (B.1 + 1 + 1 + 1 + 1 + 1 + 1 + 1 + 1 + 1 + 1 + 1 + 1 + 1 + 1 + 1 + 1 + 1 + 1 + 1 + 1 + 1 + 1 + 1 + 1 + 1 + 1 + 1 + 1 + 1 + 1 + 1 + 1 + 1 + 1 + 1, B.2 + 200 + 8 + 3 + 12 + 12 + 8 + 3 + 2 + 24 + 2 + 24 + 2 + 24 + 7 + 2 + 24 + 2 + 24 + 2 + 24 + 2 + 24 + 2 + 24 + 2 + 24 + 2 + 24 + 2 + 24 + 3 + 2 + 24 + 2 + 24) := e_166
  subst e_166
  have f_169 : G_155 q_1 = some (32, .inl (cA 2, 200, .inr (.inr (.inr (.inr (fun _ => none)))))) := x_165 _ _ f_144 (gne f_144 f_140 (fun e => by cases e))
  have f_170 : G_155 q_24 = some (33, .inl (cA 3, 8, .inr (.inr (.inr (.inr (fun _ => none)))))) := x_165 _ _ f_145 (gne f_145 f_140 (fun e => by cases e))
  have f_171 : G_155 q_50 = some (35, .inr (7, [.ref a_64, .ref a_65, .int (nI 0)])) := x_165 _ _ f_146 (gne f_146 f_140 (fun e => by cases e))
  have f_172 : G_155 a_64 = some (36, .inl (cA 0, 12, .inl (fun _ => 0))) := x_165 _ _ f_147 (gne f_147 f_140 (fun e => by cases e))
  have f_173 : G_155 a_65 = some (37, .inl (cA 1, 12, .inr (.inl (fun _ => 0)))) := x_165 _ _ f_148 (gne f_148 f_140 (fun e => by cases e))
  have f_174 : G_155 q_87 = some (30, .inr (0, [.ref hd, .ref hc, .ref (ad 5), .ref (ad 6), .ref (ad 7), .ref (ad 8), .ref (ad 9), .ref (ad 10)])) := x_165 _ _ f_149 (gne f_149 f_140 (fun e => by cases e))
  have f_175 : G_155 hd = some (30, .inr (2, [.ref (ad 0), .ref (ad 1), .ref (ad 2)])) := x_165 _ _ f_150 (gne f_150 f_140 (fun e => by cases e))
  have f_176 : G_155 hc = some (19, .inr (1, [.ref hd, .ref (ad 3), .ref (ad 4), .long l_109, .long l_110, .long l_111, .long l_112])) := x_165 _ _ f_151 (gne f_151 f_140 (fun e => by cases e))
  have f_177 : G_155 h = some (31, .inr (8, [.ref q_1, .int (nI 0), .ref q_24, .int (nI 0), .ref q_50, .ref q_87, .null, .null, .null, .null, .null, .null, .null, .null])) := x_165 _ _ f_152 (gne f_152 f_140 (fun e => by cases e))
  have x_178 : gex (fun x => x = h) G G_155 := gex_tr x_154 x_165 (fun x y hx9 _ e => by subst e; rw [z_153] at hx9; cases hx9)
  refine g_putF (ty := .object "MetreFractions$Fraction") hx hb hts hin_Mf ty_Mf ty_Mf_ok nm_Mf hown hK f_177 rfl 6 (by decide) (hts _ wm241) (fun _ h9 => h9) rfl hin rfl (by decide +kernel) rfl rfl (Nat.le_of_ble_eq_true rfl) d_Mf_init_67 (fun G_179 f_180 o_181 => ?_)
  have f_182 : G_179 h = some (31, .inr (8, [.ref q_1, .int (nI 0), .ref q_24, .int (nI 0), .ref q_50, .ref q_87, .ref q_137, .null, .null, .null, .null, .null, .null, .null])) := f_180
  have f_183 : G_179 q_1 = some (32, .inl (cA 2, 200, .inr (.inr (.inr (.inr (fun _ => none)))))) := (o_181 _ (gne f_169 f_177 (fun e => by cases e))).trans f_169
  have f_184 : G_179 q_24 = some (33, .inl (cA 3, 8, .inr (.inr (.inr (.inr (fun _ => none)))))) := (o_181 _ (gne f_170 f_177 (fun e => by cases e))).trans f_170
  have f_185 : G_179 q_50 = some (35, .inr (7, [.ref a_64, .ref a_65, .int (nI 0)])) := (o_181 _ (gne f_171 f_177 (fun e => by cases e))).trans f_171
  have f_186 : G_179 a_64 = some (36, .inl (cA 0, 12, .inl (fun _ => 0))) := (o_181 _ (gne f_172 f_177 (fun e => by cases e))).trans f_172
  have f_187 : G_179 a_65 = some (37, .inl (cA 1, 12, .inr (.inl (fun _ => 0)))) := (o_181 _ (gne f_173 f_177 (fun e => by cases e))).trans f_173
  have f_188 : G_179 q_87 = some (30, .inr (0, [.ref hd, .ref hc, .ref (ad 5), .ref (ad 6), .ref (ad 7), .ref (ad 8), .ref (ad 9), .ref (ad 10)])) := (o_181 _ (gne f_174 f_177 (fun e => by cases e))).trans f_174
  have f_189 : G_179 hd = some (30, .inr (2, [.ref (ad 0), .ref (ad 1), .ref (ad 2)])) := (o_181 _ (gne f_175 f_177 (fun e => by cases e))).trans f_175
  have f_190 : G_179 hc = some (19, .inr (1, [.ref hd, .ref (ad 3), .ref (ad 4), .long l_109, .long l_110, .long l_111, .long l_112])) := (o_181 _ (gne f_176 f_177 (fun e => by cases e))).trans f_176
  have f_191 : G_179 q_137 = some (20, .inr (3, [.int (nI 0), .ref a_158, .ref b_159])) := (o_181 _ (gne f_162 f_177 (fun e => by cases e))).trans f_162
  have x_192 : gex (fun x => x = h) G G_179 := gex_put x_178 o_181 (Or.inl rfl)
  have fr_193 : gfr (fun y => y = 31) G_155 G_179 := gfr_put gfr_rf f_177 rfl o_181
  have n_194 : isN cA G_179 24 11 a_158 0 := isN_fr n_163 fr_193 (show ¬ (11 : Nat) = 31 by decide)
  have n_195 : isN cA G_179 24 12 b_159 0 := isN_fr n_164 fr_193 (show ¬ (12 : Nat) = 31 by decide)
  have n_196 : ∀ t9, t9 < 11 → isN cA G_179 24 t9 (ad t9) 0 := fun t9 h9 => isN_fr (n_168 t9 h9) fr_193 (show ¬ t9 = 31 by omega)
  refine gs (pc' := 71) (fun _ _ _ _ _ hl => lv_aload_n hx hb d_Mf_init_70 rfl (lv_at hl 0 rfl)) ?_
  refine g_new hx hb hts hin_Fr ty_Fr ty_Fr_ok hown (hts _ wm155) (hts _ wm156) (hts _ wm8) hK (ci := 3) rfl (fs := [.int (nI 0), .null, .null]) (fun j => match j with | 0 => fun _ => rfl | 1 => fun _ => rfl | 2 => fun _ => rfl | n + 3 => fun h9 => absurd h9 (by omega)) hlo hRc hRs (show B.1 + 1 + 1 + 1 + 1 + 1 + 1 + 1 + 1 + 1 + 1 + 1 + 1 + 1 + 1 + 1 + 1 + 1 + 1 + 1 + 1 + 1 + 1 + 1 + 1 + 1 + 1 + 1 + 1 + 1 + 1 + 1 + 1 + 1 + 1 + 1 + 1 ≤ MC by omega) (show B.2 + 200 + 8 + 3 + 12 + 12 + 8 + 3 + 2 + 24 + 2 + 24 + 2 + 24 + 7 + 2 + 24 + 2 + 24 + 2 + 24 + 2 + 24 + 2 + 24 + 2 + 24 + 2 + 24 + 2 + 24 + 3 + 2 + 24 + 2 + 24 + 3 ≤ MS by omega) d_Mf_init_71 21 (fun q_197 G_198 z_199 f_200 o_201 => ?_)
  have fr_202 : gfr (fun y => y = 1000) G_179 G_198 := gfr_new gfr_rf z_199 o_201
  have n_203 : isN cA G_198 24 11 a_158 0 := isN_fr n_194 fr_202 (show ¬ (11 : Nat) = 1000 by decide)
  have n_204 : isN cA G_198 24 12 b_159 0 := isN_fr n_195 fr_202 (show ¬ (12 : Nat) = 1000 by decide)
  have n_205 : ∀ t9, t9 < 11 → isN cA G_198 24 t9 (ad t9) 0 := fun t9 h9 => isN_fr (n_196 t9 h9) fr_202 (show ¬ t9 = 1000 by omega)
  have f_206 : G_198 q_1 = some (32, .inl (cA 2, 200, .inr (.inr (.inr (.inr (fun _ => none)))))) := (o_201 _ (fun e => by subst e; rw [f_183] at z_199; cases z_199)).trans f_183
  have f_207 : G_198 q_24 = some (33, .inl (cA 3, 8, .inr (.inr (.inr (.inr (fun _ => none)))))) := (o_201 _ (fun e => by subst e; rw [f_184] at z_199; cases z_199)).trans f_184
  have f_208 : G_198 q_50 = some (35, .inr (7, [.ref a_64, .ref a_65, .int (nI 0)])) := (o_201 _ (fun e => by subst e; rw [f_185] at z_199; cases z_199)).trans f_185
  have f_209 : G_198 a_64 = some (36, .inl (cA 0, 12, .inl (fun _ => 0))) := (o_201 _ (fun e => by subst e; rw [f_186] at z_199; cases z_199)).trans f_186
  have f_210 : G_198 a_65 = some (37, .inl (cA 1, 12, .inr (.inl (fun _ => 0)))) := (o_201 _ (fun e => by subst e; rw [f_187] at z_199; cases z_199)).trans f_187
  have f_211 : G_198 q_87 = some (30, .inr (0, [.ref hd, .ref hc, .ref (ad 5), .ref (ad 6), .ref (ad 7), .ref (ad 8), .ref (ad 9), .ref (ad 10)])) := (o_201 _ (fun e => by subst e; rw [f_188] at z_199; cases z_199)).trans f_188
  have f_212 : G_198 hd = some (30, .inr (2, [.ref (ad 0), .ref (ad 1), .ref (ad 2)])) := (o_201 _ (fun e => by subst e; rw [f_189] at z_199; cases z_199)).trans f_189
  have f_213 : G_198 hc = some (19, .inr (1, [.ref hd, .ref (ad 3), .ref (ad 4), .long l_109, .long l_110, .long l_111, .long l_112])) := (o_201 _ (fun e => by subst e; rw [f_190] at z_199; cases z_199)).trans f_190
  have f_214 : G_198 q_137 = some (20, .inr (3, [.int (nI 0), .ref a_158, .ref b_159])) := (o_201 _ (fun e => by subst e; rw [f_191] at z_199; cases z_199)).trans f_191
  have f_215 : G_198 h = some (31, .inr (8, [.ref q_1, .int (nI 0), .ref q_24, .int (nI 0), .ref q_50, .ref q_87, .ref q_137, .null, .null, .null, .null, .null, .null, .null])) := (o_201 _ (fun e => by subst e; rw [f_182] at z_199; cases z_199)).trans f_182
  have z_216 : G q_197 = none := gex_0 x_192 z_199 (fun z => by have z := z.symm; subst z; rw [f_182] at z_199; cases z_199)
  have x_217 : gex (fun x => x = h) G G_198 := gex_new x_192 z_199 o_201
  refine g_Beq (B' := (B.1 + 1 + 1 + 1 + 1 + 1 + 1 + 1 + 1 + 1 + 1 + 1 + 1 + 1 + 1 + 1 + 1 + 1 + 1 + 1 + 1 + 1 + 1 + 1 + 1 + 1 + 1 + 1 + 1 + 1 + 1 + 1 + 1 + 1 + 1 + 1 + 1, B.2 + 200 + 8 + 3 + 12 + 12 + 8 + 3 + 2 + 24 + 2 + 24 + 2 + 24 + 7 + 2 + 24 + 2 + 24 + 2 + 24 + 2 + 24 + 2 + 24 + 2 + 24 + 2 + 24 + 2 + 24 + 3 + 2 + 24 + 2 + 24 + 3)) rfl ?_
  refine gs (pc' := 75) (fun _ _ _ _ _ hl => lv_dup hx hb d_Mf_init_74 rfl) ?_
  refine gs (pc' := 77) (fun _ _ _ _ _ hl => lv_bipush (v := nI 24) hx hb d_Mf_init_75 (by decide)) ?_
  refine gs (pc' := 79) (fun _ _ _ _ _ hl => lv_bipush (v := nI 24) hx hb d_Mf_init_77 (by decide)) ?_
  refine g_outv hlo (g_runI (b := q_197) (As := [.int (nI 24), .int (nI 24)]) (rest := [.ref q_197, .ref h]) ⟨hx, hb, hml, hown, hts⟩ hK hZ hRc hRs (c_Fr_init l D cA lo MC MS G_198 (B.1 + 1 + 1 + 1 + 1 + 1 + 1 + 1 + 1 + 1 + 1 + 1 + 1 + 1 + 1 + 1 + 1 + 1 + 1 + 1 + 1 + 1 + 1 + 1 + 1 + 1 + 1 + 1 + 1 + 1 + 1 + 1 + 1 + 1 + 1 + 1 + 1, B.2 + 200 + 8 + 3 + 12 + 12 + 8 + 3 + 2 + 24 + 2 + 24 + 2 + 24 + 7 + 2 + 24 + 2 + 24 + 2 + 24 + 2 + 24 + 2 + 24 + 2 + 24 + 2 + 24 + 2 + 24 + 3 + 2 + 24 + 2 + 24 + 3) 21 13 14 q_197 24 24 (by decide) f_200 (by omega) (by omega) (show B.1 + 1 + 1 + 1 + 1 + 1 + 1 + 1 + 1 + 1 + 1 + 1 + 1 + 1 + 1 + 1 + 1 + 1 + 1 + 1 + 1 + 1 + 1 + 1 + 1 + 1 + 1 + 1 + 1 + 1 + 1 + 1 + 1 + 1 + 1 + 1 + 1 + 4 ≤ MC by omega) (show B.2 + 200 + 8 + 3 + 12 + 12 + 8 + 3 + 2 + 24 + 2 + 24 + 2 + 24 + 7 + 2 + 24 + 2 + 24 + 2 + 24 + 2 + 24 + 2 + 24 + 2 + 24 + 2 + 24 + 2 + 24 + 3 + 2 + 24 + 2 + 24 + 3 + 4 + 24 + 24 ≤ MS by omega) (show B.1 + 1 + 1 + 1 + 1 + 1 + 1 + 1 + 1 + 1 + 1 + 1 + 1 + 1 + 1 + 1 + 1 + 1 + 1 + 1 + 1 + 1 + 1 + 1 + 1 + 1 + 1 + 1 + 1 + 1 + 1 + 1 + 1 + 1 + 1 + 1 + 1 ≤ MC by omega) (show B.2 + 200 + 8 + 3 + 12 + 12 + 8 + 3 + 2 + 24 + 2 + 24 + 2 + 24 + 7 + 2 + 24 + 2 + 24 + 2 + 24 + 2 + 24 + 2 + 24 + 2 + 24 + 2 + 24 + 2 + 24 + 3 + 2 + 24 + 2 + 24 + 3 ≤ MS by omega)) (fun _ _ => cwI 2 hts (tb_good k_Fr_init) rfl rfl rfl (hts _ wm8) (hts _ wm157) (hts _ wm158) rfl (by decide +kernel) ⟨by rw [hRf]; exact Nat.le_of_ble_eq_true rfl, by rw [hRl]; exact Nat.le_of_ble_eq_true rfl⟩) (show B.1 + 1 + 1 + 1 + 1 + 1 + 1 + 1 + 1 + 1 + 1 + 1 + 1 + 1 + 1 + 1 + 1 + 1 + 1 + 1 + 1 + 1 + 1 + 1 + 1 + 1 + 1 + 1 + 1 + 1 + 1 + 1 + 1 + 1 + 1 + 1 + 1 ≤ MC by omega) (show B.2 + 200 + 8 + 3 + 12 + 12 + 8 + 3 + 2 + 24 + 2 + 24 + 2 + 24 + 7 + 2 + 24 + 2 + 24 + 2 + 24 + 2 + 24 + 2 + 24 + 2 + 24 + 2 + 24 + 2 + 24 + 3 + 2 + 24 + 2 + 24 + 3 ≤ MS by omega) rfl (Nat.le_of_ble_eq_true rfl) d_Mf_init_79) (fun G_218 B_219 p_220 => ?_)
  obtain ⟨a_221, b_222, z_223, z_224, f_225, n_226, n_227, x_228, e_229⟩ := p_220
  have fr_230 : gfr (fun y => y = 21) G_198 G_218 := gfr_gex x_228 f_200
  have n_231 : isN cA G_218 24 11 a_158 0 := isN_fr n_203 fr_230 (show ¬ (11 : Nat) = 21 by decide)
  have n_232 : isN cA G_218 24 12 b_159 0 := isN_fr n_204 fr_230 (show ¬ (12 : Nat) = 21 by decide)
  have n_233 : ∀ t9, t9 < 11 → isN cA G_218 24 t9 (ad t9) 0 := fun t9 h9 => isN_fr (n_205 t9 h9) fr_230 (show ¬ t9 = 21 by omega)
  have e_229 : B_219 = (B.1 + 1 + 1 + 1 + 1 + 1 + 1 + 1 + 1 + 1 + 1 + 1 + 1 + 1 + 1 + 1 + 1 + 1 + 1 + 1 + 1 + 1 + 1 + 1 + 1 + 1 + 1 + 1 + 1 + 1 + 1 + 1 + 1 + 1 + 1 + 1 + 1 + 1 + 1 + 1 + 1, B.2 + 200 + 8 + 3 + 12 + 12 + 8 + 3 + 2 + 24 + 2 + 24 + 2 + 24 + 7 + 2 + 24 + 2 + 24 + 2 + 24 + 2 + 24 + 2 + 24 + 2 + 24 + 2 + 24 + 2 + 24 + 3 + 2 + 24 + 2 + 24 + 3 + 2 + 24 + 2 + 24) := e_229
  subst e_229
  have f_234 : G_218 q_1 = some (32, .inl (cA 2, 200, .inr (.inr (.inr (.inr (fun _ => none)))))) := x_228 _ _ f_206 (gne f_206 f_200 (fun e => by cases e))
  have f_235 : G_218 q_24 = some (33, .inl (cA 3, 8, .inr (.inr (.inr (.inr (fun _ => none)))))) := x_228 _ _ f_207 (gne f_207 f_200 (fun e => by cases e))
  have f_236 : G_218 q_50 = some (35, .inr (7, [.ref a_64, .ref a_65, .int (nI 0)])) := x_228 _ _ f_208 (gne f_208 f_200 (fun e => by cases e))
  have f_237 : G_218 a_64 = some (36, .inl (cA 0, 12, .inl (fun _ => 0))) := x_228 _ _ f_209 (gne f_209 f_200 (fun e => by cases e))
  have f_238 : G_218 a_65 = some (37, .inl (cA 1, 12, .inr (.inl (fun _ => 0)))) := x_228 _ _ f_210 (gne f_210 f_200 (fun e => by cases e))
  have f_239 : G_218 q_87 = some (30, .inr (0, [.ref hd, .ref hc, .ref (ad 5), .ref (ad 6), .ref (ad 7), .ref (ad 8), .ref (ad 9), .ref (ad 10)])) := x_228 _ _ f_211 (gne f_211 f_200 (fun e => by cases e))
  have f_240 : G_218 hd = some (30, .inr (2, [.ref (ad 0), .ref (ad 1), .ref (ad 2)])) := x_228 _ _ f_212 (gne f_212 f_200 (fun e => by cases e))
  have f_241 : G_218 hc = some (19, .inr (1, [.ref hd, .ref (ad 3), .ref (ad 4), .long l_109, .long l_110, .long l_111, .long l_112])) := x_228 _ _ f_213 (gne f_213 f_200 (fun e => by cases e))
  have f_242 : G_218 q_137 = some (20, .inr (3, [.int (nI 0), .ref a_158, .ref b_159])) := x_228 _ _ f_214 (gne f_214 f_200 (by simp))
  have f_243 : G_218 h = some (31, .inr (8, [.ref q_1, .int (nI 0), .ref q_24, .int (nI 0), .ref q_50, .ref q_87, .ref q_137, .null, .null, .null, .null, .null, .null, .null])) := x_228 _ _ f_215 (gne f_215 f_200 (fun e => by cases e))
  have x_244 : gex (fun x => x = h) G G_218 := gex_tr x_217 x_228 (fun x y hx9 _ e => by subst e; rw [z_216] at hx9; cases hx9)
  refine g_putF (ty := .object "MetreFractions$Fraction") hx hb hts hin_Mf ty_Mf ty_Mf_ok nm_Mf hown hK f_243 rfl 7 (by decide) (hts _ wm242) (fun _ h9 => h9) rfl hin rfl (by decide +kernel) rfl rfl (Nat.le_of_ble_eq_true rfl) d_Mf_init_82 (fun G_245 f_246 o_247 => ?_)
  have f_248 : G_245 h = some (31, .inr (8, [.ref q_1, .int (nI 0), .ref q_24, .int (nI 0), .ref q_50, .ref q_87, .ref q_137, .ref q_197, .null, .null, .null, .null, .null, .null])) := f_246
  have f_249 : G_245 q_1 = some (32, .inl (cA 2, 200, .inr (.inr (.inr (.inr (fun _ => none)))))) := (o_247 _ (gne f_234 f_243 (fun e => by cases e))).trans f_234
  have f_250 : G_245 q_24 = some (33, .inl (cA 3, 8, .inr (.inr (.inr (.inr (fun _ => none)))))) := (o_247 _ (gne f_235 f_243 (fun e => by cases e))).trans f_235
  have f_251 : G_245 q_50 = some (35, .inr (7, [.ref a_64, .ref a_65, .int (nI 0)])) := (o_247 _ (gne f_236 f_243 (fun e => by cases e))).trans f_236
  have f_252 : G_245 a_64 = some (36, .inl (cA 0, 12, .inl (fun _ => 0))) := (o_247 _ (gne f_237 f_243 (fun e => by cases e))).trans f_237
  have f_253 : G_245 a_65 = some (37, .inl (cA 1, 12, .inr (.inl (fun _ => 0)))) := (o_247 _ (gne f_238 f_243 (fun e => by cases e))).trans f_238
  have f_254 : G_245 q_87 = some (30, .inr (0, [.ref hd, .ref hc, .ref (ad 5), .ref (ad 6), .ref (ad 7), .ref (ad 8), .ref (ad 9), .ref (ad 10)])) := (o_247 _ (gne f_239 f_243 (fun e => by cases e))).trans f_239
  have f_255 : G_245 hd = some (30, .inr (2, [.ref (ad 0), .ref (ad 1), .ref (ad 2)])) := (o_247 _ (gne f_240 f_243 (fun e => by cases e))).trans f_240
  have f_256 : G_245 hc = some (19, .inr (1, [.ref hd, .ref (ad 3), .ref (ad 4), .long l_109, .long l_110, .long l_111, .long l_112])) := (o_247 _ (gne f_241 f_243 (fun e => by cases e))).trans f_241
  have f_257 : G_245 q_137 = some (20, .inr (3, [.int (nI 0), .ref a_158, .ref b_159])) := (o_247 _ (gne f_242 f_243 (fun e => by cases e))).trans f_242
  have f_258 : G_245 q_197 = some (21, .inr (3, [.int (nI 0), .ref a_221, .ref b_222])) := (o_247 _ (gne f_225 f_243 (fun e => by cases e))).trans f_225
  have x_259 : gex (fun x => x = h) G G_245 := gex_put x_244 o_247 (Or.inl rfl)
  have fr_260 : gfr (fun y => y = 31) G_218 G_245 := gfr_put gfr_rf f_243 rfl o_247
  have n_261 : isN cA G_245 24 11 a_158 0 := isN_fr n_231 fr_260 (show ¬ (11 : Nat) = 31 by decide)
  have n_262 : isN cA G_245 24 12 b_159 0 := isN_fr n_232 fr_260 (show ¬ (12 : Nat) = 31 by decide)
  have n_263 : isN cA G_245 24 13 a_221 0 := isN_fr n_226 fr_260 (show ¬ (13 : Nat) = 31 by decide)
  have n_264 : isN cA G_245 24 14 b_222 0 := isN_fr n_227 fr_260 (show ¬ (14 : Nat) = 31 by decide)
  have n_265 : ∀ t9, t9 < 11 → isN cA G_245 24 t9 (ad t9) 0 := fun t9 h9 => isN_fr (n_233 t9 h9) fr_260 (show ¬ t9 = 31 by omega)
  refine gs (pc' := 86) (fun _ _ _ _ _ hl => lv_aload_n hx hb d_Mf_init_85 rfl (lv_at hl 0 rfl)) ?_
  refine g_new hx hb hts hin_Fr ty_Fr ty_Fr_ok hown (hts _ wm155) (hts _ wm156) (hts _ wm8) hK (ci := 3) rfl (fs := [.int (nI 0), .null, .null]) (fun j => match j with | 0 => fun _ => rfl | 1 => fun _ => rfl | 2 => fun _ => rfl | n + 3 => fun h9 => absurd h9 (by omega)) hlo hRc hRs (show B.1 + 1 + 1 + 1 + 1 + 1 + 1 + 1 + 1 + 1 + 1 + 1 + 1 + 1 + 1 + 1 + 1 + 1 + 1 + 1 + 1 + 1 + 1 + 1 + 1 + 1 + 1 + 1 + 1 + 1 + 1 + 1 + 1 + 1 + 1 + 1 + 1 + 1 + 1 + 1 + 1 + 1 ≤ MC by omega) (show B.2 + 200 + 8 + 3 + 12 + 12 + 8 + 3 + 2 + 24 + 2 + 24 + 2 + 24 + 7 + 2 + 24 + 2 + 24 + 2 + 24 + 2 + 24 + 2 + 24 + 2 + 24 + 2 + 24 + 2 + 24 + 3 + 2 + 24 + 2 + 24 + 3 + 2 + 24 + 2 + 24 + 3 ≤ MS by omega) d_Mf_init_86 22 (fun q_266 G_267 z_268 f_269 o_270 => ?_)
  have fr_271 : gfr (fun y => y = 1000) G_245 G_267 := gfr_new gfr_rf z_268 o_270
  have n_272 : isN cA G_267 24 11 a_158 0 := isN_fr n_261 fr_271 (show ¬ (11 : Nat) = 1000 by decide)
  have n_273 : isN cA G_267 24 12 b_159 0 := isN_fr n_262 fr_271 (show ¬ (12 : Nat) = 1000 by decide)
  have n_274 : isN cA G_267 24 13 a_221 0 := isN_fr n_263 fr_271 (show ¬ (13 : Nat) = 1000 by decide)
  have n_275 : isN cA G_267 24 14 b_222 0 := isN_fr n_264 fr_271 (show ¬ (14 : Nat) = 1000 by decide)
  have n_276 : ∀ t9, t9 < 11 → isN cA G_267 24 t9 (ad t9) 0 := fun t9 h9 => isN_fr (n_265 t9 h9) fr_271 (show ¬ t9 = 1000 by omega)
  have f_277 : G_267 q_1 = some (32, .inl (cA 2, 200, .inr (.inr (.inr (.inr (fun _ => none)))))) := (o_270 _ (fun e => by subst e; rw [f_249] at z_268; cases z_268)).trans f_249
  have f_278 : G_267 q_24 = some (33, .inl (cA 3, 8, .inr (.inr (.inr (.inr (fun _ => none)))))) := (o_270 _ (fun e => by subst e; rw [f_250] at z_268; cases z_268)).trans f_250
  have f_279 : G_267 q_50 = some (35, .inr (7, [.ref a_64, .ref a_65, .int (nI 0)])) := (o_270 _ (fun e => by subst e; rw [f_251] at z_268; cases z_268)).trans f_251
  have f_280 : G_267 a_64 = some (36, .inl (cA 0, 12, .inl (fun _ => 0))) := (o_270 _ (fun e => by subst e; rw [f_252] at z_268; cases z_268)).trans f_252
  have f_281 : G_267 a_65 = some (37, .inl (cA 1, 12, .inr (.inl (fun _ => 0)))) := (o_270 _ (fun e => by subst e; rw [f_253] at z_268; cases z_268)).trans f_253
  have f_282 : G_267 q_87 = some (30, .inr (0, [.ref hd, .ref hc, .ref (ad 5), .ref (ad 6), .ref (ad 7), .ref (ad 8), .ref (ad 9), .ref (ad 10)])) := (o_270 _ (fun e => by subst e; rw [f_254] at z_268; cases z_268)).trans f_254
  have f_283 : G_267 hd = some (30, .inr (2, [.ref (ad 0), .ref (ad 1), .ref (ad 2)])) := (o_270 _ (fun e => by subst e; rw [f_255] at z_268; cases z_268)).trans f_255
  have f_284 : G_267 hc = some (19, .inr (1, [.ref hd, .ref (ad 3), .ref (ad 4), .long l_109, .long l_110, .long l_111, .long l_112])) := (o_270 _ (fun e => by subst e; rw [f_256] at z_268; cases z_268)).trans f_256
  have f_285 : G_267 q_137 = some (20, .inr (3, [.int (nI 0), .ref a_158, .ref b_159])) := (o_270 _ (fun e => by subst e; rw [f_257] at z_268; cases z_268)).trans f_257
  have f_286 : G_267 q_197 = some (21, .inr (3, [.int (nI 0), .ref a_221, .ref b_222])) := (o_270 _ (fun e => by subst e; rw [f_258] at z_268; cases z_268)).trans f_258
  have f_287 : G_267 h = some (31, .inr (8, [.ref q_1, .int (nI 0), .ref q_24, .int (nI 0), .ref q_50, .ref q_87, .ref q_137, .ref q_197, .null, .null, .null, .null, .null, .null])) := (o_270 _ (fun e => by subst e; rw [f_248] at z_268; cases z_268)).trans f_248
  have z_288 : G q_266 = none := gex_0 x_259 z_268 (fun z => by have z := z.symm; subst z; rw [f_248] at z_268; cases z_268)
  have x_289 : gex (fun x => x = h) G G_267 := gex_new x_259 z_268 o_270
  refine g_Beq (B' := (B.1 + 1 + 1 + 1 + 1 + 1 + 1 + 1 + 1 + 1 + 1 + 1 + 1 + 1 + 1 + 1 + 1 + 1 + 1 + 1 + 1 + 1 + 1 + 1 + 1 + 1 + 1 + 1 + 1 + 1 + 1 + 1 + 1 + 1 + 1 + 1 + 1 + 1 + 1 + 1 + 1 + 1, B.2 + 200 + 8 + 3 + 12 + 12 + 8 + 3 + 2 + 24 + 2 + 24 + 2 + 24 + 7 + 2 + 24 + 2 + 24 + 2 + 24 + 2 + 24 + 2 + 24 + 2 + 24 + 2 + 24 + 2 + 24 + 3 + 2 + 24 + 2 + 24 + 3 + 2 + 24 + 2 + 24 + 3)) rfl ?_
  refine gs (pc' := 90) (fun _ _ _ _ _ hl => lv_dup hx hb d_Mf_init_89 rfl) ?_
  refine gs (pc' := 92) (fun _ _ _ _ _ hl => lv_bipush (v := nI 24) hx hb d_Mf_init_90 (by decide)) ?_
  refine gs (pc' := 94) (fun _ _ _ _ _ hl => lv_bipush (v := nI 24) hx hb d_Mf_init_92 (by decide)) ?_
  refine g_outv hlo (g_runI (b := q_266) (As := [.int (nI 24), .int (nI 24)]) (rest := [.ref q_266, .ref h]) ⟨hx, hb, hml, hown, hts⟩ hK hZ hRc hRs (c_Fr_init l D cA lo MC MS G_267 (B.1 + 1 + 1 + 1 + 1 + 1 + 1 + 1 + 1 + 1 + 1 + 1 + 1 + 1 + 1 + 1 + 1 + 1 + 1 + 1 + 1 + 1 + 1 + 1 + 1 + 1 + 1 + 1 + 1 + 1 + 1 + 1 + 1 + 1 + 1 + 1 + 1 + 1 + 1 + 1 + 1 + 1, B.2 + 200 + 8 + 3 + 12 + 12 + 8 + 3 + 2 + 24 + 2 + 24 + 2 + 24 + 7 + 2 + 24 + 2 + 24 + 2 + 24 + 2 + 24 + 2 + 24 + 2 + 24 + 2 + 24 + 2 + 24 + 3 + 2 + 24 + 2 + 24 + 3 + 2 + 24 + 2 + 24 + 3) 22 15 16 q_266 24 24 (by decide) f_269 (by omega) (by omega) (show B.1 + 1 + 1 + 1 + 1 + 1 + 1 + 1 + 1 + 1 + 1 + 1 + 1 + 1 + 1 + 1 + 1 + 1 + 1 + 1 + 1 + 1 + 1 + 1 + 1 + 1 + 1 + 1 + 1 + 1 + 1 + 1 + 1 + 1 + 1 + 1 + 1 + 1 + 1 + 1 + 1 + 1 + 4 ≤ MC by omega) (show B.2 + 200 + 8 + 3 + 12 + 12 + 8 + 3 + 2 + 24 + 2 + 24 + 2 + 24 + 7 + 2 + 24 + 2 + 24 + 2 + 24 + 2 + 24 + 2 + 24 + 2 + 24 + 2 + 24 + 2 + 24 + 3 + 2 + 24 + 2 + 24 + 3 + 2 + 24 + 2 + 24 + 3 + 4 + 24 + 24 ≤ MS by omega) (show B.1 + 1 + 1 + 1 + 1 + 1 + 1 + 1 + 1 + 1 + 1 + 1 + 1 + 1 + 1 + 1 + 1 + 1 + 1 + 1 + 1 + 1 + 1 + 1 + 1 + 1 + 1 + 1 + 1 + 1 + 1 + 1 + 1 + 1 + 1 + 1 + 1 + 1 + 1 + 1 + 1 + 1 ≤ MC by omega) (show B.2 + 200 + 8 + 3 + 12 + 12 + 8 + 3 + 2 + 24 + 2 + 24 + 2 + 24 + 7 + 2 + 24 + 2 + 24 + 2 + 24 + 2 + 24 + 2 + 24 + 2 + 24 + 2 + 24 + 2 + 24 + 3 + 2 + 24 + 2 + 24 + 3 + 2 + 24 + 2 + 24 + 3 ≤ MS by omega)) (fun _ _ => cwI 2 hts (tb_good k_Fr_init) rfl rfl rfl (hts _ wm8) (hts _ wm157) (hts _ wm158) rfl (by decide +kernel) ⟨by rw [hRf]; exact Nat.le_of_ble_eq_true rfl, by rw [hRl]; exact Nat.le_of_ble_eq_true rfl⟩) (show B.1 + 1 + 1 + 1 + 1 + 1 + 1 + 1 + 1 + 1 + 1 + 1 + 1 + 1 + 1 + 1 + 1 + 1 + 1 + 1 + 1 + 1 + 1 + 1 + 1 + 1 + 1 + 1 + 1 + 1 + 1 + 1 + 1 + 1 + 1 + 1 + 1 + 1 + 1 + 1 + 1 + 1 ≤ MC by omega) (show B.2 + 200 + 8 + 3 + 12 + 12 + 8 + 3 + 2 + 24 + 2 + 24 + 2 + 24 + 7 + 2 + 24 + 2 + 24 + 2 + 24 + 2 + 24 + 2 + 24 + 2 + 24 + 2 + 24 + 2 + 24 + 3 + 2 + 24 + 2 + 24 + 3 + 2 + 24 + 2 + 24 + 3 ≤ MS by omega) rfl (Nat.le_of_ble_eq_true rfl) d_Mf_init_94) (fun G_290 B_291 p_292 => ?_)
  obtain ⟨a_293, b_294, z_295, z_296, f_297, n_298, n_299, x_300, e_301⟩ := p_292
  have fr_302 : gfr (fun y => y = 22) G_267 G_290 := gfr_gex x_300 f_269
  have n_303 : isN cA G_290 24 11 a_158 0 := isN_fr n_272 fr_302 (show ¬ (11 : Nat) = 22 by decide)
  have n_304 : isN cA G_290 24 12 b_159 0 := isN_fr n_273 fr_302 (show ¬ (12 : Nat) = 22 by decide)
  have n_305 : isN cA G_290 24 13 a_221 0 := isN_fr n_274 fr_302 (show ¬ (13 : Nat) = 22 by decide)
  have n_306 : isN cA G_290 24 14 b_222 0 := isN_fr n_275 fr_302 (show ¬ (14 : Nat) = 22 by decide)
  have n_307 : ∀ t9, t9 < 11 → isN cA G_290 24 t9 (ad t9) 0 := fun t9 h9 => isN_fr (n_276 t9 h9) fr_302 (show ¬ t9 = 22 by omega)
  have e_301 : B_291 = (B.1 + 1 + 1 + 1 + 1 + 1 + 1 + 1 + 1 + 1 + 1 + 1 + 1 + 1 + 1 + 1 + 1 + 1 + 1 + 1 + 1 + 1 + 1 + 1 + 1 + 1 + 1 + 1 + 1 + 1 + 1 + 1 + 1 + 1 + 1 + 1 + 1 + 1 + 1 + 1 + 1 + 1 + 1 + 1 + 1 + 1, B.2 + 200 + 8 + 3 + 12 + 12 + 8 + 3 + 2 + 24 + 2 + 24 + 2 + 24 + 7 + 2 + 24 + 2 + 24 + 2 + 24 + 2 + 24 + 2 + 24 + 2 + 24 + 2 + 24 + 2 + 24 + 3 + 2 + 24 + 2 + 24 + 3 + 2 + 24 + 2 + 24 + 3 + 2 + 24 + 2 + 24) := e_301
  subst e_301
  have f_308 : G_290 q_1 = some (32, .inl (cA 2, 200, .inr (.inr (.inr (.inr (fun _ => none)))))) := x_300 _ _ f_277 (gne f_277 f_269 (fun e => by cases e))
  have f_309 : G_290 q_24 = some (33, .inl (cA 3, 8, .inr (.inr (.inr (.inr (fun _ => none)))))) := x_300 _ _ f_278 (gne f_278 f_269 (fun e => by cases e))
  have f_310 : G_290 q_50 = some (35, .inr (7, [.ref a_64, .ref a_65, .int (nI 0)])) := x_300 _ _ f_279 (gne f_279 f_269 (fun e => by cases e))
  have f_311 : G_290 a_64 = some (36, .inl (cA 0, 12, .inl (fun _ => 0))) := x_300 _ _ f_280 (gne f_280 f_269 (fun e => by cases e))
  have f_312 : G_290 a_65 = some (37, .inl (cA 1, 12, .inr (.inl (fun _ => 0)))) := x_300 _ _ f_281 (gne f_281 f_269 (fun e => by cases e))
  have f_313 : G_290 q_87 = some (30, .inr (0, [.ref hd, .ref hc, .ref (ad 5), .ref (ad 6), .ref (ad 7), .ref (ad 8), .ref (ad 9), .ref (ad 10)])) := x_300 _ _ f_282 (gne f_282 f_269 (fun e => by cases e))
  have f_314 : G_290 hd = some (30, .inr (2, [.ref (ad 0), .ref (ad 1), .ref (ad 2)])) := x_300 _ _ f_283 (gne f_283 f_269 (fun e => by cases e))
  have f_315 : G_290 hc = some (19, .inr (1, [.ref hd, .ref (ad 3), .ref (ad 4), .long l_109, .long l_110, .long l_111, .long l_112])) := x_300 _ _ f_284 (gne f_284 f_269 (fun e => by cases e))
  have f_316 : G_290 q_137 = some (20, .inr (3, [.int (nI 0), .ref a_158, .ref b_159])) := x_300 _ _ f_285 (gne f_285 f_269 (by simp))
  have f_317 : G_290 q_197 = some (21, .inr (3, [.int (nI 0), .ref a_221, .ref b_222])) := x_300 _ _ f_286 (gne f_286 f_269 (by simp))
  have f_318 : G_290 h = some (31, .inr (8, [.ref q_1, .int (nI 0), .ref q_24, .int (nI 0), .ref q_50, .ref q_87, .ref q_137, .ref q_197, .null, .null, .null, .null, .null, .null])) := x_300 _ _ f_287 (gne f_287 f_269 (fun e => by cases e))
  have x_319 : gex (fun x => x = h) G G_290 := gex_tr x_289 x_300 (fun x y hx9 _ e => by subst e; rw [z_288] at hx9; cases hx9)
  refine g_putF (ty := .object "MetreFractions$Fraction") hx hb hts hin_Mf ty_Mf ty_Mf_ok nm_Mf hown hK f_318 rfl 8 (by decide) (hts _ wm243) (fun _ h9 => h9) rfl hin rfl (by decide +kernel) rfl rfl (Nat.le_of_ble_eq_true rfl) d_Mf_init_97 (fun G_320 f_321 o_322 => ?_)
  have f_323 : G_320 h = some (31, .inr (8, [.ref q_1, .int (nI 0), .ref q_24, .int (nI 0), .ref q_50, .ref q_87, .ref q_137, .ref q_197, .ref q_266, .null, .null, .null, .null, .null])) := f_321
  have f_324 : G_320 q_1 = some (32, .inl (cA 2, 200, .inr (.inr (.inr (.inr (fun _ => none)))))) := (o_322 _ (gne f_308 f_318 (fun e => by cases e))).trans f_308
  have f_325 : G_320 q_24 = some (33, .inl (cA 3, 8, .inr (.inr (.inr (.inr (fun _ => none)))))) := (o_322 _ (gne f_309 f_318 (fun e => by cases e))).trans f_309
  have f_326 : G_320 q_50 = some (35, .inr (7, [.ref a_64, .ref a_65, .int (nI 0)])) := (o_322 _ (gne f_310 f_318 (fun e => by cases e))).trans f_310
  have f_327 : G_320 a_64 = some (36, .inl (cA 0, 12, .inl (fun _ => 0))) := (o_322 _ (gne f_311 f_318 (fun e => by cases e))).trans f_311
  have f_328 : G_320 a_65 = some (37, .inl (cA 1, 12, .inr (.inl (fun _ => 0)))) := (o_322 _ (gne f_312 f_318 (fun e => by cases e))).trans f_312
  have f_329 : G_320 q_87 = some (30, .inr (0, [.ref hd, .ref hc, .ref (ad 5), .ref (ad 6), .ref (ad 7), .ref (ad 8), .ref (ad 9), .ref (ad 10)])) := (o_322 _ (gne f_313 f_318 (fun e => by cases e))).trans f_313
  have f_330 : G_320 hd = some (30, .inr (2, [.ref (ad 0), .ref (ad 1), .ref (ad 2)])) := (o_322 _ (gne f_314 f_318 (fun e => by cases e))).trans f_314
  have f_331 : G_320 hc = some (19, .inr (1, [.ref hd, .ref (ad 3), .ref (ad 4), .long l_109, .long l_110, .long l_111, .long l_112])) := (o_322 _ (gne f_315 f_318 (fun e => by cases e))).trans f_315
  have f_332 : G_320 q_137 = some (20, .inr (3, [.int (nI 0), .ref a_158, .ref b_159])) := (o_322 _ (gne f_316 f_318 (fun e => by cases e))).trans f_316
  have f_333 : G_320 q_197 = some (21, .inr (3, [.int (nI 0), .ref a_221, .ref b_222])) := (o_322 _ (gne f_317 f_318 (fun e => by cases e))).trans f_317
  have f_334 : G_320 q_266 = some (22, .inr (3, [.int (nI 0), .ref a_293, .ref b_294])) := (o_322 _ (gne f_297 f_318 (fun e => by cases e))).trans f_297
  have x_335 : gex (fun x => x = h) G G_320 := gex_put x_319 o_322 (Or.inl rfl)
  have fr_336 : gfr (fun y => y = 31) G_290 G_320 := gfr_put gfr_rf f_318 rfl o_322
  have n_337 : isN cA G_320 24 11 a_158 0 := isN_fr n_303 fr_336 (show ¬ (11 : Nat) = 31 by decide)
  have n_338 : isN cA G_320 24 12 b_159 0 := isN_fr n_304 fr_336 (show ¬ (12 : Nat) = 31 by decide)
  have n_339 : isN cA G_320 24 13 a_221 0 := isN_fr n_305 fr_336 (show ¬ (13 : Nat) = 31 by decide)
  have n_340 : isN cA G_320 24 14 b_222 0 := isN_fr n_306 fr_336 (show ¬ (14 : Nat) = 31 by decide)
  have n_341 : isN cA G_320 24 15 a_293 0 := isN_fr n_298 fr_336 (show ¬ (15 : Nat) = 31 by decide)
  have n_342 : isN cA G_320 24 16 b_294 0 := isN_fr n_299 fr_336 (show ¬ (16 : Nat) = 31 by decide)
  have n_343 : ∀ t9, t9 < 11 → isN cA G_320 24 t9 (ad t9) 0 := fun t9 h9 => isN_fr (n_307 t9 h9) fr_336 (show ¬ t9 = 31 by omega)
  refine gs (pc' := 101) (fun _ _ _ _ _ hl => lv_aload_n hx hb d_Mf_init_100 rfl (lv_at hl 0 rfl)) ?_
  refine g_new hx hb hts hin_Fr ty_Fr ty_Fr_ok hown (hts _ wm155) (hts _ wm156) (hts _ wm8) hK (ci := 3) rfl (fs := [.int (nI 0), .null, .null]) (fun j => match j with | 0 => fun _ => rfl | 1 => fun _ => rfl | 2 => fun _ => rfl | n + 3 => fun h9 => absurd h9 (by omega)) hlo hRc hRs (show B.1 + 1 + 1 + 1 + 1 + 1 + 1 + 1 + 1 + 1 + 1 + 1 + 1 + 1 + 1 + 1 + 1 + 1 + 1 + 1 + 1 + 1 + 1 + 1 + 1 + 1 + 1 + 1 + 1 + 1 + 1 + 1 + 1 + 1 + 1 + 1 + 1 + 1 + 1 + 1 + 1 + 1 + 1 + 1 + 1 + 1 + 1 ≤ MC by omega) (show B.2 + 200 + 8 + 3 + 12 + 12 + 8 + 3 + 2 + 24 + 2 + 24 + 2 + 24 + 7 + 2 + 24 + 2 + 24 + 2 + 24 + 2 + 24 + 2 + 24 + 2 + 24 + 2 + 24 + 2 + 24 + 3 + 2 + 24 + 2 + 24 + 3 + 2 + 24 + 2 + 24 + 3 + 2 + 24 + 2 + 24 + 3 ≤ MS by omega) d_Mf_init_101 23 (fun q_344 G_345 z_346 f_347 o_348 => ?_)
  have fr_349 : gfr (fun y => y = 1000) G_320 G_345 := gfr_new gfr_rf z_346 o_348
  have n_350 : isN cA G_345 24 11 a_158 0 := isN_fr n_337 fr_349 (show ¬ (11 : Nat) = 1000 by decide)
  have n_351 : isN cA G_345 24 12 b_159 0 := isN_fr n_338 fr_349 (show ¬ (12 : Nat) = 1000 by decide)
  have n_352 : isN cA G_345 24 13 a_221 0 := isN_fr n_339 fr_349 (show ¬ (13 : Nat) = 1000 by decide)
  have n_353 : isN cA G_345 24 14 b_222 0 := isN_fr n_340 fr_349 (show ¬ (14 : Nat) = 1000 by decide)
  have n_354 : isN cA G_345 24 15 a_293 0 := isN_fr n_341 fr_349 (show ¬ (15 : Nat) = 1000 by decide)
  have n_355 : isN cA G_345 24 16 b_294 0 := isN_fr n_342 fr_349 (show ¬ (16 : Nat) = 1000 by decide)
  have n_356 : ∀ t9, t9 < 11 → isN cA G_345 24 t9 (ad t9) 0 := fun t9 h9 => isN_fr (n_343 t9 h9) fr_349 (show ¬ t9 = 1000 by omega)
  have f_357 : G_345 q_1 = some (32, .inl (cA 2, 200, .inr (.inr (.inr (.inr (fun _ => none)))))) := (o_348 _ (fun e => by subst e; rw [f_324] at z_346; cases z_346)).trans f_324
  have f_358 : G_345 q_24 = some (33, .inl (cA 3, 8, .inr (.inr (.inr (.inr (fun _ => none)))))) := (o_348 _ (fun e => by subst e; rw [f_325] at z_346; cases z_346)).trans f_325
  have f_359 : G_345 q_50 = some (35, .inr (7, [.ref a_64, .ref a_65, .int (nI 0)])) := (o_348 _ (fun e => by subst e; rw [f_326] at z_346; cases z_346)).trans f_326
  have f_360 : G_345 a_64 = some (36, .inl (cA 0, 12, .inl (fun _ => 0))) := (o_348 _ (fun e => by subst e; rw [f_327] at z_346; cases z_346)).trans f_327
  have f_361 : G_345 a_65 = some (37, .inl (cA 1, 12, .inr (.inl (fun _ => 0)))) := (o_348 _ (fun e => by subst e; rw [f_328] at z_346; cases z_346)).trans f_328
  have f_362 : G_345 q_87 = some (30, .inr (0, [.ref hd, .ref hc, .ref (ad 5), .ref (ad 6), .ref (ad 7), .ref (ad 8), .ref (ad 9), .ref (ad 10)])) := (o_348 _ (fun e => by subst e; rw [f_329] at z_346; cases z_346)).trans f_329
  have f_363 : G_345 hd = some (30, .inr (2, [.ref (ad 0), .ref (ad 1), .ref (ad 2)])) := (o_348 _ (fun e => by subst e; rw [f_330] at z_346; cases z_346)).trans f_330
  have f_364 : G_345 hc = some (19, .inr (1, [.ref hd, .ref (ad 3), .ref (ad 4), .long l_109, .long l_110, .long l_111, .long l_112])) := (o_348 _ (fun e => by subst e; rw [f_331] at z_346; cases z_346)).trans f_331
  have f_365 : G_345 q_137 = some (20, .inr (3, [.int (nI 0), .ref a_158, .ref b_159])) := (o_348 _ (fun e => by subst e; rw [f_332] at z_346; cases z_346)).trans f_332
  have f_366 : G_345 q_197 = some (21, .inr (3, [.int (nI 0), .ref a_221, .ref b_222])) := (o_348 _ (fun e => by subst e; rw [f_333] at z_346; cases z_346)).trans f_333
  have f_367 : G_345 q_266 = some (22, .inr (3, [.int (nI 0), .ref a_293, .ref b_294])) := (o_348 _ (fun e => by subst e; rw [f_334] at z_346; cases z_346)).trans f_334
  have f_368 : G_345 h = some (31, .inr (8, [.ref q_1, .int (nI 0), .ref q_24, .int (nI 0), .ref q_50, .ref q_87, .ref q_137, .ref q_197, .ref q_266, .null, .null, .null, .null, .null])) := (o_348 _ (fun e => by subst e; rw [f_323] at z_346; cases z_346)).trans f_323
  have z_369 : G q_344 = none := gex_0 x_335 z_346 (fun z => by have z := z.symm; subst z; rw [f_323] at z_346; cases z_346)
  have x_370 : gex (fun x => x = h) G G_345 := gex_new x_335 z_346 o_348
  refine g_Beq (B' := (B.1 + 1 + 1 + 1 + 1 + 1 + 1 + 1 + 1 + 1 + 1 + 1 + 1 + 1 + 1 + 1 + 1 + 1 + 1 + 1 + 1 + 1 + 1 + 1 + 1 + 1 + 1 + 1 + 1 + 1 + 1 + 1 + 1 + 1 + 1 + 1 + 1 + 1 + 1 + 1 + 1 + 1 + 1 + 1 + 1 + 1 + 1, B.2 + 200 + 8 + 3 + 12 + 12 + 8 + 3 + 2 + 24 + 2 + 24 + 2 + 24 + 7 + 2 + 24 + 2 + 24 + 2 + 24 + 2 + 24 + 2 + 24 + 2 + 24 + 2 + 24 + 2 + 24 + 3 + 2 + 24 + 2 + 24 + 3 + 2 + 24 + 2 + 24 + 3 + 2 + 24 + 2 + 24 + 3)) rfl ?_
  refine gs (pc' := 105) (fun _ _ _ _ _ hl => lv_dup hx hb d_Mf_init_104 rfl) ?_
  refine gs (pc' := 107) (fun _ _ _ _ _ hl => lv_bipush (v := nI 24) hx hb d_Mf_init_105 (by decide)) ?_
  refine gs (pc' := 109) (fun _ _ _ _ _ hl => lv_bipush (v := nI 24) hx hb d_Mf_init_107 (by decide)) ?_
  refine g_outv hlo (g_runI (b := q_344) (As := [.int (nI 24), .int (nI 24)]) (rest := [.ref q_344, .ref h]) ⟨hx, hb, hml, hown, hts⟩ hK hZ hRc hRs (c_Fr_init l D cA lo MC MS G_345 (B.1 + 1 + 1 + 1 + 1 + 1 + 1 + 1 + 1 + 1 + 1 + 1 + 1 + 1 + 1 + 1 + 1 + 1 + 1 + 1 + 1 + 1 + 1 + 1 + 1 + 1 + 1 + 1 + 1 + 1 + 1 + 1 + 1 + 1 + 1 + 1 + 1 + 1 + 1 + 1 + 1 + 1 + 1 + 1 + 1 + 1 + 1, B.2 + 200 + 8 + 3 + 12 + 12 + 8 + 3 + 2 + 24 + 2 + 24 + 2 + 24 + 7 + 2 + 24 + 2 + 24 + 2 + 24 + 2 + 24 + 2 + 24 + 2 + 24 + 2 + 24 + 2 + 24 + 3 + 2 + 24 + 2 + 24 + 3 + 2 + 24 + 2 + 24 + 3 + 2 + 24 + 2 + 24 + 3) 23 17 18 q_344 24 24 (by decide) f_347 (by omega) (by omega) (show B.1 + 1 + 1 + 1 + 1 + 1 + 1 + 1 + 1 + 1 + 1 + 1 + 1 + 1 + 1 + 1 + 1 + 1 + 1 + 1 + 1 + 1 + 1 + 1 + 1 + 1 + 1 + 1 + 1 + 1 + 1 + 1 + 1 + 1 + 1 + 1 + 1 + 1 + 1 + 1 + 1 + 1 + 1 + 1 + 1 + 1 + 1 + 4 ≤ MC by omega) (show B.2 + 200 + 8 + 3 + 12 + 12 + 8 + 3 + 2 + 24 + 2 + 24 + 2 + 24 + 7 + 2 + 24 + 2 + 24 + 2 + 24 + 2 + 24 + 2 + 24 + 2 + 24 + 2 + 24 + 2 + 24 + 3 + 2 + 24 + 2 + 24 + 3 + 2 + 24 + 2 + 24 + 3 + 2 + 24 + 2 + 24 + 3 + 4 + 24 + 24 ≤ MS by omega) (show B.1 + 1 + 1 + 1 + 1 + 1 + 1 + 1 + 1 + 1 + 1 + 1 + 1 + 1 + 1 + 1 + 1 + 1 + 1 + 1 + 1 + 1 + 1 + 1 + 1 + 1 + 1 + 1 + 1 + 1 + 1 + 1 + 1 + 1 + 1 + 1 + 1 + 1 + 1 + 1 + 1 + 1 + 1 + 1 + 1 + 1 + 1 ≤ MC by omega) (show B.2 + 200 + 8 + 3 + 12 + 12 + 8 + 3 + 2 + 24 + 2 + 24 + 2 + 24 + 7 + 2 + 24 + 2 + 24 + 2 + 24 + 2 + 24 + 2 + 24 + 2 + 24 + 2 + 24 + 2 + 24 + 3 + 2 + 24 + 2 + 24 + 3 + 2 + 24 + 2 + 24 + 3 + 2 + 24 + 2 + 24 + 3 ≤ MS by omega)) (fun _ _ => cwI 2 hts (tb_good k_Fr_init) rfl rfl rfl (hts _ wm8) (hts _ wm157) (hts _ wm158) rfl (by decide +kernel) ⟨by rw [hRf]; exact Nat.le_of_ble_eq_true rfl, by rw [hRl]; exact Nat.le_of_ble_eq_true rfl⟩) (show B.1 + 1 + 1 + 1 + 1 + 1 + 1 + 1 + 1 + 1 + 1 + 1 + 1 + 1 + 1 + 1 + 1 + 1 + 1 + 1 + 1 + 1 + 1 + 1 + 1 + 1 + 1 + 1 + 1 + 1 + 1 + 1 + 1 + 1 + 1 + 1 + 1 + 1 + 1 + 1 + 1 + 1 + 1 + 1 + 1 + 1 + 1 ≤ MC by omega) (show B.2 + 200 + 8 + 3 + 12 + 12 + 8 + 3 + 2 + 24 + 2 + 24 + 2 + 24 + 7 + 2 + 24 + 2 + 24 + 2 + 24 + 2 + 24 + 2 + 24 + 2 + 24 + 2 + 24 + 2 + 24 + 3 + 2 + 24 + 2 + 24 + 3 + 2 + 24 + 2 + 24 + 3 + 2 + 24 + 2 + 24 + 3 ≤ MS by omega) rfl (Nat.le_of_ble_eq_true rfl) d_Mf_init_109) (fun G_371 B_372 p_373 => ?_)
  obtain ⟨a_374, b_375, z_376, z_377, f_378, n_379, n_380, x_381, e_382⟩ := p_373
  have fr_383 : gfr (fun y => y = 23) G_345 G_371 := gfr_gex x_381 f_347
  have n_384 : isN cA G_371 24 11 a_158 0 := isN_fr n_350 fr_383 (show ¬ (11 : Nat) = 23 by decide)
  have n_385 : isN cA G_371 24 12 b_159 0 := isN_fr n_351 fr_383 (show ¬ (12 : Nat) = 23 by decide)
  have n_386 : isN cA G_371 24 13 a_221 0 := isN_fr n_352 fr_383 (show ¬ (13 : Nat) = 23 by decide)
  have n_387 : isN cA G_371 24 14 b_222 0 := isN_fr n_353 fr_383 (show ¬ (14 : Nat) = 23 by decide)
  have n_388 : isN cA G_371 24 15 a_293 0 := isN_fr n_354 fr_383 (show ¬ (15 : Nat) = 23 by decide)
  have n_389 : isN cA G_371 24 16 b_294 0 := isN_fr n_355 fr_383 (show ¬ (16 : Nat) = 23 by decide)
  have n_390 : ∀ t9, t9 < 11 → isN cA G_371 24 t9 (ad t9) 0 := fun t9 h9 => isN_fr (n_356 t9 h9) fr_383 (show ¬ t9 = 23 by omega)
  have e_382 : B_372 = (B.1 + 1 + 1 + 1 + 1 + 1 + 1 + 1 + 1 + 1 + 1 + 1 + 1 + 1 + 1 + 1 + 1 + 1 + 1 + 1 + 1 + 1 + 1 + 1 + 1 + 1 + 1 + 1 + 1 + 1 + 1 + 1 + 1 + 1 + 1 + 1 + 1 + 1 + 1 + 1 + 1 + 1 + 1 + 1 + 1 + 1 + 1 + 1 + 1 + 1 + 1, B.2 + 200 + 8 + 3 + 12 + 12 + 8 + 3 + 2 + 24 + 2 + 24 + 2 + 24 + 7 + 2 + 24 + 2 + 24 + 2 + 24 + 2 + 24 + 2 + 24 + 2 + 24 + 2 + 24 + 2 + 24 + 3 + 2 + 24 + 2 + 24 + 3 + 2 + 24 + 2 + 24 + 3 + 2 + 24 + 2 + 24 + 3 + 2 + 24 + 2 + 24) := e_382
  subst e_382
  have f_391 : G_371 q_1 = some (32, .inl (cA 2, 200, .inr (.inr (.inr (.inr (fun _ => none)))))) := x_381 _ _ f_357 (gne f_357 f_347 (fun e => by cases e))
  have f_392 : G_371 q_24 = some (33, .inl (cA 3, 8, .inr (.inr (.inr (.inr (fun _ => none)))))) := x_381 _ _ f_358 (gne f_358 f_347 (fun e => by cases e))
  have f_393 : G_371 q_50 = some (35, .inr (7, [.ref a_64, .ref a_65, .int (nI 0)])) := x_381 _ _ f_359 (gne f_359 f_347 (fun e => by cases e))
  have f_394 : G_371 a_64 = some (36, .inl (cA 0, 12, .inl (fun _ => 0))) := x_381 _ _ f_360 (gne f_360 f_347 (fun e => by cases e))
  have f_395 : G_371 a_65 = some (37, .inl (cA 1, 12, .inr (.inl (fun _ => 0)))) := x_381 _ _ f_361 (gne f_361 f_347 (fun e => by cases e))
  have f_396 : G_371 q_87 = some (30, .inr (0, [.ref hd, .ref hc, .ref (ad 5), .ref (ad 6), .ref (ad 7), .ref (ad 8), .ref (ad 9), .ref (ad 10)])) := x_381 _ _ f_362 (gne f_362 f_347 (fun e => by cases e))
  have f_397 : G_371 hd = some (30, .inr (2, [.ref (ad 0), .ref (ad 1), .ref (ad 2)])) := x_381 _ _ f_363 (gne f_363 f_347 (fun e => by cases e))
  have f_398 : G_371 hc = some (19, .inr (1, [.ref hd, .ref (ad 3), .ref (ad 4), .long l_109, .long l_110, .long l_111, .long l_112])) := x_381 _ _ f_364 (gne f_364 f_347 (fun e => by cases e))
  have f_399 : G_371 q_137 = some (20, .inr (3, [.int (nI 0), .ref a_158, .ref b_159])) := x_381 _ _ f_365 (gne f_365 f_347 (by simp))
  have f_400 : G_371 q_197 = some (21, .inr (3, [.int (nI 0), .ref a_221, .ref b_222])) := x_381 _ _ f_366 (gne f_366 f_347 (by simp))
  have f_401 : G_371 q_266 = some (22, .inr (3, [.int (nI 0), .ref a_293, .ref b_294])) := x_381 _ _ f_367 (gne f_367 f_347 (by simp))
  have f_402 : G_371 h = some (31, .inr (8, [.ref q_1, .int (nI 0), .ref q_24, .int (nI 0), .ref q_50, .ref q_87, .ref q_137, .ref q_197, .ref q_266, .null, .null, .null, .null, .null])) := x_381 _ _ f_368 (gne f_368 f_347 (fun e => by cases e))
  have x_403 : gex (fun x => x = h) G G_371 := gex_tr x_370 x_381 (fun x y hx9 _ e => by subst e; rw [z_369] at hx9; cases hx9)
  refine g_putF (ty := .object "MetreFractions$Fraction") hx hb hts hin_Mf ty_Mf ty_Mf_ok nm_Mf hown hK f_402 rfl 9 (by decide) (hts _ wm244) (fun _ h9 => h9) rfl hin rfl (by decide +kernel) rfl rfl (Nat.le_of_ble_eq_true rfl) d_Mf_init_112 (fun G_404 f_405 o_406 => ?_)
  have f_407 : G_404 h = some (31, .inr (8, [.ref q_1, .int (nI 0), .ref q_24, .int (nI 0), .ref q_50, .ref q_87, .ref q_137, .ref q_197, .ref q_266, .ref q_344, .null, .null, .null, .null])) := f_405
  have f_408 : G_404 q_1 = some (32, .inl (cA 2, 200, .inr (.inr (.inr (.inr (fun _ => none)))))) := (o_406 _ (gne f_391 f_402 (fun e => by cases e))).trans f_391
  have f_409 : G_404 q_24 = some (33, .inl (cA 3, 8, .inr (.inr (.inr (.inr (fun _ => none)))))) := (o_406 _ (gne f_392 f_402 (fun e => by cases e))).trans f_392
  have f_410 : G_404 q_50 = some (35, .inr (7, [.ref a_64, .ref a_65, .int (nI 0)])) := (o_406 _ (gne f_393 f_402 (fun e => by cases e))).trans f_393
  have f_411 : G_404 a_64 = some (36, .inl (cA 0, 12, .inl (fun _ => 0))) := (o_406 _ (gne f_394 f_402 (fun e => by cases e))).trans f_394
  have f_412 : G_404 a_65 = some (37, .inl (cA 1, 12, .inr (.inl (fun _ => 0)))) := (o_406 _ (gne f_395 f_402 (fun e => by cases e))).trans f_395
  have f_413 : G_404 q_87 = some (30, .inr (0, [.ref hd, .ref hc, .ref (ad 5), .ref (ad 6), .ref (ad 7), .ref (ad 8), .ref (ad 9), .ref (ad 10)])) := (o_406 _ (gne f_396 f_402 (fun e => by cases e))).trans f_396
  have f_414 : G_404 hd = some (30, .inr (2, [.ref (ad 0), .ref (ad 1), .ref (ad 2)])) := (o_406 _ (gne f_397 f_402 (fun e => by cases e))).trans f_397
  have f_415 : G_404 hc = some (19, .inr (1, [.ref hd, .ref (ad 3), .ref (ad 4), .long l_109, .long l_110, .long l_111, .long l_112])) := (o_406 _ (gne f_398 f_402 (fun e => by cases e))).trans f_398
  have f_416 : G_404 q_137 = some (20, .inr (3, [.int (nI 0), .ref a_158, .ref b_159])) := (o_406 _ (gne f_399 f_402 (fun e => by cases e))).trans f_399
  have f_417 : G_404 q_197 = some (21, .inr (3, [.int (nI 0), .ref a_221, .ref b_222])) := (o_406 _ (gne f_400 f_402 (fun e => by cases e))).trans f_400
  have f_418 : G_404 q_266 = some (22, .inr (3, [.int (nI 0), .ref a_293, .ref b_294])) := (o_406 _ (gne f_401 f_402 (fun e => by cases e))).trans f_401
  have f_419 : G_404 q_344 = some (23, .inr (3, [.int (nI 0), .ref a_374, .ref b_375])) := (o_406 _ (gne f_378 f_402 (fun e => by cases e))).trans f_378
  have x_420 : gex (fun x => x = h) G G_404 := gex_put x_403 o_406 (Or.inl rfl)
  have fr_421 : gfr (fun y => y = 31) G_371 G_404 := gfr_put gfr_rf f_402 rfl o_406
  have n_422 : isN cA G_404 24 11 a_158 0 := isN_fr n_384 fr_421 (show ¬ (11 : Nat) = 31 by decide)
  have n_423 : isN cA G_404 24 12 b_159 0 := isN_fr n_385 fr_421 (show ¬ (12 : Nat) = 31 by decide)
  have n_424 : isN cA G_404 24 13 a_221 0 := isN_fr n_386 fr_421 (show ¬ (13 : Nat) = 31 by decide)
  have n_425 : isN cA G_404 24 14 b_222 0 := isN_fr n_387 fr_421 (show ¬ (14 : Nat) = 31 by decide)
  have n_426 : isN cA G_404 24 15 a_293 0 := isN_fr n_388 fr_421 (show ¬ (15 : Nat) = 31 by decide)
  have n_427 : isN cA G_404 24 16 b_294 0 := isN_fr n_389 fr_421 (show ¬ (16 : Nat) = 31 by decide)
  have n_428 : isN cA G_404 24 17 a_374 0 := isN_fr n_379 fr_421 (show ¬ (17 : Nat) = 31 by decide)
  have n_429 : isN cA G_404 24 18 b_375 0 := isN_fr n_380 fr_421 (show ¬ (18 : Nat) = 31 by decide)
  have n_430 : ∀ t9, t9 < 11 → isN cA G_404 24 t9 (ad t9) 0 := fun t9 h9 => isN_fr (n_390 t9 h9) fr_421 (show ¬ t9 = 31 by omega)
  refine gs (pc' := 116) (fun _ _ _ _ _ hl => lv_aload_n hx hb d_Mf_init_115 rfl (lv_at hl 0 rfl)) ?_
  refine gs (pc' := 117) (fun _ _ _ _ _ hl => lv_iconst (v := nI 0) hx hb d_Mf_init_116 (by decide)) ?_
  refine gs (pc' := 118) (fun _ _ _ _ _ hl => lv_iconst (v := nI 1) hx hb d_Mf_init_117 (by decide)) ?_
  refine g_outr hlo (g_runS (As := [.int (nI 0), .int (nI 1)]) (rest := [.ref h]) ⟨hx, hb, hml, hown, hts⟩ hK hZ hRc hRs (c_Fr_olt l D cA lo MC MS G_404 (B.1 + 1 + 1 + 1 + 1 + 1 + 1 + 1 + 1 + 1 + 1 + 1 + 1 + 1 + 1 + 1 + 1 + 1 + 1 + 1 + 1 + 1 + 1 + 1 + 1 + 1 + 1 + 1 + 1 + 1 + 1 + 1 + 1 + 1 + 1 + 1 + 1 + 1 + 1 + 1 + 1 + 1 + 1 + 1 + 1 + 1 + 1 + 1 + 1 + 1 + 1, B.2 + 200 + 8 + 3 + 12 + 12 + 8 + 3 + 2 + 24 + 2 + 24 + 2 + 24 + 7 + 2 + 24 + 2 + 24 + 2 + 24 + 2 + 24 + 2 + 24 + 2 + 24 + 2 + 24 + 2 + 24 + 3 + 2 + 24 + 2 + 24 + 3 + 2 + 24 + 2 + 24 + 3 + 2 + 24 + 2 + 24 + 3 + 2 + 24 + 2 + 24) 0 1 (by decide) (by decide) (show B.1 + 1 + 1 + 1 + 1 + 1 + 1 + 1 + 1 + 1 + 1 + 1 + 1 + 1 + 1 + 1 + 1 + 1 + 1 + 1 + 1 + 1 + 1 + 1 + 1 + 1 + 1 + 1 + 1 + 1 + 1 + 1 + 1 + 1 + 1 + 1 + 1 + 1 + 1 + 1 + 1 + 1 + 1 + 1 + 1 + 1 + 1 + 1 + 1 + 1 + 1 + 5 ≤ MC by omega) (show B.2 + 200 + 8 + 3 + 12 + 12 + 8 + 3 + 2 + 24 + 2 + 24 + 2 + 24 + 7 + 2 + 24 + 2 + 24 + 2 + 24 + 2 + 24 + 2 + 24 + 2 + 24 + 2 + 24 + 2 + 24 + 3 + 2 + 24 + 2 + 24 + 3 + 2 + 24 + 2 + 24 + 3 + 2 + 24 + 2 + 24 + 3 + 2 + 24 + 2 + 24 + 13 ≤ MS by omega) (show B.1 + 1 + 1 + 1 + 1 + 1 + 1 + 1 + 1 + 1 + 1 + 1 + 1 + 1 + 1 + 1 + 1 + 1 + 1 + 1 + 1 + 1 + 1 + 1 + 1 + 1 + 1 + 1 + 1 + 1 + 1 + 1 + 1 + 1 + 1 + 1 + 1 + 1 + 1 + 1 + 1 + 1 + 1 + 1 + 1 + 1 + 1 + 1 + 1 + 1 + 1 ≤ MC by omega) (show B.2 + 200 + 8 + 3 + 12 + 12 + 8 + 3 + 2 + 24 + 2 + 24 + 2 + 24 + 7 + 2 + 24 + 2 + 24 + 2 + 24 + 2 + 24 + 2 + 24 + 2 + 24 + 2 + 24 + 2 + 24 + 3 + 2 + 24 + 2 + 24 + 3 + 2 + 24 + 2 + 24 + 3 + 2 + 24 + 2 + 24 + 3 + 2 + 24 + 2 + 24 ≤ MS by omega)) (fun _ _ => va_cwS 2 hts (tb_good (tb_cons wm179 (tb_cons wm180 (tb_cons wm8 k_Fr_ofLowestTerms)))) rfl rfl rfl (by decide +kernel) ⟨by rw [hRf]; exact Nat.le_of_ble_eq_true rfl, by rw [hRl]; exact Nat.le_of_ble_eq_true rfl⟩) (show B.1 + 1 + 1 + 1 + 1 + 1 + 1 + 1 + 1 + 1 + 1 + 1 + 1 + 1 + 1 + 1 + 1 + 1 + 1 + 1 + 1 + 1 + 1 + 1 + 1 + 1 + 1 + 1 + 1 + 1 + 1 + 1 + 1 + 1 + 1 + 1 + 1 + 1 + 1 + 1 + 1 + 1 + 1 + 1 + 1 + 1 + 1 + 1 + 1 + 1 + 1 ≤ MC by omega) (show B.2 + 200 + 8 + 3 + 12 + 12 + 8 + 3 + 2 + 24 + 2 + 24 + 2 + 24 + 7 + 2 + 24 + 2 + 24 + 2 + 24 + 2 + 24 + 2 + 24 + 2 + 24 + 2 + 24 + 2 + 24 + 3 + 2 + 24 + 2 + 24 + 3 + 2 + 24 + 2 + 24 + 3 + 2 + 24 + 2 + 24 + 3 + 2 + 24 + 2 + 24 ≤ MS by omega) rfl (Nat.le_of_ble_eq_true rfl) d_Mf_init_118) (fun r_434 G_431 B_432 p_433 => ?_)
  obtain ⟨x_435, n_436, b_437, b_438⟩ := p_433
  have b_437 : B_432.1 ≤ B.1 + 1 + 1 + 1 + 1 + 1 + 1 + 1 + 1 + 1 + 1 + 1 + 1 + 1 + 1 + 1 + 1 + 1 + 1 + 1 + 1 + 1 + 1 + 1 + 1 + 1 + 1 + 1 + 1 + 1 + 1 + 1 + 1 + 1 + 1 + 1 + 1 + 1 + 1 + 1 + 1 + 1 + 1 + 1 + 1 + 1 + 1 + 1 + 1 + 1 + 1 + 5 := b_437
  have b_438 : B_432.2 ≤ B.2 + 200 + 8 + 3 + 12 + 12 + 8 + 3 + 2 + 24 + 2 + 24 + 2 + 24 + 7 + 2 + 24 + 2 + 24 + 2 + 24 + 2 + 24 + 2 + 24 + 2 + 24 + 2 + 24 + 2 + 24 + 3 + 2 + 24 + 2 + 24 + 3 + 2 + 24 + 2 + 24 + 3 + 2 + 24 + 2 + 24 + 3 + 2 + 24 + 2 + 24 + 13 := b_438
  have fr_439 : gfr (fun y => y = 1000) G_404 G_431 := fun a9 y9 h9 _ => x_435 a9 y9 h9 (fun z => z)
  have n_440 : isN cA G_431 24 11 a_158 0 := isN_fr n_422 fr_439 (show ¬ (11 : Nat) = 1000 by decide)
  have n_441 : isN cA G_431 24 12 b_159 0 := isN_fr n_423 fr_439 (show ¬ (12 : Nat) = 1000 by decide)
  have n_442 : isN cA G_431 24 13 a_221 0 := isN_fr n_424 fr_439 (show ¬ (13 : Nat) = 1000 by decide)
  have n_443 : isN cA G_431 24 14 b_222 0 := isN_fr n_425 fr_439 (show ¬ (14 : Nat) = 1000 by decide)
  have n_444 : isN cA G_431 24 15 a_293 0 := isN_fr n_426 fr_439 (show ¬ (15 : Nat) = 1000 by decide)
  have n_445 : isN cA G_431 24 16 b_294 0 := isN_fr n_427 fr_439 (show ¬ (16 : Nat) = 1000 by decide)
  have n_446 : isN cA G_431 24 17 a_374 0 := isN_fr n_428 fr_439 (show ¬ (17 : Nat) = 1000 by decide)
  have n_447 : isN cA G_431 24 18 b_375 0 := isN_fr n_429 fr_439 (show ¬ (18 : Nat) = 1000 by decide)
  have n_448 : ∀ t9, t9 < 11 → isN cA G_431 24 t9 (ad t9) 0 := fun t9 h9 => isN_fr (n_430 t9 h9) fr_439 (show ¬ t9 = 1000 by omega)
  have f_449 : G_431 q_1 = some (32, .inl (cA 2, 200, .inr (.inr (.inr (.inr (fun _ => none)))))) := x_435 _ _ f_408 (fun z => z)
  have f_450 : G_431 q_24 = some (33, .inl (cA 3, 8, .inr (.inr (.inr (.inr (fun _ => none)))))) := x_435 _ _ f_409 (fun z => z)
  have f_451 : G_431 q_50 = some (35, .inr (7, [.ref a_64, .ref a_65, .int (nI 0)])) := x_435 _ _ f_410 (fun z => z)
  have f_452 : G_431 a_64 = some (36, .inl (cA 0, 12, .inl (fun _ => 0))) := x_435 _ _ f_411 (fun z => z)
  have f_453 : G_431 a_65 = some (37, .inl (cA 1, 12, .inr (.inl (fun _ => 0)))) := x_435 _ _ f_412 (fun z => z)
  have f_454 : G_431 q_87 = some (30, .inr (0, [.ref hd, .ref hc, .ref (ad 5), .ref (ad 6), .ref (ad 7), .ref (ad 8), .ref (ad 9), .ref (ad 10)])) := x_435 _ _ f_413 (fun z => z)
  have f_455 : G_431 hd = some (30, .inr (2, [.ref (ad 0), .ref (ad 1), .ref (ad 2)])) := x_435 _ _ f_414 (fun z => z)
  have f_456 : G_431 hc = some (19, .inr (1, [.ref hd, .ref (ad 3), .ref (ad 4), .long l_109, .long l_110, .long l_111, .long l_112])) := x_435 _ _ f_415 (fun z => z)
  have f_457 : G_431 q_137 = some (20, .inr (3, [.int (nI 0), .ref a_158, .ref b_159])) := x_435 _ _ f_416 (fun z => z)
  have f_458 : G_431 q_197 = some (21, .inr (3, [.int (nI 0), .ref a_221, .ref b_222])) := x_435 _ _ f_417 (fun z => z)
  have f_459 : G_431 q_266 = some (22, .inr (3, [.int (nI 0), .ref a_293, .ref b_294])) := x_435 _ _ f_418 (fun z => z)
  have f_460 : G_431 q_344 = some (23, .inr (3, [.int (nI 0), .ref a_374, .ref b_375])) := x_435 _ _ f_419 (fun z => z)
  have f_461 : G_431 h = some (31, .inr (8, [.ref q_1, .int (nI 0), .ref q_24, .int (nI 0), .ref q_50, .ref q_87, .ref q_137, .ref q_197, .ref q_266, .ref q_344, .null, .null, .null, .null])) := x_435 _ _ f_407 (fun z => z)
  have x_462 : gex (fun x => x = h) G G_431 := gex_tr x_420 x_435 (fun _ _ _ _ z => z)
  refine g_putF (ty := .object "MetreFractions$Fraction") hx hb hts hin_Mf ty_Mf ty_Mf_ok nm_Mf hown hK f_461 rfl 10 (by decide) (hts _ wm245) (fun _ h9 => h9) rfl hin rfl (by decide +kernel) rfl rfl (Nat.le_of_ble_eq_true rfl) d_Mf_init_121 (fun G_463 f_464 o_465 => ?_)
  have f_466 : G_463 h = some (31, .inr (8, [.ref q_1, .int (nI 0), .ref q_24, .int (nI 0), .ref q_50, .ref q_87, .ref q_137, .ref q_197, .ref q_266, .ref q_344, .ref r_434, .null, .null, .null])) := f_464
  have f_467 : G_463 q_1 = some (32, .inl (cA 2, 200, .inr (.inr (.inr (.inr (fun _ => none)))))) := (o_465 _ (gne f_449 f_461 (fun e => by cases e))).trans f_449
  have f_468 : G_463 q_24 = some (33, .inl (cA 3, 8, .inr (.inr (.inr (.inr (fun _ => none)))))) := (o_465 _ (gne f_450 f_461 (fun e => by cases e))).trans f_450
  have f_469 : G_463 q_50 = some (35, .inr (7, [.ref a_64, .ref a_65, .int (nI 0)])) := (o_465 _ (gne f_451 f_461 (fun e => by cases e))).trans f_451
  have f_470 : G_463 a_64 = some (36, .inl (cA 0, 12, .inl (fun _ => 0))) := (o_465 _ (gne f_452 f_461 (fun e => by cases e))).trans f_452
  have f_471 : G_463 a_65 = some (37, .inl (cA 1, 12, .inr (.inl (fun _ => 0)))) := (o_465 _ (gne f_453 f_461 (fun e => by cases e))).trans f_453
  have f_472 : G_463 q_87 = some (30, .inr (0, [.ref hd, .ref hc, .ref (ad 5), .ref (ad 6), .ref (ad 7), .ref (ad 8), .ref (ad 9), .ref (ad 10)])) := (o_465 _ (gne f_454 f_461 (fun e => by cases e))).trans f_454
  have f_473 : G_463 hd = some (30, .inr (2, [.ref (ad 0), .ref (ad 1), .ref (ad 2)])) := (o_465 _ (gne f_455 f_461 (fun e => by cases e))).trans f_455
  have f_474 : G_463 hc = some (19, .inr (1, [.ref hd, .ref (ad 3), .ref (ad 4), .long l_109, .long l_110, .long l_111, .long l_112])) := (o_465 _ (gne f_456 f_461 (fun e => by cases e))).trans f_456
  have f_475 : G_463 q_137 = some (20, .inr (3, [.int (nI 0), .ref a_158, .ref b_159])) := (o_465 _ (gne f_457 f_461 (fun e => by cases e))).trans f_457
  have f_476 : G_463 q_197 = some (21, .inr (3, [.int (nI 0), .ref a_221, .ref b_222])) := (o_465 _ (gne f_458 f_461 (fun e => by cases e))).trans f_458
  have f_477 : G_463 q_266 = some (22, .inr (3, [.int (nI 0), .ref a_293, .ref b_294])) := (o_465 _ (gne f_459 f_461 (fun e => by cases e))).trans f_459
  have f_478 : G_463 q_344 = some (23, .inr (3, [.int (nI 0), .ref a_374, .ref b_375])) := (o_465 _ (gne f_460 f_461 (fun e => by cases e))).trans f_460
  have x_479 : gex (fun x => x = h) G G_463 := gex_put x_462 o_465 (Or.inl rfl)
  have fr_480 : gfr (fun y => y = 31) G_431 G_463 := gfr_put gfr_rf f_461 rfl o_465
  have n_481 : isN cA G_463 24 11 a_158 0 := isN_fr n_440 fr_480 (show ¬ (11 : Nat) = 31 by decide)
  have n_482 : isN cA G_463 24 12 b_159 0 := isN_fr n_441 fr_480 (show ¬ (12 : Nat) = 31 by decide)
  have n_483 : isN cA G_463 24 13 a_221 0 := isN_fr n_442 fr_480 (show ¬ (13 : Nat) = 31 by decide)
  have n_484 : isN cA G_463 24 14 b_222 0 := isN_fr n_443 fr_480 (show ¬ (14 : Nat) = 31 by decide)
  have n_485 : isN cA G_463 24 15 a_293 0 := isN_fr n_444 fr_480 (show ¬ (15 : Nat) = 31 by decide)
  have n_486 : isN cA G_463 24 16 b_294 0 := isN_fr n_445 fr_480 (show ¬ (16 : Nat) = 31 by decide)
  have n_487 : isN cA G_463 24 17 a_374 0 := isN_fr n_446 fr_480 (show ¬ (17 : Nat) = 31 by decide)
  have n_488 : isN cA G_463 24 18 b_375 0 := isN_fr n_447 fr_480 (show ¬ (18 : Nat) = 31 by decide)
  have n_489 : ∀ t9, t9 < 11 → isN cA G_463 24 t9 (ad t9) 0 := fun t9 h9 => isN_fr (n_448 t9 h9) fr_480 (show ¬ t9 = 31 by omega)
  have n_490 : rf cA G_463 (fun x => x = 30) r_434 ((0 : Nat) : Int) 1 := rf_fr n_436 fr_480 (fun t9 h9 => by have h9 : t9 = 30 := h9; show ¬ t9 = 31; omega)
  refine gs (pc' := 125) (fun _ _ _ _ _ hl => lv_aload_n hx hb d_Mf_init_124 rfl (lv_at hl 0 rfl)) ?_
  refine gs (pc' := 126) (fun _ _ _ _ _ hl => lv_iconst (v := nI 4) hx hb d_Mf_init_125 (by decide)) ?_
  refine gs (pc' := 127) (fun _ _ _ _ _ hl => lv_iconst (v := nI 1) hx hb d_Mf_init_126 (by decide)) ?_
  refine g_outr hlo (g_runS (As := [.int (nI 4), .int (nI 1)]) (rest := [.ref h]) ⟨hx, hb, hml, hown, hts⟩ hK hZ hRc hRs (c_Fr_olt l D cA lo MC MS G_463 B_432 4 1 (by decide) (by decide) (show B_432.1 + 5 ≤ MC by omega) (show B_432.2 + 13 ≤ MS by omega) (show B_432.1 ≤ MC by omega) (show B_432.2 ≤ MS by omega)) (fun _ _ => va_cwS 2 hts (tb_good (tb_cons wm179 (tb_cons wm180 (tb_cons wm8 k_Fr_ofLowestTerms)))) rfl rfl rfl (by decide +kernel) ⟨by rw [hRf]; exact Nat.le_of_ble_eq_true rfl, by rw [hRl]; exact Nat.le_of_ble_eq_true rfl⟩) (show B_432.1 ≤ MC by omega) (show B_432.2 ≤ MS by omega) rfl (Nat.le_of_ble_eq_true rfl) d_Mf_init_127) (fun r_494 G_491 B_492 p_493 => ?_)
  obtain ⟨x_495, n_496, b_497, b_498⟩ := p_493
  have b_497 : B_492.1 ≤ B_432.1 + 5 := b_497
  have b_498 : B_492.2 ≤ B_432.2 + 13 := b_498
  have fr_499 : gfr (fun y => y = 1000) G_463 G_491 := fun a9 y9 h9 _ => x_495 a9 y9 h9 (fun z => z)
  have n_500 : isN cA G_491 24 11 a_158 0 := isN_fr n_481 fr_499 (show ¬ (11 : Nat) = 1000 by decide)
  have n_501 : isN cA G_491 24 12 b_159 0 := isN_fr n_482 fr_499 (show ¬ (12 : Nat) = 1000 by decide)
  have n_502 : isN cA G_491 24 13 a_221 0 := isN_fr n_483 fr_499 (show ¬ (13 : Nat) = 1000 by decide)
  have n_503 : isN cA G_491 24 14 b_222 0 := isN_fr n_484 fr_499 (show ¬ (14 : Nat) = 1000 by decide)
  have n_504 : isN cA G_491 24 15 a_293 0 := isN_fr n_485 fr_499 (show ¬ (15 : Nat) = 1000 by decide)
  have n_505 : isN cA G_491 24 16 b_294 0 := isN_fr n_486 fr_499 (show ¬ (16 : Nat) = 1000 by decide)
  have n_506 : isN cA G_491 24 17 a_374 0 := isN_fr n_487 fr_499 (show ¬ (17 : Nat) = 1000 by decide)
  have n_507 : isN cA G_491 24 18 b_375 0 := isN_fr n_488 fr_499 (show ¬ (18 : Nat) = 1000 by decide)
  have n_508 : ∀ t9, t9 < 11 → isN cA G_491 24 t9 (ad t9) 0 := fun t9 h9 => isN_fr (n_489 t9 h9) fr_499 (show ¬ t9 = 1000 by omega)
  have n_509 : rf cA G_491 (fun x => x = 30) r_434 ((0 : Nat) : Int) 1 := rf_fr n_490 fr_499 (fun t9 h9 => by have h9 : t9 = 30 := h9; show ¬ t9 = 1000; omega)
  have f_510 : G_491 q_1 = some (32, .inl (cA 2, 200, .inr (.inr (.inr (.inr (fun _ => none)))))) := x_495 _ _ f_467 (fun z => z)
  have f_511 : G_491 q_24 = some (33, .inl (cA 3, 8, .inr (.inr (.inr (.inr (fun _ => none)))))) := x_495 _ _ f_468 (fun z => z)
  have f_512 : G_491 q_50 = some (35, .inr (7, [.ref a_64, .ref a_65, .int (nI 0)])) := x_495 _ _ f_469 (fun z => z)
  have f_513 : G_491 a_64 = some (36, .inl (cA 0, 12, .inl (fun _ => 0))) := x_495 _ _ f_470 (fun z => z)
  have f_514 : G_491 a_65 = some (37, .inl (cA 1, 12, .inr (.inl (fun _ => 0)))) := x_495 _ _ f_471 (fun z => z)
  have f_515 : G_491 q_87 = some (30, .inr (0, [.ref hd, .ref hc, .ref (ad 5), .ref (ad 6), .ref (ad 7), .ref (ad 8), .ref (ad 9), .ref (ad 10)])) := x_495 _ _ f_472 (fun z => z)
  have f_516 : G_491 hd = some (30, .inr (2, [.ref (ad 0), .ref (ad 1), .ref (ad 2)])) := x_495 _ _ f_473 (fun z => z)
  have f_517 : G_491 hc = some (19, .inr (1, [.ref hd, .ref (ad 3), .ref (ad 4), .long l_109, .long l_110, .long l_111, .long l_112])) := x_495 _ _ f_474 (fun z => z)
  have f_518 : G_491 q_137 = some (20, .inr (3, [.int (nI 0), .ref a_158, .ref b_159])) := x_495 _ _ f_475 (fun z => z)
  have f_519 : G_491 q_197 = some (21, .inr (3, [.int (nI 0), .ref a_221, .ref b_222])) := x_495 _ _ f_476 (fun z => z)
  have f_520 : G_491 q_266 = some (22, .inr (3, [.int (nI 0), .ref a_293, .ref b_294])) := x_495 _ _ f_477 (fun z => z)
  have f_521 : G_491 q_344 = some (23, .inr (3, [.int (nI 0), .ref a_374, .ref b_375])) := x_495 _ _ f_478 (fun z => z)
  have f_522 : G_491 h = some (31, .inr (8, [.ref q_1, .int (nI 0), .ref q_24, .int (nI 0), .ref q_50, .ref q_87, .ref q_137, .ref q_197, .ref q_266, .ref q_344, .ref r_434, .null, .null, .null])) := x_495 _ _ f_466 (fun z => z)
  have x_523 : gex (fun x => x = h) G G_491 := gex_tr x_479 x_495 (fun _ _ _ _ z => z)
  refine g_putF (ty := .object "MetreFractions$Fraction") hx hb hts hin_Mf ty_Mf ty_Mf_ok nm_Mf hown hK f_522 rfl 11 (by decide) (hts _ wm246) (fun _ h9 => h9) rfl hin rfl (by decide +kernel) rfl rfl (Nat.le_of_ble_eq_true rfl) d_Mf_init_130 (fun G_524 f_525 o_526 => ?_)
  have f_527 : G_524 h = some (31, .inr (8, [.ref q_1, .int (nI 0), .ref q_24, .int (nI 0), .ref q_50, .ref q_87, .ref q_137, .ref q_197, .ref q_266, .ref q_344, .ref r_434, .ref r_494, .null, .null])) := f_525
  have f_528 : G_524 q_1 = some (32, .inl (cA 2, 200, .inr (.inr (.inr (.inr (fun _ => none)))))) := (o_526 _ (gne f_510 f_522 (fun e => by cases e))).trans f_510
  have f_529 : G_524 q_24 = some (33, .inl (cA 3, 8, .inr (.inr (.inr (.inr (fun _ => none)))))) := (o_526 _ (gne f_511 f_522 (fun e => by cases e))).trans f_511
  have f_530 : G_524 q_50 = some (35, .inr (7, [.ref a_64, .ref a_65, .int (nI 0)])) := (o_526 _ (gne f_512 f_522 (fun e => by cases e))).trans f_512
  have f_531 : G_524 a_64 = some (36, .inl (cA 0, 12, .inl (fun _ => 0))) := (o_526 _ (gne f_513 f_522 (fun e => by cases e))).trans f_513
  have f_532 : G_524 a_65 = some (37, .inl (cA 1, 12, .inr (.inl (fun _ => 0)))) := (o_526 _ (gne f_514 f_522 (fun e => by cases e))).trans f_514
  have f_533 : G_524 q_87 = some (30, .inr (0, [.ref hd, .ref hc, .ref (ad 5), .ref (ad 6), .ref (ad 7), .ref (ad 8), .ref (ad 9), .ref (ad 10)])) := (o_526 _ (gne f_515 f_522 (fun e => by cases e))).trans f_515
  have f_534 : G_524 hd = some (30, .inr (2, [.ref (ad 0), .ref (ad 1), .ref (ad 2)])) := (o_526 _ (gne f_516 f_522 (fun e => by cases e))).trans f_516
  have f_535 : G_524 hc = some (19, .inr (1, [.ref hd, .ref (ad 3), .ref (ad 4), .long l_109, .long l_110, .long l_111, .long l_112])) := (o_526 _ (gne f_517 f_522 (fun e => by cases e))).trans f_517
  have f_536 : G_524 q_137 = some (20, .inr (3, [.int (nI 0), .ref a_158, .ref b_159])) := (o_526 _ (gne f_518 f_522 (fun e => by cases e))).trans f_518
  have f_537 : G_524 q_197 = some (21, .inr (3, [.int (nI 0), .ref a_221, .ref b_222])) := (o_526 _ (gne f_519 f_522 (fun e => by cases e))).trans f_519
  have f_538 : G_524 q_266 = some (22, .inr (3, [.int (nI 0), .ref a_293, .ref b_294])) := (o_526 _ (gne f_520 f_522 (fun e => by cases e))).trans f_520
  have f_539 : G_524 q_344 = some (23, .inr (3, [.int (nI 0), .ref a_374, .ref b_375])) := (o_526 _ (gne f_521 f_522 (fun e => by cases e))).trans f_521
  have x_540 : gex (fun x => x = h) G G_524 := gex_put x_523 o_526 (Or.inl rfl)
  have fr_541 : gfr (fun y => y = 31) G_491 G_524 := gfr_put gfr_rf f_522 rfl o_526
  have n_542 : isN cA G_524 24 11 a_158 0 := isN_fr n_500 fr_541 (show ¬ (11 : Nat) = 31 by decide)
  have n_543 : isN cA G_524 24 12 b_159 0 := isN_fr n_501 fr_541 (show ¬ (12 : Nat) = 31 by decide)
  have n_544 : isN cA G_524 24 13 a_221 0 := isN_fr n_502 fr_541 (show ¬ (13 : Nat) = 31 by decide)
  have n_545 : isN cA G_524 24 14 b_222 0 := isN_fr n_503 fr_541 (show ¬ (14 : Nat) = 31 by decide)
  have n_546 : isN cA G_524 24 15 a_293 0 := isN_fr n_504 fr_541 (show ¬ (15 : Nat) = 31 by decide)
  have n_547 : isN cA G_524 24 16 b_294 0 := isN_fr n_505 fr_541 (show ¬ (16 : Nat) = 31 by decide)
  have n_548 : isN cA G_524 24 17 a_374 0 := isN_fr n_506 fr_541 (show ¬ (17 : Nat) = 31 by decide)
  have n_549 : isN cA G_524 24 18 b_375 0 := isN_fr n_507 fr_541 (show ¬ (18 : Nat) = 31 by decide)
  have n_550 : ∀ t9, t9 < 11 → isN cA G_524 24 t9 (ad t9) 0 := fun t9 h9 => isN_fr (n_508 t9 h9) fr_541 (show ¬ t9 = 31 by omega)
  have n_551 : rf cA G_524 (fun x => x = 30) r_434 ((0 : Nat) : Int) 1 := rf_fr n_509 fr_541 (fun t9 h9 => by have h9 : t9 = 30 := h9; show ¬ t9 = 31; omega)
  have n_552 : rf cA G_524 (fun x => x = 30) r_494 ((4 : Nat) : Int) 1 := rf_fr n_496 fr_541 (fun t9 h9 => by have h9 : t9 = 30 := h9; show ¬ t9 = 31; omega)
  refine gs (pc' := 134) (fun _ _ _ _ _ hl => lv_aload_n hx hb d_Mf_init_133 rfl (lv_at hl 0 rfl)) ?_
  refine gs (pc' := 135) (fun _ _ _ _ _ hl => lv_iconst (v := nI 1) hx hb d_Mf_init_134 (by decide)) ?_
  refine gs (pc' := 136) (fun _ _ _ _ _ hl => lv_iconst (v := nI 2) hx hb d_Mf_init_135 (by decide)) ?_
  refine g_outr hlo (g_runS (As := [.int (nI 1), .int (nI 2)]) (rest := [.ref h]) ⟨hx, hb, hml, hown, hts⟩ hK hZ hRc hRs (c_Fr_olt l D cA lo MC MS G_524 B_492 1 2 (by decide) (by decide) (show B_492.1 + 5 ≤ MC by omega) (show B_492.2 + 13 ≤ MS by omega) (show B_492.1 ≤ MC by omega) (show B_492.2 ≤ MS by omega)) (fun _ _ => va_cwS 2 hts (tb_good (tb_cons wm179 (tb_cons wm180 (tb_cons wm8 k_Fr_ofLowestTerms)))) rfl rfl rfl (by decide +kernel) ⟨by rw [hRf]; exact Nat.le_of_ble_eq_true rfl, by rw [hRl]; exact Nat.le_of_ble_eq_true rfl⟩) (show B_492.1 ≤ MC by omega) (show B_492.2 ≤ MS by omega) rfl (Nat.le_of_ble_eq_true rfl) d_Mf_init_136) (fun r_556 G_553 B_554 p_555 => ?_)
  obtain ⟨x_557, n_558, b_559, b_560⟩ := p_555
  have b_559 : B_554.1 ≤ B_492.1 + 5 := b_559
  have b_560 : B_554.2 ≤ B_492.2 + 13 := b_560
  have fr_561 : gfr (fun y => y = 1000) G_524 G_553 := fun a9 y9 h9 _ => x_557 a9 y9 h9 (fun z => z)
  have n_562 : isN cA G_553 24 11 a_158 0 := isN_fr n_542 fr_561 (show ¬ (11 : Nat) = 1000 by decide)
  have n_563 : isN cA G_553 24 12 b_159 0 := isN_fr n_543 fr_561 (show ¬ (12 : Nat) = 1000 by decide)
  have n_564 : isN cA G_553 24 13 a_221 0 := isN_fr n_544 fr_561 (show ¬ (13 : Nat) = 1000 by decide)
  have n_565 : isN cA G_553 24 14 b_222 0 := isN_fr n_545 fr_561 (show ¬ (14 : Nat) = 1000 by decide)
  have n_566 : isN cA G_553 24 15 a_293 0 := isN_fr n_546 fr_561 (show ¬ (15 : Nat) = 1000 by decide)
  have n_567 : isN cA G_553 24 16 b_294 0 := isN_fr n_547 fr_561 (show ¬ (16 : Nat) = 1000 by decide)
  have n_568 : isN cA G_553 24 17 a_374 0 := isN_fr n_548 fr_561 (show ¬ (17 : Nat) = 1000 by decide)
  have n_569 : isN cA G_553 24 18 b_375 0 := isN_fr n_549 fr_561 (show ¬ (18 : Nat) = 1000 by decide)
  have n_570 : ∀ t9, t9 < 11 → isN cA G_553 24 t9 (ad t9) 0 := fun t9 h9 => isN_fr (n_550 t9 h9) fr_561 (show ¬ t9 = 1000 by omega)
  have n_571 : rf cA G_553 (fun x => x = 30) r_434 ((0 : Nat) : Int) 1 := rf_fr n_551 fr_561 (fun t9 h9 => by have h9 : t9 = 30 := h9; show ¬ t9 = 1000; omega)
  have n_572 : rf cA G_553 (fun x => x = 30) r_494 ((4 : Nat) : Int) 1 := rf_fr n_552 fr_561 (fun t9 h9 => by have h9 : t9 = 30 := h9; show ¬ t9 = 1000; omega)
  have f_573 : G_553 q_1 = some (32, .inl (cA 2, 200, .inr (.inr (.inr (.inr (fun _ => none)))))) := x_557 _ _ f_528 (fun z => z)
  have f_574 : G_553 q_24 = some (33, .inl (cA 3, 8, .inr (.inr (.inr (.inr (fun _ => none)))))) := x_557 _ _ f_529 (fun z => z)
  have f_575 : G_553 q_50 = some (35, .inr (7, [.ref a_64, .ref a_65, .int (nI 0)])) := x_557 _ _ f_530 (fun z => z)
  have f_576 : G_553 a_64 = some (36, .inl (cA 0, 12, .inl (fun _ => 0))) := x_557 _ _ f_531 (fun z => z)
  have f_577 : G_553 a_65 = some (37, .inl (cA 1, 12, .inr (.inl (fun _ => 0)))) := x_557 _ _ f_532 (fun z => z)
  have f_578 : G_553 q_87 = some (30, .inr (0, [.ref hd, .ref hc, .ref (ad 5), .ref (ad 6), .ref (ad 7), .ref (ad 8), .ref (ad 9), .ref (ad 10)])) := x_557 _ _ f_533 (fun z => z)
  have f_579 : G_553 hd = some (30, .inr (2, [.ref (ad 0), .ref (ad 1), .ref (ad 2)])) := x_557 _ _ f_534 (fun z => z)
  have f_580 : G_553 hc = some (19, .inr (1, [.ref hd, .ref (ad 3), .ref (ad 4), .long l_109, .long l_110, .long l_111, .long l_112])) := x_557 _ _ f_535 (fun z => z)
  have f_581 : G_553 q_137 = some (20, .inr (3, [.int (nI 0), .ref a_158, .ref b_159])) := x_557 _ _ f_536 (fun z => z)
  have f_582 : G_553 q_197 = some (21, .inr (3, [.int (nI 0), .ref a_221, .ref b_222])) := x_557 _ _ f_537 (fun z => z)
  have f_583 : G_553 q_266 = some (22, .inr (3, [.int (nI 0), .ref a_293, .ref b_294])) := x_557 _ _ f_538 (fun z => z)
  have f_584 : G_553 q_344 = some (23, .inr (3, [.int (nI 0), .ref a_374, .ref b_375])) := x_557 _ _ f_539 (fun z => z)
  have f_585 : G_553 h = some (31, .inr (8, [.ref q_1, .int (nI 0), .ref q_24, .int (nI 0), .ref q_50, .ref q_87, .ref q_137, .ref q_197, .ref q_266, .ref q_344, .ref r_434, .ref r_494, .null, .null])) := x_557 _ _ f_527 (fun z => z)
  have x_586 : gex (fun x => x = h) G G_553 := gex_tr x_540 x_557 (fun _ _ _ _ z => z)
  refine g_putF (ty := .object "MetreFractions$Fraction") hx hb hts hin_Mf ty_Mf ty_Mf_ok nm_Mf hown hK f_585 rfl 12 (by decide) (hts _ wm247) (fun _ h9 => h9) rfl hin rfl (by decide +kernel) rfl rfl (Nat.le_of_ble_eq_true rfl) d_Mf_init_139 (fun G_587 f_588 o_589 => ?_)
  have f_590 : G_587 h = some (31, .inr (8, [.ref q_1, .int (nI 0), .ref q_24, .int (nI 0), .ref q_50, .ref q_87, .ref q_137, .ref q_197, .ref q_266, .ref q_344, .ref r_434, .ref r_494, .ref r_556, .null])) := f_588
  have f_591 : G_587 q_1 = some (32, .inl (cA 2, 200, .inr (.inr (.inr (.inr (fun _ => none)))))) := (o_589 _ (gne f_573 f_585 (fun e => by cases e))).trans f_573
  have f_592 : G_587 q_24 = some (33, .inl (cA 3, 8, .inr (.inr (.inr (.inr (fun _ => none)))))) := (o_589 _ (gne f_574 f_585 (fun e => by cases e))).trans f_574
  have f_593 : G_587 q_50 = some (35, .inr (7, [.ref a_64, .ref a_65, .int (nI 0)])) := (o_589 _ (gne f_575 f_585 (fun e => by cases e))).trans f_575
  have f_594 : G_587 a_64 = some (36, .inl (cA 0, 12, .inl (fun _ => 0))) := (o_589 _ (gne f_576 f_585 (fun e => by cases e))).trans f_576
  have f_595 : G_587 a_65 = some (37, .inl (cA 1, 12, .inr (.inl (fun _ => 0)))) := (o_589 _ (gne f_577 f_585 (fun e => by cases e))).trans f_577
  have f_596 : G_587 q_87 = some (30, .inr (0, [.ref hd, .ref hc, .ref (ad 5), .ref (ad 6), .ref (ad 7), .ref (ad 8), .ref (ad 9), .ref (ad 10)])) := (o_589 _ (gne f_578 f_585 (fun e => by cases e))).trans f_578
  have f_597 : G_587 hd = some (30, .inr (2, [.ref (ad 0), .ref (ad 1), .ref (ad 2)])) := (o_589 _ (gne f_579 f_585 (fun e => by cases e))).trans f_579
  have f_598 : G_587 hc = some (19, .inr (1, [.ref hd, .ref (ad 3), .ref (ad 4), .long l_109, .long l_110, .long l_111, .long l_112])) := (o_589 _ (gne f_580 f_585 (fun e => by cases e))).trans f_580
  have f_599 : G_587 q_137 = some (20, .inr (3, [.int (nI 0), .ref a_158, .ref b_159])) := (o_589 _ (gne f_581 f_585 (fun e => by cases e))).trans f_581
  have f_600 : G_587 q_197 = some (21, .inr (3, [.int (nI 0), .ref a_221, .ref b_222])) := (o_589 _ (gne f_582 f_585 (fun e => by cases e))).trans f_582
  have f_601 : G_587 q_266 = some (22, .inr (3, [.int (nI 0), .ref a_293, .ref b_294])) := (o_589 _ (gne f_583 f_585 (fun e => by cases e))).trans f_583
  have f_602 : G_587 q_344 = some (23, .inr (3, [.int (nI 0), .ref a_374, .ref b_375])) := (o_589 _ (gne f_584 f_585 (fun e => by cases e))).trans f_584
  have x_603 : gex (fun x => x = h) G G_587 := gex_put x_586 o_589 (Or.inl rfl)
  have fr_604 : gfr (fun y => y = 31) G_553 G_587 := gfr_put gfr_rf f_585 rfl o_589
  have n_605 : isN cA G_587 24 11 a_158 0 := isN_fr n_562 fr_604 (show ¬ (11 : Nat) = 31 by decide)
  have n_606 : isN cA G_587 24 12 b_159 0 := isN_fr n_563 fr_604 (show ¬ (12 : Nat) = 31 by decide)
  have n_607 : isN cA G_587 24 13 a_221 0 := isN_fr n_564 fr_604 (show ¬ (13 : Nat) = 31 by decide)
  have n_608 : isN cA G_587 24 14 b_222 0 := isN_fr n_565 fr_604 (show ¬ (14 : Nat) = 31 by decide)
  have n_609 : isN cA G_587 24 15 a_293 0 := isN_fr n_566 fr_604 (show ¬ (15 : Nat) = 31 by decide)
  have n_610 : isN cA G_587 24 16 b_294 0 := isN_fr n_567 fr_604 (show ¬ (16 : Nat) = 31 by decide)
  have n_611 : isN cA G_587 24 17 a_374 0 := isN_fr n_568 fr_604 (show ¬ (17 : Nat) = 31 by decide)
  have n_612 : isN cA G_587 24 18 b_375 0 := isN_fr n_569 fr_604 (show ¬ (18 : Nat) = 31 by decide)
  have n_613 : ∀ t9, t9 < 11 → isN cA G_587 24 t9 (ad t9) 0 := fun t9 h9 => isN_fr (n_570 t9 h9) fr_604 (show ¬ t9 = 31 by omega)
  have n_614 : rf cA G_587 (fun x => x = 30) r_434 ((0 : Nat) : Int) 1 := rf_fr n_571 fr_604 (fun t9 h9 => by have h9 : t9 = 30 := h9; show ¬ t9 = 31; omega)
  have n_615 : rf cA G_587 (fun x => x = 30) r_494 ((4 : Nat) : Int) 1 := rf_fr n_572 fr_604 (fun t9 h9 => by have h9 : t9 = 30 := h9; show ¬ t9 = 31; omega)
  have n_616 : rf cA G_587 (fun x => x = 30) r_556 ((1 : Nat) : Int) 2 := rf_fr n_558 fr_604 (fun t9 h9 => by have h9 : t9 = 30 := h9; show ¬ t9 = 31; omega)
  refine gs (pc' := 143) (fun _ _ _ _ _ hl => lv_aload_n hx hb d_Mf_init_142 rfl (lv_at hl 0 rfl)) ?_
  refine gs (pc' := 144) (fun _ _ _ _ _ hl => lv_iconst (v := nI 1) hx hb d_Mf_init_143 (by decide)) ?_
  refine gs (pc' := 146) (fun _ _ _ _ _ hl => lv_bipush (v := nI 6) hx hb d_Mf_init_144 (by decide)) ?_
  refine g_outr hlo (g_runS (As := [.int (nI 1), .int (nI 6)]) (rest := [.ref h]) ⟨hx, hb, hml, hown, hts⟩ hK hZ hRc hRs (c_Fr_olt l D cA lo MC MS G_587 B_554 1 6 (by decide) (by decide) (show B_554.1 + 5 ≤ MC by omega) (show B_554.2 + 13 ≤ MS by omega) (show B_554.1 ≤ MC by omega) (show B_554.2 ≤ MS by omega)) (fun _ _ => va_cwS 2 hts (tb_good (tb_cons wm179 (tb_cons wm180 (tb_cons wm8 k_Fr_ofLowestTerms)))) rfl rfl rfl (by decide +kernel) ⟨by rw [hRf]; exact Nat.le_of_ble_eq_true rfl, by rw [hRl]; exact Nat.le_of_ble_eq_true rfl⟩) (show B_554.1 ≤ MC by omega) (show B_554.2 ≤ MS by omega) rfl (Nat.le_of_ble_eq_true rfl) d_Mf_init_146) (fun r_620 G_617 B_618 p_619 => ?_)
  obtain ⟨x_621, n_622, b_623, b_624⟩ := p_619
  have b_623 : B_618.1 ≤ B_554.1 + 5 := b_623
  have b_624 : B_618.2 ≤ B_554.2 + 13 := b_624
  have fr_625 : gfr (fun y => y = 1000) G_587 G_617 := fun a9 y9 h9 _ => x_621 a9 y9 h9 (fun z => z)
  have n_626 : isN cA G_617 24 11 a_158 0 := isN_fr n_605 fr_625 (show ¬ (11 : Nat) = 1000 by decide)
  have n_627 : isN cA G_617 24 12 b_159 0 := isN_fr n_606 fr_625 (show ¬ (12 : Nat) = 1000 by decide)
  have n_628 : isN cA G_617 24 13 a_221 0 := isN_fr n_607 fr_625 (show ¬ (13 : Nat) = 1000 by decide)
  have n_629 : isN cA G_617 24 14 b_222 0 := isN_fr n_608 fr_625 (show ¬ (14 : Nat) = 1000 by decide)
  have n_630 : isN cA G_617 24 15 a_293 0 := isN_fr n_609 fr_625 (show ¬ (15 : Nat) = 1000 by decide)
  have n_631 : isN cA G_617 24 16 b_294 0 := isN_fr n_610 fr_625 (show ¬ (16 : Nat) = 1000 by decide)
  have n_632 : isN cA G_617 24 17 a_374 0 := isN_fr n_611 fr_625 (show ¬ (17 : Nat) = 1000 by decide)
  have n_633 : isN cA G_617 24 18 b_375 0 := isN_fr n_612 fr_625 (show ¬ (18 : Nat) = 1000 by decide)
  have n_634 : ∀ t9, t9 < 11 → isN cA G_617 24 t9 (ad t9) 0 := fun t9 h9 => isN_fr (n_613 t9 h9) fr_625 (show ¬ t9 = 1000 by omega)
  have n_635 : rf cA G_617 (fun x => x = 30) r_434 ((0 : Nat) : Int) 1 := rf_fr n_614 fr_625 (fun t9 h9 => by have h9 : t9 = 30 := h9; show ¬ t9 = 1000; omega)
  have n_636 : rf cA G_617 (fun x => x = 30) r_494 ((4 : Nat) : Int) 1 := rf_fr n_615 fr_625 (fun t9 h9 => by have h9 : t9 = 30 := h9; show ¬ t9 = 1000; omega)
  have n_637 : rf cA G_617 (fun x => x = 30) r_556 ((1 : Nat) : Int) 2 := rf_fr n_616 fr_625 (fun t9 h9 => by have h9 : t9 = 30 := h9; show ¬ t9 = 1000; omega)
  have f_638 : G_617 q_1 = some (32, .inl (cA 2, 200, .inr (.inr (.inr (.inr (fun _ => none)))))) := x_621 _ _ f_591 (fun z => z)
  have f_639 : G_617 q_24 = some (33, .inl (cA 3, 8, .inr (.inr (.inr (.inr (fun _ => none)))))) := x_621 _ _ f_592 (fun z => z)
  have f_640 : G_617 q_50 = some (35, .inr (7, [.ref a_64, .ref a_65, .int (nI 0)])) := x_621 _ _ f_593 (fun z => z)
  have f_641 : G_617 a_64 = some (36, .inl (cA 0, 12, .inl (fun _ => 0))) := x_621 _ _ f_594 (fun z => z)
  have f_642 : G_617 a_65 = some (37, .inl (cA 1, 12, .inr (.inl (fun _ => 0)))) := x_621 _ _ f_595 (fun z => z)
  have f_643 : G_617 q_87 = some (30, .inr (0, [.ref hd, .ref hc, .ref (ad 5), .ref (ad 6), .ref (ad 7), .ref (ad 8), .ref (ad 9), .ref (ad 10)])) := x_621 _ _ f_596 (fun z => z)
  have f_644 : G_617 hd = some (30, .inr (2, [.ref (ad 0), .ref (ad 1), .ref (ad 2)])) := x_621 _ _ f_597 (fun z => z)
  have f_645 : G_617 hc = some (19, .inr (1, [.ref hd, .ref (ad 3), .ref (ad 4), .long l_109, .long l_110, .long l_111, .long l_112])) := x_621 _ _ f_598 (fun z => z)
  have f_646 : G_617 q_137 = some (20, .inr (3, [.int (nI 0), .ref a_158, .ref b_159])) := x_621 _ _ f_599 (fun z => z)
  have f_647 : G_617 q_197 = some (21, .inr (3, [.int (nI 0), .ref a_221, .ref b_222])) := x_621 _ _ f_600 (fun z => z)
  have f_648 : G_617 q_266 = some (22, .inr (3, [.int (nI 0), .ref a_293, .ref b_294])) := x_621 _ _ f_601 (fun z => z)
  have f_649 : G_617 q_344 = some (23, .inr (3, [.int (nI 0), .ref a_374, .ref b_375])) := x_621 _ _ f_602 (fun z => z)
  have f_650 : G_617 h = some (31, .inr (8, [.ref q_1, .int (nI 0), .ref q_24, .int (nI 0), .ref q_50, .ref q_87, .ref q_137, .ref q_197, .ref q_266, .ref q_344, .ref r_434, .ref r_494, .ref r_556, .null])) := x_621 _ _ f_590 (fun z => z)
  have x_651 : gex (fun x => x = h) G G_617 := gex_tr x_603 x_621 (fun _ _ _ _ z => z)
  refine g_putF (ty := .object "MetreFractions$Fraction") hx hb hts hin_Mf ty_Mf ty_Mf_ok nm_Mf hown hK f_650 rfl 13 (by decide) (hts _ wm248) (fun _ h9 => h9) rfl hin rfl (by decide +kernel) rfl rfl (Nat.le_of_ble_eq_true rfl) d_Mf_init_149 (fun G_652 f_653 o_654 => ?_)
  have f_655 : G_652 h = some (31, .inr (8, [.ref q_1, .int (nI 0), .ref q_24, .int (nI 0), .ref q_50, .ref q_87, .ref q_137, .ref q_197, .ref q_266, .ref q_344, .ref r_434, .ref r_494, .ref r_556, .ref r_620])) := f_653
  have f_656 : G_652 q_1 = some (32, .inl (cA 2, 200, .inr (.inr (.inr (.inr (fun _ => none)))))) := (o_654 _ (gne f_638 f_650 (fun e => by cases e))).trans f_638
  have f_657 : G_652 q_24 = some (33, .inl (cA 3, 8, .inr (.inr (.inr (.inr (fun _ => none)))))) := (o_654 _ (gne f_639 f_650 (fun e => by cases e))).trans f_639
  have f_658 : G_652 q_50 = some (35, .inr (7, [.ref a_64, .ref a_65, .int (nI 0)])) := (o_654 _ (gne f_640 f_650 (fun e => by cases e))).trans f_640
  have f_659 : G_652 a_64 = some (36, .inl (cA 0, 12, .inl (fun _ => 0))) := (o_654 _ (gne f_641 f_650 (fun e => by cases e))).trans f_641
  have f_660 : G_652 a_65 = some (37, .inl (cA 1, 12, .inr (.inl (fun _ => 0)))) := (o_654 _ (gne f_642 f_650 (fun e => by cases e))).trans f_642
  have f_661 : G_652 q_87 = some (30, .inr (0, [.ref hd, .ref hc, .ref (ad 5), .ref (ad 6), .ref (ad 7), .ref (ad 8), .ref (ad 9), .ref (ad 10)])) := (o_654 _ (gne f_643 f_650 (fun e => by cases e))).trans f_643
  have f_662 : G_652 hd = some (30, .inr (2, [.ref (ad 0), .ref (ad 1), .ref (ad 2)])) := (o_654 _ (gne f_644 f_650 (fun e => by cases e))).trans f_644
  have f_663 : G_652 hc = some (19, .inr (1, [.ref hd, .ref (ad 3), .ref (ad 4), .long l_109, .long l_110, .long l_111, .long l_112])) := (o_654 _ (gne f_645 f_650 (fun e => by cases e))).trans f_645
  have f_664 : G_652 q_137 = some (20, .inr (3, [.int (nI 0), .ref a_158, .ref b_159])) := (o_654 _ (gne f_646 f_650 (fun e => by cases e))).trans f_646
  have f_665 : G_652 q_197 = some (21, .inr (3, [.int (nI 0), .ref a_221, .ref b_222])) := (o_654 _ (gne f_647 f_650 (fun e => by cases e))).trans f_647
  have f_666 : G_652 q_266 = some (22, .inr (3, [.int (nI 0), .ref a_293, .ref b_294])) := (o_654 _ (gne f_648 f_650 (fun e => by cases e))).trans f_648
  have f_667 : G_652 q_344 = some (23, .inr (3, [.int (nI 0), .ref a_374, .ref b_375])) := (o_654 _ (gne f_649 f_650 (fun e => by cases e))).trans f_649
  have x_668 : gex (fun x => x = h) G G_652 := gex_put x_651 o_654 (Or.inl rfl)
  have fr_669 : gfr (fun y => y = 31) G_617 G_652 := gfr_put gfr_rf f_650 rfl o_654
  have n_670 : isN cA G_652 24 11 a_158 0 := isN_fr n_626 fr_669 (show ¬ (11 : Nat) = 31 by decide)
  have n_671 : isN cA G_652 24 12 b_159 0 := isN_fr n_627 fr_669 (show ¬ (12 : Nat) = 31 by decide)
  have n_672 : isN cA G_652 24 13 a_221 0 := isN_fr n_628 fr_669 (show ¬ (13 : Nat) = 31 by decide)
  have n_673 : isN cA G_652 24 14 b_222 0 := isN_fr n_629 fr_669 (show ¬ (14 : Nat) = 31 by decide)
  have n_674 : isN cA G_652 24 15 a_293 0 := isN_fr n_630 fr_669 (show ¬ (15 : Nat) = 31 by decide)
  have n_675 : isN cA G_652 24 16 b_294 0 := isN_fr n_631 fr_669 (show ¬ (16 : Nat) = 31 by decide)
  have n_676 : isN cA G_652 24 17 a_374 0 := isN_fr n_632 fr_669 (show ¬ (17 : Nat) = 31 by decide)
  have n_677 : isN cA G_652 24 18 b_375 0 := isN_fr n_633 fr_669 (show ¬ (18 : Nat) = 31 by decide)
  have n_678 : ∀ t9, t9 < 11 → isN cA G_652 24 t9 (ad t9) 0 := fun t9 h9 => isN_fr (n_634 t9 h9) fr_669 (show ¬ t9 = 31 by omega)
  have n_679 : rf cA G_652 (fun x => x = 30) r_434 ((0 : Nat) : Int) 1 := rf_fr n_635 fr_669 (fun t9 h9 => by have h9 : t9 = 30 := h9; show ¬ t9 = 31; omega)
  have n_680 : rf cA G_652 (fun x => x = 30) r_494 ((4 : Nat) : Int) 1 := rf_fr n_636 fr_669 (fun t9 h9 => by have h9 : t9 = 30 := h9; show ¬ t9 = 31; omega)
  have n_681 : rf cA G_652 (fun x => x = 30) r_556 ((1 : Nat) : Int) 2 := rf_fr n_637 fr_669 (fun t9 h9 => by have h9 : t9 = 30 := h9; show ¬ t9 = 31; omega)
  have n_682 : rf cA G_652 (fun x => x = 30) r_620 ((1 : Nat) : Int) 6 := rf_fr n_622 fr_669 (fun t9 h9 => by have h9 : t9 = 30 := h9; show ¬ t9 = 31; omega)
  refine gs (pc' := 153) (fun _ _ _ _ _ hl => lv_iconst (v := nI 0) hx hb d_Mf_init_152 (by decide)) ?_
  refine gst (pc' := 154) (L' := [(1, .int (nI 0)), (0, .ref h)]) (fun _ _ _ _ _ hl => lv_istore_n hx hb d_Mf_init_153 rfl hl (by decide) rfl) ?_
  refine gs (pc' := 155) (fun _ _ _ _ _ hl => lv_iload_n hx hb d_Mf_init_154 rfl (lv_at hl 0 rfl)) ?_
  refine gs (pc' := 157) (fun _ _ _ _ _ hl => lv_bipush (v := nI 8) hx hb d_Mf_init_155 (by decide)) ?_
  refine gsb (pc1 := 179) (pc2 := 160) (fun _ _ _ _ _ => lv_icmp_ge (tgt := 179) hx hb d_Mf_init_157 (by decide)) (fun c_683 => ?_) (fun c_683 => ?_)
  · skip
    have nc_683 : 0 ≥ 8 := (nn_ge (a := 0) (b := 8) (by omega) (by omega)).1 c_683
    exact absurd nc_683 (by decide)
  · skip
    have nc_683 : 0 < 8 := (nn_ge (a := 0) (b := 8) (by omega) (by omega)).2 c_683
    refine gs (pc' := 161) (fun _ _ _ _ _ hl => lv_aload_n hx hb d_Mf_init_160 rfl (lv_at hl 1 rfl)) ?_
    refine g_get hx hb hts hin_Mf hown hK f_655 rfl 2 (by decide) (hts _ wm237) (fun _ h9 => h9) rfl d_Mf_init_161 ?_
    refine gs (pc' := 165) (fun _ _ _ _ _ hl => lv_iload_n hx hb d_Mf_init_164 rfl (lv_at hl 0 rfl)) ?_
    refine g_new hx hb hts hin_Ro ty_Ro ty_Ro_ok hown (hts _ wm30) (hts _ wm216) (hts _ wm11) hK (ci := 5) rfl (fs := [.null, .null, .int (nI 0)]) (fun j => match j with | 0 => fun _ => rfl | 1 => fun _ => rfl | 2 => fun _ => rfl | n + 3 => fun h9 => absurd h9 (by omega)) hlo hRc hRs (show B_618.1 + 1 ≤ MC by omega) (show B_618.2 + 3 ≤ MS by omega) d_Mf_init_165 40 (fun q_684 G_685 z_686 f_687 o_688 => ?_)
    have fr_689 : gfr (fun y => y = 1000) G_652 G_685 := gfr_new gfr_rf z_686 o_688
    have n_690 : isN cA G_685 24 11 a_158 0 := isN_fr n_670 fr_689 (show ¬ (11 : Nat) = 1000 by decide)
    have n_691 : isN cA G_685 24 12 b_159 0 := isN_fr n_671 fr_689 (show ¬ (12 : Nat) = 1000 by decide)
    have n_692 : isN cA G_685 24 13 a_221 0 := isN_fr n_672 fr_689 (show ¬ (13 : Nat) = 1000 by decide)
    have n_693 : isN cA G_685 24 14 b_222 0 := isN_fr n_673 fr_689 (show ¬ (14 : Nat) = 1000 by decide)
    have n_694 : isN cA G_685 24 15 a_293 0 := isN_fr n_674 fr_689 (show ¬ (15 : Nat) = 1000 by decide)
    have n_695 : isN cA G_685 24 16 b_294 0 := isN_fr n_675 fr_689 (show ¬ (16 : Nat) = 1000 by decide)
    have n_696 : isN cA G_685 24 17 a_374 0 := isN_fr n_676 fr_689 (show ¬ (17 : Nat) = 1000 by decide)
    have n_697 : isN cA G_685 24 18 b_375 0 := isN_fr n_677 fr_689 (show ¬ (18 : Nat) = 1000 by decide)
    have n_698 : ∀ t9, t9 < 11 → isN cA G_685 24 t9 (ad t9) 0 := fun t9 h9 => isN_fr (n_678 t9 h9) fr_689 (show ¬ t9 = 1000 by omega)
    have n_699 : rf cA G_685 (fun x => x = 30) r_434 ((0 : Nat) : Int) 1 := rf_fr n_679 fr_689 (fun t9 h9 => by have h9 : t9 = 30 := h9; show ¬ t9 = 1000; omega)
    have n_700 : rf cA G_685 (fun x => x = 30) r_494 ((4 : Nat) : Int) 1 := rf_fr n_680 fr_689 (fun t9 h9 => by have h9 : t9 = 30 := h9; show ¬ t9 = 1000; omega)
    have n_701 : rf cA G_685 (fun x => x = 30) r_556 ((1 : Nat) : Int) 2 := rf_fr n_681 fr_689 (fun t9 h9 => by have h9 : t9 = 30 := h9; show ¬ t9 = 1000; omega)
    have n_702 : rf cA G_685 (fun x => x = 30) r_620 ((1 : Nat) : Int) 6 := rf_fr n_682 fr_689 (fun t9 h9 => by have h9 : t9 = 30 := h9; show ¬ t9 = 1000; omega)
    have f_703 : G_685 q_1 = some (32, .inl (cA 2, 200, .inr (.inr (.inr (.inr (fun _ => none)))))) := (o_688 _ (fun e => by subst e; rw [f_656] at z_686; cases z_686)).trans f_656
    have f_704 : G_685 q_24 = some (33, .inl (cA 3, 8, .inr (.inr (.inr (.inr (fun _ => none)))))) := (o_688 _ (fun e => by subst e; rw [f_657] at z_686; cases z_686)).trans f_657
    have f_705 : G_685 q_50 = some (35, .inr (7, [.ref a_64, .ref a_65, .int (nI 0)])) := (o_688 _ (fun e => by subst e; rw [f_658] at z_686; cases z_686)).trans f_658
    have f_706 : G_685 a_64 = some (36, .inl (cA 0, 12, .inl (fun _ => 0))) := (o_688 _ (fun e => by subst e; rw [f_659] at z_686; cases z_686)).trans f_659
    have f_707 : G_685 a_65 = some (37, .inl (cA 1, 12, .inr (.inl (fun _ => 0)))) := (o_688 _ (fun e => by subst e; rw [f_660] at z_686; cases z_686)).trans f_660
    have f_708 : G_685 q_87 = some (30, .inr (0, [.ref hd, .ref hc, .ref (ad 5), .ref (ad 6), .ref (ad 7), .ref (ad 8), .ref (ad 9), .ref (ad 10)])) := (o_688 _ (fun e => by subst e; rw [f_661] at z_686; cases z_686)).trans f_661
    have f_709 : G_685 hd = some (30, .inr (2, [.ref (ad 0), .ref (ad 1), .ref (ad 2)])) := (o_688 _ (fun e => by subst e; rw [f_662] at z_686; cases z_686)).trans f_662
    have f_710 : G_685 hc = some (19, .inr (1, [.ref hd, .ref (ad 3), .ref (ad 4), .long l_109, .long l_110, .long l_111, .long l_112])) := (o_688 _ (fun e => by subst e; rw [f_663] at z_686; cases z_686)).trans f_663
    have f_711 : G_685 q_137 = some (20, .inr (3, [.int (nI 0), .ref a_158, .ref b_159])) := (o_688 _ (fun e => by subst e; rw [f_664] at z_686; cases z_686)).trans f_664
    have f_712 : G_685 q_197 = some (21, .inr (3, [.int (nI 0), .ref a_221, .ref b_222])) := (o_688 _ (fun e => by subst e; rw [f_665] at z_686; cases z_686)).trans f_665
    have f_713 : G_685 q_266 = some (22, .inr (3, [.int (nI 0), .ref a_293, .ref b_294])) := (o_688 _ (fun e => by subst e; rw [f_666] at z_686; cases z_686)).trans f_666
    have f_714 : G_685 q_344 = some (23, .inr (3, [.int (nI 0), .ref a_374, .ref b_375])) := (o_688 _ (fun e => by subst e; rw [f_667] at z_686; cases z_686)).trans f_667
    have f_715 : G_685 h = some (31, .inr (8, [.ref q_1, .int (nI 0), .ref q_24, .int (nI 0), .ref q_50, .ref q_87, .ref q_137, .ref q_197, .ref q_266, .ref q_344, .ref r_434, .ref r_494, .ref r_556, .ref r_620])) := (o_688 _ (fun e => by subst e; rw [f_655] at z_686; cases z_686)).trans f_655
    have z_716 : G q_684 = none := gex_0 x_668 z_686 (fun z => by have z := z.symm; subst z; rw [f_655] at z_686; cases z_686)
    have x_717 : gex (fun x => x = h) G G_685 := gex_new x_668 z_686 o_688
    refine g_Beq (B' := (B_618.1 + 1, B_618.2 + 3)) rfl ?_
    refine gs (pc' := 169) (fun _ _ _ _ _ hl => lv_dup hx hb d_Mf_init_168 rfl) ?_
    obtain ⟨⟨hN1, hN2, hN3, hN4, -, -, -⟩, -⟩ := id hZ
    refine g_outv hlo (g_runIN (b := q_684) (As := []) (rest := [.ref q_684, .int (nI 0), .ref q_24]) ⟨hx, hb, hml, hown, hts⟩ hK hZ hRc hRs (c_Ro_init l D cA lo MC MS G_685 (B_618.1 + 1, B_618.2 + 3) 40 50 60 q_684 (by decide) (by decide) (by decide) f_687 (show B_618.1 + 1 + 2 ≤ MC by omega) (show B_618.2 + 3 + 32 ≤ MS by omega) (show B_618.1 + 1 ≤ MC by omega) (show B_618.2 + 3 ≤ MS by omega)) (fun _ _ => ⟨va_cnB 0 hts (tb_good k_Ro_init) rfl rfl rfl hN4 (hts _ wm11) (by decide +kernel) ⟨by rw [hRf]; exact Nat.le_of_ble_eq_true rfl, by rw [hRl]; exact Nat.le_of_ble_eq_true rfl⟩, rfl, hts _ wm218⟩) (show B_618.1 + 1 ≤ MC by omega) (show B_618.2 + 3 ≤ MS by omega) rfl (Nat.le_of_ble_eq_true rfl) d_Mf_init_169) (fun G_718 B_719 p_720 => ?_)
    obtain ⟨a_721, a_722, f_723, f_724, f_725, x_726, e_727⟩ := p_720
    have fr_728 : gfr (fun y => y = 40) G_685 G_718 := gfr_gex x_726 f_687
    have n_729 : isN cA G_718 24 11 a_158 0 := isN_fr n_690 fr_728 (show ¬ (11 : Nat) = 40 by decide)
    have n_730 : isN cA G_718 24 12 b_159 0 := isN_fr n_691 fr_728 (show ¬ (12 : Nat) = 40 by decide)
    have n_731 : isN cA G_718 24 13 a_221 0 := isN_fr n_692 fr_728 (show ¬ (13 : Nat) = 40 by decide)
    have n_732 : isN cA G_718 24 14 b_222 0 := isN_fr n_693 fr_728 (show ¬ (14 : Nat) = 40 by decide)
    have n_733 : isN cA G_718 24 15 a_293 0 := isN_fr n_694 fr_728 (show ¬ (15 : Nat) = 40 by decide)
    have n_734 : isN cA G_718 24 16 b_294 0 := isN_fr n_695 fr_728 (show ¬ (16 : Nat) = 40 by decide)
    have n_735 : isN cA G_718 24 17 a_374 0 := isN_fr n_696 fr_728 (show ¬ (17 : Nat) = 40 by decide)
    have n_736 : isN cA G_718 24 18 b_375 0 := isN_fr n_697 fr_728 (show ¬ (18 : Nat) = 40 by decide)
    have n_737 : ∀ t9, t9 < 11 → isN cA G_718 24 t9 (ad t9) 0 := fun t9 h9 => isN_fr (n_698 t9 h9) fr_728 (show ¬ t9 = 40 by omega)
    have n_738 : rf cA G_718 (fun x => x = 30) r_434 ((0 : Nat) : Int) 1 := rf_fr n_699 fr_728 (fun t9 h9 => by have h9 : t9 = 30 := h9; show ¬ t9 = 40; omega)
    have n_739 : rf cA G_718 (fun x => x = 30) r_494 ((4 : Nat) : Int) 1 := rf_fr n_700 fr_728 (fun t9 h9 => by have h9 : t9 = 30 := h9; show ¬ t9 = 40; omega)
    have n_740 : rf cA G_718 (fun x => x = 30) r_556 ((1 : Nat) : Int) 2 := rf_fr n_701 fr_728 (fun t9 h9 => by have h9 : t9 = 30 := h9; show ¬ t9 = 40; omega)
    have n_741 : rf cA G_718 (fun x => x = 30) r_620 ((1 : Nat) : Int) 6 := rf_fr n_702 fr_728 (fun t9 h9 => by have h9 : t9 = 30 := h9; show ¬ t9 = 40; omega)
    have e_727 : B_719 = (B_618.1 + 1 + 1 + 1, B_618.2 + 3 + 16 + 16) := e_727
    subst e_727
    have f_742 : G_718 q_1 = some (32, .inl (cA 2, 200, .inr (.inr (.inr (.inr (fun _ => none)))))) := x_726 _ _ f_703 (gne f_703 f_687 (fun e => by cases e))
    have f_743 : G_718 q_24 = some (33, .inl (cA 3, 8, .inr (.inr (.inr (.inr (fun _ => none)))))) := x_726 _ _ f_704 (gne f_704 f_687 (fun e => by cases e))
    have f_744 : G_718 q_50 = some (35, .inr (7, [.ref a_64, .ref a_65, .int (nI 0)])) := x_726 _ _ f_705 (gne f_705 f_687 (fun e => by cases e))
    have f_745 : G_718 a_64 = some (36, .inl (cA 0, 12, .inl (fun _ => 0))) := x_726 _ _ f_706 (gne f_706 f_687 (fun e => by cases e))
    have f_746 : G_718 a_65 = some (37, .inl (cA 1, 12, .inr (.inl (fun _ => 0)))) := x_726 _ _ f_707 (gne f_707 f_687 (fun e => by cases e))
    have f_747 : G_718 q_87 = some (30, .inr (0, [.ref hd, .ref hc, .ref (ad 5), .ref (ad 6), .ref (ad 7), .ref (ad 8), .ref (ad 9), .ref (ad 10)])) := x_726 _ _ f_708 (gne f_708 f_687 (fun e => by cases e))
    have f_748 : G_718 hd = some (30, .inr (2, [.ref (ad 0), .ref (ad 1), .ref (ad 2)])) := x_726 _ _ f_709 (gne f_709 f_687 (fun e => by cases e))
    have f_749 : G_718 hc = some (19, .inr (1, [.ref hd, .ref (ad 3), .ref (ad 4), .long l_109, .long l_110, .long l_111, .long l_112])) := x_726 _ _ f_710 (gne f_710 f_687 (fun e => by cases e))
    have f_750 : G_718 q_137 = some (20, .inr (3, [.int (nI 0), .ref a_158, .ref b_159])) := x_726 _ _ f_711 (gne f_711 f_687 (fun e => by cases e))
    have f_751 : G_718 q_197 = some (21, .inr (3, [.int (nI 0), .ref a_221, .ref b_222])) := x_726 _ _ f_712 (gne f_712 f_687 (fun e => by cases e))
    have f_752 : G_718 q_266 = some (22, .inr (3, [.int (nI 0), .ref a_293, .ref b_294])) := x_726 _ _ f_713 (gne f_713 f_687 (fun e => by cases e))
    have f_753 : G_718 q_344 = some (23, .inr (3, [.int (nI 0), .ref a_374, .ref b_375])) := x_726 _ _ f_714 (gne f_714 f_687 (fun e => by cases e))
    have f_754 : G_718 h = some (31, .inr (8, [.ref q_1, .int (nI 0), .ref q_24, .int (nI 0), .ref q_50, .ref q_87, .ref q_137, .ref q_197, .ref q_266, .ref q_344, .ref r_434, .ref r_494, .ref r_556, .ref r_620])) := x_726 _ _ f_715 (gne f_715 f_687 (fun e => by cases e))
    have x_755 : gex (fun x => x = h) G G_718 := gex_tr x_717 x_726 (fun x y hx9 _ e => by subst e; rw [z_716] at hx9; cases hx9)
    refine g_aast hx hb hK 3 5 f_743 rfl f_723 rfl (show vp_in (nI 0) 8 from vp_in_nI (by omega) (by omega)) d_Mf_init_172 (fun G_756 f_757 o_758 => ?_)
    rw [nI_clamp (by omega)] at f_757
    have f_759 : G_756 q_1 = some (32, .inl (cA 2, 200, .inr (.inr (.inr (.inr (fun _ => none)))))) := (o_758 _ (gne f_742 f_743 (by simp))).trans f_742
    have f_760 : G_756 q_50 = some (35, .inr (7, [.ref a_64, .ref a_65, .int (nI 0)])) := (o_758 _ (gne f_744 f_743 (fun e => by cases e))).trans f_744
    have f_761 : G_756 a_64 = some (36, .inl (cA 0, 12, .inl (fun _ => 0))) := (o_758 _ (gne f_745 f_743 (by simp))).trans f_745
    have f_762 : G_756 a_65 = some (37, .inl (cA 1, 12, .inr (.inl (fun _ => 0)))) := (o_758 _ (gne f_746 f_743 (by simp))).trans f_746
    have f_763 : G_756 q_87 = some (30, .inr (0, [.ref hd, .ref hc, .ref (ad 5), .ref (ad 6), .ref (ad 7), .ref (ad 8), .ref (ad 9), .ref (ad 10)])) := (o_758 _ (gne f_747 f_743 (fun e => by cases e))).trans f_747
    have f_764 : G_756 hd = some (30, .inr (2, [.ref (ad 0), .ref (ad 1), .ref (ad 2)])) := (o_758 _ (gne f_748 f_743 (fun e => by cases e))).trans f_748
    have f_765 : G_756 hc = some (19, .inr (1, [.ref hd, .ref (ad 3), .ref (ad 4), .long l_109, .long l_110, .long l_111, .long l_112])) := (o_758 _ (gne f_749 f_743 (fun e => by cases e))).trans f_749
    have f_766 : G_756 q_137 = some (20, .inr (3, [.int (nI 0), .ref a_158, .ref b_159])) := (o_758 _ (gne f_750 f_743 (fun e => by cases e))).trans f_750
    have f_767 : G_756 q_197 = some (21, .inr (3, [.int (nI 0), .ref a_221, .ref b_222])) := (o_758 _ (gne f_751 f_743 (fun e => by cases e))).trans f_751
    have f_768 : G_756 q_266 = some (22, .inr (3, [.int (nI 0), .ref a_293, .ref b_294])) := (o_758 _ (gne f_752 f_743 (fun e => by cases e))).trans f_752
    have f_769 : G_756 q_344 = some (23, .inr (3, [.int (nI 0), .ref a_374, .ref b_375])) := (o_758 _ (gne f_753 f_743 (fun e => by cases e))).trans f_753
    have f_770 : G_756 h = some (31, .inr (8, [.ref q_1, .int (nI 0), .ref q_24, .int (nI 0), .ref q_50, .ref q_87, .ref q_137, .ref q_197, .ref q_266, .ref q_344, .ref r_434, .ref r_494, .ref r_556, .ref r_620])) := (o_758 _ (gne f_754 f_743 (fun e => by cases e))).trans f_754
    have f_771 : G_756 q_684 = some (40, .inr (5, [.ref a_721, .ref a_722, .int (nI 0)])) := (o_758 _ (gne f_723 f_743 (fun e => by cases e))).trans f_723
    have f_772 : G_756 a_721 = some (50, .inl (cA 2, 16, .inr (.inr (.inr (.inr (fun _ => none)))))) := (o_758 _ (gne f_724 f_743 (by simp))).trans f_724
    have f_773 : G_756 a_722 = some (60, .inl (cA 2, 16, .inr (.inr (.inr (.inr (fun _ => none)))))) := (o_758 _ (gne f_725 f_743 (by simp))).trans f_725
    have x_774 : gex (fun x => x = h) G G_756 := gex_put x_755 o_758 (Or.inr z_32)
    have fr_775 : gfr (fun y => y = 33) G_718 G_756 := gfr_put gfr_rf f_743 rfl o_758
    have n_776 : isN cA G_756 24 11 a_158 0 := isN_fr n_729 fr_775 (show ¬ (11 : Nat) = 33 by decide)
    have n_777 : isN cA G_756 24 12 b_159 0 := isN_fr n_730 fr_775 (show ¬ (12 : Nat) = 33 by decide)
    have n_778 : isN cA G_756 24 13 a_221 0 := isN_fr n_731 fr_775 (show ¬ (13 : Nat) = 33 by decide)
    have n_779 : isN cA G_756 24 14 b_222 0 := isN_fr n_732 fr_775 (show ¬ (14 : Nat) = 33 by decide)
    have n_780 : isN cA G_756 24 15 a_293 0 := isN_fr n_733 fr_775 (show ¬ (15 : Nat) = 33 by decide)
    have n_781 : isN cA G_756 24 16 b_294 0 := isN_fr n_734 fr_775 (show ¬ (16 : Nat) = 33 by decide)
    have n_782 : isN cA G_756 24 17 a_374 0 := isN_fr n_735 fr_775 (show ¬ (17 : Nat) = 33 by decide)
    have n_783 : isN cA G_756 24 18 b_375 0 := isN_fr n_736 fr_775 (show ¬ (18 : Nat) = 33 by decide)
    have n_784 : ∀ t9, t9 < 11 → isN cA G_756 24 t9 (ad t9) 0 := fun t9 h9 => isN_fr (n_737 t9 h9) fr_775 (show ¬ t9 = 33 by omega)
    have n_785 : rf cA G_756 (fun x => x = 30) r_434 ((0 : Nat) : Int) 1 := rf_fr n_738 fr_775 (fun t9 h9 => by have h9 : t9 = 30 := h9; show ¬ t9 = 33; omega)
    have n_786 : rf cA G_756 (fun x => x = 30) r_494 ((4 : Nat) : Int) 1 := rf_fr n_739 fr_775 (fun t9 h9 => by have h9 : t9 = 30 := h9; show ¬ t9 = 33; omega)
    have n_787 : rf cA G_756 (fun x => x = 30) r_556 ((1 : Nat) : Int) 2 := rf_fr n_740 fr_775 (fun t9 h9 => by have h9 : t9 = 30 := h9; show ¬ t9 = 33; omega)
    have n_788 : rf cA G_756 (fun x => x = 30) r_620 ((1 : Nat) : Int) 6 := rf_fr n_741 fr_775 (fun t9 h9 => by have h9 : t9 = 30 := h9; show ¬ t9 = 33; omega)
    refine gst (pc' := 176) (L' := [(1, .int (nI 1)), (0, .ref h)]) (fun _ _ _ _ _ hl => lv_iinc (v := nI 1) hx hb d_Mf_init_173 hl (k := 0) rfl (by decide) (by decide) rfl) ?_
    refine gs (pc' := 154) (fun _ _ _ _ _ hl => lv_goto (tgt := 154) hx hb d_Mf_init_176 (by decide)) ?_
    refine gs (pc' := 155) (fun _ _ _ _ _ hl => lv_iload_n hx hb d_Mf_init_154 rfl (lv_at hl 0 rfl)) ?_
    refine gs (pc' := 157) (fun _ _ _ _ _ hl => lv_bipush (v := nI 8) hx hb d_Mf_init_155 (by decide)) ?_
    refine gsb (pc1 := 179) (pc2 := 160) (fun _ _ _ _ _ => lv_icmp_ge (tgt := 179) hx hb d_Mf_init_157 (by decide)) (fun c_789 => ?_) (fun c_789 => ?_)
    · skip
      have nc_789 : 1 ≥ 8 := (nn_ge (a := 1) (b := 8) (by omega) (by omega)).1 c_789
      exact absurd nc_789 (by decide)
    · skip
      have nc_789 : 1 < 8 := (nn_ge (a := 1) (b := 8) (by omega) (by omega)).2 c_789
      refine gs (pc' := 161) (fun _ _ _ _ _ hl => lv_aload_n hx hb d_Mf_init_160 rfl (lv_at hl 1 rfl)) ?_
      refine g_get hx hb hts hin_Mf hown hK f_770 rfl 2 (by decide) (hts _ wm237) (fun _ h9 => h9) rfl d_Mf_init_161 ?_
      refine gs (pc' := 165) (fun _ _ _ _ _ hl => lv_iload_n hx hb d_Mf_init_164 rfl (lv_at hl 0 rfl)) ?_
      refine g_new hx hb hts hin_Ro ty_Ro ty_Ro_ok hown (hts _ wm30) (hts _ wm216) (hts _ wm11) hK (ci := 5) rfl (fs := [.null, .null, .int (nI 0)]) (fun j => match j with | 0 => fun _ => rfl | 1 => fun _ => rfl | 2 => fun _ => rfl | n + 3 => fun h9 => absurd h9 (by omega)) hlo hRc hRs (show B_618.1 + 1 + 1 + 1 + 1 ≤ MC by omega) (show B_618.2 + 3 + 16 + 16 + 3 ≤ MS by omega) d_Mf_init_165 41 (fun q_790 G_791 z_792 f_793 o_794 => ?_)
      have fr_795 : gfr (fun y => y = 1000) G_756 G_791 := gfr_new gfr_rf z_792 o_794
      have n_796 : isN cA G_791 24 11 a_158 0 := isN_fr n_776 fr_795 (show ¬ (11 : Nat) = 1000 by decide)
      have n_797 : isN cA G_791 24 12 b_159 0 := isN_fr n_777 fr_795 (show ¬ (12 : Nat) = 1000 by decide)
      have n_798 : isN cA G_791 24 13 a_221 0 := isN_fr n_778 fr_795 (show ¬ (13 : Nat) = 1000 by decide)
      have n_799 : isN cA G_791 24 14 b_222 0 := isN_fr n_779 fr_795 (show ¬ (14 : Nat) = 1000 by decide)
      have n_800 : isN cA G_791 24 15 a_293 0 := isN_fr n_780 fr_795 (show ¬ (15 : Nat) = 1000 by decide)
      have n_801 : isN cA G_791 24 16 b_294 0 := isN_fr n_781 fr_795 (show ¬ (16 : Nat) = 1000 by decide)
      have n_802 : isN cA G_791 24 17 a_374 0 := isN_fr n_782 fr_795 (show ¬ (17 : Nat) = 1000 by decide)
      have n_803 : isN cA G_791 24 18 b_375 0 := isN_fr n_783 fr_795 (show ¬ (18 : Nat) = 1000 by decide)
      have n_804 : ∀ t9, t9 < 11 → isN cA G_791 24 t9 (ad t9) 0 := fun t9 h9 => isN_fr (n_784 t9 h9) fr_795 (show ¬ t9 = 1000 by omega)
      have n_805 : rf cA G_791 (fun x => x = 30) r_434 ((0 : Nat) : Int) 1 := rf_fr n_785 fr_795 (fun t9 h9 => by have h9 : t9 = 30 := h9; show ¬ t9 = 1000; omega)
      have n_806 : rf cA G_791 (fun x => x = 30) r_494 ((4 : Nat) : Int) 1 := rf_fr n_786 fr_795 (fun t9 h9 => by have h9 : t9 = 30 := h9; show ¬ t9 = 1000; omega)
      have n_807 : rf cA G_791 (fun x => x = 30) r_556 ((1 : Nat) : Int) 2 := rf_fr n_787 fr_795 (fun t9 h9 => by have h9 : t9 = 30 := h9; show ¬ t9 = 1000; omega)
      have n_808 : rf cA G_791 (fun x => x = 30) r_620 ((1 : Nat) : Int) 6 := rf_fr n_788 fr_795 (fun t9 h9 => by have h9 : t9 = 30 := h9; show ¬ t9 = 1000; omega)
      have f_809 : G_791 q_1 = some (32, .inl (cA 2, 200, .inr (.inr (.inr (.inr (fun _ => none)))))) := (o_794 _ (fun e => by subst e; rw [f_759] at z_792; cases z_792)).trans f_759
      have f_810 : G_791 q_50 = some (35, .inr (7, [.ref a_64, .ref a_65, .int (nI 0)])) := (o_794 _ (fun e => by subst e; rw [f_760] at z_792; cases z_792)).trans f_760
      have f_811 : G_791 a_64 = some (36, .inl (cA 0, 12, .inl (fun _ => 0))) := (o_794 _ (fun e => by subst e; rw [f_761] at z_792; cases z_792)).trans f_761
      have f_812 : G_791 a_65 = some (37, .inl (cA 1, 12, .inr (.inl (fun _ => 0)))) := (o_794 _ (fun e => by subst e; rw [f_762] at z_792; cases z_792)).trans f_762
      have f_813 : G_791 q_87 = some (30, .inr (0, [.ref hd, .ref hc, .ref (ad 5), .ref (ad 6), .ref (ad 7), .ref (ad 8), .ref (ad 9), .ref (ad 10)])) := (o_794 _ (fun e => by subst e; rw [f_763] at z_792; cases z_792)).trans f_763
      have f_814 : G_791 hd = some (30, .inr (2, [.ref (ad 0), .ref (ad 1), .ref (ad 2)])) := (o_794 _ (fun e => by subst e; rw [f_764] at z_792; cases z_792)).trans f_764
      have f_815 : G_791 hc = some (19, .inr (1, [.ref hd, .ref (ad 3), .ref (ad 4), .long l_109, .long l_110, .long l_111, .long l_112])) := (o_794 _ (fun e => by subst e; rw [f_765] at z_792; cases z_792)).trans f_765
      have f_816 : G_791 q_137 = some (20, .inr (3, [.int (nI 0), .ref a_158, .ref b_159])) := (o_794 _ (fun e => by subst e; rw [f_766] at z_792; cases z_792)).trans f_766
      have f_817 : G_791 q_197 = some (21, .inr (3, [.int (nI 0), .ref a_221, .ref b_222])) := (o_794 _ (fun e => by subst e; rw [f_767] at z_792; cases z_792)).trans f_767
      have f_818 : G_791 q_266 = some (22, .inr (3, [.int (nI 0), .ref a_293, .ref b_294])) := (o_794 _ (fun e => by subst e; rw [f_768] at z_792; cases z_792)).trans f_768
      have f_819 : G_791 q_344 = some (23, .inr (3, [.int (nI 0), .ref a_374, .ref b_375])) := (o_794 _ (fun e => by subst e; rw [f_769] at z_792; cases z_792)).trans f_769
      have f_820 : G_791 h = some (31, .inr (8, [.ref q_1, .int (nI 0), .ref q_24, .int (nI 0), .ref q_50, .ref q_87, .ref q_137, .ref q_197, .ref q_266, .ref q_344, .ref r_434, .ref r_494, .ref r_556, .ref r_620])) := (o_794 _ (fun e => by subst e; rw [f_770] at z_792; cases z_792)).trans f_770
      have f_821 : G_791 q_684 = some (40, .inr (5, [.ref a_721, .ref a_722, .int (nI 0)])) := (o_794 _ (fun e => by subst e; rw [f_771] at z_792; cases z_792)).trans f_771
      have f_822 : G_791 a_721 = some (50, .inl (cA 2, 16, .inr (.inr (.inr (.inr (fun _ => none)))))) := (o_794 _ (fun e => by subst e; rw [f_772] at z_792; cases z_792)).trans f_772
      have f_823 : G_791 a_722 = some (60, .inl (cA 2, 16, .inr (.inr (.inr (.inr (fun _ => none)))))) := (o_794 _ (fun e => by subst e; rw [f_773] at z_792; cases z_792)).trans f_773
      have f_824 : G_791 q_24 = some (33, .inl (cA 3, 8, .inr (.inr (.inr (.inr (va_up (fun _ => none) 0 (some q_684))))))) := (o_794 _ (fun e => by subst e; rw [f_757] at z_792; cases z_792)).trans f_757
      have z_825 : G q_790 = none := gex_0 x_774 z_792 (fun z => by have z := z.symm; subst z; rw [f_770] at z_792; cases z_792)
      have x_826 : gex (fun x => x = h) G G_791 := gex_new x_774 z_792 o_794
      refine g_Beq (B' := (B_618.1 + 1 + 1 + 1 + 1, B_618.2 + 3 + 16 + 16 + 3)) rfl ?_
      refine gs (pc' := 169) (fun _ _ _ _ _ hl => lv_dup hx hb d_Mf_init_168 rfl) ?_
      obtain ⟨⟨hN1, hN2, hN3, hN4, -, -, -⟩, -⟩ := id hZ
      refine g_outv hlo (g_runIN (b := q_790) (As := []) (rest := [.ref q_790, .int (nI 1), .ref q_24]) ⟨hx, hb, hml, hown, hts⟩ hK hZ hRc hRs (c_Ro_init l D cA lo MC MS G_791 (B_618.1 + 1 + 1 + 1 + 1, B_618.2 + 3 + 16 + 16 + 3) 41 51 61 q_790 (by decide) (by decide) (by decide) f_793 (show B_618.1 + 1 + 1 + 1 + 1 + 2 ≤ MC by omega) (show B_618.2 + 3 + 16 + 16 + 3 + 32 ≤ MS by omega) (show B_618.1 + 1 + 1 + 1 + 1 ≤ MC by omega) (show B_618.2 + 3 + 16 + 16 + 3 ≤ MS by omega)) (fun _ _ => ⟨va_cnB 0 hts (tb_good k_Ro_init) rfl rfl rfl hN4 (hts _ wm11) (by decide +kernel) ⟨by rw [hRf]; exact Nat.le_of_ble_eq_true rfl, by rw [hRl]; exact Nat.le_of_ble_eq_true rfl⟩, rfl, hts _ wm218⟩) (show B_618.1 + 1 + 1 + 1 + 1 ≤ MC by omega) (show B_618.2 + 3 + 16 + 16 + 3 ≤ MS by omega) rfl (Nat.le_of_ble_eq_true rfl) d_Mf_init_169) (fun G_827 B_828 p_829 => ?_)
      obtain ⟨a_830, a_831, f_832, f_833, f_834, x_835, e_836⟩ := p_829
      have fr_837 : gfr (fun y => y = 41) G_791 G_827 := gfr_gex x_835 f_793
      have n_838 : isN cA G_827 24 11 a_158 0 := isN_fr n_796 fr_837 (show ¬ (11 : Nat) = 41 by decide)
      have n_839 : isN cA G_827 24 12 b_159 0 := isN_fr n_797 fr_837 (show ¬ (12 : Nat) = 41 by decide)
      have n_840 : isN cA G_827 24 13 a_221 0 := isN_fr n_798 fr_837 (show ¬ (13 : Nat) = 41 by decide)
      have n_841 : isN cA G_827 24 14 b_222 0 := isN_fr n_799 fr_837 (show ¬ (14 : Nat) = 41 by decide)
      have n_842 : isN cA G_827 24 15 a_293 0 := isN_fr n_800 fr_837 (show ¬ (15 : Nat) = 41 by decide)
      have n_843 : isN cA G_827 24 16 b_294 0 := isN_fr n_801 fr_837 (show ¬ (16 : Nat) = 41 by decide)
      have n_844 : isN cA G_827 24 17 a_374 0 := isN_fr n_802 fr_837 (show ¬ (17 : Nat) = 41 by decide)
      have n_845 : isN cA G_827 24 18 b_375 0 := isN_fr n_803 fr_837 (show ¬ (18 : Nat) = 41 by decide)
      have n_846 : ∀ t9, t9 < 11 → isN cA G_827 24 t9 (ad t9) 0 := fun t9 h9 => isN_fr (n_804 t9 h9) fr_837 (show ¬ t9 = 41 by omega)
      have n_847 : rf cA G_827 (fun x => x = 30) r_434 ((0 : Nat) : Int) 1 := rf_fr n_805 fr_837 (fun t9 h9 => by have h9 : t9 = 30 := h9; show ¬ t9 = 41; omega)
      have n_848 : rf cA G_827 (fun x => x = 30) r_494 ((4 : Nat) : Int) 1 := rf_fr n_806 fr_837 (fun t9 h9 => by have h9 : t9 = 30 := h9; show ¬ t9 = 41; omega)
      have n_849 : rf cA G_827 (fun x => x = 30) r_556 ((1 : Nat) : Int) 2 := rf_fr n_807 fr_837 (fun t9 h9 => by have h9 : t9 = 30 := h9; show ¬ t9 = 41; omega)
      have n_850 : rf cA G_827 (fun x => x = 30) r_620 ((1 : Nat) : Int) 6 := rf_fr n_808 fr_837 (fun t9 h9 => by have h9 : t9 = 30 := h9; show ¬ t9 = 41; omega)
      have e_836 : B_828 = (B_618.1 + 1 + 1 + 1 + 1 + 1 + 1, B_618.2 + 3 + 16 + 16 + 3 + 16 + 16) := e_836
      subst e_836
      have f_851 : G_827 q_1 = some (32, .inl (cA 2, 200, .inr (.inr (.inr (.inr (fun _ => none)))))) := x_835 _ _ f_809 (gne f_809 f_793 (fun e => by cases e))
      have f_852 : G_827 q_50 = some (35, .inr (7, [.ref a_64, .ref a_65, .int (nI 0)])) := x_835 _ _ f_810 (gne f_810 f_793 (fun e => by cases e))
      have f_853 : G_827 a_64 = some (36, .inl (cA 0, 12, .inl (fun _ => 0))) := x_835 _ _ f_811 (gne f_811 f_793 (fun e => by cases e))
      have f_854 : G_827 a_65 = some (37, .inl (cA 1, 12, .inr (.inl (fun _ => 0)))) := x_835 _ _ f_812 (gne f_812 f_793 (fun e => by cases e))
      have f_855 : G_827 q_87 = some (30, .inr (0, [.ref hd, .ref hc, .ref (ad 5), .ref (ad 6), .ref (ad 7), .ref (ad 8), .ref (ad 9), .ref (ad 10)])) := x_835 _ _ f_813 (gne f_813 f_793 (fun e => by cases e))
      have f_856 : G_827 hd = some (30, .inr (2, [.ref (ad 0), .ref (ad 1), .ref (ad 2)])) := x_835 _ _ f_814 (gne f_814 f_793 (fun e => by cases e))
      have f_857 : G_827 hc = some (19, .inr (1, [.ref hd, .ref (ad 3), .ref (ad 4), .long l_109, .long l_110, .long l_111, .long l_112])) := x_835 _ _ f_815 (gne f_815 f_793 (fun e => by cases e))
      have f_858 : G_827 q_137 = some (20, .inr (3, [.int (nI 0), .ref a_158, .ref b_159])) := x_835 _ _ f_816 (gne f_816 f_793 (fun e => by cases e))
      have f_859 : G_827 q_197 = some (21, .inr (3, [.int (nI 0), .ref a_221, .ref b_222])) := x_835 _ _ f_817 (gne f_817 f_793 (fun e => by cases e))
      have f_860 : G_827 q_266 = some (22, .inr (3, [.int (nI 0), .ref a_293, .ref b_294])) := x_835 _ _ f_818 (gne f_818 f_793 (fun e => by cases e))
      have f_861 : G_827 q_344 = some (23, .inr (3, [.int (nI 0), .ref a_374, .ref b_375])) := x_835 _ _ f_819 (gne f_819 f_793 (fun e => by cases e))
      have f_862 : G_827 h = some (31, .inr (8, [.ref q_1, .int (nI 0), .ref q_24, .int (nI 0), .ref q_50, .ref q_87, .ref q_137, .ref q_197, .ref q_266, .ref q_344, .ref r_434, .ref r_494, .ref r_556, .ref r_620])) := x_835 _ _ f_820 (gne f_820 f_793 (fun e => by cases e))
      have f_863 : G_827 q_684 = some (40, .inr (5, [.ref a_721, .ref a_722, .int (nI 0)])) := x_835 _ _ f_821 (gne f_821 f_793 (by simp))
      have f_864 : G_827 a_721 = some (50, .inl (cA 2, 16, .inr (.inr (.inr (.inr (fun _ => none)))))) := x_835 _ _ f_822 (gne f_822 f_793 (fun e => by cases e))
      have f_865 : G_827 a_722 = some (60, .inl (cA 2, 16, .inr (.inr (.inr (.inr (fun _ => none)))))) := x_835 _ _ f_823 (gne f_823 f_793 (fun e => by cases e))
      have f_866 : G_827 q_24 = some (33, .inl (cA 3, 8, .inr (.inr (.inr (.inr (va_up (fun _ => none) 0 (some q_684))))))) := x_835 _ _ f_824 (gne f_824 f_793 (fun e => by cases e))
      have x_867 : gex (fun x => x = h) G G_827 := gex_tr x_826 x_835 (fun x y hx9 _ e => by subst e; rw [z_825] at hx9; cases hx9)
      refine g_aast hx hb hK 3 5 f_866 rfl f_832 rfl (show vp_in (nI 1) 8 from vp_in_nI (by omega) (by omega)) d_Mf_init_172 (fun G_868 f_869 o_870 => ?_)
      rw [nI_clamp (by omega)] at f_869
      have f_871 : G_868 q_1 = some (32, .inl (cA 2, 200, .inr (.inr (.inr (.inr (fun _ => none)))))) := (o_870 _ (gne f_851 f_866 (by simp))).trans f_851
      have f_872 : G_868 q_50 = some (35, .inr (7, [.ref a_64, .ref a_65, .int (nI 0)])) := (o_870 _ (gne f_852 f_866 (fun e => by cases e))).trans f_852
      have f_873 : G_868 a_64 = some (36, .inl (cA 0, 12, .inl (fun _ => 0))) := (o_870 _ (gne f_853 f_866 (by simp))).trans f_853
      have f_874 : G_868 a_65 = some (37, .inl (cA 1, 12, .inr (.inl (fun _ => 0)))) := (o_870 _ (gne f_854 f_866 (by simp))).trans f_854
      have f_875 : G_868 q_87 = some (30, .inr (0, [.ref hd, .ref hc, .ref (ad 5), .ref (ad 6), .ref (ad 7), .ref (ad 8), .ref (ad 9), .ref (ad 10)])) := (o_870 _ (gne f_855 f_866 (fun e => by cases e))).trans f_855
      have f_876 : G_868 hd = some (30, .inr (2, [.ref (ad 0), .ref (ad 1), .ref (ad 2)])) := (o_870 _ (gne f_856 f_866 (fun e => by cases e))).trans f_856
      have f_877 : G_868 hc = some (19, .inr (1, [.ref hd, .ref (ad 3), .ref (ad 4), .long l_109, .long l_110, .long l_111, .long l_112])) := (o_870 _ (gne f_857 f_866 (fun e => by cases e))).trans f_857
      have f_878 : G_868 q_137 = some (20, .inr (3, [.int (nI 0), .ref a_158, .ref b_159])) := (o_870 _ (gne f_858 f_866 (fun e => by cases e))).trans f_858
      have f_879 : G_868 q_197 = some (21, .inr (3, [.int (nI 0), .ref a_221, .ref b_222])) := (o_870 _ (gne f_859 f_866 (fun e => by cases e))).trans f_859
      have f_880 : G_868 q_266 = some (22, .inr (3, [.int (nI 0), .ref a_293, .ref b_294])) := (o_870 _ (gne f_860 f_866 (fun e => by cases e))).trans f_860
      have f_881 : G_868 q_344 = some (23, .inr (3, [.int (nI 0), .ref a_374, .ref b_375])) := (o_870 _ (gne f_861 f_866 (fun e => by cases e))).trans f_861
      have f_882 : G_868 h = some (31, .inr (8, [.ref q_1, .int (nI 0), .ref q_24, .int (nI 0), .ref q_50, .ref q_87, .ref q_137, .ref q_197, .ref q_266, .ref q_344, .ref r_434, .ref r_494, .ref r_556, .ref r_620])) := (o_870 _ (gne f_862 f_866 (fun e => by cases e))).trans f_862
      have f_883 : G_868 q_684 = some (40, .inr (5, [.ref a_721, .ref a_722, .int (nI 0)])) := (o_870 _ (gne f_863 f_866 (fun e => by cases e))).trans f_863
      have f_884 : G_868 a_721 = some (50, .inl (cA 2, 16, .inr (.inr (.inr (.inr (fun _ => none)))))) := (o_870 _ (gne f_864 f_866 (by simp))).trans f_864
      have f_885 : G_868 a_722 = some (60, .inl (cA 2, 16, .inr (.inr (.inr (.inr (fun _ => none)))))) := (o_870 _ (gne f_865 f_866 (by simp))).trans f_865
      have f_886 : G_868 q_790 = some (41, .inr (5, [.ref a_830, .ref a_831, .int (nI 0)])) := (o_870 _ (gne f_832 f_866 (fun e => by cases e))).trans f_832
      have f_887 : G_868 a_830 = some (51, .inl (cA 2, 16, .inr (.inr (.inr (.inr (fun _ => none)))))) := (o_870 _ (gne f_833 f_866 (by simp))).trans f_833
      have f_888 : G_868 a_831 = some (61, .inl (cA 2, 16, .inr (.inr (.inr (.inr (fun _ => none)))))) := (o_870 _ (gne f_834 f_866 (by simp))).trans f_834
      have x_889 : gex (fun x => x = h) G G_868 := gex_put x_867 o_870 (Or.inr z_32)
      have fr_890 : gfr (fun y => y = 33) G_827 G_868 := gfr_put gfr_rf f_866 rfl o_870
      have n_891 : isN cA G_868 24 11 a_158 0 := isN_fr n_838 fr_890 (show ¬ (11 : Nat) = 33 by decide)
      have n_892 : isN cA G_868 24 12 b_159 0 := isN_fr n_839 fr_890 (show ¬ (12 : Nat) = 33 by decide)
      have n_893 : isN cA G_868 24 13 a_221 0 := isN_fr n_840 fr_890 (show ¬ (13 : Nat) = 33 by decide)
      have n_894 : isN cA G_868 24 14 b_222 0 := isN_fr n_841 fr_890 (show ¬ (14 : Nat) = 33 by decide)
      have n_895 : isN cA G_868 24 15 a_293 0 := isN_fr n_842 fr_890 (show ¬ (15 : Nat) = 33 by decide)
      have n_896 : isN cA G_868 24 16 b_294 0 := isN_fr n_843 fr_890 (show ¬ (16 : Nat) = 33 by decide)
      have n_897 : isN cA G_868 24 17 a_374 0 := isN_fr n_844 fr_890 (show ¬ (17 : Nat) = 33 by decide)
      have n_898 : isN cA G_868 24 18 b_375 0 := isN_fr n_845 fr_890 (show ¬ (18 : Nat) = 33 by decide)
      have n_899 : ∀ t9, t9 < 11 → isN cA G_868 24 t9 (ad t9) 0 := fun t9 h9 => isN_fr (n_846 t9 h9) fr_890 (show ¬ t9 = 33 by omega)
      have n_900 : rf cA G_868 (fun x => x = 30) r_434 ((0 : Nat) : Int) 1 := rf_fr n_847 fr_890 (fun t9 h9 => by have h9 : t9 = 30 := h9; show ¬ t9 = 33; omega)
      have n_901 : rf cA G_868 (fun x => x = 30) r_494 ((4 : Nat) : Int) 1 := rf_fr n_848 fr_890 (fun t9 h9 => by have h9 : t9 = 30 := h9; show ¬ t9 = 33; omega)
      have n_902 : rf cA G_868 (fun x => x = 30) r_556 ((1 : Nat) : Int) 2 := rf_fr n_849 fr_890 (fun t9 h9 => by have h9 : t9 = 30 := h9; show ¬ t9 = 33; omega)
      have n_903 : rf cA G_868 (fun x => x = 30) r_620 ((1 : Nat) : Int) 6 := rf_fr n_850 fr_890 (fun t9 h9 => by have h9 : t9 = 30 := h9; show ¬ t9 = 33; omega)
      refine gst (pc' := 176) (L' := [(1, .int (nI 2)), (0, .ref h)]) (fun _ _ _ _ _ hl => lv_iinc (v := nI 2) hx hb d_Mf_init_173 hl (k := 0) rfl (by decide) (by decide) rfl) ?_
      refine gs (pc' := 154) (fun _ _ _ _ _ hl => lv_goto (tgt := 154) hx hb d_Mf_init_176 (by decide)) ?_
      refine gs (pc' := 155) (fun _ _ _ _ _ hl => lv_iload_n hx hb d_Mf_init_154 rfl (lv_at hl 0 rfl)) ?_
      refine gs (pc' := 157) (fun _ _ _ _ _ hl => lv_bipush (v := nI 8) hx hb d_Mf_init_155 (by decide)) ?_
      refine gsb (pc1 := 179) (pc2 := 160) (fun _ _ _ _ _ => lv_icmp_ge (tgt := 179) hx hb d_Mf_init_157 (by decide)) (fun c_904 => ?_) (fun c_904 => ?_)
      · skip
        have nc_904 : 2 ≥ 8 := (nn_ge (a := 2) (b := 8) (by omega) (by omega)).1 c_904
        exact absurd nc_904 (by decide)
      · skip
        have nc_904 : 2 < 8 := (nn_ge (a := 2) (b := 8) (by omega) (by omega)).2 c_904
        refine gs (pc' := 161) (fun _ _ _ _ _ hl => lv_aload_n hx hb d_Mf_init_160 rfl (lv_at hl 1 rfl)) ?_
        refine g_get hx hb hts hin_Mf hown hK f_882 rfl 2 (by decide) (hts _ wm237) (fun _ h9 => h9) rfl d_Mf_init_161 ?_
        refine gs (pc' := 165) (fun _ _ _ _ _ hl => lv_iload_n hx hb d_Mf_init_164 rfl (lv_at hl 0 rfl)) ?_
        refine g_new hx hb hts hin_Ro ty_Ro ty_Ro_ok hown (hts _ wm30) (hts _ wm216) (hts _ wm11) hK (ci := 5) rfl (fs := [.null, .null, .int (nI 0)]) (fun j => match j with | 0 => fun _ => rfl | 1 => fun _ => rfl | 2 => fun _ => rfl | n + 3 => fun h9 => absurd h9 (by omega)) hlo hRc hRs (show B_618.1 + 1 + 1 + 1 + 1 + 1 + 1 + 1 ≤ MC by omega) (show B_618.2 + 3 + 16 + 16 + 3 + 16 + 16 + 3 ≤ MS by omega) d_Mf_init_165 42 (fun q_905 G_906 z_907 f_908 o_909 => ?_)
        have fr_910 : gfr (fun y => y = 1000) G_868 G_906 := gfr_new gfr_rf z_907 o_909
        have n_911 : isN cA G_906 24 11 a_158 0 := isN_fr n_891 fr_910 (show ¬ (11 : Nat) = 1000 by decide)
        have n_912 : isN cA G_906 24 12 b_159 0 := isN_fr n_892 fr_910 (show ¬ (12 : Nat) = 1000 by decide)
        have n_913 : isN cA G_906 24 13 a_221 0 := isN_fr n_893 fr_910 (show ¬ (13 : Nat) = 1000 by decide)
        have n_914 : isN cA G_906 24 14 b_222 0 := isN_fr n_894 fr_910 (show ¬ (14 : Nat) = 1000 by decide)
        have n_915 : isN cA G_906 24 15 a_293 0 := isN_fr n_895 fr_910 (show ¬ (15 : Nat) = 1000 by decide)
        have n_916 : isN cA G_906 24 16 b_294 0 := isN_fr n_896 fr_910 (show ¬ (16 : Nat) = 1000 by decide)
        have n_917 : isN cA G_906 24 17 a_374 0 := isN_fr n_897 fr_910 (show ¬ (17 : Nat) = 1000 by decide)
        have n_918 : isN cA G_906 24 18 b_375 0 := isN_fr n_898 fr_910 (show ¬ (18 : Nat) = 1000 by decide)
        have n_919 : ∀ t9, t9 < 11 → isN cA G_906 24 t9 (ad t9) 0 := fun t9 h9 => isN_fr (n_899 t9 h9) fr_910 (show ¬ t9 = 1000 by omega)
        have n_920 : rf cA G_906 (fun x => x = 30) r_434 ((0 : Nat) : Int) 1 := rf_fr n_900 fr_910 (fun t9 h9 => by have h9 : t9 = 30 := h9; show ¬ t9 = 1000; omega)
        have n_921 : rf cA G_906 (fun x => x = 30) r_494 ((4 : Nat) : Int) 1 := rf_fr n_901 fr_910 (fun t9 h9 => by have h9 : t9 = 30 := h9; show ¬ t9 = 1000; omega)
        have n_922 : rf cA G_906 (fun x => x = 30) r_556 ((1 : Nat) : Int) 2 := rf_fr n_902 fr_910 (fun t9 h9 => by have h9 : t9 = 30 := h9; show ¬ t9 = 1000; omega)
        have n_923 : rf cA G_906 (fun x => x = 30) r_620 ((1 : Nat) : Int) 6 := rf_fr n_903 fr_910 (fun t9 h9 => by have h9 : t9 = 30 := h9; show ¬ t9 = 1000; omega)
        have f_924 : G_906 q_1 = some (32, .inl (cA 2, 200, .inr (.inr (.inr (.inr (fun _ => none)))))) := (o_909 _ (fun e => by subst e; rw [f_871] at z_907; cases z_907)).trans f_871
        have f_925 : G_906 q_50 = some (35, .inr (7, [.ref a_64, .ref a_65, .int (nI 0)])) := (o_909 _ (fun e => by subst e; rw [f_872] at z_907; cases z_907)).trans f_872
        have f_926 : G_906 a_64 = some (36, .inl (cA 0, 12, .inl (fun _ => 0))) := (o_909 _ (fun e => by subst e; rw [f_873] at z_907; cases z_907)).trans f_873
        have f_927 : G_906 a_65 = some (37, .inl (cA 1, 12, .inr (.inl (fun _ => 0)))) := (o_909 _ (fun e => by subst e; rw [f_874] at z_907; cases z_907)).trans f_874
        have f_928 : G_906 q_87 = some (30, .inr (0, [.ref hd, .ref hc, .ref (ad 5), .ref (ad 6), .ref (ad 7), .ref (ad 8), .ref (ad 9), .ref (ad 10)])) := (o_909 _ (fun e => by subst e; rw [f_875] at z_907; cases z_907)).trans f_875
        have f_929 : G_906 hd = some (30, .inr (2, [.ref (ad 0), .ref (ad 1), .ref (ad 2)])) := (o_909 _ (fun e => by subst e; rw [f_876] at z_907; cases z_907)).trans f_876
        have f_930 : G_906 hc = some (19, .inr (1, [.ref hd, .ref (ad 3), .ref (ad 4), .long l_109, .long l_110, .long l_111, .long l_112])) := (o_909 _ (fun e => by subst e; rw [f_877] at z_907; cases z_907)).trans f_877
        have f_931 : G_906 q_137 = some (20, .inr (3, [.int (nI 0), .ref a_158, .ref b_159])) := (o_909 _ (fun e => by subst e; rw [f_878] at z_907; cases z_907)).trans f_878
        have f_932 : G_906 q_197 = some (21, .inr (3, [.int (nI 0), .ref a_221, .ref b_222])) := (o_909 _ (fun e => by subst e; rw [f_879] at z_907; cases z_907)).trans f_879
        have f_933 : G_906 q_266 = some (22, .inr (3, [.int (nI 0), .ref a_293, .ref b_294])) := (o_909 _ (fun e => by subst e; rw [f_880] at z_907; cases z_907)).trans f_880
        have f_934 : G_906 q_344 = some (23, .inr (3, [.int (nI 0), .ref a_374, .ref b_375])) := (o_909 _ (fun e => by subst e; rw [f_881] at z_907; cases z_907)).trans f_881
        have f_935 : G_906 h = some (31, .inr (8, [.ref q_1, .int (nI 0), .ref q_24, .int (nI 0), .ref q_50, .ref q_87, .ref q_137, .ref q_197, .ref q_266, .ref q_344, .ref r_434, .ref r_494, .ref r_556, .ref r_620])) := (o_909 _ (fun e => by subst e; rw [f_882] at z_907; cases z_907)).trans f_882
        have f_936 : G_906 q_684 = some (40, .inr (5, [.ref a_721, .ref a_722, .int (nI 0)])) := (o_909 _ (fun e => by subst e; rw [f_883] at z_907; cases z_907)).trans f_883
        have f_937 : G_906 a_721 = some (50, .inl (cA 2, 16, .inr (.inr (.inr (.inr (fun _ => none)))))) := (o_909 _ (fun e => by subst e; rw [f_884] at z_907; cases z_907)).trans f_884
        have f_938 : G_906 a_722 = some (60, .inl (cA 2, 16, .inr (.inr (.inr (.inr (fun _ => none)))))) := (o_909 _ (fun e => by subst e; rw [f_885] at z_907; cases z_907)).trans f_885
        have f_939 : G_906 q_790 = some (41, .inr (5, [.ref a_830, .ref a_831, .int (nI 0)])) := (o_909 _ (fun e => by subst e; rw [f_886] at z_907; cases z_907)).trans f_886
        have f_940 : G_906 a_830 = some (51, .inl (cA 2, 16, .inr (.inr (.inr (.inr (fun _ => none)))))) := (o_909 _ (fun e => by subst e; rw [f_887] at z_907; cases z_907)).trans f_887
        have f_941 : G_906 a_831 = some (61, .inl (cA 2, 16, .inr (.inr (.inr (.inr (fun _ => none)))))) := (o_909 _ (fun e => by subst e; rw [f_888] at z_907; cases z_907)).trans f_888
        have f_942 : G_906 q_24 = some (33, .inl (cA 3, 8, .inr (.inr (.inr (.inr (va_up (va_up (fun _ => none) 0 (some q_684)) 1 (some q_790))))))) := (o_909 _ (fun e => by subst e; rw [f_869] at z_907; cases z_907)).trans f_869
        have z_943 : G q_905 = none := gex_0 x_889 z_907 (fun z => by have z := z.symm; subst z; rw [f_882] at z_907; cases z_907)
        have x_944 : gex (fun x => x = h) G G_906 := gex_new x_889 z_907 o_909
        refine g_Beq (B' := (B_618.1 + 1 + 1 + 1 + 1 + 1 + 1 + 1, B_618.2 + 3 + 16 + 16 + 3 + 16 + 16 + 3)) rfl ?_
        refine gs (pc' := 169) (fun _ _ _ _ _ hl => lv_dup hx hb d_Mf_init_168 rfl) ?_
        obtain ⟨⟨hN1, hN2, hN3, hN4, -, -, -⟩, -⟩ := id hZ
        refine g_outv hlo (g_runIN (b := q_905) (As := []) (rest := [.ref q_905, .int (nI 2), .ref q_24]) ⟨hx, hb, hml, hown, hts⟩ hK hZ hRc hRs (c_Ro_init l D cA lo MC MS G_906 (B_618.1 + 1 + 1 + 1 + 1 + 1 + 1 + 1, B_618.2 + 3 + 16 + 16 + 3 + 16 + 16 + 3) 42 52 62 q_905 (by decide) (by decide) (by decide) f_908 (show B_618.1 + 1 + 1 + 1 + 1 + 1 + 1 + 1 + 2 ≤ MC by omega) (show B_618.2 + 3 + 16 + 16 + 3 + 16 + 16 + 3 + 32 ≤ MS by omega) (show B_618.1 + 1 + 1 + 1 + 1 + 1 + 1 + 1 ≤ MC by omega) (show B_618.2 + 3 + 16 + 16 + 3 + 16 + 16 + 3 ≤ MS by omega)) (fun _ _ => ⟨va_cnB 0 hts (tb_good k_Ro_init) rfl rfl rfl hN4 (hts _ wm11) (by decide +kernel) ⟨by rw [hRf]; exact Nat.le_of_ble_eq_true rfl, by rw [hRl]; exact Nat.le_of_ble_eq_true rfl⟩, rfl, hts _ wm218⟩) (show B_618.1 + 1 + 1 + 1 + 1 + 1 + 1 + 1 ≤ MC by omega) (show B_618.2 + 3 + 16 + 16 + 3 + 16 + 16 + 3 ≤ MS by omega) rfl (Nat.le_of_ble_eq_true rfl) d_Mf_init_169) (fun G_945 B_946 p_947 => ?_)
        obtain ⟨a_948, a_949, f_950, f_951, f_952, x_953, e_954⟩ := p_947
        have fr_955 : gfr (fun y => y = 42) G_906 G_945 := gfr_gex x_953 f_908
        have n_956 : isN cA G_945 24 11 a_158 0 := isN_fr n_911 fr_955 (show ¬ (11 : Nat) = 42 by decide)
        have n_957 : isN cA G_945 24 12 b_159 0 := isN_fr n_912 fr_955 (show ¬ (12 : Nat) = 42 by decide)
        have n_958 : isN cA G_945 24 13 a_221 0 := isN_fr n_913 fr_955 (show ¬ (13 : Nat) = 42 by decide)
        have n_959 : isN cA G_945 24 14 b_222 0 := isN_fr n_914 fr_955 (show ¬ (14 : Nat) = 42 by decide)
        have n_960 : isN cA G_945 24 15 a_293 0 := isN_fr n_915 fr_955 (show ¬ (15 : Nat) = 42 by decide)
        have n_961 : isN cA G_945 24 16 b_294 0 := isN_fr n_916 fr_955 (show ¬ (16 : Nat) = 42 by decide)
        have n_962 : isN cA G_945 24 17 a_374 0 := isN_fr n_917 fr_955 (show ¬ (17 : Nat) = 42 by decide)
        have n_963 : isN cA G_945 24 18 b_375 0 := isN_fr n_918 fr_955 (show ¬ (18 : Nat) = 42 by decide)
        have n_964 : ∀ t9, t9 < 11 → isN cA G_945 24 t9 (ad t9) 0 := fun t9 h9 => isN_fr (n_919 t9 h9) fr_955 (show ¬ t9 = 42 by omega)
        have n_965 : rf cA G_945 (fun x => x = 30) r_434 ((0 : Nat) : Int) 1 := rf_fr n_920 fr_955 (fun t9 h9 => by have h9 : t9 = 30 := h9; show ¬ t9 = 42; omega)
        have n_966 : rf cA G_945 (fun x => x = 30) r_494 ((4 : Nat) : Int) 1 := rf_fr n_921 fr_955 (fun t9 h9 => by have h9 : t9 = 30 := h9; show ¬ t9 = 42; omega)
        have n_967 : rf cA G_945 (fun x => x = 30) r_556 ((1 : Nat) : Int) 2 := rf_fr n_922 fr_955 (fun t9 h9 => by have h9 : t9 = 30 := h9; show ¬ t9 = 42; omega)
        have n_968 : rf cA G_945 (fun x => x = 30) r_620 ((1 : Nat) : Int) 6 := rf_fr n_923 fr_955 (fun t9 h9 => by have h9 : t9 = 30 := h9; show ¬ t9 = 42; omega)
        have e_954 : B_946 = (B_618.1 + 1 + 1 + 1 + 1 + 1 + 1 + 1 + 1 + 1, B_618.2 + 3 + 16 + 16 + 3 + 16 + 16 + 3 + 16 + 16) := e_954
        subst e_954
        have f_969 : G_945 q_1 = some (32, .inl (cA 2, 200, .inr (.inr (.inr (.inr (fun _ => none)))))) := x_953 _ _ f_924 (gne f_924 f_908 (fun e => by cases e))
        have f_970 : G_945 q_50 = some (35, .inr (7, [.ref a_64, .ref a_65, .int (nI 0)])) := x_953 _ _ f_925 (gne f_925 f_908 (fun e => by cases e))
        have f_971 : G_945 a_64 = some (36, .inl (cA 0, 12, .inl (fun _ => 0))) := x_953 _ _ f_926 (gne f_926 f_908 (fun e => by cases e))
        have f_972 : G_945 a_65 = some (37, .inl (cA 1, 12, .inr (.inl (fun _ => 0)))) := x_953 _ _ f_927 (gne f_927 f_908 (fun e => by cases e))
        have f_973 : G_945 q_87 = some (30, .inr (0, [.ref hd, .ref hc, .ref (ad 5), .ref (ad 6), .ref (ad 7), .ref (ad 8), .ref (ad 9), .ref (ad 10)])) := x_953 _ _ f_928 (gne f_928 f_908 (fun e => by cases e))
        have f_974 : G_945 hd = some (30, .inr (2, [.ref (ad 0), .ref (ad 1), .ref (ad 2)])) := x_953 _ _ f_929 (gne f_929 f_908 (fun e => by cases e))
        have f_975 : G_945 hc = some (19, .inr (1, [.ref hd, .ref (ad 3), .ref (ad 4), .long l_109, .long l_110, .long l_111, .long l_112])) := x_953 _ _ f_930 (gne f_930 f_908 (fun e => by cases e))
        have f_976 : G_945 q_137 = some (20, .inr (3, [.int (nI 0), .ref a_158, .ref b_159])) := x_953 _ _ f_931 (gne f_931 f_908 (fun e => by cases e))
        have f_977 : G_945 q_197 = some (21, .inr (3, [.int (nI 0), .ref a_221, .ref b_222])) := x_953 _ _ f_932 (gne f_932 f_908 (fun e => by cases e))
        have f_978 : G_945 q_266 = some (22, .inr (3, [.int (nI 0), .ref a_293, .ref b_294])) := x_953 _ _ f_933 (gne f_933 f_908 (fun e => by cases e))
        have f_979 : G_945 q_344 = some (23, .inr (3, [.int (nI 0), .ref a_374, .ref b_375])) := x_953 _ _ f_934 (gne f_934 f_908 (fun e => by cases e))
        have f_980 : G_945 h = some (31, .inr (8, [.ref q_1, .int (nI 0), .ref q_24, .int (nI 0), .ref q_50, .ref q_87, .ref q_137, .ref q_197, .ref q_266, .ref q_344, .ref r_434, .ref r_494, .ref r_556, .ref r_620])) := x_953 _ _ f_935 (gne f_935 f_908 (fun e => by cases e))
        have f_981 : G_945 q_684 = some (40, .inr (5, [.ref a_721, .ref a_722, .int (nI 0)])) := x_953 _ _ f_936 (gne f_936 f_908 (by simp))
        have f_982 : G_945 a_721 = some (50, .inl (cA 2, 16, .inr (.inr (.inr (.inr (fun _ => none)))))) := x_953 _ _ f_937 (gne f_937 f_908 (fun e => by cases e))
        have f_983 : G_945 a_722 = some (60, .inl (cA 2, 16, .inr (.inr (.inr (.inr (fun _ => none)))))) := x_953 _ _ f_938 (gne f_938 f_908 (fun e => by cases e))
        have f_984 : G_945 q_790 = some (41, .inr (5, [.ref a_830, .ref a_831, .int (nI 0)])) := x_953 _ _ f_939 (gne f_939 f_908 (by simp))
        have f_985 : G_945 a_830 = some (51, .inl (cA 2, 16, .inr (.inr (.inr (.inr (fun _ => none)))))) := x_953 _ _ f_940 (gne f_940 f_908 (fun e => by cases e))
        have f_986 : G_945 a_831 = some (61, .inl (cA 2, 16, .inr (.inr (.inr (.inr (fun _ => none)))))) := x_953 _ _ f_941 (gne f_941 f_908 (fun e => by cases e))
        have f_987 : G_945 q_24 = some (33, .inl (cA 3, 8, .inr (.inr (.inr (.inr (va_up (va_up (fun _ => none) 0 (some q_684)) 1 (some q_790))))))) := x_953 _ _ f_942 (gne f_942 f_908 (fun e => by cases e))
        have x_988 : gex (fun x => x = h) G G_945 := gex_tr x_944 x_953 (fun x y hx9 _ e => by subst e; rw [z_943] at hx9; cases hx9)
        refine g_aast hx hb hK 3 5 f_987 rfl f_950 rfl (show vp_in (nI 2) 8 from vp_in_nI (by omega) (by omega)) d_Mf_init_172 (fun G_989 f_990 o_991 => ?_)
        rw [nI_clamp (by omega)] at f_990
        have f_992 : G_989 q_1 = some (32, .inl (cA 2, 200, .inr (.inr (.inr (.inr (fun _ => none)))))) := (o_991 _ (gne f_969 f_987 (by simp))).trans f_969
        have f_993 : G_989 q_50 = some (35, .inr (7, [.ref a_64, .ref a_65, .int (nI 0)])) := (o_991 _ (gne f_970 f_987 (fun e => by cases e))).trans f_970
        have f_994 : G_989 a_64 = some (36, .inl (cA 0, 12, .inl (fun _ => 0))) := (o_991 _ (gne f_971 f_987 (by simp))).trans f_971
        have f_995 : G_989 a_65 = some (37, .inl (cA 1, 12, .inr (.inl (fun _ => 0)))) := (o_991 _ (gne f_972 f_987 (by simp))).trans f_972
        have f_996 : G_989 q_87 = some (30, .inr (0, [.ref hd, .ref hc, .ref (ad 5), .ref (ad 6), .ref (ad 7), .ref (ad 8), .ref (ad 9), .ref (ad 10)])) := (o_991 _ (gne f_973 f_987 (fun e => by cases e))).trans f_973
        have f_997 : G_989 hd = some (30, .inr (2, [.ref (ad 0), .ref (ad 1), .ref (ad 2)])) := (o_991 _ (gne f_974 f_987 (fun e => by cases e))).trans f_974
        have f_998 : G_989 hc = some (19, .inr (1, [.ref hd, .ref (ad 3), .ref (ad 4), .long l_109, .long l_110, .long l_111, .long l_112])) := (o_991 _ (gne f_975 f_987 (fun e => by cases e))).trans f_975
        have f_999 : G_989 q_137 = some (20, .inr (3, [.int (nI 0), .ref a_158, .ref b_159])) := (o_991 _ (gne f_976 f_987 (fun e => by cases e))).trans f_976
        have f_1000 : G_989 q_197 = some (21, .inr (3, [.int (nI 0), .ref a_221, .ref b_222])) := (o_991 _ (gne f_977 f_987 (fun e => by cases e))).trans f_977
        have f_1001 : G_989 q_266 = some (22, .inr (3, [.int (nI 0), .ref a_293, .ref b_294])) := (o_991 _ (gne f_978 f_987 (fun e => by cases e))).trans f_978
        have f_1002 : G_989 q_344 = some (23, .inr (3, [.int (nI 0), .ref a_374, .ref b_375])) := (o_991 _ (gne f_979 f_987 (fun e => by cases e))).trans f_979
        have f_1003 : G_989 h = some (31, .inr (8, [.ref q_1, .int (nI 0), .ref q_24, .int (nI 0), .ref q_50, .ref q_87, .ref q_137, .ref q_197, .ref q_266, .ref q_344, .ref r_434, .ref r_494, .ref r_556, .ref r_620])) := (o_991 _ (gne f_980 f_987 (fun e => by cases e))).trans f_980
        have f_1004 : G_989 q_684 = some (40, .inr (5, [.ref a_721, .ref a_722, .int (nI 0)])) := (o_991 _ (gne f_981 f_987 (fun e => by cases e))).trans f_981
        have f_1005 : G_989 a_721 = some (50, .inl (cA 2, 16, .inr (.inr (.inr (.inr (fun _ => none)))))) := (o_991 _ (gne f_982 f_987 (by simp))).trans f_982
        have f_1006 : G_989 a_722 = some (60, .inl (cA 2, 16, .inr (.inr (.inr (.inr (fun _ => none)))))) := (o_991 _ (gne f_983 f_987 (by simp))).trans f_983
        have f_1007 : G_989 q_790 = some (41, .inr (5, [.ref a_830, .ref a_831, .int (nI 0)])) := (o_991 _ (gne f_984 f_987 (fun e => by cases e))).trans f_984
        have f_1008 : G_989 a_830 = some (51, .inl (cA 2, 16, .inr (.inr (.inr (.inr (fun _ => none)))))) := (o_991 _ (gne f_985 f_987 (by simp))).trans f_985
        have f_1009 : G_989 a_831 = some (61, .inl (cA 2, 16, .inr (.inr (.inr (.inr (fun _ => none)))))) := (o_991 _ (gne f_986 f_987 (by simp))).trans f_986
        have f_1010 : G_989 q_905 = some (42, .inr (5, [.ref a_948, .ref a_949, .int (nI 0)])) := (o_991 _ (gne f_950 f_987 (fun e => by cases e))).trans f_950
        have f_1011 : G_989 a_948 = some (52, .inl (cA 2, 16, .inr (.inr (.inr (.inr (fun _ => none)))))) := (o_991 _ (gne f_951 f_987 (by simp))).trans f_951
        have f_1012 : G_989 a_949 = some (62, .inl (cA 2, 16, .inr (.inr (.inr (.inr (fun _ => none)))))) := (o_991 _ (gne f_952 f_987 (by simp))).trans f_952
        have x_1013 : gex (fun x => x = h) G G_989 := gex_put x_988 o_991 (Or.inr z_32)
        have fr_1014 : gfr (fun y => y = 33) G_945 G_989 := gfr_put gfr_rf f_987 rfl o_991
        have n_1015 : isN cA G_989 24 11 a_158 0 := isN_fr n_956 fr_1014 (show ¬ (11 : Nat) = 33 by decide)
        have n_1016 : isN cA G_989 24 12 b_159 0 := isN_fr n_957 fr_1014 (show ¬ (12 : Nat) = 33 by decide)
        have n_1017 : isN cA G_989 24 13 a_221 0 := isN_fr n_958 fr_1014 (show ¬ (13 : Nat) = 33 by decide)
        have n_1018 : isN cA G_989 24 14 b_222 0 := isN_fr n_959 fr_1014 (show ¬ (14 : Nat) = 33 by decide)
        have n_1019 : isN cA G_989 24 15 a_293 0 := isN_fr n_960 fr_1014 (show ¬ (15 : Nat) = 33 by decide)
        have n_1020 : isN cA G_989 24 16 b_294 0 := isN_fr n_961 fr_1014 (show ¬ (16 : Nat) = 33 by decide)
        have n_1021 : isN cA G_989 24 17 a_374 0 := isN_fr n_962 fr_1014 (show ¬ (17 : Nat) = 33 by decide)
        have n_1022 : isN cA G_989 24 18 b_375 0 := isN_fr n_963 fr_1014 (show ¬ (18 : Nat) = 33 by decide)
        have n_1023 : ∀ t9, t9 < 11 → isN cA G_989 24 t9 (ad t9) 0 := fun t9 h9 => isN_fr (n_964 t9 h9) fr_1014 (show ¬ t9 = 33 by omega)
        have n_1024 : rf cA G_989 (fun x => x = 30) r_434 ((0 : Nat) : Int) 1 := rf_fr n_965 fr_1014 (fun t9 h9 => by have h9 : t9 = 30 := h9; show ¬ t9 = 33; omega)
        have n_1025 : rf cA G_989 (fun x => x = 30) r_494 ((4 : Nat) : Int) 1 := rf_fr n_966 fr_1014 (fun t9 h9 => by have h9 : t9 = 30 := h9; show ¬ t9 = 33; omega)
        have n_1026 : rf cA G_989 (fun x => x = 30) r_556 ((1 : Nat) : Int) 2 := rf_fr n_967 fr_1014 (fun t9 h9 => by have h9 : t9 = 30 := h9; show ¬ t9 = 33; omega)
        have n_1027 : rf cA G_989 (fun x => x = 30) r_620 ((1 : Nat) : Int) 6 := rf_fr n_968 fr_1014 (fun t9 h9 => by have h9 : t9 = 30 := h9; show ¬ t9 = 33; omega)
        refine gst (pc' := 176) (L' := [(1, .int (nI 3)), (0, .ref h)]) (fun _ _ _ _ _ hl => lv_iinc (v := nI 3) hx hb d_Mf_init_173 hl (k := 0) rfl (by decide) (by decide) rfl) ?_
        refine gs (pc' := 154) (fun _ _ _ _ _ hl => lv_goto (tgt := 154) hx hb d_Mf_init_176 (by decide)) ?_
        refine gs (pc' := 155) (fun _ _ _ _ _ hl => lv_iload_n hx hb d_Mf_init_154 rfl (lv_at hl 0 rfl)) ?_
        refine gs (pc' := 157) (fun _ _ _ _ _ hl => lv_bipush (v := nI 8) hx hb d_Mf_init_155 (by decide)) ?_
        refine gsb (pc1 := 179) (pc2 := 160) (fun _ _ _ _ _ => lv_icmp_ge (tgt := 179) hx hb d_Mf_init_157 (by decide)) (fun c_1028 => ?_) (fun c_1028 => ?_)
        · skip
          have nc_1028 : 3 ≥ 8 := (nn_ge (a := 3) (b := 8) (by omega) (by omega)).1 c_1028
          exact absurd nc_1028 (by decide)
        · skip
          have nc_1028 : 3 < 8 := (nn_ge (a := 3) (b := 8) (by omega) (by omega)).2 c_1028
          refine gs (pc' := 161) (fun _ _ _ _ _ hl => lv_aload_n hx hb d_Mf_init_160 rfl (lv_at hl 1 rfl)) ?_
          refine g_get hx hb hts hin_Mf hown hK f_1003 rfl 2 (by decide) (hts _ wm237) (fun _ h9 => h9) rfl d_Mf_init_161 ?_
          refine gs (pc' := 165) (fun _ _ _ _ _ hl => lv_iload_n hx hb d_Mf_init_164 rfl (lv_at hl 0 rfl)) ?_
          refine g_new hx hb hts hin_Ro ty_Ro ty_Ro_ok hown (hts _ wm30) (hts _ wm216) (hts _ wm11) hK (ci := 5) rfl (fs := [.null, .null, .int (nI 0)]) (fun j => match j with | 0 => fun _ => rfl | 1 => fun _ => rfl | 2 => fun _ => rfl | n + 3 => fun h9 => absurd h9 (by omega)) hlo hRc hRs (show B_618.1 + 1 + 1 + 1 + 1 + 1 + 1 + 1 + 1 + 1 + 1 ≤ MC by omega) (show B_618.2 + 3 + 16 + 16 + 3 + 16 + 16 + 3 + 16 + 16 + 3 ≤ MS by omega) d_Mf_init_165 43 (fun q_1029 G_1030 z_1031 f_1032 o_1033 => ?_)
          have fr_1034 : gfr (fun y => y = 1000) G_989 G_1030 := gfr_new gfr_rf z_1031 o_1033
          have n_1035 : isN cA G_1030 24 11 a_158 0 := isN_fr n_1015 fr_1034 (show ¬ (11 : Nat) = 1000 by decide)
          have n_1036 : isN cA G_1030 24 12 b_159 0 := isN_fr n_1016 fr_1034 (show ¬ (12 : Nat) = 1000 by decide)
          have n_1037 : isN cA G_1030 24 13 a_221 0 := isN_fr n_1017 fr_1034 (show ¬ (13 : Nat) = 1000 by decide)
          have n_1038 : isN cA G_1030 24 14 b_222 0 := isN_fr n_1018 fr_1034 (show ¬ (14 : Nat) = 1000 by decide)
          have n_1039 : isN cA G_1030 24 15 a_293 0 := isN_fr n_1019 fr_1034 (show ¬ (15 : Nat) = 1000 by decide)
          have n_1040 : isN cA G_1030 24 16 b_294 0 := isN_fr n_1020 fr_1034 (show ¬ (16 : Nat) = 1000 by decide)
          have n_1041 : isN cA G_1030 24 17 a_374 0 := isN_fr n_1021 fr_1034 (show ¬ (17 : Nat) = 1000 by decide)
          have n_1042 : isN cA G_1030 24 18 b_375 0 := isN_fr n_1022 fr_1034 (show ¬ (18 : Nat) = 1000 by decide)
          have n_1043 : ∀ t9, t9 < 11 → isN cA G_1030 24 t9 (ad t9) 0 := fun t9 h9 => isN_fr (n_1023 t9 h9) fr_1034 (show ¬ t9 = 1000 by omega)
          have n_1044 : rf cA G_1030 (fun x => x = 30) r_434 ((0 : Nat) : Int) 1 := rf_fr n_1024 fr_1034 (fun t9 h9 => by have h9 : t9 = 30 := h9; show ¬ t9 = 1000; omega)
          have n_1045 : rf cA G_1030 (fun x => x = 30) r_494 ((4 : Nat) : Int) 1 := rf_fr n_1025 fr_1034 (fun t9 h9 => by have h9 : t9 = 30 := h9; show ¬ t9 = 1000; omega)
          have n_1046 : rf cA G_1030 (fun x => x = 30) r_556 ((1 : Nat) : Int) 2 := rf_fr n_1026 fr_1034 (fun t9 h9 => by have h9 : t9 = 30 := h9; show ¬ t9 = 1000; omega)
          have n_1047 : rf cA G_1030 (fun x => x = 30) r_620 ((1 : Nat) : Int) 6 := rf_fr n_1027 fr_1034 (fun t9 h9 => by have h9 : t9 = 30 := h9; show ¬ t9 = 1000; omega)
          have f_1048 : G_1030 q_1 = some (32, .inl (cA 2, 200, .inr (.inr (.inr (.inr (fun _ => none)))))) := (o_1033 _ (fun e => by subst e; rw [f_992] at z_1031; cases z_1031)).trans f_992
          have f_1049 : G_1030 q_50 = some (35, .inr (7, [.ref a_64, .ref a_65, .int (nI 0)])) := (o_1033 _ (fun e => by subst e; rw [f_993] at z_1031; cases z_1031)).trans f_993
          have f_1050 : G_1030 a_64 = some (36, .inl (cA 0, 12, .inl (fun _ => 0))) := (o_1033 _ (fun e => by subst e; rw [f_994] at z_1031; cases z_1031)).trans f_994
          have f_1051 : G_1030 a_65 = some (37, .inl (cA 1, 12, .inr (.inl (fun _ => 0)))) := (o_1033 _ (fun e => by subst e; rw [f_995] at z_1031; cases z_1031)).trans f_995
          have f_1052 : G_1030 q_87 = some (30, .inr (0, [.ref hd, .ref hc, .ref (ad 5), .ref (ad 6), .ref (ad 7), .ref (ad 8), .ref (ad 9), .ref (ad 10)])) := (o_1033 _ (fun e => by subst e; rw [f_996] at z_1031; cases z_1031)).trans f_996
          have f_1053 : G_1030 hd = some (30, .inr (2, [.ref (ad 0), .ref (ad 1), .ref (ad 2)])) := (o_1033 _ (fun e => by subst e; rw [f_997] at z_1031; cases z_1031)).trans f_997
          have f_1054 : G_1030 hc = some (19, .inr (1, [.ref hd, .ref (ad 3), .ref (ad 4), .long l_109, .long l_110, .long l_111, .long l_112])) := (o_1033 _ (fun e => by subst e; rw [f_998] at z_1031; cases z_1031)).trans f_998
          have f_1055 : G_1030 q_137 = some (20, .inr (3, [.int (nI 0), .ref a_158, .ref b_159])) := (o_1033 _ (fun e => by subst e; rw [f_999] at z_1031; cases z_1031)).trans f_999
          have f_1056 : G_1030 q_197 = some (21, .inr (3, [.int (nI 0), .ref a_221, .ref b_222])) := (o_1033 _ (fun e => by subst e; rw [f_1000] at z_1031; cases z_1031)).trans f_1000
          have f_1057 : G_1030 q_266 = some (22, .inr (3, [.int (nI 0), .ref a_293, .ref b_294])) := (o_1033 _ (fun e => by subst e; rw [f_1001] at z_1031; cases z_1031)).trans f_1001
          have f_1058 : G_1030 q_344 = some (23, .inr (3, [.int (nI 0), .ref a_374, .ref b_375])) := (o_1033 _ (fun e => by subst e; rw [f_1002] at z_1031; cases z_1031)).trans f_1002
          have f_1059 : G_1030 h = some (31, .inr (8, [.ref q_1, .int (nI 0), .ref q_24, .int (nI 0), .ref q_50, .ref q_87, .ref q_137, .ref q_197, .ref q_266, .ref q_344, .ref r_434, .ref r_494, .ref r_556, .ref r_620])) := (o_1033 _ (fun e => by subst e; rw [f_1003] at z_1031; cases z_1031)).trans f_1003
          have f_1060 : G_1030 q_684 = some (40, .inr (5, [.ref a_721, .ref a_722, .int (nI 0)])) := (o_1033 _ (fun e => by subst e; rw [f_1004] at z_1031; cases z_1031)).trans f_1004
          have f_1061 : G_1030 a_721 = some (50, .inl (cA 2, 16, .inr (.inr (.inr (.inr (fun _ => none)))))) := (o_1033 _ (fun e => by subst e; rw [f_1005] at z_1031; cases z_1031)).trans f_1005
          have f_1062 : G_1030 a_722 = some (60, .inl (cA 2, 16, .inr (.inr (.inr (.inr (fun _ => none)))))) := (o_1033 _ (fun e => by subst e; rw [f_1006] at z_1031; cases z_1031)).trans f_1006
          have f_1063 : G_1030 q_790 = some (41, .inr (5, [.ref a_830, .ref a_831, .int (nI 0)])) := (o_1033 _ (fun e => by subst e; rw [f_1007] at z_1031; cases z_1031)).trans f_1007
          have f_1064 : G_1030 a_830 = some (51, .inl (cA 2, 16, .inr (.inr (.inr (.inr (fun _ => none)))))) := (o_1033 _ (fun e => by subst e; rw [f_1008] at z_1031; cases z_1031)).trans f_1008
          have f_1065 : G_1030 a_831 = some (61, .inl (cA 2, 16, .inr (.inr (.inr (.inr (fun _ => none)))))) := (o_1033 _ (fun e => by subst e; rw [f_1009] at z_1031; cases z_1031)).trans f_1009
          have f_1066 : G_1030 q_905 = some (42, .inr (5, [.ref a_948, .ref a_949, .int (nI 0)])) := (o_1033 _ (fun e => by subst e; rw [f_1010] at z_1031; cases z_1031)).trans f_1010
          have f_1067 : G_1030 a_948 = some (52, .inl (cA 2, 16, .inr (.inr (.inr (.inr (fun _ => none)))))) := (o_1033 _ (fun e => by subst e; rw [f_1011] at z_1031; cases z_1031)).trans f_1011
          have f_1068 : G_1030 a_949 = some (62, .inl (cA 2, 16, .inr (.inr (.inr (.inr (fun _ => none)))))) := (o_1033 _ (fun e => by subst e; rw [f_1012] at z_1031; cases z_1031)).trans f_1012
          have f_1069 : G_1030 q_24 = some (33, .inl (cA 3, 8, .inr (.inr (.inr (.inr (va_up (va_up (va_up (fun _ => none) 0 (some q_684)) 1 (some q_790)) 2 (some q_905))))))) := (o_1033 _ (fun e => by subst e; rw [f_990] at z_1031; cases z_1031)).trans f_990
          have z_1070 : G q_1029 = none := gex_0 x_1013 z_1031 (fun z => by have z := z.symm; subst z; rw [f_1003] at z_1031; cases z_1031)
          have x_1071 : gex (fun x => x = h) G G_1030 := gex_new x_1013 z_1031 o_1033
          refine g_Beq (B' := (B_618.1 + 1 + 1 + 1 + 1 + 1 + 1 + 1 + 1 + 1 + 1, B_618.2 + 3 + 16 + 16 + 3 + 16 + 16 + 3 + 16 + 16 + 3)) rfl ?_
          refine gs (pc' := 169) (fun _ _ _ _ _ hl => lv_dup hx hb d_Mf_init_168 rfl) ?_
          obtain ⟨⟨hN1, hN2, hN3, hN4, -, -, -⟩, -⟩ := id hZ
          refine g_outv hlo (g_runIN (b := q_1029) (As := []) (rest := [.ref q_1029, .int (nI 3), .ref q_24]) ⟨hx, hb, hml, hown, hts⟩ hK hZ hRc hRs (c_Ro_init l D cA lo MC MS G_1030 (B_618.1 + 1 + 1 + 1 + 1 + 1 + 1 + 1 + 1 + 1 + 1, B_618.2 + 3 + 16 + 16 + 3 + 16 + 16 + 3 + 16 + 16 + 3) 43 53 63 q_1029 (by decide) (by decide) (by decide) f_1032 (show B_618.1 + 1 + 1 + 1 + 1 + 1 + 1 + 1 + 1 + 1 + 1 + 2 ≤ MC by omega) (show B_618.2 + 3 + 16 + 16 + 3 + 16 + 16 + 3 + 16 + 16 + 3 + 32 ≤ MS by omega) (show B_618.1 + 1 + 1 + 1 + 1 + 1 + 1 + 1 + 1 + 1 + 1 ≤ MC by omega) (show B_618.2 + 3 + 16 + 16 + 3 + 16 + 16 + 3 + 16 + 16 + 3 ≤ MS by omega)) (fun _ _ => ⟨va_cnB 0 hts (tb_good k_Ro_init) rfl rfl rfl hN4 (hts _ wm11) (by decide +kernel) ⟨by rw [hRf]; exact Nat.le_of_ble_eq_true rfl, by rw [hRl]; exact Nat.le_of_ble_eq_true rfl⟩, rfl, hts _ wm218⟩) (show B_618.1 + 1 + 1 + 1 + 1 + 1 + 1 + 1 + 1 + 1 + 1 ≤ MC by omega) (show B_618.2 + 3 + 16 + 16 + 3 + 16 + 16 + 3 + 16 + 16 + 3 ≤ MS by omega) rfl (Nat.le_of_ble_eq_true rfl) d_Mf_init_169) (fun G_1072 B_1073 p_1074 => ?_)
          obtain ⟨a_1075, a_1076, f_1077, f_1078, f_1079, x_1080, e_1081⟩ := p_1074
          have fr_1082 : gfr (fun y => y = 43) G_1030 G_1072 := gfr_gex x_1080 f_1032
          have n_1083 : isN cA G_1072 24 11 a_158 0 := isN_fr n_1035 fr_1082 (show ¬ (11 : Nat) = 43 by decide)
          have n_1084 : isN cA G_1072 24 12 b_159 0 := isN_fr n_1036 fr_1082 (show ¬ (12 : Nat) = 43 by decide)
          have n_1085 : isN cA G_1072 24 13 a_221 0 := isN_fr n_1037 fr_1082 (show ¬ (13 : Nat) = 43 by decide)
          have n_1086 : isN cA G_1072 24 14 b_222 0 := isN_fr n_1038 fr_1082 (show ¬ (14 : Nat) = 43 by decide)
          have n_1087 : isN cA G_1072 24 15 a_293 0 := isN_fr n_1039 fr_1082 (show ¬ (15 : Nat) = 43 by decide)
          have n_1088 : isN cA G_1072 24 16 b_294 0 := isN_fr n_1040 fr_1082 (show ¬ (16 : Nat) = 43 by decide)
          have n_1089 : isN cA G_1072 24 17 a_374 0 := isN_fr n_1041 fr_1082 (show ¬ (17 : Nat) = 43 by decide)
          have n_1090 : isN cA G_1072 24 18 b_375 0 := isN_fr n_1042 fr_1082 (show ¬ (18 : Nat) = 43 by decide)
          have n_1091 : ∀ t9, t9 < 11 → isN cA G_1072 24 t9 (ad t9) 0 := fun t9 h9 => isN_fr (n_1043 t9 h9) fr_1082 (show ¬ t9 = 43 by omega)
          have n_1092 : rf cA G_1072 (fun x => x = 30) r_434 ((0 : Nat) : Int) 1 := rf_fr n_1044 fr_1082 (fun t9 h9 => by have h9 : t9 = 30 := h9; show ¬ t9 = 43; omega)
          have n_1093 : rf cA G_1072 (fun x => x = 30) r_494 ((4 : Nat) : Int) 1 := rf_fr n_1045 fr_1082 (fun t9 h9 => by have h9 : t9 = 30 := h9; show ¬ t9 = 43; omega)
          have n_1094 : rf cA G_1072 (fun x => x = 30) r_556 ((1 : Nat) : Int) 2 := rf_fr n_1046 fr_1082 (fun t9 h9 => by have h9 : t9 = 30 := h9; show ¬ t9 = 43; omega)
          have n_1095 : rf cA G_1072 (fun x => x = 30) r_620 ((1 : Nat) : Int) 6 := rf_fr n_1047 fr_1082 (fun t9 h9 => by have h9 : t9 = 30 := h9; show ¬ t9 = 43; omega)
          have e_1081 : B_1073 = (B_618.1 + 1 + 1 + 1 + 1 + 1 + 1 + 1 + 1 + 1 + 1 + 1 + 1, B_618.2 + 3 + 16 + 16 + 3 + 16 + 16 + 3 + 16 + 16 + 3 + 16 + 16) := e_1081
          subst e_1081
          have f_1096 : G_1072 q_1 = some (32, .inl (cA 2, 200, .inr (.inr (.inr (.inr (fun _ => none)))))) := x_1080 _ _ f_1048 (gne f_1048 f_1032 (fun e => by cases e))
          have f_1097 : G_1072 q_50 = some (35, .inr (7, [.ref a_64, .ref a_65, .int (nI 0)])) := x_1080 _ _ f_1049 (gne f_1049 f_1032 (fun e => by cases e))
          have f_1098 : G_1072 a_64 = some (36, .inl (cA 0, 12, .inl (fun _ => 0))) := x_1080 _ _ f_1050 (gne f_1050 f_1032 (fun e => by cases e))
          have f_1099 : G_1072 a_65 = some (37, .inl (cA 1, 12, .inr (.inl (fun _ => 0)))) := x_1080 _ _ f_1051 (gne f_1051 f_1032 (fun e => by cases e))
          have f_1100 : G_1072 q_87 = some (30, .inr (0, [.ref hd, .ref hc, .ref (ad 5), .ref (ad 6), .ref (ad 7), .ref (ad 8), .ref (ad 9), .ref (ad 10)])) := x_1080 _ _ f_1052 (gne f_1052 f_1032 (fun e => by cases e))
          have f_1101 : G_1072 hd = some (30, .inr (2, [.ref (ad 0), .ref (ad 1), .ref (ad 2)])) := x_1080 _ _ f_1053 (gne f_1053 f_1032 (fun e => by cases e))
          have f_1102 : G_1072 hc = some (19, .inr (1, [.ref hd, .ref (ad 3), .ref (ad 4), .long l_109, .long l_110, .long l_111, .long l_112])) := x_1080 _ _ f_1054 (gne f_1054 f_1032 (fun e => by cases e))
          have f_1103 : G_1072 q_137 = some (20, .inr (3, [.int (nI 0), .ref a_158, .ref b_159])) := x_1080 _ _ f_1055 (gne f_1055 f_1032 (fun e => by cases e))
          have f_1104 : G_1072 q_197 = some (21, .inr (3, [.int (nI 0), .ref a_221, .ref b_222])) := x_1080 _ _ f_1056 (gne f_1056 f_1032 (fun e => by cases e))
          have f_1105 : G_1072 q_266 = some (22, .inr (3, [.int (nI 0), .ref a_293, .ref b_294])) := x_1080 _ _ f_1057 (gne f_1057 f_1032 (fun e => by cases e))
          have f_1106 : G_1072 q_344 = some (23, .inr (3, [.int (nI 0), .ref a_374, .ref b_375])) := x_1080 _ _ f_1058 (gne f_1058 f_1032 (fun e => by cases e))
          have f_1107 : G_1072 h = some (31, .inr (8, [.ref q_1, .int (nI 0), .ref q_24, .int (nI 0), .ref q_50, .ref q_87, .ref q_137, .ref q_197, .ref q_266, .ref q_344, .ref r_434, .ref r_494, .ref r_556, .ref r_620])) := x_1080 _ _ f_1059 (gne f_1059 f_1032 (fun e => by cases e))
          have f_1108 : G_1072 q_684 = some (40, .inr (5, [.ref a_721, .ref a_722, .int (nI 0)])) := x_1080 _ _ f_1060 (gne f_1060 f_1032 (by simp))
          have f_1109 : G_1072 a_721 = some (50, .inl (cA 2, 16, .inr (.inr (.inr (.inr (fun _ => none)))))) := x_1080 _ _ f_1061 (gne f_1061 f_1032 (fun e => by cases e))
          have f_1110 : G_1072 a_722 = some (60, .inl (cA 2, 16, .inr (.inr (.inr (.inr (fun _ => none)))))) := x_1080 _ _ f_1062 (gne f_1062 f_1032 (fun e => by cases e))
          have f_1111 : G_1072 q_790 = some (41, .inr (5, [.ref a_830, .ref a_831, .int (nI 0)])) := x_1080 _ _ f_1063 (gne f_1063 f_1032 (by simp))
          have f_1112 : G_1072 a_830 = some (51, .inl (cA 2, 16, .inr (.inr (.inr (.inr (fun _ => none)))))) := x_1080 _ _ f_1064 (gne f_1064 f_1032 (fun e => by cases e))
          have f_1113 : G_1072 a_831 = some (61, .inl (cA 2, 16, .inr (.inr (.inr (.inr (fun _ => none)))))) := x_1080 _ _ f_1065 (gne f_1065 f_1032 (fun e => by cases e))
          have f_1114 : G_1072 q_905 = some (42, .inr (5, [.ref a_948, .ref a_949, .int (nI 0)])) := x_1080 _ _ f_1066 (gne f_1066 f_1032 (by simp))
          have f_1115 : G_1072 a_948 = some (52, .inl (cA 2, 16, .inr (.inr (.inr (.inr (fun _ => none)))))) := x_1080 _ _ f_1067 (gne f_1067 f_1032 (fun e => by cases e))
          have f_1116 : G_1072 a_949 = some (62, .inl (cA 2, 16, .inr (.inr (.inr (.inr (fun _ => none)))))) := x_1080 _ _ f_1068 (gne f_1068 f_1032 (fun e => by cases e))
          have f_1117 : G_1072 q_24 = some (33, .inl (cA 3, 8, .inr (.inr (.inr (.inr (va_up (va_up (va_up (fun _ => none) 0 (some q_684)) 1 (some q_790)) 2 (some q_905))))))) := x_1080 _ _ f_1069 (gne f_1069 f_1032 (fun e => by cases e))
          have x_1118 : gex (fun x => x = h) G G_1072 := gex_tr x_1071 x_1080 (fun x y hx9 _ e => by subst e; rw [z_1070] at hx9; cases hx9)
          refine g_aast hx hb hK 3 5 f_1117 rfl f_1077 rfl (show vp_in (nI 3) 8 from vp_in_nI (by omega) (by omega)) d_Mf_init_172 (fun G_1119 f_1120 o_1121 => ?_)
          rw [nI_clamp (by omega)] at f_1120
          have f_1122 : G_1119 q_1 = some (32, .inl (cA 2, 200, .inr (.inr (.inr (.inr (fun _ => none)))))) := (o_1121 _ (gne f_1096 f_1117 (by simp))).trans f_1096
          have f_1123 : G_1119 q_50 = some (35, .inr (7, [.ref a_64, .ref a_65, .int (nI 0)])) := (o_1121 _ (gne f_1097 f_1117 (fun e => by cases e))).trans f_1097
          have f_1124 : G_1119 a_64 = some (36, .inl (cA 0, 12, .inl (fun _ => 0))) := (o_1121 _ (gne f_1098 f_1117 (by simp))).trans f_1098
          have f_1125 : G_1119 a_65 = some (37, .inl (cA 1, 12, .inr (.inl (fun _ => 0)))) := (o_1121 _ (gne f_1099 f_1117 (by simp))).trans f_1099
          have f_1126 : G_1119 q_87 = some (30, .inr (0, [.ref hd, .ref hc, .ref (ad 5), .ref (ad 6), .ref (ad 7), .ref (ad 8), .ref (ad 9), .ref (ad 10)])) := (o_1121 _ (gne f_1100 f_1117 (fun e => by cases e))).trans f_1100
          have f_1127 : G_1119 hd = some (30, .inr (2, [.ref (ad 0), .ref (ad 1), .ref (ad 2)])) := (o_1121 _ (gne f_1101 f_1117 (fun e => by cases e))).trans f_1101
          have f_1128 : G_1119 hc = some (19, .inr (1, [.ref hd, .ref (ad 3), .ref (ad 4), .long l_109, .long l_110, .long l_111, .long l_112])) := (o_1121 _ (gne f_1102 f_1117 (fun e => by cases e))).trans f_1102
          have f_1129 : G_1119 q_137 = some (20, .inr (3, [.int (nI 0), .ref a_158, .ref b_159])) := (o_1121 _ (gne f_1103 f_1117 (fun e => by cases e))).trans f_1103
          have f_1130 : G_1119 q_197 = some (21, .inr (3, [.int (nI 0), .ref a_221, .ref b_222])) := (o_1121 _ (gne f_1104 f_1117 (fun e => by cases e))).trans f_1104
          have f_1131 : G_1119 q_266 = some (22, .inr (3, [.int (nI 0), .ref a_293, .ref b_294])) := (o_1121 _ (gne f_1105 f_1117 (fun e => by cases e))).trans f_1105
          have f_1132 : G_1119 q_344 = some (23, .inr (3, [.int (nI 0), .ref a_374, .ref b_375])) := (o_1121 _ (gne f_1106 f_1117 (fun e => by cases e))).trans f_1106
          have f_1133 : G_1119 h = some (31, .inr (8, [.ref q_1, .int (nI 0), .ref q_24, .int (nI 0), .ref q_50, .ref q_87, .ref q_137, .ref q_197, .ref q_266, .ref q_344, .ref r_434, .ref r_494, .ref r_556, .ref r_620])) := (o_1121 _ (gne f_1107 f_1117 (fun e => by cases e))).trans f_1107
          have f_1134 : G_1119 q_684 = some (40, .inr (5, [.ref a_721, .ref a_722, .int (nI 0)])) := (o_1121 _ (gne f_1108 f_1117 (fun e => by cases e))).trans f_1108
          have f_1135 : G_1119 a_721 = some (50, .inl (cA 2, 16, .inr (.inr (.inr (.inr (fun _ => none)))))) := (o_1121 _ (gne f_1109 f_1117 (by simp))).trans f_1109
          have f_1136 : G_1119 a_722 = some (60, .inl (cA 2, 16, .inr (.inr (.inr (.inr (fun _ => none)))))) := (o_1121 _ (gne f_1110 f_1117 (by simp))).trans f_1110
          have f_1137 : G_1119 q_790 = some (41, .inr (5, [.ref a_830, .ref a_831, .int (nI 0)])) := (o_1121 _ (gne f_1111 f_1117 (fun e => by cases e))).trans f_1111
          have f_1138 : G_1119 a_830 = some (51, .inl (cA 2, 16, .inr (.inr (.inr (.inr (fun _ => none)))))) := (o_1121 _ (gne f_1112 f_1117 (by simp))).trans f_1112
          have f_1139 : G_1119 a_831 = some (61, .inl (cA 2, 16, .inr (.inr (.inr (.inr (fun _ => none)))))) := (o_1121 _ (gne f_1113 f_1117 (by simp))).trans f_1113
          have f_1140 : G_1119 q_905 = some (42, .inr (5, [.ref a_948, .ref a_949, .int (nI 0)])) := (o_1121 _ (gne f_1114 f_1117 (fun e => by cases e))).trans f_1114
          have f_1141 : G_1119 a_948 = some (52, .inl (cA 2, 16, .inr (.inr (.inr (.inr (fun _ => none)))))) := (o_1121 _ (gne f_1115 f_1117 (by simp))).trans f_1115
          have f_1142 : G_1119 a_949 = some (62, .inl (cA 2, 16, .inr (.inr (.inr (.inr (fun _ => none)))))) := (o_1121 _ (gne f_1116 f_1117 (by simp))).trans f_1116
          have f_1143 : G_1119 q_1029 = some (43, .inr (5, [.ref a_1075, .ref a_1076, .int (nI 0)])) := (o_1121 _ (gne f_1077 f_1117 (fun e => by cases e))).trans f_1077
          have f_1144 : G_1119 a_1075 = some (53, .inl (cA 2, 16, .inr (.inr (.inr (.inr (fun _ => none)))))) := (o_1121 _ (gne f_1078 f_1117 (by simp))).trans f_1078
          have f_1145 : G_1119 a_1076 = some (63, .inl (cA 2, 16, .inr (.inr (.inr (.inr (fun _ => none)))))) := (o_1121 _ (gne f_1079 f_1117 (by simp))).trans f_1079
          have x_1146 : gex (fun x => x = h) G G_1119 := gex_put x_1118 o_1121 (Or.inr z_32)
          have fr_1147 : gfr (fun y => y = 33) G_1072 G_1119 := gfr_put gfr_rf f_1117 rfl o_1121
          have n_1148 : isN cA G_1119 24 11 a_158 0 := isN_fr n_1083 fr_1147 (show ¬ (11 : Nat) = 33 by decide)
          have n_1149 : isN cA G_1119 24 12 b_159 0 := isN_fr n_1084 fr_1147 (show ¬ (12 : Nat) = 33 by decide)
          have n_1150 : isN cA G_1119 24 13 a_221 0 := isN_fr n_1085 fr_1147 (show ¬ (13 : Nat) = 33 by decide)
          have n_1151 : isN cA G_1119 24 14 b_222 0 := isN_fr n_1086 fr_1147 (show ¬ (14 : Nat) = 33 by decide)
          have n_1152 : isN cA G_1119 24 15 a_293 0 := isN_fr n_1087 fr_1147 (show ¬ (15 : Nat) = 33 by decide)
          have n_1153 : isN cA G_1119 24 16 b_294 0 := isN_fr n_1088 fr_1147 (show ¬ (16 : Nat) = 33 by decide)
          have n_1154 : isN cA G_1119 24 17 a_374 0 := isN_fr n_1089 fr_1147 (show ¬ (17 : Nat) = 33 by decide)
          have n_1155 : isN cA G_1119 24 18 b_375 0 := isN_fr n_1090 fr_1147 (show ¬ (18 : Nat) = 33 by decide)
          have n_1156 : ∀ t9, t9 < 11 → isN cA G_1119 24 t9 (ad t9) 0 := fun t9 h9 => isN_fr (n_1091 t9 h9) fr_1147 (show ¬ t9 = 33 by omega)
          have n_1157 : rf cA G_1119 (fun x => x = 30) r_434 ((0 : Nat) : Int) 1 := rf_fr n_1092 fr_1147 (fun t9 h9 => by have h9 : t9 = 30 := h9; show ¬ t9 = 33; omega)
          have n_1158 : rf cA G_1119 (fun x => x = 30) r_494 ((4 : Nat) : Int) 1 := rf_fr n_1093 fr_1147 (fun t9 h9 => by have h9 : t9 = 30 := h9; show ¬ t9 = 33; omega)
          have n_1159 : rf cA G_1119 (fun x => x = 30) r_556 ((1 : Nat) : Int) 2 := rf_fr n_1094 fr_1147 (fun t9 h9 => by have h9 : t9 = 30 := h9; show ¬ t9 = 33; omega)
          have n_1160 : rf cA G_1119 (fun x => x = 30) r_620 ((1 : Nat) : Int) 6 := rf_fr n_1095 fr_1147 (fun t9 h9 => by have h9 : t9 = 30 := h9; show ¬ t9 = 33; omega)
          refine gst (pc' := 176) (L' := [(1, .int (nI 4)), (0, .ref h)]) (fun _ _ _ _ _ hl => lv_iinc (v := nI 4) hx hb d_Mf_init_173 hl (k := 0) rfl (by decide) (by decide) rfl) ?_
          refine gs (pc' := 154) (fun _ _ _ _ _ hl => lv_goto (tgt := 154) hx hb d_Mf_init_176 (by decide)) ?_
          refine gs (pc' := 155) (fun _ _ _ _ _ hl => lv_iload_n hx hb d_Mf_init_154 rfl (lv_at hl 0 rfl)) ?_
          refine gs (pc' := 157) (fun _ _ _ _ _ hl => lv_bipush (v := nI 8) hx hb d_Mf_init_155 (by decide)) ?_
          refine gsb (pc1 := 179) (pc2 := 160) (fun _ _ _ _ _ => lv_icmp_ge (tgt := 179) hx hb d_Mf_init_157 (by decide)) (fun c_1161 => ?_) (fun c_1161 => ?_)
          · skip
            have nc_1161 : 4 ≥ 8 := (nn_ge (a := 4) (b := 8) (by omega) (by omega)).1 c_1161
            exact absurd nc_1161 (by decide)
          · skip
            have nc_1161 : 4 < 8 := (nn_ge (a := 4) (b := 8) (by omega) (by omega)).2 c_1161
            refine gs (pc' := 161) (fun _ _ _ _ _ hl => lv_aload_n hx hb d_Mf_init_160 rfl (lv_at hl 1 rfl)) ?_
            refine g_get hx hb hts hin_Mf hown hK f_1133 rfl 2 (by decide) (hts _ wm237) (fun _ h9 => h9) rfl d_Mf_init_161 ?_
            refine gs (pc' := 165) (fun _ _ _ _ _ hl => lv_iload_n hx hb d_Mf_init_164 rfl (lv_at hl 0 rfl)) ?_
            refine g_new hx hb hts hin_Ro ty_Ro ty_Ro_ok hown (hts _ wm30) (hts _ wm216) (hts _ wm11) hK (ci := 5) rfl (fs := [.null, .null, .int (nI 0)]) (fun j => match j with | 0 => fun _ => rfl | 1 => fun _ => rfl | 2 => fun _ => rfl | n + 3 => fun h9 => absurd h9 (by omega)) hlo hRc hRs (show B_618.1 + 1 + 1 + 1 + 1 + 1 + 1 + 1 + 1 + 1 + 1 + 1 + 1 + 1 ≤ MC by omega) (show B_618.2 + 3 + 16 + 16 + 3 + 16 + 16 + 3 + 16 + 16 + 3 + 16 + 16 + 3 ≤ MS by omega) d_Mf_init_165 44 (fun q_1162 G_1163 z_1164 f_1165 o_1166 => ?_)
            have fr_1167 : gfr (fun y => y = 1000) G_1119 G_1163 := gfr_new gfr_rf z_1164 o_1166
            have n_1168 : isN cA G_1163 24 11 a_158 0 := isN_fr n_1148 fr_1167 (show ¬ (11 : Nat) = 1000 by decide)
            have n_1169 : isN cA G_1163 24 12 b_159 0 := isN_fr n_1149 fr_1167 (show ¬ (12 : Nat) = 1000 by decide)
            have n_1170 : isN cA G_1163 24 13 a_221 0 := isN_fr n_1150 fr_1167 (show ¬ (13 : Nat) = 1000 by decide)
            have n_1171 : isN cA G_1163 24 14 b_222 0 := isN_fr n_1151 fr_1167 (show ¬ (14 : Nat) = 1000 by decide)
            have n_1172 : isN cA G_1163 24 15 a_293 0 := isN_fr n_1152 fr_1167 (show ¬ (15 : Nat) = 1000 by decide)
            have n_1173 : isN cA G_1163 24 16 b_294 0 := isN_fr n_1153 fr_1167 (show ¬ (16 : Nat) = 1000 by decide)
            have n_1174 : isN cA G_1163 24 17 a_374 0 := isN_fr n_1154 fr_1167 (show ¬ (17 : Nat) = 1000 by decide)
            have n_1175 : isN cA G_1163 24 18 b_375 0 := isN_fr n_1155 fr_1167 (show ¬ (18 : Nat) = 1000 by decide)
            have n_1176 : ∀ t9, t9 < 11 → isN cA G_1163 24 t9 (ad t9) 0 := fun t9 h9 => isN_fr (n_1156 t9 h9) fr_1167 (show ¬ t9 = 1000 by omega)
            have n_1177 : rf cA G_1163 (fun x => x = 30) r_434 ((0 : Nat) : Int) 1 := rf_fr n_1157 fr_1167 (fun t9 h9 => by have h9 : t9 = 30 := h9; show ¬ t9 = 1000; omega)
            have n_1178 : rf cA G_1163 (fun x => x = 30) r_494 ((4 : Nat) : Int) 1 := rf_fr n_1158 fr_1167 (fun t9 h9 => by have h9 : t9 = 30 := h9; show ¬ t9 = 1000; omega)
            have n_1179 : rf cA G_1163 (fun x => x = 30) r_556 ((1 : Nat) : Int) 2 := rf_fr n_1159 fr_1167 (fun t9 h9 => by have h9 : t9 = 30 := h9; show ¬ t9 = 1000; omega)
            have n_1180 : rf cA G_1163 (fun x => x = 30) r_620 ((1 : Nat) : Int) 6 := rf_fr n_1160 fr_1167 (fun t9 h9 => by have h9 : t9 = 30 := h9; show ¬ t9 = 1000; omega)
            have f_1181 : G_1163 q_1 = some (32, .inl (cA 2, 200, .inr (.inr (.inr (.inr (fun _ => none)))))) := (o_1166 _ (fun e => by subst e; rw [f_1122] at z_1164; cases z_1164)).trans f_1122
            have f_1182 : G_1163 q_50 = some (35, .inr (7, [.ref a_64, .ref a_65, .int (nI 0)])) := (o_1166 _ (fun e => by subst e; rw [f_1123] at z_1164; cases z_1164)).trans f_1123
            have f_1183 : G_1163 a_64 = some (36, .inl (cA 0, 12, .inl (fun _ => 0))) := (o_1166 _ (fun e => by subst e; rw [f_1124] at z_1164; cases z_1164)).trans f_1124
            have f_1184 : G_1163 a_65 = some (37, .inl (cA 1, 12, .inr (.inl (fun _ => 0)))) := (o_1166 _ (fun e => by subst e; rw [f_1125] at z_1164; cases z_1164)).trans f_1125
            have f_1185 : G_1163 q_87 = some (30, .inr (0, [.ref hd, .ref hc, .ref (ad 5), .ref (ad 6), .ref (ad 7), .ref (ad 8), .ref (ad 9), .ref (ad 10)])) := (o_1166 _ (fun e => by subst e; rw [f_1126] at z_1164; cases z_1164)).trans f_1126
            have f_1186 : G_1163 hd = some (30, .inr (2, [.ref (ad 0), .ref (ad 1), .ref (ad 2)])) := (o_1166 _ (fun e => by subst e; rw [f_1127] at z_1164; cases z_1164)).trans f_1127
            have f_1187 : G_1163 hc = some (19, .inr (1, [.ref hd, .ref (ad 3), .ref (ad 4), .long l_109, .long l_110, .long l_111, .long l_112])) := (o_1166 _ (fun e => by subst e; rw [f_1128] at z_1164; cases z_1164)).trans f_1128
            have f_1188 : G_1163 q_137 = some (20, .inr (3, [.int (nI 0), .ref a_158, .ref b_159])) := (o_1166 _ (fun e => by subst e; rw [f_1129] at z_1164; cases z_1164)).trans f_1129
            have f_1189 : G_1163 q_197 = some (21, .inr (3, [.int (nI 0), .ref a_221, .ref b_222])) := (o_1166 _ (fun e => by subst e; rw [f_1130] at z_1164; cases z_1164)).trans f_1130
            have f_1190 : G_1163 q_266 = some (22, .inr (3, [.int (nI 0), .ref a_293, .ref b_294])) := (o_1166 _ (fun e => by subst e; rw [f_1131] at z_1164; cases z_1164)).trans f_1131
            have f_1191 : G_1163 q_344 = some (23, .inr (3, [.int (nI 0), .ref a_374, .ref b_375])) := (o_1166 _ (fun e => by subst e; rw [f_1132] at z_1164; cases z_1164)).trans f_1132
            have f_1192 : G_1163 h = some (31, .inr (8, [.ref q_1, .int (nI 0), .ref q_24, .int (nI 0), .ref q_50, .ref q_87, .ref q_137, .ref q_197, .ref q_266, .ref q_344, .ref r_434, .ref r_494, .ref r_556, .ref r_620])) := (o_1166 _ (fun e => by subst e; rw [f_1133] at z_1164; cases z_1164)).trans f_1133
            have f_1193 : G_1163 q_684 = some (40, .inr (5, [.ref a_721, .ref a_722, .int (nI 0)])) := (o_1166 _ (fun e => by subst e; rw [f_1134] at z_1164; cases z_1164)).trans f_1134
            have f_1194 : G_1163 a_721 = some (50, .inl (cA 2, 16, .inr (.inr (.inr (.inr (fun _ => none)))))) := (o_1166 _ (fun e => by subst e; rw [f_1135] at z_1164; cases z_1164)).trans f_1135
            have f_1195 : G_1163 a_722 = some (60, .inl (cA 2, 16, .inr (.inr (.inr (.inr (fun _ => none)))))) := (o_1166 _ (fun e => by subst e; rw [f_1136] at z_1164; cases z_1164)).trans f_1136
            have f_1196 : G_1163 q_790 = some (41, .inr (5, [.ref a_830, .ref a_831, .int (nI 0)])) := (o_1166 _ (fun e => by subst e; rw [f_1137] at z_1164; cases z_1164)).trans f_1137
            have f_1197 : G_1163 a_830 = some (51, .inl (cA 2, 16, .inr (.inr (.inr (.inr (fun _ => none)))))) := (o_1166 _ (fun e => by subst e; rw [f_1138] at z_1164; cases z_1164)).trans f_1138
            have f_1198 : G_1163 a_831 = some (61, .inl (cA 2, 16, .inr (.inr (.inr (.inr (fun _ => none)))))) := (o_1166 _ (fun e => by subst e; rw [f_1139] at z_1164; cases z_1164)).trans f_1139
            have f_1199 : G_1163 q_905 = some (42, .inr (5, [.ref a_948, .ref a_949, .int (nI 0)])) := (o_1166 _ (fun e => by subst e; rw [f_1140] at z_1164; cases z_1164)).trans f_1140
            have f_1200 : G_1163 a_948 = some (52, .inl (cA 2, 16, .inr (.inr (.inr (.inr (fun _ => none)))))) := (o_1166 _ (fun e => by subst e; rw [f_1141] at z_1164; cases z_1164)).trans f_1141
            have f_1201 : G_1163 a_949 = some (62, .inl (cA 2, 16, .inr (.inr (.inr (.inr (fun _ => none)))))) := (o_1166 _ (fun e => by subst e; rw [f_1142] at z_1164; cases z_1164)).trans f_1142
            have f_1202 : G_1163 q_1029 = some (43, .inr (5, [.ref a_1075, .ref a_1076, .int (nI 0)])) := (o_1166 _ (fun e => by subst e; rw [f_1143] at z_1164; cases z_1164)).trans f_1143
            have f_1203 : G_1163 a_1075 = some (53, .inl (cA 2, 16, .inr (.inr (.inr (.inr (fun _ => none)))))) := (o_1166 _ (fun e => by subst e; rw [f_1144] at z_1164; cases z_1164)).trans f_1144
            have f_1204 : G_1163 a_1076 = some (63, .inl (cA 2, 16, .inr (.inr (.inr (.inr (fun _ => none)))))) := (o_1166 _ (fun e => by subst e; rw [f_1145] at z_1164; cases z_1164)).trans f_1145
            have f_1205 : G_1163 q_24 = some (33, .inl (cA 3, 8, .inr (.inr (.inr (.inr (va_up (va_up (va_up (va_up (fun _ => none) 0 (some q_684)) 1 (some q_790)) 2 (some q_905)) 3 (some q_1029))))))) := (o_1166 _ (fun e => by subst e; rw [f_1120] at z_1164; cases z_1164)).trans f_1120
            have z_1206 : G q_1162 = none := gex_0 x_1146 z_1164 (fun z => by have z := z.symm; subst z; rw [f_1133] at z_1164; cases z_1164)
            have x_1207 : gex (fun x => x = h) G G_1163 := gex_new x_1146 z_1164 o_1166
            refine g_Beq (B' := (B_618.1 + 1 + 1 + 1 + 1 + 1 + 1 + 1 + 1 + 1 + 1 + 1 + 1 + 1, B_618.2 + 3 + 16 + 16 + 3 + 16 + 16 + 3 + 16 + 16 + 3 + 16 + 16 + 3)) rfl ?_
            refine gs (pc' := 169) (fun _ _ _ _ _ hl => lv_dup hx hb d_Mf_init_168 rfl) ?_
            obtain ⟨⟨hN1, hN2, hN3, hN4, -, -, -⟩, -⟩ := id hZ
            refine g_outv hlo (g_runIN (b := q_1162) (As := []) (rest := [.ref q_1162, .int (nI 4), .ref q_24]) ⟨hx, hb, hml, hown, hts⟩ hK hZ hRc hRs (c_Ro_init l D cA lo MC MS G_1163 (B_618.1 + 1 + 1 + 1 + 1 + 1 + 1 + 1 + 1 + 1 + 1 + 1 + 1 + 1, B_618.2 + 3 + 16 + 16 + 3 + 16 + 16 + 3 + 16 + 16 + 3 + 16 + 16 + 3) 44 54 64 q_1162 (by decide) (by decide) (by decide) f_1165 (show B_618.1 + 1 + 1 + 1 + 1 + 1 + 1 + 1 + 1 + 1 + 1 + 1 + 1 + 1 + 2 ≤ MC by omega) (show B_618.2 + 3 + 16 + 16 + 3 + 16 + 16 + 3 + 16 + 16 + 3 + 16 + 16 + 3 + 32 ≤ MS by omega) (show B_618.1 + 1 + 1 + 1 + 1 + 1 + 1 + 1 + 1 + 1 + 1 + 1 + 1 + 1 ≤ MC by omega) (show B_618.2 + 3 + 16 + 16 + 3 + 16 + 16 + 3 + 16 + 16 + 3 + 16 + 16 + 3 ≤ MS by omega)) (fun _ _ => ⟨va_cnB 0 hts (tb_good k_Ro_init) rfl rfl rfl hN4 (hts _ wm11) (by decide +kernel) ⟨by rw [hRf]; exact Nat.le_of_ble_eq_true rfl, by rw [hRl]; exact Nat.le_of_ble_eq_true rfl⟩, rfl, hts _ wm218⟩) (show B_618.1 + 1 + 1 + 1 + 1 + 1 + 1 + 1 + 1 + 1 + 1 + 1 + 1 + 1 ≤ MC by omega) (show B_618.2 + 3 + 16 + 16 + 3 + 16 + 16 + 3 + 16 + 16 + 3 + 16 + 16 + 3 ≤ MS by omega) rfl (Nat.le_of_ble_eq_true rfl) d_Mf_init_169) (fun G_1208 B_1209 p_1210 => ?_)
            obtain ⟨a_1211, a_1212, f_1213, f_1214, f_1215, x_1216, e_1217⟩ := p_1210
            have fr_1218 : gfr (fun y => y = 44) G_1163 G_1208 := gfr_gex x_1216 f_1165
            have n_1219 : isN cA G_1208 24 11 a_158 0 := isN_fr n_1168 fr_1218 (show ¬ (11 : Nat) = 44 by decide)
            have n_1220 : isN cA G_1208 24 12 b_159 0 := isN_fr n_1169 fr_1218 (show ¬ (12 : Nat) = 44 by decide)
            have n_1221 : isN cA G_1208 24 13 a_221 0 := isN_fr n_1170 fr_1218 (show ¬ (13 : Nat) = 44 by decide)
            have n_1222 : isN cA G_1208 24 14 b_222 0 := isN_fr n_1171 fr_1218 (show ¬ (14 : Nat) = 44 by decide)
            have n_1223 : isN cA G_1208 24 15 a_293 0 := isN_fr n_1172 fr_1218 (show ¬ (15 : Nat) = 44 by decide)
            have n_1224 : isN cA G_1208 24 16 b_294 0 := isN_fr n_1173 fr_1218 (show ¬ (16 : Nat) = 44 by decide)
            have n_1225 : isN cA G_1208 24 17 a_374 0 := isN_fr n_1174 fr_1218 (show ¬ (17 : Nat) = 44 by decide)
            have n_1226 : isN cA G_1208 24 18 b_375 0 := isN_fr n_1175 fr_1218 (show ¬ (18 : Nat) = 44 by decide)
            have n_1227 : ∀ t9, t9 < 11 → isN cA G_1208 24 t9 (ad t9) 0 := fun t9 h9 => isN_fr (n_1176 t9 h9) fr_1218 (show ¬ t9 = 44 by omega)
            have n_1228 : rf cA G_1208 (fun x => x = 30) r_434 ((0 : Nat) : Int) 1 := rf_fr n_1177 fr_1218 (fun t9 h9 => by have h9 : t9 = 30 := h9; show ¬ t9 = 44; omega)
            have n_1229 : rf cA G_1208 (fun x => x = 30) r_494 ((4 : Nat) : Int) 1 := rf_fr n_1178 fr_1218 (fun t9 h9 => by have h9 : t9 = 30 := h9; show ¬ t9 = 44; omega)
            have n_1230 : rf cA G_1208 (fun x => x = 30) r_556 ((1 : Nat) : Int) 2 := rf_fr n_1179 fr_1218 (fun t9 h9 => by have h9 : t9 = 30 := h9; show ¬ t9 = 44; omega)
            have n_1231 : rf cA G_1208 (fun x => x = 30) r_620 ((1 : Nat) : Int) 6 := rf_fr n_1180 fr_1218 (fun t9 h9 => by have h9 : t9 = 30 := h9; show ¬ t9 = 44; omega)
            have e_1217 : B_1209 = (B_618.1 + 1 + 1 + 1 + 1 + 1 + 1 + 1 + 1 + 1 + 1 + 1 + 1 + 1 + 1 + 1, B_618.2 + 3 + 16 + 16 + 3 + 16 + 16 + 3 + 16 + 16 + 3 + 16 + 16 + 3 + 16 + 16) := e_1217
            subst e_1217
            have f_1232 : G_1208 q_1 = some (32, .inl (cA 2, 200, .inr (.inr (.inr (.inr (fun _ => none)))))) := x_1216 _ _ f_1181 (gne f_1181 f_1165 (fun e => by cases e))
            have f_1233 : G_1208 q_50 = some (35, .inr (7, [.ref a_64, .ref a_65, .int (nI 0)])) := x_1216 _ _ f_1182 (gne f_1182 f_1165 (fun e => by cases e))
            have f_1234 : G_1208 a_64 = some (36, .inl (cA 0, 12, .inl (fun _ => 0))) := x_1216 _ _ f_1183 (gne f_1183 f_1165 (fun e => by cases e))
            have f_1235 : G_1208 a_65 = some (37, .inl (cA 1, 12, .inr (.inl (fun _ => 0)))) := x_1216 _ _ f_1184 (gne f_1184 f_1165 (fun e => by cases e))
            have f_1236 : G_1208 q_87 = some (30, .inr (0, [.ref hd, .ref hc, .ref (ad 5), .ref (ad 6), .ref (ad 7), .ref (ad 8), .ref (ad 9), .ref (ad 10)])) := x_1216 _ _ f_1185 (gne f_1185 f_1165 (fun e => by cases e))
            have f_1237 : G_1208 hd = some (30, .inr (2, [.ref (ad 0), .ref (ad 1), .ref (ad 2)])) := x_1216 _ _ f_1186 (gne f_1186 f_1165 (fun e => by cases e))
            have f_1238 : G_1208 hc = some (19, .inr (1, [.ref hd, .ref (ad 3), .ref (ad 4), .long l_109, .long l_110, .long l_111, .long l_112])) := x_1216 _ _ f_1187 (gne f_1187 f_1165 (fun e => by cases e))
            have f_1239 : G_1208 q_137 = some (20, .inr (3, [.int (nI 0), .ref a_158, .ref b_159])) := x_1216 _ _ f_1188 (gne f_1188 f_1165 (fun e => by cases e))
            have f_1240 : G_1208 q_197 = some (21, .inr (3, [.int (nI 0), .ref a_221, .ref b_222])) := x_1216 _ _ f_1189 (gne f_1189 f_1165 (fun e => by cases e))
            have f_1241 : G_1208 q_266 = some (22, .inr (3, [.int (nI 0), .ref a_293, .ref b_294])) := x_1216 _ _ f_1190 (gne f_1190 f_1165 (fun e => by cases e))
            have f_1242 : G_1208 q_344 = some (23, .inr (3, [.int (nI 0), .ref a_374, .ref b_375])) := x_1216 _ _ f_1191 (gne f_1191 f_1165 (fun e => by cases e))
            have f_1243 : G_1208 h = some (31, .inr (8, [.ref q_1, .int (nI 0), .ref q_24, .int (nI 0), .ref q_50, .ref q_87, .ref q_137, .ref q_197, .ref q_266, .ref q_344, .ref r_434, .ref r_494, .ref r_556, .ref r_620])) := x_1216 _ _ f_1192 (gne f_1192 f_1165 (fun e => by cases e))
            have f_1244 : G_1208 q_684 = some (40, .inr (5, [.ref a_721, .ref a_722, .int (nI 0)])) := x_1216 _ _ f_1193 (gne f_1193 f_1165 (by simp))
            have f_1245 : G_1208 a_721 = some (50, .inl (cA 2, 16, .inr (.inr (.inr (.inr (fun _ => none)))))) := x_1216 _ _ f_1194 (gne f_1194 f_1165 (fun e => by cases e))
            have f_1246 : G_1208 a_722 = some (60, .inl (cA 2, 16, .inr (.inr (.inr (.inr (fun _ => none)))))) := x_1216 _ _ f_1195 (gne f_1195 f_1165 (fun e => by cases e))
            have f_1247 : G_1208 q_790 = some (41, .inr (5, [.ref a_830, .ref a_831, .int (nI 0)])) := x_1216 _ _ f_1196 (gne f_1196 f_1165 (by simp))
            have f_1248 : G_1208 a_830 = some (51, .inl (cA 2, 16, .inr (.inr (.inr (.inr (fun _ => none)))))) := x_1216 _ _ f_1197 (gne f_1197 f_1165 (fun e => by cases e))
            have f_1249 : G_1208 a_831 = some (61, .inl (cA 2, 16, .inr (.inr (.inr (.inr (fun _ => none)))))) := x_1216 _ _ f_1198 (gne f_1198 f_1165 (fun e => by cases e))
            have f_1250 : G_1208 q_905 = some (42, .inr (5, [.ref a_948, .ref a_949, .int (nI 0)])) := x_1216 _ _ f_1199 (gne f_1199 f_1165 (by simp))
            have f_1251 : G_1208 a_948 = some (52, .inl (cA 2, 16, .inr (.inr (.inr (.inr (fun _ => none)))))) := x_1216 _ _ f_1200 (gne f_1200 f_1165 (fun e => by cases e))
            have f_1252 : G_1208 a_949 = some (62, .inl (cA 2, 16, .inr (.inr (.inr (.inr (fun _ => none)))))) := x_1216 _ _ f_1201 (gne f_1201 f_1165 (fun e => by cases e))
            have f_1253 : G_1208 q_1029 = some (43, .inr (5, [.ref a_1075, .ref a_1076, .int (nI 0)])) := x_1216 _ _ f_1202 (gne f_1202 f_1165 (by simp))
            have f_1254 : G_1208 a_1075 = some (53, .inl (cA 2, 16, .inr (.inr (.inr (.inr (fun _ => none)))))) := x_1216 _ _ f_1203 (gne f_1203 f_1165 (fun e => by cases e))
            have f_1255 : G_1208 a_1076 = some (63, .inl (cA 2, 16, .inr (.inr (.inr (.inr (fun _ => none)))))) := x_1216 _ _ f_1204 (gne f_1204 f_1165 (fun e => by cases e))
            have f_1256 : G_1208 q_24 = some (33, .inl (cA 3, 8, .inr (.inr (.inr (.inr (va_up (va_up (va_up (va_up (fun _ => none) 0 (some q_684)) 1 (some q_790)) 2 (some q_905)) 3 (some q_1029))))))) := x_1216 _ _ f_1205 (gne f_1205 f_1165 (fun e => by cases e))
            have x_1257 : gex (fun x => x = h) G G_1208 := gex_tr x_1207 x_1216 (fun x y hx9 _ e => by subst e; rw [z_1206] at hx9; cases hx9)
            refine g_aast hx hb hK 3 5 f_1256 rfl f_1213 rfl (show vp_in (nI 4) 8 from vp_in_nI (by omega) (by omega)) d_Mf_init_172 (fun G_1258 f_1259 o_1260 => ?_)
            rw [nI_clamp (by omega)] at f_1259
            have f_1261 : G_1258 q_1 = some (32, .inl (cA 2, 200, .inr (.inr (.inr (.inr (fun _ => none)))))) := (o_1260 _ (gne f_1232 f_1256 (by simp))).trans f_1232
            have f_1262 : G_1258 q_50 = some (35, .inr (7, [.ref a_64, .ref a_65, .int (nI 0)])) := (o_1260 _ (gne f_1233 f_1256 (fun e => by cases e))).trans f_1233
            have f_1263 : G_1258 a_64 = some (36, .inl (cA 0, 12, .inl (fun _ => 0))) := (o_1260 _ (gne f_1234 f_1256 (by simp))).trans f_1234
            have f_1264 : G_1258 a_65 = some (37, .inl (cA 1, 12, .inr (.inl (fun _ => 0)))) := (o_1260 _ (gne f_1235 f_1256 (by simp))).trans f_1235
            have f_1265 : G_1258 q_87 = some (30, .inr (0, [.ref hd, .ref hc, .ref (ad 5), .ref (ad 6), .ref (ad 7), .ref (ad 8), .ref (ad 9), .ref (ad 10)])) := (o_1260 _ (gne f_1236 f_1256 (fun e => by cases e))).trans f_1236
            have f_1266 : G_1258 hd = some (30, .inr (2, [.ref (ad 0), .ref (ad 1), .ref (ad 2)])) := (o_1260 _ (gne f_1237 f_1256 (fun e => by cases e))).trans f_1237
            have f_1267 : G_1258 hc = some (19, .inr (1, [.ref hd, .ref (ad 3), .ref (ad 4), .long l_109, .long l_110, .long l_111, .long l_112])) := (o_1260 _ (gne f_1238 f_1256 (fun e => by cases e))).trans f_1238
            have f_1268 : G_1258 q_137 = some (20, .inr (3, [.int (nI 0), .ref a_158, .ref b_159])) := (o_1260 _ (gne f_1239 f_1256 (fun e => by cases e))).trans f_1239
            have f_1269 : G_1258 q_197 = some (21, .inr (3, [.int (nI 0), .ref a_221, .ref b_222])) := (o_1260 _ (gne f_1240 f_1256 (fun e => by cases e))).trans f_1240
            have f_1270 : G_1258 q_266 = some (22, .inr (3, [.int (nI 0), .ref a_293, .ref b_294])) := (o_1260 _ (gne f_1241 f_1256 (fun e => by cases e))).trans f_1241
            have f_1271 : G_1258 q_344 = some (23, .inr (3, [.int (nI 0), .ref a_374, .ref b_375])) := (o_1260 _ (gne f_1242 f_1256 (fun e => by cases e))).trans f_1242
            have f_1272 : G_1258 h = some (31, .inr (8, [.ref q_1, .int (nI 0), .ref q_24, .int (nI 0), .ref q_50, .ref q_87, .ref q_137, .ref q_197, .ref q_266, .ref q_344, .ref r_434, .ref r_494, .ref r_556, .ref r_620])) := (o_1260 _ (gne f_1243 f_1256 (fun e => by cases e))).trans f_1243
            have f_1273 : G_1258 q_684 = some (40, .inr (5, [.ref a_721, .ref a_722, .int (nI 0)])) := (o_1260 _ (gne f_1244 f_1256 (fun e => by cases e))).trans f_1244
            have f_1274 : G_1258 a_721 = some (50, .inl (cA 2, 16, .inr (.inr (.inr (.inr (fun _ => none)))))) := (o_1260 _ (gne f_1245 f_1256 (by simp))).trans f_1245
            have f_1275 : G_1258 a_722 = some (60, .inl (cA 2, 16, .inr (.inr (.inr (.inr (fun _ => none)))))) := (o_1260 _ (gne f_1246 f_1256 (by simp))).trans f_1246
            have f_1276 : G_1258 q_790 = some (41, .inr (5, [.ref a_830, .ref a_831, .int (nI 0)])) := (o_1260 _ (gne f_1247 f_1256 (fun e => by cases e))).trans f_1247
            have f_1277 : G_1258 a_830 = some (51, .inl (cA 2, 16, .inr (.inr (.inr (.inr (fun _ => none)))))) := (o_1260 _ (gne f_1248 f_1256 (by simp))).trans f_1248
            have f_1278 : G_1258 a_831 = some (61, .inl (cA 2, 16, .inr (.inr (.inr (.inr (fun _ => none)))))) := (o_1260 _ (gne f_1249 f_1256 (by simp))).trans f_1249
            have f_1279 : G_1258 q_905 = some (42, .inr (5, [.ref a_948, .ref a_949, .int (nI 0)])) := (o_1260 _ (gne f_1250 f_1256 (fun e => by cases e))).trans f_1250
            have f_1280 : G_1258 a_948 = some (52, .inl (cA 2, 16, .inr (.inr (.inr (.inr (fun _ => none)))))) := (o_1260 _ (gne f_1251 f_1256 (by simp))).trans f_1251
            have f_1281 : G_1258 a_949 = some (62, .inl (cA 2, 16, .inr (.inr (.inr (.inr (fun _ => none)))))) := (o_1260 _ (gne f_1252 f_1256 (by simp))).trans f_1252
            have f_1282 : G_1258 q_1029 = some (43, .inr (5, [.ref a_1075, .ref a_1076, .int (nI 0)])) := (o_1260 _ (gne f_1253 f_1256 (fun e => by cases e))).trans f_1253
            have f_1283 : G_1258 a_1075 = some (53, .inl (cA 2, 16, .inr (.inr (.inr (.inr (fun _ => none)))))) := (o_1260 _ (gne f_1254 f_1256 (by simp))).trans f_1254
            have f_1284 : G_1258 a_1076 = some (63, .inl (cA 2, 16, .inr (.inr (.inr (.inr (fun _ => none)))))) := (o_1260 _ (gne f_1255 f_1256 (by simp))).trans f_1255
            have f_1285 : G_1258 q_1162 = some (44, .inr (5, [.ref a_1211, .ref a_1212, .int (nI 0)])) := (o_1260 _ (gne f_1213 f_1256 (fun e => by cases e))).trans f_1213
            have f_1286 : G_1258 a_1211 = some (54, .inl (cA 2, 16, .inr (.inr (.inr (.inr (fun _ => none)))))) := (o_1260 _ (gne f_1214 f_1256 (by simp))).trans f_1214
            have f_1287 : G_1258 a_1212 = some (64, .inl (cA 2, 16, .inr (.inr (.inr (.inr (fun _ => none)))))) := (o_1260 _ (gne f_1215 f_1256 (by simp))).trans f_1215
            have x_1288 : gex (fun x => x = h) G G_1258 := gex_put x_1257 o_1260 (Or.inr z_32)
            have fr_1289 : gfr (fun y => y = 33) G_1208 G_1258 := gfr_put gfr_rf f_1256 rfl o_1260
            have n_1290 : isN cA G_1258 24 11 a_158 0 := isN_fr n_1219 fr_1289 (show ¬ (11 : Nat) = 33 by decide)
            have n_1291 : isN cA G_1258 24 12 b_159 0 := isN_fr n_1220 fr_1289 (show ¬ (12 : Nat) = 33 by decide)
            have n_1292 : isN cA G_1258 24 13 a_221 0 := isN_fr n_1221 fr_1289 (show ¬ (13 : Nat) = 33 by decide)
            have n_1293 : isN cA G_1258 24 14 b_222 0 := isN_fr n_1222 fr_1289 (show ¬ (14 : Nat) = 33 by decide)
            have n_1294 : isN cA G_1258 24 15 a_293 0 := isN_fr n_1223 fr_1289 (show ¬ (15 : Nat) = 33 by decide)
            have n_1295 : isN cA G_1258 24 16 b_294 0 := isN_fr n_1224 fr_1289 (show ¬ (16 : Nat) = 33 by decide)
            have n_1296 : isN cA G_1258 24 17 a_374 0 := isN_fr n_1225 fr_1289 (show ¬ (17 : Nat) = 33 by decide)
            have n_1297 : isN cA G_1258 24 18 b_375 0 := isN_fr n_1226 fr_1289 (show ¬ (18 : Nat) = 33 by decide)
            have n_1298 : ∀ t9, t9 < 11 → isN cA G_1258 24 t9 (ad t9) 0 := fun t9 h9 => isN_fr (n_1227 t9 h9) fr_1289 (show ¬ t9 = 33 by omega)
            have n_1299 : rf cA G_1258 (fun x => x = 30) r_434 ((0 : Nat) : Int) 1 := rf_fr n_1228 fr_1289 (fun t9 h9 => by have h9 : t9 = 30 := h9; show ¬ t9 = 33; omega)
            have n_1300 : rf cA G_1258 (fun x => x = 30) r_494 ((4 : Nat) : Int) 1 := rf_fr n_1229 fr_1289 (fun t9 h9 => by have h9 : t9 = 30 := h9; show ¬ t9 = 33; omega)
            have n_1301 : rf cA G_1258 (fun x => x = 30) r_556 ((1 : Nat) : Int) 2 := rf_fr n_1230 fr_1289 (fun t9 h9 => by have h9 : t9 = 30 := h9; show ¬ t9 = 33; omega)
            have n_1302 : rf cA G_1258 (fun x => x = 30) r_620 ((1 : Nat) : Int) 6 := rf_fr n_1231 fr_1289 (fun t9 h9 => by have h9 : t9 = 30 := h9; show ¬ t9 = 33; omega)
            refine gst (pc' := 176) (L' := [(1, .int (nI 5)), (0, .ref h)]) (fun _ _ _ _ _ hl => lv_iinc (v := nI 5) hx hb d_Mf_init_173 hl (k := 0) rfl (by decide) (by decide) rfl) ?_
            refine gs (pc' := 154) (fun _ _ _ _ _ hl => lv_goto (tgt := 154) hx hb d_Mf_init_176 (by decide)) ?_
            refine gs (pc' := 155) (fun _ _ _ _ _ hl => lv_iload_n hx hb d_Mf_init_154 rfl (lv_at hl 0 rfl)) ?_
            refine gs (pc' := 157) (fun _ _ _ _ _ hl => lv_bipush (v := nI 8) hx hb d_Mf_init_155 (by decide)) ?_
            refine gsb (pc1 := 179) (pc2 := 160) (fun _ _ _ _ _ => lv_icmp_ge (tgt := 179) hx hb d_Mf_init_157 (by decide)) (fun c_1303 => ?_) (fun c_1303 => ?_)
            · skip
              have nc_1303 : 5 ≥ 8 := (nn_ge (a := 5) (b := 8) (by omega) (by omega)).1 c_1303
              exact absurd nc_1303 (by decide)
            · skip
              have nc_1303 : 5 < 8 := (nn_ge (a := 5) (b := 8) (by omega) (by omega)).2 c_1303
              refine gs (pc' := 161) (fun _ _ _ _ _ hl => lv_aload_n hx hb d_Mf_init_160 rfl (lv_at hl 1 rfl)) ?_
              refine g_get hx hb hts hin_Mf hown hK f_1272 rfl 2 (by decide) (hts _ wm237) (fun _ h9 => h9) rfl d_Mf_init_161 ?_
              refine gs (pc' := 165) (fun _ _ _ _ _ hl => lv_iload_n hx hb d_Mf_init_164 rfl (lv_at hl 0 rfl)) ?_
              refine g_new hx hb hts hin_Ro ty_Ro ty_Ro_ok hown (hts _ wm30) (hts _ wm216) (hts _ wm11) hK (ci := 5) rfl (fs := [.null, .null, .int (nI 0)]) (fun j => match j with | 0 => fun _ => rfl | 1 => fun _ => rfl | 2 => fun _ => rfl | n + 3 => fun h9 => absurd h9 (by omega)) hlo hRc hRs (show B_618.1 + 1 + 1 + 1 + 1 + 1 + 1 + 1 + 1 + 1 + 1 + 1 + 1 + 1 + 1 + 1 + 1 ≤ MC by omega) (show B_618.2 + 3 + 16 + 16 + 3 + 16 + 16 + 3 + 16 + 16 + 3 + 16 + 16 + 3 + 16 + 16 + 3 ≤ MS by omega) d_Mf_init_165 45 (fun q_1304 G_1305 z_1306 f_1307 o_1308 => ?_)
              have fr_1309 : gfr (fun y => y = 1000) G_1258 G_1305 := gfr_new gfr_rf z_1306 o_1308
              have n_1310 : isN cA G_1305 24 11 a_158 0 := isN_fr n_1290 fr_1309 (show ¬ (11 : Nat) = 1000 by decide)
              have n_1311 : isN cA G_1305 24 12 b_159 0 := isN_fr n_1291 fr_1309 (show ¬ (12 : Nat) = 1000 by decide)
              have n_1312 : isN cA G_1305 24 13 a_221 0 := isN_fr n_1292 fr_1309 (show ¬ (13 : Nat) = 1000 by decide)
              have n_1313 : isN cA G_1305 24 14 b_222 0 := isN_fr n_1293 fr_1309 (show ¬ (14 : Nat) = 1000 by decide)
              have n_1314 : isN cA G_1305 24 15 a_293 0 := isN_fr n_1294 fr_1309 (show ¬ (15 : Nat) = 1000 by decide)
              have n_1315 : isN cA G_1305 24 16 b_294 0 := isN_fr n_1295 fr_1309 (show ¬ (16 : Nat) = 1000 by decide)
              have n_1316 : isN cA G_1305 24 17 a_374 0 := isN_fr n_1296 fr_1309 (show ¬ (17 : Nat) = 1000 by decide)
              have n_1317 : isN cA G_1305 24 18 b_375 0 := isN_fr n_1297 fr_1309 (show ¬ (18 : Nat) = 1000 by decide)
              have n_1318 : ∀ t9, t9 < 11 → isN cA G_1305 24 t9 (ad t9) 0 := fun t9 h9 => isN_fr (n_1298 t9 h9) fr_1309 (show ¬ t9 = 1000 by omega)
              have n_1319 : rf cA G_1305 (fun x => x = 30) r_434 ((0 : Nat) : Int) 1 := rf_fr n_1299 fr_1309 (fun t9 h9 => by have h9 : t9 = 30 := h9; show ¬ t9 = 1000; omega)
              have n_1320 : rf cA G_1305 (fun x => x = 30) r_494 ((4 : Nat) : Int) 1 := rf_fr n_1300 fr_1309 (fun t9 h9 => by have h9 : t9 = 30 := h9; show ¬ t9 = 1000; omega)
              have n_1321 : rf cA G_1305 (fun x => x = 30) r_556 ((1 : Nat) : Int) 2 := rf_fr n_1301 fr_1309 (fun t9 h9 => by have h9 : t9 = 30 := h9; show ¬ t9 = 1000; omega)
              have n_1322 : rf cA G_1305 (fun x => x = 30) r_620 ((1 : Nat) : Int) 6 := rf_fr n_1302 fr_1309 (fun t9 h9 => by have h9 : t9 = 30 := h9; show ¬ t9 = 1000; omega)
              have f_1323 : G_1305 q_1 = some (32, .inl (cA 2, 200, .inr (.inr (.inr (.inr (fun _ => none)))))) := (o_1308 _ (fun e => by subst e; rw [f_1261] at z_1306; cases z_1306)).trans f_1261
              have f_1324 : G_1305 q_50 = some (35, .inr (7, [.ref a_64, .ref a_65, .int (nI 0)])) := (o_1308 _ (fun e => by subst e; rw [f_1262] at z_1306; cases z_1306)).trans f_1262
              have f_1325 : G_1305 a_64 = some (36, .inl (cA 0, 12, .inl (fun _ => 0))) := (o_1308 _ (fun e => by subst e; rw [f_1263] at z_1306; cases z_1306)).trans f_1263
              have f_1326 : G_1305 a_65 = some (37, .inl (cA 1, 12, .inr (.inl (fun _ => 0)))) := (o_1308 _ (fun e => by subst e; rw [f_1264] at z_1306; cases z_1306)).trans f_1264
              have f_1327 : G_1305 q_87 = some (30, .inr (0, [.ref hd, .ref hc, .ref (ad 5), .ref (ad 6), .ref (ad 7), .ref (ad 8), .ref (ad 9), .ref (ad 10)])) := (o_1308 _ (fun e => by subst e; rw [f_1265] at z_1306; cases z_1306)).trans f_1265
              have f_1328 : G_1305 hd = some (30, .inr (2, [.ref (ad 0), .ref (ad 1), .ref (ad 2)])) := (o_1308 _ (fun e => by subst e; rw [f_1266] at z_1306; cases z_1306)).trans f_1266
              have f_1329 : G_1305 hc = some (19, .inr (1, [.ref hd, .ref (ad 3), .ref (ad 4), .long l_109, .long l_110, .long l_111, .long l_112])) := (o_1308 _ (fun e => by subst e; rw [f_1267] at z_1306; cases z_1306)).trans f_1267
              have f_1330 : G_1305 q_137 = some (20, .inr (3, [.int (nI 0), .ref a_158, .ref b_159])) := (o_1308 _ (fun e => by subst e; rw [f_1268] at z_1306; cases z_1306)).trans f_1268
              have f_1331 : G_1305 q_197 = some (21, .inr (3, [.int (nI 0), .ref a_221, .ref b_222])) := (o_1308 _ (fun e => by subst e; rw [f_1269] at z_1306; cases z_1306)).trans f_1269
              have f_1332 : G_1305 q_266 = some (22, .inr (3, [.int (nI 0), .ref a_293, .ref b_294])) := (o_1308 _ (fun e => by subst e; rw [f_1270] at z_1306; cases z_1306)).trans f_1270
              have f_1333 : G_1305 q_344 = some (23, .inr (3, [.int (nI 0), .ref a_374, .ref b_375])) := (o_1308 _ (fun e => by subst e; rw [f_1271] at z_1306; cases z_1306)).trans f_1271
              have f_1334 : G_1305 h = some (31, .inr (8, [.ref q_1, .int (nI 0), .ref q_24, .int (nI 0), .ref q_50, .ref q_87, .ref q_137, .ref q_197, .ref q_266, .ref q_344, .ref r_434, .ref r_494, .ref r_556, .ref r_620])) := (o_1308 _ (fun e => by subst e; rw [f_1272] at z_1306; cases z_1306)).trans f_1272
              have f_1335 : G_1305 q_684 = some (40, .inr (5, [.ref a_721, .ref a_722, .int (nI 0)])) := (o_1308 _ (fun e => by subst e; rw [f_1273] at z_1306; cases z_1306)).trans f_1273
              have f_1336 : G_1305 a_721 = some (50, .inl (cA 2, 16, .inr (.inr (.inr (.inr (fun _ => none)))))) := (o_1308 _ (fun e => by subst e; rw [f_1274] at z_1306; cases z_1306)).trans f_1274
              have f_1337 : G_1305 a_722 = some (60, .inl (cA 2, 16, .inr (.inr (.inr (.inr (fun _ => none)))))) := (o_1308 _ (fun e => by subst e; rw [f_1275] at z_1306; cases z_1306)).trans f_1275
              have f_1338 : G_1305 q_790 = some (41, .inr (5, [.ref a_830, .ref a_831, .int (nI 0)])) := (o_1308 _ (fun e => by subst e; rw [f_1276] at z_1306; cases z_1306)).trans f_1276
              have f_1339 : G_1305 a_830 = some (51, .inl (cA 2, 16, .inr (.inr (.inr (.inr (fun _ => none)))))) := (o_1308 _ (fun e => by subst e; rw [f_1277] at z_1306; cases z_1306)).trans f_1277
              have f_1340 : G_1305 a_831 = some (61, .inl (cA 2, 16, .inr (.inr (.inr (.inr (fun _ => none)))))) := (o_1308 _ (fun e => by subst e; rw [f_1278] at z_1306; cases z_1306)).trans f_1278
              have f_1341 : G_1305 q_905 = some (42, .inr (5, [.ref a_948, .ref a_949, .int (nI 0)])) := (o_1308 _ (fun e => by subst e; rw [f_1279] at z_1306; cases z_1306)).trans f_1279
              have f_1342 : G_1305 a_948 = some (52, .inl (cA 2, 16, .inr (.inr (.inr (.inr (fun _ => none)))))) := (o_1308 _ (fun e => by subst e; rw [f_1280] at z_1306; cases z_1306)).trans f_1280
              have f_1343 : G_1305 a_949 = some (62, .inl (cA 2, 16, .inr (.inr (.inr (.inr (fun _ => none)))))) := (o_1308 _ (fun e => by subst e; rw [f_1281] at z_1306; cases z_1306)).trans f_1281
              have f_1344 : G_1305 q_1029 = some (43, .inr (5, [.ref a_1075, .ref a_1076, .int (nI 0)])) := (o_1308 _ (fun e => by subst e; rw [f_1282] at z_1306; cases z_1306)).trans f_1282
              have f_1345 : G_1305 a_1075 = some (53, .inl (cA 2, 16, .inr (.inr (.inr (.inr (fun _ => none)))))) := (o_1308 _ (fun e => by subst e; rw [f_1283] at z_1306; cases z_1306)).trans f_1283
              have f_1346 : G_1305 a_1076 = some (63, .inl (cA 2, 16, .inr (.inr (.inr (.inr (fun _ => none)))))) := (o_1308 _ (fun e => by subst e; rw [f_1284] at z_1306; cases z_1306)).trans f_1284
              have f_1347 : G_1305 q_1162 = some (44, .inr (5, [.ref a_1211, .ref a_1212, .int (nI 0)])) := (o_1308 _ (fun e => by subst e; rw [f_1285] at z_1306; cases z_1306)).trans f_1285
              have f_1348 : G_1305 a_1211 = some (54, .inl (cA 2, 16, .inr (.inr (.inr (.inr (fun _ => none)))))) := (o_1308 _ (fun e => by subst e; rw [f_1286] at z_1306; cases z_1306)).trans f_1286
              have f_1349 : G_1305 a_1212 = some (64, .inl (cA 2, 16, .inr (.inr (.inr (.inr (fun _ => none)))))) := (o_1308 _ (fun e => by subst e; rw [f_1287] at z_1306; cases z_1306)).trans f_1287
              have f_1350 : G_1305 q_24 = some (33, .inl (cA 3, 8, .inr (.inr (.inr (.inr (va_up (va_up (va_up (va_up (va_up (fun _ => none) 0 (some q_684)) 1 (some q_790)) 2 (some q_905)) 3 (some q_1029)) 4 (some q_1162))))))) := (o_1308 _ (fun e => by subst e; rw [f_1259] at z_1306; cases z_1306)).trans f_1259
              have z_1351 : G q_1304 = none := gex_0 x_1288 z_1306 (fun z => by have z := z.symm; subst z; rw [f_1272] at z_1306; cases z_1306)
              have x_1352 : gex (fun x => x = h) G G_1305 := gex_new x_1288 z_1306 o_1308
              refine g_Beq (B' := (B_618.1 + 1 + 1 + 1 + 1 + 1 + 1 + 1 + 1 + 1 + 1 + 1 + 1 + 1 + 1 + 1 + 1, B_618.2 + 3 + 16 + 16 + 3 + 16 + 16 + 3 + 16 + 16 + 3 + 16 + 16 + 3 + 16 + 16 + 3)) rfl ?_
              refine gs (pc' := 169) (fun _ _ _ _ _ hl => lv_dup hx hb d_Mf_init_168 rfl) ?_
              obtain ⟨⟨hN1, hN2, hN3, hN4, -, -, -⟩, -⟩ := id hZ
              refine g_outv hlo (g_runIN (b := q_1304) (As := []) (rest := [.ref q_1304, .int (nI 5), .ref q_24]) ⟨hx, hb, hml, hown, hts⟩ hK hZ hRc hRs (c_Ro_init l D cA lo MC MS G_1305 (B_618.1 + 1 + 1 + 1 + 1 + 1 + 1 + 1 + 1 + 1 + 1 + 1 + 1 + 1 + 1 + 1 + 1, B_618.2 + 3 + 16 + 16 + 3 + 16 + 16 + 3 + 16 + 16 + 3 + 16 + 16 + 3 + 16 + 16 + 3) 45 55 65 q_1304 (by decide) (by decide) (by decide) f_1307 (show B_618.1 + 1 + 1 + 1 + 1 + 1 + 1 + 1 + 1 + 1 + 1 + 1 + 1 + 1 + 1 + 1 + 1 + 2 ≤ MC by omega) (show B_618.2 + 3 + 16 + 16 + 3 + 16 + 16 + 3 + 16 + 16 + 3 + 16 + 16 + 3 + 16 + 16 + 3 + 32 ≤ MS by omega) (show B_618.1 + 1 + 1 + 1 + 1 + 1 + 1 + 1 + 1 + 1 + 1 + 1 + 1 + 1 + 1 + 1 + 1 ≤ MC by omega) (show B_618.2 + 3 + 16 + 16 + 3 + 16 + 16 + 3 + 16 + 16 + 3 + 16 + 16 + 3 + 16 + 16 + 3 ≤ MS by omega)) (fun _ _ => ⟨va_cnB 0 hts (tb_good k_Ro_init) rfl rfl rfl hN4 (hts _ wm11) (by decide +kernel) ⟨by rw [hRf]; exact Nat.le_of_ble_eq_true rfl, by rw [hRl]; exact Nat.le_of_ble_eq_true rfl⟩, rfl, hts _ wm218⟩) (show B_618.1 + 1 + 1 + 1 + 1 + 1 + 1 + 1 + 1 + 1 + 1 + 1 + 1 + 1 + 1 + 1 + 1 ≤ MC by omega) (show B_618.2 + 3 + 16 + 16 + 3 + 16 + 16 + 3 + 16 + 16 + 3 + 16 + 16 + 3 + 16 + 16 + 3 ≤ MS by omega) rfl (Nat.le_of_ble_eq_true rfl) d_Mf_init_169) (fun G_1353 B_1354 p_1355 => ?_)
              obtain ⟨a_1356, a_1357, f_1358, f_1359, f_1360, x_1361, e_1362⟩ := p_1355
              have fr_1363 : gfr (fun y => y = 45) G_1305 G_1353 := gfr_gex x_1361 f_1307
              have n_1364 : isN cA G_1353 24 11 a_158 0 := isN_fr n_1310 fr_1363 (show ¬ (11 : Nat) = 45 by decide)
              have n_1365 : isN cA G_1353 24 12 b_159 0 := isN_fr n_1311 fr_1363 (show ¬ (12 : Nat) = 45 by decide)
              have n_1366 : isN cA G_1353 24 13 a_221 0 := isN_fr n_1312 fr_1363 (show ¬ (13 : Nat) = 45 by decide)
              have n_1367 : isN cA G_1353 24 14 b_222 0 := isN_fr n_1313 fr_1363 (show ¬ (14 : Nat) = 45 by decide)
              have n_1368 : isN cA G_1353 24 15 a_293 0 := isN_fr n_1314 fr_1363 (show ¬ (15 : Nat) = 45 by decide)
              have n_1369 : isN cA G_1353 24 16 b_294 0 := isN_fr n_1315 fr_1363 (show ¬ (16 : Nat) = 45 by decide)
              have n_1370 : isN cA G_1353 24 17 a_374 0 := isN_fr n_1316 fr_1363 (show ¬ (17 : Nat) = 45 by decide)
              have n_1371 : isN cA G_1353 24 18 b_375 0 := isN_fr n_1317 fr_1363 (show ¬ (18 : Nat) = 45 by decide)
              have n_1372 : ∀ t9, t9 < 11 → isN cA G_1353 24 t9 (ad t9) 0 := fun t9 h9 => isN_fr (n_1318 t9 h9) fr_1363 (show ¬ t9 = 45 by omega)
              have n_1373 : rf cA G_1353 (fun x => x = 30) r_434 ((0 : Nat) : Int) 1 := rf_fr n_1319 fr_1363 (fun t9 h9 => by have h9 : t9 = 30 := h9; show ¬ t9 = 45; omega)
              have n_1374 : rf cA G_1353 (fun x => x = 30) r_494 ((4 : Nat) : Int) 1 := rf_fr n_1320 fr_1363 (fun t9 h9 => by have h9 : t9 = 30 := h9; show ¬ t9 = 45; omega)
              have n_1375 : rf cA G_1353 (fun x => x = 30) r_556 ((1 : Nat) : Int) 2 := rf_fr n_1321 fr_1363 (fun t9 h9 => by have h9 : t9 = 30 := h9; show ¬ t9 = 45; omega)
              have n_1376 : rf cA G_1353 (fun x => x = 30) r_620 ((1 : Nat) : Int) 6 := rf_fr n_1322 fr_1363 (fun t9 h9 => by have h9 : t9 = 30 := h9; show ¬ t9 = 45; omega)
              have e_1362 : B_1354 = (B_618.1 + 1 + 1 + 1 + 1 + 1 + 1 + 1 + 1 + 1 + 1 + 1 + 1 + 1 + 1 + 1 + 1 + 1 + 1, B_618.2 + 3 + 16 + 16 + 3 + 16 + 16 + 3 + 16 + 16 + 3 + 16 + 16 + 3 + 16 + 16 + 3 + 16 + 16) := e_1362
              subst e_1362
              have f_1377 : G_1353 q_1 = some (32, .inl (cA 2, 200, .inr (.inr (.inr (.inr (fun _ => none)))))) := x_1361 _ _ f_1323 (gne f_1323 f_1307 (fun e => by cases e))
              have f_1378 : G_1353 q_50 = some (35, .inr (7, [.ref a_64, .ref a_65, .int (nI 0)])) := x_1361 _ _ f_1324 (gne f_1324 f_1307 (fun e => by cases e))
              have f_1379 : G_1353 a_64 = some (36, .inl (cA 0, 12, .inl (fun _ => 0))) := x_1361 _ _ f_1325 (gne f_1325 f_1307 (fun e => by cases e))
              have f_1380 : G_1353 a_65 = some (37, .inl (cA 1, 12, .inr (.inl (fun _ => 0)))) := x_1361 _ _ f_1326 (gne f_1326 f_1307 (fun e => by cases e))
              have f_1381 : G_1353 q_87 = some (30, .inr (0, [.ref hd, .ref hc, .ref (ad 5), .ref (ad 6), .ref (ad 7), .ref (ad 8), .ref (ad 9), .ref (ad 10)])) := x_1361 _ _ f_1327 (gne f_1327 f_1307 (fun e => by cases e))
              have f_1382 : G_1353 hd = some (30, .inr (2, [.ref (ad 0), .ref (ad 1), .ref (ad 2)])) := x_1361 _ _ f_1328 (gne f_1328 f_1307 (fun e => by cases e))
              have f_1383 : G_1353 hc = some (19, .inr (1, [.ref hd, .ref (ad 3), .ref (ad 4), .long l_109, .long l_110, .long l_111, .long l_112])) := x_1361 _ _ f_1329 (gne f_1329 f_1307 (fun e => by cases e))
              have f_1384 : G_1353 q_137 = some (20, .inr (3, [.int (nI 0), .ref a_158, .ref b_159])) := x_1361 _ _ f_1330 (gne f_1330 f_1307 (fun e => by cases e))
              have f_1385 : G_1353 q_197 = some (21, .inr (3, [.int (nI 0), .ref a_221, .ref b_222])) := x_1361 _ _ f_1331 (gne f_1331 f_1307 (fun e => by cases e))
              have f_1386 : G_1353 q_266 = some (22, .inr (3, [.int (nI 0), .ref a_293, .ref b_294])) := x_1361 _ _ f_1332 (gne f_1332 f_1307 (fun e => by cases e))
              have f_1387 : G_1353 q_344 = some (23, .inr (3, [.int (nI 0), .ref a_374, .ref b_375])) := x_1361 _ _ f_1333 (gne f_1333 f_1307 (fun e => by cases e))
              have f_1388 : G_1353 h = some (31, .inr (8, [.ref q_1, .int (nI 0), .ref q_24, .int (nI 0), .ref q_50, .ref q_87, .ref q_137, .ref q_197, .ref q_266, .ref q_344, .ref r_434, .ref r_494, .ref r_556, .ref r_620])) := x_1361 _ _ f_1334 (gne f_1334 f_1307 (fun e => by cases e))
              have f_1389 : G_1353 q_684 = some (40, .inr (5, [.ref a_721, .ref a_722, .int (nI 0)])) := x_1361 _ _ f_1335 (gne f_1335 f_1307 (by simp))
              have f_1390 : G_1353 a_721 = some (50, .inl (cA 2, 16, .inr (.inr (.inr (.inr (fun _ => none)))))) := x_1361 _ _ f_1336 (gne f_1336 f_1307 (fun e => by cases e))
              have f_1391 : G_1353 a_722 = some (60, .inl (cA 2, 16, .inr (.inr (.inr (.inr (fun _ => none)))))) := x_1361 _ _ f_1337 (gne f_1337 f_1307 (fun e => by cases e))
              have f_1392 : G_1353 q_790 = some (41, .inr (5, [.ref a_830, .ref a_831, .int (nI 0)])) := x_1361 _ _ f_1338 (gne f_1338 f_1307 (by simp))
              have f_1393 : G_1353 a_830 = some (51, .inl (cA 2, 16, .inr (.inr (.inr (.inr (fun _ => none)))))) := x_1361 _ _ f_1339 (gne f_1339 f_1307 (fun e => by cases e))
              have f_1394 : G_1353 a_831 = some (61, .inl (cA 2, 16, .inr (.inr (.inr (.inr (fun _ => none)))))) := x_1361 _ _ f_1340 (gne f_1340 f_1307 (fun e => by cases e))
              have f_1395 : G_1353 q_905 = some (42, .inr (5, [.ref a_948, .ref a_949, .int (nI 0)])) := x_1361 _ _ f_1341 (gne f_1341 f_1307 (by simp))
              have f_1396 : G_1353 a_948 = some (52, .inl (cA 2, 16, .inr (.inr (.inr (.inr (fun _ => none)))))) := x_1361 _ _ f_1342 (gne f_1342 f_1307 (fun e => by cases e))
              have f_1397 : G_1353 a_949 = some (62, .inl (cA 2, 16, .inr (.inr (.inr (.inr (fun _ => none)))))) := x_1361 _ _ f_1343 (gne f_1343 f_1307 (fun e => by cases e))
              have f_1398 : G_1353 q_1029 = some (43, .inr (5, [.ref a_1075, .ref a_1076, .int (nI 0)])) := x_1361 _ _ f_1344 (gne f_1344 f_1307 (by simp))
              have f_1399 : G_1353 a_1075 = some (53, .inl (cA 2, 16, .inr (.inr (.inr (.inr (fun _ => none)))))) := x_1361 _ _ f_1345 (gne f_1345 f_1307 (fun e => by cases e))
              have f_1400 : G_1353 a_1076 = some (63, .inl (cA 2, 16, .inr (.inr (.inr (.inr (fun _ => none)))))) := x_1361 _ _ f_1346 (gne f_1346 f_1307 (fun e => by cases e))
              have f_1401 : G_1353 q_1162 = some (44, .inr (5, [.ref a_1211, .ref a_1212, .int (nI 0)])) := x_1361 _ _ f_1347 (gne f_1347 f_1307 (by simp))
              have f_1402 : G_1353 a_1211 = some (54, .inl (cA 2, 16, .inr (.inr (.inr (.inr (fun _ => none)))))) := x_1361 _ _ f_1348 (gne f_1348 f_1307 (fun e => by cases e))
              have f_1403 : G_1353 a_1212 = some (64, .inl (cA 2, 16, .inr (.inr (.inr (.inr (fun _ => none)))))) := x_1361 _ _ f_1349 (gne f_1349 f_1307 (fun e => by cases e))
              have f_1404 : G_1353 q_24 = some (33, .inl (cA 3, 8, .inr (.inr (.inr (.inr (va_up (va_up (va_up (va_up (va_up (fun _ => none) 0 (some q_684)) 1 (some q_790)) 2 (some q_905)) 3 (some q_1029)) 4 (some q_1162))))))) := x_1361 _ _ f_1350 (gne f_1350 f_1307 (fun e => by cases e))
              have x_1405 : gex (fun x => x = h) G G_1353 := gex_tr x_1352 x_1361 (fun x y hx9 _ e => by subst e; rw [z_1351] at hx9; cases hx9)
              refine g_aast hx hb hK 3 5 f_1404 rfl f_1358 rfl (show vp_in (nI 5) 8 from vp_in_nI (by omega) (by omega)) d_Mf_init_172 (fun G_1406 f_1407 o_1408 => ?_)
              rw [nI_clamp (by omega)] at f_1407
              have f_1409 : G_1406 q_1 = some (32, .inl (cA 2, 200, .inr (.inr (.inr (.inr (fun _ => none)))))) := (o_1408 _ (gne f_1377 f_1404 (by simp))).trans f_1377
              have f_1410 : G_1406 q_50 = some (35, .inr (7, [.ref a_64, .ref a_65, .int (nI 0)])) := (o_1408 _ (gne f_1378 f_1404 (fun e => by cases e))).trans f_1378
              have f_1411 : G_1406 a_64 = some (36, .inl (cA 0, 12, .inl (fun _ => 0))) := (o_1408 _ (gne f_1379 f_1404 (by simp))).trans f_1379
              have f_1412 : G_1406 a_65 = some (37, .inl (cA 1, 12, .inr (.inl (fun _ => 0)))) := (o_1408 _ (gne f_1380 f_1404 (by simp))).trans f_1380
              have f_1413 : G_1406 q_87 = some (30, .inr (0, [.ref hd, .ref hc, .ref (ad 5), .ref (ad 6), .ref (ad 7), .ref (ad 8), .ref (ad 9), .ref (ad 10)])) := (o_1408 _ (gne f_1381 f_1404 (fun e => by cases e))).trans f_1381
              have f_1414 : G_1406 hd = some (30, .inr (2, [.ref (ad 0), .ref (ad 1), .ref (ad 2)])) := (o_1408 _ (gne f_1382 f_1404 (fun e => by cases e))).trans f_1382
              have f_1415 : G_1406 hc = some (19, .inr (1, [.ref hd, .ref (ad 3), .ref (ad 4), .long l_109, .long l_110, .long l_111, .long l_112])) := (o_1408 _ (gne f_1383 f_1404 (fun e => by cases e))).trans f_1383
              have f_1416 : G_1406 q_137 = some (20, .inr (3, [.int (nI 0), .ref a_158, .ref b_159])) := (o_1408 _ (gne f_1384 f_1404 (fun e => by cases e))).trans f_1384
              have f_1417 : G_1406 q_197 = some (21, .inr (3, [.int (nI 0), .ref a_221, .ref b_222])) := (o_1408 _ (gne f_1385 f_1404 (fun e => by cases e))).trans f_1385
              have f_1418 : G_1406 q_266 = some (22, .inr (3, [.int (nI 0), .ref a_293, .ref b_294])) := (o_1408 _ (gne f_1386 f_1404 (fun e => by cases e))).trans f_1386
              have f_1419 : G_1406 q_344 = some (23, .inr (3, [.int (nI 0), .ref a_374, .ref b_375])) := (o_1408 _ (gne f_1387 f_1404 (fun e => by cases e))).trans f_1387
              have f_1420 : G_1406 h = some (31, .inr (8, [.ref q_1, .int (nI 0), .ref q_24, .int (nI 0), .ref q_50, .ref q_87, .ref q_137, .ref q_197, .ref q_266, .ref q_344, .ref r_434, .ref r_494, .ref r_556, .ref r_620])) := (o_1408 _ (gne f_1388 f_1404 (fun e => by cases e))).trans f_1388
              have f_1421 : G_1406 q_684 = some (40, .inr (5, [.ref a_721, .ref a_722, .int (nI 0)])) := (o_1408 _ (gne f_1389 f_1404 (fun e => by cases e))).trans f_1389
              have f_1422 : G_1406 a_721 = some (50, .inl (cA 2, 16, .inr (.inr (.inr (.inr (fun _ => none)))))) := (o_1408 _ (gne f_1390 f_1404 (by simp))).trans f_1390
              have f_1423 : G_1406 a_722 = some (60, .inl (cA 2, 16, .inr (.inr (.inr (.inr (fun _ => none)))))) := (o_1408 _ (gne f_1391 f_1404 (by simp))).trans f_1391
              have f_1424 : G_1406 q_790 = some (41, .inr (5, [.ref a_830, .ref a_831, .int (nI 0)])) := (o_1408 _ (gne f_1392 f_1404 (fun e => by cases e))).trans f_1392
              have f_1425 : G_1406 a_830 = some (51, .inl (cA 2, 16, .inr (.inr (.inr (.inr (fun _ => none)))))) := (o_1408 _ (gne f_1393 f_1404 (by simp))).trans f_1393
              have f_1426 : G_1406 a_831 = some (61, .inl (cA 2, 16, .inr (.inr (.inr (.inr (fun _ => none)))))) := (o_1408 _ (gne f_1394 f_1404 (by simp))).trans f_1394
              have f_1427 : G_1406 q_905 = some (42, .inr (5, [.ref a_948, .ref a_949, .int (nI 0)])) := (o_1408 _ (gne f_1395 f_1404 (fun e => by cases e))).trans f_1395
              have f_1428 : G_1406 a_948 = some (52, .inl (cA 2, 16, .inr (.inr (.inr (.inr (fun _ => none)))))) := (o_1408 _ (gne f_1396 f_1404 (by simp))).trans f_1396
              have f_1429 : G_1406 a_949 = some (62, .inl (cA 2, 16, .inr (.inr (.inr (.inr (fun _ => none)))))) := (o_1408 _ (gne f_1397 f_1404 (by simp))).trans f_1397
              have f_1430 : G_1406 q_1029 = some (43, .inr (5, [.ref a_1075, .ref a_1076, .int (nI 0)])) := (o_1408 _ (gne f_1398 f_1404 (fun e => by cases e))).trans f_1398
              have f_1431 : G_1406 a_1075 = some (53, .inl (cA 2, 16, .inr (.inr (.inr (.inr (fun _ => none)))))) := (o_1408 _ (gne f_1399 f_1404 (by simp))).trans f_1399
              have f_1432 : G_1406 a_1076 = some (63, .inl (cA 2, 16, .inr (.inr (.inr (.inr (fun _ => none)))))) := (o_1408 _ (gne f_1400 f_1404 (by simp))).trans f_1400
              have f_1433 : G_1406 q_1162 = some (44, .inr (5, [.ref a_1211, .ref a_1212, .int (nI 0)])) := (o_1408 _ (gne f_1401 f_1404 (fun e => by cases e))).trans f_1401
              have f_1434 : G_1406 a_1211 = some (54, .inl (cA 2, 16, .inr (.inr (.inr (.inr (fun _ => none)))))) := (o_1408 _ (gne f_1402 f_1404 (by simp))).trans f_1402
              have f_1435 : G_1406 a_1212 = some (64, .inl (cA 2, 16, .inr (.inr (.inr (.inr (fun _ => none)))))) := (o_1408 _ (gne f_1403 f_1404 (by simp))).trans f_1403
              have f_1436 : G_1406 q_1304 = some (45, .inr (5, [.ref a_1356, .ref a_1357, .int (nI 0)])) := (o_1408 _ (gne f_1358 f_1404 (fun e => by cases e))).trans f_1358
              have f_1437 : G_1406 a_1356 = some (55, .inl (cA 2, 16, .inr (.inr (.inr (.inr (fun _ => none)))))) := (o_1408 _ (gne f_1359 f_1404 (by simp))).trans f_1359
              have f_1438 : G_1406 a_1357 = some (65, .inl (cA 2, 16, .inr (.inr (.inr (.inr (fun _ => none)))))) := (o_1408 _ (gne f_1360 f_1404 (by simp))).trans f_1360
              have x_1439 : gex (fun x => x = h) G G_1406 := gex_put x_1405 o_1408 (Or.inr z_32)
              have fr_1440 : gfr (fun y => y = 33) G_1353 G_1406 := gfr_put gfr_rf f_1404 rfl o_1408
              have n_1441 : isN cA G_1406 24 11 a_158 0 := isN_fr n_1364 fr_1440 (show ¬ (11 : Nat) = 33 by decide)
              have n_1442 : isN cA G_1406 24 12 b_159 0 := isN_fr n_1365 fr_1440 (show ¬ (12 : Nat) = 33 by decide)
              have n_1443 : isN cA G_1406 24 13 a_221 0 := isN_fr n_1366 fr_1440 (show ¬ (13 : Nat) = 33 by decide)
              have n_1444 : isN cA G_1406 24 14 b_222 0 := isN_fr n_1367 fr_1440 (show ¬ (14 : Nat) = 33 by decide)
              have n_1445 : isN cA G_1406 24 15 a_293 0 := isN_fr n_1368 fr_1440 (show ¬ (15 : Nat) = 33 by decide)
              have n_1446 : isN cA G_1406 24 16 b_294 0 := isN_fr n_1369 fr_1440 (show ¬ (16 : Nat) = 33 by decide)
              have n_1447 : isN cA G_1406 24 17 a_374 0 := isN_fr n_1370 fr_1440 (show ¬ (17 : Nat) = 33 by decide)
              have n_1448 : isN cA G_1406 24 18 b_375 0 := isN_fr n_1371 fr_1440 (show ¬ (18 : Nat) = 33 by decide)
              have n_1449 : ∀ t9, t9 < 11 → isN cA G_1406 24 t9 (ad t9) 0 := fun t9 h9 => isN_fr (n_1372 t9 h9) fr_1440 (show ¬ t9 = 33 by omega)
              have n_1450 : rf cA G_1406 (fun x => x = 30) r_434 ((0 : Nat) : Int) 1 := rf_fr n_1373 fr_1440 (fun t9 h9 => by have h9 : t9 = 30 := h9; show ¬ t9 = 33; omega)
              have n_1451 : rf cA G_1406 (fun x => x = 30) r_494 ((4 : Nat) : Int) 1 := rf_fr n_1374 fr_1440 (fun t9 h9 => by have h9 : t9 = 30 := h9; show ¬ t9 = 33; omega)
              have n_1452 : rf cA G_1406 (fun x => x = 30) r_556 ((1 : Nat) : Int) 2 := rf_fr n_1375 fr_1440 (fun t9 h9 => by have h9 : t9 = 30 := h9; show ¬ t9 = 33; omega)
              have n_1453 : rf cA G_1406 (fun x => x = 30) r_620 ((1 : Nat) : Int) 6 := rf_fr n_1376 fr_1440 (fun t9 h9 => by have h9 : t9 = 30 := h9; show ¬ t9 = 33; omega)
              refine gst (pc' := 176) (L' := [(1, .int (nI 6)), (0, .ref h)]) (fun _ _ _ _ _ hl => lv_iinc (v := nI 6) hx hb d_Mf_init_173 hl (k := 0) rfl (by decide) (by decide) rfl) ?_
              refine gs (pc' := 154) (fun _ _ _ _ _ hl => lv_goto (tgt := 154) hx hb d_Mf_init_176 (by decide)) ?_
              refine gs (pc' := 155) (fun _ _ _ _ _ hl => lv_iload_n hx hb d_Mf_init_154 rfl (lv_at hl 0 rfl)) ?_
              refine gs (pc' := 157) (fun _ _ _ _ _ hl => lv_bipush (v := nI 8) hx hb d_Mf_init_155 (by decide)) ?_
              refine gsb (pc1 := 179) (pc2 := 160) (fun _ _ _ _ _ => lv_icmp_ge (tgt := 179) hx hb d_Mf_init_157 (by decide)) (fun c_1454 => ?_) (fun c_1454 => ?_)
              · skip
                have nc_1454 : 6 ≥ 8 := (nn_ge (a := 6) (b := 8) (by omega) (by omega)).1 c_1454
                exact absurd nc_1454 (by decide)
              · skip
                have nc_1454 : 6 < 8 := (nn_ge (a := 6) (b := 8) (by omega) (by omega)).2 c_1454
                refine gs (pc' := 161) (fun _ _ _ _ _ hl => lv_aload_n hx hb d_Mf_init_160 rfl (lv_at hl 1 rfl)) ?_
                refine g_get hx hb hts hin_Mf hown hK f_1420 rfl 2 (by decide) (hts _ wm237) (fun _ h9 => h9) rfl d_Mf_init_161 ?_
                refine gs (pc' := 165) (fun _ _ _ _ _ hl => lv_iload_n hx hb d_Mf_init_164 rfl (lv_at hl 0 rfl)) ?_
                refine g_new hx hb hts hin_Ro ty_Ro ty_Ro_ok hown (hts _ wm30) (hts _ wm216) (hts _ wm11) hK (ci := 5) rfl (fs := [.null, .null, .int (nI 0)]) (fun j => match j with | 0 => fun _ => rfl | 1 => fun _ => rfl | 2 => fun _ => rfl | n + 3 => fun h9 => absurd h9 (by omega)) hlo hRc hRs (show B_618.1 + 1 + 1 + 1 + 1 + 1 + 1 + 1 + 1 + 1 + 1 + 1 + 1 + 1 + 1 + 1 + 1 + 1 + 1 + 1 ≤ MC by omega) (show B_618.2 + 3 + 16 + 16 + 3 + 16 + 16 + 3 + 16 + 16 + 3 + 16 + 16 + 3 + 16 + 16 + 3 + 16 + 16 + 3 ≤ MS by omega) d_Mf_init_165 46 (fun q_1455 G_1456 z_1457 f_1458 o_1459 => ?_)
                have fr_1460 : gfr (fun y => y = 1000) G_1406 G_1456 := gfr_new gfr_rf z_1457 o_1459
                have n_1461 : isN cA G_1456 24 11 a_158 0 := isN_fr n_1441 fr_1460 (show ¬ (11 : Nat) = 1000 by decide)
                have n_1462 : isN cA G_1456 24 12 b_159 0 := isN_fr n_1442 fr_1460 (show ¬ (12 : Nat) = 1000 by decide)
                have n_1463 : isN cA G_1456 24 13 a_221 0 := isN_fr n_1443 fr_1460 (show ¬ (13 : Nat) = 1000 by decide)
                have n_1464 : isN cA G_1456 24 14 b_222 0 := isN_fr n_1444 fr_1460 (show ¬ (14 : Nat) = 1000 by decide)
                have n_1465 : isN cA G_1456 24 15 a_293 0 := isN_fr n_1445 fr_1460 (show ¬ (15 : Nat) = 1000 by decide)
                have n_1466 : isN cA G_1456 24 16 b_294 0 := isN_fr n_1446 fr_1460 (show ¬ (16 : Nat) = 1000 by decide)
                have n_1467 : isN cA G_1456 24 17 a_374 0 := isN_fr n_1447 fr_1460 (show ¬ (17 : Nat) = 1000 by decide)
                have n_1468 : isN cA G_1456 24 18 b_375 0 := isN_fr n_1448 fr_1460 (show ¬ (18 : Nat) = 1000 by decide)
                have n_1469 : ∀ t9, t9 < 11 → isN cA G_1456 24 t9 (ad t9) 0 := fun t9 h9 => isN_fr (n_1449 t9 h9) fr_1460 (show ¬ t9 = 1000 by omega)
                have n_1470 : rf cA G_1456 (fun x => x = 30) r_434 ((0 : Nat) : Int) 1 := rf_fr n_1450 fr_1460 (fun t9 h9 => by have h9 : t9 = 30 := h9; show ¬ t9 = 1000; omega)
                have n_1471 : rf cA G_1456 (fun x => x = 30) r_494 ((4 : Nat) : Int) 1 := rf_fr n_1451 fr_1460 (fun t9 h9 => by have h9 : t9 = 30 := h9; show ¬ t9 = 1000; omega)
                have n_1472 : rf cA G_1456 (fun x => x = 30) r_556 ((1 : Nat) : Int) 2 := rf_fr n_1452 fr_1460 (fun t9 h9 => by have h9 : t9 = 30 := h9; show ¬ t9 = 1000; omega)
                have n_1473 : rf cA G_1456 (fun x => x = 30) r_620 ((1 : Nat) : Int) 6 := rf_fr n_1453 fr_1460 (fun t9 h9 => by have h9 : t9 = 30 := h9; show ¬ t9 = 1000; omega)
                have f_1474 : G_1456 q_1 = some (32, .inl (cA 2, 200, .inr (.inr (.inr (.inr (fun _ => none)))))) := (o_1459 _ (fun e => by subst e; rw [f_1409] at z_1457; cases z_1457)).trans f_1409
                have f_1475 : G_1456 q_50 = some (35, .inr (7, [.ref a_64, .ref a_65, .int (nI 0)])) := (o_1459 _ (fun e => by subst e; rw [f_1410] at z_1457; cases z_1457)).trans f_1410
                have f_1476 : G_1456 a_64 = some (36, .inl (cA 0, 12, .inl (fun _ => 0))) := (o_1459 _ (fun e => by subst e; rw [f_1411] at z_1457; cases z_1457)).trans f_1411
                have f_1477 : G_1456 a_65 = some (37, .inl (cA 1, 12, .inr (.inl (fun _ => 0)))) := (o_1459 _ (fun e => by subst e; rw [f_1412] at z_1457; cases z_1457)).trans f_1412
                have f_1478 : G_1456 q_87 = some (30, .inr (0, [.ref hd, .ref hc, .ref (ad 5), .ref (ad 6), .ref (ad 7), .ref (ad 8), .ref (ad 9), .ref (ad 10)])) := (o_1459 _ (fun e => by subst e; rw [f_1413] at z_1457; cases z_1457)).trans f_1413
                have f_1479 : G_1456 hd = some (30, .inr (2, [.ref (ad 0), .ref (ad 1), .ref (ad 2)])) := (o_1459 _ (fun e => by subst e; rw [f_1414] at z_1457; cases z_1457)).trans f_1414
                have f_1480 : G_1456 hc = some (19, .inr (1, [.ref hd, .ref (ad 3), .ref (ad 4), .long l_109, .long l_110, .long l_111, .long l_112])) := (o_1459 _ (fun e => by subst e; rw [f_1415] at z_1457; cases z_1457)).trans f_1415
                have f_1481 : G_1456 q_137 = some (20, .inr (3, [.int (nI 0), .ref a_158, .ref b_159])) := (o_1459 _ (fun e => by subst e; rw [f_1416] at z_1457; cases z_1457)).trans f_1416
                have f_1482 : G_1456 q_197 = some (21, .inr (3, [.int (nI 0), .ref a_221, .ref b_222])) := (o_1459 _ (fun e => by subst e; rw [f_1417] at z_1457; cases z_1457)).trans f_1417
                have f_1483 : G_1456 q_266 = some (22, .inr (3, [.int (nI 0), .ref a_293, .ref b_294])) := (o_1459 _ (fun e => by subst e; rw [f_1418] at z_1457; cases z_1457)).trans f_1418
                have f_1484 : G_1456 q_344 = some (23, .inr (3, [.int (nI 0), .ref a_374, .ref b_375])) := (o_1459 _ (fun e => by subst e; rw [f_1419] at z_1457; cases z_1457)).trans f_1419
                have f_1485 : G_1456 h = some (31, .inr (8, [.ref q_1, .int (nI 0), .ref q_24, .int (nI 0), .ref q_50, .ref q_87, .ref q_137, .ref q_197, .ref q_266, .ref q_344, .ref r_434, .ref r_494, .ref r_556, .ref r_620])) := (o_1459 _ (fun e => by subst e; rw [f_1420] at z_1457; cases z_1457)).trans f_1420
                have f_1486 : G_1456 q_684 = some (40, .inr (5, [.ref a_721, .ref a_722, .int (nI 0)])) := (o_1459 _ (fun e => by subst e; rw [f_1421] at z_1457; cases z_1457)).trans f_1421
                have f_1487 : G_1456 a_721 = some (50, .inl (cA 2, 16, .inr (.inr (.inr (.inr (fun _ => none)))))) := (o_1459 _ (fun e => by subst e; rw [f_1422] at z_1457; cases z_1457)).trans f_1422
                have f_1488 : G_1456 a_722 = some (60, .inl (cA 2, 16, .inr (.inr (.inr (.inr (fun _ => none)))))) := (o_1459 _ (fun e => by subst e; rw [f_1423] at z_1457; cases z_1457)).trans f_1423
                have f_1489 : G_1456 q_790 = some (41, .inr (5, [.ref a_830, .ref a_831, .int (nI 0)])) := (o_1459 _ (fun e => by subst e; rw [f_1424] at z_1457; cases z_1457)).trans f_1424
                have f_1490 : G_1456 a_830 = some (51, .inl (cA 2, 16, .inr (.inr (.inr (.inr (fun _ => none)))))) := (o_1459 _ (fun e => by subst e; rw [f_1425] at z_1457; cases z_1457)).trans f_1425
                have f_1491 : G_1456 a_831 = some (61, .inl (cA 2, 16, .inr (.inr (.inr (.inr (fun _ => none)))))) := (o_1459 _ (fun e => by subst e; rw [f_1426] at z_1457; cases z_1457)).trans f_1426
                have f_1492 : G_1456 q_905 = some (42, .inr (5, [.ref a_948, .ref a_949, .int (nI 0)])) := (o_1459 _ (fun e => by subst e; rw [f_1427] at z_1457; cases z_1457)).trans f_1427
                have f_1493 : G_1456 a_948 = some (52, .inl (cA 2, 16, .inr (.inr (.inr (.inr (fun _ => none)))))) := (o_1459 _ (fun e => by subst e; rw [f_1428] at z_1457; cases z_1457)).trans f_1428
                have f_1494 : G_1456 a_949 = some (62, .inl (cA 2, 16, .inr (.inr (.inr (.inr (fun _ => none)))))) := (o_1459 _ (fun e => by subst e; rw [f_1429] at z_1457; cases z_1457)).trans f_1429
                have f_1495 : G_1456 q_1029 = some (43, .inr (5, [.ref a_1075, .ref a_1076, .int (nI 0)])) := (o_1459 _ (fun e => by subst e; rw [f_1430] at z_1457; cases z_1457)).trans f_1430
                have f_1496 : G_1456 a_1075 = some (53, .inl (cA 2, 16, .inr (.inr (.inr (.inr (fun _ => none)))))) := (o_1459 _ (fun e => by subst e; rw [f_1431] at z_1457; cases z_1457)).trans f_1431
                have f_1497 : G_1456 a_1076 = some (63, .inl (cA 2, 16, .inr (.inr (.inr (.inr (fun _ => none)))))) := (o_1459 _ (fun e => by subst e; rw [f_1432] at z_1457; cases z_1457)).trans f_1432
                have f_1498 : G_1456 q_1162 = some (44, .inr (5, [.ref a_1211, .ref a_1212, .int (nI 0)])) := (o_1459 _ (fun e => by subst e; rw [f_1433] at z_1457; cases z_1457)).trans f_1433
                have f_1499 : G_1456 a_1211 = some (54, .inl (cA 2, 16, .inr (.inr (.inr (.inr (fun _ => none)))))) := (o_1459 _ (fun e => by subst e; rw [f_1434] at z_1457; cases z_1457)).trans f_1434
                have f_1500 : G_1456 a_1212 = some (64, .inl (cA 2, 16, .inr (.inr (.inr (.inr (fun _ => none)))))) := (o_1459 _ (fun e => by subst e; rw [f_1435] at z_1457; cases z_1457)).trans f_1435
                have f_1501 : G_1456 q_1304 = some (45, .inr (5, [.ref a_1356, .ref a_1357, .int (nI 0)])) := (o_1459 _ (fun e => by subst e; rw [f_1436] at z_1457; cases z_1457)).trans f_1436
                have f_1502 : G_1456 a_1356 = some (55, .inl (cA 2, 16, .inr (.inr (.inr (.inr (fun _ => none)))))) := (o_1459 _ (fun e => by subst e; rw [f_1437] at z_1457; cases z_1457)).trans f_1437
                have f_1503 : G_1456 a_1357 = some (65, .inl (cA 2, 16, .inr (.inr (.inr (.inr (fun _ => none)))))) := (o_1459 _ (fun e => by subst e; rw [f_1438] at z_1457; cases z_1457)).trans f_1438
                have f_1504 : G_1456 q_24 = some (33, .inl (cA 3, 8, .inr (.inr (.inr (.inr (va_up (va_up (va_up (va_up (va_up (va_up (fun _ => none) 0 (some q_684)) 1 (some q_790)) 2 (some q_905)) 3 (some q_1029)) 4 (some q_1162)) 5 (some q_1304))))))) := (o_1459 _ (fun e => by subst e; rw [f_1407] at z_1457; cases z_1457)).trans f_1407
                have z_1505 : G q_1455 = none := gex_0 x_1439 z_1457 (fun z => by have z := z.symm; subst z; rw [f_1420] at z_1457; cases z_1457)
                have x_1506 : gex (fun x => x = h) G G_1456 := gex_new x_1439 z_1457 o_1459
                refine g_Beq (B' := (B_618.1 + 1 + 1 + 1 + 1 + 1 + 1 + 1 + 1 + 1 + 1 + 1 + 1 + 1 + 1 + 1 + 1 + 1 + 1 + 1, B_618.2 + 3 + 16 + 16 + 3 + 16 + 16 + 3 + 16 + 16 + 3 + 16 + 16 + 3 + 16 + 16 + 3 + 16 + 16 + 3)) rfl ?_
                refine gs (pc' := 169) (fun _ _ _ _ _ hl => lv_dup hx hb d_Mf_init_168 rfl) ?_
                obtain ⟨⟨hN1, hN2, hN3, hN4, -, -, -⟩, -⟩ := id hZ
                refine g_outv hlo (g_runIN (b := q_1455) (As := []) (rest := [.ref q_1455, .int (nI 6), .ref q_24]) ⟨hx, hb, hml, hown, hts⟩ hK hZ hRc hRs (c_Ro_init l D cA lo MC MS G_1456 (B_618.1 + 1 + 1 + 1 + 1 + 1 + 1 + 1 + 1 + 1 + 1 + 1 + 1 + 1 + 1 + 1 + 1 + 1 + 1 + 1, B_618.2 + 3 + 16 + 16 + 3 + 16 + 16 + 3 + 16 + 16 + 3 + 16 + 16 + 3 + 16 + 16 + 3 + 16 + 16 + 3) 46 56 66 q_1455 (by decide) (by decide) (by decide) f_1458 (show B_618.1 + 1 + 1 + 1 + 1 + 1 + 1 + 1 + 1 + 1 + 1 + 1 + 1 + 1 + 1 + 1 + 1 + 1 + 1 + 1 + 2 ≤ MC by omega) (show B_618.2 + 3 + 16 + 16 + 3 + 16 + 16 + 3 + 16 + 16 + 3 + 16 + 16 + 3 + 16 + 16 + 3 + 16 + 16 + 3 + 32 ≤ MS by omega) (show B_618.1 + 1 + 1 + 1 + 1 + 1 + 1 + 1 + 1 + 1 + 1 + 1 + 1 + 1 + 1 + 1 + 1 + 1 + 1 + 1 ≤ MC by omega) (show B_618.2 + 3 + 16 + 16 + 3 + 16 + 16 + 3 + 16 + 16 + 3 + 16 + 16 + 3 + 16 + 16 + 3 + 16 + 16 + 3 ≤ MS by omega)) (fun _ _ => ⟨va_cnB 0 hts (tb_good k_Ro_init) rfl rfl rfl hN4 (hts _ wm11) (by decide +kernel) ⟨by rw [hRf]; exact Nat.le_of_ble_eq_true rfl, by rw [hRl]; exact Nat.le_of_ble_eq_true rfl⟩, rfl, hts _ wm218⟩) (show B_618.1 + 1 + 1 + 1 + 1 + 1 + 1 + 1 + 1 + 1 + 1 + 1 + 1 + 1 + 1 + 1 + 1 + 1 + 1 + 1 ≤ MC by omega) (show B_618.2 + 3 + 16 + 16 + 3 + 16 + 16 + 3 + 16 + 16 + 3 + 16 + 16 + 3 + 16 + 16 + 3 + 16 + 16 + 3 ≤ MS by omega) rfl (Nat.le_of_ble_eq_true rfl) d_Mf_init_169) (fun G_1507 B_1508 p_1509 => ?_)
                obtain ⟨a_1510, a_1511, f_1512, f_1513, f_1514, x_1515, e_1516⟩ := p_1509
                have fr_1517 : gfr (fun y => y = 46) G_1456 G_1507 := gfr_gex x_1515 f_1458
                have n_1518 : isN cA G_1507 24 11 a_158 0 := isN_fr n_1461 fr_1517 (show ¬ (11 : Nat) = 46 by decide)
                have n_1519 : isN cA G_1507 24 12 b_159 0 := isN_fr n_1462 fr_1517 (show ¬ (12 : Nat) = 46 by decide)
                have n_1520 : isN cA G_1507 24 13 a_221 0 := isN_fr n_1463 fr_1517 (show ¬ (13 : Nat) = 46 by decide)
                have n_1521 : isN cA G_1507 24 14 b_222 0 := isN_fr n_1464 fr_1517 (show ¬ (14 : Nat) = 46 by decide)
                have n_1522 : isN cA G_1507 24 15 a_293 0 := isN_fr n_1465 fr_1517 (show ¬ (15 : Nat) = 46 by decide)
                have n_1523 : isN cA G_1507 24 16 b_294 0 := isN_fr n_1466 fr_1517 (show ¬ (16 : Nat) = 46 by decide)
                have n_1524 : isN cA G_1507 24 17 a_374 0 := isN_fr n_1467 fr_1517 (show ¬ (17 : Nat) = 46 by decide)
                have n_1525 : isN cA G_1507 24 18 b_375 0 := isN_fr n_1468 fr_1517 (show ¬ (18 : Nat) = 46 by decide)
                have n_1526 : ∀ t9, t9 < 11 → isN cA G_1507 24 t9 (ad t9) 0 := fun t9 h9 => isN_fr (n_1469 t9 h9) fr_1517 (show ¬ t9 = 46 by omega)
                have n_1527 : rf cA G_1507 (fun x => x = 30) r_434 ((0 : Nat) : Int) 1 := rf_fr n_1470 fr_1517 (fun t9 h9 => by have h9 : t9 = 30 := h9; show ¬ t9 = 46; omega)
                have n_1528 : rf cA G_1507 (fun x => x = 30) r_494 ((4 : Nat) : Int) 1 := rf_fr n_1471 fr_1517 (fun t9 h9 => by have h9 : t9 = 30 := h9; show ¬ t9 = 46; omega)
                have n_1529 : rf cA G_1507 (fun x => x = 30) r_556 ((1 : Nat) : Int) 2 := rf_fr n_1472 fr_1517 (fun t9 h9 => by have h9 : t9 = 30 := h9; show ¬ t9 = 46; omega)
                have n_1530 : rf cA G_1507 (fun x => x = 30) r_620 ((1 : Nat) : Int) 6 := rf_fr n_1473 fr_1517 (fun t9 h9 => by have h9 : t9 = 30 := h9; show ¬ t9 = 46; omega)
                have e_1516 : B_1508 = (B_618.1 + 1 + 1 + 1 + 1 + 1 + 1 + 1 + 1 + 1 + 1 + 1 + 1 + 1 + 1 + 1 + 1 + 1 + 1 + 1 + 1 + 1, B_618.2 + 3 + 16 + 16 + 3 + 16 + 16 + 3 + 16 + 16 + 3 + 16 + 16 + 3 + 16 + 16 + 3 + 16 + 16 + 3 + 16 + 16) := e_1516
                subst e_1516
                have f_1531 : G_1507 q_1 = some (32, .inl (cA 2, 200, .inr (.inr (.inr (.inr (fun _ => none)))))) := x_1515 _ _ f_1474 (gne f_1474 f_1458 (fun e => by cases e))
                have f_1532 : G_1507 q_50 = some (35, .inr (7, [.ref a_64, .ref a_65, .int (nI 0)])) := x_1515 _ _ f_1475 (gne f_1475 f_1458 (fun e => by cases e))
                have f_1533 : G_1507 a_64 = some (36, .inl (cA 0, 12, .inl (fun _ => 0))) := x_1515 _ _ f_1476 (gne f_1476 f_1458 (fun e => by cases e))
                have f_1534 : G_1507 a_65 = some (37, .inl (cA 1, 12, .inr (.inl (fun _ => 0)))) := x_1515 _ _ f_1477 (gne f_1477 f_1458 (fun e => by cases e))
                have f_1535 : G_1507 q_87 = some (30, .inr (0, [.ref hd, .ref hc, .ref (ad 5), .ref (ad 6), .ref (ad 7), .ref (ad 8), .ref (ad 9), .ref (ad 10)])) := x_1515 _ _ f_1478 (gne f_1478 f_1458 (fun e => by cases e))
                have f_1536 : G_1507 hd = some (30, .inr (2, [.ref (ad 0), .ref (ad 1), .ref (ad 2)])) := x_1515 _ _ f_1479 (gne f_1479 f_1458 (fun e => by cases e))
                have f_1537 : G_1507 hc = some (19, .inr (1, [.ref hd, .ref (ad 3), .ref (ad 4), .long l_109, .long l_110, .long l_111, .long l_112])) := x_1515 _ _ f_1480 (gne f_1480 f_1458 (fun e => by cases e))
                have f_1538 : G_1507 q_137 = some (20, .inr (3, [.int (nI 0), .ref a_158, .ref b_159])) := x_1515 _ _ f_1481 (gne f_1481 f_1458 (fun e => by cases e))
                have f_1539 : G_1507 q_197 = some (21, .inr (3, [.int (nI 0), .ref a_221, .ref b_222])) := x_1515 _ _ f_1482 (gne f_1482 f_1458 (fun e => by cases e))
                have f_1540 : G_1507 q_266 = some (22, .inr (3, [.int (nI 0), .ref a_293, .ref b_294])) := x_1515 _ _ f_1483 (gne f_1483 f_1458 (fun e => by cases e))
                have f_1541 : G_1507 q_344 = some (23, .inr (3, [.int (nI 0), .ref a_374, .ref b_375])) := x_1515 _ _ f_1484 (gne f_1484 f_1458 (fun e => by cases e))
                have f_1542 : G_1507 h = some (31, .inr (8, [.ref q_1, .int (nI 0), .ref q_24, .int (nI 0), .ref q_50, .ref q_87, .ref q_137, .ref q_197, .ref q_266, .ref q_344, .ref r_434, .ref r_494, .ref r_556, .ref r_620])) := x_1515 _ _ f_1485 (gne f_1485 f_1458 (fun e => by cases e))
                have f_1543 : G_1507 q_684 = some (40, .inr (5, [.ref a_721, .ref a_722, .int (nI 0)])) := x_1515 _ _ f_1486 (gne f_1486 f_1458 (by simp))
                have f_1544 : G_1507 a_721 = some (50, .inl (cA 2, 16, .inr (.inr (.inr (.inr (fun _ => none)))))) := x_1515 _ _ f_1487 (gne f_1487 f_1458 (fun e => by cases e))
                have f_1545 : G_1507 a_722 = some (60, .inl (cA 2, 16, .inr (.inr (.inr (.inr (fun _ => none)))))) := x_1515 _ _ f_1488 (gne f_1488 f_1458 (fun e => by cases e))
                have f_1546 : G_1507 q_790 = some (41, .inr (5, [.ref a_830, .ref a_831, .int (nI 0)])) := x_1515 _ _ f_1489 (gne f_1489 f_1458 (by simp))
                have f_1547 : G_1507 a_830 = some (51, .inl (cA 2, 16, .inr (.inr (.inr (.inr (fun _ => none)))))) := x_1515 _ _ f_1490 (gne f_1490 f_1458 (fun e => by cases e))
                have f_1548 : G_1507 a_831 = some (61, .inl (cA 2, 16, .inr (.inr (.inr (.inr (fun _ => none)))))) := x_1515 _ _ f_1491 (gne f_1491 f_1458 (fun e => by cases e))
                have f_1549 : G_1507 q_905 = some (42, .inr (5, [.ref a_948, .ref a_949, .int (nI 0)])) := x_1515 _ _ f_1492 (gne f_1492 f_1458 (by simp))
                have f_1550 : G_1507 a_948 = some (52, .inl (cA 2, 16, .inr (.inr (.inr (.inr (fun _ => none)))))) := x_1515 _ _ f_1493 (gne f_1493 f_1458 (fun e => by cases e))
                have f_1551 : G_1507 a_949 = some (62, .inl (cA 2, 16, .inr (.inr (.inr (.inr (fun _ => none)))))) := x_1515 _ _ f_1494 (gne f_1494 f_1458 (fun e => by cases e))
                have f_1552 : G_1507 q_1029 = some (43, .inr (5, [.ref a_1075, .ref a_1076, .int (nI 0)])) := x_1515 _ _ f_1495 (gne f_1495 f_1458 (by simp))
                have f_1553 : G_1507 a_1075 = some (53, .inl (cA 2, 16, .inr (.inr (.inr (.inr (fun _ => none)))))) := x_1515 _ _ f_1496 (gne f_1496 f_1458 (fun e => by cases e))
                have f_1554 : G_1507 a_1076 = some (63, .inl (cA 2, 16, .inr (.inr (.inr (.inr (fun _ => none)))))) := x_1515 _ _ f_1497 (gne f_1497 f_1458 (fun e => by cases e))
                have f_1555 : G_1507 q_1162 = some (44, .inr (5, [.ref a_1211, .ref a_1212, .int (nI 0)])) := x_1515 _ _ f_1498 (gne f_1498 f_1458 (by simp))
                have f_1556 : G_1507 a_1211 = some (54, .inl (cA 2, 16, .inr (.inr (.inr (.inr (fun _ => none)))))) := x_1515 _ _ f_1499 (gne f_1499 f_1458 (fun e => by cases e))
                have f_1557 : G_1507 a_1212 = some (64, .inl (cA 2, 16, .inr (.inr (.inr (.inr (fun _ => none)))))) := x_1515 _ _ f_1500 (gne f_1500 f_1458 (fun e => by cases e))
                have f_1558 : G_1507 q_1304 = some (45, .inr (5, [.ref a_1356, .ref a_1357, .int (nI 0)])) := x_1515 _ _ f_1501 (gne f_1501 f_1458 (by simp))
                have f_1559 : G_1507 a_1356 = some (55, .inl (cA 2, 16, .inr (.inr (.inr (.inr (fun _ => none)))))) := x_1515 _ _ f_1502 (gne f_1502 f_1458 (fun e => by cases e))
                have f_1560 : G_1507 a_1357 = some (65, .inl (cA 2, 16, .inr (.inr (.inr (.inr (fun _ => none)))))) := x_1515 _ _ f_1503 (gne f_1503 f_1458 (fun e => by cases e))
                have f_1561 : G_1507 q_24 = some (33, .inl (cA 3, 8, .inr (.inr (.inr (.inr (va_up (va_up (va_up (va_up (va_up (va_up (fun _ => none) 0 (some q_684)) 1 (some q_790)) 2 (some q_905)) 3 (some q_1029)) 4 (some q_1162)) 5 (some q_1304))))))) := x_1515 _ _ f_1504 (gne f_1504 f_1458 (fun e => by cases e))
                have x_1562 : gex (fun x => x = h) G G_1507 := gex_tr x_1506 x_1515 (fun x y hx9 _ e => by subst e; rw [z_1505] at hx9; cases hx9)
                refine g_aast hx hb hK 3 5 f_1561 rfl f_1512 rfl (show vp_in (nI 6) 8 from vp_in_nI (by omega) (by omega)) d_Mf_init_172 (fun G_1563 f_1564 o_1565 => ?_)
                rw [nI_clamp (by omega)] at f_1564
                have f_1566 : G_1563 q_1 = some (32, .inl (cA 2, 200, .inr (.inr (.inr (.inr (fun _ => none)))))) := (o_1565 _ (gne f_1531 f_1561 (by simp))).trans f_1531
                have f_1567 : G_1563 q_50 = some (35, .inr (7, [.ref a_64, .ref a_65, .int (nI 0)])) := (o_1565 _ (gne f_1532 f_1561 (fun e => by cases e))).trans f_1532
                have f_1568 : G_1563 a_64 = some (36, .inl (cA 0, 12, .inl (fun _ => 0))) := (o_1565 _ (gne f_1533 f_1561 (by simp))).trans f_1533
                have f_1569 : G_1563 a_65 = some (37, .inl (cA 1, 12, .inr (.inl (fun _ => 0)))) := (o_1565 _ (gne f_1534 f_1561 (by simp))).trans f_1534
                have f_1570 : G_1563 q_87 = some (30, .inr (0, [.ref hd, .ref hc, .ref (ad 5), .ref (ad 6), .ref (ad 7), .ref (ad 8), .ref (ad 9), .ref (ad 10)])) := (o_1565 _ (gne f_1535 f_1561 (fun e => by cases e))).trans f_1535
                have f_1571 : G_1563 hd = some (30, .inr (2, [.ref (ad 0), .ref (ad 1), .ref (ad 2)])) := (o_1565 _ (gne f_1536 f_1561 (fun e => by cases e))).trans f_1536
                have f_1572 : G_1563 hc = some (19, .inr (1, [.ref hd, .ref (ad 3), .ref (ad 4), .long l_109, .long l_110, .long l_111, .long l_112])) := (o_1565 _ (gne f_1537 f_1561 (fun e => by cases e))).trans f_1537
                have f_1573 : G_1563 q_137 = some (20, .inr (3, [.int (nI 0), .ref a_158, .ref b_159])) := (o_1565 _ (gne f_1538 f_1561 (fun e => by cases e))).trans f_1538
                have f_1574 : G_1563 q_197 = some (21, .inr (3, [.int (nI 0), .ref a_221, .ref b_222])) := (o_1565 _ (gne f_1539 f_1561 (fun e => by cases e))).trans f_1539
                have f_1575 : G_1563 q_266 = some (22, .inr (3, [.int (nI 0), .ref a_293, .ref b_294])) := (o_1565 _ (gne f_1540 f_1561 (fun e => by cases e))).trans f_1540
                have f_1576 : G_1563 q_344 = some (23, .inr (3, [.int (nI 0), .ref a_374, .ref b_375])) := (o_1565 _ (gne f_1541 f_1561 (fun e => by cases e))).trans f_1541
                have f_1577 : G_1563 h = some (31, .inr (8, [.ref q_1, .int (nI 0), .ref q_24, .int (nI 0), .ref q_50, .ref q_87, .ref q_137, .ref q_197, .ref q_266, .ref q_344, .ref r_434, .ref r_494, .ref r_556, .ref r_620])) := (o_1565 _ (gne f_1542 f_1561 (fun e => by cases e))).trans f_1542
                have f_1578 : G_1563 q_684 = some (40, .inr (5, [.ref a_721, .ref a_722, .int (nI 0)])) := (o_1565 _ (gne f_1543 f_1561 (fun e => by cases e))).trans f_1543
                have f_1579 : G_1563 a_721 = some (50, .inl (cA 2, 16, .inr (.inr (.inr (.inr (fun _ => none)))))) := (o_1565 _ (gne f_1544 f_1561 (by simp))).trans f_1544
                have f_1580 : G_1563 a_722 = some (60, .inl (cA 2, 16, .inr (.inr (.inr (.inr (fun _ => none)))))) := (o_1565 _ (gne f_1545 f_1561 (by simp))).trans f_1545
                have f_1581 : G_1563 q_790 = some (41, .inr (5, [.ref a_830, .ref a_831, .int (nI 0)])) := (o_1565 _ (gne f_1546 f_1561 (fun e => by cases e))).trans f_1546
                have f_1582 : G_1563 a_830 = some (51, .inl (cA 2, 16, .inr (.inr (.inr (.inr (fun _ => none)))))) := (o_1565 _ (gne f_1547 f_1561 (by simp))).trans f_1547
                have f_1583 : G_1563 a_831 = some (61, .inl (cA 2, 16, .inr (.inr (.inr (.inr (fun _ => none)))))) := (o_1565 _ (gne f_1548 f_1561 (by simp))).trans f_1548
                have f_1584 : G_1563 q_905 = some (42, .inr (5, [.ref a_948, .ref a_949, .int (nI 0)])) := (o_1565 _ (gne f_1549 f_1561 (fun e => by cases e))).trans f_1549
                have f_1585 : G_1563 a_948 = some (52, .inl (cA 2, 16, .inr (.inr (.inr (.inr (fun _ => none)))))) := (o_1565 _ (gne f_1550 f_1561 (by simp))).trans f_1550
                have f_1586 : G_1563 a_949 = some (62, .inl (cA 2, 16, .inr (.inr (.inr (.inr (fun _ => none)))))) := (o_1565 _ (gne f_1551 f_1561 (by simp))).trans f_1551
                have f_1587 : G_1563 q_1029 = some (43, .inr (5, [.ref a_1075, .ref a_1076, .int (nI 0)])) := (o_1565 _ (gne f_1552 f_1561 (fun e => by cases e))).trans f_1552
                have f_1588 : G_1563 a_1075 = some (53, .inl (cA 2, 16, .inr (.inr (.inr (.inr (fun _ => none)))))) := (o_1565 _ (gne f_1553 f_1561 (by simp))).trans f_1553
                have f_1589 : G_1563 a_1076 = some (63, .inl (cA 2, 16, .inr (.inr (.inr (.inr (fun _ => none)))))) := (o_1565 _ (gne f_1554 f_1561 (by simp))).trans f_1554
                have f_1590 : G_1563 q_1162 = some (44, .inr (5, [.ref a_1211, .ref a_1212, .int (nI 0)])) := (o_1565 _ (gne f_1555 f_1561 (fun e => by cases e))).trans f_1555
                have f_1591 : G_1563 a_1211 = some (54, .inl (cA 2, 16, .inr (.inr (.inr (.inr (fun _ => none)))))) := (o_1565 _ (gne f_1556 f_1561 (by simp))).trans f_1556
                have f_1592 : G_1563 a_1212 = some (64, .inl (cA 2, 16, .inr (.inr (.inr (.inr (fun _ => none)))))) := (o_1565 _ (gne f_1557 f_1561 (by simp))).trans f_1557
                have f_1593 : G_1563 q_1304 = some (45, .inr (5, [.ref a_1356, .ref a_1357, .int (nI 0)])) := (o_1565 _ (gne f_1558 f_1561 (fun e => by cases e))).trans f_1558
                have f_1594 : G_1563 a_1356 = some (55, .inl (cA 2, 16, .inr (.inr (.inr (.inr (fun _ => none)))))) := (o_1565 _ (gne f_1559 f_1561 (by simp))).trans f_1559
                have f_1595 : G_1563 a_1357 = some (65, .inl (cA 2, 16, .inr (.inr (.inr (.inr (fun _ => none)))))) := (o_1565 _ (gne f_1560 f_1561 (by simp))).trans f_1560
                have f_1596 : G_1563 q_1455 = some (46, .inr (5, [.ref a_1510, .ref a_1511, .int (nI 0)])) := (o_1565 _ (gne f_1512 f_1561 (fun e => by cases e))).trans f_1512
                have f_1597 : G_1563 a_1510 = some (56, .inl (cA 2, 16, .inr (.inr (.inr (.inr (fun _ => none)))))) := (o_1565 _ (gne f_1513 f_1561 (by simp))).trans f_1513
                have f_1598 : G_1563 a_1511 = some (66, .inl (cA 2, 16, .inr (.inr (.inr (.inr (fun _ => none)))))) := (o_1565 _ (gne f_1514 f_1561 (by simp))).trans f_1514
                have x_1599 : gex (fun x => x = h) G G_1563 := gex_put x_1562 o_1565 (Or.inr z_32)
                have fr_1600 : gfr (fun y => y = 33) G_1507 G_1563 := gfr_put gfr_rf f_1561 rfl o_1565
                have n_1601 : isN cA G_1563 24 11 a_158 0 := isN_fr n_1518 fr_1600 (show ¬ (11 : Nat) = 33 by decide)
                have n_1602 : isN cA G_1563 24 12 b_159 0 := isN_fr n_1519 fr_1600 (show ¬ (12 : Nat) = 33 by decide)
                have n_1603 : isN cA G_1563 24 13 a_221 0 := isN_fr n_1520 fr_1600 (show ¬ (13 : Nat) = 33 by decide)
                have n_1604 : isN cA G_1563 24 14 b_222 0 := isN_fr n_1521 fr_1600 (show ¬ (14 : Nat) = 33 by decide)
                have n_1605 : isN cA G_1563 24 15 a_293 0 := isN_fr n_1522 fr_1600 (show ¬ (15 : Nat) = 33 by decide)
                have n_1606 : isN cA G_1563 24 16 b_294 0 := isN_fr n_1523 fr_1600 (show ¬ (16 : Nat) = 33 by decide)
                have n_1607 : isN cA G_1563 24 17 a_374 0 := isN_fr n_1524 fr_1600 (show ¬ (17 : Nat) = 33 by decide)
                have n_1608 : isN cA G_1563 24 18 b_375 0 := isN_fr n_1525 fr_1600 (show ¬ (18 : Nat) = 33 by decide)
                have n_1609 : ∀ t9, t9 < 11 → isN cA G_1563 24 t9 (ad t9) 0 := fun t9 h9 => isN_fr (n_1526 t9 h9) fr_1600 (show ¬ t9 = 33 by omega)
                have n_1610 : rf cA G_1563 (fun x => x = 30) r_434 ((0 : Nat) : Int) 1 := rf_fr n_1527 fr_1600 (fun t9 h9 => by have h9 : t9 = 30 := h9; show ¬ t9 = 33; omega)
                have n_1611 : rf cA G_1563 (fun x => x = 30) r_494 ((4 : Nat) : Int) 1 := rf_fr n_1528 fr_1600 (fun t9 h9 => by have h9 : t9 = 30 := h9; show ¬ t9 = 33; omega)
                have n_1612 : rf cA G_1563 (fun x => x = 30) r_556 ((1 : Nat) : Int) 2 := rf_fr n_1529 fr_1600 (fun t9 h9 => by have h9 : t9 = 30 := h9; show ¬ t9 = 33; omega)
                have n_1613 : rf cA G_1563 (fun x => x = 30) r_620 ((1 : Nat) : Int) 6 := rf_fr n_1530 fr_1600 (fun t9 h9 => by have h9 : t9 = 30 := h9; show ¬ t9 = 33; omega)
                refine gst (pc' := 176) (L' := [(1, .int (nI 7)), (0, .ref h)]) (fun _ _ _ _ _ hl => lv_iinc (v := nI 7) hx hb d_Mf_init_173 hl (k := 0) rfl (by decide) (by decide) rfl) ?_
                refine gs (pc' := 154) (fun _ _ _ _ _ hl => lv_goto (tgt := 154) hx hb d_Mf_init_176 (by decide)) ?_
                refine gs (pc' := 155) (fun _ _ _ _ _ hl => lv_iload_n hx hb d_Mf_init_154 rfl (lv_at hl 0 rfl)) ?_
                refine gs (pc' := 157) (fun _ _ _ _ _ hl => lv_bipush (v := nI 8) hx hb d_Mf_init_155 (by decide)) ?_
                refine gsb (pc1 := 179) (pc2 := 160) (fun _ _ _ _ _ => lv_icmp_ge (tgt := 179) hx hb d_Mf_init_157 (by decide)) (fun c_1614 => ?_) (fun c_1614 => ?_)
                · skip
                  have nc_1614 : 7 ≥ 8 := (nn_ge (a := 7) (b := 8) (by omega) (by omega)).1 c_1614
                  exact absurd nc_1614 (by decide)
                · skip
                  have nc_1614 : 7 < 8 := (nn_ge (a := 7) (b := 8) (by omega) (by omega)).2 c_1614
                  refine gs (pc' := 161) (fun _ _ _ _ _ hl => lv_aload_n hx hb d_Mf_init_160 rfl (lv_at hl 1 rfl)) ?_
                  refine g_get hx hb hts hin_Mf hown hK f_1577 rfl 2 (by decide) (hts _ wm237) (fun _ h9 => h9) rfl d_Mf_init_161 ?_
                  refine gs (pc' := 165) (fun _ _ _ _ _ hl => lv_iload_n hx hb d_Mf_init_164 rfl (lv_at hl 0 rfl)) ?_
                  refine g_new hx hb hts hin_Ro ty_Ro ty_Ro_ok hown (hts _ wm30) (hts _ wm216) (hts _ wm11) hK (ci := 5) rfl (fs := [.null, .null, .int (nI 0)]) (fun j => match j with | 0 => fun _ => rfl | 1 => fun _ => rfl | 2 => fun _ => rfl | n + 3 => fun h9 => absurd h9 (by omega)) hlo hRc hRs (show B_618.1 + 1 + 1 + 1 + 1 + 1 + 1 + 1 + 1 + 1 + 1 + 1 + 1 + 1 + 1 + 1 + 1 + 1 + 1 + 1 + 1 + 1 + 1 ≤ MC by omega) (show B_618.2 + 3 + 16 + 16 + 3 + 16 + 16 + 3 + 16 + 16 + 3 + 16 + 16 + 3 + 16 + 16 + 3 + 16 + 16 + 3 + 16 + 16 + 3 ≤ MS by omega) d_Mf_init_165 47 (fun q_1615 G_1616 z_1617 f_1618 o_1619 => ?_)
                  have fr_1620 : gfr (fun y => y = 1000) G_1563 G_1616 := gfr_new gfr_rf z_1617 o_1619
                  have n_1621 : isN cA G_1616 24 11 a_158 0 := isN_fr n_1601 fr_1620 (show ¬ (11 : Nat) = 1000 by decide)
                  have n_1622 : isN cA G_1616 24 12 b_159 0 := isN_fr n_1602 fr_1620 (show ¬ (12 : Nat) = 1000 by decide)
                  have n_1623 : isN cA G_1616 24 13 a_221 0 := isN_fr n_1603 fr_1620 (show ¬ (13 : Nat) = 1000 by decide)
                  have n_1624 : isN cA G_1616 24 14 b_222 0 := isN_fr n_1604 fr_1620 (show ¬ (14 : Nat) = 1000 by decide)
                  have n_1625 : isN cA G_1616 24 15 a_293 0 := isN_fr n_1605 fr_1620 (show ¬ (15 : Nat) = 1000 by decide)
                  have n_1626 : isN cA G_1616 24 16 b_294 0 := isN_fr n_1606 fr_1620 (show ¬ (16 : Nat) = 1000 by decide)
                  have n_1627 : isN cA G_1616 24 17 a_374 0 := isN_fr n_1607 fr_1620 (show ¬ (17 : Nat) = 1000 by decide)
                  have n_1628 : isN cA G_1616 24 18 b_375 0 := isN_fr n_1608 fr_1620 (show ¬ (18 : Nat) = 1000 by decide)
                  have n_1629 : ∀ t9, t9 < 11 → isN cA G_1616 24 t9 (ad t9) 0 := fun t9 h9 => isN_fr (n_1609 t9 h9) fr_1620 (show ¬ t9 = 1000 by omega)
                  have n_1630 : rf cA G_1616 (fun x => x = 30) r_434 ((0 : Nat) : Int) 1 := rf_fr n_1610 fr_1620 (fun t9 h9 => by have h9 : t9 = 30 := h9; show ¬ t9 = 1000; omega)
                  have n_1631 : rf cA G_1616 (fun x => x = 30) r_494 ((4 : Nat) : Int) 1 := rf_fr n_1611 fr_1620 (fun t9 h9 => by have h9 : t9 = 30 := h9; show ¬ t9 = 1000; omega)
                  have n_1632 : rf cA G_1616 (fun x => x = 30) r_556 ((1 : Nat) : Int) 2 := rf_fr n_1612 fr_1620 (fun t9 h9 => by have h9 : t9 = 30 := h9; show ¬ t9 = 1000; omega)
                  have n_1633 : rf cA G_1616 (fun x => x = 30) r_620 ((1 : Nat) : Int) 6 := rf_fr n_1613 fr_1620 (fun t9 h9 => by have h9 : t9 = 30 := h9; show ¬ t9 = 1000; omega)
                  have f_1634 : G_1616 q_1 = some (32, .inl (cA 2, 200, .inr (.inr (.inr (.inr (fun _ => none)))))) := (o_1619 _ (fun e => by subst e; rw [f_1566] at z_1617; cases z_1617)).trans f_1566
                  have f_1635 : G_1616 q_50 = some (35, .inr (7, [.ref a_64, .ref a_65, .int (nI 0)])) := (o_1619 _ (fun e => by subst e; rw [f_1567] at z_1617; cases z_1617)).trans f_1567
                  have f_1636 : G_1616 a_64 = some (36, .inl (cA 0, 12, .inl (fun _ => 0))) := (o_1619 _ (fun e => by subst e; rw [f_1568] at z_1617; cases z_1617)).trans f_1568
                  have f_1637 : G_1616 a_65 = some (37, .inl (cA 1, 12, .inr (.inl (fun _ => 0)))) := (o_1619 _ (fun e => by subst e; rw [f_1569] at z_1617; cases z_1617)).trans f_1569
                  have f_1638 : G_1616 q_87 = some (30, .inr (0, [.ref hd, .ref hc, .ref (ad 5), .ref (ad 6), .ref (ad 7), .ref (ad 8), .ref (ad 9), .ref (ad 10)])) := (o_1619 _ (fun e => by subst e; rw [f_1570] at z_1617; cases z_1617)).trans f_1570
                  have f_1639 : G_1616 hd = some (30, .inr (2, [.ref (ad 0), .ref (ad 1), .ref (ad 2)])) := (o_1619 _ (fun e => by subst e; rw [f_1571] at z_1617; cases z_1617)).trans f_1571
                  have f_1640 : G_1616 hc = some (19, .inr (1, [.ref hd, .ref (ad 3), .ref (ad 4), .long l_109, .long l_110, .long l_111, .long l_112])) := (o_1619 _ (fun e => by subst e; rw [f_1572] at z_1617; cases z_1617)).trans f_1572
                  have f_1641 : G_1616 q_137 = some (20, .inr (3, [.int (nI 0), .ref a_158, .ref b_159])) := (o_1619 _ (fun e => by subst e; rw [f_1573] at z_1617; cases z_1617)).trans f_1573
                  have f_1642 : G_1616 q_197 = some (21, .inr (3, [.int (nI 0), .ref a_221, .ref b_222])) := (o_1619 _ (fun e => by subst e; rw [f_1574] at z_1617; cases z_1617)).trans f_1574
                  have f_1643 : G_1616 q_266 = some (22, .inr (3, [.int (nI 0), .ref a_293, .ref b_294])) := (o_1619 _ (fun e => by subst e; rw [f_1575] at z_1617; cases z_1617)).trans f_1575
                  have f_1644 : G_1616 q_344 = some (23, .inr (3, [.int (nI 0), .ref a_374, .ref b_375])) := (o_1619 _ (fun e => by subst e; rw [f_1576] at z_1617; cases z_1617)).trans f_1576
                  have f_1645 : G_1616 h = some (31, .inr (8, [.ref q_1, .int (nI 0), .ref q_24, .int (nI 0), .ref q_50, .ref q_87, .ref q_137, .ref q_197, .ref q_266, .ref q_344, .ref r_434, .ref r_494, .ref r_556, .ref r_620])) := (o_1619 _ (fun e => by subst e; rw [f_1577] at z_1617; cases z_1617)).trans f_1577
                  have f_1646 : G_1616 q_684 = some (40, .inr (5, [.ref a_721, .ref a_722, .int (nI 0)])) := (o_1619 _ (fun e => by subst e; rw [f_1578] at z_1617; cases z_1617)).trans f_1578
                  have f_1647 : G_1616 a_721 = some (50, .inl (cA 2, 16, .inr (.inr (.inr (.inr (fun _ => none)))))) := (o_1619 _ (fun e => by subst e; rw [f_1579] at z_1617; cases z_1617)).trans f_1579
                  have f_1648 : G_1616 a_722 = some (60, .inl (cA 2, 16, .inr (.inr (.inr (.inr (fun _ => none)))))) := (o_1619 _ (fun e => by subst e; rw [f_1580] at z_1617; cases z_1617)).trans f_1580
                  have f_1649 : G_1616 q_790 = some (41, .inr (5, [.ref a_830, .ref a_831, .int (nI 0)])) := (o_1619 _ (fun e => by subst e; rw [f_1581] at z_1617; cases z_1617)).trans f_1581
                  have f_1650 : G_1616 a_830 = some (51, .inl (cA 2, 16, .inr (.inr (.inr (.inr (fun _ => none)))))) := (o_1619 _ (fun e => by subst e; rw [f_1582] at z_1617; cases z_1617)).trans f_1582
                  have f_1651 : G_1616 a_831 = some (61, .inl (cA 2, 16, .inr (.inr (.inr (.inr (fun _ => none)))))) := (o_1619 _ (fun e => by subst e; rw [f_1583] at z_1617; cases z_1617)).trans f_1583
                  have f_1652 : G_1616 q_905 = some (42, .inr (5, [.ref a_948, .ref a_949, .int (nI 0)])) := (o_1619 _ (fun e => by subst e; rw [f_1584] at z_1617; cases z_1617)).trans f_1584
                  have f_1653 : G_1616 a_948 = some (52, .inl (cA 2, 16, .inr (.inr (.inr (.inr (fun _ => none)))))) := (o_1619 _ (fun e => by subst e; rw [f_1585] at z_1617; cases z_1617)).trans f_1585
                  have f_1654 : G_1616 a_949 = some (62, .inl (cA 2, 16, .inr (.inr (.inr (.inr (fun _ => none)))))) := (o_1619 _ (fun e => by subst e; rw [f_1586] at z_1617; cases z_1617)).trans f_1586
                  have f_1655 : G_1616 q_1029 = some (43, .inr (5, [.ref a_1075, .ref a_1076, .int (nI 0)])) := (o_1619 _ (fun e => by subst e; rw [f_1587] at z_1617; cases z_1617)).trans f_1587
                  have f_1656 : G_1616 a_1075 = some (53, .inl (cA 2, 16, .inr (.inr (.inr (.inr (fun _ => none)))))) := (o_1619 _ (fun e => by subst e; rw [f_1588] at z_1617; cases z_1617)).trans f_1588
                  have f_1657 : G_1616 a_1076 = some (63, .inl (cA 2, 16, .inr (.inr (.inr (.inr (fun _ => none)))))) := (o_1619 _ (fun e => by subst e; rw [f_1589] at z_1617; cases z_1617)).trans f_1589
                  have f_1658 : G_1616 q_1162 = some (44, .inr (5, [.ref a_1211, .ref a_1212, .int (nI 0)])) := (o_1619 _ (fun e => by subst e; rw [f_1590] at z_1617; cases z_1617)).trans f_1590
                  have f_1659 : G_1616 a_1211 = some (54, .inl (cA 2, 16, .inr (.inr (.inr (.inr (fun _ => none)))))) := (o_1619 _ (fun e => by subst e; rw [f_1591] at z_1617; cases z_1617)).trans f_1591
                  have f_1660 : G_1616 a_1212 = some (64, .inl (cA 2, 16, .inr (.inr (.inr (.inr (fun _ => none)))))) := (o_1619 _ (fun e => by subst e; rw [f_1592] at z_1617; cases z_1617)).trans f_1592
                  have f_1661 : G_1616 q_1304 = some (45, .inr (5, [.ref a_1356, .ref a_1357, .int (nI 0)])) := (o_1619 _ (fun e => by subst e; rw [f_1593] at z_1617; cases z_1617)).trans f_1593
                  have f_1662 : G_1616 a_1356 = some (55, .inl (cA 2, 16, .inr (.inr (.inr (.inr (fun _ => none)))))) := (o_1619 _ (fun e => by subst e; rw [f_1594] at z_1617; cases z_1617)).trans f_1594
                  have f_1663 : G_1616 a_1357 = some (65, .inl (cA 2, 16, .inr (.inr (.inr (.inr (fun _ => none)))))) := (o_1619 _ (fun e => by subst e; rw [f_1595] at z_1617; cases z_1617)).trans f_1595
                  have f_1664 : G_1616 q_1455 = some (46, .inr (5, [.ref a_1510, .ref a_1511, .int (nI 0)])) := (o_1619 _ (fun e => by subst e; rw [f_1596] at z_1617; cases z_1617)).trans f_1596
                  have f_1665 : G_1616 a_1510 = some (56, .inl (cA 2, 16, .inr (.inr (.inr (.inr (fun _ => none)))))) := (o_1619 _ (fun e => by subst e; rw [f_1597] at z_1617; cases z_1617)).trans f_1597
                  have f_1666 : G_1616 a_1511 = some (66, .inl (cA 2, 16, .inr (.inr (.inr (.inr (fun _ => none)))))) := (o_1619 _ (fun e => by subst e; rw [f_1598] at z_1617; cases z_1617)).trans f_1598
                  have f_1667 : G_1616 q_24 = some (33, .inl (cA 3, 8, .inr (.inr (.inr (.inr (va_up (va_up (va_up (va_up (va_up (va_up (va_up (fun _ => none) 0 (some q_684)) 1 (some q_790)) 2 (some q_905)) 3 (some q_1029)) 4 (some q_1162)) 5 (some q_1304)) 6 (some q_1455))))))) := (o_1619 _ (fun e => by subst e; rw [f_1564] at z_1617; cases z_1617)).trans f_1564
                  have z_1668 : G q_1615 = none := gex_0 x_1599 z_1617 (fun z => by have z := z.symm; subst z; rw [f_1577] at z_1617; cases z_1617)
                  have x_1669 : gex (fun x => x = h) G G_1616 := gex_new x_1599 z_1617 o_1619
                  refine g_Beq (B' := (B_618.1 + 1 + 1 + 1 + 1 + 1 + 1 + 1 + 1 + 1 + 1 + 1 + 1 + 1 + 1 + 1 + 1 + 1 + 1 + 1 + 1 + 1 + 1, B_618.2 + 3 + 16 + 16 + 3 + 16 + 16 + 3 + 16 + 16 + 3 + 16 + 16 + 3 + 16 + 16 + 3 + 16 + 16 + 3 + 16 + 16 + 3)) rfl ?_
                  refine gs (pc' := 169) (fun _ _ _ _ _ hl => lv_dup hx hb d_Mf_init_168 rfl) ?_
                  obtain ⟨⟨hN1, hN2, hN3, hN4, -, -, -⟩, -⟩ := id hZ
                  refine g_outv hlo (g_runIN (b := q_1615) (As := []) (rest := [.ref q_1615, .int (nI 7), .ref q_24]) ⟨hx, hb, hml, hown, hts⟩ hK hZ hRc hRs (c_Ro_init l D cA lo MC MS G_1616 (B_618.1 + 1 + 1 + 1 + 1 + 1 + 1 + 1 + 1 + 1 + 1 + 1 + 1 + 1 + 1 + 1 + 1 + 1 + 1 + 1 + 1 + 1 + 1, B_618.2 + 3 + 16 + 16 + 3 + 16 + 16 + 3 + 16 + 16 + 3 + 16 + 16 + 3 + 16 + 16 + 3 + 16 + 16 + 3 + 16 + 16 + 3) 47 57 67 q_1615 (by decide) (by decide) (by decide) f_1618 (show B_618.1 + 1 + 1 + 1 + 1 + 1 + 1 + 1 + 1 + 1 + 1 + 1 + 1 + 1 + 1 + 1 + 1 + 1 + 1 + 1 + 1 + 1 + 1 + 2 ≤ MC by omega) (show B_618.2 + 3 + 16 + 16 + 3 + 16 + 16 + 3 + 16 + 16 + 3 + 16 + 16 + 3 + 16 + 16 + 3 + 16 + 16 + 3 + 16 + 16 + 3 + 32 ≤ MS by omega) (show B_618.1 + 1 + 1 + 1 + 1 + 1 + 1 + 1 + 1 + 1 + 1 + 1 + 1 + 1 + 1 + 1 + 1 + 1 + 1 + 1 + 1 + 1 + 1 ≤ MC by omega) (show B_618.2 + 3 + 16 + 16 + 3 + 16 + 16 + 3 + 16 + 16 + 3 + 16 + 16 + 3 + 16 + 16 + 3 + 16 + 16 + 3 + 16 + 16 + 3 ≤ MS by omega)) (fun _ _ => ⟨va_cnB 0 hts (tb_good k_Ro_init) rfl rfl rfl hN4 (hts _ wm11) (by decide +kernel) ⟨by rw [hRf]; exact Nat.le_of_ble_eq_true rfl, by rw [hRl]; exact Nat.le_of_ble_eq_true rfl⟩, rfl, hts _ wm218⟩) (show B_618.1 + 1 + 1 + 1 + 1 + 1 + 1 + 1 + 1 + 1 + 1 + 1 + 1 + 1 + 1 + 1 + 1 + 1 + 1 + 1 + 1 + 1 + 1 ≤ MC by omega) (show B_618.2 + 3 + 16 + 16 + 3 + 16 + 16 + 3 + 16 + 16 + 3 + 16 + 16 + 3 + 16 + 16 + 3 + 16 + 16 + 3 + 16 + 16 + 3 ≤ MS by omega) rfl (Nat.le_of_ble_eq_true rfl) d_Mf_init_169) (fun G_1670 B_1671 p_1672 => ?_)
                  obtain ⟨a_1673, a_1674, f_1675, f_1676, f_1677, x_1678, e_1679⟩ := p_1672
                  have fr_1680 : gfr (fun y => y = 47) G_1616 G_1670 := gfr_gex x_1678 f_1618
                  have n_1681 : isN cA G_1670 24 11 a_158 0 := isN_fr n_1621 fr_1680 (show ¬ (11 : Nat) = 47 by decide)
                  have n_1682 : isN cA G_1670 24 12 b_159 0 := isN_fr n_1622 fr_1680 (show ¬ (12 : Nat) = 47 by decide)
                  have n_1683 : isN cA G_1670 24 13 a_221 0 := isN_fr n_1623 fr_1680 (show ¬ (13 : Nat) = 47 by decide)
                  have n_1684 : isN cA G_1670 24 14 b_222 0 := isN_fr n_1624 fr_1680 (show ¬ (14 : Nat) = 47 by decide)
                  have n_1685 : isN cA G_1670 24 15 a_293 0 := isN_fr n_1625 fr_1680 (show ¬ (15 : Nat) = 47 by decide)
                  have n_1686 : isN cA G_1670 24 16 b_294 0 := isN_fr n_1626 fr_1680 (show ¬ (16 : Nat) = 47 by decide)
                  have n_1687 : isN cA G_1670 24 17 a_374 0 := isN_fr n_1627 fr_1680 (show ¬ (17 : Nat) = 47 by decide)
                  have n_1688 : isN cA G_1670 24 18 b_375 0 := isN_fr n_1628 fr_1680 (show ¬ (18 : Nat) = 47 by decide)
                  have n_1689 : ∀ t9, t9 < 11 → isN cA G_1670 24 t9 (ad t9) 0 := fun t9 h9 => isN_fr (n_1629 t9 h9) fr_1680 (show ¬ t9 = 47 by omega)
                  have n_1690 : rf cA G_1670 (fun x => x = 30) r_434 ((0 : Nat) : Int) 1 := rf_fr n_1630 fr_1680 (fun t9 h9 => by have h9 : t9 = 30 := h9; show ¬ t9 = 47; omega)
                  have n_1691 : rf cA G_1670 (fun x => x = 30) r_494 ((4 : Nat) : Int) 1 := rf_fr n_1631 fr_1680 (fun t9 h9 => by have h9 : t9 = 30 := h9; show ¬ t9 = 47; omega)
                  have n_1692 : rf cA G_1670 (fun x => x = 30) r_556 ((1 : Nat) : Int) 2 := rf_fr n_1632 fr_1680 (fun t9 h9 => by have h9 : t9 = 30 := h9; show ¬ t9 = 47; omega)
                  have n_1693 : rf cA G_1670 (fun x => x = 30) r_620 ((1 : Nat) : Int) 6 := rf_fr n_1633 fr_1680 (fun t9 h9 => by have h9 : t9 = 30 := h9; show ¬ t9 = 47; omega)
                  have e_1679 : B_1671 = (B_618.1 + 1 + 1 + 1 + 1 + 1 + 1 + 1 + 1 + 1 + 1 + 1 + 1 + 1 + 1 + 1 + 1 + 1 + 1 + 1 + 1 + 1 + 1 + 1 + 1, B_618.2 + 3 + 16 + 16 + 3 + 16 + 16 + 3 + 16 + 16 + 3 + 16 + 16 + 3 + 16 + 16 + 3 + 16 + 16 + 3 + 16 + 16 + 3 + 16 + 16) := e_1679
                  subst e_1679
                  have f_1694 : G_1670 q_1 = some (32, .inl (cA 2, 200, .inr (.inr (.inr (.inr (fun _ => none)))))) := x_1678 _ _ f_1634 (gne f_1634 f_1618 (fun e => by cases e))
                  have f_1695 : G_1670 q_50 = some (35, .inr (7, [.ref a_64, .ref a_65, .int (nI 0)])) := x_1678 _ _ f_1635 (gne f_1635 f_1618 (fun e => by cases e))
                  have f_1696 : G_1670 a_64 = some (36, .inl (cA 0, 12, .inl (fun _ => 0))) := x_1678 _ _ f_1636 (gne f_1636 f_1618 (fun e => by cases e))
                  have f_1697 : G_1670 a_65 = some (37, .inl (cA 1, 12, .inr (.inl (fun _ => 0)))) := x_1678 _ _ f_1637 (gne f_1637 f_1618 (fun e => by cases e))
                  have f_1698 : G_1670 q_87 = some (30, .inr (0, [.ref hd, .ref hc, .ref (ad 5), .ref (ad 6), .ref (ad 7), .ref (ad 8), .ref (ad 9), .ref (ad 10)])) := x_1678 _ _ f_1638 (gne f_1638 f_1618 (fun e => by cases e))
                  have f_1699 : G_1670 hd = some (30, .inr (2, [.ref (ad 0), .ref (ad 1), .ref (ad 2)])) := x_1678 _ _ f_1639 (gne f_1639 f_1618 (fun e => by cases e))
                  have f_1700 : G_1670 hc = some (19, .inr (1, [.ref hd, .ref (ad 3), .ref (ad 4), .long l_109, .long l_110, .long l_111, .long l_112])) := x_1678 _ _ f_1640 (gne f_1640 f_1618 (fun e => by cases e))
                  have f_1701 : G_1670 q_137 = some (20, .inr (3, [.int (nI 0), .ref a_158, .ref b_159])) := x_1678 _ _ f_1641 (gne f_1641 f_1618 (fun e => by cases e))
                  have f_1702 : G_1670 q_197 = some (21, .inr (3, [.int (nI 0), .ref a_221, .ref b_222])) := x_1678 _ _ f_1642 (gne f_1642 f_1618 (fun e => by cases e))
                  have f_1703 : G_1670 q_266 = some (22, .inr (3, [.int (nI 0), .ref a_293, .ref b_294])) := x_1678 _ _ f_1643 (gne f_1643 f_1618 (fun e => by cases e))
                  have f_1704 : G_1670 q_344 = some (23, .inr (3, [.int (nI 0), .ref a_374, .ref b_375])) := x_1678 _ _ f_1644 (gne f_1644 f_1618 (fun e => by cases e))
                  have f_1705 : G_1670 h = some (31, .inr (8, [.ref q_1, .int (nI 0), .ref q_24, .int (nI 0), .ref q_50, .ref q_87, .ref q_137, .ref q_197, .ref q_266, .ref q_344, .ref r_434, .ref r_494, .ref r_556, .ref r_620])) := x_1678 _ _ f_1645 (gne f_1645 f_1618 (fun e => by cases e))
                  have f_1706 : G_1670 q_684 = some (40, .inr (5, [.ref a_721, .ref a_722, .int (nI 0)])) := x_1678 _ _ f_1646 (gne f_1646 f_1618 (by simp))
                  have f_1707 : G_1670 a_721 = some (50, .inl (cA 2, 16, .inr (.inr (.inr (.inr (fun _ => none)))))) := x_1678 _ _ f_1647 (gne f_1647 f_1618 (fun e => by cases e))
                  have f_1708 : G_1670 a_722 = some (60, .inl (cA 2, 16, .inr (.inr (.inr (.inr (fun _ => none)))))) := x_1678 _ _ f_1648 (gne f_1648 f_1618 (fun e => by cases e))
                  have f_1709 : G_1670 q_790 = some (41, .inr (5, [.ref a_830, .ref a_831, .int (nI 0)])) := x_1678 _ _ f_1649 (gne f_1649 f_1618 (by simp))
                  have f_1710 : G_1670 a_830 = some (51, .inl (cA 2, 16, .inr (.inr (.inr (.inr (fun _ => none)))))) := x_1678 _ _ f_1650 (gne f_1650 f_1618 (fun e => by cases e))
                  have f_1711 : G_1670 a_831 = some (61, .inl (cA 2, 16, .inr (.inr (.inr (.inr (fun _ => none)))))) := x_1678 _ _ f_1651 (gne f_1651 f_1618 (fun e => by cases e))
                  have f_1712 : G_1670 q_905 = some (42, .inr (5, [.ref a_948, .ref a_949, .int (nI 0)])) := x_1678 _ _ f_1652 (gne f_1652 f_1618 (by simp))
                  have f_1713 : G_1670 a_948 = some (52, .inl (cA 2, 16, .inr (.inr (.inr (.inr (fun _ => none)))))) := x_1678 _ _ f_1653 (gne f_1653 f_1618 (fun e => by cases e))
                  have f_1714 : G_1670 a_949 = some (62, .inl (cA 2, 16, .inr (.inr (.inr (.inr (fun _ => none)))))) := x_1678 _ _ f_1654 (gne f_1654 f_1618 (fun e => by cases e))
                  have f_1715 : G_1670 q_1029 = some (43, .inr (5, [.ref a_1075, .ref a_1076, .int (nI 0)])) := x_1678 _ _ f_1655 (gne f_1655 f_1618 (by simp))
                  have f_1716 : G_1670 a_1075 = some (53, .inl (cA 2, 16, .inr (.inr (.inr (.inr (fun _ => none)))))) := x_1678 _ _ f_1656 (gne f_1656 f_1618 (fun e => by cases e))
                  have f_1717 : G_1670 a_1076 = some (63, .inl (cA 2, 16, .inr (.inr (.inr (.inr (fun _ => none)))))) := x_1678 _ _ f_1657 (gne f_1657 f_1618 (fun e => by cases e))
                  have f_1718 : G_1670 q_1162 = some (44, .inr (5, [.ref a_1211, .ref a_1212, .int (nI 0)])) := x_1678 _ _ f_1658 (gne f_1658 f_1618 (by simp))
                  have f_1719 : G_1670 a_1211 = some (54, .inl (cA 2, 16, .inr (.inr (.inr (.inr (fun _ => none)))))) := x_1678 _ _ f_1659 (gne f_1659 f_1618 (fun e => by cases e))
                  have f_1720 : G_1670 a_1212 = some (64, .inl (cA 2, 16, .inr (.inr (.inr (.inr (fun _ => none)))))) := x_1678 _ _ f_1660 (gne f_1660 f_1618 (fun e => by cases e))
                  have f_1721 : G_1670 q_1304 = some (45, .inr (5, [.ref a_1356, .ref a_1357, .int (nI 0)])) := x_1678 _ _ f_1661 (gne f_1661 f_1618 (by simp))
                  have f_1722 : G_1670 a_1356 = some (55, .inl (cA 2, 16, .inr (.inr (.inr (.inr (fun _ => none)))))) := x_1678 _ _ f_1662 (gne f_1662 f_1618 (fun e => by cases e))
                  have f_1723 : G_1670 a_1357 = some (65, .inl (cA 2, 16, .inr (.inr (.inr (.inr (fun _ => none)))))) := x_1678 _ _ f_1663 (gne f_1663 f_1618 (fun e => by cases e))
                  have f_1724 : G_1670 q_1455 = some (46, .inr (5, [.ref a_1510, .ref a_1511, .int (nI 0)])) := x_1678 _ _ f_1664 (gne f_1664 f_1618 (by simp))
                  have f_1725 : G_1670 a_1510 = some (56, .inl (cA 2, 16, .inr (.inr (.inr (.inr (fun _ => none)))))) := x_1678 _ _ f_1665 (gne f_1665 f_1618 (fun e => by cases e))
                  have f_1726 : G_1670 a_1511 = some (66, .inl (cA 2, 16, .inr (.inr (.inr (.inr (fun _ => none)))))) := x_1678 _ _ f_1666 (gne f_1666 f_1618 (fun e => by cases e))
                  have f_1727 : G_1670 q_24 = some (33, .inl (cA 3, 8, .inr (.inr (.inr (.inr (va_up (va_up (va_up (va_up (va_up (va_up (va_up (fun _ => none) 0 (some q_684)) 1 (some q_790)) 2 (some q_905)) 3 (some q_1029)) 4 (some q_1162)) 5 (some q_1304)) 6 (some q_1455))))))) := x_1678 _ _ f_1667 (gne f_1667 f_1618 (fun e => by cases e))
                  have x_1728 : gex (fun x => x = h) G G_1670 := gex_tr x_1669 x_1678 (fun x y hx9 _ e => by subst e; rw [z_1668] at hx9; cases hx9)
                  refine g_aast hx hb hK 3 5 f_1727 rfl f_1675 rfl (show vp_in (nI 7) 8 from vp_in_nI (by omega) (by omega)) d_Mf_init_172 (fun G_1729 f_1730 o_1731 => ?_)
                  rw [nI_clamp (by omega)] at f_1730
                  have f_1732 : G_1729 q_1 = some (32, .inl (cA 2, 200, .inr (.inr (.inr (.inr (fun _ => none)))))) := (o_1731 _ (gne f_1694 f_1727 (by simp))).trans f_1694
                  have f_1733 : G_1729 q_50 = some (35, .inr (7, [.ref a_64, .ref a_65, .int (nI 0)])) := (o_1731 _ (gne f_1695 f_1727 (fun e => by cases e))).trans f_1695
                  have f_1734 : G_1729 a_64 = some (36, .inl (cA 0, 12, .inl (fun _ => 0))) := (o_1731 _ (gne f_1696 f_1727 (by simp))).trans f_1696
                  have f_1735 : G_1729 a_65 = some (37, .inl (cA 1, 12, .inr (.inl (fun _ => 0)))) := (o_1731 _ (gne f_1697 f_1727 (by simp))).trans f_1697
                  have f_1736 : G_1729 q_87 = some (30, .inr (0, [.ref hd, .ref hc, .ref (ad 5), .ref (ad 6), .ref (ad 7), .ref (ad 8), .ref (ad 9), .ref (ad 10)])) := (o_1731 _ (gne f_1698 f_1727 (fun e => by cases e))).trans f_1698
                  have f_1737 : G_1729 hd = some (30, .inr (2, [.ref (ad 0), .ref (ad 1), .ref (ad 2)])) := (o_1731 _ (gne f_1699 f_1727 (fun e => by cases e))).trans f_1699
                  have f_1738 : G_1729 hc = some (19, .inr (1, [.ref hd, .ref (ad 3), .ref (ad 4), .long l_109, .long l_110, .long l_111, .long l_112])) := (o_1731 _ (gne f_1700 f_1727 (fun e => by cases e))).trans f_1700
                  have f_1739 : G_1729 q_137 = some (20, .inr (3, [.int (nI 0), .ref a_158, .ref b_159])) := (o_1731 _ (gne f_1701 f_1727 (fun e => by cases e))).trans f_1701
                  have f_1740 : G_1729 q_197 = some (21, .inr (3, [.int (nI 0), .ref a_221, .ref b_222])) := (o_1731 _ (gne f_1702 f_1727 (fun e => by cases e))).trans f_1702
                  have f_1741 : G_1729 q_266 = some (22, .inr (3, [.int (nI 0), .ref a_293, .ref b_294])) := (o_1731 _ (gne f_1703 f_1727 (fun e => by cases e))).trans f_1703
                  have f_1742 : G_1729 q_344 = some (23, .inr (3, [.int (nI 0), .ref a_374, .ref b_375])) := (o_1731 _ (gne f_1704 f_1727 (fun e => by cases e))).trans f_1704
                  have f_1743 : G_1729 h = some (31, .inr (8, [.ref q_1, .int (nI 0), .ref q_24, .int (nI 0), .ref q_50, .ref q_87, .ref q_137, .ref q_197, .ref q_266, .ref q_344, .ref r_434, .ref r_494, .ref r_556, .ref r_620])) := (o_1731 _ (gne f_1705 f_1727 (fun e => by cases e))).trans f_1705
                  have f_1744 : G_1729 q_684 = some (40, .inr (5, [.ref a_721, .ref a_722, .int (nI 0)])) := (o_1731 _ (gne f_1706 f_1727 (fun e => by cases e))).trans f_1706
                  have f_1745 : G_1729 a_721 = some (50, .inl (cA 2, 16, .inr (.inr (.inr (.inr (fun _ => none)))))) := (o_1731 _ (gne f_1707 f_1727 (by simp))).trans f_1707
                  have f_1746 : G_1729 a_722 = some (60, .inl (cA 2, 16, .inr (.inr (.inr (.inr (fun _ => none)))))) := (o_1731 _ (gne f_1708 f_1727 (by simp))).trans f_1708
                  have f_1747 : G_1729 q_790 = some (41, .inr (5, [.ref a_830, .ref a_831, .int (nI 0)])) := (o_1731 _ (gne f_1709 f_1727 (fun e => by cases e))).trans f_1709
                  have f_1748 : G_1729 a_830 = some (51, .inl (cA 2, 16, .inr (.inr (.inr (.inr (fun _ => none)))))) := (o_1731 _ (gne f_1710 f_1727 (by simp))).trans f_1710
                  have f_1749 : G_1729 a_831 = some (61, .inl (cA 2, 16, .inr (.inr (.inr (.inr (fun _ => none)))))) := (o_1731 _ (gne f_1711 f_1727 (by simp))).trans f_1711
                  have f_1750 : G_1729 q_905 = some (42, .inr (5, [.ref a_948, .ref a_949, .int (nI 0)])) := (o_1731 _ (gne f_1712 f_1727 (fun e => by cases e))).trans f_1712
                  have f_1751 : G_1729 a_948 = some (52, .inl (cA 2, 16, .inr (.inr (.inr (.inr (fun _ => none)))))) := (o_1731 _ (gne f_1713 f_1727 (by simp))).trans f_1713
                  have f_1752 : G_1729 a_949 = some (62, .inl (cA 2, 16, .inr (.inr (.inr (.inr (fun _ => none)))))) := (o_1731 _ (gne f_1714 f_1727 (by simp))).trans f_1714
                  have f_1753 : G_1729 q_1029 = some (43, .inr (5, [.ref a_1075, .ref a_1076, .int (nI 0)])) := (o_1731 _ (gne f_1715 f_1727 (fun e => by cases e))).trans f_1715
                  have f_1754 : G_1729 a_1075 = some (53, .inl (cA 2, 16, .inr (.inr (.inr (.inr (fun _ => none)))))) := (o_1731 _ (gne f_1716 f_1727 (by simp))).trans f_1716
                  have f_1755 : G_1729 a_1076 = some (63, .inl (cA 2, 16, .inr (.inr (.inr (.inr (fun _ => none)))))) := (o_1731 _ (gne f_1717 f_1727 (by simp))).trans f_1717
                  have f_1756 : G_1729 q_1162 = some (44, .inr (5, [.ref a_1211, .ref a_1212, .int (nI 0)])) := (o_1731 _ (gne f_1718 f_1727 (fun e => by cases e))).trans f_1718
                  have f_1757 : G_1729 a_1211 = some (54, .inl (cA 2, 16, .inr (.inr (.inr (.inr (fun _ => none)))))) := (o_1731 _ (gne f_1719 f_1727 (by simp))).trans f_1719
                  have f_1758 : G_1729 a_1212 = some (64, .inl (cA 2, 16, .inr (.inr (.inr (.inr (fun _ => none)))))) := (o_1731 _ (gne f_1720 f_1727 (by simp))).trans f_1720
                  have f_1759 : G_1729 q_1304 = some (45, .inr (5, [.ref a_1356, .ref a_1357, .int (nI 0)])) := (o_1731 _ (gne f_1721 f_1727 (fun e => by cases e))).trans f_1721
                  have f_1760 : G_1729 a_1356 = some (55, .inl (cA 2, 16, .inr (.inr (.inr (.inr (fun _ => none)))))) := (o_1731 _ (gne f_1722 f_1727 (by simp))).trans f_1722
                  have f_1761 : G_1729 a_1357 = some (65, .inl (cA 2, 16, .inr (.inr (.inr (.inr (fun _ => none)))))) := (o_1731 _ (gne f_1723 f_1727 (by simp))).trans f_1723
                  have f_1762 : G_1729 q_1455 = some (46, .inr (5, [.ref a_1510, .ref a_1511, .int (nI 0)])) := (o_1731 _ (gne f_1724 f_1727 (fun e => by cases e))).trans f_1724
                  have f_1763 : G_1729 a_1510 = some (56, .inl (cA 2, 16, .inr (.inr (.inr (.inr (fun _ => none)))))) := (o_1731 _ (gne f_1725 f_1727 (by simp))).trans f_1725
                  have f_1764 : G_1729 a_1511 = some (66, .inl (cA 2, 16, .inr (.inr (.inr (.inr (fun _ => none)))))) := (o_1731 _ (gne f_1726 f_1727 (by simp))).trans f_1726
                  have f_1765 : G_1729 q_1615 = some (47, .inr (5, [.ref a_1673, .ref a_1674, .int (nI 0)])) := (o_1731 _ (gne f_1675 f_1727 (fun e => by cases e))).trans f_1675
                  have f_1766 : G_1729 a_1673 = some (57, .inl (cA 2, 16, .inr (.inr (.inr (.inr (fun _ => none)))))) := (o_1731 _ (gne f_1676 f_1727 (by simp))).trans f_1676
                  have f_1767 : G_1729 a_1674 = some (67, .inl (cA 2, 16, .inr (.inr (.inr (.inr (fun _ => none)))))) := (o_1731 _ (gne f_1677 f_1727 (by simp))).trans f_1677
                  have x_1768 : gex (fun x => x = h) G G_1729 := gex_put x_1728 o_1731 (Or.inr z_32)
                  have fr_1769 : gfr (fun y => y = 33) G_1670 G_1729 := gfr_put gfr_rf f_1727 rfl o_1731
                  have n_1770 : isN cA G_1729 24 11 a_158 0 := isN_fr n_1681 fr_1769 (show ¬ (11 : Nat) = 33 by decide)
                  have n_1771 : isN cA G_1729 24 12 b_159 0 := isN_fr n_1682 fr_1769 (show ¬ (12 : Nat) = 33 by decide)
                  have n_1772 : isN cA G_1729 24 13 a_221 0 := isN_fr n_1683 fr_1769 (show ¬ (13 : Nat) = 33 by decide)
                  have n_1773 : isN cA G_1729 24 14 b_222 0 := isN_fr n_1684 fr_1769 (show ¬ (14 : Nat) = 33 by decide)
                  have n_1774 : isN cA G_1729 24 15 a_293 0 := isN_fr n_1685 fr_1769 (show ¬ (15 : Nat) = 33 by decide)
                  have n_1775 : isN cA G_1729 24 16 b_294 0 := isN_fr n_1686 fr_1769 (show ¬ (16 : Nat) = 33 by decide)
                  have n_1776 : isN cA G_1729 24 17 a_374 0 := isN_fr n_1687 fr_1769 (show ¬ (17 : Nat) = 33 by decide)
                  have n_1777 : isN cA G_1729 24 18 b_375 0 := isN_fr n_1688 fr_1769 (show ¬ (18 : Nat) = 33 by decide)
                  have n_1778 : ∀ t9, t9 < 11 → isN cA G_1729 24 t9 (ad t9) 0 := fun t9 h9 => isN_fr (n_1689 t9 h9) fr_1769 (show ¬ t9 = 33 by omega)
                  have n_1779 : rf cA G_1729 (fun x => x = 30) r_434 ((0 : Nat) : Int) 1 := rf_fr n_1690 fr_1769 (fun t9 h9 => by have h9 : t9 = 30 := h9; show ¬ t9 = 33; omega)
                  have n_1780 : rf cA G_1729 (fun x => x = 30) r_494 ((4 : Nat) : Int) 1 := rf_fr n_1691 fr_1769 (fun t9 h9 => by have h9 : t9 = 30 := h9; show ¬ t9 = 33; omega)
                  have n_1781 : rf cA G_1729 (fun x => x = 30) r_556 ((1 : Nat) : Int) 2 := rf_fr n_1692 fr_1769 (fun t9 h9 => by have h9 : t9 = 30 := h9; show ¬ t9 = 33; omega)
                  have n_1782 : rf cA G_1729 (fun x => x = 30) r_620 ((1 : Nat) : Int) 6 := rf_fr n_1693 fr_1769 (fun t9 h9 => by have h9 : t9 = 30 := h9; show ¬ t9 = 33; omega)
                  refine gst (pc' := 176) (L' := [(1, .int (nI 8)), (0, .ref h)]) (fun _ _ _ _ _ hl => lv_iinc (v := nI 8) hx hb d_Mf_init_173 hl (k := 0) rfl (by decide) (by decide) rfl) ?_
                  refine gs (pc' := 154) (fun _ _ _ _ _ hl => lv_goto (tgt := 154) hx hb d_Mf_init_176 (by decide)) ?_
                  refine gs (pc' := 155) (fun _ _ _ _ _ hl => lv_iload_n hx hb d_Mf_init_154 rfl (lv_at hl 0 rfl)) ?_
                  refine gs (pc' := 157) (fun _ _ _ _ _ hl => lv_bipush (v := nI 8) hx hb d_Mf_init_155 (by decide)) ?_
                  refine gsb (pc1 := 179) (pc2 := 160) (fun _ _ _ _ _ => lv_icmp_ge (tgt := 179) hx hb d_Mf_init_157 (by decide)) (fun c_1783 => ?_) (fun c_1783 => ?_)
                  · skip
                    have nc_1783 : 8 ≥ 8 := (nn_ge (a := 8) (b := 8) (by omega) (by omega)).1 c_1783
                    exact absurd nc_1783 (by decide)
                  · skip
                    have nc_1783 : 8 < 8 := (nn_ge (a := 8) (b := 8) (by omega) (by omega)).2 c_1783
                    exact absurd nc_1783 (by decide)
