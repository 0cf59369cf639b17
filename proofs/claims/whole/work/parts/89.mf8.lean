theorem lim_st {b c k n m M : Nat} (hl : ∀ k, k ≤ m → b + k ≤ M) (h : c + k ≤ m) (e : n = b + c) : n + k ≤ M := by
  subst e
  rw [Nat.add_assoc]
  exact hl _ h
theorem gne0 {G : gT} {b q : Nat} {x : Nat × va_E} (hb : G b = some x) (h0 : G q = none) : b ≠ q := fun e => by rw [e, h0] at hb; cases hb
set_option maxHeartbeats 4000000 in
set_option maxRecDepth 100000 in
theorem c_Mf_init (l : Launch) (D : va_G) (cA : Nat → ClassId) (lo MC MS : Nat) (G : gT) (B : Nat × Nat) (h : Nat) (hh : G h = some (31, .inr (8, [.null, .int (nI 0), .null, .int (nI 0), .null, .null, .null, .null, .null, .null, .null, .null, .null, .null]))) (hC : B.1 + 200 ≤ MC) (hS : B.2 + 2000 ≤ MS) (hB1 : B.1 ≤ MC) (hB2 : B.2 ≤ MS) : gMet l y_Mf_init w_Mf_init 5 130 D clS (gtys cA) lo MC MS [.ref h] G B (gQv D clS lo (fun u => ∃ a : AX, a.x = h ∧ CW3 cA (B.1 + 57000, B.2 + 115000) a st0 u)) := by
  refine g_metv (cc := prog_1_method_1_code) (nL := 2) (L := [(0, .ref h)]) (by decide +kernel) rfl (Nat.le_of_ble_eq_true rfl) rfl ?_
  intro p e R s m args below meth c Q hF hRc hRs hRf hRl hret
  obtain ⟨hx, hb, hr, hml, hts0, hown, hlocks, hin, hK, hlo, hZ⟩ := hF
  have hts : ∀ w ∈ tbg, w.before args s = true := fun w h => hts0 w (List.mem_cons_of_mem _ h)
  obtain ⟨⟨-, -, -, -, -, hA1, hA2, -⟩, -⟩ := id hZ
  have hE : gex (fun x => x = h) G G := gex_rf
  have hlc : ∀ k, k ≤ 200 → B.1 + k ≤ MC := fun k9 h9 => Nat.le_trans (Nat.add_le_add_left h9 _) hC
  have hls : ∀ k, k ≤ 2000 → B.2 + k ≤ MS := fun k9 h9 => Nat.le_trans (Nat.add_le_add_left h9 _) hS
  refine gs (pc' := 1) (fun _ _ _ _ _ hl => lv_aload_n hx hb d_Mf_init_0 rfl (lv_at hl 0 rfl)) ?_
  refine gs (pc' := 4) (st' := []) (fun _ _ _ _ _ hl => fun kk => W.objInit (g := F0 m 1 _ (.ref h :: [])) hx hb hown (hts _ wm25) (hts _ wm26) (hts _ wm27) rfl (by rw [hml]; exact hl.1) rfl d_Mf_init_1 (by rw [hRf]; exact Nat.le_of_ble_eq_true rfl) (by rw [hRl]; exact Nat.le_of_ble_eq_true rfl) kk) ?_
  refine gs (pc' := 5) (fun _ _ _ _ _ hl => lv_aload_n hx hb d_Mf_init_4 rfl (lv_at hl 0 rfl)) ?_
  refine gs (pc' := 8) (fun _ _ _ _ _ hl => lv_sipush (v := nI 200) hx hb d_Mf_init_5 (by decide)) ?_
  refine g_anew hx hb hown (hts _ wm28) (va_AO.use hA1) hK 2 rfl (nI_pos (by decide)) (nI_clamp (by decide)) (by show 200 * 4 ≤ 536870912; decide) hlo hRc hRs (show B.1 + 1 ≤ MC from hlc 1 (by decide)) (show B.2 + 200 ≤ MS from hls 200 (by decide)) d_Mf_init_8 32 (fun q_1 G_2 z_3 f_4 o_5 => ?_)
  have fr_6 : gfr (fun y => y = 1000) G G_2 := gfr_new gfr_rf z_3 o_5
  have f_7 : G_2 h = some (31, .inr (8, [.null, .int (nI 0), .null, .int (nI 0), .null, .null, .null, .null, .null, .null, .null, .null, .null, .null])) := (o_5 _ (gne0 hh z_3)).trans hh
  have z_8 : G q_1 = none := gex_0 hE z_3 (fun z => by have z := z.symm; subst z; rw [hh] at z_3; cases z_3)
  have x_9 : gex (fun x => x = h) G G_2 := gex_new hE z_3 o_5
  refine g_Beq (B' := (B.1 + 1, B.2 + 200)) rfl ?_
  refine g_putF (ty := .array (.object "MetreFractions$Value")) hx hb hts hin_Mf ty_Mf ty_Mf_ok nm_Mf hown hK f_7 rfl 0 (by decide) (hts _ wm235) (fun _ h9 => h9) rfl hin rfl (by decide +kernel) rfl rfl (Nat.le_of_ble_eq_true rfl) d_Mf_init_11 (fun G_10 f_11 o_12 => ?_)
  have f_13 : G_10 h = some (31, .inr (8, [.ref q_1, .int (nI 0), .null, .int (nI 0), .null, .null, .null, .null, .null, .null, .null, .null, .null, .null])) := f_11
  have f_14 : G_10 q_1 = some (32, .inl (cA 2, 200, .inr (.inr (.inr (.inr (fun _ => none)))))) := (o_12 _ (gne f_4 f_7 (fun e => absurd (show (32 : Nat) = 31 from congrArg Prod.fst e) (by decide)))).trans f_4
  have x_15 : gex (fun x => x = h) G G_10 := gex_put x_9 o_12 (Or.inl rfl)
  have fr_16 : gfr (fun y => y = 31) G_2 G_10 := gfr_put gfr_rf f_7 rfl o_12
  refine gs (pc' := 15) (fun _ _ _ _ _ hl => lv_aload_n hx hb d_Mf_init_14 rfl (lv_at hl 0 rfl)) ?_
  refine gs (pc' := 16) (fun _ _ _ _ _ hl => lv_iconst (v := nI 0) hx hb d_Mf_init_15 (by decide)) ?_
  refine g_put (ty := .int) hx hb hts hin_Mf ty_Mf ty_Mf_ok nm_Mf hown hK f_13 rfl 1 (by decide) (hts _ wm236) (fun _ h9 => h9) rfl (by decide +kernel) rfl rfl (Nat.le_of_ble_eq_true rfl) d_Mf_init_16 (fun G_17 f_18 o_19 => ?_)
  have f_20 : G_17 h = some (31, .inr (8, [.ref q_1, .int (nI 0), .null, .int (nI 0), .null, .null, .null, .null, .null, .null, .null, .null, .null, .null])) := f_18
  have f_21 : G_17 q_1 = some (32, .inl (cA 2, 200, .inr (.inr (.inr (.inr (fun _ => none)))))) := (o_19 _ (gne f_14 f_13 (fun e => absurd (show (32 : Nat) = 31 from congrArg Prod.fst e) (by decide)))).trans f_14
  have x_22 : gex (fun x => x = h) G G_17 := gex_put x_15 o_19 (Or.inl rfl)
  have fr_23 : gfr (fun y => y = 31) G_10 G_17 := gfr_put gfr_rf f_13 rfl o_19
  refine gs (pc' := 20) (fun _ _ _ _ _ hl => lv_aload_n hx hb d_Mf_init_19 rfl (lv_at hl 0 rfl)) ?_
  refine gs (pc' := 22) (fun _ _ _ _ _ hl => lv_bipush (v := nI 8) hx hb d_Mf_init_20 (by decide)) ?_
  refine g_anew hx hb hown (hts _ wm30) (va_AO.use hA2) hK 3 rfl (nI_pos (by decide)) (nI_clamp (by decide)) (by show 8 * 4 ≤ 536870912; decide) hlo hRc hRs (show B.1 + 1 + 1 ≤ MC from hlc 2 (by decide)) (show B.2 + 200 + 8 ≤ MS from hls 208 (by decide)) d_Mf_init_22 33 (fun q_24 G_25 z_26 f_27 o_28 => ?_)
  have fr_29 : gfr (fun y => y = 1000) G_17 G_25 := gfr_new gfr_rf z_26 o_28
  have f_30 : G_25 q_1 = some (32, .inl (cA 2, 200, .inr (.inr (.inr (.inr (fun _ => none)))))) := (o_28 _ (gne0 f_21 z_26)).trans f_21
  have f_31 : G_25 h = some (31, .inr (8, [.ref q_1, .int (nI 0), .null, .int (nI 0), .null, .null, .null, .null, .null, .null, .null, .null, .null, .null])) := (o_28 _ (gne0 f_20 z_26)).trans f_20
  have z_32 : G q_24 = none := gex_0 x_22 z_26 (fun z => by have z := z.symm; subst z; rw [f_20] at z_26; cases z_26)
  have x_33 : gex (fun x => x = h) G G_25 := gex_new x_22 z_26 o_28
  refine g_Beq (B' := (B.1 + 1 + 1, B.2 + 200 + 8)) rfl ?_
  refine g_putF (ty := .array (.object "MetreFractions$Row")) hx hb hts hin_Mf ty_Mf ty_Mf_ok nm_Mf hown hK f_31 rfl 2 (by decide) (hts _ wm237) (fun _ h9 => h9) rfl hin rfl (by decide +kernel) rfl rfl (Nat.le_of_ble_eq_true rfl) d_Mf_init_25 (fun G_34 f_35 o_36 => ?_)
  have f_37 : G_34 h = some (31, .inr (8, [.ref q_1, .int (nI 0), .ref q_24, .int (nI 0), .null, .null, .null, .null, .null, .null, .null, .null, .null, .null])) := f_35
  have f_38 : G_34 q_1 = some (32, .inl (cA 2, 200, .inr (.inr (.inr (.inr (fun _ => none)))))) := (o_36 _ (gne f_30 f_31 (fun e => absurd (show (32 : Nat) = 31 from congrArg Prod.fst e) (by decide)))).trans f_30
  have f_39 : G_34 q_24 = some (33, .inl (cA 3, 8, .inr (.inr (.inr (.inr (fun _ => none)))))) := (o_36 _ (gne f_27 f_31 (fun e => absurd (show (33 : Nat) = 31 from congrArg Prod.fst e) (by decide)))).trans f_27
  have x_40 : gex (fun x => x = h) G G_34 := gex_put x_33 o_36 (Or.inl rfl)
  have fr_41 : gfr (fun y => y = 31) G_25 G_34 := gfr_put gfr_rf f_31 rfl o_36
  refine gs (pc' := 29) (fun _ _ _ _ _ hl => lv_aload_n hx hb d_Mf_init_28 rfl (lv_at hl 0 rfl)) ?_
  refine gs (pc' := 30) (fun _ _ _ _ _ hl => lv_iconst (v := nI 0) hx hb d_Mf_init_29 (by decide)) ?_
  refine g_put (ty := .int) hx hb hts hin_Mf ty_Mf ty_Mf_ok nm_Mf hown hK f_37 rfl 3 (by decide) (hts _ wm238) (fun _ h9 => h9) rfl (by decide +kernel) rfl rfl (Nat.le_of_ble_eq_true rfl) d_Mf_init_30 (fun G_42 f_43 o_44 => ?_)
  have f_45 : G_42 h = some (31, .inr (8, [.ref q_1, .int (nI 0), .ref q_24, .int (nI 0), .null, .null, .null, .null, .null, .null, .null, .null, .null, .null])) := f_43
  have f_46 : G_42 q_1 = some (32, .inl (cA 2, 200, .inr (.inr (.inr (.inr (fun _ => none)))))) := (o_44 _ (gne f_38 f_37 (fun e => absurd (show (32 : Nat) = 31 from congrArg Prod.fst e) (by decide)))).trans f_38
  have f_47 : G_42 q_24 = some (33, .inl (cA 3, 8, .inr (.inr (.inr (.inr (fun _ => none)))))) := (o_44 _ (gne f_39 f_37 (fun e => absurd (show (33 : Nat) = 31 from congrArg Prod.fst e) (by decide)))).trans f_39
  have x_48 : gex (fun x => x = h) G G_42 := gex_put x_40 o_44 (Or.inl rfl)
  have fr_49 : gfr (fun y => y = 31) G_34 G_42 := gfr_put gfr_rf f_37 rfl o_44
  refine gs (pc' := 34) (fun _ _ _ _ _ hl => lv_aload_n hx hb d_Mf_init_33 rfl (lv_at hl 0 rfl)) ?_
  refine g_new hx hb hts hin_We ty_We ty_We_ok hown (hts _ wm32) (hts _ wm33) (hts _ wm2) hK (ci := 7) rfl (fs := [.null, .null, .int (nI 0)]) (fun j => match j with | 0 => fun _ => rfl | 1 => fun _ => rfl | 2 => fun _ => rfl | n + 3 => fun h9 => absurd h9 (by omega)) hlo hRc hRs (show B.1 + 1 + 1 + 1 ≤ MC from hlc 3 (by decide)) (show B.2 + 200 + 8 + 3 ≤ MS from hls 211 (by decide)) d_Mf_init_34 35 (fun q_50 G_51 z_52 f_53 o_54 => ?_)
  have fr_55 : gfr (fun y => y = 1000) G_42 G_51 := gfr_new gfr_rf z_52 o_54
  have f_56 : G_51 q_1 = some (32, .inl (cA 2, 200, .inr (.inr (.inr (.inr (fun _ => none)))))) := (o_54 _ (gne0 f_46 z_52)).trans f_46
  have f_57 : G_51 q_24 = some (33, .inl (cA 3, 8, .inr (.inr (.inr (.inr (fun _ => none)))))) := (o_54 _ (gne0 f_47 z_52)).trans f_47
  have f_58 : G_51 h = some (31, .inr (8, [.ref q_1, .int (nI 0), .ref q_24, .int (nI 0), .null, .null, .null, .null, .null, .null, .null, .null, .null, .null])) := (o_54 _ (gne0 f_45 z_52)).trans f_45
  have z_59 : G q_50 = none := gex_0 x_48 z_52 (fun z => by have z := z.symm; subst z; rw [f_45] at z_52; cases z_52)
  have x_60 : gex (fun x => x = h) G G_51 := gex_new x_48 z_52 o_54
  refine g_Beq (B' := (B.1 + 1 + 1 + 1, B.2 + 200 + 8 + 3)) rfl ?_
  refine gs (pc' := 38) (fun _ _ _ _ _ hl => lv_dup hx hb d_Mf_init_37 rfl) ?_
  obtain ⟨⟨hN1, hN2, hN3, hN4, -, -, -⟩, -⟩ := id hZ
  refine g_outv hlo (g_runIN (b := q_50) (As := []) (rest := [.ref q_50, .ref h]) ⟨hx, hb, hml, hown, hts⟩ hK hZ hRc hRs (c_We_init l D cA lo MC MS G_51 (B.1 + 1 + 1 + 1, B.2 + 200 + 8 + 3) 35 36 37 q_50 (by decide) (by decide) (by decide) f_53 (show B.1 + 1 + 1 + 1 + 2 ≤ MC from hlc 5 (by decide)) (show B.2 + 200 + 8 + 3 + 24 ≤ MS from hls 235 (by decide)) (show B.1 + 1 + 1 + 1 ≤ MC from hlc 3 (by decide)) (show B.2 + 200 + 8 + 3 ≤ MS from hls 211 (by decide))) (fun _ _ => ⟨va_cnB 0 hts (tb_good k_We_init) rfl rfl rfl hN1 (hts _ wm2) (by decide +kernel) ⟨by rw [hRf]; exact Nat.le_of_ble_eq_true rfl, by rw [hRl]; exact Nat.le_of_ble_eq_true rfl⟩, rfl, hts _ wm35⟩) (show B.1 + 1 + 1 + 1 ≤ MC from hlc 3 (by decide)) (show B.2 + 200 + 8 + 3 ≤ MS from hls 211 (by decide)) rfl (Nat.le_of_ble_eq_true rfl) d_Mf_init_38) (fun G_61 B_62 p_63 => ?_)
  obtain ⟨a_64, a_65, f_66, f_67, f_68, x_69, e_70⟩ := p_63
  have fr_71 : gfr (fun y => y = 35) G_51 G_61 := gfr_gex x_69 f_53
  have e_70 : B_62 = (B.1 + 1 + 1 + 1 + 1 + 1, B.2 + 200 + 8 + 3 + 12 + 12) := e_70
  subst e_70
  have f_72 : G_61 q_1 = some (32, .inl (cA 2, 200, .inr (.inr (.inr (.inr (fun _ => none)))))) := x_69 _ _ f_56 (gne f_56 f_53 (fun e => absurd (show (32 : Nat) = 35 from congrArg Prod.fst e) (by decide)))
  have f_73 : G_61 q_24 = some (33, .inl (cA 3, 8, .inr (.inr (.inr (.inr (fun _ => none)))))) := x_69 _ _ f_57 (gne f_57 f_53 (fun e => absurd (show (33 : Nat) = 35 from congrArg Prod.fst e) (by decide)))
  have f_74 : G_61 h = some (31, .inr (8, [.ref q_1, .int (nI 0), .ref q_24, .int (nI 0), .null, .null, .null, .null, .null, .null, .null, .null, .null, .null])) := x_69 _ _ f_58 (gne f_58 f_53 (fun e => absurd (show (31 : Nat) = 35 from congrArg Prod.fst e) (by decide)))
  have x_75 : gex (fun x => x = h) G G_61 := gex_tr x_60 x_69 (fun x y hx9 _ e => by subst e; rw [z_59] at hx9; cases hx9)
  refine g_putF (ty := .object "MetreFractions$Weights") hx hb hts hin_Mf ty_Mf ty_Mf_ok nm_Mf hown hK f_74 rfl 4 (by decide) (hts _ wm239) (fun _ h9 => h9) rfl hin rfl (by decide +kernel) rfl rfl (Nat.le_of_ble_eq_true rfl) d_Mf_init_41 (fun G_76 f_77 o_78 => ?_)
  have f_79 : G_76 h = some (31, .inr (8, [.ref q_1, .int (nI 0), .ref q_24, .int (nI 0), .ref q_50, .null, .null, .null, .null, .null, .null, .null, .null, .null])) := f_77
  have f_80 : G_76 q_1 = some (32, .inl (cA 2, 200, .inr (.inr (.inr (.inr (fun _ => none)))))) := (o_78 _ (gne f_72 f_74 (fun e => absurd (show (32 : Nat) = 31 from congrArg Prod.fst e) (by decide)))).trans f_72
  have f_81 : G_76 q_24 = some (33, .inl (cA 3, 8, .inr (.inr (.inr (.inr (fun _ => none)))))) := (o_78 _ (gne f_73 f_74 (fun e => absurd (show (33 : Nat) = 31 from congrArg Prod.fst e) (by decide)))).trans f_73
  have f_82 : G_76 q_50 = some (35, .inr (7, [.ref a_64, .ref a_65, .int (nI 0)])) := (o_78 _ (gne f_66 f_74 (fun e => absurd (show (35 : Nat) = 31 from congrArg Prod.fst e) (by decide)))).trans f_66
  have f_83 : G_76 a_64 = some (36, .inl (cA 0, 12, .inl (fun _ => 0))) := (o_78 _ (gne f_67 f_74 (fun e => absurd (show (36 : Nat) = 31 from congrArg Prod.fst e) (by decide)))).trans f_67
  have f_84 : G_76 a_65 = some (37, .inl (cA 1, 12, .inr (.inl (fun _ => 0)))) := (o_78 _ (gne f_68 f_74 (fun e => absurd (show (37 : Nat) = 31 from congrArg Prod.fst e) (by decide)))).trans f_68
  have x_85 : gex (fun x => x = h) G G_76 := gex_put x_75 o_78 (Or.inl rfl)
  have fr_86 : gfr (fun y => y = 31) G_61 G_76 := gfr_put gfr_rf f_74 rfl o_78
  refine gs (pc' := 45) (fun _ _ _ _ _ hl => lv_aload_n hx hb d_Mf_init_44 rfl (lv_at hl 0 rfl)) ?_
  refine g_new hx hb hts hin_Ca ty_Ca ty_Ca_ok hown (hts _ wm51) (hts _ wm52) (hts _ wm3) hK (ci := 0) rfl (fs := [.null, .null, .null, .null, .null, .null, .null, .null]) (fun j => match j with | 0 => fun _ => rfl | 1 => fun _ => rfl | 2 => fun _ => rfl | 3 => fun _ => rfl | 4 => fun _ => rfl | 5 => fun _ => rfl | 6 => fun _ => rfl | 7 => fun _ => rfl | n + 8 => fun h9 => absurd h9 (by omega)) hlo hRc hRs (show B.1 + 1 + 1 + 1 + 1 + 1 + 1 ≤ MC from hlc 6 (by decide)) (show B.2 + 200 + 8 + 3 + 12 + 12 + 8 ≤ MS from hls 243 (by decide)) d_Mf_init_45 30 (fun q_87 G_88 z_89 f_90 o_91 => ?_)
  have fr_92 : gfr (fun y => y = 1000) G_76 G_88 := gfr_new gfr_rf z_89 o_91
  have f_93 : G_88 q_1 = some (32, .inl (cA 2, 200, .inr (.inr (.inr (.inr (fun _ => none)))))) := (o_91 _ (gne0 f_80 z_89)).trans f_80
  have f_94 : G_88 q_24 = some (33, .inl (cA 3, 8, .inr (.inr (.inr (.inr (fun _ => none)))))) := (o_91 _ (gne0 f_81 z_89)).trans f_81
  have f_95 : G_88 q_50 = some (35, .inr (7, [.ref a_64, .ref a_65, .int (nI 0)])) := (o_91 _ (gne0 f_82 z_89)).trans f_82
  have f_96 : G_88 a_64 = some (36, .inl (cA 0, 12, .inl (fun _ => 0))) := (o_91 _ (gne0 f_83 z_89)).trans f_83
  have f_97 : G_88 a_65 = some (37, .inl (cA 1, 12, .inr (.inl (fun _ => 0)))) := (o_91 _ (gne0 f_84 z_89)).trans f_84
  have f_98 : G_88 h = some (31, .inr (8, [.ref q_1, .int (nI 0), .ref q_24, .int (nI 0), .ref q_50, .null, .null, .null, .null, .null, .null, .null, .null, .null])) := (o_91 _ (gne0 f_79 z_89)).trans f_79
  have z_99 : G q_87 = none := gex_0 x_85 z_89 (fun z => by have z := z.symm; subst z; rw [f_79] at z_89; cases z_89)
  have x_100 : gex (fun x => x = h) G G_88 := gex_new x_85 z_89 o_91
  refine g_Beq (B' := (B.1 + 1 + 1 + 1 + 1 + 1 + 1, B.2 + 200 + 8 + 3 + 12 + 12 + 8)) rfl ?_
  refine gs (pc' := 49) (fun _ _ _ _ _ hl => lv_dup hx hb d_Mf_init_48 rfl) ?_
  obtain ⟨⟨hN1, hN2, hN3, hN4, -, -, -⟩, -⟩ := id hZ
  refine g_outv hlo (g_runIN (b := q_87) (As := []) (rest := [.ref q_87, .ref h]) ⟨hx, hb, hml, hown, hts⟩ hK hZ hRc hRs (c_Ca_init l D cA lo MC MS G_88 (B.1 + 1 + 1 + 1 + 1 + 1 + 1, B.2 + 200 + 8 + 3 + 12 + 12 + 8) q_87 f_90 (show B.1 + 1 + 1 + 1 + 1 + 1 + 1 + 24 ≤ MC from hlc 30 (by decide)) (show B.2 + 200 + 8 + 3 + 12 + 12 + 8 + 296 ≤ MS from hls 539 (by decide)) (show B.1 + 1 + 1 + 1 + 1 + 1 + 1 ≤ MC from hlc 6 (by decide)) (show B.2 + 200 + 8 + 3 + 12 + 12 + 8 ≤ MS from hls 243 (by decide))) (fun _ _ => ⟨va_cnB 0 hts (tb_good k_Ca_init) rfl rfl rfl hN2 (hts _ wm3) (by decide +kernel) ⟨by rw [hRf]; exact Nat.le_of_ble_eq_true rfl, by rw [hRl]; exact Nat.le_of_ble_eq_true rfl⟩, rfl, hts _ wm54⟩) (show B.1 + 1 + 1 + 1 + 1 + 1 + 1 ≤ MC from hlc 6 (by decide)) (show B.2 + 200 + 8 + 3 + 12 + 12 + 8 ≤ MS from hls 243 (by decide)) rfl (Nat.le_of_ble_eq_true rfl) d_Mf_init_49) (fun G_101 B_102 p_103 => ?_)
  obtain ⟨ad, hd, hc, ⟨l_109, l_110, l_111, l_112, f_113⟩, f_104, f_105, n_106, x_107, e_108⟩ := p_103
  have fr_114 : gfr (fun y => y = 30) G_88 G_101 := gfr_gex x_107 f_90
  have e_108 : B_102 = (B.1 + 1 + 1 + 1 + 1 + 1 + 1 + 1 + 1 + 1 + 1 + 1 + 1 + 1 + 1 + 1 + 1 + 1 + 1 + 1 + 1 + 1 + 1 + 1 + 1 + 1 + 1 + 1 + 1 + 1 + 1, B.2 + 200 + 8 + 3 + 12 + 12 + 8 + 3 + 2 + 24 + 2 + 24 + 2 + 24 + 7 + 2 + 24 + 2 + 24 + 2 + 24 + 2 + 24 + 2 + 24 + 2 + 24 + 2 + 24 + 2 + 24) := e_108
  subst e_108
  have f_115 : G_101 q_1 = some (32, .inl (cA 2, 200, .inr (.inr (.inr (.inr (fun _ => none)))))) := x_107 _ _ f_93 (gne f_93 f_90 (fun e => absurd (show (32 : Nat) = 30 from congrArg Prod.fst e) (by decide)))
  have f_116 : G_101 q_24 = some (33, .inl (cA 3, 8, .inr (.inr (.inr (.inr (fun _ => none)))))) := x_107 _ _ f_94 (gne f_94 f_90 (fun e => absurd (show (33 : Nat) = 30 from congrArg Prod.fst e) (by decide)))
  have f_117 : G_101 q_50 = some (35, .inr (7, [.ref a_64, .ref a_65, .int (nI 0)])) := x_107 _ _ f_95 (gne f_95 f_90 (fun e => absurd (show (35 : Nat) = 30 from congrArg Prod.fst e) (by decide)))
  have f_118 : G_101 a_64 = some (36, .inl (cA 0, 12, .inl (fun _ => 0))) := x_107 _ _ f_96 (gne f_96 f_90 (fun e => absurd (show (36 : Nat) = 30 from congrArg Prod.fst e) (by decide)))
  have f_119 : G_101 a_65 = some (37, .inl (cA 1, 12, .inr (.inl (fun _ => 0)))) := x_107 _ _ f_97 (gne f_97 f_90 (fun e => absurd (show (37 : Nat) = 30 from congrArg Prod.fst e) (by decide)))
  have f_120 : G_101 h = some (31, .inr (8, [.ref q_1, .int (nI 0), .ref q_24, .int (nI 0), .ref q_50, .null, .null, .null, .null, .null, .null, .null, .null, .null])) := x_107 _ _ f_98 (gne f_98 f_90 (fun e => absurd (show (31 : Nat) = 30 from congrArg Prod.fst e) (by decide)))
  have x_121 : gex (fun x => x = h) G G_101 := gex_tr x_100 x_107 (fun x y hx9 _ e => by subst e; rw [z_99] at hx9; cases hx9)
  refine g_putF (ty := .object "MetreFractions$Calculator") hx hb hts hin_Mf ty_Mf ty_Mf_ok nm_Mf hown hK f_120 rfl 5 (by decide) (hts _ wm240) (fun _ h9 => h9) rfl hin rfl (by decide +kernel) rfl rfl (Nat.le_of_ble_eq_true rfl) d_Mf_init_52 (fun G_122 f_123 o_124 => ?_)
  have f_125 : G_122 h = some (31, .inr (8, [.ref q_1, .int (nI 0), .ref q_24, .int (nI 0), .ref q_50, .ref q_87, .null, .null, .null, .null, .null, .null, .null, .null])) := f_123
  have f_126 : G_122 q_1 = some (32, .inl (cA 2, 200, .inr (.inr (.inr (.inr (fun _ => none)))))) := (o_124 _ (gne f_115 f_120 (fun e => absurd (show (32 : Nat) = 31 from congrArg Prod.fst e) (by decide)))).trans f_115
  have f_127 : G_122 q_24 = some (33, .inl (cA 3, 8, .inr (.inr (.inr (.inr (fun _ => none)))))) := (o_124 _ (gne f_116 f_120 (fun e => absurd (show (33 : Nat) = 31 from congrArg Prod.fst e) (by decide)))).trans f_116
  have f_128 : G_122 q_50 = some (35, .inr (7, [.ref a_64, .ref a_65, .int (nI 0)])) := (o_124 _ (gne f_117 f_120 (fun e => absurd (show (35 : Nat) = 31 from congrArg Prod.fst e) (by decide)))).trans f_117
  have f_129 : G_122 a_64 = some (36, .inl (cA 0, 12, .inl (fun _ => 0))) := (o_124 _ (gne f_118 f_120 (fun e => absurd (show (36 : Nat) = 31 from congrArg Prod.fst e) (by decide)))).trans f_118
  have f_130 : G_122 a_65 = some (37, .inl (cA 1, 12, .inr (.inl (fun _ => 0)))) := (o_124 _ (gne f_119 f_120 (fun e => absurd (show (37 : Nat) = 31 from congrArg Prod.fst e) (by decide)))).trans f_119
  have f_131 : G_122 q_87 = some (30, .inr (0, [.ref hd, .ref hc, .ref (ad 5), .ref (ad 6), .ref (ad 7), .ref (ad 8), .ref (ad 9), .ref (ad 10)])) := (o_124 _ (gne f_104 f_120 (fun e => absurd (show (30 : Nat) = 31 from congrArg Prod.fst e) (by decide)))).trans f_104
  have f_132 : G_122 hd = some (30, .inr (2, [.ref (ad 0), .ref (ad 1), .ref (ad 2)])) := (o_124 _ (gne f_105 f_120 (fun e => absurd (show (30 : Nat) = 31 from congrArg Prod.fst e) (by decide)))).trans f_105
  have f_133 : G_122 hc = some (19, .inr (1, [.ref hd, .ref (ad 3), .ref (ad 4), .long l_109, .long l_110, .long l_111, .long l_112])) := (o_124 _ (gne f_113 f_120 (fun e => absurd (show (19 : Nat) = 31 from congrArg Prod.fst e) (by decide)))).trans f_113
  have x_134 : gex (fun x => x = h) G G_122 := gex_put x_121 o_124 (Or.inl rfl)
  have fr_135 : gfr (fun y => y = 31) G_101 G_122 := gfr_put gfr_rf f_120 rfl o_124
  have n_136 : ∀ t9, t9 < 11 → isN cA G_122 24 t9 (ad t9) 0 := fun t9 h9 => isN_fr (n_106 t9 h9) fr_135 (fun e9 : t9 = 31 => absurd (show (31 : Nat) < 11 from e9 ▸ h9) (by decide))
  refine gs (pc' := 56) (fun _ _ _ _ _ hl => lv_aload_n hx hb d_Mf_init_55 rfl (lv_at hl 0 rfl)) ?_
  refine g_new hx hb hts hin_Fr ty_Fr ty_Fr_ok hown (hts _ wm155) (hts _ wm156) (hts _ wm8) hK (ci := 3) rfl (fs := [.int (nI 0), .null, .null]) (fun j => match j with | 0 => fun _ => rfl | 1 => fun _ => rfl | 2 => fun _ => rfl | n + 3 => fun h9 => absurd h9 (by omega)) hlo hRc hRs (show B.1 + 1 + 1 + 1 + 1 + 1 + 1 + 1 + 1 + 1 + 1 + 1 + 1 + 1 + 1 + 1 + 1 + 1 + 1 + 1 + 1 + 1 + 1 + 1 + 1 + 1 + 1 + 1 + 1 + 1 + 1 + 1 ≤ MC from hlc 31 (by decide)) (show B.2 + 200 + 8 + 3 + 12 + 12 + 8 + 3 + 2 + 24 + 2 + 24 + 2 + 24 + 7 + 2 + 24 + 2 + 24 + 2 + 24 + 2 + 24 + 2 + 24 + 2 + 24 + 2 + 24 + 2 + 24 + 3 ≤ MS from hls 542 (by decide)) d_Mf_init_56 20 (fun q_137 G_138 z_139 f_140 o_141 => ?_)
  have fr_142 : gfr (fun y => y = 1000) G_122 G_138 := gfr_new gfr_rf z_139 o_141
  have n_143 : ∀ t9, t9 < 11 → isN cA G_138 24 t9 (ad t9) 0 := fun t9 h9 => isN_fr (n_136 t9 h9) fr_142 (fun e9 : t9 = 1000 => absurd (show (1000 : Nat) < 11 from e9 ▸ h9) (by decide))
  have f_144 : G_138 q_1 = some (32, .inl (cA 2, 200, .inr (.inr (.inr (.inr (fun _ => none)))))) := (o_141 _ (gne0 f_126 z_139)).trans f_126
  have f_145 : G_138 q_24 = some (33, .inl (cA 3, 8, .inr (.inr (.inr (.inr (fun _ => none)))))) := (o_141 _ (gne0 f_127 z_139)).trans f_127
  have f_146 : G_138 q_50 = some (35, .inr (7, [.ref a_64, .ref a_65, .int (nI 0)])) := (o_141 _ (gne0 f_128 z_139)).trans f_128
  have f_147 : G_138 a_64 = some (36, .inl (cA 0, 12, .inl (fun _ => 0))) := (o_141 _ (gne0 f_129 z_139)).trans f_129
  have f_148 : G_138 a_65 = some (37, .inl (cA 1, 12, .inr (.inl (fun _ => 0)))) := (o_141 _ (gne0 f_130 z_139)).trans f_130
  have f_149 : G_138 q_87 = some (30, .inr (0, [.ref hd, .ref hc, .ref (ad 5), .ref (ad 6), .ref (ad 7), .ref (ad 8), .ref (ad 9), .ref (ad 10)])) := (o_141 _ (gne0 f_131 z_139)).trans f_131
  have f_150 : G_138 hd = some (30, .inr (2, [.ref (ad 0), .ref (ad 1), .ref (ad 2)])) := (o_141 _ (gne0 f_132 z_139)).trans f_132
  have f_151 : G_138 hc = some (19, .inr (1, [.ref hd, .ref (ad 3), .ref (ad 4), .long l_109, .long l_110, .long l_111, .long l_112])) := (o_141 _ (gne0 f_133 z_139)).trans f_133
  have f_152 : G_138 h = some (31, .inr (8, [.ref q_1, .int (nI 0), .ref q_24, .int (nI 0), .ref q_50, .ref q_87, .null, .null, .null, .null, .null, .null, .null, .null])) := (o_141 _ (gne0 f_125 z_139)).trans f_125
  have z_153 : G q_137 = none := gex_0 x_134 z_139 (fun z => by have z := z.symm; subst z; rw [f_125] at z_139; cases z_139)
  have x_154 : gex (fun x => x = h) G G_138 := gex_new x_134 z_139 o_141
  refine g_Beq (B' := (B.1 + 1 + 1 + 1 + 1 + 1 + 1 + 1 + 1 + 1 + 1 + 1 + 1 + 1 + 1 + 1 + 1 + 1 + 1 + 1 + 1 + 1 + 1 + 1 + 1 + 1 + 1 + 1 + 1 + 1 + 1 + 1, B.2 + 200 + 8 + 3 + 12 + 12 + 8 + 3 + 2 + 24 + 2 + 24 + 2 + 24 + 7 + 2 + 24 + 2 + 24 + 2 + 24 + 2 + 24 + 2 + 24 + 2 + 24 + 2 + 24 + 2 + 24 + 3)) rfl ?_
  refine gs (pc' := 60) (fun _ _ _ _ _ hl => lv_dup hx hb d_Mf_init_59 rfl) ?_
  refine gs (pc' := 62) (fun _ _ _ _ _ hl => lv_bipush (v := nI 24) hx hb d_Mf_init_60 (by decide)) ?_
  refine gs (pc' := 64) (fun _ _ _ _ _ hl => lv_bipush (v := nI 24) hx hb d_Mf_init_62 (by decide)) ?_
  refine g_outv hlo (g_runI (b := q_137) (As := [.int (nI 24), .int (nI 24)]) (rest := [.ref q_137, .ref h]) ⟨hx, hb, hml, hown, hts⟩ hK hZ hRc hRs (c_Fr_init l D cA lo MC MS G_138 (B.1 + 1 + 1 + 1 + 1 + 1 + 1 + 1 + 1 + 1 + 1 + 1 + 1 + 1 + 1 + 1 + 1 + 1 + 1 + 1 + 1 + 1 + 1 + 1 + 1 + 1 + 1 + 1 + 1 + 1 + 1 + 1, B.2 + 200 + 8 + 3 + 12 + 12 + 8 + 3 + 2 + 24 + 2 + 24 + 2 + 24 + 7 + 2 + 24 + 2 + 24 + 2 + 24 + 2 + 24 + 2 + 24 + 2 + 24 + 2 + 24 + 2 + 24 + 3) 20 11 12 q_137 24 24 (by decide) f_140 (by decide) (by decide) (show B.1 + 1 + 1 + 1 + 1 + 1 + 1 + 1 + 1 + 1 + 1 + 1 + 1 + 1 + 1 + 1 + 1 + 1 + 1 + 1 + 1 + 1 + 1 + 1 + 1 + 1 + 1 + 1 + 1 + 1 + 1 + 1 + 4 ≤ MC from hlc 35 (by decide)) (show B.2 + 200 + 8 + 3 + 12 + 12 + 8 + 3 + 2 + 24 + 2 + 24 + 2 + 24 + 7 + 2 + 24 + 2 + 24 + 2 + 24 + 2 + 24 + 2 + 24 + 2 + 24 + 2 + 24 + 2 + 24 + 3 + 4 + 24 + 24 ≤ MS from hls 594 (by decide)) (show B.1 + 1 + 1 + 1 + 1 + 1 + 1 + 1 + 1 + 1 + 1 + 1 + 1 + 1 + 1 + 1 + 1 + 1 + 1 + 1 + 1 + 1 + 1 + 1 + 1 + 1 + 1 + 1 + 1 + 1 + 1 + 1 ≤ MC from hlc 31 (by decide)) (show B.2 + 200 + 8 + 3 + 12 + 12 + 8 + 3 + 2 + 24 + 2 + 24 + 2 + 24 + 7 + 2 + 24 + 2 + 24 + 2 + 24 + 2 + 24 + 2 + 24 + 2 + 24 + 2 + 24 + 2 + 24 + 3 ≤ MS from hls 542 (by decide))) (fun _ _ => cwI 2 hts (tb_good k_Fr_init) rfl rfl rfl (hts _ wm8) (hts _ wm157) (hts _ wm158) rfl (by decide +kernel) ⟨by rw [hRf]; exact Nat.le_of_ble_eq_true rfl, by rw [hRl]; exact Nat.le_of_ble_eq_true rfl⟩) (show B.1 + 1 + 1 + 1 + 1 + 1 + 1 + 1 + 1 + 1 + 1 + 1 + 1 + 1 + 1 + 1 + 1 + 1 + 1 + 1 + 1 + 1 + 1 + 1 + 1 + 1 + 1 + 1 + 1 + 1 + 1 + 1 ≤ MC from hlc 31 (by decide)) (show B.2 + 200 + 8 + 3 + 12 + 12 + 8 + 3 + 2 + 24 + 2 + 24 + 2 + 24 + 7 + 2 + 24 + 2 + 24 + 2 + 24 + 2 + 24 + 2 + 24 + 2 + 24 + 2 + 24 + 2 + 24 + 3 ≤ MS from hls 542 (by decide)) rfl (Nat.le_of_ble_eq_true rfl) d_Mf_init_64) (fun G_155 B_156 p_157 => ?_)
  obtain ⟨a_158, b_159, z_160, z_161, f_162, n_163, n_164, x_165, e_166⟩ := p_157
  have fr_167 : gfr (fun y => y = 20) G_138 G_155 := gfr_gex x_165 f_140
  have n_168 : ∀ t9, t9 < 11 → isN cA G_155 24 t9 (ad t9) 0 := fun t9 h9 => isN_fr (n_143 t9 h9) fr_167 (fun e9 : t9 = 20 => absurd (show (20 : Nat) < 11 from e9 ▸ h9) (by decide))
  have e_166 : B_156 = (B.1 + 1 + 1 + 1 + 1 + 1 + 1 + 1 + 1 + 1 + 1 + 1 + 1 + 1 + 1 + 1 + 1 + 1 + 1 + 1 + 1 + 1 + 1 + 1 + 1 + 1 + 1 + 1 + 1 + 1 + 1 + 1 + 1 + 1 + 1 + 1, B.2 + 200 + 8 + 3 + 12 + 12 + 8 + 3 + 2 + 24 + 2 + 24 + 2 + 24 + 7 + 2 + 24 + 2 + 24 + 2 + 24 + 2 + 24 + 2 + 24 + 2 + 24 + 2 + 24 + 2 + 24 + 3 + 2 + 24 + 2 + 24) := e_166
  subst e_166
  have f_169 : G_155 q_1 = some (32, .inl (cA 2, 200, .inr (.inr (.inr (.inr (fun _ => none)))))) := x_165 _ _ f_144 (gne f_144 f_140 (fun e => absurd (show (32 : Nat) = 20 from congrArg Prod.fst e) (by decide)))
  have f_170 : G_155 q_24 = some (33, .inl (cA 3, 8, .inr (.inr (.inr (.inr (fun _ => none)))))) := x_165 _ _ f_145 (gne f_145 f_140 (fun e => absurd (show (33 : Nat) = 20 from congrArg Prod.fst e) (by decide)))
  have f_171 : G_155 q_50 = some (35, .inr (7, [.ref a_64, .ref a_65, .int (nI 0)])) := x_165 _ _ f_146 (gne f_146 f_140 (fun e => absurd (show (35 : Nat) = 20 from congrArg Prod.fst e) (by decide)))
  have f_172 : G_155 a_64 = some (36, .inl (cA 0, 12, .inl (fun _ => 0))) := x_165 _ _ f_147 (gne f_147 f_140 (fun e => absurd (show (36 : Nat) = 20 from congrArg Prod.fst e) (by decide)))
  have f_173 : G_155 a_65 = some (37, .inl (cA 1, 12, .inr (.inl (fun _ => 0)))) := x_165 _ _ f_148 (gne f_148 f_140 (fun e => absurd (show (37 : Nat) = 20 from congrArg Prod.fst e) (by decide)))
  have f_174 : G_155 q_87 = some (30, .inr (0, [.ref hd, .ref hc, .ref (ad 5), .ref (ad 6), .ref (ad 7), .ref (ad 8), .ref (ad 9), .ref (ad 10)])) := x_165 _ _ f_149 (gne f_149 f_140 (fun e => absurd (show (30 : Nat) = 20 from congrArg Prod.fst e) (by decide)))
  have f_175 : G_155 hd = some (30, .inr (2, [.ref (ad 0), .ref (ad 1), .ref (ad 2)])) := x_165 _ _ f_150 (gne f_150 f_140 (fun e => absurd (show (30 : Nat) = 20 from congrArg Prod.fst e) (by decide)))
  have f_176 : G_155 hc = some (19, .inr (1, [.ref hd, .ref (ad 3), .ref (ad 4), .long l_109, .long l_110, .long l_111, .long l_112])) := x_165 _ _ f_151 (gne f_151 f_140 (fun e => absurd (show (19 : Nat) = 20 from congrArg Prod.fst e) (by decide)))
  have f_177 : G_155 h = some (31, .inr (8, [.ref q_1, .int (nI 0), .ref q_24, .int (nI 0), .ref q_50, .ref q_87, .null, .null, .null, .null, .null, .null, .null, .null])) := x_165 _ _ f_152 (gne f_152 f_140 (fun e => absurd (show (31 : Nat) = 20 from congrArg Prod.fst e) (by decide)))
  have x_178 : gex (fun x => x = h) G G_155 := gex_tr x_154 x_165 (fun x y hx9 _ e => by subst e; rw [z_153] at hx9; cases hx9)
  refine g_putF (ty := .object "MetreFractions$Fraction") hx hb hts hin_Mf ty_Mf ty_Mf_ok nm_Mf hown hK f_177 rfl 6 (by decide) (hts _ wm241) (fun _ h9 => h9) rfl hin rfl (by decide +kernel) rfl rfl (Nat.le_of_ble_eq_true rfl) d_Mf_init_67 (fun G_179 f_180 o_181 => ?_)
  have f_182 : G_179 h = some (31, .inr (8, [.ref q_1, .int (nI 0), .ref q_24, .int (nI 0), .ref q_50, .ref q_87, .ref q_137, .null, .null, .null, .null, .null, .null, .null])) := f_180
  have f_183 : G_179 q_1 = some (32, .inl (cA 2, 200, .inr (.inr (.inr (.inr (fun _ => none)))))) := (o_181 _ (gne f_169 f_177 (fun e => absurd (show (32 : Nat) = 31 from congrArg Prod.fst e) (by decide)))).trans f_169
  have f_184 : G_179 q_24 = some (33, .inl (cA 3, 8, .inr (.inr (.inr (.inr (fun _ => none)))))) := (o_181 _ (gne f_170 f_177 (fun e => absurd (show (33 : Nat) = 31 from congrArg Prod.fst e) (by decide)))).trans f_170
  have f_185 : G_179 q_50 = some (35, .inr (7, [.ref a_64, .ref a_65, .int (nI 0)])) := (o_181 _ (gne f_171 f_177 (fun e => absurd (show (35 : Nat) = 31 from congrArg Prod.fst e) (by decide)))).trans f_171
  have f_186 : G_179 a_64 = some (36, .inl (cA 0, 12, .inl (fun _ => 0))) := (o_181 _ (gne f_172 f_177 (fun e => absurd (show (36 : Nat) = 31 from congrArg Prod.fst e) (by decide)))).trans f_172
  have f_187 : G_179 a_65 = some (37, .inl (cA 1, 12, .inr (.inl (fun _ => 0)))) := (o_181 _ (gne f_173 f_177 (fun e => absurd (show (37 : Nat) = 31 from congrArg Prod.fst e) (by decide)))).trans f_173
  have f_188 : G_179 q_87 = some (30, .inr (0, [.ref hd, .ref hc, .ref (ad 5), .ref (ad 6), .ref (ad 7), .ref (ad 8), .ref (ad 9), .ref (ad 10)])) := (o_181 _ (gne f_174 f_177 (fun e => absurd (show (30 : Nat) = 31 from congrArg Prod.fst e) (by decide)))).trans f_174
  have f_189 : G_179 hd = some (30, .inr (2, [.ref (ad 0), .ref (ad 1), .ref (ad 2)])) := (o_181 _ (gne f_175 f_177 (fun e => absurd (show (30 : Nat) = 31 from congrArg Prod.fst e) (by decide)))).trans f_175
  have f_190 : G_179 hc = some (19, .inr (1, [.ref hd, .ref (ad 3), .ref (ad 4), .long l_109, .long l_110, .long l_111, .long l_112])) := (o_181 _ (gne f_176 f_177 (fun e => absurd (show (19 : Nat) = 31 from congrArg Prod.fst e) (by decide)))).trans f_176
  have f_191 : G_179 q_137 = some (20, .inr (3, [.int (nI 0), .ref a_158, .ref b_159])) := (o_181 _ (gne f_162 f_177 (fun e => absurd (show (20 : Nat) = 31 from congrArg Prod.fst e) (by decide)))).trans f_162
  have x_192 : gex (fun x => x = h) G G_179 := gex_put x_178 o_181 (Or.inl rfl)
  have fr_193 : gfr (fun y => y = 31) G_155 G_179 := gfr_put gfr_rf f_177 rfl o_181
  have n_194 : isN cA G_179 24 11 a_158 0 := isN_fr n_163 fr_193 (show ¬ (11 : Nat) = 31 by decide)
  have n_195 : isN cA G_179 24 12 b_159 0 := isN_fr n_164 fr_193 (show ¬ (12 : Nat) = 31 by decide)
  have n_196 : ∀ t9, t9 < 11 → isN cA G_179 24 t9 (ad t9) 0 := fun t9 h9 => isN_fr (n_168 t9 h9) fr_193 (fun e9 : t9 = 31 => absurd (show (31 : Nat) < 11 from e9 ▸ h9) (by decide))
  refine gs (pc' := 71) (fun _ _ _ _ _ hl => lv_aload_n hx hb d_Mf_init_70 rfl (lv_at hl 0 rfl)) ?_
  refine g_new hx hb hts hin_Fr ty_Fr ty_Fr_ok hown (hts _ wm155) (hts _ wm156) (hts _ wm8) hK (ci := 3) rfl (fs := [.int (nI 0), .null, .null]) (fun j => match j with | 0 => fun _ => rfl | 1 => fun _ => rfl | 2 => fun _ => rfl | n + 3 => fun h9 => absurd h9 (by omega)) hlo hRc hRs (show B.1 + 1 + 1 + 1 + 1 + 1 + 1 + 1 + 1 + 1 + 1 + 1 + 1 + 1 + 1 + 1 + 1 + 1 + 1 + 1 + 1 + 1 + 1 + 1 + 1 + 1 + 1 + 1 + 1 + 1 + 1 + 1 + 1 + 1 + 1 + 1 + 1 ≤ MC from hlc 36 (by decide)) (show B.2 + 200 + 8 + 3 + 12 + 12 + 8 + 3 + 2 + 24 + 2 + 24 + 2 + 24 + 7 + 2 + 24 + 2 + 24 + 2 + 24 + 2 + 24 + 2 + 24 + 2 + 24 + 2 + 24 + 2 + 24 + 3 + 2 + 24 + 2 + 24 + 3 ≤ MS from hls 597 (by decide)) d_Mf_init_71 21 (fun q_197 G_198 z_199 f_200 o_201 => ?_)
  have fr_202 : gfr (fun y => y = 1000) G_179 G_198 := gfr_new gfr_rf z_199 o_201
  have n_203 : isN cA G_198 24 11 a_158 0 := isN_fr n_194 fr_202 (show ¬ (11 : Nat) = 1000 by decide)
  have n_204 : isN cA G_198 24 12 b_159 0 := isN_fr n_195 fr_202 (show ¬ (12 : Nat) = 1000 by decide)
  have n_205 : ∀ t9, t9 < 11 → isN cA G_198 24 t9 (ad t9) 0 := fun t9 h9 => isN_fr (n_196 t9 h9) fr_202 (fun e9 : t9 = 1000 => absurd (show (1000 : Nat) < 11 from e9 ▸ h9) (by decide))
  have f_206 : G_198 q_1 = some (32, .inl (cA 2, 200, .inr (.inr (.inr (.inr (fun _ => none)))))) := (o_201 _ (gne0 f_183 z_199)).trans f_183
  have f_207 : G_198 q_24 = some (33, .inl (cA 3, 8, .inr (.inr (.inr (.inr (fun _ => none)))))) := (o_201 _ (gne0 f_184 z_199)).trans f_184
  have f_208 : G_198 q_50 = some (35, .inr (7, [.ref a_64, .ref a_65, .int (nI 0)])) := (o_201 _ (gne0 f_185 z_199)).trans f_185
  have f_209 : G_198 a_64 = some (36, .inl (cA 0, 12, .inl (fun _ => 0))) := (o_201 _ (gne0 f_186 z_199)).trans f_186
  have f_210 : G_198 a_65 = some (37, .inl (cA 1, 12, .inr (.inl (fun _ => 0)))) := (o_201 _ (gne0 f_187 z_199)).trans f_187
  have f_211 : G_198 q_87 = some (30, .inr (0, [.ref hd, .ref hc, .ref (ad 5), .ref (ad 6), .ref (ad 7), .ref (ad 8), .ref (ad 9), .ref (ad 10)])) := (o_201 _ (gne0 f_188 z_199)).trans f_188
  have f_212 : G_198 hd = some (30, .inr (2, [.ref (ad 0), .ref (ad 1), .ref (ad 2)])) := (o_201 _ (gne0 f_189 z_199)).trans f_189
  have f_213 : G_198 hc = some (19, .inr (1, [.ref hd, .ref (ad 3), .ref (ad 4), .long l_109, .long l_110, .long l_111, .long l_112])) := (o_201 _ (gne0 f_190 z_199)).trans f_190
  have f_214 : G_198 q_137 = some (20, .inr (3, [.int (nI 0), .ref a_158, .ref b_159])) := (o_201 _ (gne0 f_191 z_199)).trans f_191
  have f_215 : G_198 h = some (31, .inr (8, [.ref q_1, .int (nI 0), .ref q_24, .int (nI 0), .ref q_50, .ref q_87, .ref q_137, .null, .null, .null, .null, .null, .null, .null])) := (o_201 _ (gne0 f_182 z_199)).trans f_182
  have z_216 : G q_197 = none := gex_0 x_192 z_199 (fun z => by have z := z.symm; subst z; rw [f_182] at z_199; cases z_199)
  have x_217 : gex (fun x => x = h) G G_198 := gex_new x_192 z_199 o_201
  refine g_Beq (B' := (B.1 + 1 + 1 + 1 + 1 + 1 + 1 + 1 + 1 + 1 + 1 + 1 + 1 + 1 + 1 + 1 + 1 + 1 + 1 + 1 + 1 + 1 + 1 + 1 + 1 + 1 + 1 + 1 + 1 + 1 + 1 + 1 + 1 + 1 + 1 + 1 + 1, B.2 + 200 + 8 + 3 + 12 + 12 + 8 + 3 + 2 + 24 + 2 + 24 + 2 + 24 + 7 + 2 + 24 + 2 + 24 + 2 + 24 + 2 + 24 + 2 + 24 + 2 + 24 + 2 + 24 + 2 + 24 + 3 + 2 + 24 + 2 + 24 + 3)) rfl ?_
  refine gs (pc' := 75) (fun _ _ _ _ _ hl => lv_dup hx hb d_Mf_init_74 rfl) ?_
  refine gs (pc' := 77) (fun _ _ _ _ _ hl => lv_bipush (v := nI 24) hx hb d_Mf_init_75 (by decide)) ?_
  refine gs (pc' := 79) (fun _ _ _ _ _ hl => lv_bipush (v := nI 24) hx hb d_Mf_init_77 (by decide)) ?_
  refine g_outv hlo (g_runI (b := q_197) (As := [.int (nI 24), .int (nI 24)]) (rest := [.ref q_197, .ref h]) ⟨hx, hb, hml, hown, hts⟩ hK hZ hRc hRs (c_Fr_init l D cA lo MC MS G_198 (B.1 + 1 + 1 + 1 + 1 + 1 + 1 + 1 + 1 + 1 + 1 + 1 + 1 + 1 + 1 + 1 + 1 + 1 + 1 + 1 + 1 + 1 + 1 + 1 + 1 + 1 + 1 + 1 + 1 + 1 + 1 + 1 + 1 + 1 + 1 + 1 + 1, B.2 + 200 + 8 + 3 + 12 + 12 + 8 + 3 + 2 + 24 + 2 + 24 + 2 + 24 + 7 + 2 + 24 + 2 + 24 + 2 + 24 + 2 + 24 + 2 + 24 + 2 + 24 + 2 + 24 + 2 + 24 + 3 + 2 + 24 + 2 + 24 + 3) 21 13 14 q_197 24 24 (by decide) f_200 (by decide) (by decide) (show B.1 + 1 + 1 + 1 + 1 + 1 + 1 + 1 + 1 + 1 + 1 + 1 + 1 + 1 + 1 + 1 + 1 + 1 + 1 + 1 + 1 + 1 + 1 + 1 + 1 + 1 + 1 + 1 + 1 + 1 + 1 + 1 + 1 + 1 + 1 + 1 + 1 + 4 ≤ MC from hlc 40 (by decide)) (show B.2 + 200 + 8 + 3 + 12 + 12 + 8 + 3 + 2 + 24 + 2 + 24 + 2 + 24 + 7 + 2 + 24 + 2 + 24 + 2 + 24 + 2 + 24 + 2 + 24 + 2 + 24 + 2 + 24 + 2 + 24 + 3 + 2 + 24 + 2 + 24 + 3 + 4 + 24 + 24 ≤ MS from hls 649 (by decide)) (show B.1 + 1 + 1 + 1 + 1 + 1 + 1 + 1 + 1 + 1 + 1 + 1 + 1 + 1 + 1 + 1 + 1 + 1 + 1 + 1 + 1 + 1 + 1 + 1 + 1 + 1 + 1 + 1 + 1 + 1 + 1 + 1 + 1 + 1 + 1 + 1 + 1 ≤ MC from hlc 36 (by decide)) (show B.2 + 200 + 8 + 3 + 12 + 12 + 8 + 3 + 2 + 24 + 2 + 24 + 2 + 24 + 7 + 2 + 24 + 2 + 24 + 2 + 24 + 2 + 24 + 2 + 24 + 2 + 24 + 2 + 24 + 2 + 24 + 3 + 2 + 24 + 2 + 24 + 3 ≤ MS from hls 597 (by decide))) (fun _ _ => cwI 2 hts (tb_good k_Fr_init) rfl rfl rfl (hts _ wm8) (hts _ wm157) (hts _ wm158) rfl (by decide +kernel) ⟨by rw [hRf]; exact Nat.le_of_ble_eq_true rfl, by rw [hRl]; exact Nat.le_of_ble_eq_true rfl⟩) (show B.1 + 1 + 1 + 1 + 1 + 1 + 1 + 1 + 1 + 1 + 1 + 1 + 1 + 1 + 1 + 1 + 1 + 1 + 1 + 1 + 1 + 1 + 1 + 1 + 1 + 1 + 1 + 1 + 1 + 1 + 1 + 1 + 1 + 1 + 1 + 1 + 1 ≤ MC from hlc 36 (by decide)) (show B.2 + 200 + 8 + 3 + 12 + 12 + 8 + 3 + 2 + 24 + 2 + 24 + 2 + 24 + 7 + 2 + 24 + 2 + 24 + 2 + 24 + 2 + 24 + 2 + 24 + 2 + 24 + 2 + 24 + 2 + 24 + 3 + 2 + 24 + 2 + 24 + 3 ≤ MS from hls 597 (by decide)) rfl (Nat.le_of_ble_eq_true rfl) d_Mf_init_79) (fun G_218 B_219 p_220 => ?_)
  obtain ⟨a_221, b_222, z_223, z_224, f_225, n_226, n_227, x_228, e_229⟩ := p_220
  have fr_230 : gfr (fun y => y = 21) G_198 G_218 := gfr_gex x_228 f_200
  have n_231 : isN cA G_218 24 11 a_158 0 := isN_fr n_203 fr_230 (show ¬ (11 : Nat) = 21 by decide)
  have n_232 : isN cA G_218 24 12 b_159 0 := isN_fr n_204 fr_230 (show ¬ (12 : Nat) = 21 by decide)
  have n_233 : ∀ t9, t9 < 11 → isN cA G_218 24 t9 (ad t9) 0 := fun t9 h9 => isN_fr (n_205 t9 h9) fr_230 (fun e9 : t9 = 21 => absurd (show (21 : Nat) < 11 from e9 ▸ h9) (by decide))
  have e_229 : B_219 = (B.1 + 1 + 1 + 1 + 1 + 1 + 1 + 1 + 1 + 1 + 1 + 1 + 1 + 1 + 1 + 1 + 1 + 1 + 1 + 1 + 1 + 1 + 1 + 1 + 1 + 1 + 1 + 1 + 1 + 1 + 1 + 1 + 1 + 1 + 1 + 1 + 1 + 1 + 1 + 1 + 1, B.2 + 200 + 8 + 3 + 12 + 12 + 8 + 3 + 2 + 24 + 2 + 24 + 2 + 24 + 7 + 2 + 24 + 2 + 24 + 2 + 24 + 2 + 24 + 2 + 24 + 2 + 24 + 2 + 24 + 2 + 24 + 3 + 2 + 24 + 2 + 24 + 3 + 2 + 24 + 2 + 24) := e_229
  subst e_229
  have f_234 : G_218 q_1 = some (32, .inl (cA 2, 200, .inr (.inr (.inr (.inr (fun _ => none)))))) := x_228 _ _ f_206 (gne f_206 f_200 (fun e => absurd (show (32 : Nat) = 21 from congrArg Prod.fst e) (by decide)))
  have f_235 : G_218 q_24 = some (33, .inl (cA 3, 8, .inr (.inr (.inr (.inr (fun _ => none)))))) := x_228 _ _ f_207 (gne f_207 f_200 (fun e => absurd (show (33 : Nat) = 21 from congrArg Prod.fst e) (by decide)))
  have f_236 : G_218 q_50 = some (35, .inr (7, [.ref a_64, .ref a_65, .int (nI 0)])) := x_228 _ _ f_208 (gne f_208 f_200 (fun e => absurd (show (35 : Nat) = 21 from congrArg Prod.fst e) (by decide)))
  have f_237 : G_218 a_64 = some (36, .inl (cA 0, 12, .inl (fun _ => 0))) := x_228 _ _ f_209 (gne f_209 f_200 (fun e => absurd (show (36 : Nat) = 21 from congrArg Prod.fst e) (by decide)))
  have f_238 : G_218 a_65 = some (37, .inl (cA 1, 12, .inr (.inl (fun _ => 0)))) := x_228 _ _ f_210 (gne f_210 f_200 (fun e => absurd (show (37 : Nat) = 21 from congrArg Prod.fst e) (by decide)))
  have f_239 : G_218 q_87 = some (30, .inr (0, [.ref hd, .ref hc, .ref (ad 5), .ref (ad 6), .ref (ad 7), .ref (ad 8), .ref (ad 9), .ref (ad 10)])) := x_228 _ _ f_211 (gne f_211 f_200 (fun e => absurd (show (30 : Nat) = 21 from congrArg Prod.fst e) (by decide)))
  have f_240 : G_218 hd = some (30, .inr (2, [.ref (ad 0), .ref (ad 1), .ref (ad 2)])) := x_228 _ _ f_212 (gne f_212 f_200 (fun e => absurd (show (30 : Nat) = 21 from congrArg Prod.fst e) (by decide)))
  have f_241 : G_218 hc = some (19, .inr (1, [.ref hd, .ref (ad 3), .ref (ad 4), .long l_109, .long l_110, .long l_111, .long l_112])) := x_228 _ _ f_213 (gne f_213 f_200 (fun e => absurd (show (19 : Nat) = 21 from congrArg Prod.fst e) (by decide)))
  have f_242 : G_218 q_137 = some (20, .inr (3, [.int (nI 0), .ref a_158, .ref b_159])) := x_228 _ _ f_214 (gne f_214 f_200 (fun e => absurd (show (20 : Nat) = 21 from congrArg Prod.fst e) (by decide)))
  have f_243 : G_218 h = some (31, .inr (8, [.ref q_1, .int (nI 0), .ref q_24, .int (nI 0), .ref q_50, .ref q_87, .ref q_137, .null, .null, .null, .null, .null, .null, .null])) := x_228 _ _ f_215 (gne f_215 f_200 (fun e => absurd (show (31 : Nat) = 21 from congrArg Prod.fst e) (by decide)))
  have x_244 : gex (fun x => x = h) G G_218 := gex_tr x_217 x_228 (fun x y hx9 _ e => by subst e; rw [z_216] at hx9; cases hx9)
  refine g_putF (ty := .object "MetreFractions$Fraction") hx hb hts hin_Mf ty_Mf ty_Mf_ok nm_Mf hown hK f_243 rfl 7 (by decide) (hts _ wm242) (fun _ h9 => h9) rfl hin rfl (by decide +kernel) rfl rfl (Nat.le_of_ble_eq_true rfl) d_Mf_init_82 (fun G_245 f_246 o_247 => ?_)
  have f_248 : G_245 h = some (31, .inr (8, [.ref q_1, .int (nI 0), .ref q_24, .int (nI 0), .ref q_50, .ref q_87, .ref q_137, .ref q_197, .null, .null, .null, .null, .null, .null])) := f_246
  have f_249 : G_245 q_1 = some (32, .inl (cA 2, 200, .inr (.inr (.inr (.inr (fun _ => none)))))) := (o_247 _ (gne f_234 f_243 (fun e => absurd (show (32 : Nat) = 31 from congrArg Prod.fst e) (by decide)))).trans f_234
  have f_250 : G_245 q_24 = some (33, .inl (cA 3, 8, .inr (.inr (.inr (.inr (fun _ => none)))))) := (o_247 _ (gne f_235 f_243 (fun e => absurd (show (33 : Nat) = 31 from congrArg Prod.fst e) (by decide)))).trans f_235
  have f_251 : G_245 q_50 = some (35, .inr (7, [.ref a_64, .ref a_65, .int (nI 0)])) := (o_247 _ (gne f_236 f_243 (fun e => absurd (show (35 : Nat) = 31 from congrArg Prod.fst e) (by decide)))).trans f_236
  have f_252 : G_245 a_64 = some (36, .inl (cA 0, 12, .inl (fun _ => 0))) := (o_247 _ (gne f_237 f_243 (fun e => absurd (show (36 : Nat) = 31 from congrArg Prod.fst e) (by decide)))).trans f_237
  have f_253 : G_245 a_65 = some (37, .inl (cA 1, 12, .inr (.inl (fun _ => 0)))) := (o_247 _ (gne f_238 f_243 (fun e => absurd (show (37 : Nat) = 31 from congrArg Prod.fst e) (by decide)))).trans f_238
  have f_254 : G_245 q_87 = some (30, .inr (0, [.ref hd, .ref hc, .ref (ad 5), .ref (ad 6), .ref (ad 7), .ref (ad 8), .ref (ad 9), .ref (ad 10)])) := (o_247 _ (gne f_239 f_243 (fun e => absurd (show (30 : Nat) = 31 from congrArg Prod.fst e) (by decide)))).trans f_239
  have f_255 : G_245 hd = some (30, .inr (2, [.ref (ad 0), .ref (ad 1), .ref (ad 2)])) := (o_247 _ (gne f_240 f_243 (fun e => absurd (show (30 : Nat) = 31 from congrArg Prod.fst e) (by decide)))).trans f_240
  have f_256 : G_245 hc = some (19, .inr (1, [.ref hd, .ref (ad 3), .ref (ad 4), .long l_109, .long l_110, .long l_111, .long l_112])) := (o_247 _ (gne f_241 f_243 (fun e => absurd (show (19 : Nat) = 31 from congrArg Prod.fst e) (by decide)))).trans f_241
  have f_257 : G_245 q_137 = some (20, .inr (3, [.int (nI 0), .ref a_158, .ref b_159])) := (o_247 _ (gne f_242 f_243 (fun e => absurd (show (20 : Nat) = 31 from congrArg Prod.fst e) (by decide)))).trans f_242
  have f_258 : G_245 q_197 = some (21, .inr (3, [.int (nI 0), .ref a_221, .ref b_222])) := (o_247 _ (gne f_225 f_243 (fun e => absurd (show (21 : Nat) = 31 from congrArg Prod.fst e) (by decide)))).trans f_225
  have x_259 : gex (fun x => x = h) G G_245 := gex_put x_244 o_247 (Or.inl rfl)
  have fr_260 : gfr (fun y => y = 31) G_218 G_245 := gfr_put gfr_rf f_243 rfl o_247
  have n_261 : isN cA G_245 24 11 a_158 0 := isN_fr n_231 fr_260 (show ¬ (11 : Nat) = 31 by decide)
  have n_262 : isN cA G_245 24 12 b_159 0 := isN_fr n_232 fr_260 (show ¬ (12 : Nat) = 31 by decide)
  have n_263 : isN cA G_245 24 13 a_221 0 := isN_fr n_226 fr_260 (show ¬ (13 : Nat) = 31 by decide)
  have n_264 : isN cA G_245 24 14 b_222 0 := isN_fr n_227 fr_260 (show ¬ (14 : Nat) = 31 by decide)
  have n_265 : ∀ t9, t9 < 11 → isN cA G_245 24 t9 (ad t9) 0 := fun t9 h9 => isN_fr (n_233 t9 h9) fr_260 (fun e9 : t9 = 31 => absurd (show (31 : Nat) < 11 from e9 ▸ h9) (by decide))
  refine gs (pc' := 86) (fun _ _ _ _ _ hl => lv_aload_n hx hb d_Mf_init_85 rfl (lv_at hl 0 rfl)) ?_
  refine g_new hx hb hts hin_Fr ty_Fr ty_Fr_ok hown (hts _ wm155) (hts _ wm156) (hts _ wm8) hK (ci := 3) rfl (fs := [.int (nI 0), .null, .null]) (fun j => match j with | 0 => fun _ => rfl | 1 => fun _ => rfl | 2 => fun _ => rfl | n + 3 => fun h9 => absurd h9 (by omega)) hlo hRc hRs (show B.1 + 1 + 1 + 1 + 1 + 1 + 1 + 1 + 1 + 1 + 1 + 1 + 1 + 1 + 1 + 1 + 1 + 1 + 1 + 1 + 1 + 1 + 1 + 1 + 1 + 1 + 1 + 1 + 1 + 1 + 1 + 1 + 1 + 1 + 1 + 1 + 1 + 1 + 1 + 1 + 1 + 1 ≤ MC from hlc 41 (by decide)) (show B.2 + 200 + 8 + 3 + 12 + 12 + 8 + 3 + 2 + 24 + 2 + 24 + 2 + 24 + 7 + 2 + 24 + 2 + 24 + 2 + 24 + 2 + 24 + 2 + 24 + 2 + 24 + 2 + 24 + 2 + 24 + 3 + 2 + 24 + 2 + 24 + 3 + 2 + 24 + 2 + 24 + 3 ≤ MS from hls 652 (by decide)) d_Mf_init_86 22 (fun q_266 G_267 z_268 f_269 o_270 => ?_)
  have fr_271 : gfr (fun y => y = 1000) G_245 G_267 := gfr_new gfr_rf z_268 o_270
  have n_272 : isN cA G_267 24 11 a_158 0 := isN_fr n_261 fr_271 (show ¬ (11 : Nat) = 1000 by decide)
  have n_273 : isN cA G_267 24 12 b_159 0 := isN_fr n_262 fr_271 (show ¬ (12 : Nat) = 1000 by decide)
  have n_274 : isN cA G_267 24 13 a_221 0 := isN_fr n_263 fr_271 (show ¬ (13 : Nat) = 1000 by decide)
  have n_275 : isN cA G_267 24 14 b_222 0 := isN_fr n_264 fr_271 (show ¬ (14 : Nat) = 1000 by decide)
  have n_276 : ∀ t9, t9 < 11 → isN cA G_267 24 t9 (ad t9) 0 := fun t9 h9 => isN_fr (n_265 t9 h9) fr_271 (fun e9 : t9 = 1000 => absurd (show (1000 : Nat) < 11 from e9 ▸ h9) (by decide))
  have f_277 : G_267 q_1 = some (32, .inl (cA 2, 200, .inr (.inr (.inr (.inr (fun _ => none)))))) := (o_270 _ (gne0 f_249 z_268)).trans f_249
  have f_278 : G_267 q_24 = some (33, .inl (cA 3, 8, .inr (.inr (.inr (.inr (fun _ => none)))))) := (o_270 _ (gne0 f_250 z_268)).trans f_250
  have f_279 : G_267 q_50 = some (35, .inr (7, [.ref a_64, .ref a_65, .int (nI 0)])) := (o_270 _ (gne0 f_251 z_268)).trans f_251
  have f_280 : G_267 a_64 = some (36, .inl (cA 0, 12, .inl (fun _ => 0))) := (o_270 _ (gne0 f_252 z_268)).trans f_252
  have f_281 : G_267 a_65 = some (37, .inl (cA 1, 12, .inr (.inl (fun _ => 0)))) := (o_270 _ (gne0 f_253 z_268)).trans f_253
  have f_282 : G_267 q_87 = some (30, .inr (0, [.ref hd, .ref hc, .ref (ad 5), .ref (ad 6), .ref (ad 7), .ref (ad 8), .ref (ad 9), .ref (ad 10)])) := (o_270 _ (gne0 f_254 z_268)).trans f_254
  have f_283 : G_267 hd = some (30, .inr (2, [.ref (ad 0), .ref (ad 1), .ref (ad 2)])) := (o_270 _ (gne0 f_255 z_268)).trans f_255
  have f_284 : G_267 hc = some (19, .inr (1, [.ref hd, .ref (ad 3), .ref (ad 4), .long l_109, .long l_110, .long l_111, .long l_112])) := (o_270 _ (gne0 f_256 z_268)).trans f_256
  have f_285 : G_267 q_137 = some (20, .inr (3, [.int (nI 0), .ref a_158, .ref b_159])) := (o_270 _ (gne0 f_257 z_268)).trans f_257
  have f_286 : G_267 q_197 = some (21, .inr (3, [.int (nI 0), .ref a_221, .ref b_222])) := (o_270 _ (gne0 f_258 z_268)).trans f_258
  have f_287 : G_267 h = some (31, .inr (8, [.ref q_1, .int (nI 0), .ref q_24, .int (nI 0), .ref q_50, .ref q_87, .ref q_137, .ref q_197, .null, .null, .null, .null, .null, .null])) := (o_270 _ (gne0 f_248 z_268)).trans f_248
  have z_288 : G q_266 = none := gex_0 x_259 z_268 (fun z => by have z := z.symm; subst z; rw [f_248] at z_268; cases z_268)
  have x_289 : gex (fun x => x = h) G G_267 := gex_new x_259 z_268 o_270
  refine g_Beq (B' := (B.1 + 1 + 1 + 1 + 1 + 1 + 1 + 1 + 1 + 1 + 1 + 1 + 1 + 1 + 1 + 1 + 1 + 1 + 1 + 1 + 1 + 1 + 1 + 1 + 1 + 1 + 1 + 1 + 1 + 1 + 1 + 1 + 1 + 1 + 1 + 1 + 1 + 1 + 1 + 1 + 1 + 1, B.2 + 200 + 8 + 3 + 12 + 12 + 8 + 3 + 2 + 24 + 2 + 24 + 2 + 24 + 7 + 2 + 24 + 2 + 24 + 2 + 24 + 2 + 24 + 2 + 24 + 2 + 24 + 2 + 24 + 2 + 24 + 3 + 2 + 24 + 2 + 24 + 3 + 2 + 24 + 2 + 24 + 3)) rfl ?_
  refine gs (pc' := 90) (fun _ _ _ _ _ hl => lv_dup hx hb d_Mf_init_89 rfl) ?_
  refine gs (pc' := 92) (fun _ _ _ _ _ hl => lv_bipush (v := nI 24) hx hb d_Mf_init_90 (by decide)) ?_
  refine gs (pc' := 94) (fun _ _ _ _ _ hl => lv_bipush (v := nI 24) hx hb d_Mf_init_92 (by decide)) ?_
  refine g_outv hlo (g_runI (b := q_266) (As := [.int (nI 24), .int (nI 24)]) (rest := [.ref q_266, .ref h]) ⟨hx, hb, hml, hown, hts⟩ hK hZ hRc hRs (c_Fr_init l D cA lo MC MS G_267 (B.1 + 1 + 1 + 1 + 1 + 1 + 1 + 1 + 1 + 1 + 1 + 1 + 1 + 1 + 1 + 1 + 1 + 1 + 1 + 1 + 1 + 1 + 1 + 1 + 1 + 1 + 1 + 1 + 1 + 1 + 1 + 1 + 1 + 1 + 1 + 1 + 1 + 1 + 1 + 1 + 1 + 1, B.2 + 200 + 8 + 3 + 12 + 12 + 8 + 3 + 2 + 24 + 2 + 24 + 2 + 24 + 7 + 2 + 24 + 2 + 24 + 2 + 24 + 2 + 24 + 2 + 24 + 2 + 24 + 2 + 24 + 2 + 24 + 3 + 2 + 24 + 2 + 24 + 3 + 2 + 24 + 2 + 24 + 3) 22 15 16 q_266 24 24 (by decide) f_269 (by decide) (by decide) (show B.1 + 1 + 1 + 1 + 1 + 1 + 1 + 1 + 1 + 1 + 1 + 1 + 1 + 1 + 1 + 1 + 1 + 1 + 1 + 1 + 1 + 1 + 1 + 1 + 1 + 1 + 1 + 1 + 1 + 1 + 1 + 1 + 1 + 1 + 1 + 1 + 1 + 1 + 1 + 1 + 1 + 1 + 4 ≤ MC from hlc 45 (by decide)) (show B.2 + 200 + 8 + 3 + 12 + 12 + 8 + 3 + 2 + 24 + 2 + 24 + 2 + 24 + 7 + 2 + 24 + 2 + 24 + 2 + 24 + 2 + 24 + 2 + 24 + 2 + 24 + 2 + 24 + 2 + 24 + 3 + 2 + 24 + 2 + 24 + 3 + 2 + 24 + 2 + 24 + 3 + 4 + 24 + 24 ≤ MS from hls 704 (by decide)) (show B.1 + 1 + 1 + 1 + 1 + 1 + 1 + 1 + 1 + 1 + 1 + 1 + 1 + 1 + 1 + 1 + 1 + 1 + 1 + 1 + 1 + 1 + 1 + 1 + 1 + 1 + 1 + 1 + 1 + 1 + 1 + 1 + 1 + 1 + 1 + 1 + 1 + 1 + 1 + 1 + 1 + 1 ≤ MC from hlc 41 (by decide)) (show B.2 + 200 + 8 + 3 + 12 + 12 + 8 + 3 + 2 + 24 + 2 + 24 + 2 + 24 + 7 + 2 + 24 + 2 + 24 + 2 + 24 + 2 + 24 + 2 + 24 + 2 + 24 + 2 + 24 + 2 + 24 + 3 + 2 + 24 + 2 + 24 + 3 + 2 + 24 + 2 + 24 + 3 ≤ MS from hls 652 (by decide))) (fun _ _ => cwI 2 hts (tb_good k_Fr_init) rfl rfl rfl (hts _ wm8) (hts _ wm157) (hts _ wm158) rfl (by decide +kernel) ⟨by rw [hRf]; exact Nat.le_of_ble_eq_true rfl, by rw [hRl]; exact Nat.le_of_ble_eq_true rfl⟩) (show B.1 + 1 + 1 + 1 + 1 + 1 + 1 + 1 + 1 + 1 + 1 + 1 + 1 + 1 + 1 + 1 + 1 + 1 + 1 + 1 + 1 + 1 + 1 + 1 + 1 + 1 + 1 + 1 + 1 + 1 + 1 + 1 + 1 + 1 + 1 + 1 + 1 + 1 + 1 + 1 + 1 + 1 ≤ MC from hlc 41 (by decide)) (show B.2 + 200 + 8 + 3 + 12 + 12 + 8 + 3 + 2 + 24 + 2 + 24 + 2 + 24 + 7 + 2 + 24 + 2 + 24 + 2 + 24 + 2 + 24 + 2 + 24 + 2 + 24 + 2 + 24 + 2 + 24 + 3 + 2 + 24 + 2 + 24 + 3 + 2 + 24 + 2 + 24 + 3 ≤ MS from hls 652 (by decide)) rfl (Nat.le_of_ble_eq_true rfl) d_Mf_init_94) (fun G_290 B_291 p_292 => ?_)
  obtain ⟨a_293, b_294, z_295, z_296, f_297, n_298, n_299, x_300, e_301⟩ := p_292
  have fr_302 : gfr (fun y => y = 22) G_267 G_290 := gfr_gex x_300 f_269
  have n_303 : isN cA G_290 24 11 a_158 0 := isN_fr n_272 fr_302 (show ¬ (11 : Nat) = 22 by decide)
  have n_304 : isN cA G_290 24 12 b_159 0 := isN_fr n_273 fr_302 (show ¬ (12 : Nat) = 22 by decide)
  have n_305 : isN cA G_290 24 13 a_221 0 := isN_fr n_274 fr_302 (show ¬ (13 : Nat) = 22 by decide)
  have n_306 : isN cA G_290 24 14 b_222 0 := isN_fr n_275 fr_302 (show ¬ (14 : Nat) = 22 by decide)
  have n_307 : ∀ t9, t9 < 11 → isN cA G_290 24 t9 (ad t9) 0 := fun t9 h9 => isN_fr (n_276 t9 h9) fr_302 (fun e9 : t9 = 22 => absurd (show (22 : Nat) < 11 from e9 ▸ h9) (by decide))
  have e_301 : B_291 = (B.1 + 1 + 1 + 1 + 1 + 1 + 1 + 1 + 1 + 1 + 1 + 1 + 1 + 1 + 1 + 1 + 1 + 1 + 1 + 1 + 1 + 1 + 1 + 1 + 1 + 1 + 1 + 1 + 1 + 1 + 1 + 1 + 1 + 1 + 1 + 1 + 1 + 1 + 1 + 1 + 1 + 1 + 1 + 1 + 1 + 1, B.2 + 200 + 8 + 3 + 12 + 12 + 8 + 3 + 2 + 24 + 2 + 24 + 2 + 24 + 7 + 2 + 24 + 2 + 24 + 2 + 24 + 2 + 24 + 2 + 24 + 2 + 24 + 2 + 24 + 2 + 24 + 3 + 2 + 24 + 2 + 24 + 3 + 2 + 24 + 2 + 24 + 3 + 2 + 24 + 2 + 24) := e_301
  subst e_301
  have f_308 : G_290 q_1 = some (32, .inl (cA 2, 200, .inr (.inr (.inr (.inr (fun _ => none)))))) := x_300 _ _ f_277 (gne f_277 f_269 (fun e => absurd (show (32 : Nat) = 22 from congrArg Prod.fst e) (by decide)))
  have f_309 : G_290 q_24 = some (33, .inl (cA 3, 8, .inr (.inr (.inr (.inr (fun _ => none)))))) := x_300 _ _ f_278 (gne f_278 f_269 (fun e => absurd (show (33 : Nat) = 22 from congrArg Prod.fst e) (by decide)))
  have f_310 : G_290 q_50 = some (35, .inr (7, [.ref a_64, .ref a_65, .int (nI 0)])) := x_300 _ _ f_279 (gne f_279 f_269 (fun e => absurd (show (35 : Nat) = 22 from congrArg Prod.fst e) (by decide)))
  have f_311 : G_290 a_64 = some (36, .inl (cA 0, 12, .inl (fun _ => 0))) := x_300 _ _ f_280 (gne f_280 f_269 (fun e => absurd (show (36 : Nat) = 22 from congrArg Prod.fst e) (by decide)))
  have f_312 : G_290 a_65 = some (37, .inl (cA 1, 12, .inr (.inl (fun _ => 0)))) := x_300 _ _ f_281 (gne f_281 f_269 (fun e => absurd (show (37 : Nat) = 22 from congrArg Prod.fst e) (by decide)))
  have f_313 : G_290 q_87 = some (30, .inr (0, [.ref hd, .ref hc, .ref (ad 5), .ref (ad 6), .ref (ad 7), .ref (ad 8), .ref (ad 9), .ref (ad 10)])) := x_300 _ _ f_282 (gne f_282 f_269 (fun e => absurd (show (30 : Nat) = 22 from congrArg Prod.fst e) (by decide)))
  have f_314 : G_290 hd = some (30, .inr (2, [.ref (ad 0), .ref (ad 1), .ref (ad 2)])) := x_300 _ _ f_283 (gne f_283 f_269 (fun e => absurd (show (30 : Nat) = 22 from congrArg Prod.fst e) (by decide)))
  have f_315 : G_290 hc = some (19, .inr (1, [.ref hd, .ref (ad 3), .ref (ad 4), .long l_109, .long l_110, .long l_111, .long l_112])) := x_300 _ _ f_284 (gne f_284 f_269 (fun e => absurd (show (19 : Nat) = 22 from congrArg Prod.fst e) (by decide)))
  have f_316 : G_290 q_137 = some (20, .inr (3, [.int (nI 0), .ref a_158, .ref b_159])) := x_300 _ _ f_285 (gne f_285 f_269 (fun e => absurd (show (20 : Nat) = 22 from congrArg Prod.fst e) (by decide)))
  have f_317 : G_290 q_197 = some (21, .inr (3, [.int (nI 0), .ref a_221, .ref b_222])) := x_300 _ _ f_286 (gne f_286 f_269 (fun e => absurd (show (21 : Nat) = 22 from congrArg Prod.fst e) (by decide)))
  have f_318 : G_290 h = some (31, .inr (8, [.ref q_1, .int (nI 0), .ref q_24, .int (nI 0), .ref q_50, .ref q_87, .ref q_137, .ref q_197, .null, .null, .null, .null, .null, .null])) := x_300 _ _ f_287 (gne f_287 f_269 (fun e => absurd (show (31 : Nat) = 22 from congrArg Prod.fst e) (by decide)))
  have x_319 : gex (fun x => x = h) G G_290 := gex_tr x_289 x_300 (fun x y hx9 _ e => by subst e; rw [z_288] at hx9; cases hx9)
  refine g_putF (ty := .object "MetreFractions$Fraction") hx hb hts hin_Mf ty_Mf ty_Mf_ok nm_Mf hown hK f_318 rfl 8 (by decide) (hts _ wm243) (fun _ h9 => h9) rfl hin rfl (by decide +kernel) rfl rfl (Nat.le_of_ble_eq_true rfl) d_Mf_init_97 (fun G_320 f_321 o_322 => ?_)
  have f_323 : G_320 h = some (31, .inr (8, [.ref q_1, .int (nI 0), .ref q_24, .int (nI 0), .ref q_50, .ref q_87, .ref q_137, .ref q_197, .ref q_266, .null, .null, .null, .null, .null])) := f_321
  have f_324 : G_320 q_1 = some (32, .inl (cA 2, 200, .inr (.inr (.inr (.inr (fun _ => none)))))) := (o_322 _ (gne f_308 f_318 (fun e => absurd (show (32 : Nat) = 31 from congrArg Prod.fst e) (by decide)))).trans f_308
  have f_325 : G_320 q_24 = some (33, .inl (cA 3, 8, .inr (.inr (.inr (.inr (fun _ => none)))))) := (o_322 _ (gne f_309 f_318 (fun e => absurd (show (33 : Nat) = 31 from congrArg Prod.fst e) (by decide)))).trans f_309
  have f_326 : G_320 q_50 = some (35, .inr (7, [.ref a_64, .ref a_65, .int (nI 0)])) := (o_322 _ (gne f_310 f_318 (fun e => absurd (show (35 : Nat) = 31 from congrArg Prod.fst e) (by decide)))).trans f_310
  have f_327 : G_320 a_64 = some (36, .inl (cA 0, 12, .inl (fun _ => 0))) := (o_322 _ (gne f_311 f_318 (fun e => absurd (show (36 : Nat) = 31 from congrArg Prod.fst e) (by decide)))).trans f_311
  have f_328 : G_320 a_65 = some (37, .inl (cA 1, 12, .inr (.inl (fun _ => 0)))) := (o_322 _ (gne f_312 f_318 (fun e => absurd (show (37 : Nat) = 31 from congrArg Prod.fst e) (by decide)))).trans f_312
  have f_329 : G_320 q_87 = some (30, .inr (0, [.ref hd, .ref hc, .ref (ad 5), .ref (ad 6), .ref (ad 7), .ref (ad 8), .ref (ad 9), .ref (ad 10)])) := (o_322 _ (gne f_313 f_318 (fun e => absurd (show (30 : Nat) = 31 from congrArg Prod.fst e) (by decide)))).trans f_313
  have f_330 : G_320 hd = some (30, .inr (2, [.ref (ad 0), .ref (ad 1), .ref (ad 2)])) := (o_322 _ (gne f_314 f_318 (fun e => absurd (show (30 : Nat) = 31 from congrArg Prod.fst e) (by decide)))).trans f_314
  have f_331 : G_320 hc = some (19, .inr (1, [.ref hd, .ref (ad 3), .ref (ad 4), .long l_109, .long l_110, .long l_111, .long l_112])) := (o_322 _ (gne f_315 f_318 (fun e => absurd (show (19 : Nat) = 31 from congrArg Prod.fst e) (by decide)))).trans f_315
  have f_332 : G_320 q_137 = some (20, .inr (3, [.int (nI 0), .ref a_158, .ref b_159])) := (o_322 _ (gne f_316 f_318 (fun e => absurd (show (20 : Nat) = 31 from congrArg Prod.fst e) (by decide)))).trans f_316
  have f_333 : G_320 q_197 = some (21, .inr (3, [.int (nI 0), .ref a_221, .ref b_222])) := (o_322 _ (gne f_317 f_318 (fun e => absurd (show (21 : Nat) = 31 from congrArg Prod.fst e) (by decide)))).trans f_317
  have f_334 : G_320 q_266 = some (22, .inr (3, [.int (nI 0), .ref a_293, .ref b_294])) := (o_322 _ (gne f_297 f_318 (fun e => absurd (show (22 : Nat) = 31 from congrArg Prod.fst e) (by decide)))).trans f_297
  have x_335 : gex (fun x => x = h) G G_320 := gex_put x_319 o_322 (Or.inl rfl)
  have fr_336 : gfr (fun y => y = 31) G_290 G_320 := gfr_put gfr_rf f_318 rfl o_322
  have n_337 : isN cA G_320 24 11 a_158 0 := isN_fr n_303 fr_336 (show ¬ (11 : Nat) = 31 by decide)
  have n_338 : isN cA G_320 24 12 b_159 0 := isN_fr n_304 fr_336 (show ¬ (12 : Nat) = 31 by decide)
  have n_339 : isN cA G_320 24 13 a_221 0 := isN_fr n_305 fr_336 (show ¬ (13 : Nat) = 31 by decide)
  have n_340 : isN cA G_320 24 14 b_222 0 := isN_fr n_306 fr_336 (show ¬ (14 : Nat) = 31 by decide)
  have n_341 : isN cA G_320 24 15 a_293 0 := isN_fr n_298 fr_336 (show ¬ (15 : Nat) = 31 by decide)
  have n_342 : isN cA G_320 24 16 b_294 0 := isN_fr n_299 fr_336 (show ¬ (16 : Nat) = 31 by decide)
  have n_343 : ∀ t9, t9 < 11 → isN cA G_320 24 t9 (ad t9) 0 := fun t9 h9 => isN_fr (n_307 t9 h9) fr_336 (fun e9 : t9 = 31 => absurd (show (31 : Nat) < 11 from e9 ▸ h9) (by decide))
  refine gs (pc' := 101) (fun _ _ _ _ _ hl => lv_aload_n hx hb d_Mf_init_100 rfl (lv_at hl 0 rfl)) ?_
  refine g_new hx hb hts hin_Fr ty_Fr ty_Fr_ok hown (hts _ wm155) (hts _ wm156) (hts _ wm8) hK (ci := 3) rfl (fs := [.int (nI 0), .null, .null]) (fun j => match j with | 0 => fun _ => rfl | 1 => fun _ => rfl | 2 => fun _ => rfl | n + 3 => fun h9 => absurd h9 (by omega)) hlo hRc hRs (show B.1 + 1 + 1 + 1 + 1 + 1 + 1 + 1 + 1 + 1 + 1 + 1 + 1 + 1 + 1 + 1 + 1 + 1 + 1 + 1 + 1 + 1 + 1 + 1 + 1 + 1 + 1 + 1 + 1 + 1 + 1 + 1 + 1 + 1 + 1 + 1 + 1 + 1 + 1 + 1 + 1 + 1 + 1 + 1 + 1 + 1 + 1 ≤ MC from hlc 46 (by decide)) (show B.2 + 200 + 8 + 3 + 12 + 12 + 8 + 3 + 2 + 24 + 2 + 24 + 2 + 24 + 7 + 2 + 24 + 2 + 24 + 2 + 24 + 2 + 24 + 2 + 24 + 2 + 24 + 2 + 24 + 2 + 24 + 3 + 2 + 24 + 2 + 24 + 3 + 2 + 24 + 2 + 24 + 3 + 2 + 24 + 2 + 24 + 3 ≤ MS from hls 707 (by decide)) d_Mf_init_101 23 (fun q_344 G_345 z_346 f_347 o_348 => ?_)
  have fr_349 : gfr (fun y => y = 1000) G_320 G_345 := gfr_new gfr_rf z_346 o_348
  have n_350 : isN cA G_345 24 11 a_158 0 := isN_fr n_337 fr_349 (show ¬ (11 : Nat) = 1000 by decide)
  have n_351 : isN cA G_345 24 12 b_159 0 := isN_fr n_338 fr_349 (show ¬ (12 : Nat) = 1000 by decide)
  have n_352 : isN cA G_345 24 13 a_221 0 := isN_fr n_339 fr_349 (show ¬ (13 : Nat) = 1000 by decide)
  have n_353 : isN cA G_345 24 14 b_222 0 := isN_fr n_340 fr_349 (show ¬ (14 : Nat) = 1000 by decide)
  have n_354 : isN cA G_345 24 15 a_293 0 := isN_fr n_341 fr_349 (show ¬ (15 : Nat) = 1000 by decide)
  have n_355 : isN cA G_345 24 16 b_294 0 := isN_fr n_342 fr_349 (show ¬ (16 : Nat) = 1000 by decide)
  have n_356 : ∀ t9, t9 < 11 → isN cA G_345 24 t9 (ad t9) 0 := fun t9 h9 => isN_fr (n_343 t9 h9) fr_349 (fun e9 : t9 = 1000 => absurd (show (1000 : Nat) < 11 from e9 ▸ h9) (by decide))
  have f_357 : G_345 q_1 = some (32, .inl (cA 2, 200, .inr (.inr (.inr (.inr (fun _ => none)))))) := (o_348 _ (gne0 f_324 z_346)).trans f_324
  have f_358 : G_345 q_24 = some (33, .inl (cA 3, 8, .inr (.inr (.inr (.inr (fun _ => none)))))) := (o_348 _ (gne0 f_325 z_346)).trans f_325
  have f_359 : G_345 q_50 = some (35, .inr (7, [.ref a_64, .ref a_65, .int (nI 0)])) := (o_348 _ (gne0 f_326 z_346)).trans f_326
  have f_360 : G_345 a_64 = some (36, .inl (cA 0, 12, .inl (fun _ => 0))) := (o_348 _ (gne0 f_327 z_346)).trans f_327
  have f_361 : G_345 a_65 = some (37, .inl (cA 1, 12, .inr (.inl (fun _ => 0)))) := (o_348 _ (gne0 f_328 z_346)).trans f_328
  have f_362 : G_345 q_87 = some (30, .inr (0, [.ref hd, .ref hc, .ref (ad 5), .ref (ad 6), .ref (ad 7), .ref (ad 8), .ref (ad 9), .ref (ad 10)])) := (o_348 _ (gne0 f_329 z_346)).trans f_329
  have f_363 : G_345 hd = some (30, .inr (2, [.ref (ad 0), .ref (ad 1), .ref (ad 2)])) := (o_348 _ (gne0 f_330 z_346)).trans f_330
  have f_364 : G_345 hc = some (19, .inr (1, [.ref hd, .ref (ad 3), .ref (ad 4), .long l_109, .long l_110, .long l_111, .long l_112])) := (o_348 _ (gne0 f_331 z_346)).trans f_331
  have f_365 : G_345 q_137 = some (20, .inr (3, [.int (nI 0), .ref a_158, .ref b_159])) := (o_348 _ (gne0 f_332 z_346)).trans f_332
  have f_366 : G_345 q_197 = some (21, .inr (3, [.int (nI 0), .ref a_221, .ref b_222])) := (o_348 _ (gne0 f_333 z_346)).trans f_333
  have f_367 : G_345 q_266 = some (22, .inr (3, [.int (nI 0), .ref a_293, .ref b_294])) := (o_348 _ (gne0 f_334 z_346)).trans f_334
  have f_368 : G_345 h = some (31, .inr (8, [.ref q_1, .int (nI 0), .ref q_24, .int (nI 0), .ref q_50, .ref q_87, .ref q_137, .ref q_197, .ref q_266, .null, .null, .null, .null, .null])) := (o_348 _ (gne0 f_323 z_346)).trans f_323
  have z_369 : G q_344 = none := gex_0 x_335 z_346 (fun z => by have z := z.symm; subst z; rw [f_323] at z_346; cases z_346)
  have x_370 : gex (fun x => x = h) G G_345 := gex_new x_335 z_346 o_348
  refine g_Beq (B' := (B.1 + 1 + 1 + 1 + 1 + 1 + 1 + 1 + 1 + 1 + 1 + 1 + 1 + 1 + 1 + 1 + 1 + 1 + 1 + 1 + 1 + 1 + 1 + 1 + 1 + 1 + 1 + 1 + 1 + 1 + 1 + 1 + 1 + 1 + 1 + 1 + 1 + 1 + 1 + 1 + 1 + 1 + 1 + 1 + 1 + 1 + 1, B.2 + 200 + 8 + 3 + 12 + 12 + 8 + 3 + 2 + 24 + 2 + 24 + 2 + 24 + 7 + 2 + 24 + 2 + 24 + 2 + 24 + 2 + 24 + 2 + 24 + 2 + 24 + 2 + 24 + 2 + 24 + 3 + 2 + 24 + 2 + 24 + 3 + 2 + 24 + 2 + 24 + 3 + 2 + 24 + 2 + 24 + 3)) rfl ?_
  refine gs (pc' := 105) (fun _ _ _ _ _ hl => lv_dup hx hb d_Mf_init_104 rfl) ?_
  refine gs (pc' := 107) (fun _ _ _ _ _ hl => lv_bipush (v := nI 24) hx hb d_Mf_init_105 (by decide)) ?_
  refine gs (pc' := 109) (fun _ _ _ _ _ hl => lv_bipush (v := nI 24) hx hb d_Mf_init_107 (by decide)) ?_
  refine g_outv hlo (g_runI (b := q_344) (As := [.int (nI 24), .int (nI 24)]) (rest := [.ref q_344, .ref h]) ⟨hx, hb, hml, hown, hts⟩ hK hZ hRc hRs (c_Fr_init l D cA lo MC MS G_345 (B.1 + 1 + 1 + 1 + 1 + 1 + 1 + 1 + 1 + 1 + 1 + 1 + 1 + 1 + 1 + 1 + 1 + 1 + 1 + 1 + 1 + 1 + 1 + 1 + 1 + 1 + 1 + 1 + 1 + 1 + 1 + 1 + 1 + 1 + 1 + 1 + 1 + 1 + 1 + 1 + 1 + 1 + 1 + 1 + 1 + 1 + 1, B.2 + 200 + 8 + 3 + 12 + 12 + 8 + 3 + 2 + 24 + 2 + 24 + 2 + 24 + 7 + 2 + 24 + 2 + 24 + 2 + 24 + 2 + 24 + 2 + 24 + 2 + 24 + 2 + 24 + 2 + 24 + 3 + 2 + 24 + 2 + 24 + 3 + 2 + 24 + 2 + 24 + 3 + 2 + 24 + 2 + 24 + 3) 23 17 18 q_344 24 24 (by decide) f_347 (by decide) (by decide) (show B.1 + 1 + 1 + 1 + 1 + 1 + 1 + 1 + 1 + 1 + 1 + 1 + 1 + 1 + 1 + 1 + 1 + 1 + 1 + 1 + 1 + 1 + 1 + 1 + 1 + 1 + 1 + 1 + 1 + 1 + 1 + 1 + 1 + 1 + 1 + 1 + 1 + 1 + 1 + 1 + 1 + 1 + 1 + 1 + 1 + 1 + 1 + 4 ≤ MC from hlc 50 (by decide)) (show B.2 + 200 + 8 + 3 + 12 + 12 + 8 + 3 + 2 + 24 + 2 + 24 + 2 + 24 + 7 + 2 + 24 + 2 + 24 + 2 + 24 + 2 + 24 + 2 + 24 + 2 + 24 + 2 + 24 + 2 + 24 + 3 + 2 + 24 + 2 + 24 + 3 + 2 + 24 + 2 + 24 + 3 + 2 + 24 + 2 + 24 + 3 + 4 + 24 + 24 ≤ MS from hls 759 (by decide)) (show B.1 + 1 + 1 + 1 + 1 + 1 + 1 + 1 + 1 + 1 + 1 + 1 + 1 + 1 + 1 + 1 + 1 + 1 + 1 + 1 + 1 + 1 + 1 + 1 + 1 + 1 + 1 + 1 + 1 + 1 + 1 + 1 + 1 + 1 + 1 + 1 + 1 + 1 + 1 + 1 + 1 + 1 + 1 + 1 + 1 + 1 + 1 ≤ MC from hlc 46 (by decide)) (show B.2 + 200 + 8 + 3 + 12 + 12 + 8 + 3 + 2 + 24 + 2 + 24 + 2 + 24 + 7 + 2 + 24 + 2 + 24 + 2 + 24 + 2 + 24 + 2 + 24 + 2 + 24 + 2 + 24 + 2 + 24 + 3 + 2 + 24 + 2 + 24 + 3 + 2 + 24 + 2 + 24 + 3 + 2 + 24 + 2 + 24 + 3 ≤ MS from hls 707 (by decide))) (fun _ _ => cwI 2 hts (tb_good k_Fr_init) rfl rfl rfl (hts _ wm8) (hts _ wm157) (hts _ wm158) rfl (by decide +kernel) ⟨by rw [hRf]; exact Nat.le_of_ble_eq_true rfl, by rw [hRl]; exact Nat.le_of_ble_eq_true rfl⟩) (show B.1 + 1 + 1 + 1 + 1 + 1 + 1 + 1 + 1 + 1 + 1 + 1 + 1 + 1 + 1 + 1 + 1 + 1 + 1 + 1 + 1 + 1 + 1 + 1 + 1 + 1 + 1 + 1 + 1 + 1 + 1 + 1 + 1 + 1 + 1 + 1 + 1 + 1 + 1 + 1 + 1 + 1 + 1 + 1 + 1 + 1 + 1 ≤ MC from hlc 46 (by decide)) (show B.2 + 200 + 8 + 3 + 12 + 12 + 8 + 3 + 2 + 24 + 2 + 24 + 2 + 24 + 7 + 2 + 24 + 2 + 24 + 2 + 24 + 2 + 24 + 2 + 24 + 2 + 24 + 2 + 24 + 2 + 24 + 3 + 2 + 24 + 2 + 24 + 3 + 2 + 24 + 2 + 24 + 3 + 2 + 24 + 2 + 24 + 3 ≤ MS from hls 707 (by decide)) rfl (Nat.le_of_ble_eq_true rfl) d_Mf_init_109) (fun G_371 B_372 p_373 => ?_)
  obtain ⟨a_374, b_375, z_376, z_377, f_378, n_379, n_380, x_381, e_382⟩ := p_373
  have fr_383 : gfr (fun y => y = 23) G_345 G_371 := gfr_gex x_381 f_347
  have n_384 : isN cA G_371 24 11 a_158 0 := isN_fr n_350 fr_383 (show ¬ (11 : Nat) = 23 by decide)
  have n_385 : isN cA G_371 24 12 b_159 0 := isN_fr n_351 fr_383 (show ¬ (12 : Nat) = 23 by decide)
  have n_386 : isN cA G_371 24 13 a_221 0 := isN_fr n_352 fr_383 (show ¬ (13 : Nat) = 23 by decide)
  have n_387 : isN cA G_371 24 14 b_222 0 := isN_fr n_353 fr_383 (show ¬ (14 : Nat) = 23 by decide)
  have n_388 : isN cA G_371 24 15 a_293 0 := isN_fr n_354 fr_383 (show ¬ (15 : Nat) = 23 by decide)
  have n_389 : isN cA G_371 24 16 b_294 0 := isN_fr n_355 fr_383 (show ¬ (16 : Nat) = 23 by decide)
  have n_390 : ∀ t9, t9 < 11 → isN cA G_371 24 t9 (ad t9) 0 := fun t9 h9 => isN_fr (n_356 t9 h9) fr_383 (fun e9 : t9 = 23 => absurd (show (23 : Nat) < 11 from e9 ▸ h9) (by decide))
  have e_382 : B_372 = (B.1 + 1 + 1 + 1 + 1 + 1 + 1 + 1 + 1 + 1 + 1 + 1 + 1 + 1 + 1 + 1 + 1 + 1 + 1 + 1 + 1 + 1 + 1 + 1 + 1 + 1 + 1 + 1 + 1 + 1 + 1 + 1 + 1 + 1 + 1 + 1 + 1 + 1 + 1 + 1 + 1 + 1 + 1 + 1 + 1 + 1 + 1 + 1 + 1 + 1 + 1, B.2 + 200 + 8 + 3 + 12 + 12 + 8 + 3 + 2 + 24 + 2 + 24 + 2 + 24 + 7 + 2 + 24 + 2 + 24 + 2 + 24 + 2 + 24 + 2 + 24 + 2 + 24 + 2 + 24 + 2 + 24 + 3 + 2 + 24 + 2 + 24 + 3 + 2 + 24 + 2 + 24 + 3 + 2 + 24 + 2 + 24 + 3 + 2 + 24 + 2 + 24) := e_382
  subst e_382
  have f_391 : G_371 q_1 = some (32, .inl (cA 2, 200, .inr (.inr (.inr (.inr (fun _ => none)))))) := x_381 _ _ f_357 (gne f_357 f_347 (fun e => absurd (show (32 : Nat) = 23 from congrArg Prod.fst e) (by decide)))
  have f_392 : G_371 q_24 = some (33, .inl (cA 3, 8, .inr (.inr (.inr (.inr (fun _ => none)))))) := x_381 _ _ f_358 (gne f_358 f_347 (fun e => absurd (show (33 : Nat) = 23 from congrArg Prod.fst e) (by decide)))
  have f_393 : G_371 q_50 = some (35, .inr (7, [.ref a_64, .ref a_65, .int (nI 0)])) := x_381 _ _ f_359 (gne f_359 f_347 (fun e => absurd (show (35 : Nat) = 23 from congrArg Prod.fst e) (by decide)))
  have f_394 : G_371 a_64 = some (36, .inl (cA 0, 12, .inl (fun _ => 0))) := x_381 _ _ f_360 (gne f_360 f_347 (fun e => absurd (show (36 : Nat) = 23 from congrArg Prod.fst e) (by decide)))
  have f_395 : G_371 a_65 = some (37, .inl (cA 1, 12, .inr (.inl (fun _ => 0)))) := x_381 _ _ f_361 (gne f_361 f_347 (fun e => absurd (show (37 : Nat) = 23 from congrArg Prod.fst e) (by decide)))
  have f_396 : G_371 q_87 = some (30, .inr (0, [.ref hd, .ref hc, .ref (ad 5), .ref (ad 6), .ref (ad 7), .ref (ad 8), .ref (ad 9), .ref (ad 10)])) := x_381 _ _ f_362 (gne f_362 f_347 (fun e => absurd (show (30 : Nat) = 23 from congrArg Prod.fst e) (by decide)))
  have f_397 : G_371 hd = some (30, .inr (2, [.ref (ad 0), .ref (ad 1), .ref (ad 2)])) := x_381 _ _ f_363 (gne f_363 f_347 (fun e => absurd (show (30 : Nat) = 23 from congrArg Prod.fst e) (by decide)))
  have f_398 : G_371 hc = some (19, .inr (1, [.ref hd, .ref (ad 3), .ref (ad 4), .long l_109, .long l_110, .long l_111, .long l_112])) := x_381 _ _ f_364 (gne f_364 f_347 (fun e => absurd (show (19 : Nat) = 23 from congrArg Prod.fst e) (by decide)))
  have f_399 : G_371 q_137 = some (20, .inr (3, [.int (nI 0), .ref a_158, .ref b_159])) := x_381 _ _ f_365 (gne f_365 f_347 (fun e => absurd (show (20 : Nat) = 23 from congrArg Prod.fst e) (by decide)))
  have f_400 : G_371 q_197 = some (21, .inr (3, [.int (nI 0), .ref a_221, .ref b_222])) := x_381 _ _ f_366 (gne f_366 f_347 (fun e => absurd (show (21 : Nat) = 23 from congrArg Prod.fst e) (by decide)))
  have f_401 : G_371 q_266 = some (22, .inr (3, [.int (nI 0), .ref a_293, .ref b_294])) := x_381 _ _ f_367 (gne f_367 f_347 (fun e => absurd (show (22 : Nat) = 23 from congrArg Prod.fst e) (by decide)))
  have f_402 : G_371 h = some (31, .inr (8, [.ref q_1, .int (nI 0), .ref q_24, .int (nI 0), .ref q_50, .ref q_87, .ref q_137, .ref q_197, .ref q_266, .null, .null, .null, .null, .null])) := x_381 _ _ f_368 (gne f_368 f_347 (fun e => absurd (show (31 : Nat) = 23 from congrArg Prod.fst e) (by decide)))
  have x_403 : gex (fun x => x = h) G G_371 := gex_tr x_370 x_381 (fun x y hx9 _ e => by subst e; rw [z_369] at hx9; cases hx9)
  refine g_putF (ty := .object "MetreFractions$Fraction") hx hb hts hin_Mf ty_Mf ty_Mf_ok nm_Mf hown hK f_402 rfl 9 (by decide) (hts _ wm244) (fun _ h9 => h9) rfl hin rfl (by decide +kernel) rfl rfl (Nat.le_of_ble_eq_true rfl) d_Mf_init_112 (fun G_404 f_405 o_406 => ?_)
  have f_407 : G_404 h = some (31, .inr (8, [.ref q_1, .int (nI 0), .ref q_24, .int (nI 0), .ref q_50, .ref q_87, .ref q_137, .ref q_197, .ref q_266, .ref q_344, .null, .null, .null, .null])) := f_405
  have f_408 : G_404 q_1 = some (32, .inl (cA 2, 200, .inr (.inr (.inr (.inr (fun _ => none)))))) := (o_406 _ (gne f_391 f_402 (fun e => absurd (show (32 : Nat) = 31 from congrArg Prod.fst e) (by decide)))).trans f_391
  have f_409 : G_404 q_24 = some (33, .inl (cA 3, 8, .inr (.inr (.inr (.inr (fun _ => none)))))) := (o_406 _ (gne f_392 f_402 (fun e => absurd (show (33 : Nat) = 31 from congrArg Prod.fst e) (by decide)))).trans f_392
  have f_410 : G_404 q_50 = some (35, .inr (7, [.ref a_64, .ref a_65, .int (nI 0)])) := (o_406 _ (gne f_393 f_402 (fun e => absurd (show (35 : Nat) = 31 from congrArg Prod.fst e) (by decide)))).trans f_393
  have f_411 : G_404 a_64 = some (36, .inl (cA 0, 12, .inl (fun _ => 0))) := (o_406 _ (gne f_394 f_402 (fun e => absurd (show (36 : Nat) = 31 from congrArg Prod.fst e) (by decide)))).trans f_394
  have f_412 : G_404 a_65 = some (37, .inl (cA 1, 12, .inr (.inl (fun _ => 0)))) := (o_406 _ (gne f_395 f_402 (fun e => absurd (show (37 : Nat) = 31 from congrArg Prod.fst e) (by decide)))).trans f_395
  have f_413 : G_404 q_87 = some (30, .inr (0, [.ref hd, .ref hc, .ref (ad 5), .ref (ad 6), .ref (ad 7), .ref (ad 8), .ref (ad 9), .ref (ad 10)])) := (o_406 _ (gne f_396 f_402 (fun e => absurd (show (30 : Nat) = 31 from congrArg Prod.fst e) (by decide)))).trans f_396
  have f_414 : G_404 hd = some (30, .inr (2, [.ref (ad 0), .ref (ad 1), .ref (ad 2)])) := (o_406 _ (gne f_397 f_402 (fun e => absurd (show (30 : Nat) = 31 from congrArg Prod.fst e) (by decide)))).trans f_397
  have f_415 : G_404 hc = some (19, .inr (1, [.ref hd, .ref (ad 3), .ref (ad 4), .long l_109, .long l_110, .long l_111, .long l_112])) := (o_406 _ (gne f_398 f_402 (fun e => absurd (show (19 : Nat) = 31 from congrArg Prod.fst e) (by decide)))).trans f_398
  have f_416 : G_404 q_137 = some (20, .inr (3, [.int (nI 0), .ref a_158, .ref b_159])) := (o_406 _ (gne f_399 f_402 (fun e => absurd (show (20 : Nat) = 31 from congrArg Prod.fst e) (by decide)))).trans f_399
  have f_417 : G_404 q_197 = some (21, .inr (3, [.int (nI 0), .ref a_221, .ref b_222])) := (o_406 _ (gne f_400 f_402 (fun e => absurd (show (21 : Nat) = 31 from congrArg Prod.fst e) (by decide)))).trans f_400
  have f_418 : G_404 q_266 = some (22, .inr (3, [.int (nI 0), .ref a_293, .ref b_294])) := (o_406 _ (gne f_401 f_402 (fun e => absurd (show (22 : Nat) = 31 from congrArg Prod.fst e) (by decide)))).trans f_401
  have f_419 : G_404 q_344 = some (23, .inr (3, [.int (nI 0), .ref a_374, .ref b_375])) := (o_406 _ (gne f_378 f_402 (fun e => absurd (show (23 : Nat) = 31 from congrArg Prod.fst e) (by decide)))).trans f_378
  have x_420 : gex (fun x => x = h) G G_404 := gex_put x_403 o_406 (Or.inl rfl)
  have fr_421 : gfr (fun y => y = 31) G_371 G_404 := gfr_put gfr_rf f_402 rfl o_406
  have n_422 : isN cA G_404 24 11 a_158 0 := isN_fr n_384 fr_421 (show ¬ (11 : Nat) = 31 by decide)
  have n_423 : isN cA G_404 24 12 b_159 0 := isN_fr n_385 fr_421 (show ¬ (12 : Nat) = 31 by decide)
  have n_424 : isN cA G_404 24 13 a_221 0 := isN_fr n_386 fr_421 (show ¬ (13 : Nat) = 31 by decide)
  have n_425 : isN cA G_404 24 14 b_222 0 := isN_fr n_387 fr_421 (show ¬ (14 : Nat) = 31 by decide)
  have n_426 : isN cA G_404 24 15 a_293 0 := isN_fr n_388 fr_421 (show ¬ (15 : Nat) = 31 by decide)
  have n_427 : isN cA G_404 24 16 b_294 0 := isN_fr n_389 fr_421 (show ¬ (16 : Nat) = 31 by decide)
  have n_428 : isN cA G_404 24 17 a_374 0 := isN_fr n_379 fr_421 (show ¬ (17 : Nat) = 31 by decide)
  have n_429 : isN cA G_404 24 18 b_375 0 := isN_fr n_380 fr_421 (show ¬ (18 : Nat) = 31 by decide)
  have n_430 : ∀ t9, t9 < 11 → isN cA G_404 24 t9 (ad t9) 0 := fun t9 h9 => isN_fr (n_390 t9 h9) fr_421 (fun e9 : t9 = 31 => absurd (show (31 : Nat) < 11 from e9 ▸ h9) (by decide))
  refine gs (pc' := 116) (fun _ _ _ _ _ hl => lv_aload_n hx hb d_Mf_init_115 rfl (lv_at hl 0 rfl)) ?_
  refine gs (pc' := 117) (fun _ _ _ _ _ hl => lv_iconst (v := nI 0) hx hb d_Mf_init_116 (by decide)) ?_
  refine gs (pc' := 118) (fun _ _ _ _ _ hl => lv_iconst (v := nI 1) hx hb d_Mf_init_117 (by decide)) ?_
  refine g_outr hlo (g_runS (As := [.int (nI 0), .int (nI 1)]) (rest := [.ref h]) ⟨hx, hb, hml, hown, hts⟩ hK hZ hRc hRs (c_Fr_olt l D cA lo MC MS G_404 (B.1 + 1 + 1 + 1 + 1 + 1 + 1 + 1 + 1 + 1 + 1 + 1 + 1 + 1 + 1 + 1 + 1 + 1 + 1 + 1 + 1 + 1 + 1 + 1 + 1 + 1 + 1 + 1 + 1 + 1 + 1 + 1 + 1 + 1 + 1 + 1 + 1 + 1 + 1 + 1 + 1 + 1 + 1 + 1 + 1 + 1 + 1 + 1 + 1 + 1 + 1, B.2 + 200 + 8 + 3 + 12 + 12 + 8 + 3 + 2 + 24 + 2 + 24 + 2 + 24 + 7 + 2 + 24 + 2 + 24 + 2 + 24 + 2 + 24 + 2 + 24 + 2 + 24 + 2 + 24 + 2 + 24 + 3 + 2 + 24 + 2 + 24 + 3 + 2 + 24 + 2 + 24 + 3 + 2 + 24 + 2 + 24 + 3 + 2 + 24 + 2 + 24) 0 1 (by decide) (by decide) (show B.1 + 1 + 1 + 1 + 1 + 1 + 1 + 1 + 1 + 1 + 1 + 1 + 1 + 1 + 1 + 1 + 1 + 1 + 1 + 1 + 1 + 1 + 1 + 1 + 1 + 1 + 1 + 1 + 1 + 1 + 1 + 1 + 1 + 1 + 1 + 1 + 1 + 1 + 1 + 1 + 1 + 1 + 1 + 1 + 1 + 1 + 1 + 1 + 1 + 1 + 1 + 5 ≤ MC from hlc 55 (by decide)) (show B.2 + 200 + 8 + 3 + 12 + 12 + 8 + 3 + 2 + 24 + 2 + 24 + 2 + 24 + 7 + 2 + 24 + 2 + 24 + 2 + 24 + 2 + 24 + 2 + 24 + 2 + 24 + 2 + 24 + 2 + 24 + 3 + 2 + 24 + 2 + 24 + 3 + 2 + 24 + 2 + 24 + 3 + 2 + 24 + 2 + 24 + 3 + 2 + 24 + 2 + 24 + 13 ≤ MS from hls 772 (by decide)) (show B.1 + 1 + 1 + 1 + 1 + 1 + 1 + 1 + 1 + 1 + 1 + 1 + 1 + 1 + 1 + 1 + 1 + 1 + 1 + 1 + 1 + 1 + 1 + 1 + 1 + 1 + 1 + 1 + 1 + 1 + 1 + 1 + 1 + 1 + 1 + 1 + 1 + 1 + 1 + 1 + 1 + 1 + 1 + 1 + 1 + 1 + 1 + 1 + 1 + 1 + 1 ≤ MC from hlc 50 (by decide)) (show B.2 + 200 + 8 + 3 + 12 + 12 + 8 + 3 + 2 + 24 + 2 + 24 + 2 + 24 + 7 + 2 + 24 + 2 + 24 + 2 + 24 + 2 + 24 + 2 + 24 + 2 + 24 + 2 + 24 + 2 + 24 + 3 + 2 + 24 + 2 + 24 + 3 + 2 + 24 + 2 + 24 + 3 + 2 + 24 + 2 + 24 + 3 + 2 + 24 + 2 + 24 ≤ MS from hls 759 (by decide))) (fun _ _ => va_cwS 2 hts (tb_good (tb_cons wm179 (tb_cons wm180 (tb_cons wm8 k_Fr_ofLowestTerms)))) rfl rfl rfl (by decide +kernel) ⟨by rw [hRf]; exact Nat.le_of_ble_eq_true rfl, by rw [hRl]; exact Nat.le_of_ble_eq_true rfl⟩) (show B.1 + 1 + 1 + 1 + 1 + 1 + 1 + 1 + 1 + 1 + 1 + 1 + 1 + 1 + 1 + 1 + 1 + 1 + 1 + 1 + 1 + 1 + 1 + 1 + 1 + 1 + 1 + 1 + 1 + 1 + 1 + 1 + 1 + 1 + 1 + 1 + 1 + 1 + 1 + 1 + 1 + 1 + 1 + 1 + 1 + 1 + 1 + 1 + 1 + 1 + 1 ≤ MC from hlc 50 (by decide)) (show B.2 + 200 + 8 + 3 + 12 + 12 + 8 + 3 + 2 + 24 + 2 + 24 + 2 + 24 + 7 + 2 + 24 + 2 + 24 + 2 + 24 + 2 + 24 + 2 + 24 + 2 + 24 + 2 + 24 + 2 + 24 + 3 + 2 + 24 + 2 + 24 + 3 + 2 + 24 + 2 + 24 + 3 + 2 + 24 + 2 + 24 + 3 + 2 + 24 + 2 + 24 ≤ MS from hls 759 (by decide)) rfl (Nat.le_of_ble_eq_true rfl) d_Mf_init_118) (fun r_434 G_431 B_432 p_433 => ?_)
  obtain ⟨x_435, n_436, b_437, b_438⟩ := p_433
  have b_437 : B_432.1 ≤ B.1 + 1 + 1 + 1 + 1 + 1 + 1 + 1 + 1 + 1 + 1 + 1 + 1 + 1 + 1 + 1 + 1 + 1 + 1 + 1 + 1 + 1 + 1 + 1 + 1 + 1 + 1 + 1 + 1 + 1 + 1 + 1 + 1 + 1 + 1 + 1 + 1 + 1 + 1 + 1 + 1 + 1 + 1 + 1 + 1 + 1 + 1 + 1 + 1 + 1 + 1 + 5 := b_437
  have b_438 : B_432.2 ≤ B.2 + 200 + 8 + 3 + 12 + 12 + 8 + 3 + 2 + 24 + 2 + 24 + 2 + 24 + 7 + 2 + 24 + 2 + 24 + 2 + 24 + 2 + 24 + 2 + 24 + 2 + 24 + 2 + 24 + 2 + 24 + 3 + 2 + 24 + 2 + 24 + 3 + 2 + 24 + 2 + 24 + 3 + 2 + 24 + 2 + 24 + 3 + 2 + 24 + 2 + 24 + 13 := b_438
  have fr_439 : gfr (fun y => y = 1000) G_404 G_431 := fun a9 y9 h9 _ => x_435 a9 y9 h9 (fun z => z)
  have n_440 : isN cA G_431 24 11 a_158 0 := isN_fr n_422 fr_439 (show ¬ (11 : Nat) = 1000 by decide)
  have n_441 : isN cA G_431 24 12 b_159 0 := isN_fr n_423 fr_439 (show ¬ (12 : Nat) = 1000 by decide)
  have n_442 : isN cA G_431 24 13 a_221 0 := isN_fr n_424 fr_439 (show ¬ (13 : Nat) = 1000 by decide)
  have n_443 : isN cA G_431 24 14 b_222 0 := isN_fr n_425 fr_439 (show ¬ (14 : Nat) = 1000 by decide)
  have n_444 : isN cA G_431 24 15 a_293 0 := isN_fr n_426 fr_439 (show ¬ (15 : Nat) = 1000 by decide)
  have n_445 : isN cA G_431 24 16 b_294 0 := isN_fr n_427 fr_439 (show ¬ (16 : Nat) = 1000 by decide)
  have n_446 : isN cA G_431 24 17 a_374 0 := isN_fr n_428 fr_439 (show ¬ (17 : Nat) = 1000 by decide)
  have n_447 : isN cA G_431 24 18 b_375 0 := isN_fr n_429 fr_439 (show ¬ (18 : Nat) = 1000 by decide)
  have n_448 : ∀ t9, t9 < 11 → isN cA G_431 24 t9 (ad t9) 0 := fun t9 h9 => isN_fr (n_430 t9 h9) fr_439 (fun e9 : t9 = 1000 => absurd (show (1000 : Nat) < 11 from e9 ▸ h9) (by decide))
  have f_449 : G_431 q_1 = some (32, .inl (cA 2, 200, .inr (.inr (.inr (.inr (fun _ => none)))))) := x_435 _ _ f_408 (fun z => z)
  have f_450 : G_431 q_24 = some (33, .inl (cA 3, 8, .inr (.inr (.inr (.inr (fun _ => none)))))) := x_435 _ _ f_409 (fun z => z)
  have f_451 : G_431 q_50 = some (35, .inr (7, [.ref a_64, .ref a_65, .int (nI 0)])) := x_435 _ _ f_410 (fun z => z)
  have f_452 : G_431 a_64 = some (36, .inl (cA 0, 12, .inl (fun _ => 0))) := x_435 _ _ f_411 (fun z => z)
  have f_453 : G_431 a_65 = some (37, .inl (cA 1, 12, .inr (.inl (fun _ => 0)))) := x_435 _ _ f_412 (fun z => z)
  have f_454 : G_431 q_87 = some (30, .inr (0, [.ref hd, .ref hc, .ref (ad 5), .ref (ad 6), .ref (ad 7), .ref (ad 8), .ref (ad 9), .ref (ad 10)])) := x_435 _ _ f_413 (fun z => z)
  have f_455 : G_431 hd = some (30, .inr (2, [.ref (ad 0), .ref (ad 1), .ref (ad 2)])) := x_435 _ _ f_414 (fun z => z)
  have f_456 : G_431 hc = some (19, .inr (1, [.ref hd, .ref (ad 3), .ref (ad 4), .long l_109, .long l_110, .long l_111, .long l_112])) := x_435 _ _ f_415 (fun z => z)
  have f_457 : G_431 q_137 = some (20, .inr (3, [.int (nI 0), .ref a_158, .ref b_159])) := x_435 _ _ f_416 (fun z => z)
  have f_458 : G_431 q_197 = some (21, .inr (3, [.int (nI 0), .ref a_221, .ref b_222])) := x_435 _ _ f_417 (fun z => z)
  have f_459 : G_431 q_266 = some (22, .inr (3, [.int (nI 0), .ref a_293, .ref b_294])) := x_435 _ _ f_418 (fun z => z)
  have f_460 : G_431 q_344 = some (23, .inr (3, [.int (nI 0), .ref a_374, .ref b_375])) := x_435 _ _ f_419 (fun z => z)
  have f_461 : G_431 h = some (31, .inr (8, [.ref q_1, .int (nI 0), .ref q_24, .int (nI 0), .ref q_50, .ref q_87, .ref q_137, .ref q_197, .ref q_266, .ref q_344, .null, .null, .null, .null])) := x_435 _ _ f_407 (fun z => z)
  have x_462 : gex (fun x => x = h) G G_431 := gex_tr x_420 x_435 (fun _ _ _ _ z => z)
  have lc_463 : ∀ k, k ≤ 145 → B_432.1 + k ≤ MC := fun k9 h9 => Nat.le_trans (Nat.add_le_add_right b_437 k9) (lim_st hlc (show 55 + k9 ≤ 200 from Nat.le_trans (Nat.add_le_add_left h9 _) (by decide)) rfl)
  have ls_464 : ∀ k, k ≤ 1228 → B_432.2 + k ≤ MS := fun k9 h9 => Nat.le_trans (Nat.add_le_add_right b_438 k9) (lim_st hls (show 772 + k9 ≤ 2000 from Nat.le_trans (Nat.add_le_add_left h9 _) (by decide)) rfl)
  refine g_putF (ty := .object "MetreFractions$Fraction") hx hb hts hin_Mf ty_Mf ty_Mf_ok nm_Mf hown hK f_461 rfl 10 (by decide) (hts _ wm245) (fun _ h9 => h9) rfl hin rfl (by decide +kernel) rfl rfl (Nat.le_of_ble_eq_true rfl) d_Mf_init_121 (fun G_465 f_466 o_467 => ?_)
  have f_468 : G_465 h = some (31, .inr (8, [.ref q_1, .int (nI 0), .ref q_24, .int (nI 0), .ref q_50, .ref q_87, .ref q_137, .ref q_197, .ref q_266, .ref q_344, .ref r_434, .null, .null, .null])) := f_466
  have f_469 : G_465 q_1 = some (32, .inl (cA 2, 200, .inr (.inr (.inr (.inr (fun _ => none)))))) := (o_467 _ (gne f_449 f_461 (fun e => absurd (show (32 : Nat) = 31 from congrArg Prod.fst e) (by decide)))).trans f_449
  have f_470 : G_465 q_24 = some (33, .inl (cA 3, 8, .inr (.inr (.inr (.inr (fun _ => none)))))) := (o_467 _ (gne f_450 f_461 (fun e => absurd (show (33 : Nat) = 31 from congrArg Prod.fst e) (by decide)))).trans f_450
  have f_471 : G_465 q_50 = some (35, .inr (7, [.ref a_64, .ref a_65, .int (nI 0)])) := (o_467 _ (gne f_451 f_461 (fun e => absurd (show (35 : Nat) = 31 from congrArg Prod.fst e) (by decide)))).trans f_451
  have f_472 : G_465 a_64 = some (36, .inl (cA 0, 12, .inl (fun _ => 0))) := (o_467 _ (gne f_452 f_461 (fun e => absurd (show (36 : Nat) = 31 from congrArg Prod.fst e) (by decide)))).trans f_452
  have f_473 : G_465 a_65 = some (37, .inl (cA 1, 12, .inr (.inl (fun _ => 0)))) := (o_467 _ (gne f_453 f_461 (fun e => absurd (show (37 : Nat) = 31 from congrArg Prod.fst e) (by decide)))).trans f_453
  have f_474 : G_465 q_87 = some (30, .inr (0, [.ref hd, .ref hc, .ref (ad 5), .ref (ad 6), .ref (ad 7), .ref (ad 8), .ref (ad 9), .ref (ad 10)])) := (o_467 _ (gne f_454 f_461 (fun e => absurd (show (30 : Nat) = 31 from congrArg Prod.fst e) (by decide)))).trans f_454
  have f_475 : G_465 hd = some (30, .inr (2, [.ref (ad 0), .ref (ad 1), .ref (ad 2)])) := (o_467 _ (gne f_455 f_461 (fun e => absurd (show (30 : Nat) = 31 from congrArg Prod.fst e) (by decide)))).trans f_455
  have f_476 : G_465 hc = some (19, .inr (1, [.ref hd, .ref (ad 3), .ref (ad 4), .long l_109, .long l_110, .long l_111, .long l_112])) := (o_467 _ (gne f_456 f_461 (fun e => absurd (show (19 : Nat) = 31 from congrArg Prod.fst e) (by decide)))).trans f_456
  have f_477 : G_465 q_137 = some (20, .inr (3, [.int (nI 0), .ref a_158, .ref b_159])) := (o_467 _ (gne f_457 f_461 (fun e => absurd (show (20 : Nat) = 31 from congrArg Prod.fst e) (by decide)))).trans f_457
  have f_478 : G_465 q_197 = some (21, .inr (3, [.int (nI 0), .ref a_221, .ref b_222])) := (o_467 _ (gne f_458 f_461 (fun e => absurd (show (21 : Nat) = 31 from congrArg Prod.fst e) (by decide)))).trans f_458
  have f_479 : G_465 q_266 = some (22, .inr (3, [.int (nI 0), .ref a_293, .ref b_294])) := (o_467 _ (gne f_459 f_461 (fun e => absurd (show (22 : Nat) = 31 from congrArg Prod.fst e) (by decide)))).trans f_459
  have f_480 : G_465 q_344 = some (23, .inr (3, [.int (nI 0), .ref a_374, .ref b_375])) := (o_467 _ (gne f_460 f_461 (fun e => absurd (show (23 : Nat) = 31 from congrArg Prod.fst e) (by decide)))).trans f_460
  have x_481 : gex (fun x => x = h) G G_465 := gex_put x_462 o_467 (Or.inl rfl)
  have fr_482 : gfr (fun y => y = 31) G_431 G_465 := gfr_put gfr_rf f_461 rfl o_467
  have n_483 : isN cA G_465 24 11 a_158 0 := isN_fr n_440 fr_482 (show ¬ (11 : Nat) = 31 by decide)
  have n_484 : isN cA G_465 24 12 b_159 0 := isN_fr n_441 fr_482 (show ¬ (12 : Nat) = 31 by decide)
  have n_485 : isN cA G_465 24 13 a_221 0 := isN_fr n_442 fr_482 (show ¬ (13 : Nat) = 31 by decide)
  have n_486 : isN cA G_465 24 14 b_222 0 := isN_fr n_443 fr_482 (show ¬ (14 : Nat) = 31 by decide)
  have n_487 : isN cA G_465 24 15 a_293 0 := isN_fr n_444 fr_482 (show ¬ (15 : Nat) = 31 by decide)
  have n_488 : isN cA G_465 24 16 b_294 0 := isN_fr n_445 fr_482 (show ¬ (16 : Nat) = 31 by decide)
  have n_489 : isN cA G_465 24 17 a_374 0 := isN_fr n_446 fr_482 (show ¬ (17 : Nat) = 31 by decide)
  have n_490 : isN cA G_465 24 18 b_375 0 := isN_fr n_447 fr_482 (show ¬ (18 : Nat) = 31 by decide)
  have n_491 : ∀ t9, t9 < 11 → isN cA G_465 24 t9 (ad t9) 0 := fun t9 h9 => isN_fr (n_448 t9 h9) fr_482 (fun e9 : t9 = 31 => absurd (show (31 : Nat) < 11 from e9 ▸ h9) (by decide))
  have n_492 : rf cA G_465 (fun x => x = 30) r_434 ((0 : Nat) : Int) 1 := rf_fr n_436 fr_482 (fun t9 (h9 : t9 = 30) (e9 : t9 = 31) => absurd (show (30 : Nat) = 31 from h9.symm.trans e9) (by decide))
  refine gs (pc' := 125) (fun _ _ _ _ _ hl => lv_aload_n hx hb d_Mf_init_124 rfl (lv_at hl 0 rfl)) ?_
  refine gs (pc' := 126) (fun _ _ _ _ _ hl => lv_iconst (v := nI 4) hx hb d_Mf_init_125 (by decide)) ?_
  refine gs (pc' := 127) (fun _ _ _ _ _ hl => lv_iconst (v := nI 1) hx hb d_Mf_init_126 (by decide)) ?_
  refine g_outr hlo (g_runS (As := [.int (nI 4), .int (nI 1)]) (rest := [.ref h]) ⟨hx, hb, hml, hown, hts⟩ hK hZ hRc hRs (c_Fr_olt l D cA lo MC MS G_465 B_432 4 1 (by decide) (by decide) (show B_432.1 + 5 ≤ MC from lc_463 5 (by decide)) (show B_432.2 + 13 ≤ MS from ls_464 13 (by decide)) (show B_432.1 ≤ MC from lc_463 0 (by decide)) (show B_432.2 ≤ MS from ls_464 0 (by decide))) (fun _ _ => va_cwS 2 hts (tb_good (tb_cons wm179 (tb_cons wm180 (tb_cons wm8 k_Fr_ofLowestTerms)))) rfl rfl rfl (by decide +kernel) ⟨by rw [hRf]; exact Nat.le_of_ble_eq_true rfl, by rw [hRl]; exact Nat.le_of_ble_eq_true rfl⟩) (show B_432.1 ≤ MC from lc_463 0 (by decide)) (show B_432.2 ≤ MS from ls_464 0 (by decide)) rfl (Nat.le_of_ble_eq_true rfl) d_Mf_init_127) (fun r_496 G_493 B_494 p_495 => ?_)
  obtain ⟨x_497, n_498, b_499, b_500⟩ := p_495
  have b_499 : B_494.1 ≤ B_432.1 + 5 := b_499
  have b_500 : B_494.2 ≤ B_432.2 + 13 := b_500
  have fr_501 : gfr (fun y => y = 1000) G_465 G_493 := fun a9 y9 h9 _ => x_497 a9 y9 h9 (fun z => z)
  have n_502 : isN cA G_493 24 11 a_158 0 := isN_fr n_483 fr_501 (show ¬ (11 : Nat) = 1000 by decide)
  have n_503 : isN cA G_493 24 12 b_159 0 := isN_fr n_484 fr_501 (show ¬ (12 : Nat) = 1000 by decide)
  have n_504 : isN cA G_493 24 13 a_221 0 := isN_fr n_485 fr_501 (show ¬ (13 : Nat) = 1000 by decide)
  have n_505 : isN cA G_493 24 14 b_222 0 := isN_fr n_486 fr_501 (show ¬ (14 : Nat) = 1000 by decide)
  have n_506 : isN cA G_493 24 15 a_293 0 := isN_fr n_487 fr_501 (show ¬ (15 : Nat) = 1000 by decide)
  have n_507 : isN cA G_493 24 16 b_294 0 := isN_fr n_488 fr_501 (show ¬ (16 : Nat) = 1000 by decide)
  have n_508 : isN cA G_493 24 17 a_374 0 := isN_fr n_489 fr_501 (show ¬ (17 : Nat) = 1000 by decide)
  have n_509 : isN cA G_493 24 18 b_375 0 := isN_fr n_490 fr_501 (show ¬ (18 : Nat) = 1000 by decide)
  have n_510 : ∀ t9, t9 < 11 → isN cA G_493 24 t9 (ad t9) 0 := fun t9 h9 => isN_fr (n_491 t9 h9) fr_501 (fun e9 : t9 = 1000 => absurd (show (1000 : Nat) < 11 from e9 ▸ h9) (by decide))
  have n_511 : rf cA G_493 (fun x => x = 30) r_434 ((0 : Nat) : Int) 1 := rf_fr n_492 fr_501 (fun t9 (h9 : t9 = 30) (e9 : t9 = 1000) => absurd (show (30 : Nat) = 1000 from h9.symm.trans e9) (by decide))
  have f_512 : G_493 q_1 = some (32, .inl (cA 2, 200, .inr (.inr (.inr (.inr (fun _ => none)))))) := x_497 _ _ f_469 (fun z => z)
  have f_513 : G_493 q_24 = some (33, .inl (cA 3, 8, .inr (.inr (.inr (.inr (fun _ => none)))))) := x_497 _ _ f_470 (fun z => z)
  have f_514 : G_493 q_50 = some (35, .inr (7, [.ref a_64, .ref a_65, .int (nI 0)])) := x_497 _ _ f_471 (fun z => z)
  have f_515 : G_493 a_64 = some (36, .inl (cA 0, 12, .inl (fun _ => 0))) := x_497 _ _ f_472 (fun z => z)
  have f_516 : G_493 a_65 = some (37, .inl (cA 1, 12, .inr (.inl (fun _ => 0)))) := x_497 _ _ f_473 (fun z => z)
  have f_517 : G_493 q_87 = some (30, .inr (0, [.ref hd, .ref hc, .ref (ad 5), .ref (ad 6), .ref (ad 7), .ref (ad 8), .ref (ad 9), .ref (ad 10)])) := x_497 _ _ f_474 (fun z => z)
  have f_518 : G_493 hd = some (30, .inr (2, [.ref (ad 0), .ref (ad 1), .ref (ad 2)])) := x_497 _ _ f_475 (fun z => z)
  have f_519 : G_493 hc = some (19, .inr (1, [.ref hd, .ref (ad 3), .ref (ad 4), .long l_109, .long l_110, .long l_111, .long l_112])) := x_497 _ _ f_476 (fun z => z)
  have f_520 : G_493 q_137 = some (20, .inr (3, [.int (nI 0), .ref a_158, .ref b_159])) := x_497 _ _ f_477 (fun z => z)
  have f_521 : G_493 q_197 = some (21, .inr (3, [.int (nI 0), .ref a_221, .ref b_222])) := x_497 _ _ f_478 (fun z => z)
  have f_522 : G_493 q_266 = some (22, .inr (3, [.int (nI 0), .ref a_293, .ref b_294])) := x_497 _ _ f_479 (fun z => z)
  have f_523 : G_493 q_344 = some (23, .inr (3, [.int (nI 0), .ref a_374, .ref b_375])) := x_497 _ _ f_480 (fun z => z)
  have f_524 : G_493 h = some (31, .inr (8, [.ref q_1, .int (nI 0), .ref q_24, .int (nI 0), .ref q_50, .ref q_87, .ref q_137, .ref q_197, .ref q_266, .ref q_344, .ref r_434, .null, .null, .null])) := x_497 _ _ f_468 (fun z => z)
  have x_525 : gex (fun x => x = h) G G_493 := gex_tr x_481 x_497 (fun _ _ _ _ z => z)
  have lc_526 : ∀ k, k ≤ 140 → B_494.1 + k ≤ MC := fun k9 h9 => Nat.le_trans (Nat.add_le_add_right b_499 k9) (lim_st lc_463 (show 5 + k9 ≤ 145 from Nat.le_trans (Nat.add_le_add_left h9 _) (by decide)) rfl)
  have ls_527 : ∀ k, k ≤ 1215 → B_494.2 + k ≤ MS := fun k9 h9 => Nat.le_trans (Nat.add_le_add_right b_500 k9) (lim_st ls_464 (show 13 + k9 ≤ 1228 from Nat.le_trans (Nat.add_le_add_left h9 _) (by decide)) rfl)
  refine g_putF (ty := .object "MetreFractions$Fraction") hx hb hts hin_Mf ty_Mf ty_Mf_ok nm_Mf hown hK f_524 rfl 11 (by decide) (hts _ wm246) (fun _ h9 => h9) rfl hin rfl (by decide +kernel) rfl rfl (Nat.le_of_ble_eq_true rfl) d_Mf_init_130 (fun G_528 f_529 o_530 => ?_)
  have f_531 : G_528 h = some (31, .inr (8, [.ref q_1, .int (nI 0), .ref q_24, .int (nI 0), .ref q_50, .ref q_87, .ref q_137, .ref q_197, .ref q_266, .ref q_344, .ref r_434, .ref r_496, .null, .null])) := f_529
  have f_532 : G_528 q_1 = some (32, .inl (cA 2, 200, .inr (.inr (.inr (.inr (fun _ => none)))))) := (o_530 _ (gne f_512 f_524 (fun e => absurd (show (32 : Nat) = 31 from congrArg Prod.fst e) (by decide)))).trans f_512
  have f_533 : G_528 q_24 = some (33, .inl (cA 3, 8, .inr (.inr (.inr (.inr (fun _ => none)))))) := (o_530 _ (gne f_513 f_524 (fun e => absurd (show (33 : Nat) = 31 from congrArg Prod.fst e) (by decide)))).trans f_513
  have f_534 : G_528 q_50 = some (35, .inr (7, [.ref a_64, .ref a_65, .int (nI 0)])) := (o_530 _ (gne f_514 f_524 (fun e => absurd (show (35 : Nat) = 31 from congrArg Prod.fst e) (by decide)))).trans f_514
  have f_535 : G_528 a_64 = some (36, .inl (cA 0, 12, .inl (fun _ => 0))) := (o_530 _ (gne f_515 f_524 (fun e => absurd (show (36 : Nat) = 31 from congrArg Prod.fst e) (by decide)))).trans f_515
  have f_536 : G_528 a_65 = some (37, .inl (cA 1, 12, .inr (.inl (fun _ => 0)))) := (o_530 _ (gne f_516 f_524 (fun e => absurd (show (37 : Nat) = 31 from congrArg Prod.fst e) (by decide)))).trans f_516
  have f_537 : G_528 q_87 = some (30, .inr (0, [.ref hd, .ref hc, .ref (ad 5), .ref (ad 6), .ref (ad 7), .ref (ad 8), .ref (ad 9), .ref (ad 10)])) := (o_530 _ (gne f_517 f_524 (fun e => absurd (show (30 : Nat) = 31 from congrArg Prod.fst e) (by decide)))).trans f_517
  have f_538 : G_528 hd = some (30, .inr (2, [.ref (ad 0), .ref (ad 1), .ref (ad 2)])) := (o_530 _ (gne f_518 f_524 (fun e => absurd (show (30 : Nat) = 31 from congrArg Prod.fst e) (by decide)))).trans f_518
  have f_539 : G_528 hc = some (19, .inr (1, [.ref hd, .ref (ad 3), .ref (ad 4), .long l_109, .long l_110, .long l_111, .long l_112])) := (o_530 _ (gne f_519 f_524 (fun e => absurd (show (19 : Nat) = 31 from congrArg Prod.fst e) (by decide)))).trans f_519
  have f_540 : G_528 q_137 = some (20, .inr (3, [.int (nI 0), .ref a_158, .ref b_159])) := (o_530 _ (gne f_520 f_524 (fun e => absurd (show (20 : Nat) = 31 from congrArg Prod.fst e) (by decide)))).trans f_520
  have f_541 : G_528 q_197 = some (21, .inr (3, [.int (nI 0), .ref a_221, .ref b_222])) := (o_530 _ (gne f_521 f_524 (fun e => absurd (show (21 : Nat) = 31 from congrArg Prod.fst e) (by decide)))).trans f_521
  have f_542 : G_528 q_266 = some (22, .inr (3, [.int (nI 0), .ref a_293, .ref b_294])) := (o_530 _ (gne f_522 f_524 (fun e => absurd (show (22 : Nat) = 31 from congrArg Prod.fst e) (by decide)))).trans f_522
  have f_543 : G_528 q_344 = some (23, .inr (3, [.int (nI 0), .ref a_374, .ref b_375])) := (o_530 _ (gne f_523 f_524 (fun e => absurd (show (23 : Nat) = 31 from congrArg Prod.fst e) (by decide)))).trans f_523
  have x_544 : gex (fun x => x = h) G G_528 := gex_put x_525 o_530 (Or.inl rfl)
  have fr_545 : gfr (fun y => y = 31) G_493 G_528 := gfr_put gfr_rf f_524 rfl o_530
  have n_546 : isN cA G_528 24 11 a_158 0 := isN_fr n_502 fr_545 (show ¬ (11 : Nat) = 31 by decide)
  have n_547 : isN cA G_528 24 12 b_159 0 := isN_fr n_503 fr_545 (show ¬ (12 : Nat) = 31 by decide)
  have n_548 : isN cA G_528 24 13 a_221 0 := isN_fr n_504 fr_545 (show ¬ (13 : Nat) = 31 by decide)
  have n_549 : isN cA G_528 24 14 b_222 0 := isN_fr n_505 fr_545 (show ¬ (14 : Nat) = 31 by decide)
  have n_550 : isN cA G_528 24 15 a_293 0 := isN_fr n_506 fr_545 (show ¬ (15 : Nat) = 31 by decide)
  have n_551 : isN cA G_528 24 16 b_294 0 := isN_fr n_507 fr_545 (show ¬ (16 : Nat) = 31 by decide)
  have n_552 : isN cA G_528 24 17 a_374 0 := isN_fr n_508 fr_545 (show ¬ (17 : Nat) = 31 by decide)
  have n_553 : isN cA G_528 24 18 b_375 0 := isN_fr n_509 fr_545 (show ¬ (18 : Nat) = 31 by decide)
  have n_554 : ∀ t9, t9 < 11 → isN cA G_528 24 t9 (ad t9) 0 := fun t9 h9 => isN_fr (n_510 t9 h9) fr_545 (fun e9 : t9 = 31 => absurd (show (31 : Nat) < 11 from e9 ▸ h9) (by decide))
  have n_555 : rf cA G_528 (fun x => x = 30) r_434 ((0 : Nat) : Int) 1 := rf_fr n_511 fr_545 (fun t9 (h9 : t9 = 30) (e9 : t9 = 31) => absurd (show (30 : Nat) = 31 from h9.symm.trans e9) (by decide))
  have n_556 : rf cA G_528 (fun x => x = 30) r_496 ((4 : Nat) : Int) 1 := rf_fr n_498 fr_545 (fun t9 (h9 : t9 = 30) (e9 : t9 = 31) => absurd (show (30 : Nat) = 31 from h9.symm.trans e9) (by decide))
  refine gs (pc' := 134) (fun _ _ _ _ _ hl => lv_aload_n hx hb d_Mf_init_133 rfl (lv_at hl 0 rfl)) ?_
  refine gs (pc' := 135) (fun _ _ _ _ _ hl => lv_iconst (v := nI 1) hx hb d_Mf_init_134 (by decide)) ?_
  refine gs (pc' := 136) (fun _ _ _ _ _ hl => lv_iconst (v := nI 2) hx hb d_Mf_init_135 (by decide)) ?_
  refine g_outr hlo (g_runS (As := [.int (nI 1), .int (nI 2)]) (rest := [.ref h]) ⟨hx, hb, hml, hown, hts⟩ hK hZ hRc hRs (c_Fr_olt l D cA lo MC MS G_528 B_494 1 2 (by decide) (by decide) (show B_494.1 + 5 ≤ MC from lc_526 5 (by decide)) (show B_494.2 + 13 ≤ MS from ls_527 13 (by decide)) (show B_494.1 ≤ MC from lc_526 0 (by decide)) (show B_494.2 ≤ MS from ls_527 0 (by decide))) (fun _ _ => va_cwS 2 hts (tb_good (tb_cons wm179 (tb_cons wm180 (tb_cons wm8 k_Fr_ofLowestTerms)))) rfl rfl rfl (by decide +kernel) ⟨by rw [hRf]; exact Nat.le_of_ble_eq_true rfl, by rw [hRl]; exact Nat.le_of_ble_eq_true rfl⟩) (show B_494.1 ≤ MC from lc_526 0 (by decide)) (show B_494.2 ≤ MS from ls_527 0 (by decide)) rfl (Nat.le_of_ble_eq_true rfl) d_Mf_init_136) (fun r_560 G_557 B_558 p_559 => ?_)
  obtain ⟨x_561, n_562, b_563, b_564⟩ := p_559
  have b_563 : B_558.1 ≤ B_494.1 + 5 := b_563
  have b_564 : B_558.2 ≤ B_494.2 + 13 := b_564
  have fr_565 : gfr (fun y => y = 1000) G_528 G_557 := fun a9 y9 h9 _ => x_561 a9 y9 h9 (fun z => z)
  have n_566 : isN cA G_557 24 11 a_158 0 := isN_fr n_546 fr_565 (show ¬ (11 : Nat) = 1000 by decide)
  have n_567 : isN cA G_557 24 12 b_159 0 := isN_fr n_547 fr_565 (show ¬ (12 : Nat) = 1000 by decide)
  have n_568 : isN cA G_557 24 13 a_221 0 := isN_fr n_548 fr_565 (show ¬ (13 : Nat) = 1000 by decide)
  have n_569 : isN cA G_557 24 14 b_222 0 := isN_fr n_549 fr_565 (show ¬ (14 : Nat) = 1000 by decide)
  have n_570 : isN cA G_557 24 15 a_293 0 := isN_fr n_550 fr_565 (show ¬ (15 : Nat) = 1000 by decide)
  have n_571 : isN cA G_557 24 16 b_294 0 := isN_fr n_551 fr_565 (show ¬ (16 : Nat) = 1000 by decide)
  have n_572 : isN cA G_557 24 17 a_374 0 := isN_fr n_552 fr_565 (show ¬ (17 : Nat) = 1000 by decide)
  have n_573 : isN cA G_557 24 18 b_375 0 := isN_fr n_553 fr_565 (show ¬ (18 : Nat) = 1000 by decide)
  have n_574 : ∀ t9, t9 < 11 → isN cA G_557 24 t9 (ad t9) 0 := fun t9 h9 => isN_fr (n_554 t9 h9) fr_565 (fun e9 : t9 = 1000 => absurd (show (1000 : Nat) < 11 from e9 ▸ h9) (by decide))
  have n_575 : rf cA G_557 (fun x => x = 30) r_434 ((0 : Nat) : Int) 1 := rf_fr n_555 fr_565 (fun t9 (h9 : t9 = 30) (e9 : t9 = 1000) => absurd (show (30 : Nat) = 1000 from h9.symm.trans e9) (by decide))
  have n_576 : rf cA G_557 (fun x => x = 30) r_496 ((4 : Nat) : Int) 1 := rf_fr n_556 fr_565 (fun t9 (h9 : t9 = 30) (e9 : t9 = 1000) => absurd (show (30 : Nat) = 1000 from h9.symm.trans e9) (by decide))
  have f_577 : G_557 q_1 = some (32, .inl (cA 2, 200, .inr (.inr (.inr (.inr (fun _ => none)))))) := x_561 _ _ f_532 (fun z => z)
  have f_578 : G_557 q_24 = some (33, .inl (cA 3, 8, .inr (.inr (.inr (.inr (fun _ => none)))))) := x_561 _ _ f_533 (fun z => z)
  have f_579 : G_557 q_50 = some (35, .inr (7, [.ref a_64, .ref a_65, .int (nI 0)])) := x_561 _ _ f_534 (fun z => z)
  have f_580 : G_557 a_64 = some (36, .inl (cA 0, 12, .inl (fun _ => 0))) := x_561 _ _ f_535 (fun z => z)
  have f_581 : G_557 a_65 = some (37, .inl (cA 1, 12, .inr (.inl (fun _ => 0)))) := x_561 _ _ f_536 (fun z => z)
  have f_582 : G_557 q_87 = some (30, .inr (0, [.ref hd, .ref hc, .ref (ad 5), .ref (ad 6), .ref (ad 7), .ref (ad 8), .ref (ad 9), .ref (ad 10)])) := x_561 _ _ f_537 (fun z => z)
  have f_583 : G_557 hd = some (30, .inr (2, [.ref (ad 0), .ref (ad 1), .ref (ad 2)])) := x_561 _ _ f_538 (fun z => z)
  have f_584 : G_557 hc = some (19, .inr (1, [.ref hd, .ref (ad 3), .ref (ad 4), .long l_109, .long l_110, .long l_111, .long l_112])) := x_561 _ _ f_539 (fun z => z)
  have f_585 : G_557 q_137 = some (20, .inr (3, [.int (nI 0), .ref a_158, .ref b_159])) := x_561 _ _ f_540 (fun z => z)
  have f_586 : G_557 q_197 = some (21, .inr (3, [.int (nI 0), .ref a_221, .ref b_222])) := x_561 _ _ f_541 (fun z => z)
  have f_587 : G_557 q_266 = some (22, .inr (3, [.int (nI 0), .ref a_293, .ref b_294])) := x_561 _ _ f_542 (fun z => z)
  have f_588 : G_557 q_344 = some (23, .inr (3, [.int (nI 0), .ref a_374, .ref b_375])) := x_561 _ _ f_543 (fun z => z)
  have f_589 : G_557 h = some (31, .inr (8, [.ref q_1, .int (nI 0), .ref q_24, .int (nI 0), .ref q_50, .ref q_87, .ref q_137, .ref q_197, .ref q_266, .ref q_344, .ref r_434, .ref r_496, .null, .null])) := x_561 _ _ f_531 (fun z => z)
  have x_590 : gex (fun x => x = h) G G_557 := gex_tr x_544 x_561 (fun _ _ _ _ z => z)
  have lc_591 : ∀ k, k ≤ 135 → B_558.1 + k ≤ MC := fun k9 h9 => Nat.le_trans (Nat.add_le_add_right b_563 k9) (lim_st lc_526 (show 5 + k9 ≤ 140 from Nat.le_trans (Nat.add_le_add_left h9 _) (by decide)) rfl)
  have ls_592 : ∀ k, k ≤ 1202 → B_558.2 + k ≤ MS := fun k9 h9 => Nat.le_trans (Nat.add_le_add_right b_564 k9) (lim_st ls_527 (show 13 + k9 ≤ 1215 from Nat.le_trans (Nat.add_le_add_left h9 _) (by decide)) rfl)
  refine g_putF (ty := .object "MetreFractions$Fraction") hx hb hts hin_Mf ty_Mf ty_Mf_ok nm_Mf hown hK f_589 rfl 12 (by decide) (hts _ wm247) (fun _ h9 => h9) rfl hin rfl (by decide +kernel) rfl rfl (Nat.le_of_ble_eq_true rfl) d_Mf_init_139 (fun G_593 f_594 o_595 => ?_)
  have f_596 : G_593 h = some (31, .inr (8, [.ref q_1, .int (nI 0), .ref q_24, .int (nI 0), .ref q_50, .ref q_87, .ref q_137, .ref q_197, .ref q_266, .ref q_344, .ref r_434, .ref r_496, .ref r_560, .null])) := f_594
  have f_597 : G_593 q_1 = some (32, .inl (cA 2, 200, .inr (.inr (.inr (.inr (fun _ => none)))))) := (o_595 _ (gne f_577 f_589 (fun e => absurd (show (32 : Nat) = 31 from congrArg Prod.fst e) (by decide)))).trans f_577
  have f_598 : G_593 q_24 = some (33, .inl (cA 3, 8, .inr (.inr (.inr (.inr (fun _ => none)))))) := (o_595 _ (gne f_578 f_589 (fun e => absurd (show (33 : Nat) = 31 from congrArg Prod.fst e) (by decide)))).trans f_578
  have f_599 : G_593 q_50 = some (35, .inr (7, [.ref a_64, .ref a_65, .int (nI 0)])) := (o_595 _ (gne f_579 f_589 (fun e => absurd (show (35 : Nat) = 31 from congrArg Prod.fst e) (by decide)))).trans f_579
  have f_600 : G_593 a_64 = some (36, .inl (cA 0, 12, .inl (fun _ => 0))) := (o_595 _ (gne f_580 f_589 (fun e => absurd (show (36 : Nat) = 31 from congrArg Prod.fst e) (by decide)))).trans f_580
  have f_601 : G_593 a_65 = some (37, .inl (cA 1, 12, .inr (.inl (fun _ => 0)))) := (o_595 _ (gne f_581 f_589 (fun e => absurd (show (37 : Nat) = 31 from congrArg Prod.fst e) (by decide)))).trans f_581
  have f_602 : G_593 q_87 = some (30, .inr (0, [.ref hd, .ref hc, .ref (ad 5), .ref (ad 6), .ref (ad 7), .ref (ad 8), .ref (ad 9), .ref (ad 10)])) := (o_595 _ (gne f_582 f_589 (fun e => absurd (show (30 : Nat) = 31 from congrArg Prod.fst e) (by decide)))).trans f_582
  have f_603 : G_593 hd = some (30, .inr (2, [.ref (ad 0), .ref (ad 1), .ref (ad 2)])) := (o_595 _ (gne f_583 f_589 (fun e => absurd (show (30 : Nat) = 31 from congrArg Prod.fst e) (by decide)))).trans f_583
  have f_604 : G_593 hc = some (19, .inr (1, [.ref hd, .ref (ad 3), .ref (ad 4), .long l_109, .long l_110, .long l_111, .long l_112])) := (o_595 _ (gne f_584 f_589 (fun e => absurd (show (19 : Nat) = 31 from congrArg Prod.fst e) (by decide)))).trans f_584
  have f_605 : G_593 q_137 = some (20, .inr (3, [.int (nI 0), .ref a_158, .ref b_159])) := (o_595 _ (gne f_585 f_589 (fun e => absurd (show (20 : Nat) = 31 from congrArg Prod.fst e) (by decide)))).trans f_585
  have f_606 : G_593 q_197 = some (21, .inr (3, [.int (nI 0), .ref a_221, .ref b_222])) := (o_595 _ (gne f_586 f_589 (fun e => absurd (show (21 : Nat) = 31 from congrArg Prod.fst e) (by decide)))).trans f_586
  have f_607 : G_593 q_266 = some (22, .inr (3, [.int (nI 0), .ref a_293, .ref b_294])) := (o_595 _ (gne f_587 f_589 (fun e => absurd (show (22 : Nat) = 31 from congrArg Prod.fst e) (by decide)))).trans f_587
  have f_608 : G_593 q_344 = some (23, .inr (3, [.int (nI 0), .ref a_374, .ref b_375])) := (o_595 _ (gne f_588 f_589 (fun e => absurd (show (23 : Nat) = 31 from congrArg Prod.fst e) (by decide)))).trans f_588
  have x_609 : gex (fun x => x = h) G G_593 := gex_put x_590 o_595 (Or.inl rfl)
  have fr_610 : gfr (fun y => y = 31) G_557 G_593 := gfr_put gfr_rf f_589 rfl o_595
  have n_611 : isN cA G_593 24 11 a_158 0 := isN_fr n_566 fr_610 (show ¬ (11 : Nat) = 31 by decide)
  have n_612 : isN cA G_593 24 12 b_159 0 := isN_fr n_567 fr_610 (show ¬ (12 : Nat) = 31 by decide)
  have n_613 : isN cA G_593 24 13 a_221 0 := isN_fr n_568 fr_610 (show ¬ (13 : Nat) = 31 by decide)
  have n_614 : isN cA G_593 24 14 b_222 0 := isN_fr n_569 fr_610 (show ¬ (14 : Nat) = 31 by decide)
  have n_615 : isN cA G_593 24 15 a_293 0 := isN_fr n_570 fr_610 (show ¬ (15 : Nat) = 31 by decide)
  have n_616 : isN cA G_593 24 16 b_294 0 := isN_fr n_571 fr_610 (show ¬ (16 : Nat) = 31 by decide)
  have n_617 : isN cA G_593 24 17 a_374 0 := isN_fr n_572 fr_610 (show ¬ (17 : Nat) = 31 by decide)
  have n_618 : isN cA G_593 24 18 b_375 0 := isN_fr n_573 fr_610 (show ¬ (18 : Nat) = 31 by decide)
  have n_619 : ∀ t9, t9 < 11 → isN cA G_593 24 t9 (ad t9) 0 := fun t9 h9 => isN_fr (n_574 t9 h9) fr_610 (fun e9 : t9 = 31 => absurd (show (31 : Nat) < 11 from e9 ▸ h9) (by decide))
  have n_620 : rf cA G_593 (fun x => x = 30) r_434 ((0 : Nat) : Int) 1 := rf_fr n_575 fr_610 (fun t9 (h9 : t9 = 30) (e9 : t9 = 31) => absurd (show (30 : Nat) = 31 from h9.symm.trans e9) (by decide))
  have n_621 : rf cA G_593 (fun x => x = 30) r_496 ((4 : Nat) : Int) 1 := rf_fr n_576 fr_610 (fun t9 (h9 : t9 = 30) (e9 : t9 = 31) => absurd (show (30 : Nat) = 31 from h9.symm.trans e9) (by decide))
  have n_622 : rf cA G_593 (fun x => x = 30) r_560 ((1 : Nat) : Int) 2 := rf_fr n_562 fr_610 (fun t9 (h9 : t9 = 30) (e9 : t9 = 31) => absurd (show (30 : Nat) = 31 from h9.symm.trans e9) (by decide))
  refine gs (pc' := 143) (fun _ _ _ _ _ hl => lv_aload_n hx hb d_Mf_init_142 rfl (lv_at hl 0 rfl)) ?_
  refine gs (pc' := 144) (fun _ _ _ _ _ hl => lv_iconst (v := nI 1) hx hb d_Mf_init_143 (by decide)) ?_
  refine gs (pc' := 146) (fun _ _ _ _ _ hl => lv_bipush (v := nI 6) hx hb d_Mf_init_144 (by decide)) ?_
  refine g_outr hlo (g_runS (As := [.int (nI 1), .int (nI 6)]) (rest := [.ref h]) ⟨hx, hb, hml, hown, hts⟩ hK hZ hRc hRs (c_Fr_olt l D cA lo MC MS G_593 B_558 1 6 (by decide) (by decide) (show B_558.1 + 5 ≤ MC from lc_591 5 (by decide)) (show B_558.2 + 13 ≤ MS from ls_592 13 (by decide)) (show B_558.1 ≤ MC from lc_591 0 (by decide)) (show B_558.2 ≤ MS from ls_592 0 (by decide))) (fun _ _ => va_cwS 2 hts (tb_good (tb_cons wm179 (tb_cons wm180 (tb_cons wm8 k_Fr_ofLowestTerms)))) rfl rfl rfl (by decide +kernel) ⟨by rw [hRf]; exact Nat.le_of_ble_eq_true rfl, by rw [hRl]; exact Nat.le_of_ble_eq_true rfl⟩) (show B_558.1 ≤ MC from lc_591 0 (by decide)) (show B_558.2 ≤ MS from ls_592 0 (by decide)) rfl (Nat.le_of_ble_eq_true rfl) d_Mf_init_146) (fun r_626 G_623 B_624 p_625 => ?_)
  obtain ⟨x_627, n_628, b_629, b_630⟩ := p_625
  have b_629 : B_624.1 ≤ B_558.1 + 5 := b_629
  have b_630 : B_624.2 ≤ B_558.2 + 13 := b_630
  have fr_631 : gfr (fun y => y = 1000) G_593 G_623 := fun a9 y9 h9 _ => x_627 a9 y9 h9 (fun z => z)
  have n_632 : isN cA G_623 24 11 a_158 0 := isN_fr n_611 fr_631 (show ¬ (11 : Nat) = 1000 by decide)
  have n_633 : isN cA G_623 24 12 b_159 0 := isN_fr n_612 fr_631 (show ¬ (12 : Nat) = 1000 by decide)
  have n_634 : isN cA G_623 24 13 a_221 0 := isN_fr n_613 fr_631 (show ¬ (13 : Nat) = 1000 by decide)
  have n_635 : isN cA G_623 24 14 b_222 0 := isN_fr n_614 fr_631 (show ¬ (14 : Nat) = 1000 by decide)
  have n_636 : isN cA G_623 24 15 a_293 0 := isN_fr n_615 fr_631 (show ¬ (15 : Nat) = 1000 by decide)
  have n_637 : isN cA G_623 24 16 b_294 0 := isN_fr n_616 fr_631 (show ¬ (16 : Nat) = 1000 by decide)
  have n_638 : isN cA G_623 24 17 a_374 0 := isN_fr n_617 fr_631 (show ¬ (17 : Nat) = 1000 by decide)
  have n_639 : isN cA G_623 24 18 b_375 0 := isN_fr n_618 fr_631 (show ¬ (18 : Nat) = 1000 by decide)
  have n_640 : ∀ t9, t9 < 11 → isN cA G_623 24 t9 (ad t9) 0 := fun t9 h9 => isN_fr (n_619 t9 h9) fr_631 (fun e9 : t9 = 1000 => absurd (show (1000 : Nat) < 11 from e9 ▸ h9) (by decide))
  have n_641 : rf cA G_623 (fun x => x = 30) r_434 ((0 : Nat) : Int) 1 := rf_fr n_620 fr_631 (fun t9 (h9 : t9 = 30) (e9 : t9 = 1000) => absurd (show (30 : Nat) = 1000 from h9.symm.trans e9) (by decide))
  have n_642 : rf cA G_623 (fun x => x = 30) r_496 ((4 : Nat) : Int) 1 := rf_fr n_621 fr_631 (fun t9 (h9 : t9 = 30) (e9 : t9 = 1000) => absurd (show (30 : Nat) = 1000 from h9.symm.trans e9) (by decide))
  have n_643 : rf cA G_623 (fun x => x = 30) r_560 ((1 : Nat) : Int) 2 := rf_fr n_622 fr_631 (fun t9 (h9 : t9 = 30) (e9 : t9 = 1000) => absurd (show (30 : Nat) = 1000 from h9.symm.trans e9) (by decide))
  have f_644 : G_623 q_1 = some (32, .inl (cA 2, 200, .inr (.inr (.inr (.inr (fun _ => none)))))) := x_627 _ _ f_597 (fun z => z)
  have f_645 : G_623 q_24 = some (33, .inl (cA 3, 8, .inr (.inr (.inr (.inr (fun _ => none)))))) := x_627 _ _ f_598 (fun z => z)
  have f_646 : G_623 q_50 = some (35, .inr (7, [.ref a_64, .ref a_65, .int (nI 0)])) := x_627 _ _ f_599 (fun z => z)
  have f_647 : G_623 a_64 = some (36, .inl (cA 0, 12, .inl (fun _ => 0))) := x_627 _ _ f_600 (fun z => z)
  have f_648 : G_623 a_65 = some (37, .inl (cA 1, 12, .inr (.inl (fun _ => 0)))) := x_627 _ _ f_601 (fun z => z)
  have f_649 : G_623 q_87 = some (30, .inr (0, [.ref hd, .ref hc, .ref (ad 5), .ref (ad 6), .ref (ad 7), .ref (ad 8), .ref (ad 9), .ref (ad 10)])) := x_627 _ _ f_602 (fun z => z)
  have f_650 : G_623 hd = some (30, .inr (2, [.ref (ad 0), .ref (ad 1), .ref (ad 2)])) := x_627 _ _ f_603 (fun z => z)
  have f_651 : G_623 hc = some (19, .inr (1, [.ref hd, .ref (ad 3), .ref (ad 4), .long l_109, .long l_110, .long l_111, .long l_112])) := x_627 _ _ f_604 (fun z => z)
  have f_652 : G_623 q_137 = some (20, .inr (3, [.int (nI 0), .ref a_158, .ref b_159])) := x_627 _ _ f_605 (fun z => z)
  have f_653 : G_623 q_197 = some (21, .inr (3, [.int (nI 0), .ref a_221, .ref b_222])) := x_627 _ _ f_606 (fun z => z)
  have f_654 : G_623 q_266 = some (22, .inr (3, [.int (nI 0), .ref a_293, .ref b_294])) := x_627 _ _ f_607 (fun z => z)
  have f_655 : G_623 q_344 = some (23, .inr (3, [.int (nI 0), .ref a_374, .ref b_375])) := x_627 _ _ f_608 (fun z => z)
  have f_656 : G_623 h = some (31, .inr (8, [.ref q_1, .int (nI 0), .ref q_24, .int (nI 0), .ref q_50, .ref q_87, .ref q_137, .ref q_197, .ref q_266, .ref q_344, .ref r_434, .ref r_496, .ref r_560, .null])) := x_627 _ _ f_596 (fun z => z)
  have x_657 : gex (fun x => x = h) G G_623 := gex_tr x_609 x_627 (fun _ _ _ _ z => z)
  have lc_658 : ∀ k, k ≤ 130 → B_624.1 + k ≤ MC := fun k9 h9 => Nat.le_trans (Nat.add_le_add_right b_629 k9) (lim_st lc_591 (show 5 + k9 ≤ 135 from Nat.le_trans (Nat.add_le_add_left h9 _) (by decide)) rfl)
  have ls_659 : ∀ k, k ≤ 1189 → B_624.2 + k ≤ MS := fun k9 h9 => Nat.le_trans (Nat.add_le_add_right b_630 k9) (lim_st ls_592 (show 13 + k9 ≤ 1202 from Nat.le_trans (Nat.add_le_add_left h9 _) (by decide)) rfl)
  refine g_putF (ty := .object "MetreFractions$Fraction") hx hb hts hin_Mf ty_Mf ty_Mf_ok nm_Mf hown hK f_656 rfl 13 (by decide) (hts _ wm248) (fun _ h9 => h9) rfl hin rfl (by decide +kernel) rfl rfl (Nat.le_of_ble_eq_true rfl) d_Mf_init_149 (fun G_660 f_661 o_662 => ?_)
  have f_663 : G_660 h = some (31, .inr (8, [.ref q_1, .int (nI 0), .ref q_24, .int (nI 0), .ref q_50, .ref q_87, .ref q_137, .ref q_197, .ref q_266, .ref q_344, .ref r_434, .ref r_496, .ref r_560, .ref r_626])) := f_661
  have f_664 : G_660 q_1 = some (32, .inl (cA 2, 200, .inr (.inr (.inr (.inr (fun _ => none)))))) := (o_662 _ (gne f_644 f_656 (fun e => absurd (show (32 : Nat) = 31 from congrArg Prod.fst e) (by decide)))).trans f_644
  have f_665 : G_660 q_24 = some (33, .inl (cA 3, 8, .inr (.inr (.inr (.inr (fun _ => none)))))) := (o_662 _ (gne f_645 f_656 (fun e => absurd (show (33 : Nat) = 31 from congrArg Prod.fst e) (by decide)))).trans f_645
  have f_666 : G_660 q_50 = some (35, .inr (7, [.ref a_64, .ref a_65, .int (nI 0)])) := (o_662 _ (gne f_646 f_656 (fun e => absurd (show (35 : Nat) = 31 from congrArg Prod.fst e) (by decide)))).trans f_646
  have f_667 : G_660 a_64 = some (36, .inl (cA 0, 12, .inl (fun _ => 0))) := (o_662 _ (gne f_647 f_656 (fun e => absurd (show (36 : Nat) = 31 from congrArg Prod.fst e) (by decide)))).trans f_647
  have f_668 : G_660 a_65 = some (37, .inl (cA 1, 12, .inr (.inl (fun _ => 0)))) := (o_662 _ (gne f_648 f_656 (fun e => absurd (show (37 : Nat) = 31 from congrArg Prod.fst e) (by decide)))).trans f_648
  have f_669 : G_660 q_87 = some (30, .inr (0, [.ref hd, .ref hc, .ref (ad 5), .ref (ad 6), .ref (ad 7), .ref (ad 8), .ref (ad 9), .ref (ad 10)])) := (o_662 _ (gne f_649 f_656 (fun e => absurd (show (30 : Nat) = 31 from congrArg Prod.fst e) (by decide)))).trans f_649
  have f_670 : G_660 hd = some (30, .inr (2, [.ref (ad 0), .ref (ad 1), .ref (ad 2)])) := (o_662 _ (gne f_650 f_656 (fun e => absurd (show (30 : Nat) = 31 from congrArg Prod.fst e) (by decide)))).trans f_650
  have f_671 : G_660 hc = some (19, .inr (1, [.ref hd, .ref (ad 3), .ref (ad 4), .long l_109, .long l_110, .long l_111, .long l_112])) := (o_662 _ (gne f_651 f_656 (fun e => absurd (show (19 : Nat) = 31 from congrArg Prod.fst e) (by decide)))).trans f_651
  have f_672 : G_660 q_137 = some (20, .inr (3, [.int (nI 0), .ref a_158, .ref b_159])) := (o_662 _ (gne f_652 f_656 (fun e => absurd (show (20 : Nat) = 31 from congrArg Prod.fst e) (by decide)))).trans f_652
  have f_673 : G_660 q_197 = some (21, .inr (3, [.int (nI 0), .ref a_221, .ref b_222])) := (o_662 _ (gne f_653 f_656 (fun e => absurd (show (21 : Nat) = 31 from congrArg Prod.fst e) (by decide)))).trans f_653
  have f_674 : G_660 q_266 = some (22, .inr (3, [.int (nI 0), .ref a_293, .ref b_294])) := (o_662 _ (gne f_654 f_656 (fun e => absurd (show (22 : Nat) = 31 from congrArg Prod.fst e) (by decide)))).trans f_654
  have f_675 : G_660 q_344 = some (23, .inr (3, [.int (nI 0), .ref a_374, .ref b_375])) := (o_662 _ (gne f_655 f_656 (fun e => absurd (show (23 : Nat) = 31 from congrArg Prod.fst e) (by decide)))).trans f_655
  have x_676 : gex (fun x => x = h) G G_660 := gex_put x_657 o_662 (Or.inl rfl)
  have fr_677 : gfr (fun y => y = 31) G_623 G_660 := gfr_put gfr_rf f_656 rfl o_662
  have n_678 : isN cA G_660 24 11 a_158 0 := isN_fr n_632 fr_677 (show ¬ (11 : Nat) = 31 by decide)
  have n_679 : isN cA G_660 24 12 b_159 0 := isN_fr n_633 fr_677 (show ¬ (12 : Nat) = 31 by decide)
  have n_680 : isN cA G_660 24 13 a_221 0 := isN_fr n_634 fr_677 (show ¬ (13 : Nat) = 31 by decide)
  have n_681 : isN cA G_660 24 14 b_222 0 := isN_fr n_635 fr_677 (show ¬ (14 : Nat) = 31 by decide)
  have n_682 : isN cA G_660 24 15 a_293 0 := isN_fr n_636 fr_677 (show ¬ (15 : Nat) = 31 by decide)
  have n_683 : isN cA G_660 24 16 b_294 0 := isN_fr n_637 fr_677 (show ¬ (16 : Nat) = 31 by decide)
  have n_684 : isN cA G_660 24 17 a_374 0 := isN_fr n_638 fr_677 (show ¬ (17 : Nat) = 31 by decide)
  have n_685 : isN cA G_660 24 18 b_375 0 := isN_fr n_639 fr_677 (show ¬ (18 : Nat) = 31 by decide)
  have n_686 : ∀ t9, t9 < 11 → isN cA G_660 24 t9 (ad t9) 0 := fun t9 h9 => isN_fr (n_640 t9 h9) fr_677 (fun e9 : t9 = 31 => absurd (show (31 : Nat) < 11 from e9 ▸ h9) (by decide))
  have n_687 : rf cA G_660 (fun x => x = 30) r_434 ((0 : Nat) : Int) 1 := rf_fr n_641 fr_677 (fun t9 (h9 : t9 = 30) (e9 : t9 = 31) => absurd (show (30 : Nat) = 31 from h9.symm.trans e9) (by decide))
  have n_688 : rf cA G_660 (fun x => x = 30) r_496 ((4 : Nat) : Int) 1 := rf_fr n_642 fr_677 (fun t9 (h9 : t9 = 30) (e9 : t9 = 31) => absurd (show (30 : Nat) = 31 from h9.symm.trans e9) (by decide))
  have n_689 : rf cA G_660 (fun x => x = 30) r_560 ((1 : Nat) : Int) 2 := rf_fr n_643 fr_677 (fun t9 (h9 : t9 = 30) (e9 : t9 = 31) => absurd (show (30 : Nat) = 31 from h9.symm.trans e9) (by decide))
  have n_690 : rf cA G_660 (fun x => x = 30) r_626 ((1 : Nat) : Int) 6 := rf_fr n_628 fr_677 (fun t9 (h9 : t9 = 30) (e9 : t9 = 31) => absurd (show (30 : Nat) = 31 from h9.symm.trans e9) (by decide))
  refine gs (pc' := 153) (fun _ _ _ _ _ hl => lv_iconst (v := nI 0) hx hb d_Mf_init_152 (by decide)) ?_
  refine gst (pc' := 154) (L' := [(1, .int (nI 0)), (0, .ref h)]) (fun _ _ _ _ _ hl => lv_istore_n hx hb d_Mf_init_153 rfl hl (by decide) rfl) ?_
  refine gs (pc' := 155) (fun _ _ _ _ _ hl => lv_iload_n hx hb d_Mf_init_154 rfl (lv_at hl 0 rfl)) ?_
  refine gs (pc' := 157) (fun _ _ _ _ _ hl => lv_bipush (v := nI 8) hx hb d_Mf_init_155 (by decide)) ?_
  refine gsb (pc1 := 179) (pc2 := 160) (fun _ _ _ _ _ => lv_icmp_ge (tgt := 179) hx hb d_Mf_init_157 (by decide)) (fun c_691 => ?_) (fun c_691 => ?_)
  · skip
    have nc_691 : 0 ≥ 8 := (nn_ge (a := 0) (b := 8) (by omega) (by omega)).1 c_691
    exact absurd nc_691 (by decide)
  · skip
    have nc_691 : 0 < 8 := (nn_ge (a := 0) (b := 8) (by omega) (by omega)).2 c_691
    refine gs (pc' := 161) (fun _ _ _ _ _ hl => lv_aload_n hx hb d_Mf_init_160 rfl (lv_at hl 1 rfl)) ?_
    refine g_get hx hb hts hin_Mf hown hK f_663 rfl 2 (by decide) (hts _ wm237) (fun _ h9 => h9) rfl d_Mf_init_161 ?_
    refine gs (pc' := 165) (fun _ _ _ _ _ hl => lv_iload_n hx hb d_Mf_init_164 rfl (lv_at hl 0 rfl)) ?_
    refine g_new hx hb hts hin_Ro ty_Ro ty_Ro_ok hown (hts _ wm30) (hts _ wm216) (hts _ wm11) hK (ci := 5) rfl (fs := [.null, .null, .int (nI 0)]) (fun j => match j with | 0 => fun _ => rfl | 1 => fun _ => rfl | 2 => fun _ => rfl | n + 3 => fun h9 => absurd h9 (by omega)) hlo hRc hRs (show B_624.1 + 1 ≤ MC from lc_658 1 (by decide)) (show B_624.2 + 3 ≤ MS from ls_659 3 (by decide)) d_Mf_init_165 40 (fun q_692 G_693 z_694 f_695 o_696 => ?_)
    have fr_697 : gfr (fun y => y = 1000) G_660 G_693 := gfr_new gfr_rf z_694 o_696
    have n_698 : isN cA G_693 24 11 a_158 0 := isN_fr n_678 fr_697 (show ¬ (11 : Nat) = 1000 by decide)
    have n_699 : isN cA G_693 24 12 b_159 0 := isN_fr n_679 fr_697 (show ¬ (12 : Nat) = 1000 by decide)
    have n_700 : isN cA G_693 24 13 a_221 0 := isN_fr n_680 fr_697 (show ¬ (13 : Nat) = 1000 by decide)
    have n_701 : isN cA G_693 24 14 b_222 0 := isN_fr n_681 fr_697 (show ¬ (14 : Nat) = 1000 by decide)
    have n_702 : isN cA G_693 24 15 a_293 0 := isN_fr n_682 fr_697 (show ¬ (15 : Nat) = 1000 by decide)
    have n_703 : isN cA G_693 24 16 b_294 0 := isN_fr n_683 fr_697 (show ¬ (16 : Nat) = 1000 by decide)
    have n_704 : isN cA G_693 24 17 a_374 0 := isN_fr n_684 fr_697 (show ¬ (17 : Nat) = 1000 by decide)
    have n_705 : isN cA G_693 24 18 b_375 0 := isN_fr n_685 fr_697 (show ¬ (18 : Nat) = 1000 by decide)
    have n_706 : ∀ t9, t9 < 11 → isN cA G_693 24 t9 (ad t9) 0 := fun t9 h9 => isN_fr (n_686 t9 h9) fr_697 (fun e9 : t9 = 1000 => absurd (show (1000 : Nat) < 11 from e9 ▸ h9) (by decide))
    have n_707 : rf cA G_693 (fun x => x = 30) r_434 ((0 : Nat) : Int) 1 := rf_fr n_687 fr_697 (fun t9 (h9 : t9 = 30) (e9 : t9 = 1000) => absurd (show (30 : Nat) = 1000 from h9.symm.trans e9) (by decide))
    have n_708 : rf cA G_693 (fun x => x = 30) r_496 ((4 : Nat) : Int) 1 := rf_fr n_688 fr_697 (fun t9 (h9 : t9 = 30) (e9 : t9 = 1000) => absurd (show (30 : Nat) = 1000 from h9.symm.trans e9) (by decide))
    have n_709 : rf cA G_693 (fun x => x = 30) r_560 ((1 : Nat) : Int) 2 := rf_fr n_689 fr_697 (fun t9 (h9 : t9 = 30) (e9 : t9 = 1000) => absurd (show (30 : Nat) = 1000 from h9.symm.trans e9) (by decide))
    have n_710 : rf cA G_693 (fun x => x = 30) r_626 ((1 : Nat) : Int) 6 := rf_fr n_690 fr_697 (fun t9 (h9 : t9 = 30) (e9 : t9 = 1000) => absurd (show (30 : Nat) = 1000 from h9.symm.trans e9) (by decide))
    have f_711 : G_693 q_1 = some (32, .inl (cA 2, 200, .inr (.inr (.inr (.inr (fun _ => none)))))) := (o_696 _ (gne0 f_664 z_694)).trans f_664
    have f_712 : G_693 q_24 = some (33, .inl (cA 3, 8, .inr (.inr (.inr (.inr (fun _ => none)))))) := (o_696 _ (gne0 f_665 z_694)).trans f_665
    have f_713 : G_693 q_50 = some (35, .inr (7, [.ref a_64, .ref a_65, .int (nI 0)])) := (o_696 _ (gne0 f_666 z_694)).trans f_666
    have f_714 : G_693 a_64 = some (36, .inl (cA 0, 12, .inl (fun _ => 0))) := (o_696 _ (gne0 f_667 z_694)).trans f_667
    have f_715 : G_693 a_65 = some (37, .inl (cA 1, 12, .inr (.inl (fun _ => 0)))) := (o_696 _ (gne0 f_668 z_694)).trans f_668
    have f_716 : G_693 q_87 = some (30, .inr (0, [.ref hd, .ref hc, .ref (ad 5), .ref (ad 6), .ref (ad 7), .ref (ad 8), .ref (ad 9), .ref (ad 10)])) := (o_696 _ (gne0 f_669 z_694)).trans f_669
    have f_717 : G_693 hd = some (30, .inr (2, [.ref (ad 0), .ref (ad 1), .ref (ad 2)])) := (o_696 _ (gne0 f_670 z_694)).trans f_670
    have f_718 : G_693 hc = some (19, .inr (1, [.ref hd, .ref (ad 3), .ref (ad 4), .long l_109, .long l_110, .long l_111, .long l_112])) := (o_696 _ (gne0 f_671 z_694)).trans f_671
    have f_719 : G_693 q_137 = some (20, .inr (3, [.int (nI 0), .ref a_158, .ref b_159])) := (o_696 _ (gne0 f_672 z_694)).trans f_672
    have f_720 : G_693 q_197 = some (21, .inr (3, [.int (nI 0), .ref a_221, .ref b_222])) := (o_696 _ (gne0 f_673 z_694)).trans f_673
    have f_721 : G_693 q_266 = some (22, .inr (3, [.int (nI 0), .ref a_293, .ref b_294])) := (o_696 _ (gne0 f_674 z_694)).trans f_674
    have f_722 : G_693 q_344 = some (23, .inr (3, [.int (nI 0), .ref a_374, .ref b_375])) := (o_696 _ (gne0 f_675 z_694)).trans f_675
    have f_723 : G_693 h = some (31, .inr (8, [.ref q_1, .int (nI 0), .ref q_24, .int (nI 0), .ref q_50, .ref q_87, .ref q_137, .ref q_197, .ref q_266, .ref q_344, .ref r_434, .ref r_496, .ref r_560, .ref r_626])) := (o_696 _ (gne0 f_663 z_694)).trans f_663
    have z_724 : G q_692 = none := gex_0 x_676 z_694 (fun z => by have z := z.symm; subst z; rw [f_663] at z_694; cases z_694)
    have x_725 : gex (fun x => x = h) G G_693 := gex_new x_676 z_694 o_696
    refine g_Beq (B' := (B_624.1 + 1, B_624.2 + 3)) rfl ?_
    refine gs (pc' := 169) (fun _ _ _ _ _ hl => lv_dup hx hb d_Mf_init_168 rfl) ?_
    obtain ⟨⟨hN1, hN2, hN3, hN4, -, -, -⟩, -⟩ := id hZ
    refine g_outv hlo (g_runIN (b := q_692) (As := []) (rest := [.ref q_692, .int (nI 0), .ref q_24]) ⟨hx, hb, hml, hown, hts⟩ hK hZ hRc hRs (c_Ro_init l D cA lo MC MS G_693 (B_624.1 + 1, B_624.2 + 3) 40 50 60 q_692 (by decide) (by decide) (by decide) f_695 (show B_624.1 + 1 + 2 ≤ MC from lc_658 3 (by decide)) (show B_624.2 + 3 + 32 ≤ MS from ls_659 35 (by decide)) (show B_624.1 + 1 ≤ MC from lc_658 1 (by decide)) (show B_624.2 + 3 ≤ MS from ls_659 3 (by decide))) (fun _ _ => ⟨va_cnB 0 hts (tb_good k_Ro_init) rfl rfl rfl hN4 (hts _ wm11) (by decide +kernel) ⟨by rw [hRf]; exact Nat.le_of_ble_eq_true rfl, by rw [hRl]; exact Nat.le_of_ble_eq_true rfl⟩, rfl, hts _ wm218⟩) (show B_624.1 + 1 ≤ MC from lc_658 1 (by decide)) (show B_624.2 + 3 ≤ MS from ls_659 3 (by decide)) rfl (Nat.le_of_ble_eq_true rfl) d_Mf_init_169) (fun G_726 B_727 p_728 => ?_)
    obtain ⟨a_729, a_730, f_731, f_732, f_733, x_734, e_735⟩ := p_728
    have fr_736 : gfr (fun y => y = 40) G_693 G_726 := gfr_gex x_734 f_695
    have n_737 : isN cA G_726 24 11 a_158 0 := isN_fr n_698 fr_736 (show ¬ (11 : Nat) = 40 by decide)
    have n_738 : isN cA G_726 24 12 b_159 0 := isN_fr n_699 fr_736 (show ¬ (12 : Nat) = 40 by decide)
    have n_739 : isN cA G_726 24 13 a_221 0 := isN_fr n_700 fr_736 (show ¬ (13 : Nat) = 40 by decide)
    have n_740 : isN cA G_726 24 14 b_222 0 := isN_fr n_701 fr_736 (show ¬ (14 : Nat) = 40 by decide)
    have n_741 : isN cA G_726 24 15 a_293 0 := isN_fr n_702 fr_736 (show ¬ (15 : Nat) = 40 by decide)
    have n_742 : isN cA G_726 24 16 b_294 0 := isN_fr n_703 fr_736 (show ¬ (16 : Nat) = 40 by decide)
    have n_743 : isN cA G_726 24 17 a_374 0 := isN_fr n_704 fr_736 (show ¬ (17 : Nat) = 40 by decide)
    have n_744 : isN cA G_726 24 18 b_375 0 := isN_fr n_705 fr_736 (show ¬ (18 : Nat) = 40 by decide)
    have n_745 : ∀ t9, t9 < 11 → isN cA G_726 24 t9 (ad t9) 0 := fun t9 h9 => isN_fr (n_706 t9 h9) fr_736 (fun e9 : t9 = 40 => absurd (show (40 : Nat) < 11 from e9 ▸ h9) (by decide))
    have n_746 : rf cA G_726 (fun x => x = 30) r_434 ((0 : Nat) : Int) 1 := rf_fr n_707 fr_736 (fun t9 (h9 : t9 = 30) (e9 : t9 = 40) => absurd (show (30 : Nat) = 40 from h9.symm.trans e9) (by decide))
    have n_747 : rf cA G_726 (fun x => x = 30) r_496 ((4 : Nat) : Int) 1 := rf_fr n_708 fr_736 (fun t9 (h9 : t9 = 30) (e9 : t9 = 40) => absurd (show (30 : Nat) = 40 from h9.symm.trans e9) (by decide))
    have n_748 : rf cA G_726 (fun x => x = 30) r_560 ((1 : Nat) : Int) 2 := rf_fr n_709 fr_736 (fun t9 (h9 : t9 = 30) (e9 : t9 = 40) => absurd (show (30 : Nat) = 40 from h9.symm.trans e9) (by decide))
    have n_749 : rf cA G_726 (fun x => x = 30) r_626 ((1 : Nat) : Int) 6 := rf_fr n_710 fr_736 (fun t9 (h9 : t9 = 30) (e9 : t9 = 40) => absurd (show (30 : Nat) = 40 from h9.symm.trans e9) (by decide))
    have e_735 : B_727 = (B_624.1 + 1 + 1 + 1, B_624.2 + 3 + 16 + 16) := e_735
    subst e_735
    have f_750 : G_726 q_1 = some (32, .inl (cA 2, 200, .inr (.inr (.inr (.inr (fun _ => none)))))) := x_734 _ _ f_711 (gne f_711 f_695 (fun e => absurd (show (32 : Nat) = 40 from congrArg Prod.fst e) (by decide)))
    have f_751 : G_726 q_24 = some (33, .inl (cA 3, 8, .inr (.inr (.inr (.inr (fun _ => none)))))) := x_734 _ _ f_712 (gne f_712 f_695 (fun e => absurd (show (33 : Nat) = 40 from congrArg Prod.fst e) (by decide)))
    have f_752 : G_726 q_50 = some (35, .inr (7, [.ref a_64, .ref a_65, .int (nI 0)])) := x_734 _ _ f_713 (gne f_713 f_695 (fun e => absurd (show (35 : Nat) = 40 from congrArg Prod.fst e) (by decide)))
    have f_753 : G_726 a_64 = some (36, .inl (cA 0, 12, .inl (fun _ => 0))) := x_734 _ _ f_714 (gne f_714 f_695 (fun e => absurd (show (36 : Nat) = 40 from congrArg Prod.fst e) (by decide)))
    have f_754 : G_726 a_65 = some (37, .inl (cA 1, 12, .inr (.inl (fun _ => 0)))) := x_734 _ _ f_715 (gne f_715 f_695 (fun e => absurd (show (37 : Nat) = 40 from congrArg Prod.fst e) (by decide)))
    have f_755 : G_726 q_87 = some (30, .inr (0, [.ref hd, .ref hc, .ref (ad 5), .ref (ad 6), .ref (ad 7), .ref (ad 8), .ref (ad 9), .ref (ad 10)])) := x_734 _ _ f_716 (gne f_716 f_695 (fun e => absurd (show (30 : Nat) = 40 from congrArg Prod.fst e) (by decide)))
    have f_756 : G_726 hd = some (30, .inr (2, [.ref (ad 0), .ref (ad 1), .ref (ad 2)])) := x_734 _ _ f_717 (gne f_717 f_695 (fun e => absurd (show (30 : Nat) = 40 from congrArg Prod.fst e) (by decide)))
    have f_757 : G_726 hc = some (19, .inr (1, [.ref hd, .ref (ad 3), .ref (ad 4), .long l_109, .long l_110, .long l_111, .long l_112])) := x_734 _ _ f_718 (gne f_718 f_695 (fun e => absurd (show (19 : Nat) = 40 from congrArg Prod.fst e) (by decide)))
    have f_758 : G_726 q_137 = some (20, .inr (3, [.int (nI 0), .ref a_158, .ref b_159])) := x_734 _ _ f_719 (gne f_719 f_695 (fun e => absurd (show (20 : Nat) = 40 from congrArg Prod.fst e) (by decide)))
    have f_759 : G_726 q_197 = some (21, .inr (3, [.int (nI 0), .ref a_221, .ref b_222])) := x_734 _ _ f_720 (gne f_720 f_695 (fun e => absurd (show (21 : Nat) = 40 from congrArg Prod.fst e) (by decide)))
    have f_760 : G_726 q_266 = some (22, .inr (3, [.int (nI 0), .ref a_293, .ref b_294])) := x_734 _ _ f_721 (gne f_721 f_695 (fun e => absurd (show (22 : Nat) = 40 from congrArg Prod.fst e) (by decide)))
    have f_761 : G_726 q_344 = some (23, .inr (3, [.int (nI 0), .ref a_374, .ref b_375])) := x_734 _ _ f_722 (gne f_722 f_695 (fun e => absurd (show (23 : Nat) = 40 from congrArg Prod.fst e) (by decide)))
    have f_762 : G_726 h = some (31, .inr (8, [.ref q_1, .int (nI 0), .ref q_24, .int (nI 0), .ref q_50, .ref q_87, .ref q_137, .ref q_197, .ref q_266, .ref q_344, .ref r_434, .ref r_496, .ref r_560, .ref r_626])) := x_734 _ _ f_723 (gne f_723 f_695 (fun e => absurd (show (31 : Nat) = 40 from congrArg Prod.fst e) (by decide)))
    have x_763 : gex (fun x => x = h) G G_726 := gex_tr x_725 x_734 (fun x y hx9 _ e => by subst e; rw [z_724] at hx9; cases hx9)
    refine g_aast hx hb hK 3 5 f_751 rfl f_731 rfl (show vp_in (nI 0) 8 from vp_in_nI (by omega) (by omega)) d_Mf_init_172 (fun G_764 f_765 o_766 => ?_)
    rw [nI_clamp (by omega)] at f_765
    have f_767 : G_764 q_1 = some (32, .inl (cA 2, 200, .inr (.inr (.inr (.inr (fun _ => none)))))) := (o_766 _ (gne f_750 f_751 (fun e => absurd (show (32 : Nat) = 33 from congrArg Prod.fst e) (by decide)))).trans f_750
    have f_768 : G_764 q_50 = some (35, .inr (7, [.ref a_64, .ref a_65, .int (nI 0)])) := (o_766 _ (gne f_752 f_751 (fun e => absurd (show (35 : Nat) = 33 from congrArg Prod.fst e) (by decide)))).trans f_752
    have f_769 : G_764 a_64 = some (36, .inl (cA 0, 12, .inl (fun _ => 0))) := (o_766 _ (gne f_753 f_751 (fun e => absurd (show (36 : Nat) = 33 from congrArg Prod.fst e) (by decide)))).trans f_753
    have f_770 : G_764 a_65 = some (37, .inl (cA 1, 12, .inr (.inl (fun _ => 0)))) := (o_766 _ (gne f_754 f_751 (fun e => absurd (show (37 : Nat) = 33 from congrArg Prod.fst e) (by decide)))).trans f_754
    have f_771 : G_764 q_87 = some (30, .inr (0, [.ref hd, .ref hc, .ref (ad 5), .ref (ad 6), .ref (ad 7), .ref (ad 8), .ref (ad 9), .ref (ad 10)])) := (o_766 _ (gne f_755 f_751 (fun e => absurd (show (30 : Nat) = 33 from congrArg Prod.fst e) (by decide)))).trans f_755
    have f_772 : G_764 hd = some (30, .inr (2, [.ref (ad 0), .ref (ad 1), .ref (ad 2)])) := (o_766 _ (gne f_756 f_751 (fun e => absurd (show (30 : Nat) = 33 from congrArg Prod.fst e) (by decide)))).trans f_756
    have f_773 : G_764 hc = some (19, .inr (1, [.ref hd, .ref (ad 3), .ref (ad 4), .long l_109, .long l_110, .long l_111, .long l_112])) := (o_766 _ (gne f_757 f_751 (fun e => absurd (show (19 : Nat) = 33 from congrArg Prod.fst e) (by decide)))).trans f_757
    have f_774 : G_764 q_137 = some (20, .inr (3, [.int (nI 0), .ref a_158, .ref b_159])) := (o_766 _ (gne f_758 f_751 (fun e => absurd (show (20 : Nat) = 33 from congrArg Prod.fst e) (by decide)))).trans f_758
    have f_775 : G_764 q_197 = some (21, .inr (3, [.int (nI 0), .ref a_221, .ref b_222])) := (o_766 _ (gne f_759 f_751 (fun e => absurd (show (21 : Nat) = 33 from congrArg Prod.fst e) (by decide)))).trans f_759
    have f_776 : G_764 q_266 = some (22, .inr (3, [.int (nI 0), .ref a_293, .ref b_294])) := (o_766 _ (gne f_760 f_751 (fun e => absurd (show (22 : Nat) = 33 from congrArg Prod.fst e) (by decide)))).trans f_760
    have f_777 : G_764 q_344 = some (23, .inr (3, [.int (nI 0), .ref a_374, .ref b_375])) := (o_766 _ (gne f_761 f_751 (fun e => absurd (show (23 : Nat) = 33 from congrArg Prod.fst e) (by decide)))).trans f_761
    have f_778 : G_764 h = some (31, .inr (8, [.ref q_1, .int (nI 0), .ref q_24, .int (nI 0), .ref q_50, .ref q_87, .ref q_137, .ref q_197, .ref q_266, .ref q_344, .ref r_434, .ref r_496, .ref r_560, .ref r_626])) := (o_766 _ (gne f_762 f_751 (fun e => absurd (show (31 : Nat) = 33 from congrArg Prod.fst e) (by decide)))).trans f_762
    have f_779 : G_764 q_692 = some (40, .inr (5, [.ref a_729, .ref a_730, .int (nI 0)])) := (o_766 _ (gne f_731 f_751 (fun e => absurd (show (40 : Nat) = 33 from congrArg Prod.fst e) (by decide)))).trans f_731
    have f_780 : G_764 a_729 = some (50, .inl (cA 2, 16, .inr (.inr (.inr (.inr (fun _ => none)))))) := (o_766 _ (gne f_732 f_751 (fun e => absurd (show (50 : Nat) = 33 from congrArg Prod.fst e) (by decide)))).trans f_732
    have f_781 : G_764 a_730 = some (60, .inl (cA 2, 16, .inr (.inr (.inr (.inr (fun _ => none)))))) := (o_766 _ (gne f_733 f_751 (fun e => absurd (show (60 : Nat) = 33 from congrArg Prod.fst e) (by decide)))).trans f_733
    have x_782 : gex (fun x => x = h) G G_764 := gex_put x_763 o_766 (Or.inr z_32)
    have fr_783 : gfr (fun y => y = 33) G_726 G_764 := gfr_put gfr_rf f_751 rfl o_766
    have n_784 : isN cA G_764 24 11 a_158 0 := isN_fr n_737 fr_783 (show ¬ (11 : Nat) = 33 by decide)
    have n_785 : isN cA G_764 24 12 b_159 0 := isN_fr n_738 fr_783 (show ¬ (12 : Nat) = 33 by decide)
    have n_786 : isN cA G_764 24 13 a_221 0 := isN_fr n_739 fr_783 (show ¬ (13 : Nat) = 33 by decide)
    have n_787 : isN cA G_764 24 14 b_222 0 := isN_fr n_740 fr_783 (show ¬ (14 : Nat) = 33 by decide)
    have n_788 : isN cA G_764 24 15 a_293 0 := isN_fr n_741 fr_783 (show ¬ (15 : Nat) = 33 by decide)
    have n_789 : isN cA G_764 24 16 b_294 0 := isN_fr n_742 fr_783 (show ¬ (16 : Nat) = 33 by decide)
    have n_790 : isN cA G_764 24 17 a_374 0 := isN_fr n_743 fr_783 (show ¬ (17 : Nat) = 33 by decide)
    have n_791 : isN cA G_764 24 18 b_375 0 := isN_fr n_744 fr_783 (show ¬ (18 : Nat) = 33 by decide)
    have n_792 : ∀ t9, t9 < 11 → isN cA G_764 24 t9 (ad t9) 0 := fun t9 h9 => isN_fr (n_745 t9 h9) fr_783 (fun e9 : t9 = 33 => absurd (show (33 : Nat) < 11 from e9 ▸ h9) (by decide))
    have n_793 : rf cA G_764 (fun x => x = 30) r_434 ((0 : Nat) : Int) 1 := rf_fr n_746 fr_783 (fun t9 (h9 : t9 = 30) (e9 : t9 = 33) => absurd (show (30 : Nat) = 33 from h9.symm.trans e9) (by decide))
    have n_794 : rf cA G_764 (fun x => x = 30) r_496 ((4 : Nat) : Int) 1 := rf_fr n_747 fr_783 (fun t9 (h9 : t9 = 30) (e9 : t9 = 33) => absurd (show (30 : Nat) = 33 from h9.symm.trans e9) (by decide))
    have n_795 : rf cA G_764 (fun x => x = 30) r_560 ((1 : Nat) : Int) 2 := rf_fr n_748 fr_783 (fun t9 (h9 : t9 = 30) (e9 : t9 = 33) => absurd (show (30 : Nat) = 33 from h9.symm.trans e9) (by decide))
    have n_796 : rf cA G_764 (fun x => x = 30) r_626 ((1 : Nat) : Int) 6 := rf_fr n_749 fr_783 (fun t9 (h9 : t9 = 30) (e9 : t9 = 33) => absurd (show (30 : Nat) = 33 from h9.symm.trans e9) (by decide))
    refine gst (pc' := 176) (L' := [(1, .int (nI 1)), (0, .ref h)]) (fun _ _ _ _ _ hl => lv_iinc (v := nI 1) hx hb d_Mf_init_173 hl (k := 0) rfl (by decide) (by decide) rfl) ?_
    refine gs (pc' := 154) (fun _ _ _ _ _ hl => lv_goto (tgt := 154) hx hb d_Mf_init_176 (by decide)) ?_
    refine gs (pc' := 155) (fun _ _ _ _ _ hl => lv_iload_n hx hb d_Mf_init_154 rfl (lv_at hl 0 rfl)) ?_
    refine gs (pc' := 157) (fun _ _ _ _ _ hl => lv_bipush (v := nI 8) hx hb d_Mf_init_155 (by decide)) ?_
    refine gsb (pc1 := 179) (pc2 := 160) (fun _ _ _ _ _ => lv_icmp_ge (tgt := 179) hx hb d_Mf_init_157 (by decide)) (fun c_797 => ?_) (fun c_797 => ?_)
    · skip
      have nc_797 : 1 ≥ 8 := (nn_ge (a := 1) (b := 8) (by omega) (by omega)).1 c_797
      exact absurd nc_797 (by decide)
    · skip
      have nc_797 : 1 < 8 := (nn_ge (a := 1) (b := 8) (by omega) (by omega)).2 c_797
      refine gs (pc' := 161) (fun _ _ _ _ _ hl => lv_aload_n hx hb d_Mf_init_160 rfl (lv_at hl 1 rfl)) ?_
      refine g_get hx hb hts hin_Mf hown hK f_778 rfl 2 (by decide) (hts _ wm237) (fun _ h9 => h9) rfl d_Mf_init_161 ?_
      refine gs (pc' := 165) (fun _ _ _ _ _ hl => lv_iload_n hx hb d_Mf_init_164 rfl (lv_at hl 0 rfl)) ?_
      refine g_new hx hb hts hin_Ro ty_Ro ty_Ro_ok hown (hts _ wm30) (hts _ wm216) (hts _ wm11) hK (ci := 5) rfl (fs := [.null, .null, .int (nI 0)]) (fun j => match j with | 0 => fun _ => rfl | 1 => fun _ => rfl | 2 => fun _ => rfl | n + 3 => fun h9 => absurd h9 (by omega)) hlo hRc hRs (show B_624.1 + 1 + 1 + 1 + 1 ≤ MC from lc_658 4 (by decide)) (show B_624.2 + 3 + 16 + 16 + 3 ≤ MS from ls_659 38 (by decide)) d_Mf_init_165 41 (fun q_798 G_799 z_800 f_801 o_802 => ?_)
      have fr_803 : gfr (fun y => y = 1000) G_764 G_799 := gfr_new gfr_rf z_800 o_802
      have n_804 : isN cA G_799 24 11 a_158 0 := isN_fr n_784 fr_803 (show ¬ (11 : Nat) = 1000 by decide)
      have n_805 : isN cA G_799 24 12 b_159 0 := isN_fr n_785 fr_803 (show ¬ (12 : Nat) = 1000 by decide)
      have n_806 : isN cA G_799 24 13 a_221 0 := isN_fr n_786 fr_803 (show ¬ (13 : Nat) = 1000 by decide)
      have n_807 : isN cA G_799 24 14 b_222 0 := isN_fr n_787 fr_803 (show ¬ (14 : Nat) = 1000 by decide)
      have n_808 : isN cA G_799 24 15 a_293 0 := isN_fr n_788 fr_803 (show ¬ (15 : Nat) = 1000 by decide)
      have n_809 : isN cA G_799 24 16 b_294 0 := isN_fr n_789 fr_803 (show ¬ (16 : Nat) = 1000 by decide)
      have n_810 : isN cA G_799 24 17 a_374 0 := isN_fr n_790 fr_803 (show ¬ (17 : Nat) = 1000 by decide)
      have n_811 : isN cA G_799 24 18 b_375 0 := isN_fr n_791 fr_803 (show ¬ (18 : Nat) = 1000 by decide)
      have n_812 : ∀ t9, t9 < 11 → isN cA G_799 24 t9 (ad t9) 0 := fun t9 h9 => isN_fr (n_792 t9 h9) fr_803 (fun e9 : t9 = 1000 => absurd (show (1000 : Nat) < 11 from e9 ▸ h9) (by decide))
      have n_813 : rf cA G_799 (fun x => x = 30) r_434 ((0 : Nat) : Int) 1 := rf_fr n_793 fr_803 (fun t9 (h9 : t9 = 30) (e9 : t9 = 1000) => absurd (show (30 : Nat) = 1000 from h9.symm.trans e9) (by decide))
      have n_814 : rf cA G_799 (fun x => x = 30) r_496 ((4 : Nat) : Int) 1 := rf_fr n_794 fr_803 (fun t9 (h9 : t9 = 30) (e9 : t9 = 1000) => absurd (show (30 : Nat) = 1000 from h9.symm.trans e9) (by decide))
      have n_815 : rf cA G_799 (fun x => x = 30) r_560 ((1 : Nat) : Int) 2 := rf_fr n_795 fr_803 (fun t9 (h9 : t9 = 30) (e9 : t9 = 1000) => absurd (show (30 : Nat) = 1000 from h9.symm.trans e9) (by decide))
      have n_816 : rf cA G_799 (fun x => x = 30) r_626 ((1 : Nat) : Int) 6 := rf_fr n_796 fr_803 (fun t9 (h9 : t9 = 30) (e9 : t9 = 1000) => absurd (show (30 : Nat) = 1000 from h9.symm.trans e9) (by decide))
      have f_817 : G_799 q_1 = some (32, .inl (cA 2, 200, .inr (.inr (.inr (.inr (fun _ => none)))))) := (o_802 _ (gne0 f_767 z_800)).trans f_767
      have f_818 : G_799 q_50 = some (35, .inr (7, [.ref a_64, .ref a_65, .int (nI 0)])) := (o_802 _ (gne0 f_768 z_800)).trans f_768
      have f_819 : G_799 a_64 = some (36, .inl (cA 0, 12, .inl (fun _ => 0))) := (o_802 _ (gne0 f_769 z_800)).trans f_769
      have f_820 : G_799 a_65 = some (37, .inl (cA 1, 12, .inr (.inl (fun _ => 0)))) := (o_802 _ (gne0 f_770 z_800)).trans f_770
      have f_821 : G_799 q_87 = some (30, .inr (0, [.ref hd, .ref hc, .ref (ad 5), .ref (ad 6), .ref (ad 7), .ref (ad 8), .ref (ad 9), .ref (ad 10)])) := (o_802 _ (gne0 f_771 z_800)).trans f_771
      have f_822 : G_799 hd = some (30, .inr (2, [.ref (ad 0), .ref (ad 1), .ref (ad 2)])) := (o_802 _ (gne0 f_772 z_800)).trans f_772
      have f_823 : G_799 hc = some (19, .inr (1, [.ref hd, .ref (ad 3), .ref (ad 4), .long l_109, .long l_110, .long l_111, .long l_112])) := (o_802 _ (gne0 f_773 z_800)).trans f_773
      have f_824 : G_799 q_137 = some (20, .inr (3, [.int (nI 0), .ref a_158, .ref b_159])) := (o_802 _ (gne0 f_774 z_800)).trans f_774
      have f_825 : G_799 q_197 = some (21, .inr (3, [.int (nI 0), .ref a_221, .ref b_222])) := (o_802 _ (gne0 f_775 z_800)).trans f_775
      have f_826 : G_799 q_266 = some (22, .inr (3, [.int (nI 0), .ref a_293, .ref b_294])) := (o_802 _ (gne0 f_776 z_800)).trans f_776
      have f_827 : G_799 q_344 = some (23, .inr (3, [.int (nI 0), .ref a_374, .ref b_375])) := (o_802 _ (gne0 f_777 z_800)).trans f_777
      have f_828 : G_799 h = some (31, .inr (8, [.ref q_1, .int (nI 0), .ref q_24, .int (nI 0), .ref q_50, .ref q_87, .ref q_137, .ref q_197, .ref q_266, .ref q_344, .ref r_434, .ref r_496, .ref r_560, .ref r_626])) := (o_802 _ (gne0 f_778 z_800)).trans f_778
      have f_829 : G_799 q_692 = some (40, .inr (5, [.ref a_729, .ref a_730, .int (nI 0)])) := (o_802 _ (gne0 f_779 z_800)).trans f_779
      have f_830 : G_799 a_729 = some (50, .inl (cA 2, 16, .inr (.inr (.inr (.inr (fun _ => none)))))) := (o_802 _ (gne0 f_780 z_800)).trans f_780
      have f_831 : G_799 a_730 = some (60, .inl (cA 2, 16, .inr (.inr (.inr (.inr (fun _ => none)))))) := (o_802 _ (gne0 f_781 z_800)).trans f_781
      have f_832 : G_799 q_24 = some (33, .inl (cA 3, 8, .inr (.inr (.inr (.inr (va_up (fun _ => none) 0 (some q_692))))))) := (o_802 _ (gne0 f_765 z_800)).trans f_765
      have z_833 : G q_798 = none := gex_0 x_782 z_800 (fun z => by have z := z.symm; subst z; rw [f_778] at z_800; cases z_800)
      have x_834 : gex (fun x => x = h) G G_799 := gex_new x_782 z_800 o_802
      refine g_Beq (B' := (B_624.1 + 1 + 1 + 1 + 1, B_624.2 + 3 + 16 + 16 + 3)) rfl ?_
      refine gs (pc' := 169) (fun _ _ _ _ _ hl => lv_dup hx hb d_Mf_init_168 rfl) ?_
      obtain ⟨⟨hN1, hN2, hN3, hN4, -, -, -⟩, -⟩ := id hZ
      refine g_outv hlo (g_runIN (b := q_798) (As := []) (rest := [.ref q_798, .int (nI 1), .ref q_24]) ⟨hx, hb, hml, hown, hts⟩ hK hZ hRc hRs (c_Ro_init l D cA lo MC MS G_799 (B_624.1 + 1 + 1 + 1 + 1, B_624.2 + 3 + 16 + 16 + 3) 41 51 61 q_798 (by decide) (by decide) (by decide) f_801 (show B_624.1 + 1 + 1 + 1 + 1 + 2 ≤ MC from lc_658 6 (by decide)) (show B_624.2 + 3 + 16 + 16 + 3 + 32 ≤ MS from ls_659 70 (by decide)) (show B_624.1 + 1 + 1 + 1 + 1 ≤ MC from lc_658 4 (by decide)) (show B_624.2 + 3 + 16 + 16 + 3 ≤ MS from ls_659 38 (by decide))) (fun _ _ => ⟨va_cnB 0 hts (tb_good k_Ro_init) rfl rfl rfl hN4 (hts _ wm11) (by decide +kernel) ⟨by rw [hRf]; exact Nat.le_of_ble_eq_true rfl, by rw [hRl]; exact Nat.le_of_ble_eq_true rfl⟩, rfl, hts _ wm218⟩) (show B_624.1 + 1 + 1 + 1 + 1 ≤ MC from lc_658 4 (by decide)) (show B_624.2 + 3 + 16 + 16 + 3 ≤ MS from ls_659 38 (by decide)) rfl (Nat.le_of_ble_eq_true rfl) d_Mf_init_169) (fun G_835 B_836 p_837 => ?_)
      obtain ⟨a_838, a_839, f_840, f_841, f_842, x_843, e_844⟩ := p_837
      have fr_845 : gfr (fun y => y = 41) G_799 G_835 := gfr_gex x_843 f_801
      have n_846 : isN cA G_835 24 11 a_158 0 := isN_fr n_804 fr_845 (show ¬ (11 : Nat) = 41 by decide)
      have n_847 : isN cA G_835 24 12 b_159 0 := isN_fr n_805 fr_845 (show ¬ (12 : Nat) = 41 by decide)
      have n_848 : isN cA G_835 24 13 a_221 0 := isN_fr n_806 fr_845 (show ¬ (13 : Nat) = 41 by decide)
      have n_849 : isN cA G_835 24 14 b_222 0 := isN_fr n_807 fr_845 (show ¬ (14 : Nat) = 41 by decide)
      have n_850 : isN cA G_835 24 15 a_293 0 := isN_fr n_808 fr_845 (show ¬ (15 : Nat) = 41 by decide)
      have n_851 : isN cA G_835 24 16 b_294 0 := isN_fr n_809 fr_845 (show ¬ (16 : Nat) = 41 by decide)
      have n_852 : isN cA G_835 24 17 a_374 0 := isN_fr n_810 fr_845 (show ¬ (17 : Nat) = 41 by decide)
      have n_853 : isN cA G_835 24 18 b_375 0 := isN_fr n_811 fr_845 (show ¬ (18 : Nat) = 41 by decide)
      have n_854 : ∀ t9, t9 < 11 → isN cA G_835 24 t9 (ad t9) 0 := fun t9 h9 => isN_fr (n_812 t9 h9) fr_845 (fun e9 : t9 = 41 => absurd (show (41 : Nat) < 11 from e9 ▸ h9) (by decide))
      have n_855 : rf cA G_835 (fun x => x = 30) r_434 ((0 : Nat) : Int) 1 := rf_fr n_813 fr_845 (fun t9 (h9 : t9 = 30) (e9 : t9 = 41) => absurd (show (30 : Nat) = 41 from h9.symm.trans e9) (by decide))
      have n_856 : rf cA G_835 (fun x => x = 30) r_496 ((4 : Nat) : Int) 1 := rf_fr n_814 fr_845 (fun t9 (h9 : t9 = 30) (e9 : t9 = 41) => absurd (show (30 : Nat) = 41 from h9.symm.trans e9) (by decide))
      have n_857 : rf cA G_835 (fun x => x = 30) r_560 ((1 : Nat) : Int) 2 := rf_fr n_815 fr_845 (fun t9 (h9 : t9 = 30) (e9 : t9 = 41) => absurd (show (30 : Nat) = 41 from h9.symm.trans e9) (by decide))
      have n_858 : rf cA G_835 (fun x => x = 30) r_626 ((1 : Nat) : Int) 6 := rf_fr n_816 fr_845 (fun t9 (h9 : t9 = 30) (e9 : t9 = 41) => absurd (show (30 : Nat) = 41 from h9.symm.trans e9) (by decide))
      have e_844 : B_836 = (B_624.1 + 1 + 1 + 1 + 1 + 1 + 1, B_624.2 + 3 + 16 + 16 + 3 + 16 + 16) := e_844
      subst e_844
      have f_859 : G_835 q_1 = some (32, .inl (cA 2, 200, .inr (.inr (.inr (.inr (fun _ => none)))))) := x_843 _ _ f_817 (gne f_817 f_801 (fun e => absurd (show (32 : Nat) = 41 from congrArg Prod.fst e) (by decide)))
      have f_860 : G_835 q_50 = some (35, .inr (7, [.ref a_64, .ref a_65, .int (nI 0)])) := x_843 _ _ f_818 (gne f_818 f_801 (fun e => absurd (show (35 : Nat) = 41 from congrArg Prod.fst e) (by decide)))
      have f_861 : G_835 a_64 = some (36, .inl (cA 0, 12, .inl (fun _ => 0))) := x_843 _ _ f_819 (gne f_819 f_801 (fun e => absurd (show (36 : Nat) = 41 from congrArg Prod.fst e) (by decide)))
      have f_862 : G_835 a_65 = some (37, .inl (cA 1, 12, .inr (.inl (fun _ => 0)))) := x_843 _ _ f_820 (gne f_820 f_801 (fun e => absurd (show (37 : Nat) = 41 from congrArg Prod.fst e) (by decide)))
      have f_863 : G_835 q_87 = some (30, .inr (0, [.ref hd, .ref hc, .ref (ad 5), .ref (ad 6), .ref (ad 7), .ref (ad 8), .ref (ad 9), .ref (ad 10)])) := x_843 _ _ f_821 (gne f_821 f_801 (fun e => absurd (show (30 : Nat) = 41 from congrArg Prod.fst e) (by decide)))
      have f_864 : G_835 hd = some (30, .inr (2, [.ref (ad 0), .ref (ad 1), .ref (ad 2)])) := x_843 _ _ f_822 (gne f_822 f_801 (fun e => absurd (show (30 : Nat) = 41 from congrArg Prod.fst e) (by decide)))
      have f_865 : G_835 hc = some (19, .inr (1, [.ref hd, .ref (ad 3), .ref (ad 4), .long l_109, .long l_110, .long l_111, .long l_112])) := x_843 _ _ f_823 (gne f_823 f_801 (fun e => absurd (show (19 : Nat) = 41 from congrArg Prod.fst e) (by decide)))
      have f_866 : G_835 q_137 = some (20, .inr (3, [.int (nI 0), .ref a_158, .ref b_159])) := x_843 _ _ f_824 (gne f_824 f_801 (fun e => absurd (show (20 : Nat) = 41 from congrArg Prod.fst e) (by decide)))
      have f_867 : G_835 q_197 = some (21, .inr (3, [.int (nI 0), .ref a_221, .ref b_222])) := x_843 _ _ f_825 (gne f_825 f_801 (fun e => absurd (show (21 : Nat) = 41 from congrArg Prod.fst e) (by decide)))
      have f_868 : G_835 q_266 = some (22, .inr (3, [.int (nI 0), .ref a_293, .ref b_294])) := x_843 _ _ f_826 (gne f_826 f_801 (fun e => absurd (show (22 : Nat) = 41 from congrArg Prod.fst e) (by decide)))
      have f_869 : G_835 q_344 = some (23, .inr (3, [.int (nI 0), .ref a_374, .ref b_375])) := x_843 _ _ f_827 (gne f_827 f_801 (fun e => absurd (show (23 : Nat) = 41 from congrArg Prod.fst e) (by decide)))
      have f_870 : G_835 h = some (31, .inr (8, [.ref q_1, .int (nI 0), .ref q_24, .int (nI 0), .ref q_50, .ref q_87, .ref q_137, .ref q_197, .ref q_266, .ref q_344, .ref r_434, .ref r_496, .ref r_560, .ref r_626])) := x_843 _ _ f_828 (gne f_828 f_801 (fun e => absurd (show (31 : Nat) = 41 from congrArg Prod.fst e) (by decide)))
      have f_871 : G_835 q_692 = some (40, .inr (5, [.ref a_729, .ref a_730, .int (nI 0)])) := x_843 _ _ f_829 (gne f_829 f_801 (fun e => absurd (show (40 : Nat) = 41 from congrArg Prod.fst e) (by decide)))
      have f_872 : G_835 a_729 = some (50, .inl (cA 2, 16, .inr (.inr (.inr (.inr (fun _ => none)))))) := x_843 _ _ f_830 (gne f_830 f_801 (fun e => absurd (show (50 : Nat) = 41 from congrArg Prod.fst e) (by decide)))
      have f_873 : G_835 a_730 = some (60, .inl (cA 2, 16, .inr (.inr (.inr (.inr (fun _ => none)))))) := x_843 _ _ f_831 (gne f_831 f_801 (fun e => absurd (show (60 : Nat) = 41 from congrArg Prod.fst e) (by decide)))
      have f_874 : G_835 q_24 = some (33, .inl (cA 3, 8, .inr (.inr (.inr (.inr (va_up (fun _ => none) 0 (some q_692))))))) := x_843 _ _ f_832 (gne f_832 f_801 (fun e => absurd (show (33 : Nat) = 41 from congrArg Prod.fst e) (by decide)))
      have x_875 : gex (fun x => x = h) G G_835 := gex_tr x_834 x_843 (fun x y hx9 _ e => by subst e; rw [z_833] at hx9; cases hx9)
      refine g_aast hx hb hK 3 5 f_874 rfl f_840 rfl (show vp_in (nI 1) 8 from vp_in_nI (by omega) (by omega)) d_Mf_init_172 (fun G_876 f_877 o_878 => ?_)
      rw [nI_clamp (by omega)] at f_877
      have f_879 : G_876 q_1 = some (32, .inl (cA 2, 200, .inr (.inr (.inr (.inr (fun _ => none)))))) := (o_878 _ (gne f_859 f_874 (fun e => absurd (show (32 : Nat) = 33 from congrArg Prod.fst e) (by decide)))).trans f_859
      have f_880 : G_876 q_50 = some (35, .inr (7, [.ref a_64, .ref a_65, .int (nI 0)])) := (o_878 _ (gne f_860 f_874 (fun e => absurd (show (35 : Nat) = 33 from congrArg Prod.fst e) (by decide)))).trans f_860
      have f_881 : G_876 a_64 = some (36, .inl (cA 0, 12, .inl (fun _ => 0))) := (o_878 _ (gne f_861 f_874 (fun e => absurd (show (36 : Nat) = 33 from congrArg Prod.fst e) (by decide)))).trans f_861
      have f_882 : G_876 a_65 = some (37, .inl (cA 1, 12, .inr (.inl (fun _ => 0)))) := (o_878 _ (gne f_862 f_874 (fun e => absurd (show (37 : Nat) = 33 from congrArg Prod.fst e) (by decide)))).trans f_862
      have f_883 : G_876 q_87 = some (30, .inr (0, [.ref hd, .ref hc, .ref (ad 5), .ref (ad 6), .ref (ad 7), .ref (ad 8), .ref (ad 9), .ref (ad 10)])) := (o_878 _ (gne f_863 f_874 (fun e => absurd (show (30 : Nat) = 33 from congrArg Prod.fst e) (by decide)))).trans f_863
      have f_884 : G_876 hd = some (30, .inr (2, [.ref (ad 0), .ref (ad 1), .ref (ad 2)])) := (o_878 _ (gne f_864 f_874 (fun e => absurd (show (30 : Nat) = 33 from congrArg Prod.fst e) (by decide)))).trans f_864
      have f_885 : G_876 hc = some (19, .inr (1, [.ref hd, .ref (ad 3), .ref (ad 4), .long l_109, .long l_110, .long l_111, .long l_112])) := (o_878 _ (gne f_865 f_874 (fun e => absurd (show (19 : Nat) = 33 from congrArg Prod.fst e) (by decide)))).trans f_865
      have f_886 : G_876 q_137 = some (20, .inr (3, [.int (nI 0), .ref a_158, .ref b_159])) := (o_878 _ (gne f_866 f_874 (fun e => absurd (show (20 : Nat) = 33 from congrArg Prod.fst e) (by decide)))).trans f_866
      have f_887 : G_876 q_197 = some (21, .inr (3, [.int (nI 0), .ref a_221, .ref b_222])) := (o_878 _ (gne f_867 f_874 (fun e => absurd (show (21 : Nat) = 33 from congrArg Prod.fst e) (by decide)))).trans f_867
      have f_888 : G_876 q_266 = some (22, .inr (3, [.int (nI 0), .ref a_293, .ref b_294])) := (o_878 _ (gne f_868 f_874 (fun e => absurd (show (22 : Nat) = 33 from congrArg Prod.fst e) (by decide)))).trans f_868
      have f_889 : G_876 q_344 = some (23, .inr (3, [.int (nI 0), .ref a_374, .ref b_375])) := (o_878 _ (gne f_869 f_874 (fun e => absurd (show (23 : Nat) = 33 from congrArg Prod.fst e) (by decide)))).trans f_869
      have f_890 : G_876 h = some (31, .inr (8, [.ref q_1, .int (nI 0), .ref q_24, .int (nI 0), .ref q_50, .ref q_87, .ref q_137, .ref q_197, .ref q_266, .ref q_344, .ref r_434, .ref r_496, .ref r_560, .ref r_626])) := (o_878 _ (gne f_870 f_874 (fun e => absurd (show (31 : Nat) = 33 from congrArg Prod.fst e) (by decide)))).trans f_870
      have f_891 : G_876 q_692 = some (40, .inr (5, [.ref a_729, .ref a_730, .int (nI 0)])) := (o_878 _ (gne f_871 f_874 (fun e => absurd (show (40 : Nat) = 33 from congrArg Prod.fst e) (by decide)))).trans f_871
      have f_892 : G_876 a_729 = some (50, .inl (cA 2, 16, .inr (.inr (.inr (.inr (fun _ => none)))))) := (o_878 _ (gne f_872 f_874 (fun e => absurd (show (50 : Nat) = 33 from congrArg Prod.fst e) (by decide)))).trans f_872
      have f_893 : G_876 a_730 = some (60, .inl (cA 2, 16, .inr (.inr (.inr (.inr (fun _ => none)))))) := (o_878 _ (gne f_873 f_874 (fun e => absurd (show (60 : Nat) = 33 from congrArg Prod.fst e) (by decide)))).trans f_873
      have f_894 : G_876 q_798 = some (41, .inr (5, [.ref a_838, .ref a_839, .int (nI 0)])) := (o_878 _ (gne f_840 f_874 (fun e => absurd (show (41 : Nat) = 33 from congrArg Prod.fst e) (by decide)))).trans f_840
      have f_895 : G_876 a_838 = some (51, .inl (cA 2, 16, .inr (.inr (.inr (.inr (fun _ => none)))))) := (o_878 _ (gne f_841 f_874 (fun e => absurd (show (51 : Nat) = 33 from congrArg Prod.fst e) (by decide)))).trans f_841
      have f_896 : G_876 a_839 = some (61, .inl (cA 2, 16, .inr (.inr (.inr (.inr (fun _ => none)))))) := (o_878 _ (gne f_842 f_874 (fun e => absurd (show (61 : Nat) = 33 from congrArg Prod.fst e) (by decide)))).trans f_842
      have x_897 : gex (fun x => x = h) G G_876 := gex_put x_875 o_878 (Or.inr z_32)
      have fr_898 : gfr (fun y => y = 33) G_835 G_876 := gfr_put gfr_rf f_874 rfl o_878
      have n_899 : isN cA G_876 24 11 a_158 0 := isN_fr n_846 fr_898 (show ¬ (11 : Nat) = 33 by decide)
      have n_900 : isN cA G_876 24 12 b_159 0 := isN_fr n_847 fr_898 (show ¬ (12 : Nat) = 33 by decide)
      have n_901 : isN cA G_876 24 13 a_221 0 := isN_fr n_848 fr_898 (show ¬ (13 : Nat) = 33 by decide)
      have n_902 : isN cA G_876 24 14 b_222 0 := isN_fr n_849 fr_898 (show ¬ (14 : Nat) = 33 by decide)
      have n_903 : isN cA G_876 24 15 a_293 0 := isN_fr n_850 fr_898 (show ¬ (15 : Nat) = 33 by decide)
      have n_904 : isN cA G_876 24 16 b_294 0 := isN_fr n_851 fr_898 (show ¬ (16 : Nat) = 33 by decide)
      have n_905 : isN cA G_876 24 17 a_374 0 := isN_fr n_852 fr_898 (show ¬ (17 : Nat) = 33 by decide)
      have n_906 : isN cA G_876 24 18 b_375 0 := isN_fr n_853 fr_898 (show ¬ (18 : Nat) = 33 by decide)
      have n_907 : ∀ t9, t9 < 11 → isN cA G_876 24 t9 (ad t9) 0 := fun t9 h9 => isN_fr (n_854 t9 h9) fr_898 (fun e9 : t9 = 33 => absurd (show (33 : Nat) < 11 from e9 ▸ h9) (by decide))
      have n_908 : rf cA G_876 (fun x => x = 30) r_434 ((0 : Nat) : Int) 1 := rf_fr n_855 fr_898 (fun t9 (h9 : t9 = 30) (e9 : t9 = 33) => absurd (show (30 : Nat) = 33 from h9.symm.trans e9) (by decide))
      have n_909 : rf cA G_876 (fun x => x = 30) r_496 ((4 : Nat) : Int) 1 := rf_fr n_856 fr_898 (fun t9 (h9 : t9 = 30) (e9 : t9 = 33) => absurd (show (30 : Nat) = 33 from h9.symm.trans e9) (by decide))
      have n_910 : rf cA G_876 (fun x => x = 30) r_560 ((1 : Nat) : Int) 2 := rf_fr n_857 fr_898 (fun t9 (h9 : t9 = 30) (e9 : t9 = 33) => absurd (show (30 : Nat) = 33 from h9.symm.trans e9) (by decide))
      have n_911 : rf cA G_876 (fun x => x = 30) r_626 ((1 : Nat) : Int) 6 := rf_fr n_858 fr_898 (fun t9 (h9 : t9 = 30) (e9 : t9 = 33) => absurd (show (30 : Nat) = 33 from h9.symm.trans e9) (by decide))
      refine gst (pc' := 176) (L' := [(1, .int (nI 2)), (0, .ref h)]) (fun _ _ _ _ _ hl => lv_iinc (v := nI 2) hx hb d_Mf_init_173 hl (k := 0) rfl (by decide) (by decide) rfl) ?_
      refine gs (pc' := 154) (fun _ _ _ _ _ hl => lv_goto (tgt := 154) hx hb d_Mf_init_176 (by decide)) ?_
      refine gs (pc' := 155) (fun _ _ _ _ _ hl => lv_iload_n hx hb d_Mf_init_154 rfl (lv_at hl 0 rfl)) ?_
      refine gs (pc' := 157) (fun _ _ _ _ _ hl => lv_bipush (v := nI 8) hx hb d_Mf_init_155 (by decide)) ?_
      refine gsb (pc1 := 179) (pc2 := 160) (fun _ _ _ _ _ => lv_icmp_ge (tgt := 179) hx hb d_Mf_init_157 (by decide)) (fun c_912 => ?_) (fun c_912 => ?_)
      · skip
        have nc_912 : 2 ≥ 8 := (nn_ge (a := 2) (b := 8) (by omega) (by omega)).1 c_912
        exact absurd nc_912 (by decide)
      · skip
        have nc_912 : 2 < 8 := (nn_ge (a := 2) (b := 8) (by omega) (by omega)).2 c_912
        refine gs (pc' := 161) (fun _ _ _ _ _ hl => lv_aload_n hx hb d_Mf_init_160 rfl (lv_at hl 1 rfl)) ?_
        refine g_get hx hb hts hin_Mf hown hK f_890 rfl 2 (by decide) (hts _ wm237) (fun _ h9 => h9) rfl d_Mf_init_161 ?_
        refine gs (pc' := 165) (fun _ _ _ _ _ hl => lv_iload_n hx hb d_Mf_init_164 rfl (lv_at hl 0 rfl)) ?_
        refine g_new hx hb hts hin_Ro ty_Ro ty_Ro_ok hown (hts _ wm30) (hts _ wm216) (hts _ wm11) hK (ci := 5) rfl (fs := [.null, .null, .int (nI 0)]) (fun j => match j with | 0 => fun _ => rfl | 1 => fun _ => rfl | 2 => fun _ => rfl | n + 3 => fun h9 => absurd h9 (by omega)) hlo hRc hRs (show B_624.1 + 1 + 1 + 1 + 1 + 1 + 1 + 1 ≤ MC from lc_658 7 (by decide)) (show B_624.2 + 3 + 16 + 16 + 3 + 16 + 16 + 3 ≤ MS from ls_659 73 (by decide)) d_Mf_init_165 42 (fun q_913 G_914 z_915 f_916 o_917 => ?_)
        have fr_918 : gfr (fun y => y = 1000) G_876 G_914 := gfr_new gfr_rf z_915 o_917
        have n_919 : isN cA G_914 24 11 a_158 0 := isN_fr n_899 fr_918 (show ¬ (11 : Nat) = 1000 by decide)
        have n_920 : isN cA G_914 24 12 b_159 0 := isN_fr n_900 fr_918 (show ¬ (12 : Nat) = 1000 by decide)
        have n_921 : isN cA G_914 24 13 a_221 0 := isN_fr n_901 fr_918 (show ¬ (13 : Nat) = 1000 by decide)
        have n_922 : isN cA G_914 24 14 b_222 0 := isN_fr n_902 fr_918 (show ¬ (14 : Nat) = 1000 by decide)
        have n_923 : isN cA G_914 24 15 a_293 0 := isN_fr n_903 fr_918 (show ¬ (15 : Nat) = 1000 by decide)
        have n_924 : isN cA G_914 24 16 b_294 0 := isN_fr n_904 fr_918 (show ¬ (16 : Nat) = 1000 by decide)
        have n_925 : isN cA G_914 24 17 a_374 0 := isN_fr n_905 fr_918 (show ¬ (17 : Nat) = 1000 by decide)
        have n_926 : isN cA G_914 24 18 b_375 0 := isN_fr n_906 fr_918 (show ¬ (18 : Nat) = 1000 by decide)
        have n_927 : ∀ t9, t9 < 11 → isN cA G_914 24 t9 (ad t9) 0 := fun t9 h9 => isN_fr (n_907 t9 h9) fr_918 (fun e9 : t9 = 1000 => absurd (show (1000 : Nat) < 11 from e9 ▸ h9) (by decide))
        have n_928 : rf cA G_914 (fun x => x = 30) r_434 ((0 : Nat) : Int) 1 := rf_fr n_908 fr_918 (fun t9 (h9 : t9 = 30) (e9 : t9 = 1000) => absurd (show (30 : Nat) = 1000 from h9.symm.trans e9) (by decide))
        have n_929 : rf cA G_914 (fun x => x = 30) r_496 ((4 : Nat) : Int) 1 := rf_fr n_909 fr_918 (fun t9 (h9 : t9 = 30) (e9 : t9 = 1000) => absurd (show (30 : Nat) = 1000 from h9.symm.trans e9) (by decide))
        have n_930 : rf cA G_914 (fun x => x = 30) r_560 ((1 : Nat) : Int) 2 := rf_fr n_910 fr_918 (fun t9 (h9 : t9 = 30) (e9 : t9 = 1000) => absurd (show (30 : Nat) = 1000 from h9.symm.trans e9) (by decide))
        have n_931 : rf cA G_914 (fun x => x = 30) r_626 ((1 : Nat) : Int) 6 := rf_fr n_911 fr_918 (fun t9 (h9 : t9 = 30) (e9 : t9 = 1000) => absurd (show (30 : Nat) = 1000 from h9.symm.trans e9) (by decide))
        have f_932 : G_914 q_1 = some (32, .inl (cA 2, 200, .inr (.inr (.inr (.inr (fun _ => none)))))) := (o_917 _ (gne0 f_879 z_915)).trans f_879
        have f_933 : G_914 q_50 = some (35, .inr (7, [.ref a_64, .ref a_65, .int (nI 0)])) := (o_917 _ (gne0 f_880 z_915)).trans f_880
        have f_934 : G_914 a_64 = some (36, .inl (cA 0, 12, .inl (fun _ => 0))) := (o_917 _ (gne0 f_881 z_915)).trans f_881
        have f_935 : G_914 a_65 = some (37, .inl (cA 1, 12, .inr (.inl (fun _ => 0)))) := (o_917 _ (gne0 f_882 z_915)).trans f_882
        have f_936 : G_914 q_87 = some (30, .inr (0, [.ref hd, .ref hc, .ref (ad 5), .ref (ad 6), .ref (ad 7), .ref (ad 8), .ref (ad 9), .ref (ad 10)])) := (o_917 _ (gne0 f_883 z_915)).trans f_883
        have f_937 : G_914 hd = some (30, .inr (2, [.ref (ad 0), .ref (ad 1), .ref (ad 2)])) := (o_917 _ (gne0 f_884 z_915)).trans f_884
        have f_938 : G_914 hc = some (19, .inr (1, [.ref hd, .ref (ad 3), .ref (ad 4), .long l_109, .long l_110, .long l_111, .long l_112])) := (o_917 _ (gne0 f_885 z_915)).trans f_885
        have f_939 : G_914 q_137 = some (20, .inr (3, [.int (nI 0), .ref a_158, .ref b_159])) := (o_917 _ (gne0 f_886 z_915)).trans f_886
        have f_940 : G_914 q_197 = some (21, .inr (3, [.int (nI 0), .ref a_221, .ref b_222])) := (o_917 _ (gne0 f_887 z_915)).trans f_887
        have f_941 : G_914 q_266 = some (22, .inr (3, [.int (nI 0), .ref a_293, .ref b_294])) := (o_917 _ (gne0 f_888 z_915)).trans f_888
        have f_942 : G_914 q_344 = some (23, .inr (3, [.int (nI 0), .ref a_374, .ref b_375])) := (o_917 _ (gne0 f_889 z_915)).trans f_889
        have f_943 : G_914 h = some (31, .inr (8, [.ref q_1, .int (nI 0), .ref q_24, .int (nI 0), .ref q_50, .ref q_87, .ref q_137, .ref q_197, .ref q_266, .ref q_344, .ref r_434, .ref r_496, .ref r_560, .ref r_626])) := (o_917 _ (gne0 f_890 z_915)).trans f_890
        have f_944 : G_914 q_692 = some (40, .inr (5, [.ref a_729, .ref a_730, .int (nI 0)])) := (o_917 _ (gne0 f_891 z_915)).trans f_891
        have f_945 : G_914 a_729 = some (50, .inl (cA 2, 16, .inr (.inr (.inr (.inr (fun _ => none)))))) := (o_917 _ (gne0 f_892 z_915)).trans f_892
        have f_946 : G_914 a_730 = some (60, .inl (cA 2, 16, .inr (.inr (.inr (.inr (fun _ => none)))))) := (o_917 _ (gne0 f_893 z_915)).trans f_893
        have f_947 : G_914 q_798 = some (41, .inr (5, [.ref a_838, .ref a_839, .int (nI 0)])) := (o_917 _ (gne0 f_894 z_915)).trans f_894
        have f_948 : G_914 a_838 = some (51, .inl (cA 2, 16, .inr (.inr (.inr (.inr (fun _ => none)))))) := (o_917 _ (gne0 f_895 z_915)).trans f_895
        have f_949 : G_914 a_839 = some (61, .inl (cA 2, 16, .inr (.inr (.inr (.inr (fun _ => none)))))) := (o_917 _ (gne0 f_896 z_915)).trans f_896
        have f_950 : G_914 q_24 = some (33, .inl (cA 3, 8, .inr (.inr (.inr (.inr (va_up (va_up (fun _ => none) 0 (some q_692)) 1 (some q_798))))))) := (o_917 _ (gne0 f_877 z_915)).trans f_877
        have z_951 : G q_913 = none := gex_0 x_897 z_915 (fun z => by have z := z.symm; subst z; rw [f_890] at z_915; cases z_915)
        have x_952 : gex (fun x => x = h) G G_914 := gex_new x_897 z_915 o_917
        refine g_Beq (B' := (B_624.1 + 1 + 1 + 1 + 1 + 1 + 1 + 1, B_624.2 + 3 + 16 + 16 + 3 + 16 + 16 + 3)) rfl ?_
        refine gs (pc' := 169) (fun _ _ _ _ _ hl => lv_dup hx hb d_Mf_init_168 rfl) ?_
        obtain ⟨⟨hN1, hN2, hN3, hN4, -, -, -⟩, -⟩ := id hZ
        refine g_outv hlo (g_runIN (b := q_913) (As := []) (rest := [.ref q_913, .int (nI 2), .ref q_24]) ⟨hx, hb, hml, hown, hts⟩ hK hZ hRc hRs (c_Ro_init l D cA lo MC MS G_914 (B_624.1 + 1 + 1 + 1 + 1 + 1 + 1 + 1, B_624.2 + 3 + 16 + 16 + 3 + 16 + 16 + 3) 42 52 62 q_913 (by decide) (by decide) (by decide) f_916 (show B_624.1 + 1 + 1 + 1 + 1 + 1 + 1 + 1 + 2 ≤ MC from lc_658 9 (by decide)) (show B_624.2 + 3 + 16 + 16 + 3 + 16 + 16 + 3 + 32 ≤ MS from ls_659 105 (by decide)) (show B_624.1 + 1 + 1 + 1 + 1 + 1 + 1 + 1 ≤ MC from lc_658 7 (by decide)) (show B_624.2 + 3 + 16 + 16 + 3 + 16 + 16 + 3 ≤ MS from ls_659 73 (by decide))) (fun _ _ => ⟨va_cnB 0 hts (tb_good k_Ro_init) rfl rfl rfl hN4 (hts _ wm11) (by decide +kernel) ⟨by rw [hRf]; exact Nat.le_of_ble_eq_true rfl, by rw [hRl]; exact Nat.le_of_ble_eq_true rfl⟩, rfl, hts _ wm218⟩) (show B_624.1 + 1 + 1 + 1 + 1 + 1 + 1 + 1 ≤ MC from lc_658 7 (by decide)) (show B_624.2 + 3 + 16 + 16 + 3 + 16 + 16 + 3 ≤ MS from ls_659 73 (by decide)) rfl (Nat.le_of_ble_eq_true rfl) d_Mf_init_169) (fun G_953 B_954 p_955 => ?_)
        obtain ⟨a_956, a_957, f_958, f_959, f_960, x_961, e_962⟩ := p_955
        have fr_963 : gfr (fun y => y = 42) G_914 G_953 := gfr_gex x_961 f_916
        have n_964 : isN cA G_953 24 11 a_158 0 := isN_fr n_919 fr_963 (show ¬ (11 : Nat) = 42 by decide)
        have n_965 : isN cA G_953 24 12 b_159 0 := isN_fr n_920 fr_963 (show ¬ (12 : Nat) = 42 by decide)
        have n_966 : isN cA G_953 24 13 a_221 0 := isN_fr n_921 fr_963 (show ¬ (13 : Nat) = 42 by decide)
        have n_967 : isN cA G_953 24 14 b_222 0 := isN_fr n_922 fr_963 (show ¬ (14 : Nat) = 42 by decide)
        have n_968 : isN cA G_953 24 15 a_293 0 := isN_fr n_923 fr_963 (show ¬ (15 : Nat) = 42 by decide)
        have n_969 : isN cA G_953 24 16 b_294 0 := isN_fr n_924 fr_963 (show ¬ (16 : Nat) = 42 by decide)
        have n_970 : isN cA G_953 24 17 a_374 0 := isN_fr n_925 fr_963 (show ¬ (17 : Nat) = 42 by decide)
        have n_971 : isN cA G_953 24 18 b_375 0 := isN_fr n_926 fr_963 (show ¬ (18 : Nat) = 42 by decide)
        have n_972 : ∀ t9, t9 < 11 → isN cA G_953 24 t9 (ad t9) 0 := fun t9 h9 => isN_fr (n_927 t9 h9) fr_963 (fun e9 : t9 = 42 => absurd (show (42 : Nat) < 11 from e9 ▸ h9) (by decide))
        have n_973 : rf cA G_953 (fun x => x = 30) r_434 ((0 : Nat) : Int) 1 := rf_fr n_928 fr_963 (fun t9 (h9 : t9 = 30) (e9 : t9 = 42) => absurd (show (30 : Nat) = 42 from h9.symm.trans e9) (by decide))
        have n_974 : rf cA G_953 (fun x => x = 30) r_496 ((4 : Nat) : Int) 1 := rf_fr n_929 fr_963 (fun t9 (h9 : t9 = 30) (e9 : t9 = 42) => absurd (show (30 : Nat) = 42 from h9.symm.trans e9) (by decide))
        have n_975 : rf cA G_953 (fun x => x = 30) r_560 ((1 : Nat) : Int) 2 := rf_fr n_930 fr_963 (fun t9 (h9 : t9 = 30) (e9 : t9 = 42) => absurd (show (30 : Nat) = 42 from h9.symm.trans e9) (by decide))
        have n_976 : rf cA G_953 (fun x => x = 30) r_626 ((1 : Nat) : Int) 6 := rf_fr n_931 fr_963 (fun t9 (h9 : t9 = 30) (e9 : t9 = 42) => absurd (show (30 : Nat) = 42 from h9.symm.trans e9) (by decide))
        have e_962 : B_954 = (B_624.1 + 1 + 1 + 1 + 1 + 1 + 1 + 1 + 1 + 1, B_624.2 + 3 + 16 + 16 + 3 + 16 + 16 + 3 + 16 + 16) := e_962
        subst e_962
        have f_977 : G_953 q_1 = some (32, .inl (cA 2, 200, .inr (.inr (.inr (.inr (fun _ => none)))))) := x_961 _ _ f_932 (gne f_932 f_916 (fun e => absurd (show (32 : Nat) = 42 from congrArg Prod.fst e) (by decide)))
        have f_978 : G_953 q_50 = some (35, .inr (7, [.ref a_64, .ref a_65, .int (nI 0)])) := x_961 _ _ f_933 (gne f_933 f_916 (fun e => absurd (show (35 : Nat) = 42 from congrArg Prod.fst e) (by decide)))
        have f_979 : G_953 a_64 = some (36, .inl (cA 0, 12, .inl (fun _ => 0))) := x_961 _ _ f_934 (gne f_934 f_916 (fun e => absurd (show (36 : Nat) = 42 from congrArg Prod.fst e) (by decide)))
        have f_980 : G_953 a_65 = some (37, .inl (cA 1, 12, .inr (.inl (fun _ => 0)))) := x_961 _ _ f_935 (gne f_935 f_916 (fun e => absurd (show (37 : Nat) = 42 from congrArg Prod.fst e) (by decide)))
        have f_981 : G_953 q_87 = some (30, .inr (0, [.ref hd, .ref hc, .ref (ad 5), .ref (ad 6), .ref (ad 7), .ref (ad 8), .ref (ad 9), .ref (ad 10)])) := x_961 _ _ f_936 (gne f_936 f_916 (fun e => absurd (show (30 : Nat) = 42 from congrArg Prod.fst e) (by decide)))
        have f_982 : G_953 hd = some (30, .inr (2, [.ref (ad 0), .ref (ad 1), .ref (ad 2)])) := x_961 _ _ f_937 (gne f_937 f_916 (fun e => absurd (show (30 : Nat) = 42 from congrArg Prod.fst e) (by decide)))
        have f_983 : G_953 hc = some (19, .inr (1, [.ref hd, .ref (ad 3), .ref (ad 4), .long l_109, .long l_110, .long l_111, .long l_112])) := x_961 _ _ f_938 (gne f_938 f_916 (fun e => absurd (show (19 : Nat) = 42 from congrArg Prod.fst e) (by decide)))
        have f_984 : G_953 q_137 = some (20, .inr (3, [.int (nI 0), .ref a_158, .ref b_159])) := x_961 _ _ f_939 (gne f_939 f_916 (fun e => absurd (show (20 : Nat) = 42 from congrArg Prod.fst e) (by decide)))
        have f_985 : G_953 q_197 = some (21, .inr (3, [.int (nI 0), .ref a_221, .ref b_222])) := x_961 _ _ f_940 (gne f_940 f_916 (fun e => absurd (show (21 : Nat) = 42 from congrArg Prod.fst e) (by decide)))
        have f_986 : G_953 q_266 = some (22, .inr (3, [.int (nI 0), .ref a_293, .ref b_294])) := x_961 _ _ f_941 (gne f_941 f_916 (fun e => absurd (show (22 : Nat) = 42 from congrArg Prod.fst e) (by decide)))
        have f_987 : G_953 q_344 = some (23, .inr (3, [.int (nI 0), .ref a_374, .ref b_375])) := x_961 _ _ f_942 (gne f_942 f_916 (fun e => absurd (show (23 : Nat) = 42 from congrArg Prod.fst e) (by decide)))
        have f_988 : G_953 h = some (31, .inr (8, [.ref q_1, .int (nI 0), .ref q_24, .int (nI 0), .ref q_50, .ref q_87, .ref q_137, .ref q_197, .ref q_266, .ref q_344, .ref r_434, .ref r_496, .ref r_560, .ref r_626])) := x_961 _ _ f_943 (gne f_943 f_916 (fun e => absurd (show (31 : Nat) = 42 from congrArg Prod.fst e) (by decide)))
        have f_989 : G_953 q_692 = some (40, .inr (5, [.ref a_729, .ref a_730, .int (nI 0)])) := x_961 _ _ f_944 (gne f_944 f_916 (fun e => absurd (show (40 : Nat) = 42 from congrArg Prod.fst e) (by decide)))
        have f_990 : G_953 a_729 = some (50, .inl (cA 2, 16, .inr (.inr (.inr (.inr (fun _ => none)))))) := x_961 _ _ f_945 (gne f_945 f_916 (fun e => absurd (show (50 : Nat) = 42 from congrArg Prod.fst e) (by decide)))
        have f_991 : G_953 a_730 = some (60, .inl (cA 2, 16, .inr (.inr (.inr (.inr (fun _ => none)))))) := x_961 _ _ f_946 (gne f_946 f_916 (fun e => absurd (show (60 : Nat) = 42 from congrArg Prod.fst e) (by decide)))
        have f_992 : G_953 q_798 = some (41, .inr (5, [.ref a_838, .ref a_839, .int (nI 0)])) := x_961 _ _ f_947 (gne f_947 f_916 (fun e => absurd (show (41 : Nat) = 42 from congrArg Prod.fst e) (by decide)))
        have f_993 : G_953 a_838 = some (51, .inl (cA 2, 16, .inr (.inr (.inr (.inr (fun _ => none)))))) := x_961 _ _ f_948 (gne f_948 f_916 (fun e => absurd (show (51 : Nat) = 42 from congrArg Prod.fst e) (by decide)))
        have f_994 : G_953 a_839 = some (61, .inl (cA 2, 16, .inr (.inr (.inr (.inr (fun _ => none)))))) := x_961 _ _ f_949 (gne f_949 f_916 (fun e => absurd (show (61 : Nat) = 42 from congrArg Prod.fst e) (by decide)))
        have f_995 : G_953 q_24 = some (33, .inl (cA 3, 8, .inr (.inr (.inr (.inr (va_up (va_up (fun _ => none) 0 (some q_692)) 1 (some q_798))))))) := x_961 _ _ f_950 (gne f_950 f_916 (fun e => absurd (show (33 : Nat) = 42 from congrArg Prod.fst e) (by decide)))
        have x_996 : gex (fun x => x = h) G G_953 := gex_tr x_952 x_961 (fun x y hx9 _ e => by subst e; rw [z_951] at hx9; cases hx9)
        refine g_aast hx hb hK 3 5 f_995 rfl f_958 rfl (show vp_in (nI 2) 8 from vp_in_nI (by omega) (by omega)) d_Mf_init_172 (fun G_997 f_998 o_999 => ?_)
        rw [nI_clamp (by omega)] at f_998
        have f_1000 : G_997 q_1 = some (32, .inl (cA 2, 200, .inr (.inr (.inr (.inr (fun _ => none)))))) := (o_999 _ (gne f_977 f_995 (fun e => absurd (show (32 : Nat) = 33 from congrArg Prod.fst e) (by decide)))).trans f_977
        have f_1001 : G_997 q_50 = some (35, .inr (7, [.ref a_64, .ref a_65, .int (nI 0)])) := (o_999 _ (gne f_978 f_995 (fun e => absurd (show (35 : Nat) = 33 from congrArg Prod.fst e) (by decide)))).trans f_978
        have f_1002 : G_997 a_64 = some (36, .inl (cA 0, 12, .inl (fun _ => 0))) := (o_999 _ (gne f_979 f_995 (fun e => absurd (show (36 : Nat) = 33 from congrArg Prod.fst e) (by decide)))).trans f_979
        have f_1003 : G_997 a_65 = some (37, .inl (cA 1, 12, .inr (.inl (fun _ => 0)))) := (o_999 _ (gne f_980 f_995 (fun e => absurd (show (37 : Nat) = 33 from congrArg Prod.fst e) (by decide)))).trans f_980
        have f_1004 : G_997 q_87 = some (30, .inr (0, [.ref hd, .ref hc, .ref (ad 5), .ref (ad 6), .ref (ad 7), .ref (ad 8), .ref (ad 9), .ref (ad 10)])) := (o_999 _ (gne f_981 f_995 (fun e => absurd (show (30 : Nat) = 33 from congrArg Prod.fst e) (by decide)))).trans f_981
        have f_1005 : G_997 hd = some (30, .inr (2, [.ref (ad 0), .ref (ad 1), .ref (ad 2)])) := (o_999 _ (gne f_982 f_995 (fun e => absurd (show (30 : Nat) = 33 from congrArg Prod.fst e) (by decide)))).trans f_982
        have f_1006 : G_997 hc = some (19, .inr (1, [.ref hd, .ref (ad 3), .ref (ad 4), .long l_109, .long l_110, .long l_111, .long l_112])) := (o_999 _ (gne f_983 f_995 (fun e => absurd (show (19 : Nat) = 33 from congrArg Prod.fst e) (by decide)))).trans f_983
        have f_1007 : G_997 q_137 = some (20, .inr (3, [.int (nI 0), .ref a_158, .ref b_159])) := (o_999 _ (gne f_984 f_995 (fun e => absurd (show (20 : Nat) = 33 from congrArg Prod.fst e) (by decide)))).trans f_984
        have f_1008 : G_997 q_197 = some (21, .inr (3, [.int (nI 0), .ref a_221, .ref b_222])) := (o_999 _ (gne f_985 f_995 (fun e => absurd (show (21 : Nat) = 33 from congrArg Prod.fst e) (by decide)))).trans f_985
        have f_1009 : G_997 q_266 = some (22, .inr (3, [.int (nI 0), .ref a_293, .ref b_294])) := (o_999 _ (gne f_986 f_995 (fun e => absurd (show (22 : Nat) = 33 from congrArg Prod.fst e) (by decide)))).trans f_986
        have f_1010 : G_997 q_344 = some (23, .inr (3, [.int (nI 0), .ref a_374, .ref b_375])) := (o_999 _ (gne f_987 f_995 (fun e => absurd (show (23 : Nat) = 33 from congrArg Prod.fst e) (by decide)))).trans f_987
        have f_1011 : G_997 h = some (31, .inr (8, [.ref q_1, .int (nI 0), .ref q_24, .int (nI 0), .ref q_50, .ref q_87, .ref q_137, .ref q_197, .ref q_266, .ref q_344, .ref r_434, .ref r_496, .ref r_560, .ref r_626])) := (o_999 _ (gne f_988 f_995 (fun e => absurd (show (31 : Nat) = 33 from congrArg Prod.fst e) (by decide)))).trans f_988
        have f_1012 : G_997 q_692 = some (40, .inr (5, [.ref a_729, .ref a_730, .int (nI 0)])) := (o_999 _ (gne f_989 f_995 (fun e => absurd (show (40 : Nat) = 33 from congrArg Prod.fst e) (by decide)))).trans f_989
        have f_1013 : G_997 a_729 = some (50, .inl (cA 2, 16, .inr (.inr (.inr (.inr (fun _ => none)))))) := (o_999 _ (gne f_990 f_995 (fun e => absurd (show (50 : Nat) = 33 from congrArg Prod.fst e) (by decide)))).trans f_990
        have f_1014 : G_997 a_730 = some (60, .inl (cA 2, 16, .inr (.inr (.inr (.inr (fun _ => none)))))) := (o_999 _ (gne f_991 f_995 (fun e => absurd (show (60 : Nat) = 33 from congrArg Prod.fst e) (by decide)))).trans f_991
        have f_1015 : G_997 q_798 = some (41, .inr (5, [.ref a_838, .ref a_839, .int (nI 0)])) := (o_999 _ (gne f_992 f_995 (fun e => absurd (show (41 : Nat) = 33 from congrArg Prod.fst e) (by decide)))).trans f_992
        have f_1016 : G_997 a_838 = some (51, .inl (cA 2, 16, .inr (.inr (.inr (.inr (fun _ => none)))))) := (o_999 _ (gne f_993 f_995 (fun e => absurd (show (51 : Nat) = 33 from congrArg Prod.fst e) (by decide)))).trans f_993
        have f_1017 : G_997 a_839 = some (61, .inl (cA 2, 16, .inr (.inr (.inr (.inr (fun _ => none)))))) := (o_999 _ (gne f_994 f_995 (fun e => absurd (show (61 : Nat) = 33 from congrArg Prod.fst e) (by decide)))).trans f_994
        have f_1018 : G_997 q_913 = some (42, .inr (5, [.ref a_956, .ref a_957, .int (nI 0)])) := (o_999 _ (gne f_958 f_995 (fun e => absurd (show (42 : Nat) = 33 from congrArg Prod.fst e) (by decide)))).trans f_958
        have f_1019 : G_997 a_956 = some (52, .inl (cA 2, 16, .inr (.inr (.inr (.inr (fun _ => none)))))) := (o_999 _ (gne f_959 f_995 (fun e => absurd (show (52 : Nat) = 33 from congrArg Prod.fst e) (by decide)))).trans f_959
        have f_1020 : G_997 a_957 = some (62, .inl (cA 2, 16, .inr (.inr (.inr (.inr (fun _ => none)))))) := (o_999 _ (gne f_960 f_995 (fun e => absurd (show (62 : Nat) = 33 from congrArg Prod.fst e) (by decide)))).trans f_960
        have x_1021 : gex (fun x => x = h) G G_997 := gex_put x_996 o_999 (Or.inr z_32)
        have fr_1022 : gfr (fun y => y = 33) G_953 G_997 := gfr_put gfr_rf f_995 rfl o_999
        have n_1023 : isN cA G_997 24 11 a_158 0 := isN_fr n_964 fr_1022 (show ¬ (11 : Nat) = 33 by decide)
        have n_1024 : isN cA G_997 24 12 b_159 0 := isN_fr n_965 fr_1022 (show ¬ (12 : Nat) = 33 by decide)
        have n_1025 : isN cA G_997 24 13 a_221 0 := isN_fr n_966 fr_1022 (show ¬ (13 : Nat) = 33 by decide)
        have n_1026 : isN cA G_997 24 14 b_222 0 := isN_fr n_967 fr_1022 (show ¬ (14 : Nat) = 33 by decide)
        have n_1027 : isN cA G_997 24 15 a_293 0 := isN_fr n_968 fr_1022 (show ¬ (15 : Nat) = 33 by decide)
        have n_1028 : isN cA G_997 24 16 b_294 0 := isN_fr n_969 fr_1022 (show ¬ (16 : Nat) = 33 by decide)
        have n_1029 : isN cA G_997 24 17 a_374 0 := isN_fr n_970 fr_1022 (show ¬ (17 : Nat) = 33 by decide)
        have n_1030 : isN cA G_997 24 18 b_375 0 := isN_fr n_971 fr_1022 (show ¬ (18 : Nat) = 33 by decide)
        have n_1031 : ∀ t9, t9 < 11 → isN cA G_997 24 t9 (ad t9) 0 := fun t9 h9 => isN_fr (n_972 t9 h9) fr_1022 (fun e9 : t9 = 33 => absurd (show (33 : Nat) < 11 from e9 ▸ h9) (by decide))
        have n_1032 : rf cA G_997 (fun x => x = 30) r_434 ((0 : Nat) : Int) 1 := rf_fr n_973 fr_1022 (fun t9 (h9 : t9 = 30) (e9 : t9 = 33) => absurd (show (30 : Nat) = 33 from h9.symm.trans e9) (by decide))
        have n_1033 : rf cA G_997 (fun x => x = 30) r_496 ((4 : Nat) : Int) 1 := rf_fr n_974 fr_1022 (fun t9 (h9 : t9 = 30) (e9 : t9 = 33) => absurd (show (30 : Nat) = 33 from h9.symm.trans e9) (by decide))
        have n_1034 : rf cA G_997 (fun x => x = 30) r_560 ((1 : Nat) : Int) 2 := rf_fr n_975 fr_1022 (fun t9 (h9 : t9 = 30) (e9 : t9 = 33) => absurd (show (30 : Nat) = 33 from h9.symm.trans e9) (by decide))
        have n_1035 : rf cA G_997 (fun x => x = 30) r_626 ((1 : Nat) : Int) 6 := rf_fr n_976 fr_1022 (fun t9 (h9 : t9 = 30) (e9 : t9 = 33) => absurd (show (30 : Nat) = 33 from h9.symm.trans e9) (by decide))
        refine gst (pc' := 176) (L' := [(1, .int (nI 3)), (0, .ref h)]) (fun _ _ _ _ _ hl => lv_iinc (v := nI 3) hx hb d_Mf_init_173 hl (k := 0) rfl (by decide) (by decide) rfl) ?_
        refine gs (pc' := 154) (fun _ _ _ _ _ hl => lv_goto (tgt := 154) hx hb d_Mf_init_176 (by decide)) ?_
        refine gs (pc' := 155) (fun _ _ _ _ _ hl => lv_iload_n hx hb d_Mf_init_154 rfl (lv_at hl 0 rfl)) ?_
        refine gs (pc' := 157) (fun _ _ _ _ _ hl => lv_bipush (v := nI 8) hx hb d_Mf_init_155 (by decide)) ?_
        refine gsb (pc1 := 179) (pc2 := 160) (fun _ _ _ _ _ => lv_icmp_ge (tgt := 179) hx hb d_Mf_init_157 (by decide)) (fun c_1036 => ?_) (fun c_1036 => ?_)
        · skip
          have nc_1036 : 3 ≥ 8 := (nn_ge (a := 3) (b := 8) (by omega) (by omega)).1 c_1036
          exact absurd nc_1036 (by decide)
        · skip
          have nc_1036 : 3 < 8 := (nn_ge (a := 3) (b := 8) (by omega) (by omega)).2 c_1036
          refine gs (pc' := 161) (fun _ _ _ _ _ hl => lv_aload_n hx hb d_Mf_init_160 rfl (lv_at hl 1 rfl)) ?_
          refine g_get hx hb hts hin_Mf hown hK f_1011 rfl 2 (by decide) (hts _ wm237) (fun _ h9 => h9) rfl d_Mf_init_161 ?_
          refine gs (pc' := 165) (fun _ _ _ _ _ hl => lv_iload_n hx hb d_Mf_init_164 rfl (lv_at hl 0 rfl)) ?_
          refine g_new hx hb hts hin_Ro ty_Ro ty_Ro_ok hown (hts _ wm30) (hts _ wm216) (hts _ wm11) hK (ci := 5) rfl (fs := [.null, .null, .int (nI 0)]) (fun j => match j with | 0 => fun _ => rfl | 1 => fun _ => rfl | 2 => fun _ => rfl | n + 3 => fun h9 => absurd h9 (by omega)) hlo hRc hRs (show B_624.1 + 1 + 1 + 1 + 1 + 1 + 1 + 1 + 1 + 1 + 1 ≤ MC from lc_658 10 (by decide)) (show B_624.2 + 3 + 16 + 16 + 3 + 16 + 16 + 3 + 16 + 16 + 3 ≤ MS from ls_659 108 (by decide)) d_Mf_init_165 43 (fun q_1037 G_1038 z_1039 f_1040 o_1041 => ?_)
          have fr_1042 : gfr (fun y => y = 1000) G_997 G_1038 := gfr_new gfr_rf z_1039 o_1041
          have n_1043 : isN cA G_1038 24 11 a_158 0 := isN_fr n_1023 fr_1042 (show ¬ (11 : Nat) = 1000 by decide)
          have n_1044 : isN cA G_1038 24 12 b_159 0 := isN_fr n_1024 fr_1042 (show ¬ (12 : Nat) = 1000 by decide)
          have n_1045 : isN cA G_1038 24 13 a_221 0 := isN_fr n_1025 fr_1042 (show ¬ (13 : Nat) = 1000 by decide)
          have n_1046 : isN cA G_1038 24 14 b_222 0 := isN_fr n_1026 fr_1042 (show ¬ (14 : Nat) = 1000 by decide)
          have n_1047 : isN cA G_1038 24 15 a_293 0 := isN_fr n_1027 fr_1042 (show ¬ (15 : Nat) = 1000 by decide)
          have n_1048 : isN cA G_1038 24 16 b_294 0 := isN_fr n_1028 fr_1042 (show ¬ (16 : Nat) = 1000 by decide)
          have n_1049 : isN cA G_1038 24 17 a_374 0 := isN_fr n_1029 fr_1042 (show ¬ (17 : Nat) = 1000 by decide)
          have n_1050 : isN cA G_1038 24 18 b_375 0 := isN_fr n_1030 fr_1042 (show ¬ (18 : Nat) = 1000 by decide)
          have n_1051 : ∀ t9, t9 < 11 → isN cA G_1038 24 t9 (ad t9) 0 := fun t9 h9 => isN_fr (n_1031 t9 h9) fr_1042 (fun e9 : t9 = 1000 => absurd (show (1000 : Nat) < 11 from e9 ▸ h9) (by decide))
          have n_1052 : rf cA G_1038 (fun x => x = 30) r_434 ((0 : Nat) : Int) 1 := rf_fr n_1032 fr_1042 (fun t9 (h9 : t9 = 30) (e9 : t9 = 1000) => absurd (show (30 : Nat) = 1000 from h9.symm.trans e9) (by decide))
          have n_1053 : rf cA G_1038 (fun x => x = 30) r_496 ((4 : Nat) : Int) 1 := rf_fr n_1033 fr_1042 (fun t9 (h9 : t9 = 30) (e9 : t9 = 1000) => absurd (show (30 : Nat) = 1000 from h9.symm.trans e9) (by decide))
          have n_1054 : rf cA G_1038 (fun x => x = 30) r_560 ((1 : Nat) : Int) 2 := rf_fr n_1034 fr_1042 (fun t9 (h9 : t9 = 30) (e9 : t9 = 1000) => absurd (show (30 : Nat) = 1000 from h9.symm.trans e9) (by decide))
          have n_1055 : rf cA G_1038 (fun x => x = 30) r_626 ((1 : Nat) : Int) 6 := rf_fr n_1035 fr_1042 (fun t9 (h9 : t9 = 30) (e9 : t9 = 1000) => absurd (show (30 : Nat) = 1000 from h9.symm.trans e9) (by decide))
          have f_1056 : G_1038 q_1 = some (32, .inl (cA 2, 200, .inr (.inr (.inr (.inr (fun _ => none)))))) := (o_1041 _ (gne0 f_1000 z_1039)).trans f_1000
          have f_1057 : G_1038 q_50 = some (35, .inr (7, [.ref a_64, .ref a_65, .int (nI 0)])) := (o_1041 _ (gne0 f_1001 z_1039)).trans f_1001
          have f_1058 : G_1038 a_64 = some (36, .inl (cA 0, 12, .inl (fun _ => 0))) := (o_1041 _ (gne0 f_1002 z_1039)).trans f_1002
          have f_1059 : G_1038 a_65 = some (37, .inl (cA 1, 12, .inr (.inl (fun _ => 0)))) := (o_1041 _ (gne0 f_1003 z_1039)).trans f_1003
          have f_1060 : G_1038 q_87 = some (30, .inr (0, [.ref hd, .ref hc, .ref (ad 5), .ref (ad 6), .ref (ad 7), .ref (ad 8), .ref (ad 9), .ref (ad 10)])) := (o_1041 _ (gne0 f_1004 z_1039)).trans f_1004
          have f_1061 : G_1038 hd = some (30, .inr (2, [.ref (ad 0), .ref (ad 1), .ref (ad 2)])) := (o_1041 _ (gne0 f_1005 z_1039)).trans f_1005
          have f_1062 : G_1038 hc = some (19, .inr (1, [.ref hd, .ref (ad 3), .ref (ad 4), .long l_109, .long l_110, .long l_111, .long l_112])) := (o_1041 _ (gne0 f_1006 z_1039)).trans f_1006
          have f_1063 : G_1038 q_137 = some (20, .inr (3, [.int (nI 0), .ref a_158, .ref b_159])) := (o_1041 _ (gne0 f_1007 z_1039)).trans f_1007
          have f_1064 : G_1038 q_197 = some (21, .inr (3, [.int (nI 0), .ref a_221, .ref b_222])) := (o_1041 _ (gne0 f_1008 z_1039)).trans f_1008
          have f_1065 : G_1038 q_266 = some (22, .inr (3, [.int (nI 0), .ref a_293, .ref b_294])) := (o_1041 _ (gne0 f_1009 z_1039)).trans f_1009
          have f_1066 : G_1038 q_344 = some (23, .inr (3, [.int (nI 0), .ref a_374, .ref b_375])) := (o_1041 _ (gne0 f_1010 z_1039)).trans f_1010
          have f_1067 : G_1038 h = some (31, .inr (8, [.ref q_1, .int (nI 0), .ref q_24, .int (nI 0), .ref q_50, .ref q_87, .ref q_137, .ref q_197, .ref q_266, .ref q_344, .ref r_434, .ref r_496, .ref r_560, .ref r_626])) := (o_1041 _ (gne0 f_1011 z_1039)).trans f_1011
          have f_1068 : G_1038 q_692 = some (40, .inr (5, [.ref a_729, .ref a_730, .int (nI 0)])) := (o_1041 _ (gne0 f_1012 z_1039)).trans f_1012
          have f_1069 : G_1038 a_729 = some (50, .inl (cA 2, 16, .inr (.inr (.inr (.inr (fun _ => none)))))) := (o_1041 _ (gne0 f_1013 z_1039)).trans f_1013
          have f_1070 : G_1038 a_730 = some (60, .inl (cA 2, 16, .inr (.inr (.inr (.inr (fun _ => none)))))) := (o_1041 _ (gne0 f_1014 z_1039)).trans f_1014
          have f_1071 : G_1038 q_798 = some (41, .inr (5, [.ref a_838, .ref a_839, .int (nI 0)])) := (o_1041 _ (gne0 f_1015 z_1039)).trans f_1015
          have f_1072 : G_1038 a_838 = some (51, .inl (cA 2, 16, .inr (.inr (.inr (.inr (fun _ => none)))))) := (o_1041 _ (gne0 f_1016 z_1039)).trans f_1016
          have f_1073 : G_1038 a_839 = some (61, .inl (cA 2, 16, .inr (.inr (.inr (.inr (fun _ => none)))))) := (o_1041 _ (gne0 f_1017 z_1039)).trans f_1017
          have f_1074 : G_1038 q_913 = some (42, .inr (5, [.ref a_956, .ref a_957, .int (nI 0)])) := (o_1041 _ (gne0 f_1018 z_1039)).trans f_1018
          have f_1075 : G_1038 a_956 = some (52, .inl (cA 2, 16, .inr (.inr (.inr (.inr (fun _ => none)))))) := (o_1041 _ (gne0 f_1019 z_1039)).trans f_1019
          have f_1076 : G_1038 a_957 = some (62, .inl (cA 2, 16, .inr (.inr (.inr (.inr (fun _ => none)))))) := (o_1041 _ (gne0 f_1020 z_1039)).trans f_1020
          have f_1077 : G_1038 q_24 = some (33, .inl (cA 3, 8, .inr (.inr (.inr (.inr (va_up (va_up (va_up (fun _ => none) 0 (some q_692)) 1 (some q_798)) 2 (some q_913))))))) := (o_1041 _ (gne0 f_998 z_1039)).trans f_998
          have z_1078 : G q_1037 = none := gex_0 x_1021 z_1039 (fun z => by have z := z.symm; subst z; rw [f_1011] at z_1039; cases z_1039)
          have x_1079 : gex (fun x => x = h) G G_1038 := gex_new x_1021 z_1039 o_1041
          refine g_Beq (B' := (B_624.1 + 1 + 1 + 1 + 1 + 1 + 1 + 1 + 1 + 1 + 1, B_624.2 + 3 + 16 + 16 + 3 + 16 + 16 + 3 + 16 + 16 + 3)) rfl ?_
          refine gs (pc' := 169) (fun _ _ _ _ _ hl => lv_dup hx hb d_Mf_init_168 rfl) ?_
          obtain ⟨⟨hN1, hN2, hN3, hN4, -, -, -⟩, -⟩ := id hZ
          refine g_outv hlo (g_runIN (b := q_1037) (As := []) (rest := [.ref q_1037, .int (nI 3), .ref q_24]) ⟨hx, hb, hml, hown, hts⟩ hK hZ hRc hRs (c_Ro_init l D cA lo MC MS G_1038 (B_624.1 + 1 + 1 + 1 + 1 + 1 + 1 + 1 + 1 + 1 + 1, B_624.2 + 3 + 16 + 16 + 3 + 16 + 16 + 3 + 16 + 16 + 3) 43 53 63 q_1037 (by decide) (by decide) (by decide) f_1040 (show B_624.1 + 1 + 1 + 1 + 1 + 1 + 1 + 1 + 1 + 1 + 1 + 2 ≤ MC from lc_658 12 (by decide)) (show B_624.2 + 3 + 16 + 16 + 3 + 16 + 16 + 3 + 16 + 16 + 3 + 32 ≤ MS from ls_659 140 (by decide)) (show B_624.1 + 1 + 1 + 1 + 1 + 1 + 1 + 1 + 1 + 1 + 1 ≤ MC from lc_658 10 (by decide)) (show B_624.2 + 3 + 16 + 16 + 3 + 16 + 16 + 3 + 16 + 16 + 3 ≤ MS from ls_659 108 (by decide))) (fun _ _ => ⟨va_cnB 0 hts (tb_good k_Ro_init) rfl rfl rfl hN4 (hts _ wm11) (by decide +kernel) ⟨by rw [hRf]; exact Nat.le_of_ble_eq_true rfl, by rw [hRl]; exact Nat.le_of_ble_eq_true rfl⟩, rfl, hts _ wm218⟩) (show B_624.1 + 1 + 1 + 1 + 1 + 1 + 1 + 1 + 1 + 1 + 1 ≤ MC from lc_658 10 (by decide)) (show B_624.2 + 3 + 16 + 16 + 3 + 16 + 16 + 3 + 16 + 16 + 3 ≤ MS from ls_659 108 (by decide)) rfl (Nat.le_of_ble_eq_true rfl) d_Mf_init_169) (fun G_1080 B_1081 p_1082 => ?_)
          obtain ⟨a_1083, a_1084, f_1085, f_1086, f_1087, x_1088, e_1089⟩ := p_1082
          have fr_1090 : gfr (fun y => y = 43) G_1038 G_1080 := gfr_gex x_1088 f_1040
          have n_1091 : isN cA G_1080 24 11 a_158 0 := isN_fr n_1043 fr_1090 (show ¬ (11 : Nat) = 43 by decide)
          have n_1092 : isN cA G_1080 24 12 b_159 0 := isN_fr n_1044 fr_1090 (show ¬ (12 : Nat) = 43 by decide)
          have n_1093 : isN cA G_1080 24 13 a_221 0 := isN_fr n_1045 fr_1090 (show ¬ (13 : Nat) = 43 by decide)
          have n_1094 : isN cA G_1080 24 14 b_222 0 := isN_fr n_1046 fr_1090 (show ¬ (14 : Nat) = 43 by decide)
          have n_1095 : isN cA G_1080 24 15 a_293 0 := isN_fr n_1047 fr_1090 (show ¬ (15 : Nat) = 43 by decide)
          have n_1096 : isN cA G_1080 24 16 b_294 0 := isN_fr n_1048 fr_1090 (show ¬ (16 : Nat) = 43 by decide)
          have n_1097 : isN cA G_1080 24 17 a_374 0 := isN_fr n_1049 fr_1090 (show ¬ (17 : Nat) = 43 by decide)
          have n_1098 : isN cA G_1080 24 18 b_375 0 := isN_fr n_1050 fr_1090 (show ¬ (18 : Nat) = 43 by decide)
          have n_1099 : ∀ t9, t9 < 11 → isN cA G_1080 24 t9 (ad t9) 0 := fun t9 h9 => isN_fr (n_1051 t9 h9) fr_1090 (fun e9 : t9 = 43 => absurd (show (43 : Nat) < 11 from e9 ▸ h9) (by decide))
          have n_1100 : rf cA G_1080 (fun x => x = 30) r_434 ((0 : Nat) : Int) 1 := rf_fr n_1052 fr_1090 (fun t9 (h9 : t9 = 30) (e9 : t9 = 43) => absurd (show (30 : Nat) = 43 from h9.symm.trans e9) (by decide))
          have n_1101 : rf cA G_1080 (fun x => x = 30) r_496 ((4 : Nat) : Int) 1 := rf_fr n_1053 fr_1090 (fun t9 (h9 : t9 = 30) (e9 : t9 = 43) => absurd (show (30 : Nat) = 43 from h9.symm.trans e9) (by decide))
          have n_1102 : rf cA G_1080 (fun x => x = 30) r_560 ((1 : Nat) : Int) 2 := rf_fr n_1054 fr_1090 (fun t9 (h9 : t9 = 30) (e9 : t9 = 43) => absurd (show (30 : Nat) = 43 from h9.symm.trans e9) (by decide))
          have n_1103 : rf cA G_1080 (fun x => x = 30) r_626 ((1 : Nat) : Int) 6 := rf_fr n_1055 fr_1090 (fun t9 (h9 : t9 = 30) (e9 : t9 = 43) => absurd (show (30 : Nat) = 43 from h9.symm.trans e9) (by decide))
          have e_1089 : B_1081 = (B_624.1 + 1 + 1 + 1 + 1 + 1 + 1 + 1 + 1 + 1 + 1 + 1 + 1, B_624.2 + 3 + 16 + 16 + 3 + 16 + 16 + 3 + 16 + 16 + 3 + 16 + 16) := e_1089
          subst e_1089
          have f_1104 : G_1080 q_1 = some (32, .inl (cA 2, 200, .inr (.inr (.inr (.inr (fun _ => none)))))) := x_1088 _ _ f_1056 (gne f_1056 f_1040 (fun e => absurd (show (32 : Nat) = 43 from congrArg Prod.fst e) (by decide)))
          have f_1105 : G_1080 q_50 = some (35, .inr (7, [.ref a_64, .ref a_65, .int (nI 0)])) := x_1088 _ _ f_1057 (gne f_1057 f_1040 (fun e => absurd (show (35 : Nat) = 43 from congrArg Prod.fst e) (by decide)))
          have f_1106 : G_1080 a_64 = some (36, .inl (cA 0, 12, .inl (fun _ => 0))) := x_1088 _ _ f_1058 (gne f_1058 f_1040 (fun e => absurd (show (36 : Nat) = 43 from congrArg Prod.fst e) (by decide)))
          have f_1107 : G_1080 a_65 = some (37, .inl (cA 1, 12, .inr (.inl (fun _ => 0)))) := x_1088 _ _ f_1059 (gne f_1059 f_1040 (fun e => absurd (show (37 : Nat) = 43 from congrArg Prod.fst e) (by decide)))
          have f_1108 : G_1080 q_87 = some (30, .inr (0, [.ref hd, .ref hc, .ref (ad 5), .ref (ad 6), .ref (ad 7), .ref (ad 8), .ref (ad 9), .ref (ad 10)])) := x_1088 _ _ f_1060 (gne f_1060 f_1040 (fun e => absurd (show (30 : Nat) = 43 from congrArg Prod.fst e) (by decide)))
          have f_1109 : G_1080 hd = some (30, .inr (2, [.ref (ad 0), .ref (ad 1), .ref (ad 2)])) := x_1088 _ _ f_1061 (gne f_1061 f_1040 (fun e => absurd (show (30 : Nat) = 43 from congrArg Prod.fst e) (by decide)))
          have f_1110 : G_1080 hc = some (19, .inr (1, [.ref hd, .ref (ad 3), .ref (ad 4), .long l_109, .long l_110, .long l_111, .long l_112])) := x_1088 _ _ f_1062 (gne f_1062 f_1040 (fun e => absurd (show (19 : Nat) = 43 from congrArg Prod.fst e) (by decide)))
          have f_1111 : G_1080 q_137 = some (20, .inr (3, [.int (nI 0), .ref a_158, .ref b_159])) := x_1088 _ _ f_1063 (gne f_1063 f_1040 (fun e => absurd (show (20 : Nat) = 43 from congrArg Prod.fst e) (by decide)))
          have f_1112 : G_1080 q_197 = some (21, .inr (3, [.int (nI 0), .ref a_221, .ref b_222])) := x_1088 _ _ f_1064 (gne f_1064 f_1040 (fun e => absurd (show (21 : Nat) = 43 from congrArg Prod.fst e) (by decide)))
          have f_1113 : G_1080 q_266 = some (22, .inr (3, [.int (nI 0), .ref a_293, .ref b_294])) := x_1088 _ _ f_1065 (gne f_1065 f_1040 (fun e => absurd (show (22 : Nat) = 43 from congrArg Prod.fst e) (by decide)))
          have f_1114 : G_1080 q_344 = some (23, .inr (3, [.int (nI 0), .ref a_374, .ref b_375])) := x_1088 _ _ f_1066 (gne f_1066 f_1040 (fun e => absurd (show (23 : Nat) = 43 from congrArg Prod.fst e) (by decide)))
          have f_1115 : G_1080 h = some (31, .inr (8, [.ref q_1, .int (nI 0), .ref q_24, .int (nI 0), .ref q_50, .ref q_87, .ref q_137, .ref q_197, .ref q_266, .ref q_344, .ref r_434, .ref r_496, .ref r_560, .ref r_626])) := x_1088 _ _ f_1067 (gne f_1067 f_1040 (fun e => absurd (show (31 : Nat) = 43 from congrArg Prod.fst e) (by decide)))
          have f_1116 : G_1080 q_692 = some (40, .inr (5, [.ref a_729, .ref a_730, .int (nI 0)])) := x_1088 _ _ f_1068 (gne f_1068 f_1040 (fun e => absurd (show (40 : Nat) = 43 from congrArg Prod.fst e) (by decide)))
          have f_1117 : G_1080 a_729 = some (50, .inl (cA 2, 16, .inr (.inr (.inr (.inr (fun _ => none)))))) := x_1088 _ _ f_1069 (gne f_1069 f_1040 (fun e => absurd (show (50 : Nat) = 43 from congrArg Prod.fst e) (by decide)))
          have f_1118 : G_1080 a_730 = some (60, .inl (cA 2, 16, .inr (.inr (.inr (.inr (fun _ => none)))))) := x_1088 _ _ f_1070 (gne f_1070 f_1040 (fun e => absurd (show (60 : Nat) = 43 from congrArg Prod.fst e) (by decide)))
          have f_1119 : G_1080 q_798 = some (41, .inr (5, [.ref a_838, .ref a_839, .int (nI 0)])) := x_1088 _ _ f_1071 (gne f_1071 f_1040 (fun e => absurd (show (41 : Nat) = 43 from congrArg Prod.fst e) (by decide)))
          have f_1120 : G_1080 a_838 = some (51, .inl (cA 2, 16, .inr (.inr (.inr (.inr (fun _ => none)))))) := x_1088 _ _ f_1072 (gne f_1072 f_1040 (fun e => absurd (show (51 : Nat) = 43 from congrArg Prod.fst e) (by decide)))
          have f_1121 : G_1080 a_839 = some (61, .inl (cA 2, 16, .inr (.inr (.inr (.inr (fun _ => none)))))) := x_1088 _ _ f_1073 (gne f_1073 f_1040 (fun e => absurd (show (61 : Nat) = 43 from congrArg Prod.fst e) (by decide)))
          have f_1122 : G_1080 q_913 = some (42, .inr (5, [.ref a_956, .ref a_957, .int (nI 0)])) := x_1088 _ _ f_1074 (gne f_1074 f_1040 (fun e => absurd (show (42 : Nat) = 43 from congrArg Prod.fst e) (by decide)))
          have f_1123 : G_1080 a_956 = some (52, .inl (cA 2, 16, .inr (.inr (.inr (.inr (fun _ => none)))))) := x_1088 _ _ f_1075 (gne f_1075 f_1040 (fun e => absurd (show (52 : Nat) = 43 from congrArg Prod.fst e) (by decide)))
          have f_1124 : G_1080 a_957 = some (62, .inl (cA 2, 16, .inr (.inr (.inr (.inr (fun _ => none)))))) := x_1088 _ _ f_1076 (gne f_1076 f_1040 (fun e => absurd (show (62 : Nat) = 43 from congrArg Prod.fst e) (by decide)))
          have f_1125 : G_1080 q_24 = some (33, .inl (cA 3, 8, .inr (.inr (.inr (.inr (va_up (va_up (va_up (fun _ => none) 0 (some q_692)) 1 (some q_798)) 2 (some q_913))))))) := x_1088 _ _ f_1077 (gne f_1077 f_1040 (fun e => absurd (show (33 : Nat) = 43 from congrArg Prod.fst e) (by decide)))
          have x_1126 : gex (fun x => x = h) G G_1080 := gex_tr x_1079 x_1088 (fun x y hx9 _ e => by subst e; rw [z_1078] at hx9; cases hx9)
          refine g_aast hx hb hK 3 5 f_1125 rfl f_1085 rfl (show vp_in (nI 3) 8 from vp_in_nI (by omega) (by omega)) d_Mf_init_172 (fun G_1127 f_1128 o_1129 => ?_)
          rw [nI_clamp (by omega)] at f_1128
          have f_1130 : G_1127 q_1 = some (32, .inl (cA 2, 200, .inr (.inr (.inr (.inr (fun _ => none)))))) := (o_1129 _ (gne f_1104 f_1125 (fun e => absurd (show (32 : Nat) = 33 from congrArg Prod.fst e) (by decide)))).trans f_1104
          have f_1131 : G_1127 q_50 = some (35, .inr (7, [.ref a_64, .ref a_65, .int (nI 0)])) := (o_1129 _ (gne f_1105 f_1125 (fun e => absurd (show (35 : Nat) = 33 from congrArg Prod.fst e) (by decide)))).trans f_1105
          have f_1132 : G_1127 a_64 = some (36, .inl (cA 0, 12, .inl (fun _ => 0))) := (o_1129 _ (gne f_1106 f_1125 (fun e => absurd (show (36 : Nat) = 33 from congrArg Prod.fst e) (by decide)))).trans f_1106
          have f_1133 : G_1127 a_65 = some (37, .inl (cA 1, 12, .inr (.inl (fun _ => 0)))) := (o_1129 _ (gne f_1107 f_1125 (fun e => absurd (show (37 : Nat) = 33 from congrArg Prod.fst e) (by decide)))).trans f_1107
          have f_1134 : G_1127 q_87 = some (30, .inr (0, [.ref hd, .ref hc, .ref (ad 5), .ref (ad 6), .ref (ad 7), .ref (ad 8), .ref (ad 9), .ref (ad 10)])) := (o_1129 _ (gne f_1108 f_1125 (fun e => absurd (show (30 : Nat) = 33 from congrArg Prod.fst e) (by decide)))).trans f_1108
          have f_1135 : G_1127 hd = some (30, .inr (2, [.ref (ad 0), .ref (ad 1), .ref (ad 2)])) := (o_1129 _ (gne f_1109 f_1125 (fun e => absurd (show (30 : Nat) = 33 from congrArg Prod.fst e) (by decide)))).trans f_1109
          have f_1136 : G_1127 hc = some (19, .inr (1, [.ref hd, .ref (ad 3), .ref (ad 4), .long l_109, .long l_110, .long l_111, .long l_112])) := (o_1129 _ (gne f_1110 f_1125 (fun e => absurd (show (19 : Nat) = 33 from congrArg Prod.fst e) (by decide)))).trans f_1110
          have f_1137 : G_1127 q_137 = some (20, .inr (3, [.int (nI 0), .ref a_158, .ref b_159])) := (o_1129 _ (gne f_1111 f_1125 (fun e => absurd (show (20 : Nat) = 33 from congrArg Prod.fst e) (by decide)))).trans f_1111
          have f_1138 : G_1127 q_197 = some (21, .inr (3, [.int (nI 0), .ref a_221, .ref b_222])) := (o_1129 _ (gne f_1112 f_1125 (fun e => absurd (show (21 : Nat) = 33 from congrArg Prod.fst e) (by decide)))).trans f_1112
          have f_1139 : G_1127 q_266 = some (22, .inr (3, [.int (nI 0), .ref a_293, .ref b_294])) := (o_1129 _ (gne f_1113 f_1125 (fun e => absurd (show (22 : Nat) = 33 from congrArg Prod.fst e) (by decide)))).trans f_1113
          have f_1140 : G_1127 q_344 = some (23, .inr (3, [.int (nI 0), .ref a_374, .ref b_375])) := (o_1129 _ (gne f_1114 f_1125 (fun e => absurd (show (23 : Nat) = 33 from congrArg Prod.fst e) (by decide)))).trans f_1114
          have f_1141 : G_1127 h = some (31, .inr (8, [.ref q_1, .int (nI 0), .ref q_24, .int (nI 0), .ref q_50, .ref q_87, .ref q_137, .ref q_197, .ref q_266, .ref q_344, .ref r_434, .ref r_496, .ref r_560, .ref r_626])) := (o_1129 _ (gne f_1115 f_1125 (fun e => absurd (show (31 : Nat) = 33 from congrArg Prod.fst e) (by decide)))).trans f_1115
          have f_1142 : G_1127 q_692 = some (40, .inr (5, [.ref a_729, .ref a_730, .int (nI 0)])) := (o_1129 _ (gne f_1116 f_1125 (fun e => absurd (show (40 : Nat) = 33 from congrArg Prod.fst e) (by decide)))).trans f_1116
          have f_1143 : G_1127 a_729 = some (50, .inl (cA 2, 16, .inr (.inr (.inr (.inr (fun _ => none)))))) := (o_1129 _ (gne f_1117 f_1125 (fun e => absurd (show (50 : Nat) = 33 from congrArg Prod.fst e) (by decide)))).trans f_1117
          have f_1144 : G_1127 a_730 = some (60, .inl (cA 2, 16, .inr (.inr (.inr (.inr (fun _ => none)))))) := (o_1129 _ (gne f_1118 f_1125 (fun e => absurd (show (60 : Nat) = 33 from congrArg Prod.fst e) (by decide)))).trans f_1118
          have f_1145 : G_1127 q_798 = some (41, .inr (5, [.ref a_838, .ref a_839, .int (nI 0)])) := (o_1129 _ (gne f_1119 f_1125 (fun e => absurd (show (41 : Nat) = 33 from congrArg Prod.fst e) (by decide)))).trans f_1119
          have f_1146 : G_1127 a_838 = some (51, .inl (cA 2, 16, .inr (.inr (.inr (.inr (fun _ => none)))))) := (o_1129 _ (gne f_1120 f_1125 (fun e => absurd (show (51 : Nat) = 33 from congrArg Prod.fst e) (by decide)))).trans f_1120
          have f_1147 : G_1127 a_839 = some (61, .inl (cA 2, 16, .inr (.inr (.inr (.inr (fun _ => none)))))) := (o_1129 _ (gne f_1121 f_1125 (fun e => absurd (show (61 : Nat) = 33 from congrArg Prod.fst e) (by decide)))).trans f_1121
          have f_1148 : G_1127 q_913 = some (42, .inr (5, [.ref a_956, .ref a_957, .int (nI 0)])) := (o_1129 _ (gne f_1122 f_1125 (fun e => absurd (show (42 : Nat) = 33 from congrArg Prod.fst e) (by decide)))).trans f_1122
          have f_1149 : G_1127 a_956 = some (52, .inl (cA 2, 16, .inr (.inr (.inr (.inr (fun _ => none)))))) := (o_1129 _ (gne f_1123 f_1125 (fun e => absurd (show (52 : Nat) = 33 from congrArg Prod.fst e) (by decide)))).trans f_1123
          have f_1150 : G_1127 a_957 = some (62, .inl (cA 2, 16, .inr (.inr (.inr (.inr (fun _ => none)))))) := (o_1129 _ (gne f_1124 f_1125 (fun e => absurd (show (62 : Nat) = 33 from congrArg Prod.fst e) (by decide)))).trans f_1124
          have f_1151 : G_1127 q_1037 = some (43, .inr (5, [.ref a_1083, .ref a_1084, .int (nI 0)])) := (o_1129 _ (gne f_1085 f_1125 (fun e => absurd (show (43 : Nat) = 33 from congrArg Prod.fst e) (by decide)))).trans f_1085
          have f_1152 : G_1127 a_1083 = some (53, .inl (cA 2, 16, .inr (.inr (.inr (.inr (fun _ => none)))))) := (o_1129 _ (gne f_1086 f_1125 (fun e => absurd (show (53 : Nat) = 33 from congrArg Prod.fst e) (by decide)))).trans f_1086
          have f_1153 : G_1127 a_1084 = some (63, .inl (cA 2, 16, .inr (.inr (.inr (.inr (fun _ => none)))))) := (o_1129 _ (gne f_1087 f_1125 (fun e => absurd (show (63 : Nat) = 33 from congrArg Prod.fst e) (by decide)))).trans f_1087
          have x_1154 : gex (fun x => x = h) G G_1127 := gex_put x_1126 o_1129 (Or.inr z_32)
          have fr_1155 : gfr (fun y => y = 33) G_1080 G_1127 := gfr_put gfr_rf f_1125 rfl o_1129
          have n_1156 : isN cA G_1127 24 11 a_158 0 := isN_fr n_1091 fr_1155 (show ¬ (11 : Nat) = 33 by decide)
          have n_1157 : isN cA G_1127 24 12 b_159 0 := isN_fr n_1092 fr_1155 (show ¬ (12 : Nat) = 33 by decide)
          have n_1158 : isN cA G_1127 24 13 a_221 0 := isN_fr n_1093 fr_1155 (show ¬ (13 : Nat) = 33 by decide)
          have n_1159 : isN cA G_1127 24 14 b_222 0 := isN_fr n_1094 fr_1155 (show ¬ (14 : Nat) = 33 by decide)
          have n_1160 : isN cA G_1127 24 15 a_293 0 := isN_fr n_1095 fr_1155 (show ¬ (15 : Nat) = 33 by decide)
          have n_1161 : isN cA G_1127 24 16 b_294 0 := isN_fr n_1096 fr_1155 (show ¬ (16 : Nat) = 33 by decide)
          have n_1162 : isN cA G_1127 24 17 a_374 0 := isN_fr n_1097 fr_1155 (show ¬ (17 : Nat) = 33 by decide)
          have n_1163 : isN cA G_1127 24 18 b_375 0 := isN_fr n_1098 fr_1155 (show ¬ (18 : Nat) = 33 by decide)
          have n_1164 : ∀ t9, t9 < 11 → isN cA G_1127 24 t9 (ad t9) 0 := fun t9 h9 => isN_fr (n_1099 t9 h9) fr_1155 (fun e9 : t9 = 33 => absurd (show (33 : Nat) < 11 from e9 ▸ h9) (by decide))
          have n_1165 : rf cA G_1127 (fun x => x = 30) r_434 ((0 : Nat) : Int) 1 := rf_fr n_1100 fr_1155 (fun t9 (h9 : t9 = 30) (e9 : t9 = 33) => absurd (show (30 : Nat) = 33 from h9.symm.trans e9) (by decide))
          have n_1166 : rf cA G_1127 (fun x => x = 30) r_496 ((4 : Nat) : Int) 1 := rf_fr n_1101 fr_1155 (fun t9 (h9 : t9 = 30) (e9 : t9 = 33) => absurd (show (30 : Nat) = 33 from h9.symm.trans e9) (by decide))
          have n_1167 : rf cA G_1127 (fun x => x = 30) r_560 ((1 : Nat) : Int) 2 := rf_fr n_1102 fr_1155 (fun t9 (h9 : t9 = 30) (e9 : t9 = 33) => absurd (show (30 : Nat) = 33 from h9.symm.trans e9) (by decide))
          have n_1168 : rf cA G_1127 (fun x => x = 30) r_626 ((1 : Nat) : Int) 6 := rf_fr n_1103 fr_1155 (fun t9 (h9 : t9 = 30) (e9 : t9 = 33) => absurd (show (30 : Nat) = 33 from h9.symm.trans e9) (by decide))
          refine gst (pc' := 176) (L' := [(1, .int (nI 4)), (0, .ref h)]) (fun _ _ _ _ _ hl => lv_iinc (v := nI 4) hx hb d_Mf_init_173 hl (k := 0) rfl (by decide) (by decide) rfl) ?_
          refine gs (pc' := 154) (fun _ _ _ _ _ hl => lv_goto (tgt := 154) hx hb d_Mf_init_176 (by decide)) ?_
          refine gs (pc' := 155) (fun _ _ _ _ _ hl => lv_iload_n hx hb d_Mf_init_154 rfl (lv_at hl 0 rfl)) ?_
          refine gs (pc' := 157) (fun _ _ _ _ _ hl => lv_bipush (v := nI 8) hx hb d_Mf_init_155 (by decide)) ?_
          refine gsb (pc1 := 179) (pc2 := 160) (fun _ _ _ _ _ => lv_icmp_ge (tgt := 179) hx hb d_Mf_init_157 (by decide)) (fun c_1169 => ?_) (fun c_1169 => ?_)
          · skip
            have nc_1169 : 4 ≥ 8 := (nn_ge (a := 4) (b := 8) (by omega) (by omega)).1 c_1169
            exact absurd nc_1169 (by decide)
          · skip
            have nc_1169 : 4 < 8 := (nn_ge (a := 4) (b := 8) (by omega) (by omega)).2 c_1169
            refine gs (pc' := 161) (fun _ _ _ _ _ hl => lv_aload_n hx hb d_Mf_init_160 rfl (lv_at hl 1 rfl)) ?_
            refine g_get hx hb hts hin_Mf hown hK f_1141 rfl 2 (by decide) (hts _ wm237) (fun _ h9 => h9) rfl d_Mf_init_161 ?_
            refine gs (pc' := 165) (fun _ _ _ _ _ hl => lv_iload_n hx hb d_Mf_init_164 rfl (lv_at hl 0 rfl)) ?_
            refine g_new hx hb hts hin_Ro ty_Ro ty_Ro_ok hown (hts _ wm30) (hts _ wm216) (hts _ wm11) hK (ci := 5) rfl (fs := [.null, .null, .int (nI 0)]) (fun j => match j with | 0 => fun _ => rfl | 1 => fun _ => rfl | 2 => fun _ => rfl | n + 3 => fun h9 => absurd h9 (by omega)) hlo hRc hRs (show B_624.1 + 1 + 1 + 1 + 1 + 1 + 1 + 1 + 1 + 1 + 1 + 1 + 1 + 1 ≤ MC from lc_658 13 (by decide)) (show B_624.2 + 3 + 16 + 16 + 3 + 16 + 16 + 3 + 16 + 16 + 3 + 16 + 16 + 3 ≤ MS from ls_659 143 (by decide)) d_Mf_init_165 44 (fun q_1170 G_1171 z_1172 f_1173 o_1174 => ?_)
            have fr_1175 : gfr (fun y => y = 1000) G_1127 G_1171 := gfr_new gfr_rf z_1172 o_1174
            have n_1176 : isN cA G_1171 24 11 a_158 0 := isN_fr n_1156 fr_1175 (show ¬ (11 : Nat) = 1000 by decide)
            have n_1177 : isN cA G_1171 24 12 b_159 0 := isN_fr n_1157 fr_1175 (show ¬ (12 : Nat) = 1000 by decide)
            have n_1178 : isN cA G_1171 24 13 a_221 0 := isN_fr n_1158 fr_1175 (show ¬ (13 : Nat) = 1000 by decide)
            have n_1179 : isN cA G_1171 24 14 b_222 0 := isN_fr n_1159 fr_1175 (show ¬ (14 : Nat) = 1000 by decide)
            have n_1180 : isN cA G_1171 24 15 a_293 0 := isN_fr n_1160 fr_1175 (show ¬ (15 : Nat) = 1000 by decide)
            have n_1181 : isN cA G_1171 24 16 b_294 0 := isN_fr n_1161 fr_1175 (show ¬ (16 : Nat) = 1000 by decide)
            have n_1182 : isN cA G_1171 24 17 a_374 0 := isN_fr n_1162 fr_1175 (show ¬ (17 : Nat) = 1000 by decide)
            have n_1183 : isN cA G_1171 24 18 b_375 0 := isN_fr n_1163 fr_1175 (show ¬ (18 : Nat) = 1000 by decide)
            have n_1184 : ∀ t9, t9 < 11 → isN cA G_1171 24 t9 (ad t9) 0 := fun t9 h9 => isN_fr (n_1164 t9 h9) fr_1175 (fun e9 : t9 = 1000 => absurd (show (1000 : Nat) < 11 from e9 ▸ h9) (by decide))
            have n_1185 : rf cA G_1171 (fun x => x = 30) r_434 ((0 : Nat) : Int) 1 := rf_fr n_1165 fr_1175 (fun t9 (h9 : t9 = 30) (e9 : t9 = 1000) => absurd (show (30 : Nat) = 1000 from h9.symm.trans e9) (by decide))
            have n_1186 : rf cA G_1171 (fun x => x = 30) r_496 ((4 : Nat) : Int) 1 := rf_fr n_1166 fr_1175 (fun t9 (h9 : t9 = 30) (e9 : t9 = 1000) => absurd (show (30 : Nat) = 1000 from h9.symm.trans e9) (by decide))
            have n_1187 : rf cA G_1171 (fun x => x = 30) r_560 ((1 : Nat) : Int) 2 := rf_fr n_1167 fr_1175 (fun t9 (h9 : t9 = 30) (e9 : t9 = 1000) => absurd (show (30 : Nat) = 1000 from h9.symm.trans e9) (by decide))
            have n_1188 : rf cA G_1171 (fun x => x = 30) r_626 ((1 : Nat) : Int) 6 := rf_fr n_1168 fr_1175 (fun t9 (h9 : t9 = 30) (e9 : t9 = 1000) => absurd (show (30 : Nat) = 1000 from h9.symm.trans e9) (by decide))
            have f_1189 : G_1171 q_1 = some (32, .inl (cA 2, 200, .inr (.inr (.inr (.inr (fun _ => none)))))) := (o_1174 _ (gne0 f_1130 z_1172)).trans f_1130
            have f_1190 : G_1171 q_50 = some (35, .inr (7, [.ref a_64, .ref a_65, .int (nI 0)])) := (o_1174 _ (gne0 f_1131 z_1172)).trans f_1131
            have f_1191 : G_1171 a_64 = some (36, .inl (cA 0, 12, .inl (fun _ => 0))) := (o_1174 _ (gne0 f_1132 z_1172)).trans f_1132
            have f_1192 : G_1171 a_65 = some (37, .inl (cA 1, 12, .inr (.inl (fun _ => 0)))) := (o_1174 _ (gne0 f_1133 z_1172)).trans f_1133
            have f_1193 : G_1171 q_87 = some (30, .inr (0, [.ref hd, .ref hc, .ref (ad 5), .ref (ad 6), .ref (ad 7), .ref (ad 8), .ref (ad 9), .ref (ad 10)])) := (o_1174 _ (gne0 f_1134 z_1172)).trans f_1134
            have f_1194 : G_1171 hd = some (30, .inr (2, [.ref (ad 0), .ref (ad 1), .ref (ad 2)])) := (o_1174 _ (gne0 f_1135 z_1172)).trans f_1135
            have f_1195 : G_1171 hc = some (19, .inr (1, [.ref hd, .ref (ad 3), .ref (ad 4), .long l_109, .long l_110, .long l_111, .long l_112])) := (o_1174 _ (gne0 f_1136 z_1172)).trans f_1136
            have f_1196 : G_1171 q_137 = some (20, .inr (3, [.int (nI 0), .ref a_158, .ref b_159])) := (o_1174 _ (gne0 f_1137 z_1172)).trans f_1137
            have f_1197 : G_1171 q_197 = some (21, .inr (3, [.int (nI 0), .ref a_221, .ref b_222])) := (o_1174 _ (gne0 f_1138 z_1172)).trans f_1138
            have f_1198 : G_1171 q_266 = some (22, .inr (3, [.int (nI 0), .ref a_293, .ref b_294])) := (o_1174 _ (gne0 f_1139 z_1172)).trans f_1139
            have f_1199 : G_1171 q_344 = some (23, .inr (3, [.int (nI 0), .ref a_374, .ref b_375])) := (o_1174 _ (gne0 f_1140 z_1172)).trans f_1140
            have f_1200 : G_1171 h = some (31, .inr (8, [.ref q_1, .int (nI 0), .ref q_24, .int (nI 0), .ref q_50, .ref q_87, .ref q_137, .ref q_197, .ref q_266, .ref q_344, .ref r_434, .ref r_496, .ref r_560, .ref r_626])) := (o_1174 _ (gne0 f_1141 z_1172)).trans f_1141
            have f_1201 : G_1171 q_692 = some (40, .inr (5, [.ref a_729, .ref a_730, .int (nI 0)])) := (o_1174 _ (gne0 f_1142 z_1172)).trans f_1142
            have f_1202 : G_1171 a_729 = some (50, .inl (cA 2, 16, .inr (.inr (.inr (.inr (fun _ => none)))))) := (o_1174 _ (gne0 f_1143 z_1172)).trans f_1143
            have f_1203 : G_1171 a_730 = some (60, .inl (cA 2, 16, .inr (.inr (.inr (.inr (fun _ => none)))))) := (o_1174 _ (gne0 f_1144 z_1172)).trans f_1144
            have f_1204 : G_1171 q_798 = some (41, .inr (5, [.ref a_838, .ref a_839, .int (nI 0)])) := (o_1174 _ (gne0 f_1145 z_1172)).trans f_1145
            have f_1205 : G_1171 a_838 = some (51, .inl (cA 2, 16, .inr (.inr (.inr (.inr (fun _ => none)))))) := (o_1174 _ (gne0 f_1146 z_1172)).trans f_1146
            have f_1206 : G_1171 a_839 = some (61, .inl (cA 2, 16, .inr (.inr (.inr (.inr (fun _ => none)))))) := (o_1174 _ (gne0 f_1147 z_1172)).trans f_1147
            have f_1207 : G_1171 q_913 = some (42, .inr (5, [.ref a_956, .ref a_957, .int (nI 0)])) := (o_1174 _ (gne0 f_1148 z_1172)).trans f_1148
            have f_1208 : G_1171 a_956 = some (52, .inl (cA 2, 16, .inr (.inr (.inr (.inr (fun _ => none)))))) := (o_1174 _ (gne0 f_1149 z_1172)).trans f_1149
            have f_1209 : G_1171 a_957 = some (62, .inl (cA 2, 16, .inr (.inr (.inr (.inr (fun _ => none)))))) := (o_1174 _ (gne0 f_1150 z_1172)).trans f_1150
            have f_1210 : G_1171 q_1037 = some (43, .inr (5, [.ref a_1083, .ref a_1084, .int (nI 0)])) := (o_1174 _ (gne0 f_1151 z_1172)).trans f_1151
            have f_1211 : G_1171 a_1083 = some (53, .inl (cA 2, 16, .inr (.inr (.inr (.inr (fun _ => none)))))) := (o_1174 _ (gne0 f_1152 z_1172)).trans f_1152
            have f_1212 : G_1171 a_1084 = some (63, .inl (cA 2, 16, .inr (.inr (.inr (.inr (fun _ => none)))))) := (o_1174 _ (gne0 f_1153 z_1172)).trans f_1153
            have f_1213 : G_1171 q_24 = some (33, .inl (cA 3, 8, .inr (.inr (.inr (.inr (va_up (va_up (va_up (va_up (fun _ => none) 0 (some q_692)) 1 (some q_798)) 2 (some q_913)) 3 (some q_1037))))))) := (o_1174 _ (gne0 f_1128 z_1172)).trans f_1128
            have z_1214 : G q_1170 = none := gex_0 x_1154 z_1172 (fun z => by have z := z.symm; subst z; rw [f_1141] at z_1172; cases z_1172)
            have x_1215 : gex (fun x => x = h) G G_1171 := gex_new x_1154 z_1172 o_1174
            refine g_Beq (B' := (B_624.1 + 1 + 1 + 1 + 1 + 1 + 1 + 1 + 1 + 1 + 1 + 1 + 1 + 1, B_624.2 + 3 + 16 + 16 + 3 + 16 + 16 + 3 + 16 + 16 + 3 + 16 + 16 + 3)) rfl ?_
            refine gs (pc' := 169) (fun _ _ _ _ _ hl => lv_dup hx hb d_Mf_init_168 rfl) ?_
            obtain ⟨⟨hN1, hN2, hN3, hN4, -, -, -⟩, -⟩ := id hZ
            refine g_outv hlo (g_runIN (b := q_1170) (As := []) (rest := [.ref q_1170, .int (nI 4), .ref q_24]) ⟨hx, hb, hml, hown, hts⟩ hK hZ hRc hRs (c_Ro_init l D cA lo MC MS G_1171 (B_624.1 + 1 + 1 + 1 + 1 + 1 + 1 + 1 + 1 + 1 + 1 + 1 + 1 + 1, B_624.2 + 3 + 16 + 16 + 3 + 16 + 16 + 3 + 16 + 16 + 3 + 16 + 16 + 3) 44 54 64 q_1170 (by decide) (by decide) (by decide) f_1173 (show B_624.1 + 1 + 1 + 1 + 1 + 1 + 1 + 1 + 1 + 1 + 1 + 1 + 1 + 1 + 2 ≤ MC from lc_658 15 (by decide)) (show B_624.2 + 3 + 16 + 16 + 3 + 16 + 16 + 3 + 16 + 16 + 3 + 16 + 16 + 3 + 32 ≤ MS from ls_659 175 (by decide)) (show B_624.1 + 1 + 1 + 1 + 1 + 1 + 1 + 1 + 1 + 1 + 1 + 1 + 1 + 1 ≤ MC from lc_658 13 (by decide)) (show B_624.2 + 3 + 16 + 16 + 3 + 16 + 16 + 3 + 16 + 16 + 3 + 16 + 16 + 3 ≤ MS from ls_659 143 (by decide))) (fun _ _ => ⟨va_cnB 0 hts (tb_good k_Ro_init) rfl rfl rfl hN4 (hts _ wm11) (by decide +kernel) ⟨by rw [hRf]; exact Nat.le_of_ble_eq_true rfl, by rw [hRl]; exact Nat.le_of_ble_eq_true rfl⟩, rfl, hts _ wm218⟩) (show B_624.1 + 1 + 1 + 1 + 1 + 1 + 1 + 1 + 1 + 1 + 1 + 1 + 1 + 1 ≤ MC from lc_658 13 (by decide)) (show B_624.2 + 3 + 16 + 16 + 3 + 16 + 16 + 3 + 16 + 16 + 3 + 16 + 16 + 3 ≤ MS from ls_659 143 (by decide)) rfl (Nat.le_of_ble_eq_true rfl) d_Mf_init_169) (fun G_1216 B_1217 p_1218 => ?_)
            obtain ⟨a_1219, a_1220, f_1221, f_1222, f_1223, x_1224, e_1225⟩ := p_1218
            have fr_1226 : gfr (fun y => y = 44) G_1171 G_1216 := gfr_gex x_1224 f_1173
            have n_1227 : isN cA G_1216 24 11 a_158 0 := isN_fr n_1176 fr_1226 (show ¬ (11 : Nat) = 44 by decide)
            have n_1228 : isN cA G_1216 24 12 b_159 0 := isN_fr n_1177 fr_1226 (show ¬ (12 : Nat) = 44 by decide)
            have n_1229 : isN cA G_1216 24 13 a_221 0 := isN_fr n_1178 fr_1226 (show ¬ (13 : Nat) = 44 by decide)
            have n_1230 : isN cA G_1216 24 14 b_222 0 := isN_fr n_1179 fr_1226 (show ¬ (14 : Nat) = 44 by decide)
            have n_1231 : isN cA G_1216 24 15 a_293 0 := isN_fr n_1180 fr_1226 (show ¬ (15 : Nat) = 44 by decide)
            have n_1232 : isN cA G_1216 24 16 b_294 0 := isN_fr n_1181 fr_1226 (show ¬ (16 : Nat) = 44 by decide)
            have n_1233 : isN cA G_1216 24 17 a_374 0 := isN_fr n_1182 fr_1226 (show ¬ (17 : Nat) = 44 by decide)
            have n_1234 : isN cA G_1216 24 18 b_375 0 := isN_fr n_1183 fr_1226 (show ¬ (18 : Nat) = 44 by decide)
            have n_1235 : ∀ t9, t9 < 11 → isN cA G_1216 24 t9 (ad t9) 0 := fun t9 h9 => isN_fr (n_1184 t9 h9) fr_1226 (fun e9 : t9 = 44 => absurd (show (44 : Nat) < 11 from e9 ▸ h9) (by decide))
            have n_1236 : rf cA G_1216 (fun x => x = 30) r_434 ((0 : Nat) : Int) 1 := rf_fr n_1185 fr_1226 (fun t9 (h9 : t9 = 30) (e9 : t9 = 44) => absurd (show (30 : Nat) = 44 from h9.symm.trans e9) (by decide))
            have n_1237 : rf cA G_1216 (fun x => x = 30) r_496 ((4 : Nat) : Int) 1 := rf_fr n_1186 fr_1226 (fun t9 (h9 : t9 = 30) (e9 : t9 = 44) => absurd (show (30 : Nat) = 44 from h9.symm.trans e9) (by decide))
            have n_1238 : rf cA G_1216 (fun x => x = 30) r_560 ((1 : Nat) : Int) 2 := rf_fr n_1187 fr_1226 (fun t9 (h9 : t9 = 30) (e9 : t9 = 44) => absurd (show (30 : Nat) = 44 from h9.symm.trans e9) (by decide))
            have n_1239 : rf cA G_1216 (fun x => x = 30) r_626 ((1 : Nat) : Int) 6 := rf_fr n_1188 fr_1226 (fun t9 (h9 : t9 = 30) (e9 : t9 = 44) => absurd (show (30 : Nat) = 44 from h9.symm.trans e9) (by decide))
            have e_1225 : B_1217 = (B_624.1 + 1 + 1 + 1 + 1 + 1 + 1 + 1 + 1 + 1 + 1 + 1 + 1 + 1 + 1 + 1, B_624.2 + 3 + 16 + 16 + 3 + 16 + 16 + 3 + 16 + 16 + 3 + 16 + 16 + 3 + 16 + 16) := e_1225
            subst e_1225
            have f_1240 : G_1216 q_1 = some (32, .inl (cA 2, 200, .inr (.inr (.inr (.inr (fun _ => none)))))) := x_1224 _ _ f_1189 (gne f_1189 f_1173 (fun e => absurd (show (32 : Nat) = 44 from congrArg Prod.fst e) (by decide)))
            have f_1241 : G_1216 q_50 = some (35, .inr (7, [.ref a_64, .ref a_65, .int (nI 0)])) := x_1224 _ _ f_1190 (gne f_1190 f_1173 (fun e => absurd (show (35 : Nat) = 44 from congrArg Prod.fst e) (by decide)))
            have f_1242 : G_1216 a_64 = some (36, .inl (cA 0, 12, .inl (fun _ => 0))) := x_1224 _ _ f_1191 (gne f_1191 f_1173 (fun e => absurd (show (36 : Nat) = 44 from congrArg Prod.fst e) (by decide)))
            have f_1243 : G_1216 a_65 = some (37, .inl (cA 1, 12, .inr (.inl (fun _ => 0)))) := x_1224 _ _ f_1192 (gne f_1192 f_1173 (fun e => absurd (show (37 : Nat) = 44 from congrArg Prod.fst e) (by decide)))
            have f_1244 : G_1216 q_87 = some (30, .inr (0, [.ref hd, .ref hc, .ref (ad 5), .ref (ad 6), .ref (ad 7), .ref (ad 8), .ref (ad 9), .ref (ad 10)])) := x_1224 _ _ f_1193 (gne f_1193 f_1173 (fun e => absurd (show (30 : Nat) = 44 from congrArg Prod.fst e) (by decide)))
            have f_1245 : G_1216 hd = some (30, .inr (2, [.ref (ad 0), .ref (ad 1), .ref (ad 2)])) := x_1224 _ _ f_1194 (gne f_1194 f_1173 (fun e => absurd (show (30 : Nat) = 44 from congrArg Prod.fst e) (by decide)))
            have f_1246 : G_1216 hc = some (19, .inr (1, [.ref hd, .ref (ad 3), .ref (ad 4), .long l_109, .long l_110, .long l_111, .long l_112])) := x_1224 _ _ f_1195 (gne f_1195 f_1173 (fun e => absurd (show (19 : Nat) = 44 from congrArg Prod.fst e) (by decide)))
            have f_1247 : G_1216 q_137 = some (20, .inr (3, [.int (nI 0), .ref a_158, .ref b_159])) := x_1224 _ _ f_1196 (gne f_1196 f_1173 (fun e => absurd (show (20 : Nat) = 44 from congrArg Prod.fst e) (by decide)))
            have f_1248 : G_1216 q_197 = some (21, .inr (3, [.int (nI 0), .ref a_221, .ref b_222])) := x_1224 _ _ f_1197 (gne f_1197 f_1173 (fun e => absurd (show (21 : Nat) = 44 from congrArg Prod.fst e) (by decide)))
            have f_1249 : G_1216 q_266 = some (22, .inr (3, [.int (nI 0), .ref a_293, .ref b_294])) := x_1224 _ _ f_1198 (gne f_1198 f_1173 (fun e => absurd (show (22 : Nat) = 44 from congrArg Prod.fst e) (by decide)))
            have f_1250 : G_1216 q_344 = some (23, .inr (3, [.int (nI 0), .ref a_374, .ref b_375])) := x_1224 _ _ f_1199 (gne f_1199 f_1173 (fun e => absurd (show (23 : Nat) = 44 from congrArg Prod.fst e) (by decide)))
            have f_1251 : G_1216 h = some (31, .inr (8, [.ref q_1, .int (nI 0), .ref q_24, .int (nI 0), .ref q_50, .ref q_87, .ref q_137, .ref q_197, .ref q_266, .ref q_344, .ref r_434, .ref r_496, .ref r_560, .ref r_626])) := x_1224 _ _ f_1200 (gne f_1200 f_1173 (fun e => absurd (show (31 : Nat) = 44 from congrArg Prod.fst e) (by decide)))
            have f_1252 : G_1216 q_692 = some (40, .inr (5, [.ref a_729, .ref a_730, .int (nI 0)])) := x_1224 _ _ f_1201 (gne f_1201 f_1173 (fun e => absurd (show (40 : Nat) = 44 from congrArg Prod.fst e) (by decide)))
            have f_1253 : G_1216 a_729 = some (50, .inl (cA 2, 16, .inr (.inr (.inr (.inr (fun _ => none)))))) := x_1224 _ _ f_1202 (gne f_1202 f_1173 (fun e => absurd (show (50 : Nat) = 44 from congrArg Prod.fst e) (by decide)))
            have f_1254 : G_1216 a_730 = some (60, .inl (cA 2, 16, .inr (.inr (.inr (.inr (fun _ => none)))))) := x_1224 _ _ f_1203 (gne f_1203 f_1173 (fun e => absurd (show (60 : Nat) = 44 from congrArg Prod.fst e) (by decide)))
            have f_1255 : G_1216 q_798 = some (41, .inr (5, [.ref a_838, .ref a_839, .int (nI 0)])) := x_1224 _ _ f_1204 (gne f_1204 f_1173 (fun e => absurd (show (41 : Nat) = 44 from congrArg Prod.fst e) (by decide)))
            have f_1256 : G_1216 a_838 = some (51, .inl (cA 2, 16, .inr (.inr (.inr (.inr (fun _ => none)))))) := x_1224 _ _ f_1205 (gne f_1205 f_1173 (fun e => absurd (show (51 : Nat) = 44 from congrArg Prod.fst e) (by decide)))
            have f_1257 : G_1216 a_839 = some (61, .inl (cA 2, 16, .inr (.inr (.inr (.inr (fun _ => none)))))) := x_1224 _ _ f_1206 (gne f_1206 f_1173 (fun e => absurd (show (61 : Nat) = 44 from congrArg Prod.fst e) (by decide)))
            have f_1258 : G_1216 q_913 = some (42, .inr (5, [.ref a_956, .ref a_957, .int (nI 0)])) := x_1224 _ _ f_1207 (gne f_1207 f_1173 (fun e => absurd (show (42 : Nat) = 44 from congrArg Prod.fst e) (by decide)))
            have f_1259 : G_1216 a_956 = some (52, .inl (cA 2, 16, .inr (.inr (.inr (.inr (fun _ => none)))))) := x_1224 _ _ f_1208 (gne f_1208 f_1173 (fun e => absurd (show (52 : Nat) = 44 from congrArg Prod.fst e) (by decide)))
            have f_1260 : G_1216 a_957 = some (62, .inl (cA 2, 16, .inr (.inr (.inr (.inr (fun _ => none)))))) := x_1224 _ _ f_1209 (gne f_1209 f_1173 (fun e => absurd (show (62 : Nat) = 44 from congrArg Prod.fst e) (by decide)))
            have f_1261 : G_1216 q_1037 = some (43, .inr (5, [.ref a_1083, .ref a_1084, .int (nI 0)])) := x_1224 _ _ f_1210 (gne f_1210 f_1173 (fun e => absurd (show (43 : Nat) = 44 from congrArg Prod.fst e) (by decide)))
            have f_1262 : G_1216 a_1083 = some (53, .inl (cA 2, 16, .inr (.inr (.inr (.inr (fun _ => none)))))) := x_1224 _ _ f_1211 (gne f_1211 f_1173 (fun e => absurd (show (53 : Nat) = 44 from congrArg Prod.fst e) (by decide)))
            have f_1263 : G_1216 a_1084 = some (63, .inl (cA 2, 16, .inr (.inr (.inr (.inr (fun _ => none)))))) := x_1224 _ _ f_1212 (gne f_1212 f_1173 (fun e => absurd (show (63 : Nat) = 44 from congrArg Prod.fst e) (by decide)))
            have f_1264 : G_1216 q_24 = some (33, .inl (cA 3, 8, .inr (.inr (.inr (.inr (va_up (va_up (va_up (va_up (fun _ => none) 0 (some q_692)) 1 (some q_798)) 2 (some q_913)) 3 (some q_1037))))))) := x_1224 _ _ f_1213 (gne f_1213 f_1173 (fun e => absurd (show (33 : Nat) = 44 from congrArg Prod.fst e) (by decide)))
            have x_1265 : gex (fun x => x = h) G G_1216 := gex_tr x_1215 x_1224 (fun x y hx9 _ e => by subst e; rw [z_1214] at hx9; cases hx9)
            refine g_aast hx hb hK 3 5 f_1264 rfl f_1221 rfl (show vp_in (nI 4) 8 from vp_in_nI (by omega) (by omega)) d_Mf_init_172 (fun G_1266 f_1267 o_1268 => ?_)
            rw [nI_clamp (by omega)] at f_1267
            have f_1269 : G_1266 q_1 = some (32, .inl (cA 2, 200, .inr (.inr (.inr (.inr (fun _ => none)))))) := (o_1268 _ (gne f_1240 f_1264 (fun e => absurd (show (32 : Nat) = 33 from congrArg Prod.fst e) (by decide)))).trans f_1240
            have f_1270 : G_1266 q_50 = some (35, .inr (7, [.ref a_64, .ref a_65, .int (nI 0)])) := (o_1268 _ (gne f_1241 f_1264 (fun e => absurd (show (35 : Nat) = 33 from congrArg Prod.fst e) (by decide)))).trans f_1241
            have f_1271 : G_1266 a_64 = some (36, .inl (cA 0, 12, .inl (fun _ => 0))) := (o_1268 _ (gne f_1242 f_1264 (fun e => absurd (show (36 : Nat) = 33 from congrArg Prod.fst e) (by decide)))).trans f_1242
            have f_1272 : G_1266 a_65 = some (37, .inl (cA 1, 12, .inr (.inl (fun _ => 0)))) := (o_1268 _ (gne f_1243 f_1264 (fun e => absurd (show (37 : Nat) = 33 from congrArg Prod.fst e) (by decide)))).trans f_1243
            have f_1273 : G_1266 q_87 = some (30, .inr (0, [.ref hd, .ref hc, .ref (ad 5), .ref (ad 6), .ref (ad 7), .ref (ad 8), .ref (ad 9), .ref (ad 10)])) := (o_1268 _ (gne f_1244 f_1264 (fun e => absurd (show (30 : Nat) = 33 from congrArg Prod.fst e) (by decide)))).trans f_1244
            have f_1274 : G_1266 hd = some (30, .inr (2, [.ref (ad 0), .ref (ad 1), .ref (ad 2)])) := (o_1268 _ (gne f_1245 f_1264 (fun e => absurd (show (30 : Nat) = 33 from congrArg Prod.fst e) (by decide)))).trans f_1245
            have f_1275 : G_1266 hc = some (19, .inr (1, [.ref hd, .ref (ad 3), .ref (ad 4), .long l_109, .long l_110, .long l_111, .long l_112])) := (o_1268 _ (gne f_1246 f_1264 (fun e => absurd (show (19 : Nat) = 33 from congrArg Prod.fst e) (by decide)))).trans f_1246
            have f_1276 : G_1266 q_137 = some (20, .inr (3, [.int (nI 0), .ref a_158, .ref b_159])) := (o_1268 _ (gne f_1247 f_1264 (fun e => absurd (show (20 : Nat) = 33 from congrArg Prod.fst e) (by decide)))).trans f_1247
            have f_1277 : G_1266 q_197 = some (21, .inr (3, [.int (nI 0), .ref a_221, .ref b_222])) := (o_1268 _ (gne f_1248 f_1264 (fun e => absurd (show (21 : Nat) = 33 from congrArg Prod.fst e) (by decide)))).trans f_1248
            have f_1278 : G_1266 q_266 = some (22, .inr (3, [.int (nI 0), .ref a_293, .ref b_294])) := (o_1268 _ (gne f_1249 f_1264 (fun e => absurd (show (22 : Nat) = 33 from congrArg Prod.fst e) (by decide)))).trans f_1249
            have f_1279 : G_1266 q_344 = some (23, .inr (3, [.int (nI 0), .ref a_374, .ref b_375])) := (o_1268 _ (gne f_1250 f_1264 (fun e => absurd (show (23 : Nat) = 33 from congrArg Prod.fst e) (by decide)))).trans f_1250
            have f_1280 : G_1266 h = some (31, .inr (8, [.ref q_1, .int (nI 0), .ref q_24, .int (nI 0), .ref q_50, .ref q_87, .ref q_137, .ref q_197, .ref q_266, .ref q_344, .ref r_434, .ref r_496, .ref r_560, .ref r_626])) := (o_1268 _ (gne f_1251 f_1264 (fun e => absurd (show (31 : Nat) = 33 from congrArg Prod.fst e) (by decide)))).trans f_1251
            have f_1281 : G_1266 q_692 = some (40, .inr (5, [.ref a_729, .ref a_730, .int (nI 0)])) := (o_1268 _ (gne f_1252 f_1264 (fun e => absurd (show (40 : Nat) = 33 from congrArg Prod.fst e) (by decide)))).trans f_1252
            have f_1282 : G_1266 a_729 = some (50, .inl (cA 2, 16, .inr (.inr (.inr (.inr (fun _ => none)))))) := (o_1268 _ (gne f_1253 f_1264 (fun e => absurd (show (50 : Nat) = 33 from congrArg Prod.fst e) (by decide)))).trans f_1253
            have f_1283 : G_1266 a_730 = some (60, .inl (cA 2, 16, .inr (.inr (.inr (.inr (fun _ => none)))))) := (o_1268 _ (gne f_1254 f_1264 (fun e => absurd (show (60 : Nat) = 33 from congrArg Prod.fst e) (by decide)))).trans f_1254
            have f_1284 : G_1266 q_798 = some (41, .inr (5, [.ref a_838, .ref a_839, .int (nI 0)])) := (o_1268 _ (gne f_1255 f_1264 (fun e => absurd (show (41 : Nat) = 33 from congrArg Prod.fst e) (by decide)))).trans f_1255
            have f_1285 : G_1266 a_838 = some (51, .inl (cA 2, 16, .inr (.inr (.inr (.inr (fun _ => none)))))) := (o_1268 _ (gne f_1256 f_1264 (fun e => absurd (show (51 : Nat) = 33 from congrArg Prod.fst e) (by decide)))).trans f_1256
            have f_1286 : G_1266 a_839 = some (61, .inl (cA 2, 16, .inr (.inr (.inr (.inr (fun _ => none)))))) := (o_1268 _ (gne f_1257 f_1264 (fun e => absurd (show (61 : Nat) = 33 from congrArg Prod.fst e) (by decide)))).trans f_1257
            have f_1287 : G_1266 q_913 = some (42, .inr (5, [.ref a_956, .ref a_957, .int (nI 0)])) := (o_1268 _ (gne f_1258 f_1264 (fun e => absurd (show (42 : Nat) = 33 from congrArg Prod.fst e) (by decide)))).trans f_1258
            have f_1288 : G_1266 a_956 = some (52, .inl (cA 2, 16, .inr (.inr (.inr (.inr (fun _ => none)))))) := (o_1268 _ (gne f_1259 f_1264 (fun e => absurd (show (52 : Nat) = 33 from congrArg Prod.fst e) (by decide)))).trans f_1259
            have f_1289 : G_1266 a_957 = some (62, .inl (cA 2, 16, .inr (.inr (.inr (.inr (fun _ => none)))))) := (o_1268 _ (gne f_1260 f_1264 (fun e => absurd (show (62 : Nat) = 33 from congrArg Prod.fst e) (by decide)))).trans f_1260
            have f_1290 : G_1266 q_1037 = some (43, .inr (5, [.ref a_1083, .ref a_1084, .int (nI 0)])) := (o_1268 _ (gne f_1261 f_1264 (fun e => absurd (show (43 : Nat) = 33 from congrArg Prod.fst e) (by decide)))).trans f_1261
            have f_1291 : G_1266 a_1083 = some (53, .inl (cA 2, 16, .inr (.inr (.inr (.inr (fun _ => none)))))) := (o_1268 _ (gne f_1262 f_1264 (fun e => absurd (show (53 : Nat) = 33 from congrArg Prod.fst e) (by decide)))).trans f_1262
            have f_1292 : G_1266 a_1084 = some (63, .inl (cA 2, 16, .inr (.inr (.inr (.inr (fun _ => none)))))) := (o_1268 _ (gne f_1263 f_1264 (fun e => absurd (show (63 : Nat) = 33 from congrArg Prod.fst e) (by decide)))).trans f_1263
            have f_1293 : G_1266 q_1170 = some (44, .inr (5, [.ref a_1219, .ref a_1220, .int (nI 0)])) := (o_1268 _ (gne f_1221 f_1264 (fun e => absurd (show (44 : Nat) = 33 from congrArg Prod.fst e) (by decide)))).trans f_1221
            have f_1294 : G_1266 a_1219 = some (54, .inl (cA 2, 16, .inr (.inr (.inr (.inr (fun _ => none)))))) := (o_1268 _ (gne f_1222 f_1264 (fun e => absurd (show (54 : Nat) = 33 from congrArg Prod.fst e) (by decide)))).trans f_1222
            have f_1295 : G_1266 a_1220 = some (64, .inl (cA 2, 16, .inr (.inr (.inr (.inr (fun _ => none)))))) := (o_1268 _ (gne f_1223 f_1264 (fun e => absurd (show (64 : Nat) = 33 from congrArg Prod.fst e) (by decide)))).trans f_1223
            have x_1296 : gex (fun x => x = h) G G_1266 := gex_put x_1265 o_1268 (Or.inr z_32)
            have fr_1297 : gfr (fun y => y = 33) G_1216 G_1266 := gfr_put gfr_rf f_1264 rfl o_1268
            have n_1298 : isN cA G_1266 24 11 a_158 0 := isN_fr n_1227 fr_1297 (show ¬ (11 : Nat) = 33 by decide)
            have n_1299 : isN cA G_1266 24 12 b_159 0 := isN_fr n_1228 fr_1297 (show ¬ (12 : Nat) = 33 by decide)
            have n_1300 : isN cA G_1266 24 13 a_221 0 := isN_fr n_1229 fr_1297 (show ¬ (13 : Nat) = 33 by decide)
            have n_1301 : isN cA G_1266 24 14 b_222 0 := isN_fr n_1230 fr_1297 (show ¬ (14 : Nat) = 33 by decide)
            have n_1302 : isN cA G_1266 24 15 a_293 0 := isN_fr n_1231 fr_1297 (show ¬ (15 : Nat) = 33 by decide)
            have n_1303 : isN cA G_1266 24 16 b_294 0 := isN_fr n_1232 fr_1297 (show ¬ (16 : Nat) = 33 by decide)
            have n_1304 : isN cA G_1266 24 17 a_374 0 := isN_fr n_1233 fr_1297 (show ¬ (17 : Nat) = 33 by decide)
            have n_1305 : isN cA G_1266 24 18 b_375 0 := isN_fr n_1234 fr_1297 (show ¬ (18 : Nat) = 33 by decide)
            have n_1306 : ∀ t9, t9 < 11 → isN cA G_1266 24 t9 (ad t9) 0 := fun t9 h9 => isN_fr (n_1235 t9 h9) fr_1297 (fun e9 : t9 = 33 => absurd (show (33 : Nat) < 11 from e9 ▸ h9) (by decide))
            have n_1307 : rf cA G_1266 (fun x => x = 30) r_434 ((0 : Nat) : Int) 1 := rf_fr n_1236 fr_1297 (fun t9 (h9 : t9 = 30) (e9 : t9 = 33) => absurd (show (30 : Nat) = 33 from h9.symm.trans e9) (by decide))
            have n_1308 : rf cA G_1266 (fun x => x = 30) r_496 ((4 : Nat) : Int) 1 := rf_fr n_1237 fr_1297 (fun t9 (h9 : t9 = 30) (e9 : t9 = 33) => absurd (show (30 : Nat) = 33 from h9.symm.trans e9) (by decide))
            have n_1309 : rf cA G_1266 (fun x => x = 30) r_560 ((1 : Nat) : Int) 2 := rf_fr n_1238 fr_1297 (fun t9 (h9 : t9 = 30) (e9 : t9 = 33) => absurd (show (30 : Nat) = 33 from h9.symm.trans e9) (by decide))
            have n_1310 : rf cA G_1266 (fun x => x = 30) r_626 ((1 : Nat) : Int) 6 := rf_fr n_1239 fr_1297 (fun t9 (h9 : t9 = 30) (e9 : t9 = 33) => absurd (show (30 : Nat) = 33 from h9.symm.trans e9) (by decide))
            refine gst (pc' := 176) (L' := [(1, .int (nI 5)), (0, .ref h)]) (fun _ _ _ _ _ hl => lv_iinc (v := nI 5) hx hb d_Mf_init_173 hl (k := 0) rfl (by decide) (by decide) rfl) ?_
            refine gs (pc' := 154) (fun _ _ _ _ _ hl => lv_goto (tgt := 154) hx hb d_Mf_init_176 (by decide)) ?_
            refine gs (pc' := 155) (fun _ _ _ _ _ hl => lv_iload_n hx hb d_Mf_init_154 rfl (lv_at hl 0 rfl)) ?_
            refine gs (pc' := 157) (fun _ _ _ _ _ hl => lv_bipush (v := nI 8) hx hb d_Mf_init_155 (by decide)) ?_
            refine gsb (pc1 := 179) (pc2 := 160) (fun _ _ _ _ _ => lv_icmp_ge (tgt := 179) hx hb d_Mf_init_157 (by decide)) (fun c_1311 => ?_) (fun c_1311 => ?_)
            · skip
              have nc_1311 : 5 ≥ 8 := (nn_ge (a := 5) (b := 8) (by omega) (by omega)).1 c_1311
              exact absurd nc_1311 (by decide)
            · skip
              have nc_1311 : 5 < 8 := (nn_ge (a := 5) (b := 8) (by omega) (by omega)).2 c_1311
              refine gs (pc' := 161) (fun _ _ _ _ _ hl => lv_aload_n hx hb d_Mf_init_160 rfl (lv_at hl 1 rfl)) ?_
              refine g_get hx hb hts hin_Mf hown hK f_1280 rfl 2 (by decide) (hts _ wm237) (fun _ h9 => h9) rfl d_Mf_init_161 ?_
              refine gs (pc' := 165) (fun _ _ _ _ _ hl => lv_iload_n hx hb d_Mf_init_164 rfl (lv_at hl 0 rfl)) ?_
              refine g_new hx hb hts hin_Ro ty_Ro ty_Ro_ok hown (hts _ wm30) (hts _ wm216) (hts _ wm11) hK (ci := 5) rfl (fs := [.null, .null, .int (nI 0)]) (fun j => match j with | 0 => fun _ => rfl | 1 => fun _ => rfl | 2 => fun _ => rfl | n + 3 => fun h9 => absurd h9 (by omega)) hlo hRc hRs (show B_624.1 + 1 + 1 + 1 + 1 + 1 + 1 + 1 + 1 + 1 + 1 + 1 + 1 + 1 + 1 + 1 + 1 ≤ MC from lc_658 16 (by decide)) (show B_624.2 + 3 + 16 + 16 + 3 + 16 + 16 + 3 + 16 + 16 + 3 + 16 + 16 + 3 + 16 + 16 + 3 ≤ MS from ls_659 178 (by decide)) d_Mf_init_165 45 (fun q_1312 G_1313 z_1314 f_1315 o_1316 => ?_)
              have fr_1317 : gfr (fun y => y = 1000) G_1266 G_1313 := gfr_new gfr_rf z_1314 o_1316
              have n_1318 : isN cA G_1313 24 11 a_158 0 := isN_fr n_1298 fr_1317 (show ¬ (11 : Nat) = 1000 by decide)
              have n_1319 : isN cA G_1313 24 12 b_159 0 := isN_fr n_1299 fr_1317 (show ¬ (12 : Nat) = 1000 by decide)
              have n_1320 : isN cA G_1313 24 13 a_221 0 := isN_fr n_1300 fr_1317 (show ¬ (13 : Nat) = 1000 by decide)
              have n_1321 : isN cA G_1313 24 14 b_222 0 := isN_fr n_1301 fr_1317 (show ¬ (14 : Nat) = 1000 by decide)
              have n_1322 : isN cA G_1313 24 15 a_293 0 := isN_fr n_1302 fr_1317 (show ¬ (15 : Nat) = 1000 by decide)
              have n_1323 : isN cA G_1313 24 16 b_294 0 := isN_fr n_1303 fr_1317 (show ¬ (16 : Nat) = 1000 by decide)
              have n_1324 : isN cA G_1313 24 17 a_374 0 := isN_fr n_1304 fr_1317 (show ¬ (17 : Nat) = 1000 by decide)
              have n_1325 : isN cA G_1313 24 18 b_375 0 := isN_fr n_1305 fr_1317 (show ¬ (18 : Nat) = 1000 by decide)
              have n_1326 : ∀ t9, t9 < 11 → isN cA G_1313 24 t9 (ad t9) 0 := fun t9 h9 => isN_fr (n_1306 t9 h9) fr_1317 (fun e9 : t9 = 1000 => absurd (show (1000 : Nat) < 11 from e9 ▸ h9) (by decide))
              have n_1327 : rf cA G_1313 (fun x => x = 30) r_434 ((0 : Nat) : Int) 1 := rf_fr n_1307 fr_1317 (fun t9 (h9 : t9 = 30) (e9 : t9 = 1000) => absurd (show (30 : Nat) = 1000 from h9.symm.trans e9) (by decide))
              have n_1328 : rf cA G_1313 (fun x => x = 30) r_496 ((4 : Nat) : Int) 1 := rf_fr n_1308 fr_1317 (fun t9 (h9 : t9 = 30) (e9 : t9 = 1000) => absurd (show (30 : Nat) = 1000 from h9.symm.trans e9) (by decide))
              have n_1329 : rf cA G_1313 (fun x => x = 30) r_560 ((1 : Nat) : Int) 2 := rf_fr n_1309 fr_1317 (fun t9 (h9 : t9 = 30) (e9 : t9 = 1000) => absurd (show (30 : Nat) = 1000 from h9.symm.trans e9) (by decide))
              have n_1330 : rf cA G_1313 (fun x => x = 30) r_626 ((1 : Nat) : Int) 6 := rf_fr n_1310 fr_1317 (fun t9 (h9 : t9 = 30) (e9 : t9 = 1000) => absurd (show (30 : Nat) = 1000 from h9.symm.trans e9) (by decide))
              have f_1331 : G_1313 q_1 = some (32, .inl (cA 2, 200, .inr (.inr (.inr (.inr (fun _ => none)))))) := (o_1316 _ (gne0 f_1269 z_1314)).trans f_1269
              have f_1332 : G_1313 q_50 = some (35, .inr (7, [.ref a_64, .ref a_65, .int (nI 0)])) := (o_1316 _ (gne0 f_1270 z_1314)).trans f_1270
              have f_1333 : G_1313 a_64 = some (36, .inl (cA 0, 12, .inl (fun _ => 0))) := (o_1316 _ (gne0 f_1271 z_1314)).trans f_1271
              have f_1334 : G_1313 a_65 = some (37, .inl (cA 1, 12, .inr (.inl (fun _ => 0)))) := (o_1316 _ (gne0 f_1272 z_1314)).trans f_1272
              have f_1335 : G_1313 q_87 = some (30, .inr (0, [.ref hd, .ref hc, .ref (ad 5), .ref (ad 6), .ref (ad 7), .ref (ad 8), .ref (ad 9), .ref (ad 10)])) := (o_1316 _ (gne0 f_1273 z_1314)).trans f_1273
              have f_1336 : G_1313 hd = some (30, .inr (2, [.ref (ad 0), .ref (ad 1), .ref (ad 2)])) := (o_1316 _ (gne0 f_1274 z_1314)).trans f_1274
              have f_1337 : G_1313 hc = some (19, .inr (1, [.ref hd, .ref (ad 3), .ref (ad 4), .long l_109, .long l_110, .long l_111, .long l_112])) := (o_1316 _ (gne0 f_1275 z_1314)).trans f_1275
              have f_1338 : G_1313 q_137 = some (20, .inr (3, [.int (nI 0), .ref a_158, .ref b_159])) := (o_1316 _ (gne0 f_1276 z_1314)).trans f_1276
              have f_1339 : G_1313 q_197 = some (21, .inr (3, [.int (nI 0), .ref a_221, .ref b_222])) := (o_1316 _ (gne0 f_1277 z_1314)).trans f_1277
              have f_1340 : G_1313 q_266 = some (22, .inr (3, [.int (nI 0), .ref a_293, .ref b_294])) := (o_1316 _ (gne0 f_1278 z_1314)).trans f_1278
              have f_1341 : G_1313 q_344 = some (23, .inr (3, [.int (nI 0), .ref a_374, .ref b_375])) := (o_1316 _ (gne0 f_1279 z_1314)).trans f_1279
              have f_1342 : G_1313 h = some (31, .inr (8, [.ref q_1, .int (nI 0), .ref q_24, .int (nI 0), .ref q_50, .ref q_87, .ref q_137, .ref q_197, .ref q_266, .ref q_344, .ref r_434, .ref r_496, .ref r_560, .ref r_626])) := (o_1316 _ (gne0 f_1280 z_1314)).trans f_1280
              have f_1343 : G_1313 q_692 = some (40, .inr (5, [.ref a_729, .ref a_730, .int (nI 0)])) := (o_1316 _ (gne0 f_1281 z_1314)).trans f_1281
              have f_1344 : G_1313 a_729 = some (50, .inl (cA 2, 16, .inr (.inr (.inr (.inr (fun _ => none)))))) := (o_1316 _ (gne0 f_1282 z_1314)).trans f_1282
              have f_1345 : G_1313 a_730 = some (60, .inl (cA 2, 16, .inr (.inr (.inr (.inr (fun _ => none)))))) := (o_1316 _ (gne0 f_1283 z_1314)).trans f_1283
              have f_1346 : G_1313 q_798 = some (41, .inr (5, [.ref a_838, .ref a_839, .int (nI 0)])) := (o_1316 _ (gne0 f_1284 z_1314)).trans f_1284
              have f_1347 : G_1313 a_838 = some (51, .inl (cA 2, 16, .inr (.inr (.inr (.inr (fun _ => none)))))) := (o_1316 _ (gne0 f_1285 z_1314)).trans f_1285
              have f_1348 : G_1313 a_839 = some (61, .inl (cA 2, 16, .inr (.inr (.inr (.inr (fun _ => none)))))) := (o_1316 _ (gne0 f_1286 z_1314)).trans f_1286
              have f_1349 : G_1313 q_913 = some (42, .inr (5, [.ref a_956, .ref a_957, .int (nI 0)])) := (o_1316 _ (gne0 f_1287 z_1314)).trans f_1287
              have f_1350 : G_1313 a_956 = some (52, .inl (cA 2, 16, .inr (.inr (.inr (.inr (fun _ => none)))))) := (o_1316 _ (gne0 f_1288 z_1314)).trans f_1288
              have f_1351 : G_1313 a_957 = some (62, .inl (cA 2, 16, .inr (.inr (.inr (.inr (fun _ => none)))))) := (o_1316 _ (gne0 f_1289 z_1314)).trans f_1289
              have f_1352 : G_1313 q_1037 = some (43, .inr (5, [.ref a_1083, .ref a_1084, .int (nI 0)])) := (o_1316 _ (gne0 f_1290 z_1314)).trans f_1290
              have f_1353 : G_1313 a_1083 = some (53, .inl (cA 2, 16, .inr (.inr (.inr (.inr (fun _ => none)))))) := (o_1316 _ (gne0 f_1291 z_1314)).trans f_1291
              have f_1354 : G_1313 a_1084 = some (63, .inl (cA 2, 16, .inr (.inr (.inr (.inr (fun _ => none)))))) := (o_1316 _ (gne0 f_1292 z_1314)).trans f_1292
              have f_1355 : G_1313 q_1170 = some (44, .inr (5, [.ref a_1219, .ref a_1220, .int (nI 0)])) := (o_1316 _ (gne0 f_1293 z_1314)).trans f_1293
              have f_1356 : G_1313 a_1219 = some (54, .inl (cA 2, 16, .inr (.inr (.inr (.inr (fun _ => none)))))) := (o_1316 _ (gne0 f_1294 z_1314)).trans f_1294
              have f_1357 : G_1313 a_1220 = some (64, .inl (cA 2, 16, .inr (.inr (.inr (.inr (fun _ => none)))))) := (o_1316 _ (gne0 f_1295 z_1314)).trans f_1295
              have f_1358 : G_1313 q_24 = some (33, .inl (cA 3, 8, .inr (.inr (.inr (.inr (va_up (va_up (va_up (va_up (va_up (fun _ => none) 0 (some q_692)) 1 (some q_798)) 2 (some q_913)) 3 (some q_1037)) 4 (some q_1170))))))) := (o_1316 _ (gne0 f_1267 z_1314)).trans f_1267
              have z_1359 : G q_1312 = none := gex_0 x_1296 z_1314 (fun z => by have z := z.symm; subst z; rw [f_1280] at z_1314; cases z_1314)
              have x_1360 : gex (fun x => x = h) G G_1313 := gex_new x_1296 z_1314 o_1316
              refine g_Beq (B' := (B_624.1 + 1 + 1 + 1 + 1 + 1 + 1 + 1 + 1 + 1 + 1 + 1 + 1 + 1 + 1 + 1 + 1, B_624.2 + 3 + 16 + 16 + 3 + 16 + 16 + 3 + 16 + 16 + 3 + 16 + 16 + 3 + 16 + 16 + 3)) rfl ?_
              refine gs (pc' := 169) (fun _ _ _ _ _ hl => lv_dup hx hb d_Mf_init_168 rfl) ?_
              obtain ⟨⟨hN1, hN2, hN3, hN4, -, -, -⟩, -⟩ := id hZ
              refine g_outv hlo (g_runIN (b := q_1312) (As := []) (rest := [.ref q_1312, .int (nI 5), .ref q_24]) ⟨hx, hb, hml, hown, hts⟩ hK hZ hRc hRs (c_Ro_init l D cA lo MC MS G_1313 (B_624.1 + 1 + 1 + 1 + 1 + 1 + 1 + 1 + 1 + 1 + 1 + 1 + 1 + 1 + 1 + 1 + 1, B_624.2 + 3 + 16 + 16 + 3 + 16 + 16 + 3 + 16 + 16 + 3 + 16 + 16 + 3 + 16 + 16 + 3) 45 55 65 q_1312 (by decide) (by decide) (by decide) f_1315 (show B_624.1 + 1 + 1 + 1 + 1 + 1 + 1 + 1 + 1 + 1 + 1 + 1 + 1 + 1 + 1 + 1 + 1 + 2 ≤ MC from lc_658 18 (by decide)) (show B_624.2 + 3 + 16 + 16 + 3 + 16 + 16 + 3 + 16 + 16 + 3 + 16 + 16 + 3 + 16 + 16 + 3 + 32 ≤ MS from ls_659 210 (by decide)) (show B_624.1 + 1 + 1 + 1 + 1 + 1 + 1 + 1 + 1 + 1 + 1 + 1 + 1 + 1 + 1 + 1 + 1 ≤ MC from lc_658 16 (by decide)) (show B_624.2 + 3 + 16 + 16 + 3 + 16 + 16 + 3 + 16 + 16 + 3 + 16 + 16 + 3 + 16 + 16 + 3 ≤ MS from ls_659 178 (by decide))) (fun _ _ => ⟨va_cnB 0 hts (tb_good k_Ro_init) rfl rfl rfl hN4 (hts _ wm11) (by decide +kernel) ⟨by rw [hRf]; exact Nat.le_of_ble_eq_true rfl, by rw [hRl]; exact Nat.le_of_ble_eq_true rfl⟩, rfl, hts _ wm218⟩) (show B_624.1 + 1 + 1 + 1 + 1 + 1 + 1 + 1 + 1 + 1 + 1 + 1 + 1 + 1 + 1 + 1 + 1 ≤ MC from lc_658 16 (by decide)) (show B_624.2 + 3 + 16 + 16 + 3 + 16 + 16 + 3 + 16 + 16 + 3 + 16 + 16 + 3 + 16 + 16 + 3 ≤ MS from ls_659 178 (by decide)) rfl (Nat.le_of_ble_eq_true rfl) d_Mf_init_169) (fun G_1361 B_1362 p_1363 => ?_)
              obtain ⟨a_1364, a_1365, f_1366, f_1367, f_1368, x_1369, e_1370⟩ := p_1363
              have fr_1371 : gfr (fun y => y = 45) G_1313 G_1361 := gfr_gex x_1369 f_1315
              have n_1372 : isN cA G_1361 24 11 a_158 0 := isN_fr n_1318 fr_1371 (show ¬ (11 : Nat) = 45 by decide)
              have n_1373 : isN cA G_1361 24 12 b_159 0 := isN_fr n_1319 fr_1371 (show ¬ (12 : Nat) = 45 by decide)
              have n_1374 : isN cA G_1361 24 13 a_221 0 := isN_fr n_1320 fr_1371 (show ¬ (13 : Nat) = 45 by decide)
              have n_1375 : isN cA G_1361 24 14 b_222 0 := isN_fr n_1321 fr_1371 (show ¬ (14 : Nat) = 45 by decide)
              have n_1376 : isN cA G_1361 24 15 a_293 0 := isN_fr n_1322 fr_1371 (show ¬ (15 : Nat) = 45 by decide)
              have n_1377 : isN cA G_1361 24 16 b_294 0 := isN_fr n_1323 fr_1371 (show ¬ (16 : Nat) = 45 by decide)
              have n_1378 : isN cA G_1361 24 17 a_374 0 := isN_fr n_1324 fr_1371 (show ¬ (17 : Nat) = 45 by decide)
              have n_1379 : isN cA G_1361 24 18 b_375 0 := isN_fr n_1325 fr_1371 (show ¬ (18 : Nat) = 45 by decide)
              have n_1380 : ∀ t9, t9 < 11 → isN cA G_1361 24 t9 (ad t9) 0 := fun t9 h9 => isN_fr (n_1326 t9 h9) fr_1371 (fun e9 : t9 = 45 => absurd (show (45 : Nat) < 11 from e9 ▸ h9) (by decide))
              have n_1381 : rf cA G_1361 (fun x => x = 30) r_434 ((0 : Nat) : Int) 1 := rf_fr n_1327 fr_1371 (fun t9 (h9 : t9 = 30) (e9 : t9 = 45) => absurd (show (30 : Nat) = 45 from h9.symm.trans e9) (by decide))
              have n_1382 : rf cA G_1361 (fun x => x = 30) r_496 ((4 : Nat) : Int) 1 := rf_fr n_1328 fr_1371 (fun t9 (h9 : t9 = 30) (e9 : t9 = 45) => absurd (show (30 : Nat) = 45 from h9.symm.trans e9) (by decide))
              have n_1383 : rf cA G_1361 (fun x => x = 30) r_560 ((1 : Nat) : Int) 2 := rf_fr n_1329 fr_1371 (fun t9 (h9 : t9 = 30) (e9 : t9 = 45) => absurd (show (30 : Nat) = 45 from h9.symm.trans e9) (by decide))
              have n_1384 : rf cA G_1361 (fun x => x = 30) r_626 ((1 : Nat) : Int) 6 := rf_fr n_1330 fr_1371 (fun t9 (h9 : t9 = 30) (e9 : t9 = 45) => absurd (show (30 : Nat) = 45 from h9.symm.trans e9) (by decide))
              have e_1370 : B_1362 = (B_624.1 + 1 + 1 + 1 + 1 + 1 + 1 + 1 + 1 + 1 + 1 + 1 + 1 + 1 + 1 + 1 + 1 + 1 + 1, B_624.2 + 3 + 16 + 16 + 3 + 16 + 16 + 3 + 16 + 16 + 3 + 16 + 16 + 3 + 16 + 16 + 3 + 16 + 16) := e_1370
              subst e_1370
              have f_1385 : G_1361 q_1 = some (32, .inl (cA 2, 200, .inr (.inr (.inr (.inr (fun _ => none)))))) := x_1369 _ _ f_1331 (gne f_1331 f_1315 (fun e => absurd (show (32 : Nat) = 45 from congrArg Prod.fst e) (by decide)))
              have f_1386 : G_1361 q_50 = some (35, .inr (7, [.ref a_64, .ref a_65, .int (nI 0)])) := x_1369 _ _ f_1332 (gne f_1332 f_1315 (fun e => absurd (show (35 : Nat) = 45 from congrArg Prod.fst e) (by decide)))
              have f_1387 : G_1361 a_64 = some (36, .inl (cA 0, 12, .inl (fun _ => 0))) := x_1369 _ _ f_1333 (gne f_1333 f_1315 (fun e => absurd (show (36 : Nat) = 45 from congrArg Prod.fst e) (by decide)))
              have f_1388 : G_1361 a_65 = some (37, .inl (cA 1, 12, .inr (.inl (fun _ => 0)))) := x_1369 _ _ f_1334 (gne f_1334 f_1315 (fun e => absurd (show (37 : Nat) = 45 from congrArg Prod.fst e) (by decide)))
              have f_1389 : G_1361 q_87 = some (30, .inr (0, [.ref hd, .ref hc, .ref (ad 5), .ref (ad 6), .ref (ad 7), .ref (ad 8), .ref (ad 9), .ref (ad 10)])) := x_1369 _ _ f_1335 (gne f_1335 f_1315 (fun e => absurd (show (30 : Nat) = 45 from congrArg Prod.fst e) (by decide)))
              have f_1390 : G_1361 hd = some (30, .inr (2, [.ref (ad 0), .ref (ad 1), .ref (ad 2)])) := x_1369 _ _ f_1336 (gne f_1336 f_1315 (fun e => absurd (show (30 : Nat) = 45 from congrArg Prod.fst e) (by decide)))
              have f_1391 : G_1361 hc = some (19, .inr (1, [.ref hd, .ref (ad 3), .ref (ad 4), .long l_109, .long l_110, .long l_111, .long l_112])) := x_1369 _ _ f_1337 (gne f_1337 f_1315 (fun e => absurd (show (19 : Nat) = 45 from congrArg Prod.fst e) (by decide)))
              have f_1392 : G_1361 q_137 = some (20, .inr (3, [.int (nI 0), .ref a_158, .ref b_159])) := x_1369 _ _ f_1338 (gne f_1338 f_1315 (fun e => absurd (show (20 : Nat) = 45 from congrArg Prod.fst e) (by decide)))
              have f_1393 : G_1361 q_197 = some (21, .inr (3, [.int (nI 0), .ref a_221, .ref b_222])) := x_1369 _ _ f_1339 (gne f_1339 f_1315 (fun e => absurd (show (21 : Nat) = 45 from congrArg Prod.fst e) (by decide)))
              have f_1394 : G_1361 q_266 = some (22, .inr (3, [.int (nI 0), .ref a_293, .ref b_294])) := x_1369 _ _ f_1340 (gne f_1340 f_1315 (fun e => absurd (show (22 : Nat) = 45 from congrArg Prod.fst e) (by decide)))
              have f_1395 : G_1361 q_344 = some (23, .inr (3, [.int (nI 0), .ref a_374, .ref b_375])) := x_1369 _ _ f_1341 (gne f_1341 f_1315 (fun e => absurd (show (23 : Nat) = 45 from congrArg Prod.fst e) (by decide)))
              have f_1396 : G_1361 h = some (31, .inr (8, [.ref q_1, .int (nI 0), .ref q_24, .int (nI 0), .ref q_50, .ref q_87, .ref q_137, .ref q_197, .ref q_266, .ref q_344, .ref r_434, .ref r_496, .ref r_560, .ref r_626])) := x_1369 _ _ f_1342 (gne f_1342 f_1315 (fun e => absurd (show (31 : Nat) = 45 from congrArg Prod.fst e) (by decide)))
              have f_1397 : G_1361 q_692 = some (40, .inr (5, [.ref a_729, .ref a_730, .int (nI 0)])) := x_1369 _ _ f_1343 (gne f_1343 f_1315 (fun e => absurd (show (40 : Nat) = 45 from congrArg Prod.fst e) (by decide)))
              have f_1398 : G_1361 a_729 = some (50, .inl (cA 2, 16, .inr (.inr (.inr (.inr (fun _ => none)))))) := x_1369 _ _ f_1344 (gne f_1344 f_1315 (fun e => absurd (show (50 : Nat) = 45 from congrArg Prod.fst e) (by decide)))
              have f_1399 : G_1361 a_730 = some (60, .inl (cA 2, 16, .inr (.inr (.inr (.inr (fun _ => none)))))) := x_1369 _ _ f_1345 (gne f_1345 f_1315 (fun e => absurd (show (60 : Nat) = 45 from congrArg Prod.fst e) (by decide)))
              have f_1400 : G_1361 q_798 = some (41, .inr (5, [.ref a_838, .ref a_839, .int (nI 0)])) := x_1369 _ _ f_1346 (gne f_1346 f_1315 (fun e => absurd (show (41 : Nat) = 45 from congrArg Prod.fst e) (by decide)))
              have f_1401 : G_1361 a_838 = some (51, .inl (cA 2, 16, .inr (.inr (.inr (.inr (fun _ => none)))))) := x_1369 _ _ f_1347 (gne f_1347 f_1315 (fun e => absurd (show (51 : Nat) = 45 from congrArg Prod.fst e) (by decide)))
              have f_1402 : G_1361 a_839 = some (61, .inl (cA 2, 16, .inr (.inr (.inr (.inr (fun _ => none)))))) := x_1369 _ _ f_1348 (gne f_1348 f_1315 (fun e => absurd (show (61 : Nat) = 45 from congrArg Prod.fst e) (by decide)))
              have f_1403 : G_1361 q_913 = some (42, .inr (5, [.ref a_956, .ref a_957, .int (nI 0)])) := x_1369 _ _ f_1349 (gne f_1349 f_1315 (fun e => absurd (show (42 : Nat) = 45 from congrArg Prod.fst e) (by decide)))
              have f_1404 : G_1361 a_956 = some (52, .inl (cA 2, 16, .inr (.inr (.inr (.inr (fun _ => none)))))) := x_1369 _ _ f_1350 (gne f_1350 f_1315 (fun e => absurd (show (52 : Nat) = 45 from congrArg Prod.fst e) (by decide)))
              have f_1405 : G_1361 a_957 = some (62, .inl (cA 2, 16, .inr (.inr (.inr (.inr (fun _ => none)))))) := x_1369 _ _ f_1351 (gne f_1351 f_1315 (fun e => absurd (show (62 : Nat) = 45 from congrArg Prod.fst e) (by decide)))
              have f_1406 : G_1361 q_1037 = some (43, .inr (5, [.ref a_1083, .ref a_1084, .int (nI 0)])) := x_1369 _ _ f_1352 (gne f_1352 f_1315 (fun e => absurd (show (43 : Nat) = 45 from congrArg Prod.fst e) (by decide)))
              have f_1407 : G_1361 a_1083 = some (53, .inl (cA 2, 16, .inr (.inr (.inr (.inr (fun _ => none)))))) := x_1369 _ _ f_1353 (gne f_1353 f_1315 (fun e => absurd (show (53 : Nat) = 45 from congrArg Prod.fst e) (by decide)))
              have f_1408 : G_1361 a_1084 = some (63, .inl (cA 2, 16, .inr (.inr (.inr (.inr (fun _ => none)))))) := x_1369 _ _ f_1354 (gne f_1354 f_1315 (fun e => absurd (show (63 : Nat) = 45 from congrArg Prod.fst e) (by decide)))
              have f_1409 : G_1361 q_1170 = some (44, .inr (5, [.ref a_1219, .ref a_1220, .int (nI 0)])) := x_1369 _ _ f_1355 (gne f_1355 f_1315 (fun e => absurd (show (44 : Nat) = 45 from congrArg Prod.fst e) (by decide)))
              have f_1410 : G_1361 a_1219 = some (54, .inl (cA 2, 16, .inr (.inr (.inr (.inr (fun _ => none)))))) := x_1369 _ _ f_1356 (gne f_1356 f_1315 (fun e => absurd (show (54 : Nat) = 45 from congrArg Prod.fst e) (by decide)))
              have f_1411 : G_1361 a_1220 = some (64, .inl (cA 2, 16, .inr (.inr (.inr (.inr (fun _ => none)))))) := x_1369 _ _ f_1357 (gne f_1357 f_1315 (fun e => absurd (show (64 : Nat) = 45 from congrArg Prod.fst e) (by decide)))
              have f_1412 : G_1361 q_24 = some (33, .inl (cA 3, 8, .inr (.inr (.inr (.inr (va_up (va_up (va_up (va_up (va_up (fun _ => none) 0 (some q_692)) 1 (some q_798)) 2 (some q_913)) 3 (some q_1037)) 4 (some q_1170))))))) := x_1369 _ _ f_1358 (gne f_1358 f_1315 (fun e => absurd (show (33 : Nat) = 45 from congrArg Prod.fst e) (by decide)))
              have x_1413 : gex (fun x => x = h) G G_1361 := gex_tr x_1360 x_1369 (fun x y hx9 _ e => by subst e; rw [z_1359] at hx9; cases hx9)
              refine g_aast hx hb hK 3 5 f_1412 rfl f_1366 rfl (show vp_in (nI 5) 8 from vp_in_nI (by omega) (by omega)) d_Mf_init_172 (fun G_1414 f_1415 o_1416 => ?_)
              rw [nI_clamp (by omega)] at f_1415
              have f_1417 : G_1414 q_1 = some (32, .inl (cA 2, 200, .inr (.inr (.inr (.inr (fun _ => none)))))) := (o_1416 _ (gne f_1385 f_1412 (fun e => absurd (show (32 : Nat) = 33 from congrArg Prod.fst e) (by decide)))).trans f_1385
              have f_1418 : G_1414 q_50 = some (35, .inr (7, [.ref a_64, .ref a_65, .int (nI 0)])) := (o_1416 _ (gne f_1386 f_1412 (fun e => absurd (show (35 : Nat) = 33 from congrArg Prod.fst e) (by decide)))).trans f_1386
              have f_1419 : G_1414 a_64 = some (36, .inl (cA 0, 12, .inl (fun _ => 0))) := (o_1416 _ (gne f_1387 f_1412 (fun e => absurd (show (36 : Nat) = 33 from congrArg Prod.fst e) (by decide)))).trans f_1387
              have f_1420 : G_1414 a_65 = some (37, .inl (cA 1, 12, .inr (.inl (fun _ => 0)))) := (o_1416 _ (gne f_1388 f_1412 (fun e => absurd (show (37 : Nat) = 33 from congrArg Prod.fst e) (by decide)))).trans f_1388
              have f_1421 : G_1414 q_87 = some (30, .inr (0, [.ref hd, .ref hc, .ref (ad 5), .ref (ad 6), .ref (ad 7), .ref (ad 8), .ref (ad 9), .ref (ad 10)])) := (o_1416 _ (gne f_1389 f_1412 (fun e => absurd (show (30 : Nat) = 33 from congrArg Prod.fst e) (by decide)))).trans f_1389
              have f_1422 : G_1414 hd = some (30, .inr (2, [.ref (ad 0), .ref (ad 1), .ref (ad 2)])) := (o_1416 _ (gne f_1390 f_1412 (fun e => absurd (show (30 : Nat) = 33 from congrArg Prod.fst e) (by decide)))).trans f_1390
              have f_1423 : G_1414 hc = some (19, .inr (1, [.ref hd, .ref (ad 3), .ref (ad 4), .long l_109, .long l_110, .long l_111, .long l_112])) := (o_1416 _ (gne f_1391 f_1412 (fun e => absurd (show (19 : Nat) = 33 from congrArg Prod.fst e) (by decide)))).trans f_1391
              have f_1424 : G_1414 q_137 = some (20, .inr (3, [.int (nI 0), .ref a_158, .ref b_159])) := (o_1416 _ (gne f_1392 f_1412 (fun e => absurd (show (20 : Nat) = 33 from congrArg Prod.fst e) (by decide)))).trans f_1392
              have f_1425 : G_1414 q_197 = some (21, .inr (3, [.int (nI 0), .ref a_221, .ref b_222])) := (o_1416 _ (gne f_1393 f_1412 (fun e => absurd (show (21 : Nat) = 33 from congrArg Prod.fst e) (by decide)))).trans f_1393
              have f_1426 : G_1414 q_266 = some (22, .inr (3, [.int (nI 0), .ref a_293, .ref b_294])) := (o_1416 _ (gne f_1394 f_1412 (fun e => absurd (show (22 : Nat) = 33 from congrArg Prod.fst e) (by decide)))).trans f_1394
              have f_1427 : G_1414 q_344 = some (23, .inr (3, [.int (nI 0), .ref a_374, .ref b_375])) := (o_1416 _ (gne f_1395 f_1412 (fun e => absurd (show (23 : Nat) = 33 from congrArg Prod.fst e) (by decide)))).trans f_1395
              have f_1428 : G_1414 h = some (31, .inr (8, [.ref q_1, .int (nI 0), .ref q_24, .int (nI 0), .ref q_50, .ref q_87, .ref q_137, .ref q_197, .ref q_266, .ref q_344, .ref r_434, .ref r_496, .ref r_560, .ref r_626])) := (o_1416 _ (gne f_1396 f_1412 (fun e => absurd (show (31 : Nat) = 33 from congrArg Prod.fst e) (by decide)))).trans f_1396
              have f_1429 : G_1414 q_692 = some (40, .inr (5, [.ref a_729, .ref a_730, .int (nI 0)])) := (o_1416 _ (gne f_1397 f_1412 (fun e => absurd (show (40 : Nat) = 33 from congrArg Prod.fst e) (by decide)))).trans f_1397
              have f_1430 : G_1414 a_729 = some (50, .inl (cA 2, 16, .inr (.inr (.inr (.inr (fun _ => none)))))) := (o_1416 _ (gne f_1398 f_1412 (fun e => absurd (show (50 : Nat) = 33 from congrArg Prod.fst e) (by decide)))).trans f_1398
              have f_1431 : G_1414 a_730 = some (60, .inl (cA 2, 16, .inr (.inr (.inr (.inr (fun _ => none)))))) := (o_1416 _ (gne f_1399 f_1412 (fun e => absurd (show (60 : Nat) = 33 from congrArg Prod.fst e) (by decide)))).trans f_1399
              have f_1432 : G_1414 q_798 = some (41, .inr (5, [.ref a_838, .ref a_839, .int (nI 0)])) := (o_1416 _ (gne f_1400 f_1412 (fun e => absurd (show (41 : Nat) = 33 from congrArg Prod.fst e) (by decide)))).trans f_1400
              have f_1433 : G_1414 a_838 = some (51, .inl (cA 2, 16, .inr (.inr (.inr (.inr (fun _ => none)))))) := (o_1416 _ (gne f_1401 f_1412 (fun e => absurd (show (51 : Nat) = 33 from congrArg Prod.fst e) (by decide)))).trans f_1401
              have f_1434 : G_1414 a_839 = some (61, .inl (cA 2, 16, .inr (.inr (.inr (.inr (fun _ => none)))))) := (o_1416 _ (gne f_1402 f_1412 (fun e => absurd (show (61 : Nat) = 33 from congrArg Prod.fst e) (by decide)))).trans f_1402
              have f_1435 : G_1414 q_913 = some (42, .inr (5, [.ref a_956, .ref a_957, .int (nI 0)])) := (o_1416 _ (gne f_1403 f_1412 (fun e => absurd (show (42 : Nat) = 33 from congrArg Prod.fst e) (by decide)))).trans f_1403
              have f_1436 : G_1414 a_956 = some (52, .inl (cA 2, 16, .inr (.inr (.inr (.inr (fun _ => none)))))) := (o_1416 _ (gne f_1404 f_1412 (fun e => absurd (show (52 : Nat) = 33 from congrArg Prod.fst e) (by decide)))).trans f_1404
              have f_1437 : G_1414 a_957 = some (62, .inl (cA 2, 16, .inr (.inr (.inr (.inr (fun _ => none)))))) := (o_1416 _ (gne f_1405 f_1412 (fun e => absurd (show (62 : Nat) = 33 from congrArg Prod.fst e) (by decide)))).trans f_1405
              have f_1438 : G_1414 q_1037 = some (43, .inr (5, [.ref a_1083, .ref a_1084, .int (nI 0)])) := (o_1416 _ (gne f_1406 f_1412 (fun e => absurd (show (43 : Nat) = 33 from congrArg Prod.fst e) (by decide)))).trans f_1406
              have f_1439 : G_1414 a_1083 = some (53, .inl (cA 2, 16, .inr (.inr (.inr (.inr (fun _ => none)))))) := (o_1416 _ (gne f_1407 f_1412 (fun e => absurd (show (53 : Nat) = 33 from congrArg Prod.fst e) (by decide)))).trans f_1407
              have f_1440 : G_1414 a_1084 = some (63, .inl (cA 2, 16, .inr (.inr (.inr (.inr (fun _ => none)))))) := (o_1416 _ (gne f_1408 f_1412 (fun e => absurd (show (63 : Nat) = 33 from congrArg Prod.fst e) (by decide)))).trans f_1408
              have f_1441 : G_1414 q_1170 = some (44, .inr (5, [.ref a_1219, .ref a_1220, .int (nI 0)])) := (o_1416 _ (gne f_1409 f_1412 (fun e => absurd (show (44 : Nat) = 33 from congrArg Prod.fst e) (by decide)))).trans f_1409
              have f_1442 : G_1414 a_1219 = some (54, .inl (cA 2, 16, .inr (.inr (.inr (.inr (fun _ => none)))))) := (o_1416 _ (gne f_1410 f_1412 (fun e => absurd (show (54 : Nat) = 33 from congrArg Prod.fst e) (by decide)))).trans f_1410
              have f_1443 : G_1414 a_1220 = some (64, .inl (cA 2, 16, .inr (.inr (.inr (.inr (fun _ => none)))))) := (o_1416 _ (gne f_1411 f_1412 (fun e => absurd (show (64 : Nat) = 33 from congrArg Prod.fst e) (by decide)))).trans f_1411
              have f_1444 : G_1414 q_1312 = some (45, .inr (5, [.ref a_1364, .ref a_1365, .int (nI 0)])) := (o_1416 _ (gne f_1366 f_1412 (fun e => absurd (show (45 : Nat) = 33 from congrArg Prod.fst e) (by decide)))).trans f_1366
              have f_1445 : G_1414 a_1364 = some (55, .inl (cA 2, 16, .inr (.inr (.inr (.inr (fun _ => none)))))) := (o_1416 _ (gne f_1367 f_1412 (fun e => absurd (show (55 : Nat) = 33 from congrArg Prod.fst e) (by decide)))).trans f_1367
              have f_1446 : G_1414 a_1365 = some (65, .inl (cA 2, 16, .inr (.inr (.inr (.inr (fun _ => none)))))) := (o_1416 _ (gne f_1368 f_1412 (fun e => absurd (show (65 : Nat) = 33 from congrArg Prod.fst e) (by decide)))).trans f_1368
              have x_1447 : gex (fun x => x = h) G G_1414 := gex_put x_1413 o_1416 (Or.inr z_32)
              have fr_1448 : gfr (fun y => y = 33) G_1361 G_1414 := gfr_put gfr_rf f_1412 rfl o_1416
              have n_1449 : isN cA G_1414 24 11 a_158 0 := isN_fr n_1372 fr_1448 (show ¬ (11 : Nat) = 33 by decide)
              have n_1450 : isN cA G_1414 24 12 b_159 0 := isN_fr n_1373 fr_1448 (show ¬ (12 : Nat) = 33 by decide)
              have n_1451 : isN cA G_1414 24 13 a_221 0 := isN_fr n_1374 fr_1448 (show ¬ (13 : Nat) = 33 by decide)
              have n_1452 : isN cA G_1414 24 14 b_222 0 := isN_fr n_1375 fr_1448 (show ¬ (14 : Nat) = 33 by decide)
              have n_1453 : isN cA G_1414 24 15 a_293 0 := isN_fr n_1376 fr_1448 (show ¬ (15 : Nat) = 33 by decide)
              have n_1454 : isN cA G_1414 24 16 b_294 0 := isN_fr n_1377 fr_1448 (show ¬ (16 : Nat) = 33 by decide)
              have n_1455 : isN cA G_1414 24 17 a_374 0 := isN_fr n_1378 fr_1448 (show ¬ (17 : Nat) = 33 by decide)
              have n_1456 : isN cA G_1414 24 18 b_375 0 := isN_fr n_1379 fr_1448 (show ¬ (18 : Nat) = 33 by decide)
              have n_1457 : ∀ t9, t9 < 11 → isN cA G_1414 24 t9 (ad t9) 0 := fun t9 h9 => isN_fr (n_1380 t9 h9) fr_1448 (fun e9 : t9 = 33 => absurd (show (33 : Nat) < 11 from e9 ▸ h9) (by decide))
              have n_1458 : rf cA G_1414 (fun x => x = 30) r_434 ((0 : Nat) : Int) 1 := rf_fr n_1381 fr_1448 (fun t9 (h9 : t9 = 30) (e9 : t9 = 33) => absurd (show (30 : Nat) = 33 from h9.symm.trans e9) (by decide))
              have n_1459 : rf cA G_1414 (fun x => x = 30) r_496 ((4 : Nat) : Int) 1 := rf_fr n_1382 fr_1448 (fun t9 (h9 : t9 = 30) (e9 : t9 = 33) => absurd (show (30 : Nat) = 33 from h9.symm.trans e9) (by decide))
              have n_1460 : rf cA G_1414 (fun x => x = 30) r_560 ((1 : Nat) : Int) 2 := rf_fr n_1383 fr_1448 (fun t9 (h9 : t9 = 30) (e9 : t9 = 33) => absurd (show (30 : Nat) = 33 from h9.symm.trans e9) (by decide))
              have n_1461 : rf cA G_1414 (fun x => x = 30) r_626 ((1 : Nat) : Int) 6 := rf_fr n_1384 fr_1448 (fun t9 (h9 : t9 = 30) (e9 : t9 = 33) => absurd (show (30 : Nat) = 33 from h9.symm.trans e9) (by decide))
              refine gst (pc' := 176) (L' := [(1, .int (nI 6)), (0, .ref h)]) (fun _ _ _ _ _ hl => lv_iinc (v := nI 6) hx hb d_Mf_init_173 hl (k := 0) rfl (by decide) (by decide) rfl) ?_
              refine gs (pc' := 154) (fun _ _ _ _ _ hl => lv_goto (tgt := 154) hx hb d_Mf_init_176 (by decide)) ?_
              refine gs (pc' := 155) (fun _ _ _ _ _ hl => lv_iload_n hx hb d_Mf_init_154 rfl (lv_at hl 0 rfl)) ?_
              refine gs (pc' := 157) (fun _ _ _ _ _ hl => lv_bipush (v := nI 8) hx hb d_Mf_init_155 (by decide)) ?_
              refine gsb (pc1 := 179) (pc2 := 160) (fun _ _ _ _ _ => lv_icmp_ge (tgt := 179) hx hb d_Mf_init_157 (by decide)) (fun c_1462 => ?_) (fun c_1462 => ?_)
              · skip
                have nc_1462 : 6 ≥ 8 := (nn_ge (a := 6) (b := 8) (by omega) (by omega)).1 c_1462
                exact absurd nc_1462 (by decide)
              · skip
                have nc_1462 : 6 < 8 := (nn_ge (a := 6) (b := 8) (by omega) (by omega)).2 c_1462
                refine gs (pc' := 161) (fun _ _ _ _ _ hl => lv_aload_n hx hb d_Mf_init_160 rfl (lv_at hl 1 rfl)) ?_
                refine g_get hx hb hts hin_Mf hown hK f_1428 rfl 2 (by decide) (hts _ wm237) (fun _ h9 => h9) rfl d_Mf_init_161 ?_
                refine gs (pc' := 165) (fun _ _ _ _ _ hl => lv_iload_n hx hb d_Mf_init_164 rfl (lv_at hl 0 rfl)) ?_
                refine g_new hx hb hts hin_Ro ty_Ro ty_Ro_ok hown (hts _ wm30) (hts _ wm216) (hts _ wm11) hK (ci := 5) rfl (fs := [.null, .null, .int (nI 0)]) (fun j => match j with | 0 => fun _ => rfl | 1 => fun _ => rfl | 2 => fun _ => rfl | n + 3 => fun h9 => absurd h9 (by omega)) hlo hRc hRs (show B_624.1 + 1 + 1 + 1 + 1 + 1 + 1 + 1 + 1 + 1 + 1 + 1 + 1 + 1 + 1 + 1 + 1 + 1 + 1 + 1 ≤ MC from lc_658 19 (by decide)) (show B_624.2 + 3 + 16 + 16 + 3 + 16 + 16 + 3 + 16 + 16 + 3 + 16 + 16 + 3 + 16 + 16 + 3 + 16 + 16 + 3 ≤ MS from ls_659 213 (by decide)) d_Mf_init_165 46 (fun q_1463 G_1464 z_1465 f_1466 o_1467 => ?_)
                have fr_1468 : gfr (fun y => y = 1000) G_1414 G_1464 := gfr_new gfr_rf z_1465 o_1467
                have n_1469 : isN cA G_1464 24 11 a_158 0 := isN_fr n_1449 fr_1468 (show ¬ (11 : Nat) = 1000 by decide)
                have n_1470 : isN cA G_1464 24 12 b_159 0 := isN_fr n_1450 fr_1468 (show ¬ (12 : Nat) = 1000 by decide)
                have n_1471 : isN cA G_1464 24 13 a_221 0 := isN_fr n_1451 fr_1468 (show ¬ (13 : Nat) = 1000 by decide)
                have n_1472 : isN cA G_1464 24 14 b_222 0 := isN_fr n_1452 fr_1468 (show ¬ (14 : Nat) = 1000 by decide)
                have n_1473 : isN cA G_1464 24 15 a_293 0 := isN_fr n_1453 fr_1468 (show ¬ (15 : Nat) = 1000 by decide)
                have n_1474 : isN cA G_1464 24 16 b_294 0 := isN_fr n_1454 fr_1468 (show ¬ (16 : Nat) = 1000 by decide)
                have n_1475 : isN cA G_1464 24 17 a_374 0 := isN_fr n_1455 fr_1468 (show ¬ (17 : Nat) = 1000 by decide)
                have n_1476 : isN cA G_1464 24 18 b_375 0 := isN_fr n_1456 fr_1468 (show ¬ (18 : Nat) = 1000 by decide)
                have n_1477 : ∀ t9, t9 < 11 → isN cA G_1464 24 t9 (ad t9) 0 := fun t9 h9 => isN_fr (n_1457 t9 h9) fr_1468 (fun e9 : t9 = 1000 => absurd (show (1000 : Nat) < 11 from e9 ▸ h9) (by decide))
                have n_1478 : rf cA G_1464 (fun x => x = 30) r_434 ((0 : Nat) : Int) 1 := rf_fr n_1458 fr_1468 (fun t9 (h9 : t9 = 30) (e9 : t9 = 1000) => absurd (show (30 : Nat) = 1000 from h9.symm.trans e9) (by decide))
                have n_1479 : rf cA G_1464 (fun x => x = 30) r_496 ((4 : Nat) : Int) 1 := rf_fr n_1459 fr_1468 (fun t9 (h9 : t9 = 30) (e9 : t9 = 1000) => absurd (show (30 : Nat) = 1000 from h9.symm.trans e9) (by decide))
                have n_1480 : rf cA G_1464 (fun x => x = 30) r_560 ((1 : Nat) : Int) 2 := rf_fr n_1460 fr_1468 (fun t9 (h9 : t9 = 30) (e9 : t9 = 1000) => absurd (show (30 : Nat) = 1000 from h9.symm.trans e9) (by decide))
                have n_1481 : rf cA G_1464 (fun x => x = 30) r_626 ((1 : Nat) : Int) 6 := rf_fr n_1461 fr_1468 (fun t9 (h9 : t9 = 30) (e9 : t9 = 1000) => absurd (show (30 : Nat) = 1000 from h9.symm.trans e9) (by decide))
                have f_1482 : G_1464 q_1 = some (32, .inl (cA 2, 200, .inr (.inr (.inr (.inr (fun _ => none)))))) := (o_1467 _ (gne0 f_1417 z_1465)).trans f_1417
                have f_1483 : G_1464 q_50 = some (35, .inr (7, [.ref a_64, .ref a_65, .int (nI 0)])) := (o_1467 _ (gne0 f_1418 z_1465)).trans f_1418
                have f_1484 : G_1464 a_64 = some (36, .inl (cA 0, 12, .inl (fun _ => 0))) := (o_1467 _ (gne0 f_1419 z_1465)).trans f_1419
                have f_1485 : G_1464 a_65 = some (37, .inl (cA 1, 12, .inr (.inl (fun _ => 0)))) := (o_1467 _ (gne0 f_1420 z_1465)).trans f_1420
                have f_1486 : G_1464 q_87 = some (30, .inr (0, [.ref hd, .ref hc, .ref (ad 5), .ref (ad 6), .ref (ad 7), .ref (ad 8), .ref (ad 9), .ref (ad 10)])) := (o_1467 _ (gne0 f_1421 z_1465)).trans f_1421
                have f_1487 : G_1464 hd = some (30, .inr (2, [.ref (ad 0), .ref (ad 1), .ref (ad 2)])) := (o_1467 _ (gne0 f_1422 z_1465)).trans f_1422
                have f_1488 : G_1464 hc = some (19, .inr (1, [.ref hd, .ref (ad 3), .ref (ad 4), .long l_109, .long l_110, .long l_111, .long l_112])) := (o_1467 _ (gne0 f_1423 z_1465)).trans f_1423
                have f_1489 : G_1464 q_137 = some (20, .inr (3, [.int (nI 0), .ref a_158, .ref b_159])) := (o_1467 _ (gne0 f_1424 z_1465)).trans f_1424
                have f_1490 : G_1464 q_197 = some (21, .inr (3, [.int (nI 0), .ref a_221, .ref b_222])) := (o_1467 _ (gne0 f_1425 z_1465)).trans f_1425
                have f_1491 : G_1464 q_266 = some (22, .inr (3, [.int (nI 0), .ref a_293, .ref b_294])) := (o_1467 _ (gne0 f_1426 z_1465)).trans f_1426
                have f_1492 : G_1464 q_344 = some (23, .inr (3, [.int (nI 0), .ref a_374, .ref b_375])) := (o_1467 _ (gne0 f_1427 z_1465)).trans f_1427
                have f_1493 : G_1464 h = some (31, .inr (8, [.ref q_1, .int (nI 0), .ref q_24, .int (nI 0), .ref q_50, .ref q_87, .ref q_137, .ref q_197, .ref q_266, .ref q_344, .ref r_434, .ref r_496, .ref r_560, .ref r_626])) := (o_1467 _ (gne0 f_1428 z_1465)).trans f_1428
                have f_1494 : G_1464 q_692 = some (40, .inr (5, [.ref a_729, .ref a_730, .int (nI 0)])) := (o_1467 _ (gne0 f_1429 z_1465)).trans f_1429
                have f_1495 : G_1464 a_729 = some (50, .inl (cA 2, 16, .inr (.inr (.inr (.inr (fun _ => none)))))) := (o_1467 _ (gne0 f_1430 z_1465)).trans f_1430
                have f_1496 : G_1464 a_730 = some (60, .inl (cA 2, 16, .inr (.inr (.inr (.inr (fun _ => none)))))) := (o_1467 _ (gne0 f_1431 z_1465)).trans f_1431
                have f_1497 : G_1464 q_798 = some (41, .inr (5, [.ref a_838, .ref a_839, .int (nI 0)])) := (o_1467 _ (gne0 f_1432 z_1465)).trans f_1432
                have f_1498 : G_1464 a_838 = some (51, .inl (cA 2, 16, .inr (.inr (.inr (.inr (fun _ => none)))))) := (o_1467 _ (gne0 f_1433 z_1465)).trans f_1433
                have f_1499 : G_1464 a_839 = some (61, .inl (cA 2, 16, .inr (.inr (.inr (.inr (fun _ => none)))))) := (o_1467 _ (gne0 f_1434 z_1465)).trans f_1434
                have f_1500 : G_1464 q_913 = some (42, .inr (5, [.ref a_956, .ref a_957, .int (nI 0)])) := (o_1467 _ (gne0 f_1435 z_1465)).trans f_1435
                have f_1501 : G_1464 a_956 = some (52, .inl (cA 2, 16, .inr (.inr (.inr (.inr (fun _ => none)))))) := (o_1467 _ (gne0 f_1436 z_1465)).trans f_1436
                have f_1502 : G_1464 a_957 = some (62, .inl (cA 2, 16, .inr (.inr (.inr (.inr (fun _ => none)))))) := (o_1467 _ (gne0 f_1437 z_1465)).trans f_1437
                have f_1503 : G_1464 q_1037 = some (43, .inr (5, [.ref a_1083, .ref a_1084, .int (nI 0)])) := (o_1467 _ (gne0 f_1438 z_1465)).trans f_1438
                have f_1504 : G_1464 a_1083 = some (53, .inl (cA 2, 16, .inr (.inr (.inr (.inr (fun _ => none)))))) := (o_1467 _ (gne0 f_1439 z_1465)).trans f_1439
                have f_1505 : G_1464 a_1084 = some (63, .inl (cA 2, 16, .inr (.inr (.inr (.inr (fun _ => none)))))) := (o_1467 _ (gne0 f_1440 z_1465)).trans f_1440
                have f_1506 : G_1464 q_1170 = some (44, .inr (5, [.ref a_1219, .ref a_1220, .int (nI 0)])) := (o_1467 _ (gne0 f_1441 z_1465)).trans f_1441
                have f_1507 : G_1464 a_1219 = some (54, .inl (cA 2, 16, .inr (.inr (.inr (.inr (fun _ => none)))))) := (o_1467 _ (gne0 f_1442 z_1465)).trans f_1442
                have f_1508 : G_1464 a_1220 = some (64, .inl (cA 2, 16, .inr (.inr (.inr (.inr (fun _ => none)))))) := (o_1467 _ (gne0 f_1443 z_1465)).trans f_1443
                have f_1509 : G_1464 q_1312 = some (45, .inr (5, [.ref a_1364, .ref a_1365, .int (nI 0)])) := (o_1467 _ (gne0 f_1444 z_1465)).trans f_1444
                have f_1510 : G_1464 a_1364 = some (55, .inl (cA 2, 16, .inr (.inr (.inr (.inr (fun _ => none)))))) := (o_1467 _ (gne0 f_1445 z_1465)).trans f_1445
                have f_1511 : G_1464 a_1365 = some (65, .inl (cA 2, 16, .inr (.inr (.inr (.inr (fun _ => none)))))) := (o_1467 _ (gne0 f_1446 z_1465)).trans f_1446
                have f_1512 : G_1464 q_24 = some (33, .inl (cA 3, 8, .inr (.inr (.inr (.inr (va_up (va_up (va_up (va_up (va_up (va_up (fun _ => none) 0 (some q_692)) 1 (some q_798)) 2 (some q_913)) 3 (some q_1037)) 4 (some q_1170)) 5 (some q_1312))))))) := (o_1467 _ (gne0 f_1415 z_1465)).trans f_1415
                have z_1513 : G q_1463 = none := gex_0 x_1447 z_1465 (fun z => by have z := z.symm; subst z; rw [f_1428] at z_1465; cases z_1465)
                have x_1514 : gex (fun x => x = h) G G_1464 := gex_new x_1447 z_1465 o_1467
                refine g_Beq (B' := (B_624.1 + 1 + 1 + 1 + 1 + 1 + 1 + 1 + 1 + 1 + 1 + 1 + 1 + 1 + 1 + 1 + 1 + 1 + 1 + 1, B_624.2 + 3 + 16 + 16 + 3 + 16 + 16 + 3 + 16 + 16 + 3 + 16 + 16 + 3 + 16 + 16 + 3 + 16 + 16 + 3)) rfl ?_
                refine gs (pc' := 169) (fun _ _ _ _ _ hl => lv_dup hx hb d_Mf_init_168 rfl) ?_
                obtain ⟨⟨hN1, hN2, hN3, hN4, -, -, -⟩, -⟩ := id hZ
                refine g_outv hlo (g_runIN (b := q_1463) (As := []) (rest := [.ref q_1463, .int (nI 6), .ref q_24]) ⟨hx, hb, hml, hown, hts⟩ hK hZ hRc hRs (c_Ro_init l D cA lo MC MS G_1464 (B_624.1 + 1 + 1 + 1 + 1 + 1 + 1 + 1 + 1 + 1 + 1 + 1 + 1 + 1 + 1 + 1 + 1 + 1 + 1 + 1, B_624.2 + 3 + 16 + 16 + 3 + 16 + 16 + 3 + 16 + 16 + 3 + 16 + 16 + 3 + 16 + 16 + 3 + 16 + 16 + 3) 46 56 66 q_1463 (by decide) (by decide) (by decide) f_1466 (show B_624.1 + 1 + 1 + 1 + 1 + 1 + 1 + 1 + 1 + 1 + 1 + 1 + 1 + 1 + 1 + 1 + 1 + 1 + 1 + 1 + 2 ≤ MC from lc_658 21 (by decide)) (show B_624.2 + 3 + 16 + 16 + 3 + 16 + 16 + 3 + 16 + 16 + 3 + 16 + 16 + 3 + 16 + 16 + 3 + 16 + 16 + 3 + 32 ≤ MS from ls_659 245 (by decide)) (show B_624.1 + 1 + 1 + 1 + 1 + 1 + 1 + 1 + 1 + 1 + 1 + 1 + 1 + 1 + 1 + 1 + 1 + 1 + 1 + 1 ≤ MC from lc_658 19 (by decide)) (show B_624.2 + 3 + 16 + 16 + 3 + 16 + 16 + 3 + 16 + 16 + 3 + 16 + 16 + 3 + 16 + 16 + 3 + 16 + 16 + 3 ≤ MS from ls_659 213 (by decide))) (fun _ _ => ⟨va_cnB 0 hts (tb_good k_Ro_init) rfl rfl rfl hN4 (hts _ wm11) (by decide +kernel) ⟨by rw [hRf]; exact Nat.le_of_ble_eq_true rfl, by rw [hRl]; exact Nat.le_of_ble_eq_true rfl⟩, rfl, hts _ wm218⟩) (show B_624.1 + 1 + 1 + 1 + 1 + 1 + 1 + 1 + 1 + 1 + 1 + 1 + 1 + 1 + 1 + 1 + 1 + 1 + 1 + 1 ≤ MC from lc_658 19 (by decide)) (show B_624.2 + 3 + 16 + 16 + 3 + 16 + 16 + 3 + 16 + 16 + 3 + 16 + 16 + 3 + 16 + 16 + 3 + 16 + 16 + 3 ≤ MS from ls_659 213 (by decide)) rfl (Nat.le_of_ble_eq_true rfl) d_Mf_init_169) (fun G_1515 B_1516 p_1517 => ?_)
                obtain ⟨a_1518, a_1519, f_1520, f_1521, f_1522, x_1523, e_1524⟩ := p_1517
                have fr_1525 : gfr (fun y => y = 46) G_1464 G_1515 := gfr_gex x_1523 f_1466
                have n_1526 : isN cA G_1515 24 11 a_158 0 := isN_fr n_1469 fr_1525 (show ¬ (11 : Nat) = 46 by decide)
                have n_1527 : isN cA G_1515 24 12 b_159 0 := isN_fr n_1470 fr_1525 (show ¬ (12 : Nat) = 46 by decide)
                have n_1528 : isN cA G_1515 24 13 a_221 0 := isN_fr n_1471 fr_1525 (show ¬ (13 : Nat) = 46 by decide)
                have n_1529 : isN cA G_1515 24 14 b_222 0 := isN_fr n_1472 fr_1525 (show ¬ (14 : Nat) = 46 by decide)
                have n_1530 : isN cA G_1515 24 15 a_293 0 := isN_fr n_1473 fr_1525 (show ¬ (15 : Nat) = 46 by decide)
                have n_1531 : isN cA G_1515 24 16 b_294 0 := isN_fr n_1474 fr_1525 (show ¬ (16 : Nat) = 46 by decide)
                have n_1532 : isN cA G_1515 24 17 a_374 0 := isN_fr n_1475 fr_1525 (show ¬ (17 : Nat) = 46 by decide)
                have n_1533 : isN cA G_1515 24 18 b_375 0 := isN_fr n_1476 fr_1525 (show ¬ (18 : Nat) = 46 by decide)
                have n_1534 : ∀ t9, t9 < 11 → isN cA G_1515 24 t9 (ad t9) 0 := fun t9 h9 => isN_fr (n_1477 t9 h9) fr_1525 (fun e9 : t9 = 46 => absurd (show (46 : Nat) < 11 from e9 ▸ h9) (by decide))
                have n_1535 : rf cA G_1515 (fun x => x = 30) r_434 ((0 : Nat) : Int) 1 := rf_fr n_1478 fr_1525 (fun t9 (h9 : t9 = 30) (e9 : t9 = 46) => absurd (show (30 : Nat) = 46 from h9.symm.trans e9) (by decide))
                have n_1536 : rf cA G_1515 (fun x => x = 30) r_496 ((4 : Nat) : Int) 1 := rf_fr n_1479 fr_1525 (fun t9 (h9 : t9 = 30) (e9 : t9 = 46) => absurd (show (30 : Nat) = 46 from h9.symm.trans e9) (by decide))
                have n_1537 : rf cA G_1515 (fun x => x = 30) r_560 ((1 : Nat) : Int) 2 := rf_fr n_1480 fr_1525 (fun t9 (h9 : t9 = 30) (e9 : t9 = 46) => absurd (show (30 : Nat) = 46 from h9.symm.trans e9) (by decide))
                have n_1538 : rf cA G_1515 (fun x => x = 30) r_626 ((1 : Nat) : Int) 6 := rf_fr n_1481 fr_1525 (fun t9 (h9 : t9 = 30) (e9 : t9 = 46) => absurd (show (30 : Nat) = 46 from h9.symm.trans e9) (by decide))
                have e_1524 : B_1516 = (B_624.1 + 1 + 1 + 1 + 1 + 1 + 1 + 1 + 1 + 1 + 1 + 1 + 1 + 1 + 1 + 1 + 1 + 1 + 1 + 1 + 1 + 1, B_624.2 + 3 + 16 + 16 + 3 + 16 + 16 + 3 + 16 + 16 + 3 + 16 + 16 + 3 + 16 + 16 + 3 + 16 + 16 + 3 + 16 + 16) := e_1524
                subst e_1524
                have f_1539 : G_1515 q_1 = some (32, .inl (cA 2, 200, .inr (.inr (.inr (.inr (fun _ => none)))))) := x_1523 _ _ f_1482 (gne f_1482 f_1466 (fun e => absurd (show (32 : Nat) = 46 from congrArg Prod.fst e) (by decide)))
                have f_1540 : G_1515 q_50 = some (35, .inr (7, [.ref a_64, .ref a_65, .int (nI 0)])) := x_1523 _ _ f_1483 (gne f_1483 f_1466 (fun e => absurd (show (35 : Nat) = 46 from congrArg Prod.fst e) (by decide)))
                have f_1541 : G_1515 a_64 = some (36, .inl (cA 0, 12, .inl (fun _ => 0))) := x_1523 _ _ f_1484 (gne f_1484 f_1466 (fun e => absurd (show (36 : Nat) = 46 from congrArg Prod.fst e) (by decide)))
                have f_1542 : G_1515 a_65 = some (37, .inl (cA 1, 12, .inr (.inl (fun _ => 0)))) := x_1523 _ _ f_1485 (gne f_1485 f_1466 (fun e => absurd (show (37 : Nat) = 46 from congrArg Prod.fst e) (by decide)))
                have f_1543 : G_1515 q_87 = some (30, .inr (0, [.ref hd, .ref hc, .ref (ad 5), .ref (ad 6), .ref (ad 7), .ref (ad 8), .ref (ad 9), .ref (ad 10)])) := x_1523 _ _ f_1486 (gne f_1486 f_1466 (fun e => absurd (show (30 : Nat) = 46 from congrArg Prod.fst e) (by decide)))
                have f_1544 : G_1515 hd = some (30, .inr (2, [.ref (ad 0), .ref (ad 1), .ref (ad 2)])) := x_1523 _ _ f_1487 (gne f_1487 f_1466 (fun e => absurd (show (30 : Nat) = 46 from congrArg Prod.fst e) (by decide)))
                have f_1545 : G_1515 hc = some (19, .inr (1, [.ref hd, .ref (ad 3), .ref (ad 4), .long l_109, .long l_110, .long l_111, .long l_112])) := x_1523 _ _ f_1488 (gne f_1488 f_1466 (fun e => absurd (show (19 : Nat) = 46 from congrArg Prod.fst e) (by decide)))
                have f_1546 : G_1515 q_137 = some (20, .inr (3, [.int (nI 0), .ref a_158, .ref b_159])) := x_1523 _ _ f_1489 (gne f_1489 f_1466 (fun e => absurd (show (20 : Nat) = 46 from congrArg Prod.fst e) (by decide)))
                have f_1547 : G_1515 q_197 = some (21, .inr (3, [.int (nI 0), .ref a_221, .ref b_222])) := x_1523 _ _ f_1490 (gne f_1490 f_1466 (fun e => absurd (show (21 : Nat) = 46 from congrArg Prod.fst e) (by decide)))
                have f_1548 : G_1515 q_266 = some (22, .inr (3, [.int (nI 0), .ref a_293, .ref b_294])) := x_1523 _ _ f_1491 (gne f_1491 f_1466 (fun e => absurd (show (22 : Nat) = 46 from congrArg Prod.fst e) (by decide)))
                have f_1549 : G_1515 q_344 = some (23, .inr (3, [.int (nI 0), .ref a_374, .ref b_375])) := x_1523 _ _ f_1492 (gne f_1492 f_1466 (fun e => absurd (show (23 : Nat) = 46 from congrArg Prod.fst e) (by decide)))
                have f_1550 : G_1515 h = some (31, .inr (8, [.ref q_1, .int (nI 0), .ref q_24, .int (nI 0), .ref q_50, .ref q_87, .ref q_137, .ref q_197, .ref q_266, .ref q_344, .ref r_434, .ref r_496, .ref r_560, .ref r_626])) := x_1523 _ _ f_1493 (gne f_1493 f_1466 (fun e => absurd (show (31 : Nat) = 46 from congrArg Prod.fst e) (by decide)))
                have f_1551 : G_1515 q_692 = some (40, .inr (5, [.ref a_729, .ref a_730, .int (nI 0)])) := x_1523 _ _ f_1494 (gne f_1494 f_1466 (fun e => absurd (show (40 : Nat) = 46 from congrArg Prod.fst e) (by decide)))
                have f_1552 : G_1515 a_729 = some (50, .inl (cA 2, 16, .inr (.inr (.inr (.inr (fun _ => none)))))) := x_1523 _ _ f_1495 (gne f_1495 f_1466 (fun e => absurd (show (50 : Nat) = 46 from congrArg Prod.fst e) (by decide)))
                have f_1553 : G_1515 a_730 = some (60, .inl (cA 2, 16, .inr (.inr (.inr (.inr (fun _ => none)))))) := x_1523 _ _ f_1496 (gne f_1496 f_1466 (fun e => absurd (show (60 : Nat) = 46 from congrArg Prod.fst e) (by decide)))
                have f_1554 : G_1515 q_798 = some (41, .inr (5, [.ref a_838, .ref a_839, .int (nI 0)])) := x_1523 _ _ f_1497 (gne f_1497 f_1466 (fun e => absurd (show (41 : Nat) = 46 from congrArg Prod.fst e) (by decide)))
                have f_1555 : G_1515 a_838 = some (51, .inl (cA 2, 16, .inr (.inr (.inr (.inr (fun _ => none)))))) := x_1523 _ _ f_1498 (gne f_1498 f_1466 (fun e => absurd (show (51 : Nat) = 46 from congrArg Prod.fst e) (by decide)))
                have f_1556 : G_1515 a_839 = some (61, .inl (cA 2, 16, .inr (.inr (.inr (.inr (fun _ => none)))))) := x_1523 _ _ f_1499 (gne f_1499 f_1466 (fun e => absurd (show (61 : Nat) = 46 from congrArg Prod.fst e) (by decide)))
                have f_1557 : G_1515 q_913 = some (42, .inr (5, [.ref a_956, .ref a_957, .int (nI 0)])) := x_1523 _ _ f_1500 (gne f_1500 f_1466 (fun e => absurd (show (42 : Nat) = 46 from congrArg Prod.fst e) (by decide)))
                have f_1558 : G_1515 a_956 = some (52, .inl (cA 2, 16, .inr (.inr (.inr (.inr (fun _ => none)))))) := x_1523 _ _ f_1501 (gne f_1501 f_1466 (fun e => absurd (show (52 : Nat) = 46 from congrArg Prod.fst e) (by decide)))
                have f_1559 : G_1515 a_957 = some (62, .inl (cA 2, 16, .inr (.inr (.inr (.inr (fun _ => none)))))) := x_1523 _ _ f_1502 (gne f_1502 f_1466 (fun e => absurd (show (62 : Nat) = 46 from congrArg Prod.fst e) (by decide)))
                have f_1560 : G_1515 q_1037 = some (43, .inr (5, [.ref a_1083, .ref a_1084, .int (nI 0)])) := x_1523 _ _ f_1503 (gne f_1503 f_1466 (fun e => absurd (show (43 : Nat) = 46 from congrArg Prod.fst e) (by decide)))
                have f_1561 : G_1515 a_1083 = some (53, .inl (cA 2, 16, .inr (.inr (.inr (.inr (fun _ => none)))))) := x_1523 _ _ f_1504 (gne f_1504 f_1466 (fun e => absurd (show (53 : Nat) = 46 from congrArg Prod.fst e) (by decide)))
                have f_1562 : G_1515 a_1084 = some (63, .inl (cA 2, 16, .inr (.inr (.inr (.inr (fun _ => none)))))) := x_1523 _ _ f_1505 (gne f_1505 f_1466 (fun e => absurd (show (63 : Nat) = 46 from congrArg Prod.fst e) (by decide)))
                have f_1563 : G_1515 q_1170 = some (44, .inr (5, [.ref a_1219, .ref a_1220, .int (nI 0)])) := x_1523 _ _ f_1506 (gne f_1506 f_1466 (fun e => absurd (show (44 : Nat) = 46 from congrArg Prod.fst e) (by decide)))
                have f_1564 : G_1515 a_1219 = some (54, .inl (cA 2, 16, .inr (.inr (.inr (.inr (fun _ => none)))))) := x_1523 _ _ f_1507 (gne f_1507 f_1466 (fun e => absurd (show (54 : Nat) = 46 from congrArg Prod.fst e) (by decide)))
                have f_1565 : G_1515 a_1220 = some (64, .inl (cA 2, 16, .inr (.inr (.inr (.inr (fun _ => none)))))) := x_1523 _ _ f_1508 (gne f_1508 f_1466 (fun e => absurd (show (64 : Nat) = 46 from congrArg Prod.fst e) (by decide)))
                have f_1566 : G_1515 q_1312 = some (45, .inr (5, [.ref a_1364, .ref a_1365, .int (nI 0)])) := x_1523 _ _ f_1509 (gne f_1509 f_1466 (fun e => absurd (show (45 : Nat) = 46 from congrArg Prod.fst e) (by decide)))
                have f_1567 : G_1515 a_1364 = some (55, .inl (cA 2, 16, .inr (.inr (.inr (.inr (fun _ => none)))))) := x_1523 _ _ f_1510 (gne f_1510 f_1466 (fun e => absurd (show (55 : Nat) = 46 from congrArg Prod.fst e) (by decide)))
                have f_1568 : G_1515 a_1365 = some (65, .inl (cA 2, 16, .inr (.inr (.inr (.inr (fun _ => none)))))) := x_1523 _ _ f_1511 (gne f_1511 f_1466 (fun e => absurd (show (65 : Nat) = 46 from congrArg Prod.fst e) (by decide)))
                have f_1569 : G_1515 q_24 = some (33, .inl (cA 3, 8, .inr (.inr (.inr (.inr (va_up (va_up (va_up (va_up (va_up (va_up (fun _ => none) 0 (some q_692)) 1 (some q_798)) 2 (some q_913)) 3 (some q_1037)) 4 (some q_1170)) 5 (some q_1312))))))) := x_1523 _ _ f_1512 (gne f_1512 f_1466 (fun e => absurd (show (33 : Nat) = 46 from congrArg Prod.fst e) (by decide)))
                have x_1570 : gex (fun x => x = h) G G_1515 := gex_tr x_1514 x_1523 (fun x y hx9 _ e => by subst e; rw [z_1513] at hx9; cases hx9)
                refine g_aast hx hb hK 3 5 f_1569 rfl f_1520 rfl (show vp_in (nI 6) 8 from vp_in_nI (by omega) (by omega)) d_Mf_init_172 (fun G_1571 f_1572 o_1573 => ?_)
                rw [nI_clamp (by omega)] at f_1572
                have f_1574 : G_1571 q_1 = some (32, .inl (cA 2, 200, .inr (.inr (.inr (.inr (fun _ => none)))))) := (o_1573 _ (gne f_1539 f_1569 (fun e => absurd (show (32 : Nat) = 33 from congrArg Prod.fst e) (by decide)))).trans f_1539
                have f_1575 : G_1571 q_50 = some (35, .inr (7, [.ref a_64, .ref a_65, .int (nI 0)])) := (o_1573 _ (gne f_1540 f_1569 (fun e => absurd (show (35 : Nat) = 33 from congrArg Prod.fst e) (by decide)))).trans f_1540
                have f_1576 : G_1571 a_64 = some (36, .inl (cA 0, 12, .inl (fun _ => 0))) := (o_1573 _ (gne f_1541 f_1569 (fun e => absurd (show (36 : Nat) = 33 from congrArg Prod.fst e) (by decide)))).trans f_1541
                have f_1577 : G_1571 a_65 = some (37, .inl (cA 1, 12, .inr (.inl (fun _ => 0)))) := (o_1573 _ (gne f_1542 f_1569 (fun e => absurd (show (37 : Nat) = 33 from congrArg Prod.fst e) (by decide)))).trans f_1542
                have f_1578 : G_1571 q_87 = some (30, .inr (0, [.ref hd, .ref hc, .ref (ad 5), .ref (ad 6), .ref (ad 7), .ref (ad 8), .ref (ad 9), .ref (ad 10)])) := (o_1573 _ (gne f_1543 f_1569 (fun e => absurd (show (30 : Nat) = 33 from congrArg Prod.fst e) (by decide)))).trans f_1543
                have f_1579 : G_1571 hd = some (30, .inr (2, [.ref (ad 0), .ref (ad 1), .ref (ad 2)])) := (o_1573 _ (gne f_1544 f_1569 (fun e => absurd (show (30 : Nat) = 33 from congrArg Prod.fst e) (by decide)))).trans f_1544
                have f_1580 : G_1571 hc = some (19, .inr (1, [.ref hd, .ref (ad 3), .ref (ad 4), .long l_109, .long l_110, .long l_111, .long l_112])) := (o_1573 _ (gne f_1545 f_1569 (fun e => absurd (show (19 : Nat) = 33 from congrArg Prod.fst e) (by decide)))).trans f_1545
                have f_1581 : G_1571 q_137 = some (20, .inr (3, [.int (nI 0), .ref a_158, .ref b_159])) := (o_1573 _ (gne f_1546 f_1569 (fun e => absurd (show (20 : Nat) = 33 from congrArg Prod.fst e) (by decide)))).trans f_1546
                have f_1582 : G_1571 q_197 = some (21, .inr (3, [.int (nI 0), .ref a_221, .ref b_222])) := (o_1573 _ (gne f_1547 f_1569 (fun e => absurd (show (21 : Nat) = 33 from congrArg Prod.fst e) (by decide)))).trans f_1547
                have f_1583 : G_1571 q_266 = some (22, .inr (3, [.int (nI 0), .ref a_293, .ref b_294])) := (o_1573 _ (gne f_1548 f_1569 (fun e => absurd (show (22 : Nat) = 33 from congrArg Prod.fst e) (by decide)))).trans f_1548
                have f_1584 : G_1571 q_344 = some (23, .inr (3, [.int (nI 0), .ref a_374, .ref b_375])) := (o_1573 _ (gne f_1549 f_1569 (fun e => absurd (show (23 : Nat) = 33 from congrArg Prod.fst e) (by decide)))).trans f_1549
                have f_1585 : G_1571 h = some (31, .inr (8, [.ref q_1, .int (nI 0), .ref q_24, .int (nI 0), .ref q_50, .ref q_87, .ref q_137, .ref q_197, .ref q_266, .ref q_344, .ref r_434, .ref r_496, .ref r_560, .ref r_626])) := (o_1573 _ (gne f_1550 f_1569 (fun e => absurd (show (31 : Nat) = 33 from congrArg Prod.fst e) (by decide)))).trans f_1550
                have f_1586 : G_1571 q_692 = some (40, .inr (5, [.ref a_729, .ref a_730, .int (nI 0)])) := (o_1573 _ (gne f_1551 f_1569 (fun e => absurd (show (40 : Nat) = 33 from congrArg Prod.fst e) (by decide)))).trans f_1551
                have f_1587 : G_1571 a_729 = some (50, .inl (cA 2, 16, .inr (.inr (.inr (.inr (fun _ => none)))))) := (o_1573 _ (gne f_1552 f_1569 (fun e => absurd (show (50 : Nat) = 33 from congrArg Prod.fst e) (by decide)))).trans f_1552
                have f_1588 : G_1571 a_730 = some (60, .inl (cA 2, 16, .inr (.inr (.inr (.inr (fun _ => none)))))) := (o_1573 _ (gne f_1553 f_1569 (fun e => absurd (show (60 : Nat) = 33 from congrArg Prod.fst e) (by decide)))).trans f_1553
                have f_1589 : G_1571 q_798 = some (41, .inr (5, [.ref a_838, .ref a_839, .int (nI 0)])) := (o_1573 _ (gne f_1554 f_1569 (fun e => absurd (show (41 : Nat) = 33 from congrArg Prod.fst e) (by decide)))).trans f_1554
                have f_1590 : G_1571 a_838 = some (51, .inl (cA 2, 16, .inr (.inr (.inr (.inr (fun _ => none)))))) := (o_1573 _ (gne f_1555 f_1569 (fun e => absurd (show (51 : Nat) = 33 from congrArg Prod.fst e) (by decide)))).trans f_1555
                have f_1591 : G_1571 a_839 = some (61, .inl (cA 2, 16, .inr (.inr (.inr (.inr (fun _ => none)))))) := (o_1573 _ (gne f_1556 f_1569 (fun e => absurd (show (61 : Nat) = 33 from congrArg Prod.fst e) (by decide)))).trans f_1556
                have f_1592 : G_1571 q_913 = some (42, .inr (5, [.ref a_956, .ref a_957, .int (nI 0)])) := (o_1573 _ (gne f_1557 f_1569 (fun e => absurd (show (42 : Nat) = 33 from congrArg Prod.fst e) (by decide)))).trans f_1557
                have f_1593 : G_1571 a_956 = some (52, .inl (cA 2, 16, .inr (.inr (.inr (.inr (fun _ => none)))))) := (o_1573 _ (gne f_1558 f_1569 (fun e => absurd (show (52 : Nat) = 33 from congrArg Prod.fst e) (by decide)))).trans f_1558
                have f_1594 : G_1571 a_957 = some (62, .inl (cA 2, 16, .inr (.inr (.inr (.inr (fun _ => none)))))) := (o_1573 _ (gne f_1559 f_1569 (fun e => absurd (show (62 : Nat) = 33 from congrArg Prod.fst e) (by decide)))).trans f_1559
                have f_1595 : G_1571 q_1037 = some (43, .inr (5, [.ref a_1083, .ref a_1084, .int (nI 0)])) := (o_1573 _ (gne f_1560 f_1569 (fun e => absurd (show (43 : Nat) = 33 from congrArg Prod.fst e) (by decide)))).trans f_1560
                have f_1596 : G_1571 a_1083 = some (53, .inl (cA 2, 16, .inr (.inr (.inr (.inr (fun _ => none)))))) := (o_1573 _ (gne f_1561 f_1569 (fun e => absurd (show (53 : Nat) = 33 from congrArg Prod.fst e) (by decide)))).trans f_1561
                have f_1597 : G_1571 a_1084 = some (63, .inl (cA 2, 16, .inr (.inr (.inr (.inr (fun _ => none)))))) := (o_1573 _ (gne f_1562 f_1569 (fun e => absurd (show (63 : Nat) = 33 from congrArg Prod.fst e) (by decide)))).trans f_1562
                have f_1598 : G_1571 q_1170 = some (44, .inr (5, [.ref a_1219, .ref a_1220, .int (nI 0)])) := (o_1573 _ (gne f_1563 f_1569 (fun e => absurd (show (44 : Nat) = 33 from congrArg Prod.fst e) (by decide)))).trans f_1563
                have f_1599 : G_1571 a_1219 = some (54, .inl (cA 2, 16, .inr (.inr (.inr (.inr (fun _ => none)))))) := (o_1573 _ (gne f_1564 f_1569 (fun e => absurd (show (54 : Nat) = 33 from congrArg Prod.fst e) (by decide)))).trans f_1564
                have f_1600 : G_1571 a_1220 = some (64, .inl (cA 2, 16, .inr (.inr (.inr (.inr (fun _ => none)))))) := (o_1573 _ (gne f_1565 f_1569 (fun e => absurd (show (64 : Nat) = 33 from congrArg Prod.fst e) (by decide)))).trans f_1565
                have f_1601 : G_1571 q_1312 = some (45, .inr (5, [.ref a_1364, .ref a_1365, .int (nI 0)])) := (o_1573 _ (gne f_1566 f_1569 (fun e => absurd (show (45 : Nat) = 33 from congrArg Prod.fst e) (by decide)))).trans f_1566
                have f_1602 : G_1571 a_1364 = some (55, .inl (cA 2, 16, .inr (.inr (.inr (.inr (fun _ => none)))))) := (o_1573 _ (gne f_1567 f_1569 (fun e => absurd (show (55 : Nat) = 33 from congrArg Prod.fst e) (by decide)))).trans f_1567
                have f_1603 : G_1571 a_1365 = some (65, .inl (cA 2, 16, .inr (.inr (.inr (.inr (fun _ => none)))))) := (o_1573 _ (gne f_1568 f_1569 (fun e => absurd (show (65 : Nat) = 33 from congrArg Prod.fst e) (by decide)))).trans f_1568
                have f_1604 : G_1571 q_1463 = some (46, .inr (5, [.ref a_1518, .ref a_1519, .int (nI 0)])) := (o_1573 _ (gne f_1520 f_1569 (fun e => absurd (show (46 : Nat) = 33 from congrArg Prod.fst e) (by decide)))).trans f_1520
                have f_1605 : G_1571 a_1518 = some (56, .inl (cA 2, 16, .inr (.inr (.inr (.inr (fun _ => none)))))) := (o_1573 _ (gne f_1521 f_1569 (fun e => absurd (show (56 : Nat) = 33 from congrArg Prod.fst e) (by decide)))).trans f_1521
                have f_1606 : G_1571 a_1519 = some (66, .inl (cA 2, 16, .inr (.inr (.inr (.inr (fun _ => none)))))) := (o_1573 _ (gne f_1522 f_1569 (fun e => absurd (show (66 : Nat) = 33 from congrArg Prod.fst e) (by decide)))).trans f_1522
                have x_1607 : gex (fun x => x = h) G G_1571 := gex_put x_1570 o_1573 (Or.inr z_32)
                have fr_1608 : gfr (fun y => y = 33) G_1515 G_1571 := gfr_put gfr_rf f_1569 rfl o_1573
                have n_1609 : isN cA G_1571 24 11 a_158 0 := isN_fr n_1526 fr_1608 (show ¬ (11 : Nat) = 33 by decide)
                have n_1610 : isN cA G_1571 24 12 b_159 0 := isN_fr n_1527 fr_1608 (show ¬ (12 : Nat) = 33 by decide)
                have n_1611 : isN cA G_1571 24 13 a_221 0 := isN_fr n_1528 fr_1608 (show ¬ (13 : Nat) = 33 by decide)
                have n_1612 : isN cA G_1571 24 14 b_222 0 := isN_fr n_1529 fr_1608 (show ¬ (14 : Nat) = 33 by decide)
                have n_1613 : isN cA G_1571 24 15 a_293 0 := isN_fr n_1530 fr_1608 (show ¬ (15 : Nat) = 33 by decide)
                have n_1614 : isN cA G_1571 24 16 b_294 0 := isN_fr n_1531 fr_1608 (show ¬ (16 : Nat) = 33 by decide)
                have n_1615 : isN cA G_1571 24 17 a_374 0 := isN_fr n_1532 fr_1608 (show ¬ (17 : Nat) = 33 by decide)
                have n_1616 : isN cA G_1571 24 18 b_375 0 := isN_fr n_1533 fr_1608 (show ¬ (18 : Nat) = 33 by decide)
                have n_1617 : ∀ t9, t9 < 11 → isN cA G_1571 24 t9 (ad t9) 0 := fun t9 h9 => isN_fr (n_1534 t9 h9) fr_1608 (fun e9 : t9 = 33 => absurd (show (33 : Nat) < 11 from e9 ▸ h9) (by decide))
                have n_1618 : rf cA G_1571 (fun x => x = 30) r_434 ((0 : Nat) : Int) 1 := rf_fr n_1535 fr_1608 (fun t9 (h9 : t9 = 30) (e9 : t9 = 33) => absurd (show (30 : Nat) = 33 from h9.symm.trans e9) (by decide))
                have n_1619 : rf cA G_1571 (fun x => x = 30) r_496 ((4 : Nat) : Int) 1 := rf_fr n_1536 fr_1608 (fun t9 (h9 : t9 = 30) (e9 : t9 = 33) => absurd (show (30 : Nat) = 33 from h9.symm.trans e9) (by decide))
                have n_1620 : rf cA G_1571 (fun x => x = 30) r_560 ((1 : Nat) : Int) 2 := rf_fr n_1537 fr_1608 (fun t9 (h9 : t9 = 30) (e9 : t9 = 33) => absurd (show (30 : Nat) = 33 from h9.symm.trans e9) (by decide))
                have n_1621 : rf cA G_1571 (fun x => x = 30) r_626 ((1 : Nat) : Int) 6 := rf_fr n_1538 fr_1608 (fun t9 (h9 : t9 = 30) (e9 : t9 = 33) => absurd (show (30 : Nat) = 33 from h9.symm.trans e9) (by decide))
                refine gst (pc' := 176) (L' := [(1, .int (nI 7)), (0, .ref h)]) (fun _ _ _ _ _ hl => lv_iinc (v := nI 7) hx hb d_Mf_init_173 hl (k := 0) rfl (by decide) (by decide) rfl) ?_
                refine gs (pc' := 154) (fun _ _ _ _ _ hl => lv_goto (tgt := 154) hx hb d_Mf_init_176 (by decide)) ?_
                refine gs (pc' := 155) (fun _ _ _ _ _ hl => lv_iload_n hx hb d_Mf_init_154 rfl (lv_at hl 0 rfl)) ?_
                refine gs (pc' := 157) (fun _ _ _ _ _ hl => lv_bipush (v := nI 8) hx hb d_Mf_init_155 (by decide)) ?_
                refine gsb (pc1 := 179) (pc2 := 160) (fun _ _ _ _ _ => lv_icmp_ge (tgt := 179) hx hb d_Mf_init_157 (by decide)) (fun c_1622 => ?_) (fun c_1622 => ?_)
                · skip
                  have nc_1622 : 7 ≥ 8 := (nn_ge (a := 7) (b := 8) (by omega) (by omega)).1 c_1622
                  exact absurd nc_1622 (by decide)
                · skip
                  have nc_1622 : 7 < 8 := (nn_ge (a := 7) (b := 8) (by omega) (by omega)).2 c_1622
                  refine gs (pc' := 161) (fun _ _ _ _ _ hl => lv_aload_n hx hb d_Mf_init_160 rfl (lv_at hl 1 rfl)) ?_
                  refine g_get hx hb hts hin_Mf hown hK f_1585 rfl 2 (by decide) (hts _ wm237) (fun _ h9 => h9) rfl d_Mf_init_161 ?_
                  refine gs (pc' := 165) (fun _ _ _ _ _ hl => lv_iload_n hx hb d_Mf_init_164 rfl (lv_at hl 0 rfl)) ?_
                  refine g_new hx hb hts hin_Ro ty_Ro ty_Ro_ok hown (hts _ wm30) (hts _ wm216) (hts _ wm11) hK (ci := 5) rfl (fs := [.null, .null, .int (nI 0)]) (fun j => match j with | 0 => fun _ => rfl | 1 => fun _ => rfl | 2 => fun _ => rfl | n + 3 => fun h9 => absurd h9 (by omega)) hlo hRc hRs (show B_624.1 + 1 + 1 + 1 + 1 + 1 + 1 + 1 + 1 + 1 + 1 + 1 + 1 + 1 + 1 + 1 + 1 + 1 + 1 + 1 + 1 + 1 + 1 ≤ MC from lc_658 22 (by decide)) (show B_624.2 + 3 + 16 + 16 + 3 + 16 + 16 + 3 + 16 + 16 + 3 + 16 + 16 + 3 + 16 + 16 + 3 + 16 + 16 + 3 + 16 + 16 + 3 ≤ MS from ls_659 248 (by decide)) d_Mf_init_165 47 (fun q_1623 G_1624 z_1625 f_1626 o_1627 => ?_)
                  have fr_1628 : gfr (fun y => y = 1000) G_1571 G_1624 := gfr_new gfr_rf z_1625 o_1627
                  have n_1629 : isN cA G_1624 24 11 a_158 0 := isN_fr n_1609 fr_1628 (show ¬ (11 : Nat) = 1000 by decide)
                  have n_1630 : isN cA G_1624 24 12 b_159 0 := isN_fr n_1610 fr_1628 (show ¬ (12 : Nat) = 1000 by decide)
                  have n_1631 : isN cA G_1624 24 13 a_221 0 := isN_fr n_1611 fr_1628 (show ¬ (13 : Nat) = 1000 by decide)
                  have n_1632 : isN cA G_1624 24 14 b_222 0 := isN_fr n_1612 fr_1628 (show ¬ (14 : Nat) = 1000 by decide)
                  have n_1633 : isN cA G_1624 24 15 a_293 0 := isN_fr n_1613 fr_1628 (show ¬ (15 : Nat) = 1000 by decide)
                  have n_1634 : isN cA G_1624 24 16 b_294 0 := isN_fr n_1614 fr_1628 (show ¬ (16 : Nat) = 1000 by decide)
                  have n_1635 : isN cA G_1624 24 17 a_374 0 := isN_fr n_1615 fr_1628 (show ¬ (17 : Nat) = 1000 by decide)
                  have n_1636 : isN cA G_1624 24 18 b_375 0 := isN_fr n_1616 fr_1628 (show ¬ (18 : Nat) = 1000 by decide)
                  have n_1637 : ∀ t9, t9 < 11 → isN cA G_1624 24 t9 (ad t9) 0 := fun t9 h9 => isN_fr (n_1617 t9 h9) fr_1628 (fun e9 : t9 = 1000 => absurd (show (1000 : Nat) < 11 from e9 ▸ h9) (by decide))
                  have n_1638 : rf cA G_1624 (fun x => x = 30) r_434 ((0 : Nat) : Int) 1 := rf_fr n_1618 fr_1628 (fun t9 (h9 : t9 = 30) (e9 : t9 = 1000) => absurd (show (30 : Nat) = 1000 from h9.symm.trans e9) (by decide))
                  have n_1639 : rf cA G_1624 (fun x => x = 30) r_496 ((4 : Nat) : Int) 1 := rf_fr n_1619 fr_1628 (fun t9 (h9 : t9 = 30) (e9 : t9 = 1000) => absurd (show (30 : Nat) = 1000 from h9.symm.trans e9) (by decide))
                  have n_1640 : rf cA G_1624 (fun x => x = 30) r_560 ((1 : Nat) : Int) 2 := rf_fr n_1620 fr_1628 (fun t9 (h9 : t9 = 30) (e9 : t9 = 1000) => absurd (show (30 : Nat) = 1000 from h9.symm.trans e9) (by decide))
                  have n_1641 : rf cA G_1624 (fun x => x = 30) r_626 ((1 : Nat) : Int) 6 := rf_fr n_1621 fr_1628 (fun t9 (h9 : t9 = 30) (e9 : t9 = 1000) => absurd (show (30 : Nat) = 1000 from h9.symm.trans e9) (by decide))
                  have f_1642 : G_1624 q_1 = some (32, .inl (cA 2, 200, .inr (.inr (.inr (.inr (fun _ => none)))))) := (o_1627 _ (gne0 f_1574 z_1625)).trans f_1574
                  have f_1643 : G_1624 q_50 = some (35, .inr (7, [.ref a_64, .ref a_65, .int (nI 0)])) := (o_1627 _ (gne0 f_1575 z_1625)).trans f_1575
                  have f_1644 : G_1624 a_64 = some (36, .inl (cA 0, 12, .inl (fun _ => 0))) := (o_1627 _ (gne0 f_1576 z_1625)).trans f_1576
                  have f_1645 : G_1624 a_65 = some (37, .inl (cA 1, 12, .inr (.inl (fun _ => 0)))) := (o_1627 _ (gne0 f_1577 z_1625)).trans f_1577
                  have f_1646 : G_1624 q_87 = some (30, .inr (0, [.ref hd, .ref hc, .ref (ad 5), .ref (ad 6), .ref (ad 7), .ref (ad 8), .ref (ad 9), .ref (ad 10)])) := (o_1627 _ (gne0 f_1578 z_1625)).trans f_1578
                  have f_1647 : G_1624 hd = some (30, .inr (2, [.ref (ad 0), .ref (ad 1), .ref (ad 2)])) := (o_1627 _ (gne0 f_1579 z_1625)).trans f_1579
                  have f_1648 : G_1624 hc = some (19, .inr (1, [.ref hd, .ref (ad 3), .ref (ad 4), .long l_109, .long l_110, .long l_111, .long l_112])) := (o_1627 _ (gne0 f_1580 z_1625)).trans f_1580
                  have f_1649 : G_1624 q_137 = some (20, .inr (3, [.int (nI 0), .ref a_158, .ref b_159])) := (o_1627 _ (gne0 f_1581 z_1625)).trans f_1581
                  have f_1650 : G_1624 q_197 = some (21, .inr (3, [.int (nI 0), .ref a_221, .ref b_222])) := (o_1627 _ (gne0 f_1582 z_1625)).trans f_1582
                  have f_1651 : G_1624 q_266 = some (22, .inr (3, [.int (nI 0), .ref a_293, .ref b_294])) := (o_1627 _ (gne0 f_1583 z_1625)).trans f_1583
                  have f_1652 : G_1624 q_344 = some (23, .inr (3, [.int (nI 0), .ref a_374, .ref b_375])) := (o_1627 _ (gne0 f_1584 z_1625)).trans f_1584
                  have f_1653 : G_1624 h = some (31, .inr (8, [.ref q_1, .int (nI 0), .ref q_24, .int (nI 0), .ref q_50, .ref q_87, .ref q_137, .ref q_197, .ref q_266, .ref q_344, .ref r_434, .ref r_496, .ref r_560, .ref r_626])) := (o_1627 _ (gne0 f_1585 z_1625)).trans f_1585
                  have f_1654 : G_1624 q_692 = some (40, .inr (5, [.ref a_729, .ref a_730, .int (nI 0)])) := (o_1627 _ (gne0 f_1586 z_1625)).trans f_1586
                  have f_1655 : G_1624 a_729 = some (50, .inl (cA 2, 16, .inr (.inr (.inr (.inr (fun _ => none)))))) := (o_1627 _ (gne0 f_1587 z_1625)).trans f_1587
                  have f_1656 : G_1624 a_730 = some (60, .inl (cA 2, 16, .inr (.inr (.inr (.inr (fun _ => none)))))) := (o_1627 _ (gne0 f_1588 z_1625)).trans f_1588
                  have f_1657 : G_1624 q_798 = some (41, .inr (5, [.ref a_838, .ref a_839, .int (nI 0)])) := (o_1627 _ (gne0 f_1589 z_1625)).trans f_1589
                  have f_1658 : G_1624 a_838 = some (51, .inl (cA 2, 16, .inr (.inr (.inr (.inr (fun _ => none)))))) := (o_1627 _ (gne0 f_1590 z_1625)).trans f_1590
                  have f_1659 : G_1624 a_839 = some (61, .inl (cA 2, 16, .inr (.inr (.inr (.inr (fun _ => none)))))) := (o_1627 _ (gne0 f_1591 z_1625)).trans f_1591
                  have f_1660 : G_1624 q_913 = some (42, .inr (5, [.ref a_956, .ref a_957, .int (nI 0)])) := (o_1627 _ (gne0 f_1592 z_1625)).trans f_1592
                  have f_1661 : G_1624 a_956 = some (52, .inl (cA 2, 16, .inr (.inr (.inr (.inr (fun _ => none)))))) := (o_1627 _ (gne0 f_1593 z_1625)).trans f_1593
                  have f_1662 : G_1624 a_957 = some (62, .inl (cA 2, 16, .inr (.inr (.inr (.inr (fun _ => none)))))) := (o_1627 _ (gne0 f_1594 z_1625)).trans f_1594
                  have f_1663 : G_1624 q_1037 = some (43, .inr (5, [.ref a_1083, .ref a_1084, .int (nI 0)])) := (o_1627 _ (gne0 f_1595 z_1625)).trans f_1595
                  have f_1664 : G_1624 a_1083 = some (53, .inl (cA 2, 16, .inr (.inr (.inr (.inr (fun _ => none)))))) := (o_1627 _ (gne0 f_1596 z_1625)).trans f_1596
                  have f_1665 : G_1624 a_1084 = some (63, .inl (cA 2, 16, .inr (.inr (.inr (.inr (fun _ => none)))))) := (o_1627 _ (gne0 f_1597 z_1625)).trans f_1597
                  have f_1666 : G_1624 q_1170 = some (44, .inr (5, [.ref a_1219, .ref a_1220, .int (nI 0)])) := (o_1627 _ (gne0 f_1598 z_1625)).trans f_1598
                  have f_1667 : G_1624 a_1219 = some (54, .inl (cA 2, 16, .inr (.inr (.inr (.inr (fun _ => none)))))) := (o_1627 _ (gne0 f_1599 z_1625)).trans f_1599
                  have f_1668 : G_1624 a_1220 = some (64, .inl (cA 2, 16, .inr (.inr (.inr (.inr (fun _ => none)))))) := (o_1627 _ (gne0 f_1600 z_1625)).trans f_1600
                  have f_1669 : G_1624 q_1312 = some (45, .inr (5, [.ref a_1364, .ref a_1365, .int (nI 0)])) := (o_1627 _ (gne0 f_1601 z_1625)).trans f_1601
                  have f_1670 : G_1624 a_1364 = some (55, .inl (cA 2, 16, .inr (.inr (.inr (.inr (fun _ => none)))))) := (o_1627 _ (gne0 f_1602 z_1625)).trans f_1602
                  have f_1671 : G_1624 a_1365 = some (65, .inl (cA 2, 16, .inr (.inr (.inr (.inr (fun _ => none)))))) := (o_1627 _ (gne0 f_1603 z_1625)).trans f_1603
                  have f_1672 : G_1624 q_1463 = some (46, .inr (5, [.ref a_1518, .ref a_1519, .int (nI 0)])) := (o_1627 _ (gne0 f_1604 z_1625)).trans f_1604
                  have f_1673 : G_1624 a_1518 = some (56, .inl (cA 2, 16, .inr (.inr (.inr (.inr (fun _ => none)))))) := (o_1627 _ (gne0 f_1605 z_1625)).trans f_1605
                  have f_1674 : G_1624 a_1519 = some (66, .inl (cA 2, 16, .inr (.inr (.inr (.inr (fun _ => none)))))) := (o_1627 _ (gne0 f_1606 z_1625)).trans f_1606
                  have f_1675 : G_1624 q_24 = some (33, .inl (cA 3, 8, .inr (.inr (.inr (.inr (va_up (va_up (va_up (va_up (va_up (va_up (va_up (fun _ => none) 0 (some q_692)) 1 (some q_798)) 2 (some q_913)) 3 (some q_1037)) 4 (some q_1170)) 5 (some q_1312)) 6 (some q_1463))))))) := (o_1627 _ (gne0 f_1572 z_1625)).trans f_1572
                  have z_1676 : G q_1623 = none := gex_0 x_1607 z_1625 (fun z => by have z := z.symm; subst z; rw [f_1585] at z_1625; cases z_1625)
                  have x_1677 : gex (fun x => x = h) G G_1624 := gex_new x_1607 z_1625 o_1627
                  refine g_Beq (B' := (B_624.1 + 1 + 1 + 1 + 1 + 1 + 1 + 1 + 1 + 1 + 1 + 1 + 1 + 1 + 1 + 1 + 1 + 1 + 1 + 1 + 1 + 1 + 1, B_624.2 + 3 + 16 + 16 + 3 + 16 + 16 + 3 + 16 + 16 + 3 + 16 + 16 + 3 + 16 + 16 + 3 + 16 + 16 + 3 + 16 + 16 + 3)) rfl ?_
                  refine gs (pc' := 169) (fun _ _ _ _ _ hl => lv_dup hx hb d_Mf_init_168 rfl) ?_
                  obtain ⟨⟨hN1, hN2, hN3, hN4, -, -, -⟩, -⟩ := id hZ
                  refine g_outv hlo (g_runIN (b := q_1623) (As := []) (rest := [.ref q_1623, .int (nI 7), .ref q_24]) ⟨hx, hb, hml, hown, hts⟩ hK hZ hRc hRs (c_Ro_init l D cA lo MC MS G_1624 (B_624.1 + 1 + 1 + 1 + 1 + 1 + 1 + 1 + 1 + 1 + 1 + 1 + 1 + 1 + 1 + 1 + 1 + 1 + 1 + 1 + 1 + 1 + 1, B_624.2 + 3 + 16 + 16 + 3 + 16 + 16 + 3 + 16 + 16 + 3 + 16 + 16 + 3 + 16 + 16 + 3 + 16 + 16 + 3 + 16 + 16 + 3) 47 57 67 q_1623 (by decide) (by decide) (by decide) f_1626 (show B_624.1 + 1 + 1 + 1 + 1 + 1 + 1 + 1 + 1 + 1 + 1 + 1 + 1 + 1 + 1 + 1 + 1 + 1 + 1 + 1 + 1 + 1 + 1 + 2 ≤ MC from lc_658 24 (by decide)) (show B_624.2 + 3 + 16 + 16 + 3 + 16 + 16 + 3 + 16 + 16 + 3 + 16 + 16 + 3 + 16 + 16 + 3 + 16 + 16 + 3 + 16 + 16 + 3 + 32 ≤ MS from ls_659 280 (by decide)) (show B_624.1 + 1 + 1 + 1 + 1 + 1 + 1 + 1 + 1 + 1 + 1 + 1 + 1 + 1 + 1 + 1 + 1 + 1 + 1 + 1 + 1 + 1 + 1 ≤ MC from lc_658 22 (by decide)) (show B_624.2 + 3 + 16 + 16 + 3 + 16 + 16 + 3 + 16 + 16 + 3 + 16 + 16 + 3 + 16 + 16 + 3 + 16 + 16 + 3 + 16 + 16 + 3 ≤ MS from ls_659 248 (by decide))) (fun _ _ => ⟨va_cnB 0 hts (tb_good k_Ro_init) rfl rfl rfl hN4 (hts _ wm11) (by decide +kernel) ⟨by rw [hRf]; exact Nat.le_of_ble_eq_true rfl, by rw [hRl]; exact Nat.le_of_ble_eq_true rfl⟩, rfl, hts _ wm218⟩) (show B_624.1 + 1 + 1 + 1 + 1 + 1 + 1 + 1 + 1 + 1 + 1 + 1 + 1 + 1 + 1 + 1 + 1 + 1 + 1 + 1 + 1 + 1 + 1 ≤ MC from lc_658 22 (by decide)) (show B_624.2 + 3 + 16 + 16 + 3 + 16 + 16 + 3 + 16 + 16 + 3 + 16 + 16 + 3 + 16 + 16 + 3 + 16 + 16 + 3 + 16 + 16 + 3 ≤ MS from ls_659 248 (by decide)) rfl (Nat.le_of_ble_eq_true rfl) d_Mf_init_169) (fun G_1678 B_1679 p_1680 => ?_)
                  obtain ⟨a_1681, a_1682, f_1683, f_1684, f_1685, x_1686, e_1687⟩ := p_1680
                  have fr_1688 : gfr (fun y => y = 47) G_1624 G_1678 := gfr_gex x_1686 f_1626
                  have n_1689 : isN cA G_1678 24 11 a_158 0 := isN_fr n_1629 fr_1688 (show ¬ (11 : Nat) = 47 by decide)
                  have n_1690 : isN cA G_1678 24 12 b_159 0 := isN_fr n_1630 fr_1688 (show ¬ (12 : Nat) = 47 by decide)
                  have n_1691 : isN cA G_1678 24 13 a_221 0 := isN_fr n_1631 fr_1688 (show ¬ (13 : Nat) = 47 by decide)
                  have n_1692 : isN cA G_1678 24 14 b_222 0 := isN_fr n_1632 fr_1688 (show ¬ (14 : Nat) = 47 by decide)
                  have n_1693 : isN cA G_1678 24 15 a_293 0 := isN_fr n_1633 fr_1688 (show ¬ (15 : Nat) = 47 by decide)
                  have n_1694 : isN cA G_1678 24 16 b_294 0 := isN_fr n_1634 fr_1688 (show ¬ (16 : Nat) = 47 by decide)
                  have n_1695 : isN cA G_1678 24 17 a_374 0 := isN_fr n_1635 fr_1688 (show ¬ (17 : Nat) = 47 by decide)
                  have n_1696 : isN cA G_1678 24 18 b_375 0 := isN_fr n_1636 fr_1688 (show ¬ (18 : Nat) = 47 by decide)
                  have n_1697 : ∀ t9, t9 < 11 → isN cA G_1678 24 t9 (ad t9) 0 := fun t9 h9 => isN_fr (n_1637 t9 h9) fr_1688 (fun e9 : t9 = 47 => absurd (show (47 : Nat) < 11 from e9 ▸ h9) (by decide))
                  have n_1698 : rf cA G_1678 (fun x => x = 30) r_434 ((0 : Nat) : Int) 1 := rf_fr n_1638 fr_1688 (fun t9 (h9 : t9 = 30) (e9 : t9 = 47) => absurd (show (30 : Nat) = 47 from h9.symm.trans e9) (by decide))
                  have n_1699 : rf cA G_1678 (fun x => x = 30) r_496 ((4 : Nat) : Int) 1 := rf_fr n_1639 fr_1688 (fun t9 (h9 : t9 = 30) (e9 : t9 = 47) => absurd (show (30 : Nat) = 47 from h9.symm.trans e9) (by decide))
                  have n_1700 : rf cA G_1678 (fun x => x = 30) r_560 ((1 : Nat) : Int) 2 := rf_fr n_1640 fr_1688 (fun t9 (h9 : t9 = 30) (e9 : t9 = 47) => absurd (show (30 : Nat) = 47 from h9.symm.trans e9) (by decide))
                  have n_1701 : rf cA G_1678 (fun x => x = 30) r_626 ((1 : Nat) : Int) 6 := rf_fr n_1641 fr_1688 (fun t9 (h9 : t9 = 30) (e9 : t9 = 47) => absurd (show (30 : Nat) = 47 from h9.symm.trans e9) (by decide))
                  have e_1687 : B_1679 = (B_624.1 + 1 + 1 + 1 + 1 + 1 + 1 + 1 + 1 + 1 + 1 + 1 + 1 + 1 + 1 + 1 + 1 + 1 + 1 + 1 + 1 + 1 + 1 + 1 + 1, B_624.2 + 3 + 16 + 16 + 3 + 16 + 16 + 3 + 16 + 16 + 3 + 16 + 16 + 3 + 16 + 16 + 3 + 16 + 16 + 3 + 16 + 16 + 3 + 16 + 16) := e_1687
                  subst e_1687
                  have f_1702 : G_1678 q_1 = some (32, .inl (cA 2, 200, .inr (.inr (.inr (.inr (fun _ => none)))))) := x_1686 _ _ f_1642 (gne f_1642 f_1626 (fun e => absurd (show (32 : Nat) = 47 from congrArg Prod.fst e) (by decide)))
                  have f_1703 : G_1678 q_50 = some (35, .inr (7, [.ref a_64, .ref a_65, .int (nI 0)])) := x_1686 _ _ f_1643 (gne f_1643 f_1626 (fun e => absurd (show (35 : Nat) = 47 from congrArg Prod.fst e) (by decide)))
                  have f_1704 : G_1678 a_64 = some (36, .inl (cA 0, 12, .inl (fun _ => 0))) := x_1686 _ _ f_1644 (gne f_1644 f_1626 (fun e => absurd (show (36 : Nat) = 47 from congrArg Prod.fst e) (by decide)))
                  have f_1705 : G_1678 a_65 = some (37, .inl (cA 1, 12, .inr (.inl (fun _ => 0)))) := x_1686 _ _ f_1645 (gne f_1645 f_1626 (fun e => absurd (show (37 : Nat) = 47 from congrArg Prod.fst e) (by decide)))
                  have f_1706 : G_1678 q_87 = some (30, .inr (0, [.ref hd, .ref hc, .ref (ad 5), .ref (ad 6), .ref (ad 7), .ref (ad 8), .ref (ad 9), .ref (ad 10)])) := x_1686 _ _ f_1646 (gne f_1646 f_1626 (fun e => absurd (show (30 : Nat) = 47 from congrArg Prod.fst e) (by decide)))
                  have f_1707 : G_1678 hd = some (30, .inr (2, [.ref (ad 0), .ref (ad 1), .ref (ad 2)])) := x_1686 _ _ f_1647 (gne f_1647 f_1626 (fun e => absurd (show (30 : Nat) = 47 from congrArg Prod.fst e) (by decide)))
                  have f_1708 : G_1678 hc = some (19, .inr (1, [.ref hd, .ref (ad 3), .ref (ad 4), .long l_109, .long l_110, .long l_111, .long l_112])) := x_1686 _ _ f_1648 (gne f_1648 f_1626 (fun e => absurd (show (19 : Nat) = 47 from congrArg Prod.fst e) (by decide)))
                  have f_1709 : G_1678 q_137 = some (20, .inr (3, [.int (nI 0), .ref a_158, .ref b_159])) := x_1686 _ _ f_1649 (gne f_1649 f_1626 (fun e => absurd (show (20 : Nat) = 47 from congrArg Prod.fst e) (by decide)))
                  have f_1710 : G_1678 q_197 = some (21, .inr (3, [.int (nI 0), .ref a_221, .ref b_222])) := x_1686 _ _ f_1650 (gne f_1650 f_1626 (fun e => absurd (show (21 : Nat) = 47 from congrArg Prod.fst e) (by decide)))
                  have f_1711 : G_1678 q_266 = some (22, .inr (3, [.int (nI 0), .ref a_293, .ref b_294])) := x_1686 _ _ f_1651 (gne f_1651 f_1626 (fun e => absurd (show (22 : Nat) = 47 from congrArg Prod.fst e) (by decide)))
                  have f_1712 : G_1678 q_344 = some (23, .inr (3, [.int (nI 0), .ref a_374, .ref b_375])) := x_1686 _ _ f_1652 (gne f_1652 f_1626 (fun e => absurd (show (23 : Nat) = 47 from congrArg Prod.fst e) (by decide)))
                  have f_1713 : G_1678 h = some (31, .inr (8, [.ref q_1, .int (nI 0), .ref q_24, .int (nI 0), .ref q_50, .ref q_87, .ref q_137, .ref q_197, .ref q_266, .ref q_344, .ref r_434, .ref r_496, .ref r_560, .ref r_626])) := x_1686 _ _ f_1653 (gne f_1653 f_1626 (fun e => absurd (show (31 : Nat) = 47 from congrArg Prod.fst e) (by decide)))
                  have f_1714 : G_1678 q_692 = some (40, .inr (5, [.ref a_729, .ref a_730, .int (nI 0)])) := x_1686 _ _ f_1654 (gne f_1654 f_1626 (fun e => absurd (show (40 : Nat) = 47 from congrArg Prod.fst e) (by decide)))
                  have f_1715 : G_1678 a_729 = some (50, .inl (cA 2, 16, .inr (.inr (.inr (.inr (fun _ => none)))))) := x_1686 _ _ f_1655 (gne f_1655 f_1626 (fun e => absurd (show (50 : Nat) = 47 from congrArg Prod.fst e) (by decide)))
                  have f_1716 : G_1678 a_730 = some (60, .inl (cA 2, 16, .inr (.inr (.inr (.inr (fun _ => none)))))) := x_1686 _ _ f_1656 (gne f_1656 f_1626 (fun e => absurd (show (60 : Nat) = 47 from congrArg Prod.fst e) (by decide)))
                  have f_1717 : G_1678 q_798 = some (41, .inr (5, [.ref a_838, .ref a_839, .int (nI 0)])) := x_1686 _ _ f_1657 (gne f_1657 f_1626 (fun e => absurd (show (41 : Nat) = 47 from congrArg Prod.fst e) (by decide)))
                  have f_1718 : G_1678 a_838 = some (51, .inl (cA 2, 16, .inr (.inr (.inr (.inr (fun _ => none)))))) := x_1686 _ _ f_1658 (gne f_1658 f_1626 (fun e => absurd (show (51 : Nat) = 47 from congrArg Prod.fst e) (by decide)))
                  have f_1719 : G_1678 a_839 = some (61, .inl (cA 2, 16, .inr (.inr (.inr (.inr (fun _ => none)))))) := x_1686 _ _ f_1659 (gne f_1659 f_1626 (fun e => absurd (show (61 : Nat) = 47 from congrArg Prod.fst e) (by decide)))
                  have f_1720 : G_1678 q_913 = some (42, .inr (5, [.ref a_956, .ref a_957, .int (nI 0)])) := x_1686 _ _ f_1660 (gne f_1660 f_1626 (fun e => absurd (show (42 : Nat) = 47 from congrArg Prod.fst e) (by decide)))
                  have f_1721 : G_1678 a_956 = some (52, .inl (cA 2, 16, .inr (.inr (.inr (.inr (fun _ => none)))))) := x_1686 _ _ f_1661 (gne f_1661 f_1626 (fun e => absurd (show (52 : Nat) = 47 from congrArg Prod.fst e) (by decide)))
                  have f_1722 : G_1678 a_957 = some (62, .inl (cA 2, 16, .inr (.inr (.inr (.inr (fun _ => none)))))) := x_1686 _ _ f_1662 (gne f_1662 f_1626 (fun e => absurd (show (62 : Nat) = 47 from congrArg Prod.fst e) (by decide)))
                  have f_1723 : G_1678 q_1037 = some (43, .inr (5, [.ref a_1083, .ref a_1084, .int (nI 0)])) := x_1686 _ _ f_1663 (gne f_1663 f_1626 (fun e => absurd (show (43 : Nat) = 47 from congrArg Prod.fst e) (by decide)))
                  have f_1724 : G_1678 a_1083 = some (53, .inl (cA 2, 16, .inr (.inr (.inr (.inr (fun _ => none)))))) := x_1686 _ _ f_1664 (gne f_1664 f_1626 (fun e => absurd (show (53 : Nat) = 47 from congrArg Prod.fst e) (by decide)))
                  have f_1725 : G_1678 a_1084 = some (63, .inl (cA 2, 16, .inr (.inr (.inr (.inr (fun _ => none)))))) := x_1686 _ _ f_1665 (gne f_1665 f_1626 (fun e => absurd (show (63 : Nat) = 47 from congrArg Prod.fst e) (by decide)))
                  have f_1726 : G_1678 q_1170 = some (44, .inr (5, [.ref a_1219, .ref a_1220, .int (nI 0)])) := x_1686 _ _ f_1666 (gne f_1666 f_1626 (fun e => absurd (show (44 : Nat) = 47 from congrArg Prod.fst e) (by decide)))
                  have f_1727 : G_1678 a_1219 = some (54, .inl (cA 2, 16, .inr (.inr (.inr (.inr (fun _ => none)))))) := x_1686 _ _ f_1667 (gne f_1667 f_1626 (fun e => absurd (show (54 : Nat) = 47 from congrArg Prod.fst e) (by decide)))
                  have f_1728 : G_1678 a_1220 = some (64, .inl (cA 2, 16, .inr (.inr (.inr (.inr (fun _ => none)))))) := x_1686 _ _ f_1668 (gne f_1668 f_1626 (fun e => absurd (show (64 : Nat) = 47 from congrArg Prod.fst e) (by decide)))
                  have f_1729 : G_1678 q_1312 = some (45, .inr (5, [.ref a_1364, .ref a_1365, .int (nI 0)])) := x_1686 _ _ f_1669 (gne f_1669 f_1626 (fun e => absurd (show (45 : Nat) = 47 from congrArg Prod.fst e) (by decide)))
                  have f_1730 : G_1678 a_1364 = some (55, .inl (cA 2, 16, .inr (.inr (.inr (.inr (fun _ => none)))))) := x_1686 _ _ f_1670 (gne f_1670 f_1626 (fun e => absurd (show (55 : Nat) = 47 from congrArg Prod.fst e) (by decide)))
                  have f_1731 : G_1678 a_1365 = some (65, .inl (cA 2, 16, .inr (.inr (.inr (.inr (fun _ => none)))))) := x_1686 _ _ f_1671 (gne f_1671 f_1626 (fun e => absurd (show (65 : Nat) = 47 from congrArg Prod.fst e) (by decide)))
                  have f_1732 : G_1678 q_1463 = some (46, .inr (5, [.ref a_1518, .ref a_1519, .int (nI 0)])) := x_1686 _ _ f_1672 (gne f_1672 f_1626 (fun e => absurd (show (46 : Nat) = 47 from congrArg Prod.fst e) (by decide)))
                  have f_1733 : G_1678 a_1518 = some (56, .inl (cA 2, 16, .inr (.inr (.inr (.inr (fun _ => none)))))) := x_1686 _ _ f_1673 (gne f_1673 f_1626 (fun e => absurd (show (56 : Nat) = 47 from congrArg Prod.fst e) (by decide)))
                  have f_1734 : G_1678 a_1519 = some (66, .inl (cA 2, 16, .inr (.inr (.inr (.inr (fun _ => none)))))) := x_1686 _ _ f_1674 (gne f_1674 f_1626 (fun e => absurd (show (66 : Nat) = 47 from congrArg Prod.fst e) (by decide)))
                  have f_1735 : G_1678 q_24 = some (33, .inl (cA 3, 8, .inr (.inr (.inr (.inr (va_up (va_up (va_up (va_up (va_up (va_up (va_up (fun _ => none) 0 (some q_692)) 1 (some q_798)) 2 (some q_913)) 3 (some q_1037)) 4 (some q_1170)) 5 (some q_1312)) 6 (some q_1463))))))) := x_1686 _ _ f_1675 (gne f_1675 f_1626 (fun e => absurd (show (33 : Nat) = 47 from congrArg Prod.fst e) (by decide)))
                  have x_1736 : gex (fun x => x = h) G G_1678 := gex_tr x_1677 x_1686 (fun x y hx9 _ e => by subst e; rw [z_1676] at hx9; cases hx9)
                  refine g_aast hx hb hK 3 5 f_1735 rfl f_1683 rfl (show vp_in (nI 7) 8 from vp_in_nI (by omega) (by omega)) d_Mf_init_172 (fun G_1737 f_1738 o_1739 => ?_)
                  rw [nI_clamp (by omega)] at f_1738
                  have f_1740 : G_1737 q_1 = some (32, .inl (cA 2, 200, .inr (.inr (.inr (.inr (fun _ => none)))))) := (o_1739 _ (gne f_1702 f_1735 (fun e => absurd (show (32 : Nat) = 33 from congrArg Prod.fst e) (by decide)))).trans f_1702
                  have f_1741 : G_1737 q_50 = some (35, .inr (7, [.ref a_64, .ref a_65, .int (nI 0)])) := (o_1739 _ (gne f_1703 f_1735 (fun e => absurd (show (35 : Nat) = 33 from congrArg Prod.fst e) (by decide)))).trans f_1703
                  have f_1742 : G_1737 a_64 = some (36, .inl (cA 0, 12, .inl (fun _ => 0))) := (o_1739 _ (gne f_1704 f_1735 (fun e => absurd (show (36 : Nat) = 33 from congrArg Prod.fst e) (by decide)))).trans f_1704
                  have f_1743 : G_1737 a_65 = some (37, .inl (cA 1, 12, .inr (.inl (fun _ => 0)))) := (o_1739 _ (gne f_1705 f_1735 (fun e => absurd (show (37 : Nat) = 33 from congrArg Prod.fst e) (by decide)))).trans f_1705
                  have f_1744 : G_1737 q_87 = some (30, .inr (0, [.ref hd, .ref hc, .ref (ad 5), .ref (ad 6), .ref (ad 7), .ref (ad 8), .ref (ad 9), .ref (ad 10)])) := (o_1739 _ (gne f_1706 f_1735 (fun e => absurd (show (30 : Nat) = 33 from congrArg Prod.fst e) (by decide)))).trans f_1706
                  have f_1745 : G_1737 hd = some (30, .inr (2, [.ref (ad 0), .ref (ad 1), .ref (ad 2)])) := (o_1739 _ (gne f_1707 f_1735 (fun e => absurd (show (30 : Nat) = 33 from congrArg Prod.fst e) (by decide)))).trans f_1707
                  have f_1746 : G_1737 hc = some (19, .inr (1, [.ref hd, .ref (ad 3), .ref (ad 4), .long l_109, .long l_110, .long l_111, .long l_112])) := (o_1739 _ (gne f_1708 f_1735 (fun e => absurd (show (19 : Nat) = 33 from congrArg Prod.fst e) (by decide)))).trans f_1708
                  have f_1747 : G_1737 q_137 = some (20, .inr (3, [.int (nI 0), .ref a_158, .ref b_159])) := (o_1739 _ (gne f_1709 f_1735 (fun e => absurd (show (20 : Nat) = 33 from congrArg Prod.fst e) (by decide)))).trans f_1709
                  have f_1748 : G_1737 q_197 = some (21, .inr (3, [.int (nI 0), .ref a_221, .ref b_222])) := (o_1739 _ (gne f_1710 f_1735 (fun e => absurd (show (21 : Nat) = 33 from congrArg Prod.fst e) (by decide)))).trans f_1710
                  have f_1749 : G_1737 q_266 = some (22, .inr (3, [.int (nI 0), .ref a_293, .ref b_294])) := (o_1739 _ (gne f_1711 f_1735 (fun e => absurd (show (22 : Nat) = 33 from congrArg Prod.fst e) (by decide)))).trans f_1711
                  have f_1750 : G_1737 q_344 = some (23, .inr (3, [.int (nI 0), .ref a_374, .ref b_375])) := (o_1739 _ (gne f_1712 f_1735 (fun e => absurd (show (23 : Nat) = 33 from congrArg Prod.fst e) (by decide)))).trans f_1712
                  have f_1751 : G_1737 h = some (31, .inr (8, [.ref q_1, .int (nI 0), .ref q_24, .int (nI 0), .ref q_50, .ref q_87, .ref q_137, .ref q_197, .ref q_266, .ref q_344, .ref r_434, .ref r_496, .ref r_560, .ref r_626])) := (o_1739 _ (gne f_1713 f_1735 (fun e => absurd (show (31 : Nat) = 33 from congrArg Prod.fst e) (by decide)))).trans f_1713
                  have f_1752 : G_1737 q_692 = some (40, .inr (5, [.ref a_729, .ref a_730, .int (nI 0)])) := (o_1739 _ (gne f_1714 f_1735 (fun e => absurd (show (40 : Nat) = 33 from congrArg Prod.fst e) (by decide)))).trans f_1714
                  have f_1753 : G_1737 a_729 = some (50, .inl (cA 2, 16, .inr (.inr (.inr (.inr (fun _ => none)))))) := (o_1739 _ (gne f_1715 f_1735 (fun e => absurd (show (50 : Nat) = 33 from congrArg Prod.fst e) (by decide)))).trans f_1715
                  have f_1754 : G_1737 a_730 = some (60, .inl (cA 2, 16, .inr (.inr (.inr (.inr (fun _ => none)))))) := (o_1739 _ (gne f_1716 f_1735 (fun e => absurd (show (60 : Nat) = 33 from congrArg Prod.fst e) (by decide)))).trans f_1716
                  have f_1755 : G_1737 q_798 = some (41, .inr (5, [.ref a_838, .ref a_839, .int (nI 0)])) := (o_1739 _ (gne f_1717 f_1735 (fun e => absurd (show (41 : Nat) = 33 from congrArg Prod.fst e) (by decide)))).trans f_1717
                  have f_1756 : G_1737 a_838 = some (51, .inl (cA 2, 16, .inr (.inr (.inr (.inr (fun _ => none)))))) := (o_1739 _ (gne f_1718 f_1735 (fun e => absurd (show (51 : Nat) = 33 from congrArg Prod.fst e) (by decide)))).trans f_1718
                  have f_1757 : G_1737 a_839 = some (61, .inl (cA 2, 16, .inr (.inr (.inr (.inr (fun _ => none)))))) := (o_1739 _ (gne f_1719 f_1735 (fun e => absurd (show (61 : Nat) = 33 from congrArg Prod.fst e) (by decide)))).trans f_1719
                  have f_1758 : G_1737 q_913 = some (42, .inr (5, [.ref a_956, .ref a_957, .int (nI 0)])) := (o_1739 _ (gne f_1720 f_1735 (fun e => absurd (show (42 : Nat) = 33 from congrArg Prod.fst e) (by decide)))).trans f_1720
                  have f_1759 : G_1737 a_956 = some (52, .inl (cA 2, 16, .inr (.inr (.inr (.inr (fun _ => none)))))) := (o_1739 _ (gne f_1721 f_1735 (fun e => absurd (show (52 : Nat) = 33 from congrArg Prod.fst e) (by decide)))).trans f_1721
                  have f_1760 : G_1737 a_957 = some (62, .inl (cA 2, 16, .inr (.inr (.inr (.inr (fun _ => none)))))) := (o_1739 _ (gne f_1722 f_1735 (fun e => absurd (show (62 : Nat) = 33 from congrArg Prod.fst e) (by decide)))).trans f_1722
                  have f_1761 : G_1737 q_1037 = some (43, .inr (5, [.ref a_1083, .ref a_1084, .int (nI 0)])) := (o_1739 _ (gne f_1723 f_1735 (fun e => absurd (show (43 : Nat) = 33 from congrArg Prod.fst e) (by decide)))).trans f_1723
                  have f_1762 : G_1737 a_1083 = some (53, .inl (cA 2, 16, .inr (.inr (.inr (.inr (fun _ => none)))))) := (o_1739 _ (gne f_1724 f_1735 (fun e => absurd (show (53 : Nat) = 33 from congrArg Prod.fst e) (by decide)))).trans f_1724
                  have f_1763 : G_1737 a_1084 = some (63, .inl (cA 2, 16, .inr (.inr (.inr (.inr (fun _ => none)))))) := (o_1739 _ (gne f_1725 f_1735 (fun e => absurd (show (63 : Nat) = 33 from congrArg Prod.fst e) (by decide)))).trans f_1725
                  have f_1764 : G_1737 q_1170 = some (44, .inr (5, [.ref a_1219, .ref a_1220, .int (nI 0)])) := (o_1739 _ (gne f_1726 f_1735 (fun e => absurd (show (44 : Nat) = 33 from congrArg Prod.fst e) (by decide)))).trans f_1726
                  have f_1765 : G_1737 a_1219 = some (54, .inl (cA 2, 16, .inr (.inr (.inr (.inr (fun _ => none)))))) := (o_1739 _ (gne f_1727 f_1735 (fun e => absurd (show (54 : Nat) = 33 from congrArg Prod.fst e) (by decide)))).trans f_1727
                  have f_1766 : G_1737 a_1220 = some (64, .inl (cA 2, 16, .inr (.inr (.inr (.inr (fun _ => none)))))) := (o_1739 _ (gne f_1728 f_1735 (fun e => absurd (show (64 : Nat) = 33 from congrArg Prod.fst e) (by decide)))).trans f_1728
                  have f_1767 : G_1737 q_1312 = some (45, .inr (5, [.ref a_1364, .ref a_1365, .int (nI 0)])) := (o_1739 _ (gne f_1729 f_1735 (fun e => absurd (show (45 : Nat) = 33 from congrArg Prod.fst e) (by decide)))).trans f_1729
                  have f_1768 : G_1737 a_1364 = some (55, .inl (cA 2, 16, .inr (.inr (.inr (.inr (fun _ => none)))))) := (o_1739 _ (gne f_1730 f_1735 (fun e => absurd (show (55 : Nat) = 33 from congrArg Prod.fst e) (by decide)))).trans f_1730
                  have f_1769 : G_1737 a_1365 = some (65, .inl (cA 2, 16, .inr (.inr (.inr (.inr (fun _ => none)))))) := (o_1739 _ (gne f_1731 f_1735 (fun e => absurd (show (65 : Nat) = 33 from congrArg Prod.fst e) (by decide)))).trans f_1731
                  have f_1770 : G_1737 q_1463 = some (46, .inr (5, [.ref a_1518, .ref a_1519, .int (nI 0)])) := (o_1739 _ (gne f_1732 f_1735 (fun e => absurd (show (46 : Nat) = 33 from congrArg Prod.fst e) (by decide)))).trans f_1732
                  have f_1771 : G_1737 a_1518 = some (56, .inl (cA 2, 16, .inr (.inr (.inr (.inr (fun _ => none)))))) := (o_1739 _ (gne f_1733 f_1735 (fun e => absurd (show (56 : Nat) = 33 from congrArg Prod.fst e) (by decide)))).trans f_1733
                  have f_1772 : G_1737 a_1519 = some (66, .inl (cA 2, 16, .inr (.inr (.inr (.inr (fun _ => none)))))) := (o_1739 _ (gne f_1734 f_1735 (fun e => absurd (show (66 : Nat) = 33 from congrArg Prod.fst e) (by decide)))).trans f_1734
                  have f_1773 : G_1737 q_1623 = some (47, .inr (5, [.ref a_1681, .ref a_1682, .int (nI 0)])) := (o_1739 _ (gne f_1683 f_1735 (fun e => absurd (show (47 : Nat) = 33 from congrArg Prod.fst e) (by decide)))).trans f_1683
                  have f_1774 : G_1737 a_1681 = some (57, .inl (cA 2, 16, .inr (.inr (.inr (.inr (fun _ => none)))))) := (o_1739 _ (gne f_1684 f_1735 (fun e => absurd (show (57 : Nat) = 33 from congrArg Prod.fst e) (by decide)))).trans f_1684
                  have f_1775 : G_1737 a_1682 = some (67, .inl (cA 2, 16, .inr (.inr (.inr (.inr (fun _ => none)))))) := (o_1739 _ (gne f_1685 f_1735 (fun e => absurd (show (67 : Nat) = 33 from congrArg Prod.fst e) (by decide)))).trans f_1685
                  have x_1776 : gex (fun x => x = h) G G_1737 := gex_put x_1736 o_1739 (Or.inr z_32)
                  have fr_1777 : gfr (fun y => y = 33) G_1678 G_1737 := gfr_put gfr_rf f_1735 rfl o_1739
                  have n_1778 : isN cA G_1737 24 11 a_158 0 := isN_fr n_1689 fr_1777 (show ¬ (11 : Nat) = 33 by decide)
                  have n_1779 : isN cA G_1737 24 12 b_159 0 := isN_fr n_1690 fr_1777 (show ¬ (12 : Nat) = 33 by decide)
                  have n_1780 : isN cA G_1737 24 13 a_221 0 := isN_fr n_1691 fr_1777 (show ¬ (13 : Nat) = 33 by decide)
                  have n_1781 : isN cA G_1737 24 14 b_222 0 := isN_fr n_1692 fr_1777 (show ¬ (14 : Nat) = 33 by decide)
                  have n_1782 : isN cA G_1737 24 15 a_293 0 := isN_fr n_1693 fr_1777 (show ¬ (15 : Nat) = 33 by decide)
                  have n_1783 : isN cA G_1737 24 16 b_294 0 := isN_fr n_1694 fr_1777 (show ¬ (16 : Nat) = 33 by decide)
                  have n_1784 : isN cA G_1737 24 17 a_374 0 := isN_fr n_1695 fr_1777 (show ¬ (17 : Nat) = 33 by decide)
                  have n_1785 : isN cA G_1737 24 18 b_375 0 := isN_fr n_1696 fr_1777 (show ¬ (18 : Nat) = 33 by decide)
                  have n_1786 : ∀ t9, t9 < 11 → isN cA G_1737 24 t9 (ad t9) 0 := fun t9 h9 => isN_fr (n_1697 t9 h9) fr_1777 (fun e9 : t9 = 33 => absurd (show (33 : Nat) < 11 from e9 ▸ h9) (by decide))
                  have n_1787 : rf cA G_1737 (fun x => x = 30) r_434 ((0 : Nat) : Int) 1 := rf_fr n_1698 fr_1777 (fun t9 (h9 : t9 = 30) (e9 : t9 = 33) => absurd (show (30 : Nat) = 33 from h9.symm.trans e9) (by decide))
                  have n_1788 : rf cA G_1737 (fun x => x = 30) r_496 ((4 : Nat) : Int) 1 := rf_fr n_1699 fr_1777 (fun t9 (h9 : t9 = 30) (e9 : t9 = 33) => absurd (show (30 : Nat) = 33 from h9.symm.trans e9) (by decide))
                  have n_1789 : rf cA G_1737 (fun x => x = 30) r_560 ((1 : Nat) : Int) 2 := rf_fr n_1700 fr_1777 (fun t9 (h9 : t9 = 30) (e9 : t9 = 33) => absurd (show (30 : Nat) = 33 from h9.symm.trans e9) (by decide))
                  have n_1790 : rf cA G_1737 (fun x => x = 30) r_626 ((1 : Nat) : Int) 6 := rf_fr n_1701 fr_1777 (fun t9 (h9 : t9 = 30) (e9 : t9 = 33) => absurd (show (30 : Nat) = 33 from h9.symm.trans e9) (by decide))
                  refine gst (pc' := 176) (L' := [(1, .int (nI 8)), (0, .ref h)]) (fun _ _ _ _ _ hl => lv_iinc (v := nI 8) hx hb d_Mf_init_173 hl (k := 0) rfl (by decide) (by decide) rfl) ?_
                  refine gs (pc' := 154) (fun _ _ _ _ _ hl => lv_goto (tgt := 154) hx hb d_Mf_init_176 (by decide)) ?_
                  refine gs (pc' := 155) (fun _ _ _ _ _ hl => lv_iload_n hx hb d_Mf_init_154 rfl (lv_at hl 0 rfl)) ?_
                  refine gs (pc' := 157) (fun _ _ _ _ _ hl => lv_bipush (v := nI 8) hx hb d_Mf_init_155 (by decide)) ?_
                  refine gsb (pc1 := 179) (pc2 := 160) (fun _ _ _ _ _ => lv_icmp_ge (tgt := 179) hx hb d_Mf_init_157 (by decide)) (fun c_1791 => ?_) (fun c_1791 => ?_)
                  · skip
                    have nc_1791 : 8 ≥ 8 := (nn_ge (a := 8) (b := 8) (by omega) (by omega)).1 c_1791
                    have hks : ks (fun _ => 24) 19 = 456 := rfl
                    have hnn : ∀ t, t < 19 → isN cA G_1737 24 t ((fun t => [ad 0, ad 1, ad 2, ad 3, ad 4, ad 5, ad 6, ad 7, ad 8, ad 9, ad 10, a_158, b_159, a_221, b_222, a_293, b_294, a_374, b_375].getD t 0) t) 0 := (fun t9 h9 => match t9, h9 with | 0, _ => n_1786 0 (by decide) | 1, _ => n_1786 1 (by decide) | 2, _ => n_1786 2 (by decide) | 3, _ => n_1786 3 (by decide) | 4, _ => n_1786 4 (by decide) | 5, _ => n_1786 5 (by decide) | 6, _ => n_1786 6 (by decide) | 7, _ => n_1786 7 (by decide) | 8, _ => n_1786 8 (by decide) | 9, _ => n_1786 9 (by decide) | 10, _ => n_1786 10 (by decide) | 11, _ => n_1778 | 12, _ => n_1779 | 13, _ => n_1780 | 14, _ => n_1781 | 15, _ => n_1782 | 16, _ => n_1783 | 17, _ => n_1784 | 18, _ => n_1785 | n + 19, h8 => absurd h8 (by omega))
                    have hw9 : w2 cA (B.1 + 57000, B.2 + 115000) (fun t => [ad 0, ad 1, ad 2, ad 3, ad 4, ad 5, ad 6, ad 7, ad 8, ad 9, ad 10, a_158, b_159, a_221, b_222, a_293, b_294, a_374, b_375].getD t 0) (fun _ => 0) (G_1737, (B_624.1 + 1 + 1 + 1 + 1 + 1 + 1 + 1 + 1 + 1 + 1 + 1 + 1 + 1 + 1 + 1 + 1 + 1 + 1 + 1 + 1 + 1 + 1 + 1 + 1, B_624.2 + 3 + 16 + 16 + 3 + 16 + 16 + 3 + 16 + 16 + 3 + 16 + 16 + 3 + 16 + 16 + 3 + 16 + 16 + 3 + 16 + 16 + 3 + 16 + 16)) := ⟨fun _ => 24, fun t9 h9 => ⟨hnn t9 h9, (show (24 : Nat) ≤ 3000 by decide)⟩, by rw [hks]; show B_624.1 + 1 + 1 + 1 + 1 + 1 + 1 + 1 + 1 + 1 + 1 + 1 + 1 + 1 + 1 + 1 + 1 + 1 + 1 + 1 + 1 + 1 + 1 + 1 + 1 + 57000 ≤ B.1 + 57000 + 456; omega, by rw [hks]; show B_624.2 + 3 + 16 + 16 + 3 + 16 + 16 + 3 + 16 + 16 + 3 + 16 + 16 + 3 + 16 + 16 + 3 + 16 + 16 + 3 + 16 + 16 + 3 + 16 + 16 + 114000 ≤ B.2 + 115000 + 2 * 456; omega⟩
                    have kz : kq cA G_1737 r_434 0 := by
                      show rf cA _ _ _ (0 : Rat).num (0 : Rat).den
                      rw [show (0 : Rat).num = ((0 : Nat) : Int) from by first | rfl | decide, show (0 : Rat).den = 1 from by first | rfl | decide]
                      exact n_1787
                    have kf : kq cA G_1737 r_496 4 := by
                      show rf cA _ _ _ (4 : Rat).num (4 : Rat).den
                      rw [show (4 : Rat).num = ((4 : Nat) : Int) from by first | rfl | decide, show (4 : Rat).den = 1 from by first | rfl | decide]
                      exact n_1788
                    have kh : kq cA G_1737 r_560 (mkRat 1 2) := by
                      show rf cA _ _ _ ((mkRat 1 2) : Rat).num ((mkRat 1 2) : Rat).den
                      rw [show ((mkRat 1 2) : Rat).num = ((1 : Nat) : Int) from by first | rfl | decide, show ((mkRat 1 2) : Rat).den = 2 from by first | rfl | decide]
                      exact n_1789
                    have ki : kq cA G_1737 r_626 (mkRat 1 6) := by
                      show rf cA _ _ _ ((mkRat 1 6) : Rat).num ((mkRat 1 6) : Rat).den
                      rw [show ((mkRat 1 6) : Rat).num = ((1 : Nat) : Int) from by first | rfl | decide, show ((mkRat 1 6) : Rat).den = 6 from by first | rfl | decide]
                      exact n_1790
                    have hfr9 : ∀ i, i < 4 → ∃ sg : Int32, G_1737 ((fun t => [q_137, q_197, q_266, q_344].getD t 0) i) = some (20 + i, .inr (3, [.int sg, .ref ((fun t => [ad 0, ad 1, ad 2, ad 3, ad 4, ad 5, ad 6, ad 7, ad 8, ad 9, ad 10, a_158, b_159, a_221, b_222, a_293, b_294, a_374, b_375].getD t 0) (11 + 2 * i)), .ref ((fun t => [ad 0, ad 1, ad 2, ad 3, ad 4, ad 5, ad 6, ad 7, ad 8, ad 9, ad 10, a_158, b_159, a_221, b_222, a_293, b_294, a_374, b_375].getD t 0) (12 + 2 * i))])) ∧ ∀ r : Rat, (none : Option Rat) = some r → sg = sgI r.num ∧ 0 = r.num.natAbs ∧ 0 = r.den := (fun t9 h9 => match t9, h9 with | 0, _ => ⟨_, f_1747, sn_⟩ | 1, _ => ⟨_, f_1748, sn_⟩ | 2, _ => ⟨_, f_1749, sn_⟩ | 3, _ => ⟨_, f_1750, sn_⟩ | n + 4, h8 => absurd h8 (by omega))
                    have hrs9 : ∀ i, i < 8 → (va_up (va_up (va_up (va_up (va_up (va_up (va_up (va_up (fun _ => none) 0 (some q_692)) 1 (some q_798)) 2 (some q_913)) 3 (some q_1037)) 4 (some q_1170)) 5 (some q_1312)) 6 (some q_1463)) 7 (some q_1623)) i = some ((fun t => [q_692, q_798, q_913, q_1037, q_1170, q_1312, q_1463, q_1623].getD t 0) i) := (fun t9 h9 => match t9, h9 with | 0, _ => rfl | 1, _ => rfl | 2, _ => rfl | 3, _ => rfl | 4, _ => rfl | 5, _ => rfl | 6, _ => rfl | 7, _ => rfl | n + 8, h8 => absurd h8 (by omega))
                    have hro9 : ∀ i, i < 8 → ∃ (c : Nat) (pf hf : Nat → Option Nat), G_1737 ((fun t => [q_692, q_798, q_913, q_1037, q_1170, q_1312, q_1463, q_1623].getD t 0) i) = some (40 + i, .inr (5, [.ref ((fun t => [a_729, a_838, a_956, a_1083, a_1219, a_1364, a_1518, a_1681].getD t 0) i), .ref ((fun t => [a_730, a_839, a_957, a_1084, a_1220, a_1365, a_1519, a_1682].getD t 0) i), .int (nI c)])) ∧ G_1737 ((fun t => [a_729, a_838, a_956, a_1083, a_1219, a_1364, a_1518, a_1681].getD t 0) i) = some (50 + i, .inl (cA 2, 16, rfs pf)) ∧ G_1737 ((fun t => [a_730, a_839, a_957, a_1084, a_1220, a_1365, a_1519, a_1682].getD t 0) i) = some (60 + i, .inl (cA 2, 16, rfs hf)) := (fun t9 h9 => match t9, h9 with | 0, _ => ⟨0, _, _, f_1752, f_1753, f_1754⟩ | 1, _ => ⟨0, _, _, f_1755, f_1756, f_1757⟩ | 2, _ => ⟨0, _, _, f_1758, f_1759, f_1760⟩ | 3, _ => ⟨0, _, _, f_1761, f_1762, f_1763⟩ | 4, _ => ⟨0, _, _, f_1764, f_1765, f_1766⟩ | 5, _ => ⟨0, _, _, f_1767, f_1768, f_1769⟩ | 6, _ => ⟨0, _, _, f_1770, f_1771, f_1772⟩ | 7, _ => ⟨0, _, _, f_1773, f_1774, f_1775⟩ | n + 8, h8 => absurd h8 (by omega))
                    have hC9 : CW cA (B.1 + 57000, B.2 + 115000) (AX.mk h q_1 q_24 q_50 q_87 hd hc r_434 r_496 r_560 r_626 a_64 a_65 (fun t => [ad 0, ad 1, ad 2, ad 3, ad 4, ad 5, ad 6, ad 7, ad 8, ad 9, ad 10, a_158, b_159, a_221, b_222, a_293, b_294, a_374, b_375].getD t 0) (fun t => [q_137, q_197, q_266, q_344].getD t 0) (fun t => [q_692, q_798, q_913, q_1037, q_1170, q_1312, q_1463, q_1623].getD t 0) (fun t => [a_729, a_838, a_956, a_1083, a_1219, a_1364, a_1518, a_1681].getD t 0) (fun t => [a_730, a_839, a_957, a_1084, a_1220, a_1365, a_1519, a_1682].getD t 0)) st0 (fun _ => none) (fun _ => 0) (G_1737, (B_624.1 + 1 + 1 + 1 + 1 + 1 + 1 + 1 + 1 + 1 + 1 + 1 + 1 + 1 + 1 + 1 + 1 + 1 + 1 + 1 + 1 + 1 + 1 + 1 + 1, B_624.2 + 3 + 16 + 16 + 3 + 16 + 16 + 3 + 16 + 16 + 3 + 16 + 16 + 3 + 16 + 16 + 3 + 16 + 16 + 3 + 16 + 16 + 3 + 16 + 16)) := ⟨hw9, f_1751, f_1744, f_1745, ⟨_, _, _, _, f_1746⟩, hfr9, kz, kf, kh, ki, ⟨_, f_1740, fun i9 h9 => absurd h9 (Nat.not_lt_zero i9)⟩, ⟨_, f_1738, hrs9⟩, fun i9 h9 => by
                        obtain ⟨c9, p9, q9, g1, g2, g3⟩ := hro9 i9 h9
                        exact ⟨c9, p9, q9, g1, g2, g3, fun h8 => absurd h8 (Nat.not_lt_zero i9)⟩, f_1741, ⟨_, f_1742, fun i9 h9 => absurd h9 (Nat.not_lt_zero i9)⟩, ⟨_, f_1743⟩⟩
                    exact hret 179 _ _ _ d_Mf_init_179 (show B_624.1 + 1 + 1 + 1 + 1 + 1 + 1 + 1 + 1 + 1 + 1 + 1 + 1 + 1 + 1 + 1 + 1 + 1 + 1 + 1 + 1 + 1 + 1 + 1 + 1 ≤ MC from lc_658 24 (by decide)) (show B_624.2 + 3 + 16 + 16 + 3 + 16 + 16 + 3 + 16 + 16 + 3 + 16 + 16 + 3 + 16 + 16 + 3 + 16 + 16 + 3 + 16 + 16 + 3 + 16 + 16 ≤ MS from ls_659 280 (by decide)) ⟨(AX.mk h q_1 q_24 q_50 q_87 hd hc r_434 r_496 r_560 r_626 a_64 a_65 (fun t => [ad 0, ad 1, ad 2, ad 3, ad 4, ad 5, ad 6, ad 7, ad 8, ad 9, ad 10, a_158, b_159, a_221, b_222, a_293, b_294, a_374, b_375].getD t 0) (fun t => [q_137, q_197, q_266, q_344].getD t 0) (fun t => [q_692, q_798, q_913, q_1037, q_1170, q_1312, q_1463, q_1623].getD t 0) (fun t => [a_729, a_838, a_956, a_1083, a_1219, a_1364, a_1518, a_1681].getD t 0) (fun t => [a_730, a_839, a_957, a_1084, a_1220, a_1365, a_1519, a_1682].getD t 0)), rfl, _, _, hC9⟩
                  · skip
                    have nc_1791 : 8 < 8 := (nn_ge (a := 8) (b := 8) (by omega) (by omega)).2 c_1791
                    exact absurd nc_1791 (by decide)
