set_option maxHeartbeats 4000000 in
set_option maxRecDepth 100000 in
theorem c_Mo_init (l : Launch) (D : va_G) (cA : Nat → ClassId) (lo MC MS : Nat) (G : gT) (B : Nat × Nat) (h : Nat) (hh : G h = some (70, .inr (9, [.int (nI 0), .int (nI 0), .null, .null, .null, .null, .int (nI 0), .int (nI 0), .null, .null, .int (nI 0), .null, .null, .null, .int (nI 0), .null, .null, .null, .null, .int (nI 0), .int (nI 0), .int (nI 0)]))) (hC : B.1 + 13 ≤ MC) (hS : B.2 + 88809 ≤ MS) (hB1 : B.1 ≤ MC) (hB2 : B.2 ≤ MS) : gMet l y_Mo_init w_Mo_init 1 12 D clS (gtys cA) lo MC MS [.ref h] G B (gQv D clS lo (fun u => ∃ A, MW cA h A st0 0 none none none u.1 ∧ gex (fun x => x = h) G u.1 ∧ u.2 = (B.1 + 1 + 1 + 1 + 1 + 1 + 1 + 1 + 1 + 1 + 1 + 1 + 1 + 1, B.2 + 200 + 200 + 40400 + 400 + 38700 + 9 + 8 + 128 + 128 + 12 + 12 + 12 + 8600))) := by
  refine g_metv (cc := prog_11_method_1_code) (nL := 1) (L := [(0, .ref h)]) (by decide +kernel) rfl (Nat.le_of_ble_eq_true rfl) rfl ?_
  intro p e R s m args below meth c Q hF hRc hRs hRf hRl hret
  obtain ⟨hx, hb, hr, hml, hts0, hown, hlocks, hin, hK, hlo, hZ⟩ := hF
  have hts : ∀ w ∈ tbg, w.before args s = true := fun w h => hts0 w (List.mem_cons_of_mem _ h)
  have hE : gex (fun x => x = h) G G := gex_rf
  refine gs (pc' := 1) (fun _ _ _ _ _ hl => lv_aload_n hx hb d_Mo_init_0 rfl (lv_at hl 0 rfl)) ?_
  refine gs (pc' := 4) (st' := []) (fun _ _ _ _ _ hl => fun kk => W.objInit (g := F0 m 1 _ (.ref h :: [])) hx hb hown (hts _ wm751) (hts _ wm26) (hts _ wm27) rfl (by rw [hml]; exact hl.1) rfl d_Mo_init_1 (by rw [hRf]; exact Nat.le_of_ble_eq_true rfl) (by rw [hRl]; exact Nat.le_of_ble_eq_true rfl) kk) ?_
  refine gs (pc' := 5) (fun _ _ _ _ _ hl => lv_aload_n hx hb d_Mo_init_4 rfl (lv_at hl 0 rfl)) ?_
  refine gs (pc' := 8) (fun _ _ _ _ _ hl => lv_sipush (v := nI 200) hx hb d_Mo_init_5 (by decide)) ?_
  refine g_newa (atype := .int) hx hb (hts _ wm49) hK 0 rfl (fun C h => by cases h) (a0 := (200, .inl (fun _ => 0))) (fun _ => rfl) (nI_pos (by omega)) (nI_clamp (by omega)) (by show 200 * 4 ≤ 536870912; omega) hlo hRc hRs (show B.1 + 1 ≤ MC by omega) (show B.2 + 200 ≤ MS by omega) d_Mo_init_8 71 (fun q_1 G_2 z_3 f_4 o_5 => ?_)
  have f_6 : G_2 h = some (70, .inr (9, [.int (nI 0), .int (nI 0), .null, .null, .null, .null, .int (nI 0), .int (nI 0), .null, .null, .int (nI 0), .null, .null, .null, .int (nI 0), .null, .null, .null, .null, .int (nI 0), .int (nI 0), .int (nI 0)])) := (o_5 _ (fun e => by subst e; rw [hh] at z_3; cases z_3)).trans hh
  have z_7 : G q_1 = none := gex_0 hE z_3 (fun z => by have z := z.symm; subst z; rw [hh] at z_3; cases z_3)
  have x_8 : gex (fun x => x = h) G G_2 := gex_new hE z_3 o_5
  refine g_Beq (B' := (B.1 + 1, B.2 + 200)) rfl ?_
  refine g_putF (ty := .array .int) hx hb hts hin_Mo ty_Mo ty_Mo_ok nm_Mo hown hK f_6 rfl 2 (by decide) (hts _ wm756) (fun _ h9 => h9) rfl hin rfl (by decide +kernel) rfl rfl (Nat.le_of_ble_eq_true rfl) d_Mo_init_10 (fun G_9 f_10 o_11 => ?_)
  have f_12 : G_9 h = some (70, .inr (9, [.int (nI 0), .int (nI 0), .ref q_1, .null, .null, .null, .int (nI 0), .int (nI 0), .null, .null, .int (nI 0), .null, .null, .null, .int (nI 0), .null, .null, .null, .null, .int (nI 0), .int (nI 0), .int (nI 0)])) := f_10
  have f_13 : G_9 q_1 = some (71, .inl (cA 0, 200, .inl (fun _ => 0))) := (o_11 _ (gne f_4 f_6 (fun e => by cases e))).trans f_4
  have x_14 : gex (fun x => x = h) G G_9 := gex_put x_8 o_11 (Or.inl rfl)
  refine gs (pc' := 14) (fun _ _ _ _ _ hl => lv_aload_n hx hb d_Mo_init_13 rfl (lv_at hl 0 rfl)) ?_
  refine gs (pc' := 17) (fun _ _ _ _ _ hl => lv_sipush (v := nI 200) hx hb d_Mo_init_14 (by decide)) ?_
  refine g_newa (atype := .int) hx hb (hts _ wm49) hK 0 rfl (fun C h => by cases h) (a0 := (200, .inl (fun _ => 0))) (fun _ => rfl) (nI_pos (by omega)) (nI_clamp (by omega)) (by show 200 * 4 ≤ 536870912; omega) hlo hRc hRs (show B.1 + 1 + 1 ≤ MC by omega) (show B.2 + 200 + 200 ≤ MS by omega) d_Mo_init_17 72 (fun q_15 G_16 z_17 f_18 o_19 => ?_)
  have f_20 : G_16 q_1 = some (71, .inl (cA 0, 200, .inl (fun _ => 0))) := (o_19 _ (fun e => by subst e; rw [f_13] at z_17; cases z_17)).trans f_13
  have f_21 : G_16 h = some (70, .inr (9, [.int (nI 0), .int (nI 0), .ref q_1, .null, .null, .null, .int (nI 0), .int (nI 0), .null, .null, .int (nI 0), .null, .null, .null, .int (nI 0), .null, .null, .null, .null, .int (nI 0), .int (nI 0), .int (nI 0)])) := (o_19 _ (fun e => by subst e; rw [f_12] at z_17; cases z_17)).trans f_12
  have z_22 : G q_15 = none := gex_0 x_14 z_17 (fun z => by have z := z.symm; subst z; rw [f_12] at z_17; cases z_17)
  have x_23 : gex (fun x => x = h) G G_16 := gex_new x_14 z_17 o_19
  refine g_Beq (B' := (B.1 + 1 + 1, B.2 + 200 + 200)) rfl ?_
  refine g_putF (ty := .array .int) hx hb hts hin_Mo ty_Mo ty_Mo_ok nm_Mo hown hK f_21 rfl 3 (by decide) (hts _ wm757) (fun _ h9 => h9) rfl hin rfl (by decide +kernel) rfl rfl (Nat.le_of_ble_eq_true rfl) d_Mo_init_19 (fun G_24 f_25 o_26 => ?_)
  have f_27 : G_24 h = some (70, .inr (9, [.int (nI 0), .int (nI 0), .ref q_1, .ref q_15, .null, .null, .int (nI 0), .int (nI 0), .null, .null, .int (nI 0), .null, .null, .null, .int (nI 0), .null, .null, .null, .null, .int (nI 0), .int (nI 0), .int (nI 0)])) := f_25
  have f_28 : G_24 q_1 = some (71, .inl (cA 0, 200, .inl (fun _ => 0))) := (o_26 _ (gne f_20 f_21 (fun e => by cases e))).trans f_20
  have f_29 : G_24 q_15 = some (72, .inl (cA 0, 200, .inl (fun _ => 0))) := (o_26 _ (gne f_18 f_21 (fun e => by cases e))).trans f_18
  have x_30 : gex (fun x => x = h) G G_24 := gex_put x_23 o_26 (Or.inl rfl)
  refine gs (pc' := 23) (fun _ _ _ _ _ hl => lv_aload_n hx hb d_Mo_init_22 rfl (lv_at hl 0 rfl)) ?_
  refine gs (pc' := 25) (fun _ _ _ _ _ hl => lv_ldc (v := 40400) hx hb hown (hts _ wm752) d_Mo_init_23) ?_
  refine g_eqi (show 40400 = nI 40400 from rfl) ?_
  refine g_newa (atype := .int) hx hb (hts _ wm49) hK 0 rfl (fun C h => by cases h) (a0 := (40400, .inl (fun _ => 0))) (fun _ => rfl) (nI_pos (by omega)) (nI_clamp (by omega)) (by show 40400 * 4 ≤ 536870912; omega) hlo hRc hRs (show B.1 + 1 + 1 + 1 ≤ MC by omega) (show B.2 + 200 + 200 + 40400 ≤ MS by omega) d_Mo_init_25 73 (fun q_31 G_32 z_33 f_34 o_35 => ?_)
  have f_36 : G_32 q_1 = some (71, .inl (cA 0, 200, .inl (fun _ => 0))) := (o_35 _ (fun e => by subst e; rw [f_28] at z_33; cases z_33)).trans f_28
  have f_37 : G_32 q_15 = some (72, .inl (cA 0, 200, .inl (fun _ => 0))) := (o_35 _ (fun e => by subst e; rw [f_29] at z_33; cases z_33)).trans f_29
  have f_38 : G_32 h = some (70, .inr (9, [.int (nI 0), .int (nI 0), .ref q_1, .ref q_15, .null, .null, .int (nI 0), .int (nI 0), .null, .null, .int (nI 0), .null, .null, .null, .int (nI 0), .null, .null, .null, .null, .int (nI 0), .int (nI 0), .int (nI 0)])) := (o_35 _ (fun e => by subst e; rw [f_27] at z_33; cases z_33)).trans f_27
  have z_39 : G q_31 = none := gex_0 x_30 z_33 (fun z => by have z := z.symm; subst z; rw [f_27] at z_33; cases z_33)
  have x_40 : gex (fun x => x = h) G G_32 := gex_new x_30 z_33 o_35
  refine g_Beq (B' := (B.1 + 1 + 1 + 1, B.2 + 200 + 200 + 40400)) rfl ?_
  refine g_putF (ty := .array .int) hx hb hts hin_Mo ty_Mo ty_Mo_ok nm_Mo hown hK f_38 rfl 4 (by decide) (hts _ wm758) (fun _ h9 => h9) rfl hin rfl (by decide +kernel) rfl rfl (Nat.le_of_ble_eq_true rfl) d_Mo_init_27 (fun G_41 f_42 o_43 => ?_)
  have f_44 : G_41 h = some (70, .inr (9, [.int (nI 0), .int (nI 0), .ref q_1, .ref q_15, .ref q_31, .null, .int (nI 0), .int (nI 0), .null, .null, .int (nI 0), .null, .null, .null, .int (nI 0), .null, .null, .null, .null, .int (nI 0), .int (nI 0), .int (nI 0)])) := f_42
  have f_45 : G_41 q_1 = some (71, .inl (cA 0, 200, .inl (fun _ => 0))) := (o_43 _ (gne f_36 f_38 (fun e => by cases e))).trans f_36
  have f_46 : G_41 q_15 = some (72, .inl (cA 0, 200, .inl (fun _ => 0))) := (o_43 _ (gne f_37 f_38 (fun e => by cases e))).trans f_37
  have f_47 : G_41 q_31 = some (73, .inl (cA 0, 40400, .inl (fun _ => 0))) := (o_43 _ (gne f_34 f_38 (fun e => by cases e))).trans f_34
  have x_48 : gex (fun x => x = h) G G_41 := gex_put x_40 o_43 (Or.inl rfl)
  refine gs (pc' := 31) (fun _ _ _ _ _ hl => lv_aload_n hx hb d_Mo_init_30 rfl (lv_at hl 0 rfl)) ?_
  refine gs (pc' := 34) (fun _ _ _ _ _ hl => lv_sipush (v := nI 400) hx hb d_Mo_init_31 (by decide)) ?_
  refine g_newa (atype := .int) hx hb (hts _ wm49) hK 0 rfl (fun C h => by cases h) (a0 := (400, .inl (fun _ => 0))) (fun _ => rfl) (nI_pos (by omega)) (nI_clamp (by omega)) (by show 400 * 4 ≤ 536870912; omega) hlo hRc hRs (show B.1 + 1 + 1 + 1 + 1 ≤ MC by omega) (show B.2 + 200 + 200 + 40400 + 400 ≤ MS by omega) d_Mo_init_34 74 (fun q_49 G_50 z_51 f_52 o_53 => ?_)
  have f_54 : G_50 q_1 = some (71, .inl (cA 0, 200, .inl (fun _ => 0))) := (o_53 _ (fun e => by subst e; rw [f_45] at z_51; cases z_51)).trans f_45
  have f_55 : G_50 q_15 = some (72, .inl (cA 0, 200, .inl (fun _ => 0))) := (o_53 _ (fun e => by subst e; rw [f_46] at z_51; cases z_51)).trans f_46
  have f_56 : G_50 q_31 = some (73, .inl (cA 0, 40400, .inl (fun _ => 0))) := (o_53 _ (fun e => by subst e; rw [f_47] at z_51; cases z_51)).trans f_47
  have f_57 : G_50 h = some (70, .inr (9, [.int (nI 0), .int (nI 0), .ref q_1, .ref q_15, .ref q_31, .null, .int (nI 0), .int (nI 0), .null, .null, .int (nI 0), .null, .null, .null, .int (nI 0), .null, .null, .null, .null, .int (nI 0), .int (nI 0), .int (nI 0)])) := (o_53 _ (fun e => by subst e; rw [f_44] at z_51; cases z_51)).trans f_44
  have z_58 : G q_49 = none := gex_0 x_48 z_51 (fun z => by have z := z.symm; subst z; rw [f_44] at z_51; cases z_51)
  have x_59 : gex (fun x => x = h) G G_50 := gex_new x_48 z_51 o_53
  refine g_Beq (B' := (B.1 + 1 + 1 + 1 + 1, B.2 + 200 + 200 + 40400 + 400)) rfl ?_
  refine g_putF (ty := .array .int) hx hb hts hin_Mo ty_Mo ty_Mo_ok nm_Mo hown hK f_57 rfl 5 (by decide) (hts _ wm759) (fun _ h9 => h9) rfl hin rfl (by decide +kernel) rfl rfl (Nat.le_of_ble_eq_true rfl) d_Mo_init_36 (fun G_60 f_61 o_62 => ?_)
  have f_63 : G_60 h = some (70, .inr (9, [.int (nI 0), .int (nI 0), .ref q_1, .ref q_15, .ref q_31, .ref q_49, .int (nI 0), .int (nI 0), .null, .null, .int (nI 0), .null, .null, .null, .int (nI 0), .null, .null, .null, .null, .int (nI 0), .int (nI 0), .int (nI 0)])) := f_61
  have f_64 : G_60 q_1 = some (71, .inl (cA 0, 200, .inl (fun _ => 0))) := (o_62 _ (gne f_54 f_57 (fun e => by cases e))).trans f_54
  have f_65 : G_60 q_15 = some (72, .inl (cA 0, 200, .inl (fun _ => 0))) := (o_62 _ (gne f_55 f_57 (fun e => by cases e))).trans f_55
  have f_66 : G_60 q_31 = some (73, .inl (cA 0, 40400, .inl (fun _ => 0))) := (o_62 _ (gne f_56 f_57 (fun e => by cases e))).trans f_56
  have f_67 : G_60 q_49 = some (74, .inl (cA 0, 400, .inl (fun _ => 0))) := (o_62 _ (gne f_52 f_57 (fun e => by cases e))).trans f_52
  have x_68 : gex (fun x => x = h) G G_60 := gex_put x_59 o_62 (Or.inl rfl)
  refine gs (pc' := 40) (fun _ _ _ _ _ hl => lv_aload_n hx hb d_Mo_init_39 rfl (lv_at hl 0 rfl)) ?_
  refine gs (pc' := 42) (fun _ _ _ _ _ hl => lv_ldc (v := 38700) hx hb hown (hts _ wm753) d_Mo_init_40) ?_
  refine g_eqi (show 38700 = nI 38700 from rfl) ?_
  refine g_newa (atype := .int) hx hb (hts _ wm49) hK 0 rfl (fun C h => by cases h) (a0 := (38700, .inl (fun _ => 0))) (fun _ => rfl) (nI_pos (by omega)) (nI_clamp (by omega)) (by show 38700 * 4 ≤ 536870912; omega) hlo hRc hRs (show B.1 + 1 + 1 + 1 + 1 + 1 ≤ MC by omega) (show B.2 + 200 + 200 + 40400 + 400 + 38700 ≤ MS by omega) d_Mo_init_42 75 (fun q_69 G_70 z_71 f_72 o_73 => ?_)
  have f_74 : G_70 q_1 = some (71, .inl (cA 0, 200, .inl (fun _ => 0))) := (o_73 _ (fun e => by subst e; rw [f_64] at z_71; cases z_71)).trans f_64
  have f_75 : G_70 q_15 = some (72, .inl (cA 0, 200, .inl (fun _ => 0))) := (o_73 _ (fun e => by subst e; rw [f_65] at z_71; cases z_71)).trans f_65
  have f_76 : G_70 q_31 = some (73, .inl (cA 0, 40400, .inl (fun _ => 0))) := (o_73 _ (fun e => by subst e; rw [f_66] at z_71; cases z_71)).trans f_66
  have f_77 : G_70 q_49 = some (74, .inl (cA 0, 400, .inl (fun _ => 0))) := (o_73 _ (fun e => by subst e; rw [f_67] at z_71; cases z_71)).trans f_67
  have f_78 : G_70 h = some (70, .inr (9, [.int (nI 0), .int (nI 0), .ref q_1, .ref q_15, .ref q_31, .ref q_49, .int (nI 0), .int (nI 0), .null, .null, .int (nI 0), .null, .null, .null, .int (nI 0), .null, .null, .null, .null, .int (nI 0), .int (nI 0), .int (nI 0)])) := (o_73 _ (fun e => by subst e; rw [f_63] at z_71; cases z_71)).trans f_63
  have z_79 : G q_69 = none := gex_0 x_68 z_71 (fun z => by have z := z.symm; subst z; rw [f_63] at z_71; cases z_71)
  have x_80 : gex (fun x => x = h) G G_70 := gex_new x_68 z_71 o_73
  refine g_Beq (B' := (B.1 + 1 + 1 + 1 + 1 + 1, B.2 + 200 + 200 + 40400 + 400 + 38700)) rfl ?_
  refine g_putF (ty := .array .int) hx hb hts hin_Mo ty_Mo ty_Mo_ok nm_Mo hown hK f_78 rfl 8 (by decide) (hts _ wm762) (fun _ h9 => h9) rfl hin rfl (by decide +kernel) rfl rfl (Nat.le_of_ble_eq_true rfl) d_Mo_init_44 (fun G_81 f_82 o_83 => ?_)
  have f_84 : G_81 h = some (70, .inr (9, [.int (nI 0), .int (nI 0), .ref q_1, .ref q_15, .ref q_31, .ref q_49, .int (nI 0), .int (nI 0), .ref q_69, .null, .int (nI 0), .null, .null, .null, .int (nI 0), .null, .null, .null, .null, .int (nI 0), .int (nI 0), .int (nI 0)])) := f_82
  have f_85 : G_81 q_1 = some (71, .inl (cA 0, 200, .inl (fun _ => 0))) := (o_83 _ (gne f_74 f_78 (fun e => by cases e))).trans f_74
  have f_86 : G_81 q_15 = some (72, .inl (cA 0, 200, .inl (fun _ => 0))) := (o_83 _ (gne f_75 f_78 (fun e => by cases e))).trans f_75
  have f_87 : G_81 q_31 = some (73, .inl (cA 0, 40400, .inl (fun _ => 0))) := (o_83 _ (gne f_76 f_78 (fun e => by cases e))).trans f_76
  have f_88 : G_81 q_49 = some (74, .inl (cA 0, 400, .inl (fun _ => 0))) := (o_83 _ (gne f_77 f_78 (fun e => by cases e))).trans f_77
  have f_89 : G_81 q_69 = some (75, .inl (cA 0, 38700, .inl (fun _ => 0))) := (o_83 _ (gne f_72 f_78 (fun e => by cases e))).trans f_72
  have x_90 : gex (fun x => x = h) G G_81 := gex_put x_80 o_83 (Or.inl rfl)
  refine gs (pc' := 48) (fun _ _ _ _ _ hl => lv_aload_n hx hb d_Mo_init_47 rfl (lv_at hl 0 rfl)) ?_
  refine gs (pc' := 50) (fun _ _ _ _ _ hl => lv_bipush (v := nI 9) hx hb d_Mo_init_48 (by decide)) ?_
  refine g_newa (atype := .int) hx hb (hts _ wm49) hK 0 rfl (fun C h => by cases h) (a0 := (9, .inl (fun _ => 0))) (fun _ => rfl) (nI_pos (by omega)) (nI_clamp (by omega)) (by show 9 * 4 ≤ 536870912; omega) hlo hRc hRs (show B.1 + 1 + 1 + 1 + 1 + 1 + 1 ≤ MC by omega) (show B.2 + 200 + 200 + 40400 + 400 + 38700 + 9 ≤ MS by omega) d_Mo_init_50 76 (fun q_91 G_92 z_93 f_94 o_95 => ?_)
  have f_96 : G_92 q_1 = some (71, .inl (cA 0, 200, .inl (fun _ => 0))) := (o_95 _ (fun e => by subst e; rw [f_85] at z_93; cases z_93)).trans f_85
  have f_97 : G_92 q_15 = some (72, .inl (cA 0, 200, .inl (fun _ => 0))) := (o_95 _ (fun e => by subst e; rw [f_86] at z_93; cases z_93)).trans f_86
  have f_98 : G_92 q_31 = some (73, .inl (cA 0, 40400, .inl (fun _ => 0))) := (o_95 _ (fun e => by subst e; rw [f_87] at z_93; cases z_93)).trans f_87
  have f_99 : G_92 q_49 = some (74, .inl (cA 0, 400, .inl (fun _ => 0))) := (o_95 _ (fun e => by subst e; rw [f_88] at z_93; cases z_93)).trans f_88
  have f_100 : G_92 q_69 = some (75, .inl (cA 0, 38700, .inl (fun _ => 0))) := (o_95 _ (fun e => by subst e; rw [f_89] at z_93; cases z_93)).trans f_89
  have f_101 : G_92 h = some (70, .inr (9, [.int (nI 0), .int (nI 0), .ref q_1, .ref q_15, .ref q_31, .ref q_49, .int (nI 0), .int (nI 0), .ref q_69, .null, .int (nI 0), .null, .null, .null, .int (nI 0), .null, .null, .null, .null, .int (nI 0), .int (nI 0), .int (nI 0)])) := (o_95 _ (fun e => by subst e; rw [f_84] at z_93; cases z_93)).trans f_84
  have z_102 : G q_91 = none := gex_0 x_90 z_93 (fun z => by have z := z.symm; subst z; rw [f_84] at z_93; cases z_93)
  have x_103 : gex (fun x => x = h) G G_92 := gex_new x_90 z_93 o_95
  refine g_Beq (B' := (B.1 + 1 + 1 + 1 + 1 + 1 + 1, B.2 + 200 + 200 + 40400 + 400 + 38700 + 9)) rfl ?_
  refine g_putF (ty := .array .int) hx hb hts hin_Mo ty_Mo ty_Mo_ok nm_Mo hown hK f_101 rfl 9 (by decide) (hts _ wm763) (fun _ h9 => h9) rfl hin rfl (by decide +kernel) rfl rfl (Nat.le_of_ble_eq_true rfl) d_Mo_init_52 (fun G_104 f_105 o_106 => ?_)
  have f_107 : G_104 h = some (70, .inr (9, [.int (nI 0), .int (nI 0), .ref q_1, .ref q_15, .ref q_31, .ref q_49, .int (nI 0), .int (nI 0), .ref q_69, .ref q_91, .int (nI 0), .null, .null, .null, .int (nI 0), .null, .null, .null, .null, .int (nI 0), .int (nI 0), .int (nI 0)])) := f_105
  have f_108 : G_104 q_1 = some (71, .inl (cA 0, 200, .inl (fun _ => 0))) := (o_106 _ (gne f_96 f_101 (fun e => by cases e))).trans f_96
  have f_109 : G_104 q_15 = some (72, .inl (cA 0, 200, .inl (fun _ => 0))) := (o_106 _ (gne f_97 f_101 (fun e => by cases e))).trans f_97
  have f_110 : G_104 q_31 = some (73, .inl (cA 0, 40400, .inl (fun _ => 0))) := (o_106 _ (gne f_98 f_101 (fun e => by cases e))).trans f_98
  have f_111 : G_104 q_49 = some (74, .inl (cA 0, 400, .inl (fun _ => 0))) := (o_106 _ (gne f_99 f_101 (fun e => by cases e))).trans f_99
  have f_112 : G_104 q_69 = some (75, .inl (cA 0, 38700, .inl (fun _ => 0))) := (o_106 _ (gne f_100 f_101 (fun e => by cases e))).trans f_100
  have f_113 : G_104 q_91 = some (76, .inl (cA 0, 9, .inl (fun _ => 0))) := (o_106 _ (gne f_94 f_101 (fun e => by cases e))).trans f_94
  have x_114 : gex (fun x => x = h) G G_104 := gex_put x_103 o_106 (Or.inl rfl)
  refine gs (pc' := 56) (fun _ _ _ _ _ hl => lv_aload_n hx hb d_Mo_init_55 rfl (lv_at hl 0 rfl)) ?_
  refine gs (pc' := 58) (fun _ _ _ _ _ hl => lv_bipush (v := nI 8) hx hb d_Mo_init_56 (by decide)) ?_
  refine g_newa (atype := .int) hx hb (hts _ wm49) hK 0 rfl (fun C h => by cases h) (a0 := (8, .inl (fun _ => 0))) (fun _ => rfl) (nI_pos (by omega)) (nI_clamp (by omega)) (by show 8 * 4 ≤ 536870912; omega) hlo hRc hRs (show B.1 + 1 + 1 + 1 + 1 + 1 + 1 + 1 ≤ MC by omega) (show B.2 + 200 + 200 + 40400 + 400 + 38700 + 9 + 8 ≤ MS by omega) d_Mo_init_58 77 (fun q_115 G_116 z_117 f_118 o_119 => ?_)
  have f_120 : G_116 q_1 = some (71, .inl (cA 0, 200, .inl (fun _ => 0))) := (o_119 _ (fun e => by subst e; rw [f_108] at z_117; cases z_117)).trans f_108
  have f_121 : G_116 q_15 = some (72, .inl (cA 0, 200, .inl (fun _ => 0))) := (o_119 _ (fun e => by subst e; rw [f_109] at z_117; cases z_117)).trans f_109
  have f_122 : G_116 q_31 = some (73, .inl (cA 0, 40400, .inl (fun _ => 0))) := (o_119 _ (fun e => by subst e; rw [f_110] at z_117; cases z_117)).trans f_110
  have f_123 : G_116 q_49 = some (74, .inl (cA 0, 400, .inl (fun _ => 0))) := (o_119 _ (fun e => by subst e; rw [f_111] at z_117; cases z_117)).trans f_111
  have f_124 : G_116 q_69 = some (75, .inl (cA 0, 38700, .inl (fun _ => 0))) := (o_119 _ (fun e => by subst e; rw [f_112] at z_117; cases z_117)).trans f_112
  have f_125 : G_116 q_91 = some (76, .inl (cA 0, 9, .inl (fun _ => 0))) := (o_119 _ (fun e => by subst e; rw [f_113] at z_117; cases z_117)).trans f_113
  have f_126 : G_116 h = some (70, .inr (9, [.int (nI 0), .int (nI 0), .ref q_1, .ref q_15, .ref q_31, .ref q_49, .int (nI 0), .int (nI 0), .ref q_69, .ref q_91, .int (nI 0), .null, .null, .null, .int (nI 0), .null, .null, .null, .null, .int (nI 0), .int (nI 0), .int (nI 0)])) := (o_119 _ (fun e => by subst e; rw [f_107] at z_117; cases z_117)).trans f_107
  have z_127 : G q_115 = none := gex_0 x_114 z_117 (fun z => by have z := z.symm; subst z; rw [f_107] at z_117; cases z_117)
  have x_128 : gex (fun x => x = h) G G_116 := gex_new x_114 z_117 o_119
  refine g_Beq (B' := (B.1 + 1 + 1 + 1 + 1 + 1 + 1 + 1, B.2 + 200 + 200 + 40400 + 400 + 38700 + 9 + 8)) rfl ?_
  refine g_putF (ty := .array .int) hx hb hts hin_Mo ty_Mo ty_Mo_ok nm_Mo hown hK f_126 rfl 11 (by decide) (hts _ wm765) (fun _ h9 => h9) rfl hin rfl (by decide +kernel) rfl rfl (Nat.le_of_ble_eq_true rfl) d_Mo_init_60 (fun G_129 f_130 o_131 => ?_)
  have f_132 : G_129 h = some (70, .inr (9, [.int (nI 0), .int (nI 0), .ref q_1, .ref q_15, .ref q_31, .ref q_49, .int (nI 0), .int (nI 0), .ref q_69, .ref q_91, .int (nI 0), .ref q_115, .null, .null, .int (nI 0), .null, .null, .null, .null, .int (nI 0), .int (nI 0), .int (nI 0)])) := f_130
  have f_133 : G_129 q_1 = some (71, .inl (cA 0, 200, .inl (fun _ => 0))) := (o_131 _ (gne f_120 f_126 (fun e => by cases e))).trans f_120
  have f_134 : G_129 q_15 = some (72, .inl (cA 0, 200, .inl (fun _ => 0))) := (o_131 _ (gne f_121 f_126 (fun e => by cases e))).trans f_121
  have f_135 : G_129 q_31 = some (73, .inl (cA 0, 40400, .inl (fun _ => 0))) := (o_131 _ (gne f_122 f_126 (fun e => by cases e))).trans f_122
  have f_136 : G_129 q_49 = some (74, .inl (cA 0, 400, .inl (fun _ => 0))) := (o_131 _ (gne f_123 f_126 (fun e => by cases e))).trans f_123
  have f_137 : G_129 q_69 = some (75, .inl (cA 0, 38700, .inl (fun _ => 0))) := (o_131 _ (gne f_124 f_126 (fun e => by cases e))).trans f_124
  have f_138 : G_129 q_91 = some (76, .inl (cA 0, 9, .inl (fun _ => 0))) := (o_131 _ (gne f_125 f_126 (fun e => by cases e))).trans f_125
  have f_139 : G_129 q_115 = some (77, .inl (cA 0, 8, .inl (fun _ => 0))) := (o_131 _ (gne f_118 f_126 (fun e => by cases e))).trans f_118
  have x_140 : gex (fun x => x = h) G G_129 := gex_put x_128 o_131 (Or.inl rfl)
  refine gs (pc' := 64) (fun _ _ _ _ _ hl => lv_aload_n hx hb d_Mo_init_63 rfl (lv_at hl 0 rfl)) ?_
  refine gs (pc' := 67) (fun _ _ _ _ _ hl => lv_sipush (v := nI 128) hx hb d_Mo_init_64 (by decide)) ?_
  refine g_newa (atype := .int) hx hb (hts _ wm49) hK 0 rfl (fun C h => by cases h) (a0 := (128, .inl (fun _ => 0))) (fun _ => rfl) (nI_pos (by omega)) (nI_clamp (by omega)) (by show 128 * 4 ≤ 536870912; omega) hlo hRc hRs (show B.1 + 1 + 1 + 1 + 1 + 1 + 1 + 1 + 1 ≤ MC by omega) (show B.2 + 200 + 200 + 40400 + 400 + 38700 + 9 + 8 + 128 ≤ MS by omega) d_Mo_init_67 78 (fun q_141 G_142 z_143 f_144 o_145 => ?_)
  have f_146 : G_142 q_1 = some (71, .inl (cA 0, 200, .inl (fun _ => 0))) := (o_145 _ (fun e => by subst e; rw [f_133] at z_143; cases z_143)).trans f_133
  have f_147 : G_142 q_15 = some (72, .inl (cA 0, 200, .inl (fun _ => 0))) := (o_145 _ (fun e => by subst e; rw [f_134] at z_143; cases z_143)).trans f_134
  have f_148 : G_142 q_31 = some (73, .inl (cA 0, 40400, .inl (fun _ => 0))) := (o_145 _ (fun e => by subst e; rw [f_135] at z_143; cases z_143)).trans f_135
  have f_149 : G_142 q_49 = some (74, .inl (cA 0, 400, .inl (fun _ => 0))) := (o_145 _ (fun e => by subst e; rw [f_136] at z_143; cases z_143)).trans f_136
  have f_150 : G_142 q_69 = some (75, .inl (cA 0, 38700, .inl (fun _ => 0))) := (o_145 _ (fun e => by subst e; rw [f_137] at z_143; cases z_143)).trans f_137
  have f_151 : G_142 q_91 = some (76, .inl (cA 0, 9, .inl (fun _ => 0))) := (o_145 _ (fun e => by subst e; rw [f_138] at z_143; cases z_143)).trans f_138
  have f_152 : G_142 q_115 = some (77, .inl (cA 0, 8, .inl (fun _ => 0))) := (o_145 _ (fun e => by subst e; rw [f_139] at z_143; cases z_143)).trans f_139
  have f_153 : G_142 h = some (70, .inr (9, [.int (nI 0), .int (nI 0), .ref q_1, .ref q_15, .ref q_31, .ref q_49, .int (nI 0), .int (nI 0), .ref q_69, .ref q_91, .int (nI 0), .ref q_115, .null, .null, .int (nI 0), .null, .null, .null, .null, .int (nI 0), .int (nI 0), .int (nI 0)])) := (o_145 _ (fun e => by subst e; rw [f_132] at z_143; cases z_143)).trans f_132
  have z_154 : G q_141 = none := gex_0 x_140 z_143 (fun z => by have z := z.symm; subst z; rw [f_132] at z_143; cases z_143)
  have x_155 : gex (fun x => x = h) G G_142 := gex_new x_140 z_143 o_145
  refine g_Beq (B' := (B.1 + 1 + 1 + 1 + 1 + 1 + 1 + 1 + 1, B.2 + 200 + 200 + 40400 + 400 + 38700 + 9 + 8 + 128)) rfl ?_
  refine g_putF (ty := .array .int) hx hb hts hin_Mo ty_Mo ty_Mo_ok nm_Mo hown hK f_153 rfl 12 (by decide) (hts _ wm766) (fun _ h9 => h9) rfl hin rfl (by decide +kernel) rfl rfl (Nat.le_of_ble_eq_true rfl) d_Mo_init_69 (fun G_156 f_157 o_158 => ?_)
  have f_159 : G_156 h = some (70, .inr (9, [.int (nI 0), .int (nI 0), .ref q_1, .ref q_15, .ref q_31, .ref q_49, .int (nI 0), .int (nI 0), .ref q_69, .ref q_91, .int (nI 0), .ref q_115, .ref q_141, .null, .int (nI 0), .null, .null, .null, .null, .int (nI 0), .int (nI 0), .int (nI 0)])) := f_157
  have f_160 : G_156 q_1 = some (71, .inl (cA 0, 200, .inl (fun _ => 0))) := (o_158 _ (gne f_146 f_153 (fun e => by cases e))).trans f_146
  have f_161 : G_156 q_15 = some (72, .inl (cA 0, 200, .inl (fun _ => 0))) := (o_158 _ (gne f_147 f_153 (fun e => by cases e))).trans f_147
  have f_162 : G_156 q_31 = some (73, .inl (cA 0, 40400, .inl (fun _ => 0))) := (o_158 _ (gne f_148 f_153 (fun e => by cases e))).trans f_148
  have f_163 : G_156 q_49 = some (74, .inl (cA 0, 400, .inl (fun _ => 0))) := (o_158 _ (gne f_149 f_153 (fun e => by cases e))).trans f_149
  have f_164 : G_156 q_69 = some (75, .inl (cA 0, 38700, .inl (fun _ => 0))) := (o_158 _ (gne f_150 f_153 (fun e => by cases e))).trans f_150
  have f_165 : G_156 q_91 = some (76, .inl (cA 0, 9, .inl (fun _ => 0))) := (o_158 _ (gne f_151 f_153 (fun e => by cases e))).trans f_151
  have f_166 : G_156 q_115 = some (77, .inl (cA 0, 8, .inl (fun _ => 0))) := (o_158 _ (gne f_152 f_153 (fun e => by cases e))).trans f_152
  have f_167 : G_156 q_141 = some (78, .inl (cA 0, 128, .inl (fun _ => 0))) := (o_158 _ (gne f_144 f_153 (fun e => by cases e))).trans f_144
  have x_168 : gex (fun x => x = h) G G_156 := gex_put x_155 o_158 (Or.inl rfl)
  refine gs (pc' := 73) (fun _ _ _ _ _ hl => lv_aload_n hx hb d_Mo_init_72 rfl (lv_at hl 0 rfl)) ?_
  refine gs (pc' := 76) (fun _ _ _ _ _ hl => lv_sipush (v := nI 128) hx hb d_Mo_init_73 (by decide)) ?_
  refine g_newa (atype := .int) hx hb (hts _ wm49) hK 0 rfl (fun C h => by cases h) (a0 := (128, .inl (fun _ => 0))) (fun _ => rfl) (nI_pos (by omega)) (nI_clamp (by omega)) (by show 128 * 4 ≤ 536870912; omega) hlo hRc hRs (show B.1 + 1 + 1 + 1 + 1 + 1 + 1 + 1 + 1 + 1 ≤ MC by omega) (show B.2 + 200 + 200 + 40400 + 400 + 38700 + 9 + 8 + 128 + 128 ≤ MS by omega) d_Mo_init_76 79 (fun q_169 G_170 z_171 f_172 o_173 => ?_)
  have f_174 : G_170 q_1 = some (71, .inl (cA 0, 200, .inl (fun _ => 0))) := (o_173 _ (fun e => by subst e; rw [f_160] at z_171; cases z_171)).trans f_160
  have f_175 : G_170 q_15 = some (72, .inl (cA 0, 200, .inl (fun _ => 0))) := (o_173 _ (fun e => by subst e; rw [f_161] at z_171; cases z_171)).trans f_161
  have f_176 : G_170 q_31 = some (73, .inl (cA 0, 40400, .inl (fun _ => 0))) := (o_173 _ (fun e => by subst e; rw [f_162] at z_171; cases z_171)).trans f_162
  have f_177 : G_170 q_49 = some (74, .inl (cA 0, 400, .inl (fun _ => 0))) := (o_173 _ (fun e => by subst e; rw [f_163] at z_171; cases z_171)).trans f_163
  have f_178 : G_170 q_69 = some (75, .inl (cA 0, 38700, .inl (fun _ => 0))) := (o_173 _ (fun e => by subst e; rw [f_164] at z_171; cases z_171)).trans f_164
  have f_179 : G_170 q_91 = some (76, .inl (cA 0, 9, .inl (fun _ => 0))) := (o_173 _ (fun e => by subst e; rw [f_165] at z_171; cases z_171)).trans f_165
  have f_180 : G_170 q_115 = some (77, .inl (cA 0, 8, .inl (fun _ => 0))) := (o_173 _ (fun e => by subst e; rw [f_166] at z_171; cases z_171)).trans f_166
  have f_181 : G_170 q_141 = some (78, .inl (cA 0, 128, .inl (fun _ => 0))) := (o_173 _ (fun e => by subst e; rw [f_167] at z_171; cases z_171)).trans f_167
  have f_182 : G_170 h = some (70, .inr (9, [.int (nI 0), .int (nI 0), .ref q_1, .ref q_15, .ref q_31, .ref q_49, .int (nI 0), .int (nI 0), .ref q_69, .ref q_91, .int (nI 0), .ref q_115, .ref q_141, .null, .int (nI 0), .null, .null, .null, .null, .int (nI 0), .int (nI 0), .int (nI 0)])) := (o_173 _ (fun e => by subst e; rw [f_159] at z_171; cases z_171)).trans f_159
  have z_183 : G q_169 = none := gex_0 x_168 z_171 (fun z => by have z := z.symm; subst z; rw [f_159] at z_171; cases z_171)
  have x_184 : gex (fun x => x = h) G G_170 := gex_new x_168 z_171 o_173
  refine g_Beq (B' := (B.1 + 1 + 1 + 1 + 1 + 1 + 1 + 1 + 1 + 1, B.2 + 200 + 200 + 40400 + 400 + 38700 + 9 + 8 + 128 + 128)) rfl ?_
  refine g_putF (ty := .array .int) hx hb hts hin_Mo ty_Mo ty_Mo_ok nm_Mo hown hK f_182 rfl 13 (by decide) (hts _ wm767) (fun _ h9 => h9) rfl hin rfl (by decide +kernel) rfl rfl (Nat.le_of_ble_eq_true rfl) d_Mo_init_78 (fun G_185 f_186 o_187 => ?_)
  have f_188 : G_185 h = some (70, .inr (9, [.int (nI 0), .int (nI 0), .ref q_1, .ref q_15, .ref q_31, .ref q_49, .int (nI 0), .int (nI 0), .ref q_69, .ref q_91, .int (nI 0), .ref q_115, .ref q_141, .ref q_169, .int (nI 0), .null, .null, .null, .null, .int (nI 0), .int (nI 0), .int (nI 0)])) := f_186
  have f_189 : G_185 q_1 = some (71, .inl (cA 0, 200, .inl (fun _ => 0))) := (o_187 _ (gne f_174 f_182 (fun e => by cases e))).trans f_174
  have f_190 : G_185 q_15 = some (72, .inl (cA 0, 200, .inl (fun _ => 0))) := (o_187 _ (gne f_175 f_182 (fun e => by cases e))).trans f_175
  have f_191 : G_185 q_31 = some (73, .inl (cA 0, 40400, .inl (fun _ => 0))) := (o_187 _ (gne f_176 f_182 (fun e => by cases e))).trans f_176
  have f_192 : G_185 q_49 = some (74, .inl (cA 0, 400, .inl (fun _ => 0))) := (o_187 _ (gne f_177 f_182 (fun e => by cases e))).trans f_177
  have f_193 : G_185 q_69 = some (75, .inl (cA 0, 38700, .inl (fun _ => 0))) := (o_187 _ (gne f_178 f_182 (fun e => by cases e))).trans f_178
  have f_194 : G_185 q_91 = some (76, .inl (cA 0, 9, .inl (fun _ => 0))) := (o_187 _ (gne f_179 f_182 (fun e => by cases e))).trans f_179
  have f_195 : G_185 q_115 = some (77, .inl (cA 0, 8, .inl (fun _ => 0))) := (o_187 _ (gne f_180 f_182 (fun e => by cases e))).trans f_180
  have f_196 : G_185 q_141 = some (78, .inl (cA 0, 128, .inl (fun _ => 0))) := (o_187 _ (gne f_181 f_182 (fun e => by cases e))).trans f_181
  have f_197 : G_185 q_169 = some (79, .inl (cA 0, 128, .inl (fun _ => 0))) := (o_187 _ (gne f_172 f_182 (fun e => by cases e))).trans f_172
  have x_198 : gex (fun x => x = h) G G_185 := gex_put x_184 o_187 (Or.inl rfl)
  refine gs (pc' := 82) (fun _ _ _ _ _ hl => lv_aload_n hx hb d_Mo_init_81 rfl (lv_at hl 0 rfl)) ?_
  refine gs (pc' := 84) (fun _ _ _ _ _ hl => lv_bipush (v := nI 12) hx hb d_Mo_init_82 (by decide)) ?_
  refine g_newa (atype := .long) hx hb (hts _ wm50) hK 1 rfl (fun C h => by cases h) (a0 := (12, .inr (.inl (fun _ => 0)))) (fun _ => rfl) (nI_pos (by omega)) (nI_clamp (by omega)) (by show 12 * 8 ≤ 536870912; omega) hlo hRc hRs (show B.1 + 1 + 1 + 1 + 1 + 1 + 1 + 1 + 1 + 1 + 1 ≤ MC by omega) (show B.2 + 200 + 200 + 40400 + 400 + 38700 + 9 + 8 + 128 + 128 + 12 ≤ MS by omega) d_Mo_init_84 80 (fun q_199 G_200 z_201 f_202 o_203 => ?_)
  have f_204 : G_200 q_1 = some (71, .inl (cA 0, 200, .inl (fun _ => 0))) := (o_203 _ (fun e => by subst e; rw [f_189] at z_201; cases z_201)).trans f_189
  have f_205 : G_200 q_15 = some (72, .inl (cA 0, 200, .inl (fun _ => 0))) := (o_203 _ (fun e => by subst e; rw [f_190] at z_201; cases z_201)).trans f_190
  have f_206 : G_200 q_31 = some (73, .inl (cA 0, 40400, .inl (fun _ => 0))) := (o_203 _ (fun e => by subst e; rw [f_191] at z_201; cases z_201)).trans f_191
  have f_207 : G_200 q_49 = some (74, .inl (cA 0, 400, .inl (fun _ => 0))) := (o_203 _ (fun e => by subst e; rw [f_192] at z_201; cases z_201)).trans f_192
  have f_208 : G_200 q_69 = some (75, .inl (cA 0, 38700, .inl (fun _ => 0))) := (o_203 _ (fun e => by subst e; rw [f_193] at z_201; cases z_201)).trans f_193
  have f_209 : G_200 q_91 = some (76, .inl (cA 0, 9, .inl (fun _ => 0))) := (o_203 _ (fun e => by subst e; rw [f_194] at z_201; cases z_201)).trans f_194
  have f_210 : G_200 q_115 = some (77, .inl (cA 0, 8, .inl (fun _ => 0))) := (o_203 _ (fun e => by subst e; rw [f_195] at z_201; cases z_201)).trans f_195
  have f_211 : G_200 q_141 = some (78, .inl (cA 0, 128, .inl (fun _ => 0))) := (o_203 _ (fun e => by subst e; rw [f_196] at z_201; cases z_201)).trans f_196
  have f_212 : G_200 q_169 = some (79, .inl (cA 0, 128, .inl (fun _ => 0))) := (o_203 _ (fun e => by subst e; rw [f_197] at z_201; cases z_201)).trans f_197
  have f_213 : G_200 h = some (70, .inr (9, [.int (nI 0), .int (nI 0), .ref q_1, .ref q_15, .ref q_31, .ref q_49, .int (nI 0), .int (nI 0), .ref q_69, .ref q_91, .int (nI 0), .ref q_115, .ref q_141, .ref q_169, .int (nI 0), .null, .null, .null, .null, .int (nI 0), .int (nI 0), .int (nI 0)])) := (o_203 _ (fun e => by subst e; rw [f_188] at z_201; cases z_201)).trans f_188
  have z_214 : G q_199 = none := gex_0 x_198 z_201 (fun z => by have z := z.symm; subst z; rw [f_188] at z_201; cases z_201)
  have x_215 : gex (fun x => x = h) G G_200 := gex_new x_198 z_201 o_203
  refine g_Beq (B' := (B.1 + 1 + 1 + 1 + 1 + 1 + 1 + 1 + 1 + 1 + 1, B.2 + 200 + 200 + 40400 + 400 + 38700 + 9 + 8 + 128 + 128 + 12)) rfl ?_
  refine g_putF (ty := .array .long) hx hb hts hin_Mo ty_Mo ty_Mo_ok nm_Mo hown hK f_213 rfl 15 (by decide) (hts _ wm769) (fun _ h9 => h9) rfl hin rfl (by decide +kernel) rfl rfl (Nat.le_of_ble_eq_true rfl) d_Mo_init_86 (fun G_216 f_217 o_218 => ?_)
  have f_219 : G_216 h = some (70, .inr (9, [.int (nI 0), .int (nI 0), .ref q_1, .ref q_15, .ref q_31, .ref q_49, .int (nI 0), .int (nI 0), .ref q_69, .ref q_91, .int (nI 0), .ref q_115, .ref q_141, .ref q_169, .int (nI 0), .ref q_199, .null, .null, .null, .int (nI 0), .int (nI 0), .int (nI 0)])) := f_217
  have f_220 : G_216 q_1 = some (71, .inl (cA 0, 200, .inl (fun _ => 0))) := (o_218 _ (gne f_204 f_213 (fun e => by cases e))).trans f_204
  have f_221 : G_216 q_15 = some (72, .inl (cA 0, 200, .inl (fun _ => 0))) := (o_218 _ (gne f_205 f_213 (fun e => by cases e))).trans f_205
  have f_222 : G_216 q_31 = some (73, .inl (cA 0, 40400, .inl (fun _ => 0))) := (o_218 _ (gne f_206 f_213 (fun e => by cases e))).trans f_206
  have f_223 : G_216 q_49 = some (74, .inl (cA 0, 400, .inl (fun _ => 0))) := (o_218 _ (gne f_207 f_213 (fun e => by cases e))).trans f_207
  have f_224 : G_216 q_69 = some (75, .inl (cA 0, 38700, .inl (fun _ => 0))) := (o_218 _ (gne f_208 f_213 (fun e => by cases e))).trans f_208
  have f_225 : G_216 q_91 = some (76, .inl (cA 0, 9, .inl (fun _ => 0))) := (o_218 _ (gne f_209 f_213 (fun e => by cases e))).trans f_209
  have f_226 : G_216 q_115 = some (77, .inl (cA 0, 8, .inl (fun _ => 0))) := (o_218 _ (gne f_210 f_213 (fun e => by cases e))).trans f_210
  have f_227 : G_216 q_141 = some (78, .inl (cA 0, 128, .inl (fun _ => 0))) := (o_218 _ (gne f_211 f_213 (fun e => by cases e))).trans f_211
  have f_228 : G_216 q_169 = some (79, .inl (cA 0, 128, .inl (fun _ => 0))) := (o_218 _ (gne f_212 f_213 (fun e => by cases e))).trans f_212
  have f_229 : G_216 q_199 = some (80, .inl (cA 1, 12, .inr (.inl (fun _ => 0)))) := (o_218 _ (gne f_202 f_213 (fun e => by cases e))).trans f_202
  have x_230 : gex (fun x => x = h) G G_216 := gex_put x_215 o_218 (Or.inl rfl)
  refine gs (pc' := 90) (fun _ _ _ _ _ hl => lv_aload_n hx hb d_Mo_init_89 rfl (lv_at hl 0 rfl)) ?_
  refine gs (pc' := 92) (fun _ _ _ _ _ hl => lv_bipush (v := nI 12) hx hb d_Mo_init_90 (by decide)) ?_
  refine g_newa (atype := .long) hx hb (hts _ wm50) hK 1 rfl (fun C h => by cases h) (a0 := (12, .inr (.inl (fun _ => 0)))) (fun _ => rfl) (nI_pos (by omega)) (nI_clamp (by omega)) (by show 12 * 8 ≤ 536870912; omega) hlo hRc hRs (show B.1 + 1 + 1 + 1 + 1 + 1 + 1 + 1 + 1 + 1 + 1 + 1 ≤ MC by omega) (show B.2 + 200 + 200 + 40400 + 400 + 38700 + 9 + 8 + 128 + 128 + 12 + 12 ≤ MS by omega) d_Mo_init_92 81 (fun q_231 G_232 z_233 f_234 o_235 => ?_)
  have f_236 : G_232 q_1 = some (71, .inl (cA 0, 200, .inl (fun _ => 0))) := (o_235 _ (fun e => by subst e; rw [f_220] at z_233; cases z_233)).trans f_220
  have f_237 : G_232 q_15 = some (72, .inl (cA 0, 200, .inl (fun _ => 0))) := (o_235 _ (fun e => by subst e; rw [f_221] at z_233; cases z_233)).trans f_221
  have f_238 : G_232 q_31 = some (73, .inl (cA 0, 40400, .inl (fun _ => 0))) := (o_235 _ (fun e => by subst e; rw [f_222] at z_233; cases z_233)).trans f_222
  have f_239 : G_232 q_49 = some (74, .inl (cA 0, 400, .inl (fun _ => 0))) := (o_235 _ (fun e => by subst e; rw [f_223] at z_233; cases z_233)).trans f_223
  have f_240 : G_232 q_69 = some (75, .inl (cA 0, 38700, .inl (fun _ => 0))) := (o_235 _ (fun e => by subst e; rw [f_224] at z_233; cases z_233)).trans f_224
  have f_241 : G_232 q_91 = some (76, .inl (cA 0, 9, .inl (fun _ => 0))) := (o_235 _ (fun e => by subst e; rw [f_225] at z_233; cases z_233)).trans f_225
  have f_242 : G_232 q_115 = some (77, .inl (cA 0, 8, .inl (fun _ => 0))) := (o_235 _ (fun e => by subst e; rw [f_226] at z_233; cases z_233)).trans f_226
  have f_243 : G_232 q_141 = some (78, .inl (cA 0, 128, .inl (fun _ => 0))) := (o_235 _ (fun e => by subst e; rw [f_227] at z_233; cases z_233)).trans f_227
  have f_244 : G_232 q_169 = some (79, .inl (cA 0, 128, .inl (fun _ => 0))) := (o_235 _ (fun e => by subst e; rw [f_228] at z_233; cases z_233)).trans f_228
  have f_245 : G_232 q_199 = some (80, .inl (cA 1, 12, .inr (.inl (fun _ => 0)))) := (o_235 _ (fun e => by subst e; rw [f_229] at z_233; cases z_233)).trans f_229
  have f_246 : G_232 h = some (70, .inr (9, [.int (nI 0), .int (nI 0), .ref q_1, .ref q_15, .ref q_31, .ref q_49, .int (nI 0), .int (nI 0), .ref q_69, .ref q_91, .int (nI 0), .ref q_115, .ref q_141, .ref q_169, .int (nI 0), .ref q_199, .null, .null, .null, .int (nI 0), .int (nI 0), .int (nI 0)])) := (o_235 _ (fun e => by subst e; rw [f_219] at z_233; cases z_233)).trans f_219
  have z_247 : G q_231 = none := gex_0 x_230 z_233 (fun z => by have z := z.symm; subst z; rw [f_219] at z_233; cases z_233)
  have x_248 : gex (fun x => x = h) G G_232 := gex_new x_230 z_233 o_235
  refine g_Beq (B' := (B.1 + 1 + 1 + 1 + 1 + 1 + 1 + 1 + 1 + 1 + 1 + 1, B.2 + 200 + 200 + 40400 + 400 + 38700 + 9 + 8 + 128 + 128 + 12 + 12)) rfl ?_
  refine g_putF (ty := .array .long) hx hb hts hin_Mo ty_Mo ty_Mo_ok nm_Mo hown hK f_246 rfl 16 (by decide) (hts _ wm770) (fun _ h9 => h9) rfl hin rfl (by decide +kernel) rfl rfl (Nat.le_of_ble_eq_true rfl) d_Mo_init_94 (fun G_249 f_250 o_251 => ?_)
  have f_252 : G_249 h = some (70, .inr (9, [.int (nI 0), .int (nI 0), .ref q_1, .ref q_15, .ref q_31, .ref q_49, .int (nI 0), .int (nI 0), .ref q_69, .ref q_91, .int (nI 0), .ref q_115, .ref q_141, .ref q_169, .int (nI 0), .ref q_199, .ref q_231, .null, .null, .int (nI 0), .int (nI 0), .int (nI 0)])) := f_250
  have f_253 : G_249 q_1 = some (71, .inl (cA 0, 200, .inl (fun _ => 0))) := (o_251 _ (gne f_236 f_246 (fun e => by cases e))).trans f_236
  have f_254 : G_249 q_15 = some (72, .inl (cA 0, 200, .inl (fun _ => 0))) := (o_251 _ (gne f_237 f_246 (fun e => by cases e))).trans f_237
  have f_255 : G_249 q_31 = some (73, .inl (cA 0, 40400, .inl (fun _ => 0))) := (o_251 _ (gne f_238 f_246 (fun e => by cases e))).trans f_238
  have f_256 : G_249 q_49 = some (74, .inl (cA 0, 400, .inl (fun _ => 0))) := (o_251 _ (gne f_239 f_246 (fun e => by cases e))).trans f_239
  have f_257 : G_249 q_69 = some (75, .inl (cA 0, 38700, .inl (fun _ => 0))) := (o_251 _ (gne f_240 f_246 (fun e => by cases e))).trans f_240
  have f_258 : G_249 q_91 = some (76, .inl (cA 0, 9, .inl (fun _ => 0))) := (o_251 _ (gne f_241 f_246 (fun e => by cases e))).trans f_241
  have f_259 : G_249 q_115 = some (77, .inl (cA 0, 8, .inl (fun _ => 0))) := (o_251 _ (gne f_242 f_246 (fun e => by cases e))).trans f_242
  have f_260 : G_249 q_141 = some (78, .inl (cA 0, 128, .inl (fun _ => 0))) := (o_251 _ (gne f_243 f_246 (fun e => by cases e))).trans f_243
  have f_261 : G_249 q_169 = some (79, .inl (cA 0, 128, .inl (fun _ => 0))) := (o_251 _ (gne f_244 f_246 (fun e => by cases e))).trans f_244
  have f_262 : G_249 q_199 = some (80, .inl (cA 1, 12, .inr (.inl (fun _ => 0)))) := (o_251 _ (gne f_245 f_246 (fun e => by cases e))).trans f_245
  have f_263 : G_249 q_231 = some (81, .inl (cA 1, 12, .inr (.inl (fun _ => 0)))) := (o_251 _ (gne f_234 f_246 (fun e => by cases e))).trans f_234
  have x_264 : gex (fun x => x = h) G G_249 := gex_put x_248 o_251 (Or.inl rfl)
  refine gs (pc' := 98) (fun _ _ _ _ _ hl => lv_aload_n hx hb d_Mo_init_97 rfl (lv_at hl 0 rfl)) ?_
  refine gs (pc' := 100) (fun _ _ _ _ _ hl => lv_bipush (v := nI 12) hx hb d_Mo_init_98 (by decide)) ?_
  refine g_newa (atype := .long) hx hb (hts _ wm50) hK 1 rfl (fun C h => by cases h) (a0 := (12, .inr (.inl (fun _ => 0)))) (fun _ => rfl) (nI_pos (by omega)) (nI_clamp (by omega)) (by show 12 * 8 ≤ 536870912; omega) hlo hRc hRs (show B.1 + 1 + 1 + 1 + 1 + 1 + 1 + 1 + 1 + 1 + 1 + 1 + 1 ≤ MC by omega) (show B.2 + 200 + 200 + 40400 + 400 + 38700 + 9 + 8 + 128 + 128 + 12 + 12 + 12 ≤ MS by omega) d_Mo_init_100 82 (fun q_265 G_266 z_267 f_268 o_269 => ?_)
  have f_270 : G_266 q_1 = some (71, .inl (cA 0, 200, .inl (fun _ => 0))) := (o_269 _ (fun e => by subst e; rw [f_253] at z_267; cases z_267)).trans f_253
  have f_271 : G_266 q_15 = some (72, .inl (cA 0, 200, .inl (fun _ => 0))) := (o_269 _ (fun e => by subst e; rw [f_254] at z_267; cases z_267)).trans f_254
  have f_272 : G_266 q_31 = some (73, .inl (cA 0, 40400, .inl (fun _ => 0))) := (o_269 _ (fun e => by subst e; rw [f_255] at z_267; cases z_267)).trans f_255
  have f_273 : G_266 q_49 = some (74, .inl (cA 0, 400, .inl (fun _ => 0))) := (o_269 _ (fun e => by subst e; rw [f_256] at z_267; cases z_267)).trans f_256
  have f_274 : G_266 q_69 = some (75, .inl (cA 0, 38700, .inl (fun _ => 0))) := (o_269 _ (fun e => by subst e; rw [f_257] at z_267; cases z_267)).trans f_257
  have f_275 : G_266 q_91 = some (76, .inl (cA 0, 9, .inl (fun _ => 0))) := (o_269 _ (fun e => by subst e; rw [f_258] at z_267; cases z_267)).trans f_258
  have f_276 : G_266 q_115 = some (77, .inl (cA 0, 8, .inl (fun _ => 0))) := (o_269 _ (fun e => by subst e; rw [f_259] at z_267; cases z_267)).trans f_259
  have f_277 : G_266 q_141 = some (78, .inl (cA 0, 128, .inl (fun _ => 0))) := (o_269 _ (fun e => by subst e; rw [f_260] at z_267; cases z_267)).trans f_260
  have f_278 : G_266 q_169 = some (79, .inl (cA 0, 128, .inl (fun _ => 0))) := (o_269 _ (fun e => by subst e; rw [f_261] at z_267; cases z_267)).trans f_261
  have f_279 : G_266 q_199 = some (80, .inl (cA 1, 12, .inr (.inl (fun _ => 0)))) := (o_269 _ (fun e => by subst e; rw [f_262] at z_267; cases z_267)).trans f_262
  have f_280 : G_266 q_231 = some (81, .inl (cA 1, 12, .inr (.inl (fun _ => 0)))) := (o_269 _ (fun e => by subst e; rw [f_263] at z_267; cases z_267)).trans f_263
  have f_281 : G_266 h = some (70, .inr (9, [.int (nI 0), .int (nI 0), .ref q_1, .ref q_15, .ref q_31, .ref q_49, .int (nI 0), .int (nI 0), .ref q_69, .ref q_91, .int (nI 0), .ref q_115, .ref q_141, .ref q_169, .int (nI 0), .ref q_199, .ref q_231, .null, .null, .int (nI 0), .int (nI 0), .int (nI 0)])) := (o_269 _ (fun e => by subst e; rw [f_252] at z_267; cases z_267)).trans f_252
  have z_282 : G q_265 = none := gex_0 x_264 z_267 (fun z => by have z := z.symm; subst z; rw [f_252] at z_267; cases z_267)
  have x_283 : gex (fun x => x = h) G G_266 := gex_new x_264 z_267 o_269
  refine g_Beq (B' := (B.1 + 1 + 1 + 1 + 1 + 1 + 1 + 1 + 1 + 1 + 1 + 1 + 1, B.2 + 200 + 200 + 40400 + 400 + 38700 + 9 + 8 + 128 + 128 + 12 + 12 + 12)) rfl ?_
  refine g_putF (ty := .array .long) hx hb hts hin_Mo ty_Mo ty_Mo_ok nm_Mo hown hK f_281 rfl 17 (by decide) (hts _ wm771) (fun _ h9 => h9) rfl hin rfl (by decide +kernel) rfl rfl (Nat.le_of_ble_eq_true rfl) d_Mo_init_102 (fun G_284 f_285 o_286 => ?_)
  have f_287 : G_284 h = some (70, .inr (9, [.int (nI 0), .int (nI 0), .ref q_1, .ref q_15, .ref q_31, .ref q_49, .int (nI 0), .int (nI 0), .ref q_69, .ref q_91, .int (nI 0), .ref q_115, .ref q_141, .ref q_169, .int (nI 0), .ref q_199, .ref q_231, .ref q_265, .null, .int (nI 0), .int (nI 0), .int (nI 0)])) := f_285
  have f_288 : G_284 q_1 = some (71, .inl (cA 0, 200, .inl (fun _ => 0))) := (o_286 _ (gne f_270 f_281 (fun e => by cases e))).trans f_270
  have f_289 : G_284 q_15 = some (72, .inl (cA 0, 200, .inl (fun _ => 0))) := (o_286 _ (gne f_271 f_281 (fun e => by cases e))).trans f_271
  have f_290 : G_284 q_31 = some (73, .inl (cA 0, 40400, .inl (fun _ => 0))) := (o_286 _ (gne f_272 f_281 (fun e => by cases e))).trans f_272
  have f_291 : G_284 q_49 = some (74, .inl (cA 0, 400, .inl (fun _ => 0))) := (o_286 _ (gne f_273 f_281 (fun e => by cases e))).trans f_273
  have f_292 : G_284 q_69 = some (75, .inl (cA 0, 38700, .inl (fun _ => 0))) := (o_286 _ (gne f_274 f_281 (fun e => by cases e))).trans f_274
  have f_293 : G_284 q_91 = some (76, .inl (cA 0, 9, .inl (fun _ => 0))) := (o_286 _ (gne f_275 f_281 (fun e => by cases e))).trans f_275
  have f_294 : G_284 q_115 = some (77, .inl (cA 0, 8, .inl (fun _ => 0))) := (o_286 _ (gne f_276 f_281 (fun e => by cases e))).trans f_276
  have f_295 : G_284 q_141 = some (78, .inl (cA 0, 128, .inl (fun _ => 0))) := (o_286 _ (gne f_277 f_281 (fun e => by cases e))).trans f_277
  have f_296 : G_284 q_169 = some (79, .inl (cA 0, 128, .inl (fun _ => 0))) := (o_286 _ (gne f_278 f_281 (fun e => by cases e))).trans f_278
  have f_297 : G_284 q_199 = some (80, .inl (cA 1, 12, .inr (.inl (fun _ => 0)))) := (o_286 _ (gne f_279 f_281 (fun e => by cases e))).trans f_279
  have f_298 : G_284 q_231 = some (81, .inl (cA 1, 12, .inr (.inl (fun _ => 0)))) := (o_286 _ (gne f_280 f_281 (fun e => by cases e))).trans f_280
  have f_299 : G_284 q_265 = some (82, .inl (cA 1, 12, .inr (.inl (fun _ => 0)))) := (o_286 _ (gne f_268 f_281 (fun e => by cases e))).trans f_268
  have x_300 : gex (fun x => x = h) G G_284 := gex_put x_283 o_286 (Or.inl rfl)
  refine gs (pc' := 106) (fun _ _ _ _ _ hl => lv_aload_n hx hb d_Mo_init_105 rfl (lv_at hl 0 rfl)) ?_
  refine gs (pc' := 109) (fun _ _ _ _ _ hl => lv_sipush (v := nI 8600) hx hb d_Mo_init_106 (by decide)) ?_
  refine g_newa (atype := .int) hx hb (hts _ wm49) hK 0 rfl (fun C h => by cases h) (a0 := (8600, .inl (fun _ => 0))) (fun _ => rfl) (nI_pos (by omega)) (nI_clamp (by omega)) (by show 8600 * 4 ≤ 536870912; omega) hlo hRc hRs (show B.1 + 1 + 1 + 1 + 1 + 1 + 1 + 1 + 1 + 1 + 1 + 1 + 1 + 1 ≤ MC by omega) (show B.2 + 200 + 200 + 40400 + 400 + 38700 + 9 + 8 + 128 + 128 + 12 + 12 + 12 + 8600 ≤ MS by omega) d_Mo_init_109 83 (fun q_301 G_302 z_303 f_304 o_305 => ?_)
  have f_306 : G_302 q_1 = some (71, .inl (cA 0, 200, .inl (fun _ => 0))) := (o_305 _ (fun e => by subst e; rw [f_288] at z_303; cases z_303)).trans f_288
  have f_307 : G_302 q_15 = some (72, .inl (cA 0, 200, .inl (fun _ => 0))) := (o_305 _ (fun e => by subst e; rw [f_289] at z_303; cases z_303)).trans f_289
  have f_308 : G_302 q_31 = some (73, .inl (cA 0, 40400, .inl (fun _ => 0))) := (o_305 _ (fun e => by subst e; rw [f_290] at z_303; cases z_303)).trans f_290
  have f_309 : G_302 q_49 = some (74, .inl (cA 0, 400, .inl (fun _ => 0))) := (o_305 _ (fun e => by subst e; rw [f_291] at z_303; cases z_303)).trans f_291
  have f_310 : G_302 q_69 = some (75, .inl (cA 0, 38700, .inl (fun _ => 0))) := (o_305 _ (fun e => by subst e; rw [f_292] at z_303; cases z_303)).trans f_292
  have f_311 : G_302 q_91 = some (76, .inl (cA 0, 9, .inl (fun _ => 0))) := (o_305 _ (fun e => by subst e; rw [f_293] at z_303; cases z_303)).trans f_293
  have f_312 : G_302 q_115 = some (77, .inl (cA 0, 8, .inl (fun _ => 0))) := (o_305 _ (fun e => by subst e; rw [f_294] at z_303; cases z_303)).trans f_294
  have f_313 : G_302 q_141 = some (78, .inl (cA 0, 128, .inl (fun _ => 0))) := (o_305 _ (fun e => by subst e; rw [f_295] at z_303; cases z_303)).trans f_295
  have f_314 : G_302 q_169 = some (79, .inl (cA 0, 128, .inl (fun _ => 0))) := (o_305 _ (fun e => by subst e; rw [f_296] at z_303; cases z_303)).trans f_296
  have f_315 : G_302 q_199 = some (80, .inl (cA 1, 12, .inr (.inl (fun _ => 0)))) := (o_305 _ (fun e => by subst e; rw [f_297] at z_303; cases z_303)).trans f_297
  have f_316 : G_302 q_231 = some (81, .inl (cA 1, 12, .inr (.inl (fun _ => 0)))) := (o_305 _ (fun e => by subst e; rw [f_298] at z_303; cases z_303)).trans f_298
  have f_317 : G_302 q_265 = some (82, .inl (cA 1, 12, .inr (.inl (fun _ => 0)))) := (o_305 _ (fun e => by subst e; rw [f_299] at z_303; cases z_303)).trans f_299
  have f_318 : G_302 h = some (70, .inr (9, [.int (nI 0), .int (nI 0), .ref q_1, .ref q_15, .ref q_31, .ref q_49, .int (nI 0), .int (nI 0), .ref q_69, .ref q_91, .int (nI 0), .ref q_115, .ref q_141, .ref q_169, .int (nI 0), .ref q_199, .ref q_231, .ref q_265, .null, .int (nI 0), .int (nI 0), .int (nI 0)])) := (o_305 _ (fun e => by subst e; rw [f_287] at z_303; cases z_303)).trans f_287
  have z_319 : G q_301 = none := gex_0 x_300 z_303 (fun z => by have z := z.symm; subst z; rw [f_287] at z_303; cases z_303)
  have x_320 : gex (fun x => x = h) G G_302 := gex_new x_300 z_303 o_305
  refine g_Beq (B' := (B.1 + 1 + 1 + 1 + 1 + 1 + 1 + 1 + 1 + 1 + 1 + 1 + 1 + 1, B.2 + 200 + 200 + 40400 + 400 + 38700 + 9 + 8 + 128 + 128 + 12 + 12 + 12 + 8600)) rfl ?_
  refine g_putF (ty := .array .int) hx hb hts hin_Mo ty_Mo ty_Mo_ok nm_Mo hown hK f_318 rfl 18 (by decide) (hts _ wm772) (fun _ h9 => h9) rfl hin rfl (by decide +kernel) rfl rfl (Nat.le_of_ble_eq_true rfl) d_Mo_init_111 (fun G_321 f_322 o_323 => ?_)
  have f_324 : G_321 h = some (70, .inr (9, [.int (nI 0), .int (nI 0), .ref q_1, .ref q_15, .ref q_31, .ref q_49, .int (nI 0), .int (nI 0), .ref q_69, .ref q_91, .int (nI 0), .ref q_115, .ref q_141, .ref q_169, .int (nI 0), .ref q_199, .ref q_231, .ref q_265, .ref q_301, .int (nI 0), .int (nI 0), .int (nI 0)])) := f_322
  have f_325 : G_321 q_1 = some (71, .inl (cA 0, 200, .inl (fun _ => 0))) := (o_323 _ (gne f_306 f_318 (fun e => by cases e))).trans f_306
  have f_326 : G_321 q_15 = some (72, .inl (cA 0, 200, .inl (fun _ => 0))) := (o_323 _ (gne f_307 f_318 (fun e => by cases e))).trans f_307
  have f_327 : G_321 q_31 = some (73, .inl (cA 0, 40400, .inl (fun _ => 0))) := (o_323 _ (gne f_308 f_318 (fun e => by cases e))).trans f_308
  have f_328 : G_321 q_49 = some (74, .inl (cA 0, 400, .inl (fun _ => 0))) := (o_323 _ (gne f_309 f_318 (fun e => by cases e))).trans f_309
  have f_329 : G_321 q_69 = some (75, .inl (cA 0, 38700, .inl (fun _ => 0))) := (o_323 _ (gne f_310 f_318 (fun e => by cases e))).trans f_310
  have f_330 : G_321 q_91 = some (76, .inl (cA 0, 9, .inl (fun _ => 0))) := (o_323 _ (gne f_311 f_318 (fun e => by cases e))).trans f_311
  have f_331 : G_321 q_115 = some (77, .inl (cA 0, 8, .inl (fun _ => 0))) := (o_323 _ (gne f_312 f_318 (fun e => by cases e))).trans f_312
  have f_332 : G_321 q_141 = some (78, .inl (cA 0, 128, .inl (fun _ => 0))) := (o_323 _ (gne f_313 f_318 (fun e => by cases e))).trans f_313
  have f_333 : G_321 q_169 = some (79, .inl (cA 0, 128, .inl (fun _ => 0))) := (o_323 _ (gne f_314 f_318 (fun e => by cases e))).trans f_314
  have f_334 : G_321 q_199 = some (80, .inl (cA 1, 12, .inr (.inl (fun _ => 0)))) := (o_323 _ (gne f_315 f_318 (fun e => by cases e))).trans f_315
  have f_335 : G_321 q_231 = some (81, .inl (cA 1, 12, .inr (.inl (fun _ => 0)))) := (o_323 _ (gne f_316 f_318 (fun e => by cases e))).trans f_316
  have f_336 : G_321 q_265 = some (82, .inl (cA 1, 12, .inr (.inl (fun _ => 0)))) := (o_323 _ (gne f_317 f_318 (fun e => by cases e))).trans f_317
  have f_337 : G_321 q_301 = some (83, .inl (cA 0, 8600, .inl (fun _ => 0))) := (o_323 _ (gne f_304 f_318 (fun e => by cases e))).trans f_304
  have x_338 : gex (fun x => x = h) G G_321 := gex_put x_320 o_323 (Or.inl rfl)
  have hc2 : G_321 ((fun k => [0, 0, q_1, q_15, q_31, q_49, 0, 0, q_69, q_91, 0, q_115, q_141, q_169, 0, q_199, q_231, q_265, q_301].getD k 0) 2) = some (71, .inl (cA 0, 200, .inl (fun _ => 0))) := f_325
  have hc3 : G_321 ((fun k => [0, 0, q_1, q_15, q_31, q_49, 0, 0, q_69, q_91, 0, q_115, q_141, q_169, 0, q_199, q_231, q_265, q_301].getD k 0) 3) = some (72, .inl (cA 0, 200, .inl (fun _ => 0))) := f_326
  have hc4 : G_321 ((fun k => [0, 0, q_1, q_15, q_31, q_49, 0, 0, q_69, q_91, 0, q_115, q_141, q_169, 0, q_199, q_231, q_265, q_301].getD k 0) 4) = some (73, .inl (cA 0, 40400, .inl (fun _ => 0))) := f_327
  have hc5 : G_321 ((fun k => [0, 0, q_1, q_15, q_31, q_49, 0, 0, q_69, q_91, 0, q_115, q_141, q_169, 0, q_199, q_231, q_265, q_301].getD k 0) 5) = some (74, .inl (cA 0, 400, .inl (fun _ => 0))) := f_328
  have hc8 : G_321 ((fun k => [0, 0, q_1, q_15, q_31, q_49, 0, 0, q_69, q_91, 0, q_115, q_141, q_169, 0, q_199, q_231, q_265, q_301].getD k 0) 8) = some (75, .inl (cA 0, 38700, .inl (fun _ => 0))) := f_329
  have hc9 : G_321 ((fun k => [0, 0, q_1, q_15, q_31, q_49, 0, 0, q_69, q_91, 0, q_115, q_141, q_169, 0, q_199, q_231, q_265, q_301].getD k 0) 9) = some (76, .inl (cA 0, 9, .inl (fun _ => 0))) := f_330
  have hc11 : G_321 ((fun k => [0, 0, q_1, q_15, q_31, q_49, 0, 0, q_69, q_91, 0, q_115, q_141, q_169, 0, q_199, q_231, q_265, q_301].getD k 0) 11) = some (77, .inl (cA 0, 8, .inl (fun _ => 0))) := f_331
  have hc12 : G_321 ((fun k => [0, 0, q_1, q_15, q_31, q_49, 0, 0, q_69, q_91, 0, q_115, q_141, q_169, 0, q_199, q_231, q_265, q_301].getD k 0) 12) = some (78, .inl (cA 0, 128, .inl (fun _ => 0))) := f_332
  have hc13 : G_321 ((fun k => [0, 0, q_1, q_15, q_31, q_49, 0, 0, q_69, q_91, 0, q_115, q_141, q_169, 0, q_199, q_231, q_265, q_301].getD k 0) 13) = some (79, .inl (cA 0, 128, .inl (fun _ => 0))) := f_333
  have hc15 : G_321 ((fun k => [0, 0, q_1, q_15, q_31, q_49, 0, 0, q_69, q_91, 0, q_115, q_141, q_169, 0, q_199, q_231, q_265, q_301].getD k 0) 15) = some (80, .inl (cA 1, 12, .inr (.inl (fun _ => 0)))) := f_334
  have hc16 : G_321 ((fun k => [0, 0, q_1, q_15, q_31, q_49, 0, 0, q_69, q_91, 0, q_115, q_141, q_169, 0, q_199, q_231, q_265, q_301].getD k 0) 16) = some (81, .inl (cA 1, 12, .inr (.inl (fun _ => 0)))) := f_335
  have hc17 : G_321 ((fun k => [0, 0, q_1, q_15, q_31, q_49, 0, 0, q_69, q_91, 0, q_115, q_141, q_169, 0, q_199, q_231, q_265, q_301].getD k 0) 17) = some (82, .inl (cA 1, 12, .inr (.inl (fun _ => 0)))) := f_336
  have hc18 : G_321 ((fun k => [0, 0, q_1, q_15, q_31, q_49, 0, 0, q_69, q_91, 0, q_115, q_141, q_169, 0, q_199, q_231, q_265, q_301].getD k 0) 18) = some (83, .inl (cA 0, 8600, .inl (fun _ => 0))) := f_337
  have hmr9 : MR cA (fun k => [0, 0, q_1, q_15, q_31, q_49, 0, 0, q_69, q_91, 0, q_115, q_141, q_169, 0, q_199, q_231, q_265, q_301].getD k 0) (fun _ => 0) G_321 := ⟨_, _, hc8, hc9, fun r9 h9 => ⟨0, rfl, Nat.zero_le _, isD_0⟩⟩
  have hmv9 : MV cA (fun k => [0, 0, q_1, q_15, q_31, q_49, 0, 0, q_69, q_91, 0, q_115, q_141, q_169, 0, q_199, q_231, q_265, q_301].getD k 0) st0 G_321 := ⟨_, _, _, _, hc2, hc3, hc4, hc5, fun i9 h9 => absurd h9 (Nat.not_lt_zero i9)⟩
  have hmo9 : MO cA (fun k => [0, 0, q_1, q_15, q_31, q_49, 0, 0, q_69, q_91, 0, q_115, q_141, q_169, 0, q_199, q_231, q_265, q_301].getD k 0) st0 G_321 := ⟨_, _, _, hc11, hc12, hc13, fun i9 h9 => absurd h9 (Nat.not_lt_zero i9)⟩
  have hme9 : ME cA (fun k => [0, 0, q_1, q_15, q_31, q_49, 0, 0, q_69, q_91, 0, q_115, q_141, q_169, 0, q_199, q_231, q_265, q_301].getD k 0) st0 G_321 := ⟨_, _, _, hc15, hc16, hc17, fun i9 h9 => absurd h9 (Nat.not_lt_zero i9)⟩
  have hV9 : MW cA h (fun k => [0, 0, q_1, q_15, q_31, q_49, 0, 0, q_69, q_91, 0, q_115, q_141, q_169, 0, q_199, q_231, q_265, q_301].getD k 0) st0 0 none none none G_321 := ⟨nI 0, nI 0, nI 0, nI 0, nI 0, _, _, f_324, hmr9, hc18, sn_, sn_, sn_, hmv9, hmo9, hme9⟩
  exact hret 114 _ _ _ d_Mo_init_114 (show B.1 + 1 + 1 + 1 + 1 + 1 + 1 + 1 + 1 + 1 + 1 + 1 + 1 + 1 ≤ MC by omega) (show B.2 + 200 + 200 + 40400 + 400 + 38700 + 9 + 8 + 128 + 128 + 12 + 12 + 12 + 8600 ≤ MS by omega) ⟨_, hV9, x_338, rfl⟩
