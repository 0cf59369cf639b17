set_option maxHeartbeats 4000000 in
set_option maxRecDepth 100000 in
theorem c_Mo_at (l : Launch) (D : va_G) (cA : Nat → ClassId) (lo MC MS : Nat) (G : gT) (B : Nat × Nat) (hm : Nat) (A : Nat → Nat) (S : St) (th : Nat) (qm qo qk : Option Rat) (hV : MW cA hm A S th qm qo qk G) (hW : WF S) (x : Int) (hx1 : -2147483648 ≤ x) (hx2 : x < 2147483648) (y : Int) (hy1 : -2147483648 ≤ y) (hy2 : y < 2147483648) (hB1 : B.1 ≤ MC) (hB2 : B.2 ≤ MS) : gMet l y_Mo_at w_Mo_at 5 131 D clS (gtys cA) lo MC MS [.ref hm, .int (iI x), .int (iI y)] G B (gQi D clS lo (fun r9 u => u.2 = B ∧ ((sp_at S (iI x) (iI y)).1 = 0 → r9 = iI (sp_at S (iI x) (iI y)).2.1) ∧ MW cA hm A (sp_at S (iI x) (iI y)).2.2 (sp_at S (iI x) (iI y)).1 none none none u.1 ∧ gfr mT G u.1)) := by
  refine g_meti (cc := prog_11_method_42_code) (nL := 7) (L := [(0, .ref hm), (1, .int (iI x)), (2, .int (iI y))]) (by decide +kernel) rfl (Nat.le_of_ble_eq_true rfl) rfl ?_
  intro p e R s m args below meth c Q hF hRc hRs hRf hRl hret
  obtain ⟨hx, hb, hr, hml, hts0, hown, hlocks, hin, hK, hlo, hZ⟩ := hF
  have hts : ∀ w ∈ tbg, w.before args s = true := fun w h => hts0 w (List.mem_cons_of_mem _ h)
  have hn := hW.n
  have hrn := hW.rn
  have hwn := hW.wn
  refine gs (pc' := 1) (fun _ _ _ _ _ hl => lv_aload_n hx hb d_Mo_at_0 rfl (lv_at hl 0 rfl)) ?_
  refine gs (pc' := 2) (fun _ _ _ _ _ hl => lv_aload_n hx hb d_Mo_at_1 rfl (lv_at hl 0 rfl)) ?_
  refine gs (pc' := 3) (fun _ _ _ _ _ hl => lv_iload_n hx hb d_Mo_at_2 rfl (lv_at hl 1 rfl)) ?_
  obtain ⟨sg_1, sh_2, kt_3, kb_4, ks_5, Rr_6, kf_7, v_8, v_9, v_10, v_11, v_12, v_13, v_14⟩ := id hV
  have f_15 : G hm = some (70, .inr (9, [.int (nI th), .int (nI S.n), .ref (A 2), .ref (A 3), .ref (A 4), .ref (A 5), .int sg_1, .int sh_2, .ref (A 8), .ref (A 9), .int (nI S.rn), .ref (A 11), .ref (A 12), .ref (A 13), .int (nI S.wn), .ref (A 15), .ref (A 16), .ref (A 17), .ref (A 18), .int kt_3, .int kb_4, .int ks_5])) := v_8
  have hV_16 : MW cA hm A S th qm qo qk G := ⟨sg_1, sh_2, kt_3, kb_4, ks_5, Rr_6, _, f_15, v_9, v_10, v_11, v_12, v_13, v_14⟩
  refine g_outi hlo (g_runV (As := [.int (iI x)]) (rest := [.ref hm]) ⟨hx, hb, hml, hown, hts⟩ hK hZ hRc hRs (c_Mo_isRow l D cA lo MC MS G B hm A S th qm qo qk hV_16 hW x (by omega) (by omega) hB1 hB2) (fun _ _ => cwV 1 hts (tb_good (tb_cons wm984 (tb_cons wm986 (tb_cons ws45 (tb_cons wm12 k_Mo_isRow))))) rfl rfl rfl (by decide +kernel) ⟨by rw [hRf]; exact Nat.le_of_ble_eq_true rfl, by rw [hRl]; exact Nat.le_of_ble_eq_true rfl⟩) f_15 rfl hB1 hB2 rfl (Nat.le_of_ble_eq_true rfl) d_Mo_at_3) (fun r_20 G_17 B_18 p_19 => ?_)
  obtain ⟨u_21, e_22⟩ := p_19
  cases u_21
  subst e_22
  have bd_23 := b01_le (decide (0 ≤ x ∧ x < S.rn))
  refine gsb (pc1 := 21) (pc2 := 9) (fun _ _ _ _ _ => lv_if_eq (tgt := 21) hx hb d_Mo_at_6 (by decide)) (fun c_24 => ?_) (fun c_24 => ?_)
  · skip
    have nc_24 : (b01 (decide (0 ≤ x ∧ x < S.rn))) = 0 := (n0_eq (a := (b01 (decide (0 ≤ x ∧ x < S.rn)))) (by omega)).1 c_24
    have hb_x : ¬ (0 ≤ x ∧ x < S.rn) := b01_0 nc_24
    refine gs (pc' := 22) (fun _ _ _ _ _ hl => lv_iconst (v := nI 1) hx hb d_Mo_at_21 (by decide)) ?_
    obtain ⟨sg_25, sh_26, kt_27, kb_28, ks_29, Rr_30, kf_31, v_32, v_33, v_34, v_35, v_36, v_37, v_38⟩ := id hV_16
    have f_39 : G hm = some (70, .inr (9, [.int (nI th), .int (nI S.n), .ref (A 2), .ref (A 3), .ref (A 4), .ref (A 5), .int sg_25, .int sh_26, .ref (A 8), .ref (A 9), .int (nI S.rn), .ref (A 11), .ref (A 12), .ref (A 13), .int (nI S.wn), .ref (A 15), .ref (A 16), .ref (A 17), .ref (A 18), .int kt_27, .int kb_28, .int ks_29])) := v_32
    refine g_put (ty := .int) hx hb hts hin_Mo ty_Mo ty_Mo_ok nm_Mo hown hK f_39 rfl 0 (by decide) (hts _ wm754) (fun _ h9 => h9) rfl (by decide +kernel) rfl rfl (Nat.le_of_ble_eq_true rfl) d_Mo_at_22 (fun G_40 f_41 o_42 => ?_)
    have f_43 : G_40 hm = some (70, .inr (9, [.int (nI 1), .int (nI S.n), .ref (A 2), .ref (A 3), .ref (A 4), .ref (A 5), .int sg_25, .int sh_26, .ref (A 8), .ref (A 9), .int (nI S.rn), .ref (A 11), .ref (A 12), .ref (A 13), .int (nI S.wn), .ref (A 15), .ref (A 16), .ref (A 17), .ref (A 18), .int kt_27, .int kb_28, .int ks_29])) := f_41
    have f_44 : G_40 (A 18) = some (83, .inl (cA 0, 8600, .inl kf_31)) := (o_42 _ (gne v_34 f_39 (fun e => by cases e))).trans v_34
    have gf_45 : gfr mT G G_40 := gfr_put gfr_rf f_39 (show mT 70 by decide) o_42
    have gf_46 : gfr (fun x => x = 70) _ G_40 := gfr_put gfr_rf f_39 rfl o_42
    have mr_47 : MR cA A Rr_30 G_40 := MR_fr v_33 gf_46 (show ¬ (75 : Nat) = 70 by decide) (show ¬ (76 : Nat) = 70 by decide)
    have mb_48 : MB cA A S G_40 := MB_fr v_38 gf_46 (fun x h9 => by omega)
    refine gs (pc' := 26) (fun _ _ _ _ _ hl => lv_aload_n hx hb d_Mo_at_25 rfl (lv_at hl 0 rfl)) ?_
    refine g_get hx hb hts hin_Mo hown hK f_43 rfl 0 (by decide) (hts _ wm754) (fun _ h9 => h9) rfl d_Mo_at_26 ?_
    refine gsb (pc1 := 34) (pc2 := 32) (fun _ _ _ _ _ => lv_if_le (tgt := 34) hx hb d_Mo_at_29 (by decide)) (fun c_49 => ?_) (fun c_49 => ?_)
    · skip
      have nc_49 : 1 ≤ 0 := (n0_le (a := 1) (by omega)).1 c_49
      exact absurd nc_49 (by decide)
    · skip
      have nc_49 : 1 > 0 := (n0_le (a := 1) (by omega)).2 c_49
      refine gs (pc' := 33) (fun _ _ _ _ _ hl => lv_iconst (v := nI 0) hx hb d_Mo_at_32 (by decide)) ?_
      have hV_50 : MW cA hm A S 1 none none none G_40 := ⟨sg_25, sh_26, kt_27, kb_28, ks_29, Rr_30, _, f_43, mr_47, f_44, sn_, sn_, sn_, mb_48⟩
      rw [su_at (fun q9 => rn_ hx1 hx2 hb_x q9.1)] at hret
      exact hret 33 _ _ _ _ d_Mo_at_33 hB1 hB2 ⟨rfl, fun h9 => absurd (show (1 : Nat) = 0 from h9) (by decide), hV_50, gf_45⟩
  · skip
    have nc_24 : (b01 (decide (0 ≤ x ∧ x < S.rn))) ≠ 0 := (n0_eq (a := (b01 (decide (0 ≤ x ∧ x < S.rn)))) (by omega)).2 c_24
    have hg_x : 0 ≤ x ∧ x < S.rn := b01_1 nc_24
    have hg1_x := hg_x.1
    have hg2_x := hg_x.2
    obtain ⟨g, hxe_g⟩ : ∃ g : Nat, x = (g : Int) := ⟨x.toNat, by omega⟩
    subst hxe_g
    rw [← nI_iI g] at hret ⊢
    have hi_g : g < S.rn := by omega
    refine gs (pc' := 10) (fun _ _ _ _ _ hl => lv_aload_n hx hb d_Mo_at_9 rfl (lv_at hl 0 rfl)) ?_
    refine gs (pc' := 11) (fun _ _ _ _ _ hl => lv_iload_n hx hb d_Mo_at_10 rfl (lv_at hl 2 rfl)) ?_
    obtain ⟨sg_51, sh_52, kt_53, kb_54, ks_55, Rr_56, kf_57, v_58, v_59, v_60, v_61, v_62, v_63, v_64⟩ := id hV_16
    have f_65 : G hm = some (70, .inr (9, [.int (nI th), .int (nI S.n), .ref (A 2), .ref (A 3), .ref (A 4), .ref (A 5), .int sg_51, .int sh_52, .ref (A 8), .ref (A 9), .int (nI S.rn), .ref (A 11), .ref (A 12), .ref (A 13), .int (nI S.wn), .ref (A 15), .ref (A 16), .ref (A 17), .ref (A 18), .int kt_53, .int kb_54, .int ks_55])) := v_58
    have hV_66 : MW cA hm A S th qm qo qk G := ⟨sg_51, sh_52, kt_53, kb_54, ks_55, Rr_56, _, f_65, v_59, v_60, v_61, v_62, v_63, v_64⟩
    refine g_outi hlo (g_runV (As := [.int (iI y)]) (rest := [.ref hm]) ⟨hx, hb, hml, hown, hts⟩ hK hZ hRc hRs (c_Mo_isValue l D cA lo MC MS G B hm A S th qm qo qk hV_66 hW y (by omega) (by omega) hB1 hB2) (fun _ _ => cwV 1 hts (tb_good (tb_cons wm893 (tb_cons wm895 (tb_cons ws33 (tb_cons wm12 k_Mo_isValue))))) rfl rfl rfl (by decide +kernel) ⟨by rw [hRf]; exact Nat.le_of_ble_eq_true rfl, by rw [hRl]; exact Nat.le_of_ble_eq_true rfl⟩) f_65 rfl hB1 hB2 rfl (Nat.le_of_ble_eq_true rfl) d_Mo_at_11) (fun r_70 G_67 B_68 p_69 => ?_)
    obtain ⟨u_71, e_72⟩ := p_69
    cases u_71
    subst e_72
    have bd_73 := b01_le (decide (0 ≤ y ∧ y < S.n))
    refine gsb (pc1 := 21) (pc2 := 17) (fun _ _ _ _ _ => lv_if_eq (tgt := 21) hx hb d_Mo_at_14 (by decide)) (fun c_74 => ?_) (fun c_74 => ?_)
    · skip
      have nc_74 : (b01 (decide (0 ≤ y ∧ y < S.n))) = 0 := (n0_eq (a := (b01 (decide (0 ≤ y ∧ y < S.n)))) (by omega)).1 c_74
      have hb_y : ¬ (0 ≤ y ∧ y < S.n) := b01_0 nc_74
      refine gs (pc' := 22) (fun _ _ _ _ _ hl => lv_iconst (v := nI 1) hx hb d_Mo_at_21 (by decide)) ?_
      obtain ⟨sg_75, sh_76, kt_77, kb_78, ks_79, Rr_80, kf_81, v_82, v_83, v_84, v_85, v_86, v_87, v_88⟩ := id hV_66
      have f_89 : G hm = some (70, .inr (9, [.int (nI th), .int (nI S.n), .ref (A 2), .ref (A 3), .ref (A 4), .ref (A 5), .int sg_75, .int sh_76, .ref (A 8), .ref (A 9), .int (nI S.rn), .ref (A 11), .ref (A 12), .ref (A 13), .int (nI S.wn), .ref (A 15), .ref (A 16), .ref (A 17), .ref (A 18), .int kt_77, .int kb_78, .int ks_79])) := v_82
      refine g_put (ty := .int) hx hb hts hin_Mo ty_Mo ty_Mo_ok nm_Mo hown hK f_89 rfl 0 (by decide) (hts _ wm754) (fun _ h9 => h9) rfl (by decide +kernel) rfl rfl (Nat.le_of_ble_eq_true rfl) d_Mo_at_22 (fun G_90 f_91 o_92 => ?_)
      have f_93 : G_90 hm = some (70, .inr (9, [.int (nI 1), .int (nI S.n), .ref (A 2), .ref (A 3), .ref (A 4), .ref (A 5), .int sg_75, .int sh_76, .ref (A 8), .ref (A 9), .int (nI S.rn), .ref (A 11), .ref (A 12), .ref (A 13), .int (nI S.wn), .ref (A 15), .ref (A 16), .ref (A 17), .ref (A 18), .int kt_77, .int kb_78, .int ks_79])) := f_91
      have f_94 : G_90 (A 18) = some (83, .inl (cA 0, 8600, .inl kf_81)) := (o_92 _ (gne v_84 f_89 (fun e => by cases e))).trans v_84
      have gf_95 : gfr mT G G_90 := gfr_put gfr_rf f_89 (show mT 70 by decide) o_92
      have gf_96 : gfr (fun x => x = 70) _ G_90 := gfr_put gfr_rf f_89 rfl o_92
      have mr_97 : MR cA A Rr_80 G_90 := MR_fr v_83 gf_96 (show ¬ (75 : Nat) = 70 by decide) (show ¬ (76 : Nat) = 70 by decide)
      have mb_98 : MB cA A S G_90 := MB_fr v_88 gf_96 (fun x h9 => by omega)
      refine gs (pc' := 26) (fun _ _ _ _ _ hl => lv_aload_n hx hb d_Mo_at_25 rfl (lv_at hl 0 rfl)) ?_
      refine g_get hx hb hts hin_Mo hown hK f_93 rfl 0 (by decide) (hts _ wm754) (fun _ h9 => h9) rfl d_Mo_at_26 ?_
      refine gsb (pc1 := 34) (pc2 := 32) (fun _ _ _ _ _ => lv_if_le (tgt := 34) hx hb d_Mo_at_29 (by decide)) (fun c_99 => ?_) (fun c_99 => ?_)
      · skip
        have nc_99 : 1 ≤ 0 := (n0_le (a := 1) (by omega)).1 c_99
        exact absurd nc_99 (by decide)
      · skip
        have nc_99 : 1 > 0 := (n0_le (a := 1) (by omega)).2 c_99
        refine gs (pc' := 33) (fun _ _ _ _ _ hl => lv_iconst (v := nI 0) hx hb d_Mo_at_32 (by decide)) ?_
        have hV_100 : MW cA hm A S 1 none none none G_90 := ⟨sg_75, sh_76, kt_77, kb_78, ks_79, Rr_80, _, f_93, mr_97, f_94, sn_, sn_, sn_, mb_98⟩
        rw [su_at (fun q9 => vn_ hy1 hy2 hb_y q9.2)] at hret
        exact hret 33 _ _ _ _ d_Mo_at_33 hB1 hB2 ⟨rfl, fun h9 => absurd (show (1 : Nat) = 0 from h9) (by decide), hV_100, gf_95⟩
    · skip
      have nc_74 : (b01 (decide (0 ≤ y ∧ y < S.n))) ≠ 0 := (n0_eq (a := (b01 (decide (0 ≤ y ∧ y < S.n)))) (by omega)).2 c_74
      have hg_y : 0 ≤ y ∧ y < S.n := b01_1 nc_74
      have hg1_y := hg_y.1
      have hg2_y := hg_y.2
      obtain ⟨i, hxe_i⟩ : ∃ i : Nat, y = (i : Int) := ⟨y.toNat, by omega⟩
      subst hxe_i
      rw [← nI_iI i] at hret ⊢
      have hi_i : i < S.n := by omega
      have rbq_101 : rb (S.v i) 100 := rb_of (hW.v _ hi_i).1
      refine gs (pc' := 18) (fun _ _ _ _ _ hl => lv_iconst (v := nI 0) hx hb d_Mo_at_17 (by decide)) ?_
      refine gs (pc' := 22) (fun _ _ _ _ _ hl => lv_goto (tgt := 22) hx hb d_Mo_at_18 (by decide)) ?_
      obtain ⟨sg_102, sh_103, kt_104, kb_105, ks_106, Rr_107, kf_108, v_109, v_110, v_111, v_112, v_113, v_114, v_115⟩ := id hV_66
      have f_116 : G hm = some (70, .inr (9, [.int (nI th), .int (nI S.n), .ref (A 2), .ref (A 3), .ref (A 4), .ref (A 5), .int sg_102, .int sh_103, .ref (A 8), .ref (A 9), .int (nI S.rn), .ref (A 11), .ref (A 12), .ref (A 13), .int (nI S.wn), .ref (A 15), .ref (A 16), .ref (A 17), .ref (A 18), .int kt_104, .int kb_105, .int ks_106])) := v_109
      refine g_put (ty := .int) hx hb hts hin_Mo ty_Mo ty_Mo_ok nm_Mo hown hK f_116 rfl 0 (by decide) (hts _ wm754) (fun _ h9 => h9) rfl (by decide +kernel) rfl rfl (Nat.le_of_ble_eq_true rfl) d_Mo_at_22 (fun G_117 f_118 o_119 => ?_)
      have f_120 : G_117 hm = some (70, .inr (9, [.int (nI 0), .int (nI S.n), .ref (A 2), .ref (A 3), .ref (A 4), .ref (A 5), .int sg_102, .int sh_103, .ref (A 8), .ref (A 9), .int (nI S.rn), .ref (A 11), .ref (A 12), .ref (A 13), .int (nI S.wn), .ref (A 15), .ref (A 16), .ref (A 17), .ref (A 18), .int kt_104, .int kb_105, .int ks_106])) := f_118
      have f_121 : G_117 (A 18) = some (83, .inl (cA 0, 8600, .inl kf_108)) := (o_119 _ (gne v_111 f_116 (fun e => by cases e))).trans v_111
      have gf_122 : gfr mT G G_117 := gfr_put gfr_rf f_116 (show mT 70 by decide) o_119
      have gf_123 : gfr (fun x => x = 70) _ G_117 := gfr_put gfr_rf f_116 rfl o_119
      have mr_124 : MR cA A Rr_107 G_117 := MR_fr v_110 gf_123 (show ¬ (75 : Nat) = 70 by decide) (show ¬ (76 : Nat) = 70 by decide)
      have mb_125 : MB cA A S G_117 := MB_fr v_115 gf_123 (fun x h9 => by omega)
      refine gs (pc' := 26) (fun _ _ _ _ _ hl => lv_aload_n hx hb d_Mo_at_25 rfl (lv_at hl 0 rfl)) ?_
      refine g_get hx hb hts hin_Mo hown hK f_120 rfl 0 (by decide) (hts _ wm754) (fun _ h9 => h9) rfl d_Mo_at_26 ?_
      refine gsb (pc1 := 34) (pc2 := 32) (fun _ _ _ _ _ => lv_if_le (tgt := 34) hx hb d_Mo_at_29 (by decide)) (fun c_126 => ?_) (fun c_126 => ?_)
      · skip
        have nc_126 : 0 ≤ 0 := (n0_le (a := 0) (by omega)).1 c_126
        refine gs (pc' := 36) (fun _ _ _ _ _ hl => lv_bipush (v := nI 16) hx hb d_Mo_at_34 (by decide)) ?_
        refine gs (pc' := 37) (fun _ _ _ _ _ hl => lv_iload_n hx hb d_Mo_at_36 rfl (lv_at hl 1 rfl)) ?_
        refine gs (pc' := 38) (fun _ _ _ _ _ hl => lv_imul hx hb d_Mo_at_37) ?_
        refine g_eqi (show (nI 16) * (nI g) = nI (16 * g + 0) from (pk_mul _ _).trans (congrArg nI (show 16 * g = 16 * g + 0 by omega))) ?_
        refine gst (pc' := 39) (L' := [(3, .int (nI (16 * g + 0))), (0, .ref hm), (1, .int (nI g)), (2, .int (nI i))]) (fun _ _ _ _ _ hl => lv_istore_n hx hb d_Mo_at_38 rfl hl (by decide) rfl) ?_
        refine gs (pc' := 40) (fun _ _ _ _ _ hl => lv_aload_n hx hb d_Mo_at_39 rfl (lv_at hl 1 rfl)) ?_
        refine g_get hx hb hts hin_Mo hown hK f_120 rfl 11 (by decide) (hts _ wm765) (fun _ h9 => h9) rfl d_Mo_at_40 ?_
        refine gs (pc' := 44) (fun _ _ _ _ _ hl => lv_iload_n hx hb d_Mo_at_43 rfl (lv_at hl 2 rfl)) ?_
        obtain ⟨cor_127, pla_128, hei_129, f_130, f_131, f_132, ho_133⟩ := id mb_125.2.1
        refine g_iald hx hb hK 0 f_130 rfl (show vp_in (nI g) 8 from vp_in_nI (by omega) (by omega)) d_Mo_at_44 ?_
        refine g_eqi (show cor_127 (nI g).toNatClampNeg = cor_127 g from by rw [nI_clamp (by omega)]) ?_
        refine g_eqi (show cor_127 g = nI (S.rc g) from (ho_133 g (by omega)).1) ?_
        have rbq_134 := hW.rc g (by omega)
        refine gst (pc' := 47) (L' := [(4, .int (nI (S.rc g))), (3, .int (nI (16 * g + 0))), (0, .ref hm), (1, .int (nI g)), (2, .int (nI i))]) (fun _ _ _ _ _ hl => lv_istore hx hb d_Mo_at_45 hl (by decide) rfl) ?_
        refine gs (pc' := 49) (fun _ _ _ _ _ hl => lv_iload hx hb d_Mo_at_47 (lv_at hl 0 rfl)) ?_
        refine gsb (pc1 := 75) (pc2 := 52) (fun _ _ _ _ _ => lv_if_le (tgt := 75) hx hb d_Mo_at_49 (by decide)) (fun c_135 => ?_) (fun c_135 => ?_)
        · skip
          have nc_135 : (S.rc g) ≤ 0 := (n0_le (a := (S.rc g)) (by omega)).1 c_135
          have hc0 : S.rc g = 0 := by omega
          refine gs (pc' := 77) (fun _ _ _ _ _ hl => lv_iload hx hb d_Mo_at_75 (lv_at hl 0 rfl)) ?_
          refine gsb (pc1 := 113) (pc2 := 80) (fun _ _ _ _ _ => lv_if_eq (tgt := 113) hx hb d_Mo_at_77 (by decide)) (fun c_136 => ?_) (fun c_136 => ?_)
          · skip
            have nc_136 : (S.rc g) = 0 := (n0_eq (a := (S.rc g)) (by omega)).1 c_136
            refine gs (pc' := 115) (fun _ _ _ _ _ hl => lv_bipush (v := (-5)) hx hb d_Mo_at_113 (by decide)) ?_
            refine g_eqi (show (-5) = iI (-5) from by decide) ?_
            have hV_137 : MW cA hm A S 0 none none none G_117 := ⟨sg_102, sh_103, kt_104, kb_105, ks_106, Rr_107, _, f_120, mr_124, f_121, sn_, sn_, sn_, mb_125⟩
            rw [st_at hrn hn hi_g hi_i, if_pos hc0] at hret
            exact hret 115 _ _ _ _ d_Mo_at_115 hB1 hB2 ⟨rfl, fun _ => rfl, hV_137, gf_122⟩
          · skip
            have nc_136 : (S.rc g) ≠ 0 := (n0_eq (a := (S.rc g)) (by omega)).2 c_136
            exact absurd hc0 (by omega)
        · skip
          have nc_135 : (S.rc g) > 0 := (n0_le (a := (S.rc g)) (by omega)).2 c_135
          have hc0 : ¬ S.rc g = 0 := by omega
          refine gs (pc' := 53) (fun _ _ _ _ _ hl => lv_aload_n hx hb d_Mo_at_52 rfl (lv_at hl 2 rfl)) ?_
          refine g_get hx hb hts hin_Mo hown hK f_120 rfl 3 (by decide) (hts _ wm757) (fun _ h9 => h9) rfl d_Mo_at_53 ?_
          refine gs (pc' := 57) (fun _ _ _ _ _ hl => lv_iload_n hx hb d_Mo_at_56 rfl (lv_at hl 4 rfl)) ?_
          obtain ⟨sgn_138, unt_139, sto_140, szs_141, f_142, f_143, f_144, f_145, hv_146⟩ := id mb_125.1
          refine g_iald hx hb hK 0 f_143 rfl (show vp_in (nI i) 200 from vp_in_nI (by omega) (by omega)) d_Mo_at_57 ?_
          refine g_eqi (show unt_139 (nI i).toNatClampNeg = unt_139 i from by rw [nI_clamp (by omega)]) ?_
          refine g_eqi (show unt_139 i = iI (S.un i) from (hv_146 i (by omega)).2.1) ?_
          have ub_147 := (hW.v i (by omega)).2.1
          have ub_148 := (hW.v i (by omega)).2.2
          refine gs (pc' := 59) (fun _ _ _ _ _ hl => lv_aload_n hx hb d_Mo_at_58 rfl (lv_at hl 2 rfl)) ?_
          refine g_get hx hb hts hin_Mo hown hK f_120 rfl 3 (by decide) (hts _ wm757) (fun _ h9 => h9) rfl d_Mo_at_59 ?_
          refine gs (pc' := 63) (fun _ _ _ _ _ hl => lv_aload_n hx hb d_Mo_at_62 rfl (lv_at hl 2 rfl)) ?_
          refine g_get hx hb hts hin_Mo hown hK f_120 rfl 12 (by decide) (hts _ wm766) (fun _ h9 => h9) rfl d_Mo_at_63 ?_
          refine gs (pc' := 67) (fun _ _ _ _ _ hl => lv_iload_n hx hb d_Mo_at_66 rfl (lv_at hl 1 rfl)) ?_
          refine g_iald hx hb hK 0 f_131 rfl (show vp_in (nI (16 * g + 0)) 128 from vp_in_nI (by omega) (by omega)) d_Mo_at_67 ?_
          refine g_eqi (show pla_128 (nI (16 * g + 0)).toNatClampNeg = pla_128 (16 * g + 0) from by rw [nI_clamp (by omega)]) ?_
          refine g_eqi (show pla_128 (16 * g + 0) = nI (S.rp g 0) from ((ho_133 g (by omega)).2 0 (by omega)).1) ?_
          have rbq_149 := (hW.rp g (by omega) 0 (by omega)).1
          refine g_iald hx hb hK 0 f_143 rfl (show vp_in (nI (S.rp g 0)) 200 from vp_in_nI (by omega) (by omega)) d_Mo_at_68 ?_
          refine g_eqi (show unt_139 (nI (S.rp g 0)).toNatClampNeg = unt_139 (S.rp g 0) from by rw [nI_clamp (by omega)]) ?_
          refine g_eqi (show unt_139 (S.rp g 0) = iI (S.un (S.rp g 0)) from (hv_146 (S.rp g 0) (by omega)).2.1) ?_
          have ub_150 := (hW.v (S.rp g 0) (by omega)).2.1
          have ub_151 := (hW.v (S.rp g 0) (by omega)).2.2
          refine gsb (pc1 := 75) (pc2 := 72) (fun _ _ _ _ _ => lv_icmp_eq (tgt := 75) hx hb d_Mo_at_69 (by decide)) (fun c_152 => ?_) (fun c_152 => ?_)
          · skip
            have nc_152 : (S.un i) = (S.un (S.rp g 0)) := (ii_eq (a := (S.un i)) (b := (S.un (S.rp g 0))) (by omega) (by omega) (by omega) (by omega)).1 (by first | exact c_152 | (have z9 := c_152; simp only [nI_iI] at z9; exact z9))
            have hu9 : ¬ S.un i ≠ S.un (S.rp g 0) := by omega
            refine gs (pc' := 77) (fun _ _ _ _ _ hl => lv_iload hx hb d_Mo_at_75 (lv_at hl 0 rfl)) ?_
            refine gsb (pc1 := 113) (pc2 := 80) (fun _ _ _ _ _ => lv_if_eq (tgt := 113) hx hb d_Mo_at_77 (by decide)) (fun c_153 => ?_) (fun c_153 => ?_)
            · skip
              have nc_153 : (S.rc g) = 0 := (n0_eq (a := (S.rc g)) (by omega)).1 c_153
              exact absurd hc0 (by omega)
            · skip
              have nc_153 : (S.rc g) ≠ 0 := (n0_eq (a := (S.rc g)) (by omega)).2 c_153
              refine gs (pc' := 81) (fun _ _ _ _ _ hl => lv_aload_n hx hb d_Mo_at_80 rfl (lv_at hl 2 rfl)) ?_
              refine gs (pc' := 82) (fun _ _ _ _ _ hl => lv_iload_n hx hb d_Mo_at_81 rfl (lv_at hl 4 rfl)) ?_
              refine gs (pc' := 83) (fun _ _ _ _ _ hl => lv_aload_n hx hb d_Mo_at_82 rfl (lv_at hl 2 rfl)) ?_
              refine g_get hx hb hts hin_Mo hown hK f_120 rfl 12 (by decide) (hts _ wm766) (fun _ h9 => h9) rfl d_Mo_at_83 ?_
              refine gs (pc' := 87) (fun _ _ _ _ _ hl => lv_iload_n hx hb d_Mo_at_86 rfl (lv_at hl 1 rfl)) ?_
              refine g_iald hx hb hK 0 f_131 rfl (show vp_in (nI (16 * g + 0)) 128 from vp_in_nI (by omega) (by omega)) d_Mo_at_87 ?_
              refine g_eqi (show pla_128 (nI (16 * g + 0)).toNatClampNeg = pla_128 (16 * g + 0) from by rw [nI_clamp (by omega)]) ?_
              refine g_eqi (show pla_128 (16 * g + 0) = nI (S.rp g 0) from ((ho_133 g (by omega)).2 0 (by omega)).1) ?_
              have rbq_154 := (hW.rp g (by omega) 0 (by omega)).1
              have hV_155 : MW cA hm A S 0 qm qo qk G_117 := ⟨sg_102, sh_103, kt_104, kb_105, ks_106, Rr_107, _, f_120, mr_124, f_121, v_112, v_113, v_114, mb_125⟩
              refine g_outi hlo (g_runV (As := [.int (nI i), .int (nI (S.rp g 0))]) (rest := []) ⟨hx, hb, hml, hown, hts⟩ hK hZ hRc hRs (c_Mo_compareValues l D cA lo MC MS G_117 B hm A S 0 qm qo qk hV_155 hW i (by omega) (S.rp g 0) (by omega) hB1 hB2) (fun _ _ => cwV 2 hts (tb_good (tb_cons wm949 (tb_cons wm951 (tb_cons ws44 (tb_cons wm12 k_Mo_compareValues))))) rfl rfl rfl (by decide +kernel) ⟨by rw [hRf]; exact Nat.le_of_ble_eq_true rfl, by rw [hRl]; exact Nat.le_of_ble_eq_true rfl⟩) f_120 rfl hB1 hB2 rfl (Nat.le_of_ble_eq_true rfl) d_Mo_at_88) (fun r_159 G_156 B_157 p_158 => ?_)
              obtain ⟨e_160, e_163, hV_161, gf_162⟩ := p_158
              subst e_163
              have e_160b : B = B_157 := e_160.symm
              subst e_160b
              have gf_164 : gfr mT G G_156 := mT_mT gf_122 gf_162
              have bd_165 := rcmp_bd (S.v i) (S.v (S.rp g 0))
              refine gsb (pc1 := 113) (pc2 := 94) (fun _ _ _ _ _ => lv_if_lt (tgt := 113) hx hb d_Mo_at_91 (by decide)) (fun c_166 => ?_) (fun c_166 => ?_)
              · skip
                have nc_166 : (rcmp (S.v i) (S.v (S.rp g 0))) < 0 := (ii_lt (a := (rcmp (S.v i) (S.v (S.rp g 0)))) (b := 0) (by omega) (by omega) (by omega) (by omega)).1 (by first | exact c_166 | (have z9 := c_166; simp only [nI_iI] at z9; exact z9))
                have hlo9 := rcmp_lt.mp nc_166
                refine gs (pc' := 115) (fun _ _ _ _ _ hl => lv_bipush (v := (-5)) hx hb d_Mo_at_113 (by decide)) ?_
                refine g_eqi (show (-5) = iI (-5) from by decide) ?_
                have hne9 : S.v i ≠ S.v (S.rp g 0) := fun e9 => by rw [e9] at hlo9; exact absurd hlo9 Rat.lt_irrefl
                have hV_167 := MW_un hV_161
                rw [st_atS hrn hn hi_g hi_i hc0 hu9 (at_lo (by omega) hlo9), if_pos ⟨rfl, hne9⟩] at hret
                exact hret 115 _ _ _ _ d_Mo_at_115 hB1 hB2 ⟨rfl, fun _ => rfl, hV_167, gf_164⟩
              · skip
                have nc_166 : (rcmp (S.v i) (S.v (S.rp g 0))) ≥ 0 := (ii_lt (a := (rcmp (S.v i) (S.v (S.rp g 0)))) (b := 0) (by omega) (by omega) (by omega) (by omega)).2 (by first | exact c_166 | (have z9 := c_166; simp only [nI_iI] at z9; exact z9))
                have hlo9 : S.v (S.rp g 0) ≤ S.v i := Rat.not_lt.mp fun e9 => absurd (rcmp_lt.mpr e9) (by omega)
                refine gs (pc' := 95) (fun _ _ _ _ _ hl => lv_aload_n hx hb d_Mo_at_94 rfl (lv_at hl 2 rfl)) ?_
                refine gs (pc' := 96) (fun _ _ _ _ _ hl => lv_iload_n hx hb d_Mo_at_95 rfl (lv_at hl 4 rfl)) ?_
                refine gs (pc' := 97) (fun _ _ _ _ _ hl => lv_aload_n hx hb d_Mo_at_96 rfl (lv_at hl 2 rfl)) ?_
                obtain ⟨sg_168, sh_169, kt_170, kb_171, ks_172, Rr_173, kf_174, v_175, v_176, v_177, v_178, v_179, v_180, v_181⟩ := id hV_161
                have f_182 : G_156 hm = some (70, .inr (9, [.int (nI 0), .int (nI S.n), .ref (A 2), .ref (A 3), .ref (A 4), .ref (A 5), .int sg_168, .int sh_169, .ref (A 8), .ref (A 9), .int (nI S.rn), .ref (A 11), .ref (A 12), .ref (A 13), .int (nI S.wn), .ref (A 15), .ref (A 16), .ref (A 17), .ref (A 18), .int kt_170, .int kb_171, .int ks_172])) := v_175
                refine g_get hx hb hts hin_Mo hown hK f_182 rfl 12 (by decide) (hts _ wm766) (fun _ h9 => h9) rfl d_Mo_at_97 ?_
                refine gs (pc' := 101) (fun _ _ _ _ _ hl => lv_iload_n hx hb d_Mo_at_100 rfl (lv_at hl 1 rfl)) ?_
                refine gs (pc' := 103) (fun _ _ _ _ _ hl => lv_iload hx hb d_Mo_at_101 (lv_at hl 0 rfl)) ?_
                refine gs (pc' := 104) (fun _ _ _ _ _ hl => lv_iadd hx hb d_Mo_at_103) ?_
                refine g_eqi (show (nI (16 * g + 0)) + (nI (S.rc g)) = nI (16 * g + S.rc g) from (nI_add _ _).trans (congrArg nI (show (16 * g + 0) + (S.rc g) = 16 * g + S.rc g by omega))) ?_
                refine gs (pc' := 105) (fun _ _ _ _ _ hl => lv_iconst (v := nI 1) hx hb d_Mo_at_104 (by decide)) ?_
                refine gs (pc' := 106) (fun _ _ _ _ _ hl => lv_isub hx hb d_Mo_at_105) ?_
                refine g_eqi (show (nI (16 * g + S.rc g)) - (nI 1) = nI (16 * g + (S.rc g - 1)) from (pk_sub (by omega)).trans (congrArg nI (show (16 * g + S.rc g) - 1 = 16 * g + (S.rc g - 1) by omega))) ?_
                obtain ⟨cor_183, pla_184, hei_185, f_186, f_187, f_188, ho_189⟩ := id v_181.2.1
                refine g_iald hx hb hK 0 f_187 rfl (show vp_in (nI (16 * g + (S.rc g - 1))) 128 from vp_in_nI (by omega) (by omega)) d_Mo_at_106 ?_
                refine g_eqi (show pla_184 (nI (16 * g + (S.rc g - 1))).toNatClampNeg = pla_184 (16 * g + (S.rc g - 1)) from by rw [nI_clamp (by omega)]) ?_
                refine g_eqi (show pla_184 (16 * g + (S.rc g - 1)) = nI (S.rp g (S.rc g - 1)) from ((ho_189 g (by omega)).2 (S.rc g - 1) (by omega)).1) ?_
                have rbq_190 := (hW.rp g (by omega) (S.rc g - 1) (by omega)).1
                have hV_191 : MW cA hm A S 0 none none qk G_156 := ⟨sg_168, sh_169, kt_170, kb_171, ks_172, Rr_173, _, f_182, v_176, v_177, v_178, v_179, v_180, v_181⟩
                refine g_outi hlo (g_runV (As := [.int (nI i), .int (nI (S.rp g (S.rc g - 1)))]) (rest := []) ⟨hx, hb, hml, hown, hts⟩ hK hZ hRc hRs (c_Mo_compareValues l D cA lo MC MS G_156 B hm A S 0 none none qk hV_191 hW i (by omega) (S.rp g (S.rc g - 1)) (by omega) hB1 hB2) (fun _ _ => cwV 2 hts (tb_good (tb_cons wm949 (tb_cons wm951 (tb_cons ws44 (tb_cons wm12 k_Mo_compareValues))))) rfl rfl rfl (by decide +kernel) ⟨by rw [hRf]; exact Nat.le_of_ble_eq_true rfl, by rw [hRl]; exact Nat.le_of_ble_eq_true rfl⟩) f_182 rfl hB1 hB2 rfl (Nat.le_of_ble_eq_true rfl) d_Mo_at_107) (fun r_195 G_192 B_193 p_194 => ?_)
                obtain ⟨e_196, e_199, hV_197, gf_198⟩ := p_194
                subst e_199
                have e_196b : B = B_193 := e_196.symm
                subst e_196b
                have gf_200 : gfr mT G G_192 := mT_mT gf_164 gf_198
                have bd_201 := rcmp_bd (S.v i) (S.v (S.rp g (S.rc g - 1)))
                refine gsb (pc1 := 116) (pc2 := 113) (fun _ _ _ _ _ => lv_if_le (tgt := 116) hx hb d_Mo_at_110 (by decide)) (fun c_202 => ?_) (fun c_202 => ?_)
                · skip
                  have nc_202 : (rcmp (S.v i) (S.v (S.rp g (S.rc g - 1)))) ≤ 0 := (ii_le (a := (rcmp (S.v i) (S.v (S.rp g (S.rc g - 1))))) (b := 0) (by omega) (by omega) (by omega) (by omega)).1 (by first | exact c_202 | (have z9 := c_202; simp only [nI_iI] at z9; exact z9))
                  have hhi9 : S.v i ≤ S.v (S.rp g (S.rc g - 1)) := rcmp_le.mp (by omega)
                  refine gs (pc' := 117) (fun _ _ _ _ _ hl => lv_aload_n hx hb d_Mo_at_116 rfl (lv_at hl 2 rfl)) ?_
                  obtain ⟨sg_203, sh_204, kt_205, kb_206, ks_207, Rr_208, kf_209, v_210, v_211, v_212, v_213, v_214, v_215, v_216⟩ := id hV_197
                  have f_217 : G_192 hm = some (70, .inr (9, [.int (nI 0), .int (nI S.n), .ref (A 2), .ref (A 3), .ref (A 4), .ref (A 5), .int sg_203, .int sh_204, .ref (A 8), .ref (A 9), .int (nI S.rn), .ref (A 11), .ref (A 12), .ref (A 13), .int (nI S.wn), .ref (A 15), .ref (A 16), .ref (A 17), .ref (A 18), .int kt_205, .int kb_206, .int ks_207])) := v_210
                  refine g_get hx hb hts hin_Mo hown hK f_217 rfl 1 (by decide) (hts _ wm755) (fun _ h9 => h9) rfl d_Mo_at_117 ?_
                  refine gs (pc' := 123) (fun _ _ _ _ _ hl => lv_sipush (v := nI 200) hx hb d_Mo_at_120 (by decide)) ?_
                  refine gsb (pc1 := 129) (pc2 := 126) (fun _ _ _ _ _ => lv_icmp_ne (tgt := 129) hx hb d_Mo_at_123 (by decide)) (fun c_218 => ?_) (fun c_218 => ?_)
                  · skip
                    have nc_218 : S.n ≠ 200 := (nn_ne (a := S.n) (b := 200) (by omega) (by omega)).1 c_218
                    refine gs (pc' := 130) (fun _ _ _ _ _ hl => lv_iload_n hx hb d_Mo_at_129 rfl (lv_at hl 1 rfl)) ?_
                    refine gs (pc' := 132) (fun _ _ _ _ _ hl => lv_iload hx hb d_Mo_at_130 (lv_at hl 0 rfl)) ?_
                    refine gs (pc' := 133) (fun _ _ _ _ _ hl => lv_iadd hx hb d_Mo_at_132) ?_
                    refine g_eqi (show (nI (16 * g + 0)) + (nI (S.rc g)) = nI (16 * g + S.rc g) from (nI_add _ _).trans (congrArg nI (show (16 * g + 0) + (S.rc g) = 16 * g + S.rc g by omega))) ?_
                    refine gs (pc' := 134) (fun _ _ _ _ _ hl => lv_iconst (v := nI 1) hx hb d_Mo_at_133 (by decide)) ?_
                    refine gs (pc' := 135) (fun _ _ _ _ _ hl => lv_isub hx hb d_Mo_at_134) ?_
                    refine g_eqi (show (nI (16 * g + S.rc g)) - (nI 1) = nI (16 * g + (S.rc g - 1)) from (pk_sub (by omega)).trans (congrArg nI (show (16 * g + S.rc g) - 1 = 16 * g + (S.rc g - 1) by omega))) ?_
                    refine gst (pc' := 137) (L' := [(5, .int (nI (16 * g + (S.rc g - 1)))), (4, .int (nI (S.rc g))), (3, .int (nI (16 * g + 0))), (0, .ref hm), (1, .int (nI g)), (2, .int (nI i))]) (fun _ _ _ _ _ hl => lv_istore hx hb d_Mo_at_135 hl (by decide) rfl) ?_
                    have hV_219 : MW cA hm A S 0 none none qk G_192 := ⟨sg_203, sh_204, kt_205, kb_206, ks_207, Rr_208, _, f_217, v_211, v_212, v_213, v_214, v_215, v_216⟩
                    refine gsub [0, 2, 1, 3, 4, 5] rfl ?_
                    have loop : ∀ (kk : Nat) (Gk : gT), kk < S.rc g → (∀ j9, kk < j9 → j9 < S.rc g → S.v i < S.v (S.rp g j9)) → MW cA hm A S 0 none none qk Gk → gfr mT G Gk → gV p l e R s m args below meth c D clS lo 7 Q 137 [(5, .int (nI (16 * g + kk))), (3, .int (nI (16 * g + 0))), (4, .int (nI (S.rc g))), (0, .ref hm), (1, .int (nI g)), (2, .int (nI i))] [] Gk B := by
                      intro kk
                      induction kk with
                      | zero =>
                        intro Gk hkr hab hVk hgk
                        have hb_kk := hW.rp g hi_g (0) hkr
                        have hpk := hb_kk.1
                        have hhk := hb_kk.2.1
                        refine gs (pc' := 138) (fun _ _ _ _ _ hl => lv_aload_n hx hb d_Mo_at_137 rfl (lv_at hl 3 rfl)) ?_
                        refine gs (pc' := 139) (fun _ _ _ _ _ hl => lv_iload_n hx hb d_Mo_at_138 rfl (lv_at hl 5 rfl)) ?_
                        refine gs (pc' := 140) (fun _ _ _ _ _ hl => lv_aload_n hx hb d_Mo_at_139 rfl (lv_at hl 3 rfl)) ?_
                        obtain ⟨sg_220, sh_221, kt_222, kb_223, ks_224, Rr_225, kf_226, v_227, v_228, v_229, v_230, v_231, v_232, v_233⟩ := id hVk
                        have f_234 : Gk hm = some (70, .inr (9, [.int (nI 0), .int (nI S.n), .ref (A 2), .ref (A 3), .ref (A 4), .ref (A 5), .int sg_220, .int sh_221, .ref (A 8), .ref (A 9), .int (nI S.rn), .ref (A 11), .ref (A 12), .ref (A 13), .int (nI S.wn), .ref (A 15), .ref (A 16), .ref (A 17), .ref (A 18), .int kt_222, .int kb_223, .int ks_224])) := v_227
                        refine g_get hx hb hts hin_Mo hown hK f_234 rfl 12 (by decide) (hts _ wm766) (fun _ h9 => h9) rfl d_Mo_at_140 ?_
                        refine gs (pc' := 145) (fun _ _ _ _ _ hl => lv_iload hx hb d_Mo_at_143 (lv_at hl 0 rfl)) ?_
                        obtain ⟨cor_235, pla_236, hei_237, f_238, f_239, f_240, ho_241⟩ := id v_233.2.1
                        refine g_iald hx hb hK 0 f_239 rfl (show vp_in (nI (16 * g + 0)) 128 from vp_in_nI (by omega) (by omega)) d_Mo_at_145 ?_
                        refine g_eqi (show pla_236 (nI (16 * g + 0)).toNatClampNeg = pla_236 (16 * g + 0) from by rw [nI_clamp (by omega)]) ?_
                        refine g_eqi (show pla_236 (16 * g + 0) = nI (S.rp g 0) from ((ho_241 g (by omega)).2 0 (by omega)).1) ?_
                        have rbq_242 := (hW.rp g (by omega) 0 (by omega)).1
                        have hV_243 : MW cA hm A S 0 none none qk Gk := ⟨sg_220, sh_221, kt_222, kb_223, ks_224, Rr_225, _, f_234, v_228, v_229, v_230, v_231, v_232, v_233⟩
                        refine g_outi hlo (g_runV (As := [.int (nI i), .int (nI (S.rp g 0))]) (rest := []) ⟨hx, hb, hml, hown, hts⟩ hK hZ hRc hRs (c_Mo_compareValues l D cA lo MC MS Gk B hm A S 0 none none qk hV_243 hW i (by omega) (S.rp g 0) (by omega) hB1 hB2) (fun _ _ => cwV 2 hts (tb_good (tb_cons wm949 (tb_cons wm951 (tb_cons ws44 (tb_cons wm12 k_Mo_compareValues))))) rfl rfl rfl (by decide +kernel) ⟨by rw [hRf]; exact Nat.le_of_ble_eq_true rfl, by rw [hRl]; exact Nat.le_of_ble_eq_true rfl⟩) f_234 rfl hB1 hB2 rfl (Nat.le_of_ble_eq_true rfl) d_Mo_at_146) (fun r_247 G_244 B_245 p_246 => ?_)
                        obtain ⟨e_248, e_251, hV_249, gf_250⟩ := p_246
                        subst e_251
                        have e_248b : B = B_245 := e_248.symm
                        subst e_248b
                        have gf_252 : gfr mT G G_244 := mT_mT hgk gf_250
                        have bd_253 := rcmp_bd (S.v i) (S.v (S.rp g 0))
                        refine gsb (pc1 := 158) (pc2 := 152) (fun _ _ _ _ _ => lv_if_ge (tgt := 158) hx hb d_Mo_at_149 (by decide)) (fun c_254 => ?_) (fun c_254 => ?_)
                        · skip
                          have nc_254 : (rcmp (S.v i) (S.v (S.rp g 0))) ≥ 0 := (ii_ge (a := (rcmp (S.v i) (S.v (S.rp g 0)))) (b := 0) (by omega) (by omega) (by omega) (by omega)).1 (by first | exact c_254 | (have z9 := c_254; simp only [nI_iI] at z9; exact z9))
                          have hge9 : S.v (S.rp g 0) ≤ S.v i := Rat.not_lt.mp fun e9 => absurd (rcmp_lt.mpr e9) (by omega)
                          refine gs (pc' := 159) (fun _ _ _ _ _ hl => lv_aload_n hx hb d_Mo_at_158 rfl (lv_at hl 3 rfl)) ?_
                          refine gs (pc' := 160) (fun _ _ _ _ _ hl => lv_iload_n hx hb d_Mo_at_159 rfl (lv_at hl 5 rfl)) ?_
                          refine gs (pc' := 161) (fun _ _ _ _ _ hl => lv_aload_n hx hb d_Mo_at_160 rfl (lv_at hl 3 rfl)) ?_
                          obtain ⟨sg_255, sh_256, kt_257, kb_258, ks_259, Rr_260, kf_261, v_262, v_263, v_264, v_265, v_266, v_267, v_268⟩ := id hV_249
                          have f_269 : G_244 hm = some (70, .inr (9, [.int (nI 0), .int (nI S.n), .ref (A 2), .ref (A 3), .ref (A 4), .ref (A 5), .int sg_255, .int sh_256, .ref (A 8), .ref (A 9), .int (nI S.rn), .ref (A 11), .ref (A 12), .ref (A 13), .int (nI S.wn), .ref (A 15), .ref (A 16), .ref (A 17), .ref (A 18), .int kt_257, .int kb_258, .int ks_259])) := v_262
                          refine g_get hx hb hts hin_Mo hown hK f_269 rfl 12 (by decide) (hts _ wm766) (fun _ h9 => h9) rfl d_Mo_at_161 ?_
                          refine gs (pc' := 166) (fun _ _ _ _ _ hl => lv_iload hx hb d_Mo_at_164 (lv_at hl 0 rfl)) ?_
                          obtain ⟨cor_270, pla_271, hei_272, f_273, f_274, f_275, ho_276⟩ := id v_268.2.1
                          refine g_iald hx hb hK 0 f_274 rfl (show vp_in (nI (16 * g + 0)) 128 from vp_in_nI (by omega) (by omega)) d_Mo_at_166 ?_
                          refine g_eqi (show pla_271 (nI (16 * g + 0)).toNatClampNeg = pla_271 (16 * g + 0) from by rw [nI_clamp (by omega)]) ?_
                          refine g_eqi (show pla_271 (16 * g + 0) = nI (S.rp g 0) from ((ho_276 g (by omega)).2 0 (by omega)).1) ?_
                          have rbq_277 := (hW.rp g (by omega) 0 (by omega)).1
                          have hV_278 : MW cA hm A S 0 none none qk G_244 := ⟨sg_255, sh_256, kt_257, kb_258, ks_259, Rr_260, _, f_269, v_263, v_264, v_265, v_266, v_267, v_268⟩
                          refine g_outi hlo (g_runV (As := [.int (nI i), .int (nI (S.rp g 0))]) (rest := []) ⟨hx, hb, hml, hown, hts⟩ hK hZ hRc hRs (c_Mo_compareValues l D cA lo MC MS G_244 B hm A S 0 none none qk hV_278 hW i (by omega) (S.rp g 0) (by omega) hB1 hB2) (fun _ _ => cwV 2 hts (tb_good (tb_cons wm949 (tb_cons wm951 (tb_cons ws44 (tb_cons wm12 k_Mo_compareValues))))) rfl rfl rfl (by decide +kernel) ⟨by rw [hRf]; exact Nat.le_of_ble_eq_true rfl, by rw [hRl]; exact Nat.le_of_ble_eq_true rfl⟩) f_269 rfl hB1 hB2 rfl (Nat.le_of_ble_eq_true rfl) d_Mo_at_167) (fun r_282 G_279 B_280 p_281 => ?_)
                          obtain ⟨e_283, e_286, hV_284, gf_285⟩ := p_281
                          subst e_286
                          have e_283b : B = B_280 := e_283.symm
                          subst e_283b
                          have gf_287 : gfr mT G G_279 := mT_mT gf_252 gf_285
                          have bd_288 := rcmp_bd (S.v i) (S.v (S.rp g 0))
                          refine gsb (pc1 := 201) (pc2 := 173) (fun _ _ _ _ _ => lv_if_ne (tgt := 201) hx hb d_Mo_at_170 (by decide)) (fun c_289 => ?_) (fun c_289 => ?_)
                          · skip
                            have nc_289 : (rcmp (S.v i) (S.v (S.rp g 0))) ≠ 0 := (ii_ne (a := (rcmp (S.v i) (S.v (S.rp g 0)))) (b := 0) (by omega) (by omega) (by omega) (by omega)).1 (by first | exact c_289 | (have z9 := c_289; simp only [nI_iI] at z9; exact z9))
                            have hne9 : S.v i ≠ S.v (S.rp g 0) := fun e9 => absurd (rcmp_0.mpr e9) (by omega)
                            have hgt9 : S.v (S.rp g 0) < S.v i := Rat.not_le.mp fun e9 => hne9 (Rat.le_antisymm e9 hge9)
                            have hk1 : 0 + 1 < S.rc g := by
                              rcases Nat.lt_or_ge (0 + 1) (S.rc g) with z9 | z9
                              · exact z9
                              · have e9 : 0 = S.rc g - 1 := by omega
                                rw [← e9] at hhi9
                                exact absurd (Rat.le_antisymm hhi9 hge9) hne9
                            have hlt9 := hab (0 + 1) (by omega) hk1
                            have hb_k2 := hW.rp g hi_g (0 + 1) hk1
                            have hpk2 := hb_k2.1
                            have hhk2 := hb_k2.2.1
                            have hnz9 := df_nz (rt_tr hgt9 hlt9)
                            have hb_k0 := hW.rp g hi_g 0 (by omega)
                            have hhk0 := hb_k0.2.1
                            have rbq_290 : rb (S.v (S.rp g (0 + 1))) 100 := rb_of (hW.v _ hpk2).1
                            have rbq_291 : rb (S.v (S.rh g (0 + 1))) 100 := rb_of (hW.v _ hhk2).1
                            have rbq_292 : rb (S.v (S.rp g 0)) 100 := rb_of (hW.v _ hpk).1
                            have rbq_293 : rb (S.v (S.rh g 0)) 100 := rb_of (hW.v _ hhk).1
                            refine gs (pc' := 202) (fun _ _ _ _ _ hl => lv_aload_n hx hb d_Mo_at_201 rfl (lv_at hl 3 rfl)) ?_
                            obtain ⟨sg_294, sh_295, kt_296, kb_297, ks_298, Rr_299, kf_300, v_301, v_302, v_303, v_304, v_305, v_306, v_307⟩ := id hV_284
                            have f_308 : G_279 hm = some (70, .inr (9, [.int (nI 0), .int (nI S.n), .ref (A 2), .ref (A 3), .ref (A 4), .ref (A 5), .int sg_294, .int sh_295, .ref (A 8), .ref (A 9), .int (nI S.rn), .ref (A 11), .ref (A 12), .ref (A 13), .int (nI S.wn), .ref (A 15), .ref (A 16), .ref (A 17), .ref (A 18), .int kt_296, .int kb_297, .int ks_298])) := v_301
                            refine g_get hx hb hts hin_Mo hown hK f_308 rfl 3 (by decide) (hts _ wm757) (fun _ h9 => h9) rfl d_Mo_at_202 ?_
                            refine gs (pc' := 206) (fun _ _ _ _ _ hl => lv_aload_n hx hb d_Mo_at_205 rfl (lv_at hl 3 rfl)) ?_
                            refine g_get hx hb hts hin_Mo hown hK f_308 rfl 13 (by decide) (hts _ wm767) (fun _ h9 => h9) rfl d_Mo_at_206 ?_
                            refine gs (pc' := 210) (fun _ _ _ _ _ hl => lv_iload_n hx hb d_Mo_at_209 rfl (lv_at hl 1 rfl)) ?_
                            obtain ⟨cor_309, pla_310, hei_311, f_312, f_313, f_314, ho_315⟩ := id v_307.2.1
                            refine g_iald hx hb hK 0 f_314 rfl (show vp_in (nI (16 * g + 0)) 128 from vp_in_nI (by omega) (by omega)) d_Mo_at_210 ?_
                            refine g_eqi (show hei_311 (nI (16 * g + 0)).toNatClampNeg = hei_311 (16 * g + 0) from by rw [nI_clamp (by omega)]) ?_
                            refine g_eqi (show hei_311 (16 * g + 0) = nI (S.rh g 0) from ((ho_315 g (by omega)).2 0 (by omega)).2) ?_
                            have rbq_316 := (hW.rp g (by omega) 0 (by omega)).2.1
                            obtain ⟨sgn_317, unt_318, sto_319, szs_320, f_321, f_322, f_323, f_324, hv_325⟩ := id v_307.1
                            refine g_iald hx hb hK 0 f_322 rfl (show vp_in (nI (S.rh g 0)) 200 from vp_in_nI (by omega) (by omega)) d_Mo_at_211 ?_
                            refine g_eqi (show unt_318 (nI (S.rh g 0)).toNatClampNeg = unt_318 (S.rh g 0) from by rw [nI_clamp (by omega)]) ?_
                            refine g_eqi (show unt_318 (S.rh g 0) = iI (S.un (S.rh g 0)) from (hv_325 (S.rh g 0) (by omega)).2.1) ?_
                            have ub_326 := (hW.v (S.rh g 0) (by omega)).2.1
                            have ub_327 := (hW.v (S.rh g 0) (by omega)).2.2
                            refine gst (pc' := 214) (L' := [(6, .int (iI (S.un (S.rh g 0)))), (5, .int (nI (16 * g + 0))), (3, .int (nI (16 * g + 0))), (4, .int (nI (S.rc g))), (0, .ref hm), (1, .int (nI g)), (2, .int (nI i))]) (fun _ _ _ _ _ hl => lv_istore hx hb d_Mo_at_212 hl (by decide) rfl) ?_
                            refine gs (pc' := 215) (fun _ _ _ _ _ hl => lv_aload_n hx hb d_Mo_at_214 rfl (lv_at hl 4 rfl)) ?_
                            refine gs (pc' := 216) (fun _ _ _ _ _ hl => lv_aload_n hx hb d_Mo_at_215 rfl (lv_at hl 4 rfl)) ?_
                            refine g_get hx hb hts hin_Mo hown hK f_308 rfl 13 (by decide) (hts _ wm767) (fun _ h9 => h9) rfl d_Mo_at_216 ?_
                            refine gs (pc' := 221) (fun _ _ _ _ _ hl => lv_iload hx hb d_Mo_at_219 (lv_at hl 1 rfl)) ?_
                            refine gs (pc' := 222) (fun _ _ _ _ _ hl => lv_iconst (v := nI 1) hx hb d_Mo_at_221 (by decide)) ?_
                            refine gs (pc' := 223) (fun _ _ _ _ _ hl => lv_iadd hx hb d_Mo_at_222) ?_
                            refine g_eqi (show (nI (16 * g + 0)) + (nI 1) = nI (16 * g + (0 + 1)) from (nI_add _ _).trans (congrArg nI (show (16 * g + 0) + 1 = 16 * g + (0 + 1) by omega))) ?_
                            refine g_iald hx hb hK 0 f_314 rfl (show vp_in (nI (16 * g + (0 + 1))) 128 from vp_in_nI (by omega) (by omega)) d_Mo_at_223 ?_
                            refine g_eqi (show hei_311 (nI (16 * g + (0 + 1))).toNatClampNeg = hei_311 (16 * g + (0 + 1)) from by rw [nI_clamp (by omega)]) ?_
                            refine g_eqi (show hei_311 (16 * g + (0 + 1)) = nI (S.rh g (0 + 1)) from ((ho_315 g (by omega)).2 (0 + 1) (by omega)).2) ?_
                            have rbq_328 := (hW.rp g (by omega) (0 + 1) (by omega)).2.1
                            have hV_329 : MW cA hm A S 0 none none qk G_279 := ⟨sg_294, sh_295, kt_296, kb_297, ks_298, Rr_299, _, f_308, v_302, v_303, v_304, v_305, v_306, v_307⟩
                            refine g_outv hlo (g_runV (As := [.int (nI (S.rh g (0 + 1)))]) (rest := []) ⟨hx, hb, hml, hown, hts⟩ hK hZ hRc hRs (c_Mo_load l D cA lo MC MS G_279 B hm A S 0 none none qk hV_329 hW (S.rh g (0 + 1)) (by omega) hB1 hB2) (fun _ _ => cwV 1 hts (tb_good (tb_cons wm897 (tb_cons wm899 (tb_cons ws34 (tb_cons wm12 k_Mo_load))))) rfl rfl rfl (by decide +kernel) ⟨by rw [hRf]; exact Nat.le_of_ble_eq_true rfl, by rw [hRl]; exact Nat.le_of_ble_eq_true rfl⟩) f_308 rfl hB1 hB2 rfl (Nat.le_of_ble_eq_true rfl) d_Mo_at_224) (fun G_330 B_331 p_332 => ?_)
                            obtain ⟨e_333, hV_334, gf_335⟩ := p_332
                            have e_333b : B = B_331 := e_333.symm
                            subst e_333b
                            have gf_336 : gfr mT G G_330 := mT_mT gf_287 gf_335
                            refine gs (pc' := 228) (fun _ _ _ _ _ hl => lv_aload_n hx hb d_Mo_at_227 rfl (lv_at hl 4 rfl)) ?_
                            refine gs (pc' := 229) (fun _ _ _ _ _ hl => lv_aload_n hx hb d_Mo_at_228 rfl (lv_at hl 4 rfl)) ?_
                            obtain ⟨sg_337, sh_338, kt_339, kb_340, ks_341, Rr_342, kf_343, v_344, v_345, v_346, v_347, v_348, v_349, v_350⟩ := id hV_334
                            have f_351 : G_330 hm = some (70, .inr (9, [.int (nI 0), .int (nI S.n), .ref (A 2), .ref (A 3), .ref (A 4), .ref (A 5), .int sg_337, .int sh_338, .ref (A 8), .ref (A 9), .int (nI S.rn), .ref (A 11), .ref (A 12), .ref (A 13), .int (nI S.wn), .ref (A 15), .ref (A 16), .ref (A 17), .ref (A 18), .int kt_339, .int kb_340, .int ks_341])) := v_344
                            refine g_get hx hb hts hin_Mo hown hK f_351 rfl 13 (by decide) (hts _ wm767) (fun _ h9 => h9) rfl d_Mo_at_229 ?_
                            refine gs (pc' := 234) (fun _ _ _ _ _ hl => lv_iload hx hb d_Mo_at_232 (lv_at hl 1 rfl)) ?_
                            obtain ⟨cor_352, pla_353, hei_354, f_355, f_356, f_357, ho_358⟩ := id v_350.2.1
                            refine g_iald hx hb hK 0 f_357 rfl (show vp_in (nI (16 * g + 0)) 128 from vp_in_nI (by omega) (by omega)) d_Mo_at_234 ?_
                            refine g_eqi (show hei_354 (nI (16 * g + 0)).toNatClampNeg = hei_354 (16 * g + 0) from by rw [nI_clamp (by omega)]) ?_
                            refine g_eqi (show hei_354 (16 * g + 0) = nI (S.rh g 0) from ((ho_358 g (by omega)).2 0 (by omega)).2) ?_
                            have rbq_359 := (hW.rp g (by omega) 0 (by omega)).2.1
                            have hV_360 : MW cA hm A S 0 (some (S.v (S.rh g (0 + 1)))) none qk G_330 := ⟨sg_337, sh_338, kt_339, kb_340, ks_341, Rr_342, _, f_351, v_345, v_346, v_347, v_348, v_349, v_350⟩
                            refine g_outv hlo (g_runV (As := [.int (nI (S.rh g 0))]) (rest := []) ⟨hx, hb, hml, hown, hts⟩ hK hZ hRc hRs (c_Mo_loadOther l D cA lo MC MS G_330 B hm A S 0 (some (S.v (S.rh g (0 + 1)))) none qk hV_360 hW (S.rh g 0) (by omega) hB1 hB2) (fun _ _ => cwV 1 hts (tb_good (tb_cons wm905 (tb_cons wm907 (tb_cons ws36 (tb_cons wm12 k_Mo_loadOther))))) rfl rfl rfl (by decide +kernel) ⟨by rw [hRf]; exact Nat.le_of_ble_eq_true rfl, by rw [hRl]; exact Nat.le_of_ble_eq_true rfl⟩) f_351 rfl hB1 hB2 rfl (Nat.le_of_ble_eq_true rfl) d_Mo_at_235) (fun G_361 B_362 p_363 => ?_)
                            obtain ⟨e_364, hV_365, gf_366⟩ := p_363
                            have e_364b : B = B_362 := e_364.symm
                            subst e_364b
                            have gf_367 : gfr mT G G_361 := mT_mT gf_336 gf_366
                            refine gs (pc' := 239) (fun _ _ _ _ _ hl => lv_aload_n hx hb d_Mo_at_238 rfl (lv_at hl 4 rfl)) ?_
                            refine gs (pc' := 240) (fun _ _ _ _ _ hl => lv_iconst (v := (-1)) hx hb d_Mo_at_239 (by decide)) ?_
                            refine g_eqi (show (-1) = iI (-1) from by decide) ?_
                            have rbq_368 : rb ((S.v (S.rh g (0 + 1))) - (S.v (S.rh g 0))) (100 + 100 + 1) := rb_sub (j := 100) (k := 100) rbq_291 rbq_293
                            obtain ⟨sg_369, sh_370, kt_371, kb_372, ks_373, Rr_374, kf_375, v_376, v_377, v_378, v_379, v_380, v_381, v_382⟩ := id hV_365
                            have f_383 : G_361 hm = some (70, .inr (9, [.int (nI 0), .int (nI S.n), .ref (A 2), .ref (A 3), .ref (A 4), .ref (A 5), .int sg_369, .int sh_370, .ref (A 8), .ref (A 9), .int (nI S.rn), .ref (A 11), .ref (A 12), .ref (A 13), .int (nI S.wn), .ref (A 15), .ref (A 16), .ref (A 17), .ref (A 18), .int kt_371, .int kb_372, .int ks_373])) := v_376
                            have hV_384 : MW cA hm A S 0 (some (S.v (S.rh g (0 + 1)))) (some (S.v (S.rh g 0))) qk G_361 := ⟨sg_369, sh_370, kt_371, kb_372, ks_373, Rr_374, _, f_383, v_377, v_378, v_379, v_380, v_381, v_382⟩
                            refine g_outv hlo (g_runV (As := [.int (iI (-1))]) (rest := []) ⟨hx, hb, hml, hown, hts⟩ hK hZ hRc hRs (c_Mo_addOther l D cA lo MC MS G_361 B hm A S 0 (some (S.v (S.rh g (0 + 1)))) (some (S.v (S.rh g 0))) qk hV_384 hW (S.v (S.rh g (0 + 1))) (S.v (S.rh g 0)) rfl rfl (100) rbq_291 (100) rbq_293 (by omega) (-1) ((S.v (S.rh g (0 + 1))) - (S.v (S.rh g 0))) (Or.inr ⟨rfl, rfl⟩) hB1 hB2) (fun _ _ => cwV 1 hts (tb_good (tb_cons wm909 (tb_cons wm911 (tb_cons ws37 (tb_cons wm12 k_Mo_addOther))))) rfl rfl rfl (by decide +kernel) ⟨by rw [hRf]; exact Nat.le_of_ble_eq_true rfl, by rw [hRl]; exact Nat.le_of_ble_eq_true rfl⟩) f_383 rfl hB1 hB2 rfl (Nat.le_of_ble_eq_true rfl) d_Mo_at_240) (fun G_385 B_386 p_387 => ?_)
                            obtain ⟨e_388, hV_389, gf_390⟩ := p_387
                            have e_388b : B = B_386 := e_388.symm
                            subst e_388b
                            have gf_391 : gfr mT G G_385 := mT_mT gf_367 gf_390
                            refine gs (pc' := 244) (fun _ _ _ _ _ hl => lv_aload_n hx hb d_Mo_at_243 rfl (lv_at hl 4 rfl)) ?_
                            obtain ⟨sg_392, sh_393, kt_394, kb_395, ks_396, Rr_397, kf_398, v_399, v_400, v_401, v_402, v_403, v_404, v_405⟩ := id hV_389
                            have f_406 : G_385 hm = some (70, .inr (9, [.int (nI 0), .int (nI S.n), .ref (A 2), .ref (A 3), .ref (A 4), .ref (A 5), .int sg_392, .int sh_393, .ref (A 8), .ref (A 9), .int (nI S.rn), .ref (A 11), .ref (A 12), .ref (A 13), .int (nI S.wn), .ref (A 15), .ref (A 16), .ref (A 17), .ref (A 18), .int kt_394, .int kb_395, .int ks_396])) := v_399
                            have hV_407 : MW cA hm A S 0 (some ((S.v (S.rh g (0 + 1))) - (S.v (S.rh g 0)))) none qk G_385 := ⟨sg_392, sh_393, kt_394, kb_395, ks_396, Rr_397, _, f_406, v_400, v_401, v_402, v_403, v_404, v_405⟩
                            refine g_outv hlo (g_runV (As := []) (rest := []) ⟨hx, hb, hml, hown, hts⟩ hK hZ hRc hRs (c_Mo_stash l D cA lo MC MS G_385 B hm A S 0 (some ((S.v (S.rh g (0 + 1))) - (S.v (S.rh g 0)))) none qk hV_407 hW ((S.v (S.rh g (0 + 1))) - (S.v (S.rh g 0))) rfl hB1 hB2) (fun _ _ => cwV 0 hts (tb_good (tb_cons wm992 (tb_cons wm994 (tb_cons ws46 (tb_cons wm12 k_Mo_stash))))) rfl rfl rfl (by decide +kernel) ⟨by rw [hRf]; exact Nat.le_of_ble_eq_true rfl, by rw [hRl]; exact Nat.le_of_ble_eq_true rfl⟩) f_406 rfl hB1 hB2 rfl (Nat.le_of_ble_eq_true rfl) d_Mo_at_244) (fun G_408 B_409 p_410 => ?_)
                            obtain ⟨e_411, hV_412, gf_413⟩ := p_410
                            have e_411b : B = B_409 := e_411.symm
                            subst e_411b
                            have gf_414 : gfr mT G G_408 := mT_mT gf_391 gf_413
                            refine gs (pc' := 248) (fun _ _ _ _ _ hl => lv_aload_n hx hb d_Mo_at_247 rfl (lv_at hl 4 rfl)) ?_
                            refine gs (pc' := 249) (fun _ _ _ _ _ hl => lv_iload_n hx hb d_Mo_at_248 rfl (lv_at hl 6 rfl)) ?_
                            obtain ⟨sg_415, sh_416, kt_417, kb_418, ks_419, Rr_420, kf_421, v_422, v_423, v_424, v_425, v_426, v_427, v_428⟩ := id hV_412
                            have f_429 : G_408 hm = some (70, .inr (9, [.int (nI 0), .int (nI S.n), .ref (A 2), .ref (A 3), .ref (A 4), .ref (A 5), .int sg_415, .int sh_416, .ref (A 8), .ref (A 9), .int (nI S.rn), .ref (A 11), .ref (A 12), .ref (A 13), .int (nI S.wn), .ref (A 15), .ref (A 16), .ref (A 17), .ref (A 18), .int kt_417, .int kb_418, .int ks_419])) := v_422
                            have hV_430 : MW cA hm A S 0 (some ((S.v (S.rh g (0 + 1))) - (S.v (S.rh g 0)))) none (some ((S.v (S.rh g (0 + 1))) - (S.v (S.rh g 0)))) G_408 := ⟨sg_415, sh_416, kt_417, kb_418, ks_419, Rr_420, _, f_429, v_423, v_424, v_425, v_426, v_427, v_428⟩
                            refine g_outv hlo (g_runV (As := [.int (nI i)]) (rest := []) ⟨hx, hb, hml, hown, hts⟩ hK hZ hRc hRs (c_Mo_load l D cA lo MC MS G_408 B hm A S 0 (some ((S.v (S.rh g (0 + 1))) - (S.v (S.rh g 0)))) none (some ((S.v (S.rh g (0 + 1))) - (S.v (S.rh g 0)))) hV_430 hW i (by omega) hB1 hB2) (fun _ _ => cwV 1 hts (tb_good (tb_cons wm897 (tb_cons wm899 (tb_cons ws34 (tb_cons wm12 k_Mo_load))))) rfl rfl rfl (by decide +kernel) ⟨by rw [hRf]; exact Nat.le_of_ble_eq_true rfl, by rw [hRl]; exact Nat.le_of_ble_eq_true rfl⟩) f_429 rfl hB1 hB2 rfl (Nat.le_of_ble_eq_true rfl) d_Mo_at_249) (fun G_431 B_432 p_433 => ?_)
                            obtain ⟨e_434, hV_435, gf_436⟩ := p_433
                            have e_434b : B = B_432 := e_434.symm
                            subst e_434b
                            have gf_437 : gfr mT G G_431 := mT_mT gf_414 gf_436
                            refine gs (pc' := 253) (fun _ _ _ _ _ hl => lv_aload_n hx hb d_Mo_at_252 rfl (lv_at hl 4 rfl)) ?_
                            refine gs (pc' := 254) (fun _ _ _ _ _ hl => lv_aload_n hx hb d_Mo_at_253 rfl (lv_at hl 4 rfl)) ?_
                            obtain ⟨sg_438, sh_439, kt_440, kb_441, ks_442, Rr_443, kf_444, v_445, v_446, v_447, v_448, v_449, v_450, v_451⟩ := id hV_435
                            have f_452 : G_431 hm = some (70, .inr (9, [.int (nI 0), .int (nI S.n), .ref (A 2), .ref (A 3), .ref (A 4), .ref (A 5), .int sg_438, .int sh_439, .ref (A 8), .ref (A 9), .int (nI S.rn), .ref (A 11), .ref (A 12), .ref (A 13), .int (nI S.wn), .ref (A 15), .ref (A 16), .ref (A 17), .ref (A 18), .int kt_440, .int kb_441, .int ks_442])) := v_445
                            refine g_get hx hb hts hin_Mo hown hK f_452 rfl 12 (by decide) (hts _ wm766) (fun _ h9 => h9) rfl d_Mo_at_254 ?_
                            refine gs (pc' := 259) (fun _ _ _ _ _ hl => lv_iload hx hb d_Mo_at_257 (lv_at hl 1 rfl)) ?_
                            obtain ⟨cor_453, pla_454, hei_455, f_456, f_457, f_458, ho_459⟩ := id v_451.2.1
                            refine g_iald hx hb hK 0 f_457 rfl (show vp_in (nI (16 * g + 0)) 128 from vp_in_nI (by omega) (by omega)) d_Mo_at_259 ?_
                            refine g_eqi (show pla_454 (nI (16 * g + 0)).toNatClampNeg = pla_454 (16 * g + 0) from by rw [nI_clamp (by omega)]) ?_
                            refine g_eqi (show pla_454 (16 * g + 0) = nI (S.rp g 0) from ((ho_459 g (by omega)).2 0 (by omega)).1) ?_
                            have rbq_460 := (hW.rp g (by omega) 0 (by omega)).1
                            have hV_461 : MW cA hm A S 0 (some (S.v i)) none (some ((S.v (S.rh g (0 + 1))) - (S.v (S.rh g 0)))) G_431 := ⟨sg_438, sh_439, kt_440, kb_441, ks_442, Rr_443, _, f_452, v_446, v_447, v_448, v_449, v_450, v_451⟩
                            refine g_outv hlo (g_runV (As := [.int (nI (S.rp g 0))]) (rest := []) ⟨hx, hb, hml, hown, hts⟩ hK hZ hRc hRs (c_Mo_loadOther l D cA lo MC MS G_431 B hm A S 0 (some (S.v i)) none (some ((S.v (S.rh g (0 + 1))) - (S.v (S.rh g 0)))) hV_461 hW (S.rp g 0) (by omega) hB1 hB2) (fun _ _ => cwV 1 hts (tb_good (tb_cons wm905 (tb_cons wm907 (tb_cons ws36 (tb_cons wm12 k_Mo_loadOther))))) rfl rfl rfl (by decide +kernel) ⟨by rw [hRf]; exact Nat.le_of_ble_eq_true rfl, by rw [hRl]; exact Nat.le_of_ble_eq_true rfl⟩) f_452 rfl hB1 hB2 rfl (Nat.le_of_ble_eq_true rfl) d_Mo_at_260) (fun G_462 B_463 p_464 => ?_)
                            obtain ⟨e_465, hV_466, gf_467⟩ := p_464
                            have e_465b : B = B_463 := e_465.symm
                            subst e_465b
                            have gf_468 : gfr mT G G_462 := mT_mT gf_437 gf_467
                            refine gs (pc' := 264) (fun _ _ _ _ _ hl => lv_aload_n hx hb d_Mo_at_263 rfl (lv_at hl 4 rfl)) ?_
                            refine gs (pc' := 265) (fun _ _ _ _ _ hl => lv_iconst (v := (-1)) hx hb d_Mo_at_264 (by decide)) ?_
                            refine g_eqi (show (-1) = iI (-1) from by decide) ?_
                            have rbq_469 : rb ((S.v i) - (S.v (S.rp g 0))) (100 + 100 + 1) := rb_sub (j := 100) (k := 100) rbq_101 rbq_292
                            obtain ⟨sg_470, sh_471, kt_472, kb_473, ks_474, Rr_475, kf_476, v_477, v_478, v_479, v_480, v_481, v_482, v_483⟩ := id hV_466
                            have f_484 : G_462 hm = some (70, .inr (9, [.int (nI 0), .int (nI S.n), .ref (A 2), .ref (A 3), .ref (A 4), .ref (A 5), .int sg_470, .int sh_471, .ref (A 8), .ref (A 9), .int (nI S.rn), .ref (A 11), .ref (A 12), .ref (A 13), .int (nI S.wn), .ref (A 15), .ref (A 16), .ref (A 17), .ref (A 18), .int kt_472, .int kb_473, .int ks_474])) := v_477
                            have hV_485 : MW cA hm A S 0 (some (S.v i)) (some (S.v (S.rp g 0))) (some ((S.v (S.rh g (0 + 1))) - (S.v (S.rh g 0)))) G_462 := ⟨sg_470, sh_471, kt_472, kb_473, ks_474, Rr_475, _, f_484, v_478, v_479, v_480, v_481, v_482, v_483⟩
                            refine g_outv hlo (g_runV (As := [.int (iI (-1))]) (rest := []) ⟨hx, hb, hml, hown, hts⟩ hK hZ hRc hRs (c_Mo_addOther l D cA lo MC MS G_462 B hm A S 0 (some (S.v i)) (some (S.v (S.rp g 0))) (some ((S.v (S.rh g (0 + 1))) - (S.v (S.rh g 0)))) hV_485 hW (S.v i) (S.v (S.rp g 0)) rfl rfl (100) rbq_101 (100) rbq_292 (by omega) (-1) ((S.v i) - (S.v (S.rp g 0))) (Or.inr ⟨rfl, rfl⟩) hB1 hB2) (fun _ _ => cwV 1 hts (tb_good (tb_cons wm909 (tb_cons wm911 (tb_cons ws37 (tb_cons wm12 k_Mo_addOther))))) rfl rfl rfl (by decide +kernel) ⟨by rw [hRf]; exact Nat.le_of_ble_eq_true rfl, by rw [hRl]; exact Nat.le_of_ble_eq_true rfl⟩) f_484 rfl hB1 hB2 rfl (Nat.le_of_ble_eq_true rfl) d_Mo_at_265) (fun G_486 B_487 p_488 => ?_)
                            obtain ⟨e_489, hV_490, gf_491⟩ := p_488
                            have e_489b : B = B_487 := e_489.symm
                            subst e_489b
                            have gf_492 : gfr mT G G_486 := mT_mT gf_468 gf_491
                            refine gs (pc' := 269) (fun _ _ _ _ _ hl => lv_aload_n hx hb d_Mo_at_268 rfl (lv_at hl 4 rfl)) ?_
                            obtain ⟨sg_493, sh_494, kt_495, kb_496, ks_497, Rr_498, kf_499, v_500, v_501, v_502, v_503, v_504, v_505, v_506⟩ := id hV_490
                            have f_507 : G_486 hm = some (70, .inr (9, [.int (nI 0), .int (nI S.n), .ref (A 2), .ref (A 3), .ref (A 4), .ref (A 5), .int sg_493, .int sh_494, .ref (A 8), .ref (A 9), .int (nI S.rn), .ref (A 11), .ref (A 12), .ref (A 13), .int (nI S.wn), .ref (A 15), .ref (A 16), .ref (A 17), .ref (A 18), .int kt_495, .int kb_496, .int ks_497])) := v_500
                            have hV_508 : MW cA hm A S 0 (some ((S.v i) - (S.v (S.rp g 0)))) none (some ((S.v (S.rh g (0 + 1))) - (S.v (S.rh g 0)))) G_486 := ⟨sg_493, sh_494, kt_495, kb_496, ks_497, Rr_498, _, f_507, v_501, v_502, v_503, v_504, v_505, v_506⟩
                            refine g_outv hlo (g_runV (As := []) (rest := []) ⟨hx, hb, hml, hown, hts⟩ hK hZ hRc hRs (c_Mo_unstash l D cA lo MC MS G_486 B hm A S 0 (some ((S.v i) - (S.v (S.rp g 0)))) none (some ((S.v (S.rh g (0 + 1))) - (S.v (S.rh g 0)))) hV_508 hW ((S.v (S.rh g (0 + 1))) - (S.v (S.rh g 0))) rfl hB1 hB2) (fun _ _ => cwV 0 hts (tb_good (tb_cons wm996 (tb_cons wm998 (tb_cons ws47 (tb_cons wm12 k_Mo_unstash))))) rfl rfl rfl (by decide +kernel) ⟨by rw [hRf]; exact Nat.le_of_ble_eq_true rfl, by rw [hRl]; exact Nat.le_of_ble_eq_true rfl⟩) f_507 rfl hB1 hB2 rfl (Nat.le_of_ble_eq_true rfl) d_Mo_at_269) (fun G_509 B_510 p_511 => ?_)
                            obtain ⟨e_512, hV_513, gf_514⟩ := p_511
                            have e_512b : B = B_510 := e_512.symm
                            subst e_512b
                            have gf_515 : gfr mT G G_509 := mT_mT gf_492 gf_514
                            refine gs (pc' := 273) (fun _ _ _ _ _ hl => lv_aload_n hx hb d_Mo_at_272 rfl (lv_at hl 4 rfl)) ?_
                            have rbq_516 : rb (((S.v i) - (S.v (S.rp g 0))) * ((S.v (S.rh g (0 + 1))) - (S.v (S.rh g 0)))) (100 + 100 + 1 + 100 + 100 + 1) := rb_mul (j := 100 + 100 + 1) (k := 100 + 100 + 1) rbq_469 rbq_368
                            obtain ⟨sg_517, sh_518, kt_519, kb_520, ks_521, Rr_522, kf_523, v_524, v_525, v_526, v_527, v_528, v_529, v_530⟩ := id hV_513
                            have f_531 : G_509 hm = some (70, .inr (9, [.int (nI 0), .int (nI S.n), .ref (A 2), .ref (A 3), .ref (A 4), .ref (A 5), .int sg_517, .int sh_518, .ref (A 8), .ref (A 9), .int (nI S.rn), .ref (A 11), .ref (A 12), .ref (A 13), .int (nI S.wn), .ref (A 15), .ref (A 16), .ref (A 17), .ref (A 18), .int kt_519, .int kb_520, .int ks_521])) := v_524
                            have hV_532 : MW cA hm A S 0 (some ((S.v i) - (S.v (S.rp g 0)))) (some ((S.v (S.rh g (0 + 1))) - (S.v (S.rh g 0)))) (some ((S.v (S.rh g (0 + 1))) - (S.v (S.rh g 0)))) G_509 := ⟨sg_517, sh_518, kt_519, kb_520, ks_521, Rr_522, _, f_531, v_525, v_526, v_527, v_528, v_529, v_530⟩
                            refine g_outv hlo (g_runV (As := []) (rest := []) ⟨hx, hb, hml, hown, hts⟩ hK hZ hRc hRs (c_Mo_timesOther l D cA lo MC MS G_509 B hm A S 0 (some ((S.v i) - (S.v (S.rp g 0)))) (some ((S.v (S.rh g (0 + 1))) - (S.v (S.rh g 0)))) (some ((S.v (S.rh g (0 + 1))) - (S.v (S.rh g 0)))) hV_532 hW ((S.v i) - (S.v (S.rp g 0))) ((S.v (S.rh g (0 + 1))) - (S.v (S.rh g 0))) rfl rfl (100 + 100 + 1) rbq_469 (100 + 100 + 1) rbq_368 (by omega) hB1 hB2) (fun _ _ => cwV 0 hts (tb_good (tb_cons wm933 (tb_cons wm935 (tb_cons ws42 (tb_cons wm12 k_Mo_timesOther))))) rfl rfl rfl (by decide +kernel) ⟨by rw [hRf]; exact Nat.le_of_ble_eq_true rfl, by rw [hRl]; exact Nat.le_of_ble_eq_true rfl⟩) f_531 rfl hB1 hB2 rfl (Nat.le_of_ble_eq_true rfl) d_Mo_at_273) (fun G_533 B_534 p_535 => ?_)
                            obtain ⟨e_536, hV_537, gf_538⟩ := p_535
                            have e_536b : B = B_534 := e_536.symm
                            subst e_536b
                            have gf_539 : gfr mT G G_533 := mT_mT gf_515 gf_538
                            refine gs (pc' := 277) (fun _ _ _ _ _ hl => lv_aload_n hx hb d_Mo_at_276 rfl (lv_at hl 4 rfl)) ?_
                            obtain ⟨sg_540, sh_541, kt_542, kb_543, ks_544, Rr_545, kf_546, v_547, v_548, v_549, v_550, v_551, v_552, v_553⟩ := id hV_537
                            have f_554 : G_533 hm = some (70, .inr (9, [.int (nI 0), .int (nI S.n), .ref (A 2), .ref (A 3), .ref (A 4), .ref (A 5), .int sg_540, .int sh_541, .ref (A 8), .ref (A 9), .int (nI S.rn), .ref (A 11), .ref (A 12), .ref (A 13), .int (nI S.wn), .ref (A 15), .ref (A 16), .ref (A 17), .ref (A 18), .int kt_542, .int kb_543, .int ks_544])) := v_547
                            have hV_555 : MW cA hm A S 0 (some (((S.v i) - (S.v (S.rp g 0))) * ((S.v (S.rh g (0 + 1))) - (S.v (S.rh g 0))))) none (some ((S.v (S.rh g (0 + 1))) - (S.v (S.rh g 0)))) G_533 := ⟨sg_540, sh_541, kt_542, kb_543, ks_544, Rr_545, _, f_554, v_548, v_549, v_550, v_551, v_552, v_553⟩
                            refine g_outv hlo (g_runV (As := []) (rest := []) ⟨hx, hb, hml, hown, hts⟩ hK hZ hRc hRs (c_Mo_stash l D cA lo MC MS G_533 B hm A S 0 (some (((S.v i) - (S.v (S.rp g 0))) * ((S.v (S.rh g (0 + 1))) - (S.v (S.rh g 0))))) none (some ((S.v (S.rh g (0 + 1))) - (S.v (S.rh g 0)))) hV_555 hW (((S.v i) - (S.v (S.rp g 0))) * ((S.v (S.rh g (0 + 1))) - (S.v (S.rh g 0)))) rfl hB1 hB2) (fun _ _ => cwV 0 hts (tb_good (tb_cons wm992 (tb_cons wm994 (tb_cons ws46 (tb_cons wm12 k_Mo_stash))))) rfl rfl rfl (by decide +kernel) ⟨by rw [hRf]; exact Nat.le_of_ble_eq_true rfl, by rw [hRl]; exact Nat.le_of_ble_eq_true rfl⟩) f_554 rfl hB1 hB2 rfl (Nat.le_of_ble_eq_true rfl) d_Mo_at_277) (fun G_556 B_557 p_558 => ?_)
                            obtain ⟨e_559, hV_560, gf_561⟩ := p_558
                            have e_559b : B = B_557 := e_559.symm
                            subst e_559b
                            have gf_562 : gfr mT G G_556 := mT_mT gf_539 gf_561
                            refine gs (pc' := 281) (fun _ _ _ _ _ hl => lv_aload_n hx hb d_Mo_at_280 rfl (lv_at hl 4 rfl)) ?_
                            refine gs (pc' := 282) (fun _ _ _ _ _ hl => lv_aload_n hx hb d_Mo_at_281 rfl (lv_at hl 4 rfl)) ?_
                            obtain ⟨sg_563, sh_564, kt_565, kb_566, ks_567, Rr_568, kf_569, v_570, v_571, v_572, v_573, v_574, v_575, v_576⟩ := id hV_560
                            have f_577 : G_556 hm = some (70, .inr (9, [.int (nI 0), .int (nI S.n), .ref (A 2), .ref (A 3), .ref (A 4), .ref (A 5), .int sg_563, .int sh_564, .ref (A 8), .ref (A 9), .int (nI S.rn), .ref (A 11), .ref (A 12), .ref (A 13), .int (nI S.wn), .ref (A 15), .ref (A 16), .ref (A 17), .ref (A 18), .int kt_565, .int kb_566, .int ks_567])) := v_570
                            refine g_get hx hb hts hin_Mo hown hK f_577 rfl 12 (by decide) (hts _ wm766) (fun _ h9 => h9) rfl d_Mo_at_282 ?_
                            refine gs (pc' := 287) (fun _ _ _ _ _ hl => lv_iload hx hb d_Mo_at_285 (lv_at hl 1 rfl)) ?_
                            refine gs (pc' := 288) (fun _ _ _ _ _ hl => lv_iconst (v := nI 1) hx hb d_Mo_at_287 (by decide)) ?_
                            refine gs (pc' := 289) (fun _ _ _ _ _ hl => lv_iadd hx hb d_Mo_at_288) ?_
                            refine g_eqi (show (nI (16 * g + 0)) + (nI 1) = nI (16 * g + (0 + 1)) from (nI_add _ _).trans (congrArg nI (show (16 * g + 0) + 1 = 16 * g + (0 + 1) by omega))) ?_
                            obtain ⟨cor_578, pla_579, hei_580, f_581, f_582, f_583, ho_584⟩ := id v_576.2.1
                            refine g_iald hx hb hK 0 f_582 rfl (show vp_in (nI (16 * g + (0 + 1))) 128 from vp_in_nI (by omega) (by omega)) d_Mo_at_289 ?_
                            refine g_eqi (show pla_579 (nI (16 * g + (0 + 1))).toNatClampNeg = pla_579 (16 * g + (0 + 1)) from by rw [nI_clamp (by omega)]) ?_
                            refine g_eqi (show pla_579 (16 * g + (0 + 1)) = nI (S.rp g (0 + 1)) from ((ho_584 g (by omega)).2 (0 + 1) (by omega)).1) ?_
                            have rbq_585 := (hW.rp g (by omega) (0 + 1) (by omega)).1
                            have hV_586 : MW cA hm A S 0 (some (((S.v i) - (S.v (S.rp g 0))) * ((S.v (S.rh g (0 + 1))) - (S.v (S.rh g 0))))) none (some (((S.v i) - (S.v (S.rp g 0))) * ((S.v (S.rh g (0 + 1))) - (S.v (S.rh g 0))))) G_556 := ⟨sg_563, sh_564, kt_565, kb_566, ks_567, Rr_568, _, f_577, v_571, v_572, v_573, v_574, v_575, v_576⟩
                            refine g_outv hlo (g_runV (As := [.int (nI (S.rp g (0 + 1)))]) (rest := []) ⟨hx, hb, hml, hown, hts⟩ hK hZ hRc hRs (c_Mo_load l D cA lo MC MS G_556 B hm A S 0 (some (((S.v i) - (S.v (S.rp g 0))) * ((S.v (S.rh g (0 + 1))) - (S.v (S.rh g 0))))) none (some (((S.v i) - (S.v (S.rp g 0))) * ((S.v (S.rh g (0 + 1))) - (S.v (S.rh g 0))))) hV_586 hW (S.rp g (0 + 1)) (by omega) hB1 hB2) (fun _ _ => cwV 1 hts (tb_good (tb_cons wm897 (tb_cons wm899 (tb_cons ws34 (tb_cons wm12 k_Mo_load))))) rfl rfl rfl (by decide +kernel) ⟨by rw [hRf]; exact Nat.le_of_ble_eq_true rfl, by rw [hRl]; exact Nat.le_of_ble_eq_true rfl⟩) f_577 rfl hB1 hB2 rfl (Nat.le_of_ble_eq_true rfl) d_Mo_at_290) (fun G_587 B_588 p_589 => ?_)
                            obtain ⟨e_590, hV_591, gf_592⟩ := p_589
                            have e_590b : B = B_588 := e_590.symm
                            subst e_590b
                            have gf_593 : gfr mT G G_587 := mT_mT gf_562 gf_592
                            refine gs (pc' := 294) (fun _ _ _ _ _ hl => lv_aload_n hx hb d_Mo_at_293 rfl (lv_at hl 4 rfl)) ?_
                            refine gs (pc' := 295) (fun _ _ _ _ _ hl => lv_aload_n hx hb d_Mo_at_294 rfl (lv_at hl 4 rfl)) ?_
                            obtain ⟨sg_594, sh_595, kt_596, kb_597, ks_598, Rr_599, kf_600, v_601, v_602, v_603, v_604, v_605, v_606, v_607⟩ := id hV_591
                            have f_608 : G_587 hm = some (70, .inr (9, [.int (nI 0), .int (nI S.n), .ref (A 2), .ref (A 3), .ref (A 4), .ref (A 5), .int sg_594, .int sh_595, .ref (A 8), .ref (A 9), .int (nI S.rn), .ref (A 11), .ref (A 12), .ref (A 13), .int (nI S.wn), .ref (A 15), .ref (A 16), .ref (A 17), .ref (A 18), .int kt_596, .int kb_597, .int ks_598])) := v_601
                            refine g_get hx hb hts hin_Mo hown hK f_608 rfl 12 (by decide) (hts _ wm766) (fun _ h9 => h9) rfl d_Mo_at_295 ?_
                            refine gs (pc' := 300) (fun _ _ _ _ _ hl => lv_iload hx hb d_Mo_at_298 (lv_at hl 1 rfl)) ?_
                            obtain ⟨cor_609, pla_610, hei_611, f_612, f_613, f_614, ho_615⟩ := id v_607.2.1
                            refine g_iald hx hb hK 0 f_613 rfl (show vp_in (nI (16 * g + 0)) 128 from vp_in_nI (by omega) (by omega)) d_Mo_at_300 ?_
                            refine g_eqi (show pla_610 (nI (16 * g + 0)).toNatClampNeg = pla_610 (16 * g + 0) from by rw [nI_clamp (by omega)]) ?_
                            refine g_eqi (show pla_610 (16 * g + 0) = nI (S.rp g 0) from ((ho_615 g (by omega)).2 0 (by omega)).1) ?_
                            have rbq_616 := (hW.rp g (by omega) 0 (by omega)).1
                            have hV_617 : MW cA hm A S 0 (some (S.v (S.rp g (0 + 1)))) none (some (((S.v i) - (S.v (S.rp g 0))) * ((S.v (S.rh g (0 + 1))) - (S.v (S.rh g 0))))) G_587 := ⟨sg_594, sh_595, kt_596, kb_597, ks_598, Rr_599, _, f_608, v_602, v_603, v_604, v_605, v_606, v_607⟩
                            refine g_outv hlo (g_runV (As := [.int (nI (S.rp g 0))]) (rest := []) ⟨hx, hb, hml, hown, hts⟩ hK hZ hRc hRs (c_Mo_loadOther l D cA lo MC MS G_587 B hm A S 0 (some (S.v (S.rp g (0 + 1)))) none (some (((S.v i) - (S.v (S.rp g 0))) * ((S.v (S.rh g (0 + 1))) - (S.v (S.rh g 0))))) hV_617 hW (S.rp g 0) (by omega) hB1 hB2) (fun _ _ => cwV 1 hts (tb_good (tb_cons wm905 (tb_cons wm907 (tb_cons ws36 (tb_cons wm12 k_Mo_loadOther))))) rfl rfl rfl (by decide +kernel) ⟨by rw [hRf]; exact Nat.le_of_ble_eq_true rfl, by rw [hRl]; exact Nat.le_of_ble_eq_true rfl⟩) f_608 rfl hB1 hB2 rfl (Nat.le_of_ble_eq_true rfl) d_Mo_at_301) (fun G_618 B_619 p_620 => ?_)
                            obtain ⟨e_621, hV_622, gf_623⟩ := p_620
                            have e_621b : B = B_619 := e_621.symm
                            subst e_621b
                            have gf_624 : gfr mT G G_618 := mT_mT gf_593 gf_623
                            refine gs (pc' := 305) (fun _ _ _ _ _ hl => lv_aload_n hx hb d_Mo_at_304 rfl (lv_at hl 4 rfl)) ?_
                            refine gs (pc' := 306) (fun _ _ _ _ _ hl => lv_iconst (v := (-1)) hx hb d_Mo_at_305 (by decide)) ?_
                            refine g_eqi (show (-1) = iI (-1) from by decide) ?_
                            have rbq_625 : rb ((S.v (S.rp g (0 + 1))) - (S.v (S.rp g 0))) (100 + 100 + 1) := rb_sub (j := 100) (k := 100) rbq_290 rbq_292
                            obtain ⟨sg_626, sh_627, kt_628, kb_629, ks_630, Rr_631, kf_632, v_633, v_634, v_635, v_636, v_637, v_638, v_639⟩ := id hV_622
                            have f_640 : G_618 hm = some (70, .inr (9, [.int (nI 0), .int (nI S.n), .ref (A 2), .ref (A 3), .ref (A 4), .ref (A 5), .int sg_626, .int sh_627, .ref (A 8), .ref (A 9), .int (nI S.rn), .ref (A 11), .ref (A 12), .ref (A 13), .int (nI S.wn), .ref (A 15), .ref (A 16), .ref (A 17), .ref (A 18), .int kt_628, .int kb_629, .int ks_630])) := v_633
                            have hV_641 : MW cA hm A S 0 (some (S.v (S.rp g (0 + 1)))) (some (S.v (S.rp g 0))) (some (((S.v i) - (S.v (S.rp g 0))) * ((S.v (S.rh g (0 + 1))) - (S.v (S.rh g 0))))) G_618 := ⟨sg_626, sh_627, kt_628, kb_629, ks_630, Rr_631, _, f_640, v_634, v_635, v_636, v_637, v_638, v_639⟩
                            refine g_outv hlo (g_runV (As := [.int (iI (-1))]) (rest := []) ⟨hx, hb, hml, hown, hts⟩ hK hZ hRc hRs (c_Mo_addOther l D cA lo MC MS G_618 B hm A S 0 (some (S.v (S.rp g (0 + 1)))) (some (S.v (S.rp g 0))) (some (((S.v i) - (S.v (S.rp g 0))) * ((S.v (S.rh g (0 + 1))) - (S.v (S.rh g 0))))) hV_641 hW (S.v (S.rp g (0 + 1))) (S.v (S.rp g 0)) rfl rfl (100) rbq_290 (100) rbq_292 (by omega) (-1) ((S.v (S.rp g (0 + 1))) - (S.v (S.rp g 0))) (Or.inr ⟨rfl, rfl⟩) hB1 hB2) (fun _ _ => cwV 1 hts (tb_good (tb_cons wm909 (tb_cons wm911 (tb_cons ws37 (tb_cons wm12 k_Mo_addOther))))) rfl rfl rfl (by decide +kernel) ⟨by rw [hRf]; exact Nat.le_of_ble_eq_true rfl, by rw [hRl]; exact Nat.le_of_ble_eq_true rfl⟩) f_640 rfl hB1 hB2 rfl (Nat.le_of_ble_eq_true rfl) d_Mo_at_306) (fun G_642 B_643 p_644 => ?_)
                            obtain ⟨e_645, hV_646, gf_647⟩ := p_644
                            have e_645b : B = B_643 := e_645.symm
                            subst e_645b
                            have gf_648 : gfr mT G G_642 := mT_mT gf_624 gf_647
                            refine gs (pc' := 310) (fun _ _ _ _ _ hl => lv_aload_n hx hb d_Mo_at_309 rfl (lv_at hl 4 rfl)) ?_
                            obtain ⟨sg_649, sh_650, kt_651, kb_652, ks_653, Rr_654, kf_655, v_656, v_657, v_658, v_659, v_660, v_661, v_662⟩ := id hV_646
                            have f_663 : G_642 hm = some (70, .inr (9, [.int (nI 0), .int (nI S.n), .ref (A 2), .ref (A 3), .ref (A 4), .ref (A 5), .int sg_649, .int sh_650, .ref (A 8), .ref (A 9), .int (nI S.rn), .ref (A 11), .ref (A 12), .ref (A 13), .int (nI S.wn), .ref (A 15), .ref (A 16), .ref (A 17), .ref (A 18), .int kt_651, .int kb_652, .int ks_653])) := v_656
                            have hV_664 : MW cA hm A S 0 (some ((S.v (S.rp g (0 + 1))) - (S.v (S.rp g 0)))) none (some (((S.v i) - (S.v (S.rp g 0))) * ((S.v (S.rh g (0 + 1))) - (S.v (S.rh g 0))))) G_642 := ⟨sg_649, sh_650, kt_651, kb_652, ks_653, Rr_654, _, f_663, v_657, v_658, v_659, v_660, v_661, v_662⟩
                            refine g_outv hlo (g_runV (As := []) (rest := []) ⟨hx, hb, hml, hown, hts⟩ hK hZ hRc hRs (c_Mo_unstash l D cA lo MC MS G_642 B hm A S 0 (some ((S.v (S.rp g (0 + 1))) - (S.v (S.rp g 0)))) none (some (((S.v i) - (S.v (S.rp g 0))) * ((S.v (S.rh g (0 + 1))) - (S.v (S.rh g 0))))) hV_664 hW (((S.v i) - (S.v (S.rp g 0))) * ((S.v (S.rh g (0 + 1))) - (S.v (S.rh g 0)))) rfl hB1 hB2) (fun _ _ => cwV 0 hts (tb_good (tb_cons wm996 (tb_cons wm998 (tb_cons ws47 (tb_cons wm12 k_Mo_unstash))))) rfl rfl rfl (by decide +kernel) ⟨by rw [hRf]; exact Nat.le_of_ble_eq_true rfl, by rw [hRl]; exact Nat.le_of_ble_eq_true rfl⟩) f_663 rfl hB1 hB2 rfl (Nat.le_of_ble_eq_true rfl) d_Mo_at_310) (fun G_665 B_666 p_667 => ?_)
                            obtain ⟨e_668, hV_669, gf_670⟩ := p_667
                            have e_668b : B = B_666 := e_668.symm
                            subst e_668b
                            have gf_671 : gfr mT G G_665 := mT_mT gf_648 gf_670
                            refine gs (pc' := 314) (fun _ _ _ _ _ hl => lv_aload_n hx hb d_Mo_at_313 rfl (lv_at hl 4 rfl)) ?_
                            obtain ⟨sg_672, sh_673, kt_674, kb_675, ks_676, Rr_677, kf_678, v_679, v_680, v_681, v_682, v_683, v_684, v_685⟩ := id hV_669
                            have f_686 : G_665 hm = some (70, .inr (9, [.int (nI 0), .int (nI S.n), .ref (A 2), .ref (A 3), .ref (A 4), .ref (A 5), .int sg_672, .int sh_673, .ref (A 8), .ref (A 9), .int (nI S.rn), .ref (A 11), .ref (A 12), .ref (A 13), .int (nI S.wn), .ref (A 15), .ref (A 16), .ref (A 17), .ref (A 18), .int kt_674, .int kb_675, .int ks_676])) := v_679
                            have hV_687 : MW cA hm A S 0 (some ((S.v (S.rp g (0 + 1))) - (S.v (S.rp g 0)))) (some (((S.v i) - (S.v (S.rp g 0))) * ((S.v (S.rh g (0 + 1))) - (S.v (S.rh g 0))))) (some (((S.v i) - (S.v (S.rp g 0))) * ((S.v (S.rh g (0 + 1))) - (S.v (S.rh g 0))))) G_665 := ⟨sg_672, sh_673, kt_674, kb_675, ks_676, Rr_677, _, f_686, v_680, v_681, v_682, v_683, v_684, v_685⟩
                            refine g_outv hlo (g_runV (As := []) (rest := []) ⟨hx, hb, hml, hown, hts⟩ hK hZ hRc hRs (c_Mo_exchange l D cA lo MC MS G_665 B hm A S 0 (some ((S.v (S.rp g (0 + 1))) - (S.v (S.rp g 0)))) (some (((S.v i) - (S.v (S.rp g 0))) * ((S.v (S.rh g (0 + 1))) - (S.v (S.rh g 0))))) (some (((S.v i) - (S.v (S.rp g 0))) * ((S.v (S.rh g (0 + 1))) - (S.v (S.rh g 0))))) hV_687 hW ((S.v (S.rp g (0 + 1))) - (S.v (S.rp g 0))) (((S.v i) - (S.v (S.rp g 0))) * ((S.v (S.rh g (0 + 1))) - (S.v (S.rh g 0)))) rfl rfl hB1 hB2) (fun _ _ => cwV 0 hts (tb_good (tb_cons wm1000 (tb_cons wm1002 (tb_cons ws48 (tb_cons wm12 k_Mo_exchange))))) rfl rfl rfl (by decide +kernel) ⟨by rw [hRf]; exact Nat.le_of_ble_eq_true rfl, by rw [hRl]; exact Nat.le_of_ble_eq_true rfl⟩) f_686 rfl hB1 hB2 rfl (Nat.le_of_ble_eq_true rfl) d_Mo_at_314) (fun G_688 B_689 p_690 => ?_)
                            obtain ⟨e_691, hV_692, gf_693⟩ := p_690
                            have e_691b : B = B_689 := e_691.symm
                            subst e_691b
                            have gf_694 : gfr mT G G_688 := mT_mT gf_671 gf_693
                            refine gs (pc' := 318) (fun _ _ _ _ _ hl => lv_aload_n hx hb d_Mo_at_317 rfl (lv_at hl 4 rfl)) ?_
                            have rbq_695 : rb ((((S.v i) - (S.v (S.rp g 0))) * ((S.v (S.rh g (0 + 1))) - (S.v (S.rh g 0)))) / ((S.v (S.rp g (0 + 1))) - (S.v (S.rp g 0)))) (100 + 100 + 1 + 100 + 100 + 1 + 100 + 100 + 1) := rb_div (j := 100 + 100 + 1 + 100 + 100 + 1) (k := 100 + 100 + 1) rbq_516 rbq_625 hnz9
                            obtain ⟨sg_696, sh_697, kt_698, kb_699, ks_700, Rr_701, kf_702, v_703, v_704, v_705, v_706, v_707, v_708, v_709⟩ := id hV_692
                            have f_710 : G_688 hm = some (70, .inr (9, [.int (nI 0), .int (nI S.n), .ref (A 2), .ref (A 3), .ref (A 4), .ref (A 5), .int sg_696, .int sh_697, .ref (A 8), .ref (A 9), .int (nI S.rn), .ref (A 11), .ref (A 12), .ref (A 13), .int (nI S.wn), .ref (A 15), .ref (A 16), .ref (A 17), .ref (A 18), .int kt_698, .int kb_699, .int ks_700])) := v_703
                            have hV_711 : MW cA hm A S 0 (some (((S.v i) - (S.v (S.rp g 0))) * ((S.v (S.rh g (0 + 1))) - (S.v (S.rh g 0))))) (some ((S.v (S.rp g (0 + 1))) - (S.v (S.rp g 0)))) (some (((S.v i) - (S.v (S.rp g 0))) * ((S.v (S.rh g (0 + 1))) - (S.v (S.rh g 0))))) G_688 := ⟨sg_696, sh_697, kt_698, kb_699, ks_700, Rr_701, _, f_710, v_704, v_705, v_706, v_707, v_708, v_709⟩
                            refine g_outv hlo (g_runV (As := []) (rest := []) ⟨hx, hb, hml, hown, hts⟩ hK hZ hRc hRs (c_Mo_overOther l D cA lo MC MS G_688 B hm A S 0 (some (((S.v i) - (S.v (S.rp g 0))) * ((S.v (S.rh g (0 + 1))) - (S.v (S.rh g 0))))) (some ((S.v (S.rp g (0 + 1))) - (S.v (S.rp g 0)))) (some (((S.v i) - (S.v (S.rp g 0))) * ((S.v (S.rh g (0 + 1))) - (S.v (S.rh g 0))))) hV_711 hW (((S.v i) - (S.v (S.rp g 0))) * ((S.v (S.rh g (0 + 1))) - (S.v (S.rh g 0)))) ((S.v (S.rp g (0 + 1))) - (S.v (S.rp g 0))) rfl rfl (100 + 100 + 1 + 100 + 100 + 1) rbq_516 (100 + 100 + 1) rbq_625 (by omega) hnz9 hB1 hB2) (fun _ _ => cwV 0 hts (tb_good (tb_cons wm941 (tb_cons wm943 (tb_cons ws43 (tb_cons wm12 k_Mo_overOther))))) rfl rfl rfl (by decide +kernel) ⟨by rw [hRf]; exact Nat.le_of_ble_eq_true rfl, by rw [hRl]; exact Nat.le_of_ble_eq_true rfl⟩) f_710 rfl hB1 hB2 rfl (Nat.le_of_ble_eq_true rfl) d_Mo_at_318) (fun G_712 B_713 p_714 => ?_)
                            obtain ⟨e_715, hV_716, gf_717⟩ := p_714
                            have e_715b : B = B_713 := e_715.symm
                            subst e_715b
                            have gf_718 : gfr mT G G_712 := mT_mT gf_694 gf_717
                            refine gs (pc' := 322) (fun _ _ _ _ _ hl => lv_aload_n hx hb d_Mo_at_321 rfl (lv_at hl 4 rfl)) ?_
                            refine gs (pc' := 323) (fun _ _ _ _ _ hl => lv_aload_n hx hb d_Mo_at_322 rfl (lv_at hl 4 rfl)) ?_
                            obtain ⟨sg_719, sh_720, kt_721, kb_722, ks_723, Rr_724, kf_725, v_726, v_727, v_728, v_729, v_730, v_731, v_732⟩ := id hV_716
                            have f_733 : G_712 hm = some (70, .inr (9, [.int (nI 0), .int (nI S.n), .ref (A 2), .ref (A 3), .ref (A 4), .ref (A 5), .int sg_719, .int sh_720, .ref (A 8), .ref (A 9), .int (nI S.rn), .ref (A 11), .ref (A 12), .ref (A 13), .int (nI S.wn), .ref (A 15), .ref (A 16), .ref (A 17), .ref (A 18), .int kt_721, .int kb_722, .int ks_723])) := v_726
                            refine g_get hx hb hts hin_Mo hown hK f_733 rfl 13 (by decide) (hts _ wm767) (fun _ h9 => h9) rfl d_Mo_at_323 ?_
                            refine gs (pc' := 328) (fun _ _ _ _ _ hl => lv_iload hx hb d_Mo_at_326 (lv_at hl 1 rfl)) ?_
                            obtain ⟨cor_734, pla_735, hei_736, f_737, f_738, f_739, ho_740⟩ := id v_732.2.1
                            refine g_iald hx hb hK 0 f_739 rfl (show vp_in (nI (16 * g + 0)) 128 from vp_in_nI (by omega) (by omega)) d_Mo_at_328 ?_
                            refine g_eqi (show hei_736 (nI (16 * g + 0)).toNatClampNeg = hei_736 (16 * g + 0) from by rw [nI_clamp (by omega)]) ?_
                            refine g_eqi (show hei_736 (16 * g + 0) = nI (S.rh g 0) from ((ho_740 g (by omega)).2 0 (by omega)).2) ?_
                            have rbq_741 := (hW.rp g (by omega) 0 (by omega)).2.1
                            have hV_742 : MW cA hm A S 0 (some ((((S.v i) - (S.v (S.rp g 0))) * ((S.v (S.rh g (0 + 1))) - (S.v (S.rh g 0)))) / ((S.v (S.rp g (0 + 1))) - (S.v (S.rp g 0))))) none (some (((S.v i) - (S.v (S.rp g 0))) * ((S.v (S.rh g (0 + 1))) - (S.v (S.rh g 0))))) G_712 := ⟨sg_719, sh_720, kt_721, kb_722, ks_723, Rr_724, _, f_733, v_727, v_728, v_729, v_730, v_731, v_732⟩
                            refine g_outv hlo (g_runV (As := [.int (nI (S.rh g 0))]) (rest := []) ⟨hx, hb, hml, hown, hts⟩ hK hZ hRc hRs (c_Mo_loadOther l D cA lo MC MS G_712 B hm A S 0 (some ((((S.v i) - (S.v (S.rp g 0))) * ((S.v (S.rh g (0 + 1))) - (S.v (S.rh g 0)))) / ((S.v (S.rp g (0 + 1))) - (S.v (S.rp g 0))))) none (some (((S.v i) - (S.v (S.rp g 0))) * ((S.v (S.rh g (0 + 1))) - (S.v (S.rh g 0))))) hV_742 hW (S.rh g 0) (by omega) hB1 hB2) (fun _ _ => cwV 1 hts (tb_good (tb_cons wm905 (tb_cons wm907 (tb_cons ws36 (tb_cons wm12 k_Mo_loadOther))))) rfl rfl rfl (by decide +kernel) ⟨by rw [hRf]; exact Nat.le_of_ble_eq_true rfl, by rw [hRl]; exact Nat.le_of_ble_eq_true rfl⟩) f_733 rfl hB1 hB2 rfl (Nat.le_of_ble_eq_true rfl) d_Mo_at_329) (fun G_743 B_744 p_745 => ?_)
                            obtain ⟨e_746, hV_747, gf_748⟩ := p_745
                            have e_746b : B = B_744 := e_746.symm
                            subst e_746b
                            have gf_749 : gfr mT G G_743 := mT_mT gf_718 gf_748
                            refine gs (pc' := 333) (fun _ _ _ _ _ hl => lv_aload_n hx hb d_Mo_at_332 rfl (lv_at hl 4 rfl)) ?_
                            refine gs (pc' := 334) (fun _ _ _ _ _ hl => lv_iconst (v := nI 1) hx hb d_Mo_at_333 (by decide)) ?_
                            have rbq_750 : rb (((((S.v i) - (S.v (S.rp g 0))) * ((S.v (S.rh g (0 + 1))) - (S.v (S.rh g 0)))) / ((S.v (S.rp g (0 + 1))) - (S.v (S.rp g 0)))) + (S.v (S.rh g 0))) (100 + 100 + 1 + 100 + 100 + 1 + 100 + 100 + 1 + 100 + 1) := rb_add (j := 100 + 100 + 1 + 100 + 100 + 1 + 100 + 100 + 1) (k := 100) rbq_695 rbq_293
                            obtain ⟨sg_751, sh_752, kt_753, kb_754, ks_755, Rr_756, kf_757, v_758, v_759, v_760, v_761, v_762, v_763, v_764⟩ := id hV_747
                            have f_765 : G_743 hm = some (70, .inr (9, [.int (nI 0), .int (nI S.n), .ref (A 2), .ref (A 3), .ref (A 4), .ref (A 5), .int sg_751, .int sh_752, .ref (A 8), .ref (A 9), .int (nI S.rn), .ref (A 11), .ref (A 12), .ref (A 13), .int (nI S.wn), .ref (A 15), .ref (A 16), .ref (A 17), .ref (A 18), .int kt_753, .int kb_754, .int ks_755])) := v_758
                            have hV_766 : MW cA hm A S 0 (some ((((S.v i) - (S.v (S.rp g 0))) * ((S.v (S.rh g (0 + 1))) - (S.v (S.rh g 0)))) / ((S.v (S.rp g (0 + 1))) - (S.v (S.rp g 0))))) (some (S.v (S.rh g 0))) (some (((S.v i) - (S.v (S.rp g 0))) * ((S.v (S.rh g (0 + 1))) - (S.v (S.rh g 0))))) G_743 := ⟨sg_751, sh_752, kt_753, kb_754, ks_755, Rr_756, _, f_765, v_759, v_760, v_761, v_762, v_763, v_764⟩
                            refine g_outv hlo (g_runV (As := [.int (nI 1)]) (rest := []) ⟨hx, hb, hml, hown, hts⟩ hK hZ hRc hRs (c_Mo_addOther l D cA lo MC MS G_743 B hm A S 0 (some ((((S.v i) - (S.v (S.rp g 0))) * ((S.v (S.rh g (0 + 1))) - (S.v (S.rh g 0)))) / ((S.v (S.rp g (0 + 1))) - (S.v (S.rp g 0))))) (some (S.v (S.rh g 0))) (some (((S.v i) - (S.v (S.rp g 0))) * ((S.v (S.rh g (0 + 1))) - (S.v (S.rh g 0))))) hV_766 hW ((((S.v i) - (S.v (S.rp g 0))) * ((S.v (S.rh g (0 + 1))) - (S.v (S.rh g 0)))) / ((S.v (S.rp g (0 + 1))) - (S.v (S.rp g 0)))) (S.v (S.rh g 0)) rfl rfl (100 + 100 + 1 + 100 + 100 + 1 + 100 + 100 + 1) rbq_695 (100) rbq_293 (by omega) 1 (((((S.v i) - (S.v (S.rp g 0))) * ((S.v (S.rh g (0 + 1))) - (S.v (S.rh g 0)))) / ((S.v (S.rp g (0 + 1))) - (S.v (S.rp g 0)))) + (S.v (S.rh g 0))) (Or.inl ⟨rfl, rfl⟩) hB1 hB2) (fun _ _ => cwV 1 hts (tb_good (tb_cons wm909 (tb_cons wm911 (tb_cons ws37 (tb_cons wm12 k_Mo_addOther))))) rfl rfl rfl (by decide +kernel) ⟨by rw [hRf]; exact Nat.le_of_ble_eq_true rfl, by rw [hRl]; exact Nat.le_of_ble_eq_true rfl⟩) f_765 rfl hB1 hB2 rfl (Nat.le_of_ble_eq_true rfl) d_Mo_at_334) (fun G_767 B_768 p_769 => ?_)
                            obtain ⟨e_770, hV_771, gf_772⟩ := p_769
                            have e_770b : B = B_768 := e_770.symm
                            subst e_770b
                            have gf_773 : gfr mT G G_767 := mT_mT gf_749 gf_772
                            refine gs (pc' := 338) (fun _ _ _ _ _ hl => lv_aload_n hx hb d_Mo_at_337 rfl (lv_at hl 4 rfl)) ?_
                            refine gs (pc' := 340) (fun _ _ _ _ _ hl => lv_iload hx hb d_Mo_at_338 (lv_at hl 0 rfl)) ?_
                            obtain ⟨sg_774, sh_775, kt_776, kb_777, ks_778, Rr_779, kf_780, v_781, v_782, v_783, v_784, v_785, v_786, v_787⟩ := id hV_771
                            have f_788 : G_767 hm = some (70, .inr (9, [.int (nI 0), .int (nI S.n), .ref (A 2), .ref (A 3), .ref (A 4), .ref (A 5), .int sg_774, .int sh_775, .ref (A 8), .ref (A 9), .int (nI S.rn), .ref (A 11), .ref (A 12), .ref (A 13), .int (nI S.wn), .ref (A 15), .ref (A 16), .ref (A 17), .ref (A 18), .int kt_776, .int kb_777, .int ks_778])) := v_781
                            have hV_789 : MW cA hm A S 0 (some (((((S.v i) - (S.v (S.rp g 0))) * ((S.v (S.rh g (0 + 1))) - (S.v (S.rh g 0)))) / ((S.v (S.rp g (0 + 1))) - (S.v (S.rp g 0)))) + (S.v (S.rh g 0)))) none (some (((S.v i) - (S.v (S.rp g 0))) * ((S.v (S.rh g (0 + 1))) - (S.v (S.rh g 0))))) G_767 := ⟨sg_774, sh_775, kt_776, kb_777, ks_778, Rr_779, _, f_788, v_782, v_783, v_784, v_785, v_786, v_787⟩
                            refine g_outi hlo (g_runV (As := [.int (iI (S.un (S.rh g 0)))]) (rest := []) ⟨hx, hb, hml, hown, hts⟩ hK hZ hRc hRs (c_Mo_keep l D cA lo MC MS G_767 B hm A S 0 (some (((((S.v i) - (S.v (S.rp g 0))) * ((S.v (S.rh g (0 + 1))) - (S.v (S.rh g 0)))) / ((S.v (S.rp g (0 + 1))) - (S.v (S.rp g 0)))) + (S.v (S.rh g 0)))) none (some (((S.v i) - (S.v (S.rp g 0))) * ((S.v (S.rh g (0 + 1))) - (S.v (S.rh g 0))))) hV_789 hW (((((S.v i) - (S.v (S.rp g 0))) * ((S.v (S.rh g (0 + 1))) - (S.v (S.rh g 0)))) / ((S.v (S.rp g (0 + 1))) - (S.v (S.rp g 0)))) + (S.v (S.rh g 0))) rfl (100 + 100 + 1 + 100 + 100 + 1 + 100 + 100 + 1 + 100 + 1) rbq_750 (by omega) (S.un (S.rh g 0)) (hW.v _ hhk0).2 (by omega) hB1 hB2) (fun _ _ => cwV 1 hts (tb_good (tb_cons wm881 (tb_cons wm883 (tb_cons ws31 (tb_cons wm12 k_Mo_keep))))) rfl rfl rfl (by decide +kernel) ⟨by rw [hRf]; exact Nat.le_of_ble_eq_true rfl, by rw [hRl]; exact Nat.le_of_ble_eq_true rfl⟩) f_788 rfl hB1 hB2 rfl (Nat.le_of_ble_eq_true rfl) d_Mo_at_340) (fun r_793 G_790 B_791 p_792 => ?_)
                            obtain ⟨e_794, e_797, hV_795, gf_796⟩ := p_792
                            subst e_797
                            have e_794b : B = B_791 := e_794.symm
                            subst e_794b
                            have gf_798 : gfr mT G G_790 := mT_mT gf_773 gf_796
                            rw [st_atM hW hi_g hi_i hk1 hu9 hgt9 hlt9 (by omega)] at hret
                            exact hret 343 _ _ _ _ d_Mo_at_343 hB1 hB2 ⟨rfl, fun _ => rfl, MW_k hV_795, gf_798⟩
                          · skip
                            have nc_289 : (rcmp (S.v i) (S.v (S.rp g 0))) = 0 := (ii_ne (a := (rcmp (S.v i) (S.v (S.rp g 0)))) (b := 0) (by omega) (by omega) (by omega) (by omega)).2 (by first | exact c_289 | (have z9 := c_289; simp only [nI_iI] at z9; exact z9))
                            have heq9 : S.v i = S.v (S.rp g 0) := rcmp_0.mp nc_289
                            have rbq_799 : rb (S.v (S.rh g 0)) 100 := rb_of (hW.v _ hhk).1
                            refine gs (pc' := 174) (fun _ _ _ _ _ hl => lv_aload_n hx hb d_Mo_at_173 rfl (lv_at hl 3 rfl)) ?_
                            refine gs (pc' := 175) (fun _ _ _ _ _ hl => lv_aload_n hx hb d_Mo_at_174 rfl (lv_at hl 3 rfl)) ?_
                            obtain ⟨sg_800, sh_801, kt_802, kb_803, ks_804, Rr_805, kf_806, v_807, v_808, v_809, v_810, v_811, v_812, v_813⟩ := id hV_284
                            have f_814 : G_279 hm = some (70, .inr (9, [.int (nI 0), .int (nI S.n), .ref (A 2), .ref (A 3), .ref (A 4), .ref (A 5), .int sg_800, .int sh_801, .ref (A 8), .ref (A 9), .int (nI S.rn), .ref (A 11), .ref (A 12), .ref (A 13), .int (nI S.wn), .ref (A 15), .ref (A 16), .ref (A 17), .ref (A 18), .int kt_802, .int kb_803, .int ks_804])) := v_807
                            refine g_get hx hb hts hin_Mo hown hK f_814 rfl 13 (by decide) (hts _ wm767) (fun _ h9 => h9) rfl d_Mo_at_175 ?_
                            refine gs (pc' := 180) (fun _ _ _ _ _ hl => lv_iload hx hb d_Mo_at_178 (lv_at hl 0 rfl)) ?_
                            obtain ⟨cor_815, pla_816, hei_817, f_818, f_819, f_820, ho_821⟩ := id v_813.2.1
                            refine g_iald hx hb hK 0 f_820 rfl (show vp_in (nI (16 * g + 0)) 128 from vp_in_nI (by omega) (by omega)) d_Mo_at_180 ?_
                            refine g_eqi (show hei_817 (nI (16 * g + 0)).toNatClampNeg = hei_817 (16 * g + 0) from by rw [nI_clamp (by omega)]) ?_
                            refine g_eqi (show hei_817 (16 * g + 0) = nI (S.rh g 0) from ((ho_821 g (by omega)).2 0 (by omega)).2) ?_
                            have rbq_822 := (hW.rp g (by omega) 0 (by omega)).2.1
                            have hV_823 : MW cA hm A S 0 none none qk G_279 := ⟨sg_800, sh_801, kt_802, kb_803, ks_804, Rr_805, _, f_814, v_808, v_809, v_810, v_811, v_812, v_813⟩
                            refine g_outv hlo (g_runV (As := [.int (nI (S.rh g 0))]) (rest := []) ⟨hx, hb, hml, hown, hts⟩ hK hZ hRc hRs (c_Mo_load l D cA lo MC MS G_279 B hm A S 0 none none qk hV_823 hW (S.rh g 0) (by omega) hB1 hB2) (fun _ _ => cwV 1 hts (tb_good (tb_cons wm897 (tb_cons wm899 (tb_cons ws34 (tb_cons wm12 k_Mo_load))))) rfl rfl rfl (by decide +kernel) ⟨by rw [hRf]; exact Nat.le_of_ble_eq_true rfl, by rw [hRl]; exact Nat.le_of_ble_eq_true rfl⟩) f_814 rfl hB1 hB2 rfl (Nat.le_of_ble_eq_true rfl) d_Mo_at_181) (fun G_824 B_825 p_826 => ?_)
                            obtain ⟨e_827, hV_828, gf_829⟩ := p_826
                            have e_827b : B = B_825 := e_827.symm
                            subst e_827b
                            have gf_830 : gfr mT G G_824 := mT_mT gf_287 gf_829
                            refine gs (pc' := 185) (fun _ _ _ _ _ hl => lv_aload_n hx hb d_Mo_at_184 rfl (lv_at hl 3 rfl)) ?_
                            refine gs (pc' := 186) (fun _ _ _ _ _ hl => lv_aload_n hx hb d_Mo_at_185 rfl (lv_at hl 3 rfl)) ?_
                            obtain ⟨sg_831, sh_832, kt_833, kb_834, ks_835, Rr_836, kf_837, v_838, v_839, v_840, v_841, v_842, v_843, v_844⟩ := id hV_828
                            have f_845 : G_824 hm = some (70, .inr (9, [.int (nI 0), .int (nI S.n), .ref (A 2), .ref (A 3), .ref (A 4), .ref (A 5), .int sg_831, .int sh_832, .ref (A 8), .ref (A 9), .int (nI S.rn), .ref (A 11), .ref (A 12), .ref (A 13), .int (nI S.wn), .ref (A 15), .ref (A 16), .ref (A 17), .ref (A 18), .int kt_833, .int kb_834, .int ks_835])) := v_838
                            refine g_get hx hb hts hin_Mo hown hK f_845 rfl 3 (by decide) (hts _ wm757) (fun _ h9 => h9) rfl d_Mo_at_186 ?_
                            refine gs (pc' := 190) (fun _ _ _ _ _ hl => lv_aload_n hx hb d_Mo_at_189 rfl (lv_at hl 3 rfl)) ?_
                            refine g_get hx hb hts hin_Mo hown hK f_845 rfl 13 (by decide) (hts _ wm767) (fun _ h9 => h9) rfl d_Mo_at_190 ?_
                            refine gs (pc' := 195) (fun _ _ _ _ _ hl => lv_iload hx hb d_Mo_at_193 (lv_at hl 0 rfl)) ?_
                            obtain ⟨cor_846, pla_847, hei_848, f_849, f_850, f_851, ho_852⟩ := id v_844.2.1
                            refine g_iald hx hb hK 0 f_851 rfl (show vp_in (nI (16 * g + 0)) 128 from vp_in_nI (by omega) (by omega)) d_Mo_at_195 ?_
                            refine g_eqi (show hei_848 (nI (16 * g + 0)).toNatClampNeg = hei_848 (16 * g + 0) from by rw [nI_clamp (by omega)]) ?_
                            refine g_eqi (show hei_848 (16 * g + 0) = nI (S.rh g 0) from ((ho_852 g (by omega)).2 0 (by omega)).2) ?_
                            have rbq_853 := (hW.rp g (by omega) 0 (by omega)).2.1
                            obtain ⟨sgn_854, unt_855, sto_856, szs_857, f_858, f_859, f_860, f_861, hv_862⟩ := id v_844.1
                            refine g_iald hx hb hK 0 f_859 rfl (show vp_in (nI (S.rh g 0)) 200 from vp_in_nI (by omega) (by omega)) d_Mo_at_196 ?_
                            refine g_eqi (show unt_855 (nI (S.rh g 0)).toNatClampNeg = unt_855 (S.rh g 0) from by rw [nI_clamp (by omega)]) ?_
                            refine g_eqi (show unt_855 (S.rh g 0) = iI (S.un (S.rh g 0)) from (hv_862 (S.rh g 0) (by omega)).2.1) ?_
                            have ub_863 := (hW.v (S.rh g 0) (by omega)).2.1
                            have ub_864 := (hW.v (S.rh g 0) (by omega)).2.2
                            have hV_865 : MW cA hm A S 0 (some (S.v (S.rh g 0))) none qk G_824 := ⟨sg_831, sh_832, kt_833, kb_834, ks_835, Rr_836, _, f_845, v_839, v_840, v_841, v_842, v_843, v_844⟩
                            refine g_outi hlo (g_runV (As := [.int (iI (S.un (S.rh g 0)))]) (rest := []) ⟨hx, hb, hml, hown, hts⟩ hK hZ hRc hRs (c_Mo_keep l D cA lo MC MS G_824 B hm A S 0 (some (S.v (S.rh g 0))) none qk hV_865 hW (S.v (S.rh g 0)) rfl (100) rbq_799 (by omega) (S.un (S.rh g 0)) (hW.v _ hhk).2 (by omega) hB1 hB2) (fun _ _ => cwV 1 hts (tb_good (tb_cons wm881 (tb_cons wm883 (tb_cons ws31 (tb_cons wm12 k_Mo_keep))))) rfl rfl rfl (by decide +kernel) ⟨by rw [hRf]; exact Nat.le_of_ble_eq_true rfl, by rw [hRl]; exact Nat.le_of_ble_eq_true rfl⟩) f_845 rfl hB1 hB2 rfl (Nat.le_of_ble_eq_true rfl) d_Mo_at_197) (fun r_869 G_866 B_867 p_868 => ?_)
                            obtain ⟨e_870, e_873, hV_871, gf_872⟩ := p_868
                            subst e_873
                            have e_870b : B = B_867 := e_870.symm
                            subst e_870b
                            have gf_874 : gfr mT G G_866 := mT_mT gf_830 gf_872
                            rw [st_atE hW hi_g hi_i hkr hu9 heq9 (by omega)] at hret
                            exact hret 200 _ _ _ _ d_Mo_at_200 hB1 hB2 ⟨rfl, fun _ => rfl, MW_k hV_871, gf_874⟩
                        · skip
                          have nc_254 : (rcmp (S.v i) (S.v (S.rp g 0))) < 0 := (ii_ge (a := (rcmp (S.v i) (S.v (S.rp g 0)))) (b := 0) (by omega) (by omega) (by omega) (by omega)).2 (by first | exact c_254 | (have z9 := c_254; simp only [nI_iI] at z9; exact z9))
                          exact absurd hlo9 (Rat.not_le.mpr (rcmp_lt.mp nc_254))
                      | succ kk ih =>
                        intro Gk hkr hab hVk hgk
                        have hb_kk := hW.rp g hi_g (kk + 1) hkr
                        have hpk := hb_kk.1
                        have hhk := hb_kk.2.1
                        refine gs (pc' := 138) (fun _ _ _ _ _ hl => lv_aload_n hx hb d_Mo_at_137 rfl (lv_at hl 3 rfl)) ?_
                        refine gs (pc' := 139) (fun _ _ _ _ _ hl => lv_iload_n hx hb d_Mo_at_138 rfl (lv_at hl 5 rfl)) ?_
                        refine gs (pc' := 140) (fun _ _ _ _ _ hl => lv_aload_n hx hb d_Mo_at_139 rfl (lv_at hl 3 rfl)) ?_
                        obtain ⟨sg_875, sh_876, kt_877, kb_878, ks_879, Rr_880, kf_881, v_882, v_883, v_884, v_885, v_886, v_887, v_888⟩ := id hVk
                        have f_889 : Gk hm = some (70, .inr (9, [.int (nI 0), .int (nI S.n), .ref (A 2), .ref (A 3), .ref (A 4), .ref (A 5), .int sg_875, .int sh_876, .ref (A 8), .ref (A 9), .int (nI S.rn), .ref (A 11), .ref (A 12), .ref (A 13), .int (nI S.wn), .ref (A 15), .ref (A 16), .ref (A 17), .ref (A 18), .int kt_877, .int kb_878, .int ks_879])) := v_882
                        refine g_get hx hb hts hin_Mo hown hK f_889 rfl 12 (by decide) (hts _ wm766) (fun _ h9 => h9) rfl d_Mo_at_140 ?_
                        refine gs (pc' := 145) (fun _ _ _ _ _ hl => lv_iload hx hb d_Mo_at_143 (lv_at hl 0 rfl)) ?_
                        obtain ⟨cor_890, pla_891, hei_892, f_893, f_894, f_895, ho_896⟩ := id v_888.2.1
                        refine g_iald hx hb hK 0 f_894 rfl (show vp_in (nI (16 * g + (kk + 1))) 128 from vp_in_nI (by omega) (by omega)) d_Mo_at_145 ?_
                        refine g_eqi (show pla_891 (nI (16 * g + (kk + 1))).toNatClampNeg = pla_891 (16 * g + (kk + 1)) from by rw [nI_clamp (by omega)]) ?_
                        refine g_eqi (show pla_891 (16 * g + (kk + 1)) = nI (S.rp g (kk + 1)) from ((ho_896 g (by omega)).2 (kk + 1) (by omega)).1) ?_
                        have rbq_897 := (hW.rp g (by omega) (kk + 1) (by omega)).1
                        have hV_898 : MW cA hm A S 0 none none qk Gk := ⟨sg_875, sh_876, kt_877, kb_878, ks_879, Rr_880, _, f_889, v_883, v_884, v_885, v_886, v_887, v_888⟩
                        refine g_outi hlo (g_runV (As := [.int (nI i), .int (nI (S.rp g (kk + 1)))]) (rest := []) ⟨hx, hb, hml, hown, hts⟩ hK hZ hRc hRs (c_Mo_compareValues l D cA lo MC MS Gk B hm A S 0 none none qk hV_898 hW i (by omega) (S.rp g (kk + 1)) (by omega) hB1 hB2) (fun _ _ => cwV 2 hts (tb_good (tb_cons wm949 (tb_cons wm951 (tb_cons ws44 (tb_cons wm12 k_Mo_compareValues))))) rfl rfl rfl (by decide +kernel) ⟨by rw [hRf]; exact Nat.le_of_ble_eq_true rfl, by rw [hRl]; exact Nat.le_of_ble_eq_true rfl⟩) f_889 rfl hB1 hB2 rfl (Nat.le_of_ble_eq_true rfl) d_Mo_at_146) (fun r_902 G_899 B_900 p_901 => ?_)
                        obtain ⟨e_903, e_906, hV_904, gf_905⟩ := p_901
                        subst e_906
                        have e_903b : B = B_900 := e_903.symm
                        subst e_903b
                        have gf_907 : gfr mT G G_899 := mT_mT hgk gf_905
                        have bd_908 := rcmp_bd (S.v i) (S.v (S.rp g (kk + 1)))
                        refine gsb (pc1 := 158) (pc2 := 152) (fun _ _ _ _ _ => lv_if_ge (tgt := 158) hx hb d_Mo_at_149 (by decide)) (fun c_909 => ?_) (fun c_909 => ?_)
                        · skip
                          have nc_909 : (rcmp (S.v i) (S.v (S.rp g (kk + 1)))) ≥ 0 := (ii_ge (a := (rcmp (S.v i) (S.v (S.rp g (kk + 1))))) (b := 0) (by omega) (by omega) (by omega) (by omega)).1 (by first | exact c_909 | (have z9 := c_909; simp only [nI_iI] at z9; exact z9))
                          have hge9 : S.v (S.rp g (kk + 1)) ≤ S.v i := Rat.not_lt.mp fun e9 => absurd (rcmp_lt.mpr e9) (by omega)
                          refine gs (pc' := 159) (fun _ _ _ _ _ hl => lv_aload_n hx hb d_Mo_at_158 rfl (lv_at hl 3 rfl)) ?_
                          refine gs (pc' := 160) (fun _ _ _ _ _ hl => lv_iload_n hx hb d_Mo_at_159 rfl (lv_at hl 5 rfl)) ?_
                          refine gs (pc' := 161) (fun _ _ _ _ _ hl => lv_aload_n hx hb d_Mo_at_160 rfl (lv_at hl 3 rfl)) ?_
                          obtain ⟨sg_910, sh_911, kt_912, kb_913, ks_914, Rr_915, kf_916, v_917, v_918, v_919, v_920, v_921, v_922, v_923⟩ := id hV_904
                          have f_924 : G_899 hm = some (70, .inr (9, [.int (nI 0), .int (nI S.n), .ref (A 2), .ref (A 3), .ref (A 4), .ref (A 5), .int sg_910, .int sh_911, .ref (A 8), .ref (A 9), .int (nI S.rn), .ref (A 11), .ref (A 12), .ref (A 13), .int (nI S.wn), .ref (A 15), .ref (A 16), .ref (A 17), .ref (A 18), .int kt_912, .int kb_913, .int ks_914])) := v_917
                          refine g_get hx hb hts hin_Mo hown hK f_924 rfl 12 (by decide) (hts _ wm766) (fun _ h9 => h9) rfl d_Mo_at_161 ?_
                          refine gs (pc' := 166) (fun _ _ _ _ _ hl => lv_iload hx hb d_Mo_at_164 (lv_at hl 0 rfl)) ?_
                          obtain ⟨cor_925, pla_926, hei_927, f_928, f_929, f_930, ho_931⟩ := id v_923.2.1
                          refine g_iald hx hb hK 0 f_929 rfl (show vp_in (nI (16 * g + (kk + 1))) 128 from vp_in_nI (by omega) (by omega)) d_Mo_at_166 ?_
                          refine g_eqi (show pla_926 (nI (16 * g + (kk + 1))).toNatClampNeg = pla_926 (16 * g + (kk + 1)) from by rw [nI_clamp (by omega)]) ?_
                          refine g_eqi (show pla_926 (16 * g + (kk + 1)) = nI (S.rp g (kk + 1)) from ((ho_931 g (by omega)).2 (kk + 1) (by omega)).1) ?_
                          have rbq_932 := (hW.rp g (by omega) (kk + 1) (by omega)).1
                          have hV_933 : MW cA hm A S 0 none none qk G_899 := ⟨sg_910, sh_911, kt_912, kb_913, ks_914, Rr_915, _, f_924, v_918, v_919, v_920, v_921, v_922, v_923⟩
                          refine g_outi hlo (g_runV (As := [.int (nI i), .int (nI (S.rp g (kk + 1)))]) (rest := []) ⟨hx, hb, hml, hown, hts⟩ hK hZ hRc hRs (c_Mo_compareValues l D cA lo MC MS G_899 B hm A S 0 none none qk hV_933 hW i (by omega) (S.rp g (kk + 1)) (by omega) hB1 hB2) (fun _ _ => cwV 2 hts (tb_good (tb_cons wm949 (tb_cons wm951 (tb_cons ws44 (tb_cons wm12 k_Mo_compareValues))))) rfl rfl rfl (by decide +kernel) ⟨by rw [hRf]; exact Nat.le_of_ble_eq_true rfl, by rw [hRl]; exact Nat.le_of_ble_eq_true rfl⟩) f_924 rfl hB1 hB2 rfl (Nat.le_of_ble_eq_true rfl) d_Mo_at_167) (fun r_937 G_934 B_935 p_936 => ?_)
                          obtain ⟨e_938, e_941, hV_939, gf_940⟩ := p_936
                          subst e_941
                          have e_938b : B = B_935 := e_938.symm
                          subst e_938b
                          have gf_942 : gfr mT G G_934 := mT_mT gf_907 gf_940
                          have bd_943 := rcmp_bd (S.v i) (S.v (S.rp g (kk + 1)))
                          refine gsb (pc1 := 201) (pc2 := 173) (fun _ _ _ _ _ => lv_if_ne (tgt := 201) hx hb d_Mo_at_170 (by decide)) (fun c_944 => ?_) (fun c_944 => ?_)
                          · skip
                            have nc_944 : (rcmp (S.v i) (S.v (S.rp g (kk + 1)))) ≠ 0 := (ii_ne (a := (rcmp (S.v i) (S.v (S.rp g (kk + 1))))) (b := 0) (by omega) (by omega) (by omega) (by omega)).1 (by first | exact c_944 | (have z9 := c_944; simp only [nI_iI] at z9; exact z9))
                            have hne9 : S.v i ≠ S.v (S.rp g (kk + 1)) := fun e9 => absurd (rcmp_0.mpr e9) (by omega)
                            have hgt9 : S.v (S.rp g (kk + 1)) < S.v i := Rat.not_le.mp fun e9 => hne9 (Rat.le_antisymm e9 hge9)
                            have hk1 : kk + 1 + 1 < S.rc g := by
                              rcases Nat.lt_or_ge (kk + 1 + 1) (S.rc g) with z9 | z9
                              · exact z9
                              · have e9 : kk + 1 = S.rc g - 1 := by omega
                                rw [← e9] at hhi9
                                exact absurd (Rat.le_antisymm hhi9 hge9) hne9
                            have hlt9 := hab (kk + 1 + 1) (by omega) hk1
                            have hb_k2 := hW.rp g hi_g (kk + 1 + 1) hk1
                            have hpk2 := hb_k2.1
                            have hhk2 := hb_k2.2.1
                            have hnz9 := df_nz (rt_tr hgt9 hlt9)
                            have hb_k0 := hW.rp g hi_g 0 (by omega)
                            have hhk0 := hb_k0.2.1
                            have rbq_945 : rb (S.v (S.rp g (kk + 1 + 1))) 100 := rb_of (hW.v _ hpk2).1
                            have rbq_946 : rb (S.v (S.rh g (kk + 1 + 1))) 100 := rb_of (hW.v _ hhk2).1
                            have rbq_947 : rb (S.v (S.rp g (kk + 1))) 100 := rb_of (hW.v _ hpk).1
                            have rbq_948 : rb (S.v (S.rh g (kk + 1))) 100 := rb_of (hW.v _ hhk).1
                            refine gs (pc' := 202) (fun _ _ _ _ _ hl => lv_aload_n hx hb d_Mo_at_201 rfl (lv_at hl 3 rfl)) ?_
                            obtain ⟨sg_949, sh_950, kt_951, kb_952, ks_953, Rr_954, kf_955, v_956, v_957, v_958, v_959, v_960, v_961, v_962⟩ := id hV_939
                            have f_963 : G_934 hm = some (70, .inr (9, [.int (nI 0), .int (nI S.n), .ref (A 2), .ref (A 3), .ref (A 4), .ref (A 5), .int sg_949, .int sh_950, .ref (A 8), .ref (A 9), .int (nI S.rn), .ref (A 11), .ref (A 12), .ref (A 13), .int (nI S.wn), .ref (A 15), .ref (A 16), .ref (A 17), .ref (A 18), .int kt_951, .int kb_952, .int ks_953])) := v_956
                            refine g_get hx hb hts hin_Mo hown hK f_963 rfl 3 (by decide) (hts _ wm757) (fun _ h9 => h9) rfl d_Mo_at_202 ?_
                            refine gs (pc' := 206) (fun _ _ _ _ _ hl => lv_aload_n hx hb d_Mo_at_205 rfl (lv_at hl 3 rfl)) ?_
                            refine g_get hx hb hts hin_Mo hown hK f_963 rfl 13 (by decide) (hts _ wm767) (fun _ h9 => h9) rfl d_Mo_at_206 ?_
                            refine gs (pc' := 210) (fun _ _ _ _ _ hl => lv_iload_n hx hb d_Mo_at_209 rfl (lv_at hl 1 rfl)) ?_
                            obtain ⟨cor_964, pla_965, hei_966, f_967, f_968, f_969, ho_970⟩ := id v_962.2.1
                            refine g_iald hx hb hK 0 f_969 rfl (show vp_in (nI (16 * g + 0)) 128 from vp_in_nI (by omega) (by omega)) d_Mo_at_210 ?_
                            refine g_eqi (show hei_966 (nI (16 * g + 0)).toNatClampNeg = hei_966 (16 * g + 0) from by rw [nI_clamp (by omega)]) ?_
                            refine g_eqi (show hei_966 (16 * g + 0) = nI (S.rh g 0) from ((ho_970 g (by omega)).2 0 (by omega)).2) ?_
                            have rbq_971 := (hW.rp g (by omega) 0 (by omega)).2.1
                            obtain ⟨sgn_972, unt_973, sto_974, szs_975, f_976, f_977, f_978, f_979, hv_980⟩ := id v_962.1
                            refine g_iald hx hb hK 0 f_977 rfl (show vp_in (nI (S.rh g 0)) 200 from vp_in_nI (by omega) (by omega)) d_Mo_at_211 ?_
                            refine g_eqi (show unt_973 (nI (S.rh g 0)).toNatClampNeg = unt_973 (S.rh g 0) from by rw [nI_clamp (by omega)]) ?_
                            refine g_eqi (show unt_973 (S.rh g 0) = iI (S.un (S.rh g 0)) from (hv_980 (S.rh g 0) (by omega)).2.1) ?_
                            have ub_981 := (hW.v (S.rh g 0) (by omega)).2.1
                            have ub_982 := (hW.v (S.rh g 0) (by omega)).2.2
                            refine gst (pc' := 214) (L' := [(6, .int (iI (S.un (S.rh g 0)))), (5, .int (nI (16 * g + (kk + 1)))), (3, .int (nI (16 * g + 0))), (4, .int (nI (S.rc g))), (0, .ref hm), (1, .int (nI g)), (2, .int (nI i))]) (fun _ _ _ _ _ hl => lv_istore hx hb d_Mo_at_212 hl (by decide) rfl) ?_
                            refine gs (pc' := 215) (fun _ _ _ _ _ hl => lv_aload_n hx hb d_Mo_at_214 rfl (lv_at hl 4 rfl)) ?_
                            refine gs (pc' := 216) (fun _ _ _ _ _ hl => lv_aload_n hx hb d_Mo_at_215 rfl (lv_at hl 4 rfl)) ?_
                            refine g_get hx hb hts hin_Mo hown hK f_963 rfl 13 (by decide) (hts _ wm767) (fun _ h9 => h9) rfl d_Mo_at_216 ?_
                            refine gs (pc' := 221) (fun _ _ _ _ _ hl => lv_iload hx hb d_Mo_at_219 (lv_at hl 1 rfl)) ?_
                            refine gs (pc' := 222) (fun _ _ _ _ _ hl => lv_iconst (v := nI 1) hx hb d_Mo_at_221 (by decide)) ?_
                            refine gs (pc' := 223) (fun _ _ _ _ _ hl => lv_iadd hx hb d_Mo_at_222) ?_
                            refine g_eqi (show (nI (16 * g + (kk + 1))) + (nI 1) = nI (16 * g + (kk + 1 + 1)) from (nI_add _ _).trans (congrArg nI (show (16 * g + (kk + 1)) + 1 = 16 * g + (kk + 1 + 1) by omega))) ?_
                            refine g_iald hx hb hK 0 f_969 rfl (show vp_in (nI (16 * g + (kk + 1 + 1))) 128 from vp_in_nI (by omega) (by omega)) d_Mo_at_223 ?_
                            refine g_eqi (show hei_966 (nI (16 * g + (kk + 1 + 1))).toNatClampNeg = hei_966 (16 * g + (kk + 1 + 1)) from by rw [nI_clamp (by omega)]) ?_
                            refine g_eqi (show hei_966 (16 * g + (kk + 1 + 1)) = nI (S.rh g (kk + 1 + 1)) from ((ho_970 g (by omega)).2 (kk + 1 + 1) (by omega)).2) ?_
                            have rbq_983 := (hW.rp g (by omega) (kk + 1 + 1) (by omega)).2.1
                            have hV_984 : MW cA hm A S 0 none none qk G_934 := ⟨sg_949, sh_950, kt_951, kb_952, ks_953, Rr_954, _, f_963, v_957, v_958, v_959, v_960, v_961, v_962⟩
                            refine g_outv hlo (g_runV (As := [.int (nI (S.rh g (kk + 1 + 1)))]) (rest := []) ⟨hx, hb, hml, hown, hts⟩ hK hZ hRc hRs (c_Mo_load l D cA lo MC MS G_934 B hm A S 0 none none qk hV_984 hW (S.rh g (kk + 1 + 1)) (by omega) hB1 hB2) (fun _ _ => cwV 1 hts (tb_good (tb_cons wm897 (tb_cons wm899 (tb_cons ws34 (tb_cons wm12 k_Mo_load))))) rfl rfl rfl (by decide +kernel) ⟨by rw [hRf]; exact Nat.le_of_ble_eq_true rfl, by rw [hRl]; exact Nat.le_of_ble_eq_true rfl⟩) f_963 rfl hB1 hB2 rfl (Nat.le_of_ble_eq_true rfl) d_Mo_at_224) (fun G_985 B_986 p_987 => ?_)
                            obtain ⟨e_988, hV_989, gf_990⟩ := p_987
                            have e_988b : B = B_986 := e_988.symm
                            subst e_988b
                            have gf_991 : gfr mT G G_985 := mT_mT gf_942 gf_990
                            refine gs (pc' := 228) (fun _ _ _ _ _ hl => lv_aload_n hx hb d_Mo_at_227 rfl (lv_at hl 4 rfl)) ?_
                            refine gs (pc' := 229) (fun _ _ _ _ _ hl => lv_aload_n hx hb d_Mo_at_228 rfl (lv_at hl 4 rfl)) ?_
                            obtain ⟨sg_992, sh_993, kt_994, kb_995, ks_996, Rr_997, kf_998, v_999, v_1000, v_1001, v_1002, v_1003, v_1004, v_1005⟩ := id hV_989
                            have f_1006 : G_985 hm = some (70, .inr (9, [.int (nI 0), .int (nI S.n), .ref (A 2), .ref (A 3), .ref (A 4), .ref (A 5), .int sg_992, .int sh_993, .ref (A 8), .ref (A 9), .int (nI S.rn), .ref (A 11), .ref (A 12), .ref (A 13), .int (nI S.wn), .ref (A 15), .ref (A 16), .ref (A 17), .ref (A 18), .int kt_994, .int kb_995, .int ks_996])) := v_999
                            refine g_get hx hb hts hin_Mo hown hK f_1006 rfl 13 (by decide) (hts _ wm767) (fun _ h9 => h9) rfl d_Mo_at_229 ?_
                            refine gs (pc' := 234) (fun _ _ _ _ _ hl => lv_iload hx hb d_Mo_at_232 (lv_at hl 1 rfl)) ?_
                            obtain ⟨cor_1007, pla_1008, hei_1009, f_1010, f_1011, f_1012, ho_1013⟩ := id v_1005.2.1
                            refine g_iald hx hb hK 0 f_1012 rfl (show vp_in (nI (16 * g + (kk + 1))) 128 from vp_in_nI (by omega) (by omega)) d_Mo_at_234 ?_
                            refine g_eqi (show hei_1009 (nI (16 * g + (kk + 1))).toNatClampNeg = hei_1009 (16 * g + (kk + 1)) from by rw [nI_clamp (by omega)]) ?_
                            refine g_eqi (show hei_1009 (16 * g + (kk + 1)) = nI (S.rh g (kk + 1)) from ((ho_1013 g (by omega)).2 (kk + 1) (by omega)).2) ?_
                            have rbq_1014 := (hW.rp g (by omega) (kk + 1) (by omega)).2.1
                            have hV_1015 : MW cA hm A S 0 (some (S.v (S.rh g (kk + 1 + 1)))) none qk G_985 := ⟨sg_992, sh_993, kt_994, kb_995, ks_996, Rr_997, _, f_1006, v_1000, v_1001, v_1002, v_1003, v_1004, v_1005⟩
                            refine g_outv hlo (g_runV (As := [.int (nI (S.rh g (kk + 1)))]) (rest := []) ⟨hx, hb, hml, hown, hts⟩ hK hZ hRc hRs (c_Mo_loadOther l D cA lo MC MS G_985 B hm A S 0 (some (S.v (S.rh g (kk + 1 + 1)))) none qk hV_1015 hW (S.rh g (kk + 1)) (by omega) hB1 hB2) (fun _ _ => cwV 1 hts (tb_good (tb_cons wm905 (tb_cons wm907 (tb_cons ws36 (tb_cons wm12 k_Mo_loadOther))))) rfl rfl rfl (by decide +kernel) ⟨by rw [hRf]; exact Nat.le_of_ble_eq_true rfl, by rw [hRl]; exact Nat.le_of_ble_eq_true rfl⟩) f_1006 rfl hB1 hB2 rfl (Nat.le_of_ble_eq_true rfl) d_Mo_at_235) (fun G_1016 B_1017 p_1018 => ?_)
                            obtain ⟨e_1019, hV_1020, gf_1021⟩ := p_1018
                            have e_1019b : B = B_1017 := e_1019.symm
                            subst e_1019b
                            have gf_1022 : gfr mT G G_1016 := mT_mT gf_991 gf_1021
                            refine gs (pc' := 239) (fun _ _ _ _ _ hl => lv_aload_n hx hb d_Mo_at_238 rfl (lv_at hl 4 rfl)) ?_
                            refine gs (pc' := 240) (fun _ _ _ _ _ hl => lv_iconst (v := (-1)) hx hb d_Mo_at_239 (by decide)) ?_
                            refine g_eqi (show (-1) = iI (-1) from by decide) ?_
                            have rbq_1023 : rb ((S.v (S.rh g (kk + 1 + 1))) - (S.v (S.rh g (kk + 1)))) (100 + 100 + 1) := rb_sub (j := 100) (k := 100) rbq_946 rbq_948
                            obtain ⟨sg_1024, sh_1025, kt_1026, kb_1027, ks_1028, Rr_1029, kf_1030, v_1031, v_1032, v_1033, v_1034, v_1035, v_1036, v_1037⟩ := id hV_1020
                            have f_1038 : G_1016 hm = some (70, .inr (9, [.int (nI 0), .int (nI S.n), .ref (A 2), .ref (A 3), .ref (A 4), .ref (A 5), .int sg_1024, .int sh_1025, .ref (A 8), .ref (A 9), .int (nI S.rn), .ref (A 11), .ref (A 12), .ref (A 13), .int (nI S.wn), .ref (A 15), .ref (A 16), .ref (A 17), .ref (A 18), .int kt_1026, .int kb_1027, .int ks_1028])) := v_1031
                            have hV_1039 : MW cA hm A S 0 (some (S.v (S.rh g (kk + 1 + 1)))) (some (S.v (S.rh g (kk + 1)))) qk G_1016 := ⟨sg_1024, sh_1025, kt_1026, kb_1027, ks_1028, Rr_1029, _, f_1038, v_1032, v_1033, v_1034, v_1035, v_1036, v_1037⟩
                            refine g_outv hlo (g_runV (As := [.int (iI (-1))]) (rest := []) ⟨hx, hb, hml, hown, hts⟩ hK hZ hRc hRs (c_Mo_addOther l D cA lo MC MS G_1016 B hm A S 0 (some (S.v (S.rh g (kk + 1 + 1)))) (some (S.v (S.rh g (kk + 1)))) qk hV_1039 hW (S.v (S.rh g (kk + 1 + 1))) (S.v (S.rh g (kk + 1))) rfl rfl (100) rbq_946 (100) rbq_948 (by omega) (-1) ((S.v (S.rh g (kk + 1 + 1))) - (S.v (S.rh g (kk + 1)))) (Or.inr ⟨rfl, rfl⟩) hB1 hB2) (fun _ _ => cwV 1 hts (tb_good (tb_cons wm909 (tb_cons wm911 (tb_cons ws37 (tb_cons wm12 k_Mo_addOther))))) rfl rfl rfl (by decide +kernel) ⟨by rw [hRf]; exact Nat.le_of_ble_eq_true rfl, by rw [hRl]; exact Nat.le_of_ble_eq_true rfl⟩) f_1038 rfl hB1 hB2 rfl (Nat.le_of_ble_eq_true rfl) d_Mo_at_240) (fun G_1040 B_1041 p_1042 => ?_)
                            obtain ⟨e_1043, hV_1044, gf_1045⟩ := p_1042
                            have e_1043b : B = B_1041 := e_1043.symm
                            subst e_1043b
                            have gf_1046 : gfr mT G G_1040 := mT_mT gf_1022 gf_1045
                            refine gs (pc' := 244) (fun _ _ _ _ _ hl => lv_aload_n hx hb d_Mo_at_243 rfl (lv_at hl 4 rfl)) ?_
                            obtain ⟨sg_1047, sh_1048, kt_1049, kb_1050, ks_1051, Rr_1052, kf_1053, v_1054, v_1055, v_1056, v_1057, v_1058, v_1059, v_1060⟩ := id hV_1044
                            have f_1061 : G_1040 hm = some (70, .inr (9, [.int (nI 0), .int (nI S.n), .ref (A 2), .ref (A 3), .ref (A 4), .ref (A 5), .int sg_1047, .int sh_1048, .ref (A 8), .ref (A 9), .int (nI S.rn), .ref (A 11), .ref (A 12), .ref (A 13), .int (nI S.wn), .ref (A 15), .ref (A 16), .ref (A 17), .ref (A 18), .int kt_1049, .int kb_1050, .int ks_1051])) := v_1054
                            have hV_1062 : MW cA hm A S 0 (some ((S.v (S.rh g (kk + 1 + 1))) - (S.v (S.rh g (kk + 1))))) none qk G_1040 := ⟨sg_1047, sh_1048, kt_1049, kb_1050, ks_1051, Rr_1052, _, f_1061, v_1055, v_1056, v_1057, v_1058, v_1059, v_1060⟩
                            refine g_outv hlo (g_runV (As := []) (rest := []) ⟨hx, hb, hml, hown, hts⟩ hK hZ hRc hRs (c_Mo_stash l D cA lo MC MS G_1040 B hm A S 0 (some ((S.v (S.rh g (kk + 1 + 1))) - (S.v (S.rh g (kk + 1))))) none qk hV_1062 hW ((S.v (S.rh g (kk + 1 + 1))) - (S.v (S.rh g (kk + 1)))) rfl hB1 hB2) (fun _ _ => cwV 0 hts (tb_good (tb_cons wm992 (tb_cons wm994 (tb_cons ws46 (tb_cons wm12 k_Mo_stash))))) rfl rfl rfl (by decide +kernel) ⟨by rw [hRf]; exact Nat.le_of_ble_eq_true rfl, by rw [hRl]; exact Nat.le_of_ble_eq_true rfl⟩) f_1061 rfl hB1 hB2 rfl (Nat.le_of_ble_eq_true rfl) d_Mo_at_244) (fun G_1063 B_1064 p_1065 => ?_)
                            obtain ⟨e_1066, hV_1067, gf_1068⟩ := p_1065
                            have e_1066b : B = B_1064 := e_1066.symm
                            subst e_1066b
                            have gf_1069 : gfr mT G G_1063 := mT_mT gf_1046 gf_1068
                            refine gs (pc' := 248) (fun _ _ _ _ _ hl => lv_aload_n hx hb d_Mo_at_247 rfl (lv_at hl 4 rfl)) ?_
                            refine gs (pc' := 249) (fun _ _ _ _ _ hl => lv_iload_n hx hb d_Mo_at_248 rfl (lv_at hl 6 rfl)) ?_
                            obtain ⟨sg_1070, sh_1071, kt_1072, kb_1073, ks_1074, Rr_1075, kf_1076, v_1077, v_1078, v_1079, v_1080, v_1081, v_1082, v_1083⟩ := id hV_1067
                            have f_1084 : G_1063 hm = some (70, .inr (9, [.int (nI 0), .int (nI S.n), .ref (A 2), .ref (A 3), .ref (A 4), .ref (A 5), .int sg_1070, .int sh_1071, .ref (A 8), .ref (A 9), .int (nI S.rn), .ref (A 11), .ref (A 12), .ref (A 13), .int (nI S.wn), .ref (A 15), .ref (A 16), .ref (A 17), .ref (A 18), .int kt_1072, .int kb_1073, .int ks_1074])) := v_1077
                            have hV_1085 : MW cA hm A S 0 (some ((S.v (S.rh g (kk + 1 + 1))) - (S.v (S.rh g (kk + 1))))) none (some ((S.v (S.rh g (kk + 1 + 1))) - (S.v (S.rh g (kk + 1))))) G_1063 := ⟨sg_1070, sh_1071, kt_1072, kb_1073, ks_1074, Rr_1075, _, f_1084, v_1078, v_1079, v_1080, v_1081, v_1082, v_1083⟩
                            refine g_outv hlo (g_runV (As := [.int (nI i)]) (rest := []) ⟨hx, hb, hml, hown, hts⟩ hK hZ hRc hRs (c_Mo_load l D cA lo MC MS G_1063 B hm A S 0 (some ((S.v (S.rh g (kk + 1 + 1))) - (S.v (S.rh g (kk + 1))))) none (some ((S.v (S.rh g (kk + 1 + 1))) - (S.v (S.rh g (kk + 1))))) hV_1085 hW i (by omega) hB1 hB2) (fun _ _ => cwV 1 hts (tb_good (tb_cons wm897 (tb_cons wm899 (tb_cons ws34 (tb_cons wm12 k_Mo_load))))) rfl rfl rfl (by decide +kernel) ⟨by rw [hRf]; exact Nat.le_of_ble_eq_true rfl, by rw [hRl]; exact Nat.le_of_ble_eq_true rfl⟩) f_1084 rfl hB1 hB2 rfl (Nat.le_of_ble_eq_true rfl) d_Mo_at_249) (fun G_1086 B_1087 p_1088 => ?_)
                            obtain ⟨e_1089, hV_1090, gf_1091⟩ := p_1088
                            have e_1089b : B = B_1087 := e_1089.symm
                            subst e_1089b
                            have gf_1092 : gfr mT G G_1086 := mT_mT gf_1069 gf_1091
                            refine gs (pc' := 253) (fun _ _ _ _ _ hl => lv_aload_n hx hb d_Mo_at_252 rfl (lv_at hl 4 rfl)) ?_
                            refine gs (pc' := 254) (fun _ _ _ _ _ hl => lv_aload_n hx hb d_Mo_at_253 rfl (lv_at hl 4 rfl)) ?_
                            obtain ⟨sg_1093, sh_1094, kt_1095, kb_1096, ks_1097, Rr_1098, kf_1099, v_1100, v_1101, v_1102, v_1103, v_1104, v_1105, v_1106⟩ := id hV_1090
                            have f_1107 : G_1086 hm = some (70, .inr (9, [.int (nI 0), .int (nI S.n), .ref (A 2), .ref (A 3), .ref (A 4), .ref (A 5), .int sg_1093, .int sh_1094, .ref (A 8), .ref (A 9), .int (nI S.rn), .ref (A 11), .ref (A 12), .ref (A 13), .int (nI S.wn), .ref (A 15), .ref (A 16), .ref (A 17), .ref (A 18), .int kt_1095, .int kb_1096, .int ks_1097])) := v_1100
                            refine g_get hx hb hts hin_Mo hown hK f_1107 rfl 12 (by decide) (hts _ wm766) (fun _ h9 => h9) rfl d_Mo_at_254 ?_
                            refine gs (pc' := 259) (fun _ _ _ _ _ hl => lv_iload hx hb d_Mo_at_257 (lv_at hl 1 rfl)) ?_
                            obtain ⟨cor_1108, pla_1109, hei_1110, f_1111, f_1112, f_1113, ho_1114⟩ := id v_1106.2.1
                            refine g_iald hx hb hK 0 f_1112 rfl (show vp_in (nI (16 * g + (kk + 1))) 128 from vp_in_nI (by omega) (by omega)) d_Mo_at_259 ?_
                            refine g_eqi (show pla_1109 (nI (16 * g + (kk + 1))).toNatClampNeg = pla_1109 (16 * g + (kk + 1)) from by rw [nI_clamp (by omega)]) ?_
                            refine g_eqi (show pla_1109 (16 * g + (kk + 1)) = nI (S.rp g (kk + 1)) from ((ho_1114 g (by omega)).2 (kk + 1) (by omega)).1) ?_
                            have rbq_1115 := (hW.rp g (by omega) (kk + 1) (by omega)).1
                            have hV_1116 : MW cA hm A S 0 (some (S.v i)) none (some ((S.v (S.rh g (kk + 1 + 1))) - (S.v (S.rh g (kk + 1))))) G_1086 := ⟨sg_1093, sh_1094, kt_1095, kb_1096, ks_1097, Rr_1098, _, f_1107, v_1101, v_1102, v_1103, v_1104, v_1105, v_1106⟩
                            refine g_outv hlo (g_runV (As := [.int (nI (S.rp g (kk + 1)))]) (rest := []) ⟨hx, hb, hml, hown, hts⟩ hK hZ hRc hRs (c_Mo_loadOther l D cA lo MC MS G_1086 B hm A S 0 (some (S.v i)) none (some ((S.v (S.rh g (kk + 1 + 1))) - (S.v (S.rh g (kk + 1))))) hV_1116 hW (S.rp g (kk + 1)) (by omega) hB1 hB2) (fun _ _ => cwV 1 hts (tb_good (tb_cons wm905 (tb_cons wm907 (tb_cons ws36 (tb_cons wm12 k_Mo_loadOther))))) rfl rfl rfl (by decide +kernel) ⟨by rw [hRf]; exact Nat.le_of_ble_eq_true rfl, by rw [hRl]; exact Nat.le_of_ble_eq_true rfl⟩) f_1107 rfl hB1 hB2 rfl (Nat.le_of_ble_eq_true rfl) d_Mo_at_260) (fun G_1117 B_1118 p_1119 => ?_)
                            obtain ⟨e_1120, hV_1121, gf_1122⟩ := p_1119
                            have e_1120b : B = B_1118 := e_1120.symm
                            subst e_1120b
                            have gf_1123 : gfr mT G G_1117 := mT_mT gf_1092 gf_1122
                            refine gs (pc' := 264) (fun _ _ _ _ _ hl => lv_aload_n hx hb d_Mo_at_263 rfl (lv_at hl 4 rfl)) ?_
                            refine gs (pc' := 265) (fun _ _ _ _ _ hl => lv_iconst (v := (-1)) hx hb d_Mo_at_264 (by decide)) ?_
                            refine g_eqi (show (-1) = iI (-1) from by decide) ?_
                            have rbq_1124 : rb ((S.v i) - (S.v (S.rp g (kk + 1)))) (100 + 100 + 1) := rb_sub (j := 100) (k := 100) rbq_101 rbq_947
                            obtain ⟨sg_1125, sh_1126, kt_1127, kb_1128, ks_1129, Rr_1130, kf_1131, v_1132, v_1133, v_1134, v_1135, v_1136, v_1137, v_1138⟩ := id hV_1121
                            have f_1139 : G_1117 hm = some (70, .inr (9, [.int (nI 0), .int (nI S.n), .ref (A 2), .ref (A 3), .ref (A 4), .ref (A 5), .int sg_1125, .int sh_1126, .ref (A 8), .ref (A 9), .int (nI S.rn), .ref (A 11), .ref (A 12), .ref (A 13), .int (nI S.wn), .ref (A 15), .ref (A 16), .ref (A 17), .ref (A 18), .int kt_1127, .int kb_1128, .int ks_1129])) := v_1132
                            have hV_1140 : MW cA hm A S 0 (some (S.v i)) (some (S.v (S.rp g (kk + 1)))) (some ((S.v (S.rh g (kk + 1 + 1))) - (S.v (S.rh g (kk + 1))))) G_1117 := ⟨sg_1125, sh_1126, kt_1127, kb_1128, ks_1129, Rr_1130, _, f_1139, v_1133, v_1134, v_1135, v_1136, v_1137, v_1138⟩
                            refine g_outv hlo (g_runV (As := [.int (iI (-1))]) (rest := []) ⟨hx, hb, hml, hown, hts⟩ hK hZ hRc hRs (c_Mo_addOther l D cA lo MC MS G_1117 B hm A S 0 (some (S.v i)) (some (S.v (S.rp g (kk + 1)))) (some ((S.v (S.rh g (kk + 1 + 1))) - (S.v (S.rh g (kk + 1))))) hV_1140 hW (S.v i) (S.v (S.rp g (kk + 1))) rfl rfl (100) rbq_101 (100) rbq_947 (by omega) (-1) ((S.v i) - (S.v (S.rp g (kk + 1)))) (Or.inr ⟨rfl, rfl⟩) hB1 hB2) (fun _ _ => cwV 1 hts (tb_good (tb_cons wm909 (tb_cons wm911 (tb_cons ws37 (tb_cons wm12 k_Mo_addOther))))) rfl rfl rfl (by decide +kernel) ⟨by rw [hRf]; exact Nat.le_of_ble_eq_true rfl, by rw [hRl]; exact Nat.le_of_ble_eq_true rfl⟩) f_1139 rfl hB1 hB2 rfl (Nat.le_of_ble_eq_true rfl) d_Mo_at_265) (fun G_1141 B_1142 p_1143 => ?_)
                            obtain ⟨e_1144, hV_1145, gf_1146⟩ := p_1143
                            have e_1144b : B = B_1142 := e_1144.symm
                            subst e_1144b
                            have gf_1147 : gfr mT G G_1141 := mT_mT gf_1123 gf_1146
                            refine gs (pc' := 269) (fun _ _ _ _ _ hl => lv_aload_n hx hb d_Mo_at_268 rfl (lv_at hl 4 rfl)) ?_
                            obtain ⟨sg_1148, sh_1149, kt_1150, kb_1151, ks_1152, Rr_1153, kf_1154, v_1155, v_1156, v_1157, v_1158, v_1159, v_1160, v_1161⟩ := id hV_1145
                            have f_1162 : G_1141 hm = some (70, .inr (9, [.int (nI 0), .int (nI S.n), .ref (A 2), .ref (A 3), .ref (A 4), .ref (A 5), .int sg_1148, .int sh_1149, .ref (A 8), .ref (A 9), .int (nI S.rn), .ref (A 11), .ref (A 12), .ref (A 13), .int (nI S.wn), .ref (A 15), .ref (A 16), .ref (A 17), .ref (A 18), .int kt_1150, .int kb_1151, .int ks_1152])) := v_1155
                            have hV_1163 : MW cA hm A S 0 (some ((S.v i) - (S.v (S.rp g (kk + 1))))) none (some ((S.v (S.rh g (kk + 1 + 1))) - (S.v (S.rh g (kk + 1))))) G_1141 := ⟨sg_1148, sh_1149, kt_1150, kb_1151, ks_1152, Rr_1153, _, f_1162, v_1156, v_1157, v_1158, v_1159, v_1160, v_1161⟩
                            refine g_outv hlo (g_runV (As := []) (rest := []) ⟨hx, hb, hml, hown, hts⟩ hK hZ hRc hRs (c_Mo_unstash l D cA lo MC MS G_1141 B hm A S 0 (some ((S.v i) - (S.v (S.rp g (kk + 1))))) none (some ((S.v (S.rh g (kk + 1 + 1))) - (S.v (S.rh g (kk + 1))))) hV_1163 hW ((S.v (S.rh g (kk + 1 + 1))) - (S.v (S.rh g (kk + 1)))) rfl hB1 hB2) (fun _ _ => cwV 0 hts (tb_good (tb_cons wm996 (tb_cons wm998 (tb_cons ws47 (tb_cons wm12 k_Mo_unstash))))) rfl rfl rfl (by decide +kernel) ⟨by rw [hRf]; exact Nat.le_of_ble_eq_true rfl, by rw [hRl]; exact Nat.le_of_ble_eq_true rfl⟩) f_1162 rfl hB1 hB2 rfl (Nat.le_of_ble_eq_true rfl) d_Mo_at_269) (fun G_1164 B_1165 p_1166 => ?_)
                            obtain ⟨e_1167, hV_1168, gf_1169⟩ := p_1166
                            have e_1167b : B = B_1165 := e_1167.symm
                            subst e_1167b
                            have gf_1170 : gfr mT G G_1164 := mT_mT gf_1147 gf_1169
                            refine gs (pc' := 273) (fun _ _ _ _ _ hl => lv_aload_n hx hb d_Mo_at_272 rfl (lv_at hl 4 rfl)) ?_
                            have rbq_1171 : rb (((S.v i) - (S.v (S.rp g (kk + 1)))) * ((S.v (S.rh g (kk + 1 + 1))) - (S.v (S.rh g (kk + 1))))) (100 + 100 + 1 + 100 + 100 + 1) := rb_mul (j := 100 + 100 + 1) (k := 100 + 100 + 1) rbq_1124 rbq_1023
                            obtain ⟨sg_1172, sh_1173, kt_1174, kb_1175, ks_1176, Rr_1177, kf_1178, v_1179, v_1180, v_1181, v_1182, v_1183, v_1184, v_1185⟩ := id hV_1168
                            have f_1186 : G_1164 hm = some (70, .inr (9, [.int (nI 0), .int (nI S.n), .ref (A 2), .ref (A 3), .ref (A 4), .ref (A 5), .int sg_1172, .int sh_1173, .ref (A 8), .ref (A 9), .int (nI S.rn), .ref (A 11), .ref (A 12), .ref (A 13), .int (nI S.wn), .ref (A 15), .ref (A 16), .ref (A 17), .ref (A 18), .int kt_1174, .int kb_1175, .int ks_1176])) := v_1179
                            have hV_1187 : MW cA hm A S 0 (some ((S.v i) - (S.v (S.rp g (kk + 1))))) (some ((S.v (S.rh g (kk + 1 + 1))) - (S.v (S.rh g (kk + 1))))) (some ((S.v (S.rh g (kk + 1 + 1))) - (S.v (S.rh g (kk + 1))))) G_1164 := ⟨sg_1172, sh_1173, kt_1174, kb_1175, ks_1176, Rr_1177, _, f_1186, v_1180, v_1181, v_1182, v_1183, v_1184, v_1185⟩
                            refine g_outv hlo (g_runV (As := []) (rest := []) ⟨hx, hb, hml, hown, hts⟩ hK hZ hRc hRs (c_Mo_timesOther l D cA lo MC MS G_1164 B hm A S 0 (some ((S.v i) - (S.v (S.rp g (kk + 1))))) (some ((S.v (S.rh g (kk + 1 + 1))) - (S.v (S.rh g (kk + 1))))) (some ((S.v (S.rh g (kk + 1 + 1))) - (S.v (S.rh g (kk + 1))))) hV_1187 hW ((S.v i) - (S.v (S.rp g (kk + 1)))) ((S.v (S.rh g (kk + 1 + 1))) - (S.v (S.rh g (kk + 1)))) rfl rfl (100 + 100 + 1) rbq_1124 (100 + 100 + 1) rbq_1023 (by omega) hB1 hB2) (fun _ _ => cwV 0 hts (tb_good (tb_cons wm933 (tb_cons wm935 (tb_cons ws42 (tb_cons wm12 k_Mo_timesOther))))) rfl rfl rfl (by decide +kernel) ⟨by rw [hRf]; exact Nat.le_of_ble_eq_true rfl, by rw [hRl]; exact Nat.le_of_ble_eq_true rfl⟩) f_1186 rfl hB1 hB2 rfl (Nat.le_of_ble_eq_true rfl) d_Mo_at_273) (fun G_1188 B_1189 p_1190 => ?_)
                            obtain ⟨e_1191, hV_1192, gf_1193⟩ := p_1190
                            have e_1191b : B = B_1189 := e_1191.symm
                            subst e_1191b
                            have gf_1194 : gfr mT G G_1188 := mT_mT gf_1170 gf_1193
                            refine gs (pc' := 277) (fun _ _ _ _ _ hl => lv_aload_n hx hb d_Mo_at_276 rfl (lv_at hl 4 rfl)) ?_
                            obtain ⟨sg_1195, sh_1196, kt_1197, kb_1198, ks_1199, Rr_1200, kf_1201, v_1202, v_1203, v_1204, v_1205, v_1206, v_1207, v_1208⟩ := id hV_1192
                            have f_1209 : G_1188 hm = some (70, .inr (9, [.int (nI 0), .int (nI S.n), .ref (A 2), .ref (A 3), .ref (A 4), .ref (A 5), .int sg_1195, .int sh_1196, .ref (A 8), .ref (A 9), .int (nI S.rn), .ref (A 11), .ref (A 12), .ref (A 13), .int (nI S.wn), .ref (A 15), .ref (A 16), .ref (A 17), .ref (A 18), .int kt_1197, .int kb_1198, .int ks_1199])) := v_1202
                            have hV_1210 : MW cA hm A S 0 (some (((S.v i) - (S.v (S.rp g (kk + 1)))) * ((S.v (S.rh g (kk + 1 + 1))) - (S.v (S.rh g (kk + 1)))))) none (some ((S.v (S.rh g (kk + 1 + 1))) - (S.v (S.rh g (kk + 1))))) G_1188 := ⟨sg_1195, sh_1196, kt_1197, kb_1198, ks_1199, Rr_1200, _, f_1209, v_1203, v_1204, v_1205, v_1206, v_1207, v_1208⟩
                            refine g_outv hlo (g_runV (As := []) (rest := []) ⟨hx, hb, hml, hown, hts⟩ hK hZ hRc hRs (c_Mo_stash l D cA lo MC MS G_1188 B hm A S 0 (some (((S.v i) - (S.v (S.rp g (kk + 1)))) * ((S.v (S.rh g (kk + 1 + 1))) - (S.v (S.rh g (kk + 1)))))) none (some ((S.v (S.rh g (kk + 1 + 1))) - (S.v (S.rh g (kk + 1))))) hV_1210 hW (((S.v i) - (S.v (S.rp g (kk + 1)))) * ((S.v (S.rh g (kk + 1 + 1))) - (S.v (S.rh g (kk + 1))))) rfl hB1 hB2) (fun _ _ => cwV 0 hts (tb_good (tb_cons wm992 (tb_cons wm994 (tb_cons ws46 (tb_cons wm12 k_Mo_stash))))) rfl rfl rfl (by decide +kernel) ⟨by rw [hRf]; exact Nat.le_of_ble_eq_true rfl, by rw [hRl]; exact Nat.le_of_ble_eq_true rfl⟩) f_1209 rfl hB1 hB2 rfl (Nat.le_of_ble_eq_true rfl) d_Mo_at_277) (fun G_1211 B_1212 p_1213 => ?_)
                            obtain ⟨e_1214, hV_1215, gf_1216⟩ := p_1213
                            have e_1214b : B = B_1212 := e_1214.symm
                            subst e_1214b
                            have gf_1217 : gfr mT G G_1211 := mT_mT gf_1194 gf_1216
                            refine gs (pc' := 281) (fun _ _ _ _ _ hl => lv_aload_n hx hb d_Mo_at_280 rfl (lv_at hl 4 rfl)) ?_
                            refine gs (pc' := 282) (fun _ _ _ _ _ hl => lv_aload_n hx hb d_Mo_at_281 rfl (lv_at hl 4 rfl)) ?_
                            obtain ⟨sg_1218, sh_1219, kt_1220, kb_1221, ks_1222, Rr_1223, kf_1224, v_1225, v_1226, v_1227, v_1228, v_1229, v_1230, v_1231⟩ := id hV_1215
                            have f_1232 : G_1211 hm = some (70, .inr (9, [.int (nI 0), .int (nI S.n), .ref (A 2), .ref (A 3), .ref (A 4), .ref (A 5), .int sg_1218, .int sh_1219, .ref (A 8), .ref (A 9), .int (nI S.rn), .ref (A 11), .ref (A 12), .ref (A 13), .int (nI S.wn), .ref (A 15), .ref (A 16), .ref (A 17), .ref (A 18), .int kt_1220, .int kb_1221, .int ks_1222])) := v_1225
                            refine g_get hx hb hts hin_Mo hown hK f_1232 rfl 12 (by decide) (hts _ wm766) (fun _ h9 => h9) rfl d_Mo_at_282 ?_
                            refine gs (pc' := 287) (fun _ _ _ _ _ hl => lv_iload hx hb d_Mo_at_285 (lv_at hl 1 rfl)) ?_
                            refine gs (pc' := 288) (fun _ _ _ _ _ hl => lv_iconst (v := nI 1) hx hb d_Mo_at_287 (by decide)) ?_
                            refine gs (pc' := 289) (fun _ _ _ _ _ hl => lv_iadd hx hb d_Mo_at_288) ?_
                            refine g_eqi (show (nI (16 * g + (kk + 1))) + (nI 1) = nI (16 * g + (kk + 1 + 1)) from (nI_add _ _).trans (congrArg nI (show (16 * g + (kk + 1)) + 1 = 16 * g + (kk + 1 + 1) by omega))) ?_
                            obtain ⟨cor_1233, pla_1234, hei_1235, f_1236, f_1237, f_1238, ho_1239⟩ := id v_1231.2.1
                            refine g_iald hx hb hK 0 f_1237 rfl (show vp_in (nI (16 * g + (kk + 1 + 1))) 128 from vp_in_nI (by omega) (by omega)) d_Mo_at_289 ?_
                            refine g_eqi (show pla_1234 (nI (16 * g + (kk + 1 + 1))).toNatClampNeg = pla_1234 (16 * g + (kk + 1 + 1)) from by rw [nI_clamp (by omega)]) ?_
                            refine g_eqi (show pla_1234 (16 * g + (kk + 1 + 1)) = nI (S.rp g (kk + 1 + 1)) from ((ho_1239 g (by omega)).2 (kk + 1 + 1) (by omega)).1) ?_
                            have rbq_1240 := (hW.rp g (by omega) (kk + 1 + 1) (by omega)).1
                            have hV_1241 : MW cA hm A S 0 (some (((S.v i) - (S.v (S.rp g (kk + 1)))) * ((S.v (S.rh g (kk + 1 + 1))) - (S.v (S.rh g (kk + 1)))))) none (some (((S.v i) - (S.v (S.rp g (kk + 1)))) * ((S.v (S.rh g (kk + 1 + 1))) - (S.v (S.rh g (kk + 1)))))) G_1211 := ⟨sg_1218, sh_1219, kt_1220, kb_1221, ks_1222, Rr_1223, _, f_1232, v_1226, v_1227, v_1228, v_1229, v_1230, v_1231⟩
                            refine g_outv hlo (g_runV (As := [.int (nI (S.rp g (kk + 1 + 1)))]) (rest := []) ⟨hx, hb, hml, hown, hts⟩ hK hZ hRc hRs (c_Mo_load l D cA lo MC MS G_1211 B hm A S 0 (some (((S.v i) - (S.v (S.rp g (kk + 1)))) * ((S.v (S.rh g (kk + 1 + 1))) - (S.v (S.rh g (kk + 1)))))) none (some (((S.v i) - (S.v (S.rp g (kk + 1)))) * ((S.v (S.rh g (kk + 1 + 1))) - (S.v (S.rh g (kk + 1)))))) hV_1241 hW (S.rp g (kk + 1 + 1)) (by omega) hB1 hB2) (fun _ _ => cwV 1 hts (tb_good (tb_cons wm897 (tb_cons wm899 (tb_cons ws34 (tb_cons wm12 k_Mo_load))))) rfl rfl rfl (by decide +kernel) ⟨by rw [hRf]; exact Nat.le_of_ble_eq_true rfl, by rw [hRl]; exact Nat.le_of_ble_eq_true rfl⟩) f_1232 rfl hB1 hB2 rfl (Nat.le_of_ble_eq_true rfl) d_Mo_at_290) (fun G_1242 B_1243 p_1244 => ?_)
                            obtain ⟨e_1245, hV_1246, gf_1247⟩ := p_1244
                            have e_1245b : B = B_1243 := e_1245.symm
                            subst e_1245b
                            have gf_1248 : gfr mT G G_1242 := mT_mT gf_1217 gf_1247
                            refine gs (pc' := 294) (fun _ _ _ _ _ hl => lv_aload_n hx hb d_Mo_at_293 rfl (lv_at hl 4 rfl)) ?_
                            refine gs (pc' := 295) (fun _ _ _ _ _ hl => lv_aload_n hx hb d_Mo_at_294 rfl (lv_at hl 4 rfl)) ?_
                            obtain ⟨sg_1249, sh_1250, kt_1251, kb_1252, ks_1253, Rr_1254, kf_1255, v_1256, v_1257, v_1258, v_1259, v_1260, v_1261, v_1262⟩ := id hV_1246
                            have f_1263 : G_1242 hm = some (70, .inr (9, [.int (nI 0), .int (nI S.n), .ref (A 2), .ref (A 3), .ref (A 4), .ref (A 5), .int sg_1249, .int sh_1250, .ref (A 8), .ref (A 9), .int (nI S.rn), .ref (A 11), .ref (A 12), .ref (A 13), .int (nI S.wn), .ref (A 15), .ref (A 16), .ref (A 17), .ref (A 18), .int kt_1251, .int kb_1252, .int ks_1253])) := v_1256
                            refine g_get hx hb hts hin_Mo hown hK f_1263 rfl 12 (by decide) (hts _ wm766) (fun _ h9 => h9) rfl d_Mo_at_295 ?_
                            refine gs (pc' := 300) (fun _ _ _ _ _ hl => lv_iload hx hb d_Mo_at_298 (lv_at hl 1 rfl)) ?_
                            obtain ⟨cor_1264, pla_1265, hei_1266, f_1267, f_1268, f_1269, ho_1270⟩ := id v_1262.2.1
                            refine g_iald hx hb hK 0 f_1268 rfl (show vp_in (nI (16 * g + (kk + 1))) 128 from vp_in_nI (by omega) (by omega)) d_Mo_at_300 ?_
                            refine g_eqi (show pla_1265 (nI (16 * g + (kk + 1))).toNatClampNeg = pla_1265 (16 * g + (kk + 1)) from by rw [nI_clamp (by omega)]) ?_
                            refine g_eqi (show pla_1265 (16 * g + (kk + 1)) = nI (S.rp g (kk + 1)) from ((ho_1270 g (by omega)).2 (kk + 1) (by omega)).1) ?_
                            have rbq_1271 := (hW.rp g (by omega) (kk + 1) (by omega)).1
                            have hV_1272 : MW cA hm A S 0 (some (S.v (S.rp g (kk + 1 + 1)))) none (some (((S.v i) - (S.v (S.rp g (kk + 1)))) * ((S.v (S.rh g (kk + 1 + 1))) - (S.v (S.rh g (kk + 1)))))) G_1242 := ⟨sg_1249, sh_1250, kt_1251, kb_1252, ks_1253, Rr_1254, _, f_1263, v_1257, v_1258, v_1259, v_1260, v_1261, v_1262⟩
                            refine g_outv hlo (g_runV (As := [.int (nI (S.rp g (kk + 1)))]) (rest := []) ⟨hx, hb, hml, hown, hts⟩ hK hZ hRc hRs (c_Mo_loadOther l D cA lo MC MS G_1242 B hm A S 0 (some (S.v (S.rp g (kk + 1 + 1)))) none (some (((S.v i) - (S.v (S.rp g (kk + 1)))) * ((S.v (S.rh g (kk + 1 + 1))) - (S.v (S.rh g (kk + 1)))))) hV_1272 hW (S.rp g (kk + 1)) (by omega) hB1 hB2) (fun _ _ => cwV 1 hts (tb_good (tb_cons wm905 (tb_cons wm907 (tb_cons ws36 (tb_cons wm12 k_Mo_loadOther))))) rfl rfl rfl (by decide +kernel) ⟨by rw [hRf]; exact Nat.le_of_ble_eq_true rfl, by rw [hRl]; exact Nat.le_of_ble_eq_true rfl⟩) f_1263 rfl hB1 hB2 rfl (Nat.le_of_ble_eq_true rfl) d_Mo_at_301) (fun G_1273 B_1274 p_1275 => ?_)
                            obtain ⟨e_1276, hV_1277, gf_1278⟩ := p_1275
                            have e_1276b : B = B_1274 := e_1276.symm
                            subst e_1276b
                            have gf_1279 : gfr mT G G_1273 := mT_mT gf_1248 gf_1278
                            refine gs (pc' := 305) (fun _ _ _ _ _ hl => lv_aload_n hx hb d_Mo_at_304 rfl (lv_at hl 4 rfl)) ?_
                            refine gs (pc' := 306) (fun _ _ _ _ _ hl => lv_iconst (v := (-1)) hx hb d_Mo_at_305 (by decide)) ?_
                            refine g_eqi (show (-1) = iI (-1) from by decide) ?_
                            have rbq_1280 : rb ((S.v (S.rp g (kk + 1 + 1))) - (S.v (S.rp g (kk + 1)))) (100 + 100 + 1) := rb_sub (j := 100) (k := 100) rbq_945 rbq_947
                            obtain ⟨sg_1281, sh_1282, kt_1283, kb_1284, ks_1285, Rr_1286, kf_1287, v_1288, v_1289, v_1290, v_1291, v_1292, v_1293, v_1294⟩ := id hV_1277
                            have f_1295 : G_1273 hm = some (70, .inr (9, [.int (nI 0), .int (nI S.n), .ref (A 2), .ref (A 3), .ref (A 4), .ref (A 5), .int sg_1281, .int sh_1282, .ref (A 8), .ref (A 9), .int (nI S.rn), .ref (A 11), .ref (A 12), .ref (A 13), .int (nI S.wn), .ref (A 15), .ref (A 16), .ref (A 17), .ref (A 18), .int kt_1283, .int kb_1284, .int ks_1285])) := v_1288
                            have hV_1296 : MW cA hm A S 0 (some (S.v (S.rp g (kk + 1 + 1)))) (some (S.v (S.rp g (kk + 1)))) (some (((S.v i) - (S.v (S.rp g (kk + 1)))) * ((S.v (S.rh g (kk + 1 + 1))) - (S.v (S.rh g (kk + 1)))))) G_1273 := ⟨sg_1281, sh_1282, kt_1283, kb_1284, ks_1285, Rr_1286, _, f_1295, v_1289, v_1290, v_1291, v_1292, v_1293, v_1294⟩
                            refine g_outv hlo (g_runV (As := [.int (iI (-1))]) (rest := []) ⟨hx, hb, hml, hown, hts⟩ hK hZ hRc hRs (c_Mo_addOther l D cA lo MC MS G_1273 B hm A S 0 (some (S.v (S.rp g (kk + 1 + 1)))) (some (S.v (S.rp g (kk + 1)))) (some (((S.v i) - (S.v (S.rp g (kk + 1)))) * ((S.v (S.rh g (kk + 1 + 1))) - (S.v (S.rh g (kk + 1)))))) hV_1296 hW (S.v (S.rp g (kk + 1 + 1))) (S.v (S.rp g (kk + 1))) rfl rfl (100) rbq_945 (100) rbq_947 (by omega) (-1) ((S.v (S.rp g (kk + 1 + 1))) - (S.v (S.rp g (kk + 1)))) (Or.inr ⟨rfl, rfl⟩) hB1 hB2) (fun _ _ => cwV 1 hts (tb_good (tb_cons wm909 (tb_cons wm911 (tb_cons ws37 (tb_cons wm12 k_Mo_addOther))))) rfl rfl rfl (by decide +kernel) ⟨by rw [hRf]; exact Nat.le_of_ble_eq_true rfl, by rw [hRl]; exact Nat.le_of_ble_eq_true rfl⟩) f_1295 rfl hB1 hB2 rfl (Nat.le_of_ble_eq_true rfl) d_Mo_at_306) (fun G_1297 B_1298 p_1299 => ?_)
                            obtain ⟨e_1300, hV_1301, gf_1302⟩ := p_1299
                            have e_1300b : B = B_1298 := e_1300.symm
                            subst e_1300b
                            have gf_1303 : gfr mT G G_1297 := mT_mT gf_1279 gf_1302
                            refine gs (pc' := 310) (fun _ _ _ _ _ hl => lv_aload_n hx hb d_Mo_at_309 rfl (lv_at hl 4 rfl)) ?_
                            obtain ⟨sg_1304, sh_1305, kt_1306, kb_1307, ks_1308, Rr_1309, kf_1310, v_1311, v_1312, v_1313, v_1314, v_1315, v_1316, v_1317⟩ := id hV_1301
                            have f_1318 : G_1297 hm = some (70, .inr (9, [.int (nI 0), .int (nI S.n), .ref (A 2), .ref (A 3), .ref (A 4), .ref (A 5), .int sg_1304, .int sh_1305, .ref (A 8), .ref (A 9), .int (nI S.rn), .ref (A 11), .ref (A 12), .ref (A 13), .int (nI S.wn), .ref (A 15), .ref (A 16), .ref (A 17), .ref (A 18), .int kt_1306, .int kb_1307, .int ks_1308])) := v_1311
                            have hV_1319 : MW cA hm A S 0 (some ((S.v (S.rp g (kk + 1 + 1))) - (S.v (S.rp g (kk + 1))))) none (some (((S.v i) - (S.v (S.rp g (kk + 1)))) * ((S.v (S.rh g (kk + 1 + 1))) - (S.v (S.rh g (kk + 1)))))) G_1297 := ⟨sg_1304, sh_1305, kt_1306, kb_1307, ks_1308, Rr_1309, _, f_1318, v_1312, v_1313, v_1314, v_1315, v_1316, v_1317⟩
                            refine g_outv hlo (g_runV (As := []) (rest := []) ⟨hx, hb, hml, hown, hts⟩ hK hZ hRc hRs (c_Mo_unstash l D cA lo MC MS G_1297 B hm A S 0 (some ((S.v (S.rp g (kk + 1 + 1))) - (S.v (S.rp g (kk + 1))))) none (some (((S.v i) - (S.v (S.rp g (kk + 1)))) * ((S.v (S.rh g (kk + 1 + 1))) - (S.v (S.rh g (kk + 1)))))) hV_1319 hW (((S.v i) - (S.v (S.rp g (kk + 1)))) * ((S.v (S.rh g (kk + 1 + 1))) - (S.v (S.rh g (kk + 1))))) rfl hB1 hB2) (fun _ _ => cwV 0 hts (tb_good (tb_cons wm996 (tb_cons wm998 (tb_cons ws47 (tb_cons wm12 k_Mo_unstash))))) rfl rfl rfl (by decide +kernel) ⟨by rw [hRf]; exact Nat.le_of_ble_eq_true rfl, by rw [hRl]; exact Nat.le_of_ble_eq_true rfl⟩) f_1318 rfl hB1 hB2 rfl (Nat.le_of_ble_eq_true rfl) d_Mo_at_310) (fun G_1320 B_1321 p_1322 => ?_)
                            obtain ⟨e_1323, hV_1324, gf_1325⟩ := p_1322
                            have e_1323b : B = B_1321 := e_1323.symm
                            subst e_1323b
                            have gf_1326 : gfr mT G G_1320 := mT_mT gf_1303 gf_1325
                            refine gs (pc' := 314) (fun _ _ _ _ _ hl => lv_aload_n hx hb d_Mo_at_313 rfl (lv_at hl 4 rfl)) ?_
                            obtain ⟨sg_1327, sh_1328, kt_1329, kb_1330, ks_1331, Rr_1332, kf_1333, v_1334, v_1335, v_1336, v_1337, v_1338, v_1339, v_1340⟩ := id hV_1324
                            have f_1341 : G_1320 hm = some (70, .inr (9, [.int (nI 0), .int (nI S.n), .ref (A 2), .ref (A 3), .ref (A 4), .ref (A 5), .int sg_1327, .int sh_1328, .ref (A 8), .ref (A 9), .int (nI S.rn), .ref (A 11), .ref (A 12), .ref (A 13), .int (nI S.wn), .ref (A 15), .ref (A 16), .ref (A 17), .ref (A 18), .int kt_1329, .int kb_1330, .int ks_1331])) := v_1334
                            have hV_1342 : MW cA hm A S 0 (some ((S.v (S.rp g (kk + 1 + 1))) - (S.v (S.rp g (kk + 1))))) (some (((S.v i) - (S.v (S.rp g (kk + 1)))) * ((S.v (S.rh g (kk + 1 + 1))) - (S.v (S.rh g (kk + 1)))))) (some (((S.v i) - (S.v (S.rp g (kk + 1)))) * ((S.v (S.rh g (kk + 1 + 1))) - (S.v (S.rh g (kk + 1)))))) G_1320 := ⟨sg_1327, sh_1328, kt_1329, kb_1330, ks_1331, Rr_1332, _, f_1341, v_1335, v_1336, v_1337, v_1338, v_1339, v_1340⟩
                            refine g_outv hlo (g_runV (As := []) (rest := []) ⟨hx, hb, hml, hown, hts⟩ hK hZ hRc hRs (c_Mo_exchange l D cA lo MC MS G_1320 B hm A S 0 (some ((S.v (S.rp g (kk + 1 + 1))) - (S.v (S.rp g (kk + 1))))) (some (((S.v i) - (S.v (S.rp g (kk + 1)))) * ((S.v (S.rh g (kk + 1 + 1))) - (S.v (S.rh g (kk + 1)))))) (some (((S.v i) - (S.v (S.rp g (kk + 1)))) * ((S.v (S.rh g (kk + 1 + 1))) - (S.v (S.rh g (kk + 1)))))) hV_1342 hW ((S.v (S.rp g (kk + 1 + 1))) - (S.v (S.rp g (kk + 1)))) (((S.v i) - (S.v (S.rp g (kk + 1)))) * ((S.v (S.rh g (kk + 1 + 1))) - (S.v (S.rh g (kk + 1))))) rfl rfl hB1 hB2) (fun _ _ => cwV 0 hts (tb_good (tb_cons wm1000 (tb_cons wm1002 (tb_cons ws48 (tb_cons wm12 k_Mo_exchange))))) rfl rfl rfl (by decide +kernel) ⟨by rw [hRf]; exact Nat.le_of_ble_eq_true rfl, by rw [hRl]; exact Nat.le_of_ble_eq_true rfl⟩) f_1341 rfl hB1 hB2 rfl (Nat.le_of_ble_eq_true rfl) d_Mo_at_314) (fun G_1343 B_1344 p_1345 => ?_)
                            obtain ⟨e_1346, hV_1347, gf_1348⟩ := p_1345
                            have e_1346b : B = B_1344 := e_1346.symm
                            subst e_1346b
                            have gf_1349 : gfr mT G G_1343 := mT_mT gf_1326 gf_1348
                            refine gs (pc' := 318) (fun _ _ _ _ _ hl => lv_aload_n hx hb d_Mo_at_317 rfl (lv_at hl 4 rfl)) ?_
                            have rbq_1350 : rb ((((S.v i) - (S.v (S.rp g (kk + 1)))) * ((S.v (S.rh g (kk + 1 + 1))) - (S.v (S.rh g (kk + 1))))) / ((S.v (S.rp g (kk + 1 + 1))) - (S.v (S.rp g (kk + 1))))) (100 + 100 + 1 + 100 + 100 + 1 + 100 + 100 + 1) := rb_div (j := 100 + 100 + 1 + 100 + 100 + 1) (k := 100 + 100 + 1) rbq_1171 rbq_1280 hnz9
                            obtain ⟨sg_1351, sh_1352, kt_1353, kb_1354, ks_1355, Rr_1356, kf_1357, v_1358, v_1359, v_1360, v_1361, v_1362, v_1363, v_1364⟩ := id hV_1347
                            have f_1365 : G_1343 hm = some (70, .inr (9, [.int (nI 0), .int (nI S.n), .ref (A 2), .ref (A 3), .ref (A 4), .ref (A 5), .int sg_1351, .int sh_1352, .ref (A 8), .ref (A 9), .int (nI S.rn), .ref (A 11), .ref (A 12), .ref (A 13), .int (nI S.wn), .ref (A 15), .ref (A 16), .ref (A 17), .ref (A 18), .int kt_1353, .int kb_1354, .int ks_1355])) := v_1358
                            have hV_1366 : MW cA hm A S 0 (some (((S.v i) - (S.v (S.rp g (kk + 1)))) * ((S.v (S.rh g (kk + 1 + 1))) - (S.v (S.rh g (kk + 1)))))) (some ((S.v (S.rp g (kk + 1 + 1))) - (S.v (S.rp g (kk + 1))))) (some (((S.v i) - (S.v (S.rp g (kk + 1)))) * ((S.v (S.rh g (kk + 1 + 1))) - (S.v (S.rh g (kk + 1)))))) G_1343 := ⟨sg_1351, sh_1352, kt_1353, kb_1354, ks_1355, Rr_1356, _, f_1365, v_1359, v_1360, v_1361, v_1362, v_1363, v_1364⟩
                            refine g_outv hlo (g_runV (As := []) (rest := []) ⟨hx, hb, hml, hown, hts⟩ hK hZ hRc hRs (c_Mo_overOther l D cA lo MC MS G_1343 B hm A S 0 (some (((S.v i) - (S.v (S.rp g (kk + 1)))) * ((S.v (S.rh g (kk + 1 + 1))) - (S.v (S.rh g (kk + 1)))))) (some ((S.v (S.rp g (kk + 1 + 1))) - (S.v (S.rp g (kk + 1))))) (some (((S.v i) - (S.v (S.rp g (kk + 1)))) * ((S.v (S.rh g (kk + 1 + 1))) - (S.v (S.rh g (kk + 1)))))) hV_1366 hW (((S.v i) - (S.v (S.rp g (kk + 1)))) * ((S.v (S.rh g (kk + 1 + 1))) - (S.v (S.rh g (kk + 1))))) ((S.v (S.rp g (kk + 1 + 1))) - (S.v (S.rp g (kk + 1)))) rfl rfl (100 + 100 + 1 + 100 + 100 + 1) rbq_1171 (100 + 100 + 1) rbq_1280 (by omega) hnz9 hB1 hB2) (fun _ _ => cwV 0 hts (tb_good (tb_cons wm941 (tb_cons wm943 (tb_cons ws43 (tb_cons wm12 k_Mo_overOther))))) rfl rfl rfl (by decide +kernel) ⟨by rw [hRf]; exact Nat.le_of_ble_eq_true rfl, by rw [hRl]; exact Nat.le_of_ble_eq_true rfl⟩) f_1365 rfl hB1 hB2 rfl (Nat.le_of_ble_eq_true rfl) d_Mo_at_318) (fun G_1367 B_1368 p_1369 => ?_)
                            obtain ⟨e_1370, hV_1371, gf_1372⟩ := p_1369
                            have e_1370b : B = B_1368 := e_1370.symm
                            subst e_1370b
                            have gf_1373 : gfr mT G G_1367 := mT_mT gf_1349 gf_1372
                            refine gs (pc' := 322) (fun _ _ _ _ _ hl => lv_aload_n hx hb d_Mo_at_321 rfl (lv_at hl 4 rfl)) ?_
                            refine gs (pc' := 323) (fun _ _ _ _ _ hl => lv_aload_n hx hb d_Mo_at_322 rfl (lv_at hl 4 rfl)) ?_
                            obtain ⟨sg_1374, sh_1375, kt_1376, kb_1377, ks_1378, Rr_1379, kf_1380, v_1381, v_1382, v_1383, v_1384, v_1385, v_1386, v_1387⟩ := id hV_1371
                            have f_1388 : G_1367 hm = some (70, .inr (9, [.int (nI 0), .int (nI S.n), .ref (A 2), .ref (A 3), .ref (A 4), .ref (A 5), .int sg_1374, .int sh_1375, .ref (A 8), .ref (A 9), .int (nI S.rn), .ref (A 11), .ref (A 12), .ref (A 13), .int (nI S.wn), .ref (A 15), .ref (A 16), .ref (A 17), .ref (A 18), .int kt_1376, .int kb_1377, .int ks_1378])) := v_1381
                            refine g_get hx hb hts hin_Mo hown hK f_1388 rfl 13 (by decide) (hts _ wm767) (fun _ h9 => h9) rfl d_Mo_at_323 ?_
                            refine gs (pc' := 328) (fun _ _ _ _ _ hl => lv_iload hx hb d_Mo_at_326 (lv_at hl 1 rfl)) ?_
                            obtain ⟨cor_1389, pla_1390, hei_1391, f_1392, f_1393, f_1394, ho_1395⟩ := id v_1387.2.1
                            refine g_iald hx hb hK 0 f_1394 rfl (show vp_in (nI (16 * g + (kk + 1))) 128 from vp_in_nI (by omega) (by omega)) d_Mo_at_328 ?_
                            refine g_eqi (show hei_1391 (nI (16 * g + (kk + 1))).toNatClampNeg = hei_1391 (16 * g + (kk + 1)) from by rw [nI_clamp (by omega)]) ?_
                            refine g_eqi (show hei_1391 (16 * g + (kk + 1)) = nI (S.rh g (kk + 1)) from ((ho_1395 g (by omega)).2 (kk + 1) (by omega)).2) ?_
                            have rbq_1396 := (hW.rp g (by omega) (kk + 1) (by omega)).2.1
                            have hV_1397 : MW cA hm A S 0 (some ((((S.v i) - (S.v (S.rp g (kk + 1)))) * ((S.v (S.rh g (kk + 1 + 1))) - (S.v (S.rh g (kk + 1))))) / ((S.v (S.rp g (kk + 1 + 1))) - (S.v (S.rp g (kk + 1)))))) none (some (((S.v i) - (S.v (S.rp g (kk + 1)))) * ((S.v (S.rh g (kk + 1 + 1))) - (S.v (S.rh g (kk + 1)))))) G_1367 := ⟨sg_1374, sh_1375, kt_1376, kb_1377, ks_1378, Rr_1379, _, f_1388, v_1382, v_1383, v_1384, v_1385, v_1386, v_1387⟩
                            refine g_outv hlo (g_runV (As := [.int (nI (S.rh g (kk + 1)))]) (rest := []) ⟨hx, hb, hml, hown, hts⟩ hK hZ hRc hRs (c_Mo_loadOther l D cA lo MC MS G_1367 B hm A S 0 (some ((((S.v i) - (S.v (S.rp g (kk + 1)))) * ((S.v (S.rh g (kk + 1 + 1))) - (S.v (S.rh g (kk + 1))))) / ((S.v (S.rp g (kk + 1 + 1))) - (S.v (S.rp g (kk + 1)))))) none (some (((S.v i) - (S.v (S.rp g (kk + 1)))) * ((S.v (S.rh g (kk + 1 + 1))) - (S.v (S.rh g (kk + 1)))))) hV_1397 hW (S.rh g (kk + 1)) (by omega) hB1 hB2) (fun _ _ => cwV 1 hts (tb_good (tb_cons wm905 (tb_cons wm907 (tb_cons ws36 (tb_cons wm12 k_Mo_loadOther))))) rfl rfl rfl (by decide +kernel) ⟨by rw [hRf]; exact Nat.le_of_ble_eq_true rfl, by rw [hRl]; exact Nat.le_of_ble_eq_true rfl⟩) f_1388 rfl hB1 hB2 rfl (Nat.le_of_ble_eq_true rfl) d_Mo_at_329) (fun G_1398 B_1399 p_1400 => ?_)
                            obtain ⟨e_1401, hV_1402, gf_1403⟩ := p_1400
                            have e_1401b : B = B_1399 := e_1401.symm
                            subst e_1401b
                            have gf_1404 : gfr mT G G_1398 := mT_mT gf_1373 gf_1403
                            refine gs (pc' := 333) (fun _ _ _ _ _ hl => lv_aload_n hx hb d_Mo_at_332 rfl (lv_at hl 4 rfl)) ?_
                            refine gs (pc' := 334) (fun _ _ _ _ _ hl => lv_iconst (v := nI 1) hx hb d_Mo_at_333 (by decide)) ?_
                            have rbq_1405 : rb (((((S.v i) - (S.v (S.rp g (kk + 1)))) * ((S.v (S.rh g (kk + 1 + 1))) - (S.v (S.rh g (kk + 1))))) / ((S.v (S.rp g (kk + 1 + 1))) - (S.v (S.rp g (kk + 1))))) + (S.v (S.rh g (kk + 1)))) (100 + 100 + 1 + 100 + 100 + 1 + 100 + 100 + 1 + 100 + 1) := rb_add (j := 100 + 100 + 1 + 100 + 100 + 1 + 100 + 100 + 1) (k := 100) rbq_1350 rbq_948
                            obtain ⟨sg_1406, sh_1407, kt_1408, kb_1409, ks_1410, Rr_1411, kf_1412, v_1413, v_1414, v_1415, v_1416, v_1417, v_1418, v_1419⟩ := id hV_1402
                            have f_1420 : G_1398 hm = some (70, .inr (9, [.int (nI 0), .int (nI S.n), .ref (A 2), .ref (A 3), .ref (A 4), .ref (A 5), .int sg_1406, .int sh_1407, .ref (A 8), .ref (A 9), .int (nI S.rn), .ref (A 11), .ref (A 12), .ref (A 13), .int (nI S.wn), .ref (A 15), .ref (A 16), .ref (A 17), .ref (A 18), .int kt_1408, .int kb_1409, .int ks_1410])) := v_1413
                            have hV_1421 : MW cA hm A S 0 (some ((((S.v i) - (S.v (S.rp g (kk + 1)))) * ((S.v (S.rh g (kk + 1 + 1))) - (S.v (S.rh g (kk + 1))))) / ((S.v (S.rp g (kk + 1 + 1))) - (S.v (S.rp g (kk + 1)))))) (some (S.v (S.rh g (kk + 1)))) (some (((S.v i) - (S.v (S.rp g (kk + 1)))) * ((S.v (S.rh g (kk + 1 + 1))) - (S.v (S.rh g (kk + 1)))))) G_1398 := ⟨sg_1406, sh_1407, kt_1408, kb_1409, ks_1410, Rr_1411, _, f_1420, v_1414, v_1415, v_1416, v_1417, v_1418, v_1419⟩
                            refine g_outv hlo (g_runV (As := [.int (nI 1)]) (rest := []) ⟨hx, hb, hml, hown, hts⟩ hK hZ hRc hRs (c_Mo_addOther l D cA lo MC MS G_1398 B hm A S 0 (some ((((S.v i) - (S.v (S.rp g (kk + 1)))) * ((S.v (S.rh g (kk + 1 + 1))) - (S.v (S.rh g (kk + 1))))) / ((S.v (S.rp g (kk + 1 + 1))) - (S.v (S.rp g (kk + 1)))))) (some (S.v (S.rh g (kk + 1)))) (some (((S.v i) - (S.v (S.rp g (kk + 1)))) * ((S.v (S.rh g (kk + 1 + 1))) - (S.v (S.rh g (kk + 1)))))) hV_1421 hW ((((S.v i) - (S.v (S.rp g (kk + 1)))) * ((S.v (S.rh g (kk + 1 + 1))) - (S.v (S.rh g (kk + 1))))) / ((S.v (S.rp g (kk + 1 + 1))) - (S.v (S.rp g (kk + 1))))) (S.v (S.rh g (kk + 1))) rfl rfl (100 + 100 + 1 + 100 + 100 + 1 + 100 + 100 + 1) rbq_1350 (100) rbq_948 (by omega) 1 (((((S.v i) - (S.v (S.rp g (kk + 1)))) * ((S.v (S.rh g (kk + 1 + 1))) - (S.v (S.rh g (kk + 1))))) / ((S.v (S.rp g (kk + 1 + 1))) - (S.v (S.rp g (kk + 1))))) + (S.v (S.rh g (kk + 1)))) (Or.inl ⟨rfl, rfl⟩) hB1 hB2) (fun _ _ => cwV 1 hts (tb_good (tb_cons wm909 (tb_cons wm911 (tb_cons ws37 (tb_cons wm12 k_Mo_addOther))))) rfl rfl rfl (by decide +kernel) ⟨by rw [hRf]; exact Nat.le_of_ble_eq_true rfl, by rw [hRl]; exact Nat.le_of_ble_eq_true rfl⟩) f_1420 rfl hB1 hB2 rfl (Nat.le_of_ble_eq_true rfl) d_Mo_at_334) (fun G_1422 B_1423 p_1424 => ?_)
                            obtain ⟨e_1425, hV_1426, gf_1427⟩ := p_1424
                            have e_1425b : B = B_1423 := e_1425.symm
                            subst e_1425b
                            have gf_1428 : gfr mT G G_1422 := mT_mT gf_1404 gf_1427
                            refine gs (pc' := 338) (fun _ _ _ _ _ hl => lv_aload_n hx hb d_Mo_at_337 rfl (lv_at hl 4 rfl)) ?_
                            refine gs (pc' := 340) (fun _ _ _ _ _ hl => lv_iload hx hb d_Mo_at_338 (lv_at hl 0 rfl)) ?_
                            obtain ⟨sg_1429, sh_1430, kt_1431, kb_1432, ks_1433, Rr_1434, kf_1435, v_1436, v_1437, v_1438, v_1439, v_1440, v_1441, v_1442⟩ := id hV_1426
                            have f_1443 : G_1422 hm = some (70, .inr (9, [.int (nI 0), .int (nI S.n), .ref (A 2), .ref (A 3), .ref (A 4), .ref (A 5), .int sg_1429, .int sh_1430, .ref (A 8), .ref (A 9), .int (nI S.rn), .ref (A 11), .ref (A 12), .ref (A 13), .int (nI S.wn), .ref (A 15), .ref (A 16), .ref (A 17), .ref (A 18), .int kt_1431, .int kb_1432, .int ks_1433])) := v_1436
                            have hV_1444 : MW cA hm A S 0 (some (((((S.v i) - (S.v (S.rp g (kk + 1)))) * ((S.v (S.rh g (kk + 1 + 1))) - (S.v (S.rh g (kk + 1))))) / ((S.v (S.rp g (kk + 1 + 1))) - (S.v (S.rp g (kk + 1))))) + (S.v (S.rh g (kk + 1))))) none (some (((S.v i) - (S.v (S.rp g (kk + 1)))) * ((S.v (S.rh g (kk + 1 + 1))) - (S.v (S.rh g (kk + 1)))))) G_1422 := ⟨sg_1429, sh_1430, kt_1431, kb_1432, ks_1433, Rr_1434, _, f_1443, v_1437, v_1438, v_1439, v_1440, v_1441, v_1442⟩
                            refine g_outi hlo (g_runV (As := [.int (iI (S.un (S.rh g 0)))]) (rest := []) ⟨hx, hb, hml, hown, hts⟩ hK hZ hRc hRs (c_Mo_keep l D cA lo MC MS G_1422 B hm A S 0 (some (((((S.v i) - (S.v (S.rp g (kk + 1)))) * ((S.v (S.rh g (kk + 1 + 1))) - (S.v (S.rh g (kk + 1))))) / ((S.v (S.rp g (kk + 1 + 1))) - (S.v (S.rp g (kk + 1))))) + (S.v (S.rh g (kk + 1))))) none (some (((S.v i) - (S.v (S.rp g (kk + 1)))) * ((S.v (S.rh g (kk + 1 + 1))) - (S.v (S.rh g (kk + 1)))))) hV_1444 hW (((((S.v i) - (S.v (S.rp g (kk + 1)))) * ((S.v (S.rh g (kk + 1 + 1))) - (S.v (S.rh g (kk + 1))))) / ((S.v (S.rp g (kk + 1 + 1))) - (S.v (S.rp g (kk + 1))))) + (S.v (S.rh g (kk + 1)))) rfl (100 + 100 + 1 + 100 + 100 + 1 + 100 + 100 + 1 + 100 + 1) rbq_1405 (by omega) (S.un (S.rh g 0)) (hW.v _ hhk0).2 (by omega) hB1 hB2) (fun _ _ => cwV 1 hts (tb_good (tb_cons wm881 (tb_cons wm883 (tb_cons ws31 (tb_cons wm12 k_Mo_keep))))) rfl rfl rfl (by decide +kernel) ⟨by rw [hRf]; exact Nat.le_of_ble_eq_true rfl, by rw [hRl]; exact Nat.le_of_ble_eq_true rfl⟩) f_1443 rfl hB1 hB2 rfl (Nat.le_of_ble_eq_true rfl) d_Mo_at_340) (fun r_1448 G_1445 B_1446 p_1447 => ?_)
                            obtain ⟨e_1449, e_1452, hV_1450, gf_1451⟩ := p_1447
                            subst e_1452
                            have e_1449b : B = B_1446 := e_1449.symm
                            subst e_1449b
                            have gf_1453 : gfr mT G G_1445 := mT_mT gf_1428 gf_1451
                            rw [st_atM hW hi_g hi_i hk1 hu9 hgt9 hlt9 (by omega)] at hret
                            exact hret 343 _ _ _ _ d_Mo_at_343 hB1 hB2 ⟨rfl, fun _ => rfl, MW_k hV_1450, gf_1453⟩
                          · skip
                            have nc_944 : (rcmp (S.v i) (S.v (S.rp g (kk + 1)))) = 0 := (ii_ne (a := (rcmp (S.v i) (S.v (S.rp g (kk + 1))))) (b := 0) (by omega) (by omega) (by omega) (by omega)).2 (by first | exact c_944 | (have z9 := c_944; simp only [nI_iI] at z9; exact z9))
                            have heq9 : S.v i = S.v (S.rp g (kk + 1)) := rcmp_0.mp nc_944
                            have rbq_1454 : rb (S.v (S.rh g (kk + 1))) 100 := rb_of (hW.v _ hhk).1
                            refine gs (pc' := 174) (fun _ _ _ _ _ hl => lv_aload_n hx hb d_Mo_at_173 rfl (lv_at hl 3 rfl)) ?_
                            refine gs (pc' := 175) (fun _ _ _ _ _ hl => lv_aload_n hx hb d_Mo_at_174 rfl (lv_at hl 3 rfl)) ?_
                            obtain ⟨sg_1455, sh_1456, kt_1457, kb_1458, ks_1459, Rr_1460, kf_1461, v_1462, v_1463, v_1464, v_1465, v_1466, v_1467, v_1468⟩ := id hV_939
                            have f_1469 : G_934 hm = some (70, .inr (9, [.int (nI 0), .int (nI S.n), .ref (A 2), .ref (A 3), .ref (A 4), .ref (A 5), .int sg_1455, .int sh_1456, .ref (A 8), .ref (A 9), .int (nI S.rn), .ref (A 11), .ref (A 12), .ref (A 13), .int (nI S.wn), .ref (A 15), .ref (A 16), .ref (A 17), .ref (A 18), .int kt_1457, .int kb_1458, .int ks_1459])) := v_1462
                            refine g_get hx hb hts hin_Mo hown hK f_1469 rfl 13 (by decide) (hts _ wm767) (fun _ h9 => h9) rfl d_Mo_at_175 ?_
                            refine gs (pc' := 180) (fun _ _ _ _ _ hl => lv_iload hx hb d_Mo_at_178 (lv_at hl 0 rfl)) ?_
                            obtain ⟨cor_1470, pla_1471, hei_1472, f_1473, f_1474, f_1475, ho_1476⟩ := id v_1468.2.1
                            refine g_iald hx hb hK 0 f_1475 rfl (show vp_in (nI (16 * g + (kk + 1))) 128 from vp_in_nI (by omega) (by omega)) d_Mo_at_180 ?_
                            refine g_eqi (show hei_1472 (nI (16 * g + (kk + 1))).toNatClampNeg = hei_1472 (16 * g + (kk + 1)) from by rw [nI_clamp (by omega)]) ?_
                            refine g_eqi (show hei_1472 (16 * g + (kk + 1)) = nI (S.rh g (kk + 1)) from ((ho_1476 g (by omega)).2 (kk + 1) (by omega)).2) ?_
                            have rbq_1477 := (hW.rp g (by omega) (kk + 1) (by omega)).2.1
                            have hV_1478 : MW cA hm A S 0 none none qk G_934 := ⟨sg_1455, sh_1456, kt_1457, kb_1458, ks_1459, Rr_1460, _, f_1469, v_1463, v_1464, v_1465, v_1466, v_1467, v_1468⟩
                            refine g_outv hlo (g_runV (As := [.int (nI (S.rh g (kk + 1)))]) (rest := []) ⟨hx, hb, hml, hown, hts⟩ hK hZ hRc hRs (c_Mo_load l D cA lo MC MS G_934 B hm A S 0 none none qk hV_1478 hW (S.rh g (kk + 1)) (by omega) hB1 hB2) (fun _ _ => cwV 1 hts (tb_good (tb_cons wm897 (tb_cons wm899 (tb_cons ws34 (tb_cons wm12 k_Mo_load))))) rfl rfl rfl (by decide +kernel) ⟨by rw [hRf]; exact Nat.le_of_ble_eq_true rfl, by rw [hRl]; exact Nat.le_of_ble_eq_true rfl⟩) f_1469 rfl hB1 hB2 rfl (Nat.le_of_ble_eq_true rfl) d_Mo_at_181) (fun G_1479 B_1480 p_1481 => ?_)
                            obtain ⟨e_1482, hV_1483, gf_1484⟩ := p_1481
                            have e_1482b : B = B_1480 := e_1482.symm
                            subst e_1482b
                            have gf_1485 : gfr mT G G_1479 := mT_mT gf_942 gf_1484
                            refine gs (pc' := 185) (fun _ _ _ _ _ hl => lv_aload_n hx hb d_Mo_at_184 rfl (lv_at hl 3 rfl)) ?_
                            refine gs (pc' := 186) (fun _ _ _ _ _ hl => lv_aload_n hx hb d_Mo_at_185 rfl (lv_at hl 3 rfl)) ?_
                            obtain ⟨sg_1486, sh_1487, kt_1488, kb_1489, ks_1490, Rr_1491, kf_1492, v_1493, v_1494, v_1495, v_1496, v_1497, v_1498, v_1499⟩ := id hV_1483
                            have f_1500 : G_1479 hm = some (70, .inr (9, [.int (nI 0), .int (nI S.n), .ref (A 2), .ref (A 3), .ref (A 4), .ref (A 5), .int sg_1486, .int sh_1487, .ref (A 8), .ref (A 9), .int (nI S.rn), .ref (A 11), .ref (A 12), .ref (A 13), .int (nI S.wn), .ref (A 15), .ref (A 16), .ref (A 17), .ref (A 18), .int kt_1488, .int kb_1489, .int ks_1490])) := v_1493
                            refine g_get hx hb hts hin_Mo hown hK f_1500 rfl 3 (by decide) (hts _ wm757) (fun _ h9 => h9) rfl d_Mo_at_186 ?_
                            refine gs (pc' := 190) (fun _ _ _ _ _ hl => lv_aload_n hx hb d_Mo_at_189 rfl (lv_at hl 3 rfl)) ?_
                            refine g_get hx hb hts hin_Mo hown hK f_1500 rfl 13 (by decide) (hts _ wm767) (fun _ h9 => h9) rfl d_Mo_at_190 ?_
                            refine gs (pc' := 195) (fun _ _ _ _ _ hl => lv_iload hx hb d_Mo_at_193 (lv_at hl 0 rfl)) ?_
                            obtain ⟨cor_1501, pla_1502, hei_1503, f_1504, f_1505, f_1506, ho_1507⟩ := id v_1499.2.1
                            refine g_iald hx hb hK 0 f_1506 rfl (show vp_in (nI (16 * g + (kk + 1))) 128 from vp_in_nI (by omega) (by omega)) d_Mo_at_195 ?_
                            refine g_eqi (show hei_1503 (nI (16 * g + (kk + 1))).toNatClampNeg = hei_1503 (16 * g + (kk + 1)) from by rw [nI_clamp (by omega)]) ?_
                            refine g_eqi (show hei_1503 (16 * g + (kk + 1)) = nI (S.rh g (kk + 1)) from ((ho_1507 g (by omega)).2 (kk + 1) (by omega)).2) ?_
                            have rbq_1508 := (hW.rp g (by omega) (kk + 1) (by omega)).2.1
                            obtain ⟨sgn_1509, unt_1510, sto_1511, szs_1512, f_1513, f_1514, f_1515, f_1516, hv_1517⟩ := id v_1499.1
                            refine g_iald hx hb hK 0 f_1514 rfl (show vp_in (nI (S.rh g (kk + 1))) 200 from vp_in_nI (by omega) (by omega)) d_Mo_at_196 ?_
                            refine g_eqi (show unt_1510 (nI (S.rh g (kk + 1))).toNatClampNeg = unt_1510 (S.rh g (kk + 1)) from by rw [nI_clamp (by omega)]) ?_
                            refine g_eqi (show unt_1510 (S.rh g (kk + 1)) = iI (S.un (S.rh g (kk + 1))) from (hv_1517 (S.rh g (kk + 1)) (by omega)).2.1) ?_
                            have ub_1518 := (hW.v (S.rh g (kk + 1)) (by omega)).2.1
                            have ub_1519 := (hW.v (S.rh g (kk + 1)) (by omega)).2.2
                            have hV_1520 : MW cA hm A S 0 (some (S.v (S.rh g (kk + 1)))) none qk G_1479 := ⟨sg_1486, sh_1487, kt_1488, kb_1489, ks_1490, Rr_1491, _, f_1500, v_1494, v_1495, v_1496, v_1497, v_1498, v_1499⟩
                            refine g_outi hlo (g_runV (As := [.int (iI (S.un (S.rh g (kk + 1))))]) (rest := []) ⟨hx, hb, hml, hown, hts⟩ hK hZ hRc hRs (c_Mo_keep l D cA lo MC MS G_1479 B hm A S 0 (some (S.v (S.rh g (kk + 1)))) none qk hV_1520 hW (S.v (S.rh g (kk + 1))) rfl (100) rbq_1454 (by omega) (S.un (S.rh g (kk + 1))) (hW.v _ hhk).2 (by omega) hB1 hB2) (fun _ _ => cwV 1 hts (tb_good (tb_cons wm881 (tb_cons wm883 (tb_cons ws31 (tb_cons wm12 k_Mo_keep))))) rfl rfl rfl (by decide +kernel) ⟨by rw [hRf]; exact Nat.le_of_ble_eq_true rfl, by rw [hRl]; exact Nat.le_of_ble_eq_true rfl⟩) f_1500 rfl hB1 hB2 rfl (Nat.le_of_ble_eq_true rfl) d_Mo_at_197) (fun r_1524 G_1521 B_1522 p_1523 => ?_)
                            obtain ⟨e_1525, e_1528, hV_1526, gf_1527⟩ := p_1523
                            subst e_1528
                            have e_1525b : B = B_1522 := e_1525.symm
                            subst e_1525b
                            have gf_1529 : gfr mT G G_1521 := mT_mT gf_1485 gf_1527
                            rw [st_atE hW hi_g hi_i hkr hu9 heq9 (by omega)] at hret
                            exact hret 200 _ _ _ _ d_Mo_at_200 hB1 hB2 ⟨rfl, fun _ => rfl, MW_k hV_1526, gf_1529⟩
                        · skip
                          have nc_909 : (rcmp (S.v i) (S.v (S.rp g (kk + 1)))) < 0 := (ii_ge (a := (rcmp (S.v i) (S.v (S.rp g (kk + 1))))) (b := 0) (by omega) (by omega) (by omega) (by omega)).2 (by first | exact c_909 | (have z9 := c_909; simp only [nI_iI] at z9; exact z9))
                          have hlt9 := rcmp_lt.mp nc_909
                          refine gst (pc' := 155) (L' := [(5, .int (nI (16 * g + kk))), (3, .int (nI (16 * g + 0))), (4, .int (nI (S.rc g))), (0, .ref hm), (1, .int (nI g)), (2, .int (nI i))]) (fun _ _ _ _ _ hl => lv_iinc (v := nI (16 * g + kk)) hx hb d_Mo_at_152 hl (k := 0) rfl (pk_m1 (16 * g + kk)) (by decide) rfl) ?_
                          refine gs (pc' := 137) (fun _ _ _ _ _ hl => lv_goto (tgt := 137) hx hb d_Mo_at_155 (by decide)) ?_
                          refine gsub [0, 1, 2, 3, 4, 5] rfl ?_
                          exact ih G_899 (by omega) (fun j9 h8 h9 => by
                            rcases Nat.lt_or_ge (kk + 1) j9 with z9 | z9
                            · exact hab j9 z9 h9
                            · have : j9 = kk + 1 := by omega
                              subst this; exact hlt9) hV_904 gf_907
                    exact loop (S.rc g - 1) G_192 (by omega) (fun j9 h8 h9 => absurd h8 (by omega)) hV_219 gf_200
                  · skip
                    have nc_218 : S.n = 200 := (nn_ne (a := S.n) (b := 200) (by omega) (by omega)).2 c_218
                    refine gs (pc' := 128) (fun _ _ _ _ _ hl => lv_bipush (v := (-3)) hx hb d_Mo_at_126 (by decide)) ?_
                    refine g_eqi (show (-3) = iI (-3) from by decide) ?_
                    have hV_1530 : MW cA hm A S 0 none none none G_192 := ⟨sg_203, sh_204, kt_205, kb_206, ks_207, Rr_208, _, f_217, v_211, v_212, sn_, sn_, sn_, v_216⟩
                    rw [st_atA hrn hn hi_g hi_i hc0 hu9 hlo9 hhi9 (by omega)] at hret
                    exact hret 128 _ _ _ _ d_Mo_at_128 hB1 hB2 ⟨rfl, fun _ => rfl, hV_1530, gf_200⟩
                · skip
                  have nc_202 : (rcmp (S.v i) (S.v (S.rp g (S.rc g - 1)))) > 0 := (ii_le (a := (rcmp (S.v i) (S.v (S.rp g (S.rc g - 1))))) (b := 0) (by omega) (by omega) (by omega) (by omega)).2 (by first | exact c_202 | (have z9 := c_202; simp only [nI_iI] at z9; exact z9))
                  have hhi9 : S.v (S.rp g (S.rc g - 1)) < S.v i := Rat.not_le.mp fun e9 => absurd (rcmp_le.mpr e9) (by omega)
                  refine gs (pc' := 115) (fun _ _ _ _ _ hl => lv_bipush (v := (-5)) hx hb d_Mo_at_113 (by decide)) ?_
                  refine g_eqi (show (-5) = iI (-5) from by decide) ?_
                  have hV_1531 := MW_un hV_197
                  rw [st_atN hrn hn hi_g hi_i hc0 hu9 (fg_none.mpr (fun j9 h9 => by
                      rcases Nat.lt_or_ge j9 (S.rc g - 1) with z9 | z9
                      · exact rt_tr (up_lt hW hi_g z9 (by omega)) hhi9
                      · have : j9 = S.rc g - 1 := by omega
                        subst this; exact hhi9))] at hret
                  exact hret 115 _ _ _ _ d_Mo_at_115 hB1 hB2 ⟨rfl, fun _ => rfl, hV_1531, gf_200⟩
          · skip
            have nc_152 : (S.un i) ≠ (S.un (S.rp g 0)) := (ii_eq (a := (S.un i)) (b := (S.un (S.rp g 0))) (by omega) (by omega) (by omega) (by omega)).2 (by first | exact c_152 | (have z9 := c_152; simp only [nI_iI] at z9; exact z9))
            have hu9 : S.un i ≠ S.un (S.rp g 0) := by omega
            refine gs (pc' := 74) (fun _ _ _ _ _ hl => lv_bipush (v := (-2)) hx hb d_Mo_at_72 (by decide)) ?_
            refine g_eqi (show (-2) = iI (-2) from by decide) ?_
            have hV_1532 : MW cA hm A S 0 none none none G_117 := ⟨sg_102, sh_103, kt_104, kb_105, ks_106, Rr_107, _, f_120, mr_124, f_121, sn_, sn_, sn_, mb_125⟩
            rw [st_at hrn hn hi_g hi_i, if_neg hc0, if_pos hu9] at hret
            exact hret 74 _ _ _ _ d_Mo_at_74 hB1 hB2 ⟨rfl, fun _ => rfl, hV_1532, gf_122⟩
      · skip
        have nc_126 : 0 > 0 := (n0_le (a := 0) (by omega)).2 c_126
        exact absurd nc_126 (by decide)
set_option maxHeartbeats 4000000 in
set_option maxRecDepth 100000 in
theorem c_Mo_area (l : Launch) (D : va_G) (cA : Nat → ClassId) (lo MC MS : Nat) (G : gT) (B : Nat × Nat) (hm : Nat) (A : Nat → Nat) (S : St) (th : Nat) (qm qo qk : Option Rat) (hV : MW cA hm A S th qm qo qk G) (hW : WF S) (x : Int) (hx1 : -2147483648 ≤ x) (hx2 : x < 2147483648) (hB1 : B.1 ≤ MC) (hB2 : B.2 ≤ MS) : gMet l y_Mo_area w_Mo_area 6 153 D clS (gtys cA) lo MC MS [.ref hm, .int (iI x)] G B (gQi D clS lo (fun r9 u => u.2 = B ∧ ((sp_area S (iI x)).1 = 0 → r9 = iI (sp_area S (iI x)).2.1) ∧ MW cA hm A (sp_area S (iI x)).2.2 (sp_area S (iI x)).1 none none none u.1 ∧ gfr mT G u.1)) := by
  refine g_meti (cc := prog_11_method_47_code) (nL := 5) (L := [(0, .ref hm), (1, .int (iI x))]) (by decide +kernel) rfl (Nat.le_of_ble_eq_true rfl) rfl ?_
  intro p e R s m args below meth c Q hF hRc hRs hRf hRl hret
  obtain ⟨hx, hb, hr, hml, hts0, hown, hlocks, hin, hK, hlo, hZ⟩ := hF
  have hts : ∀ w ∈ tbg, w.before args s = true := fun w h => hts0 w (List.mem_cons_of_mem _ h)
  have hn := hW.n
  have hrn := hW.rn
  have hwn := hW.wn
  refine gs (pc' := 1) (fun _ _ _ _ _ hl => lv_aload_n hx hb d_Mo_area_0 rfl (lv_at hl 0 rfl)) ?_
  refine gs (pc' := 2) (fun _ _ _ _ _ hl => lv_aload_n hx hb d_Mo_area_1 rfl (lv_at hl 0 rfl)) ?_
  refine gs (pc' := 3) (fun _ _ _ _ _ hl => lv_iload_n hx hb d_Mo_area_2 rfl (lv_at hl 1 rfl)) ?_
  obtain ⟨sg_1, sh_2, kt_3, kb_4, ks_5, Rr_6, kf_7, v_8, v_9, v_10, v_11, v_12, v_13, v_14⟩ := id hV
  have f_15 : G hm = some (70, .inr (9, [.int (nI th), .int (nI S.n), .ref (A 2), .ref (A 3), .ref (A 4), .ref (A 5), .int sg_1, .int sh_2, .ref (A 8), .ref (A 9), .int (nI S.rn), .ref (A 11), .ref (A 12), .ref (A 13), .int (nI S.wn), .ref (A 15), .ref (A 16), .ref (A 17), .ref (A 18), .int kt_3, .int kb_4, .int ks_5])) := v_8
  have hV_16 : MW cA hm A S th qm qo qk G := ⟨sg_1, sh_2, kt_3, kb_4, ks_5, Rr_6, _, f_15, v_9, v_10, v_11, v_12, v_13, v_14⟩
  refine g_outi hlo (g_runV (As := [.int (iI x)]) (rest := [.ref hm]) ⟨hx, hb, hml, hown, hts⟩ hK hZ hRc hRs (c_Mo_isRow l D cA lo MC MS G B hm A S th qm qo qk hV_16 hW x (by omega) (by omega) hB1 hB2) (fun _ _ => cwV 1 hts (tb_good (tb_cons wm984 (tb_cons wm986 (tb_cons ws45 (tb_cons wm12 k_Mo_isRow))))) rfl rfl rfl (by decide +kernel) ⟨by rw [hRf]; exact Nat.le_of_ble_eq_true rfl, by rw [hRl]; exact Nat.le_of_ble_eq_true rfl⟩) f_15 rfl hB1 hB2 rfl (Nat.le_of_ble_eq_true rfl) d_Mo_area_3) (fun r_20 G_17 B_18 p_19 => ?_)
  obtain ⟨u_21, e_22⟩ := p_19
  cases u_21
  subst e_22
  have bd_23 := b01_le (decide (0 ≤ x ∧ x < S.rn))
  refine gsb (pc1 := 13) (pc2 := 9) (fun _ _ _ _ _ => lv_if_eq (tgt := 13) hx hb d_Mo_area_6 (by decide)) (fun c_24 => ?_) (fun c_24 => ?_)
  · skip
    have nc_24 : (b01 (decide (0 ≤ x ∧ x < S.rn))) = 0 := (n0_eq (a := (b01 (decide (0 ≤ x ∧ x < S.rn)))) (by omega)).1 c_24
    have hb_x : ¬ (0 ≤ x ∧ x < S.rn) := b01_0 nc_24
    refine gs (pc' := 14) (fun _ _ _ _ _ hl => lv_iconst (v := nI 1) hx hb d_Mo_area_13 (by decide)) ?_
    obtain ⟨sg_25, sh_26, kt_27, kb_28, ks_29, Rr_30, kf_31, v_32, v_33, v_34, v_35, v_36, v_37, v_38⟩ := id hV_16
    have f_39 : G hm = some (70, .inr (9, [.int (nI th), .int (nI S.n), .ref (A 2), .ref (A 3), .ref (A 4), .ref (A 5), .int sg_25, .int sh_26, .ref (A 8), .ref (A 9), .int (nI S.rn), .ref (A 11), .ref (A 12), .ref (A 13), .int (nI S.wn), .ref (A 15), .ref (A 16), .ref (A 17), .ref (A 18), .int kt_27, .int kb_28, .int ks_29])) := v_32
    refine g_put (ty := .int) hx hb hts hin_Mo ty_Mo ty_Mo_ok nm_Mo hown hK f_39 rfl 0 (by decide) (hts _ wm754) (fun _ h9 => h9) rfl (by decide +kernel) rfl rfl (Nat.le_of_ble_eq_true rfl) d_Mo_area_14 (fun G_40 f_41 o_42 => ?_)
    have f_43 : G_40 hm = some (70, .inr (9, [.int (nI 1), .int (nI S.n), .ref (A 2), .ref (A 3), .ref (A 4), .ref (A 5), .int sg_25, .int sh_26, .ref (A 8), .ref (A 9), .int (nI S.rn), .ref (A 11), .ref (A 12), .ref (A 13), .int (nI S.wn), .ref (A 15), .ref (A 16), .ref (A 17), .ref (A 18), .int kt_27, .int kb_28, .int ks_29])) := f_41
    have f_44 : G_40 (A 18) = some (83, .inl (cA 0, 8600, .inl kf_31)) := (o_42 _ (gne v_34 f_39 (fun e => by cases e))).trans v_34
    have gf_45 : gfr mT G G_40 := gfr_put gfr_rf f_39 (show mT 70 by decide) o_42
    have gf_46 : gfr (fun x => x = 70) _ G_40 := gfr_put gfr_rf f_39 rfl o_42
    have mr_47 : MR cA A Rr_30 G_40 := MR_fr v_33 gf_46 (show ¬ (75 : Nat) = 70 by decide) (show ¬ (76 : Nat) = 70 by decide)
    have mb_48 : MB cA A S G_40 := MB_fr v_38 gf_46 (fun x h9 => by omega)
    refine gs (pc' := 18) (fun _ _ _ _ _ hl => lv_aload_n hx hb d_Mo_area_17 rfl (lv_at hl 0 rfl)) ?_
    refine g_get hx hb hts hin_Mo hown hK f_43 rfl 0 (by decide) (hts _ wm754) (fun _ h9 => h9) rfl d_Mo_area_18 ?_
    refine gsb (pc1 := 26) (pc2 := 24) (fun _ _ _ _ _ => lv_if_le (tgt := 26) hx hb d_Mo_area_21 (by decide)) (fun c_49 => ?_) (fun c_49 => ?_)
    · skip
      have nc_49 : 1 ≤ 0 := (n0_le (a := 1) (by omega)).1 c_49
      exact absurd nc_49 (by decide)
    · skip
      have nc_49 : 1 > 0 := (n0_le (a := 1) (by omega)).2 c_49
      refine gs (pc' := 25) (fun _ _ _ _ _ hl => lv_iconst (v := nI 0) hx hb d_Mo_area_24 (by decide)) ?_
      have hV_50 : MW cA hm A S 1 none none none G_40 := ⟨sg_25, sh_26, kt_27, kb_28, ks_29, Rr_30, _, f_43, mr_47, f_44, sn_, sn_, sn_, mb_48⟩
      rw [su_area (rn_ hx1 hx2 hb_x)] at hret
      exact hret 25 _ _ _ _ d_Mo_area_25 hB1 hB2 ⟨rfl, fun h9 => absurd (show (1 : Nat) = 0 from h9) (by decide), hV_50, gf_45⟩
  · skip
    have nc_24 : (b01 (decide (0 ≤ x ∧ x < S.rn))) ≠ 0 := (n0_eq (a := (b01 (decide (0 ≤ x ∧ x < S.rn)))) (by omega)).2 c_24
    have hg_x : 0 ≤ x ∧ x < S.rn := b01_1 nc_24
    have hg1_x := hg_x.1
    have hg2_x := hg_x.2
    obtain ⟨g, hxe_g⟩ : ∃ g : Nat, x = (g : Int) := ⟨x.toNat, by omega⟩
    subst hxe_g
    rw [← nI_iI g] at hret ⊢
    have hi_g : g < S.rn := by omega
    refine gs (pc' := 10) (fun _ _ _ _ _ hl => lv_iconst (v := nI 0) hx hb d_Mo_area_9 (by decide)) ?_
    refine gs (pc' := 14) (fun _ _ _ _ _ hl => lv_goto (tgt := 14) hx hb d_Mo_area_10 (by decide)) ?_
    obtain ⟨sg_51, sh_52, kt_53, kb_54, ks_55, Rr_56, kf_57, v_58, v_59, v_60, v_61, v_62, v_63, v_64⟩ := id hV_16
    have f_65 : G hm = some (70, .inr (9, [.int (nI th), .int (nI S.n), .ref (A 2), .ref (A 3), .ref (A 4), .ref (A 5), .int sg_51, .int sh_52, .ref (A 8), .ref (A 9), .int (nI S.rn), .ref (A 11), .ref (A 12), .ref (A 13), .int (nI S.wn), .ref (A 15), .ref (A 16), .ref (A 17), .ref (A 18), .int kt_53, .int kb_54, .int ks_55])) := v_58
    refine g_put (ty := .int) hx hb hts hin_Mo ty_Mo ty_Mo_ok nm_Mo hown hK f_65 rfl 0 (by decide) (hts _ wm754) (fun _ h9 => h9) rfl (by decide +kernel) rfl rfl (Nat.le_of_ble_eq_true rfl) d_Mo_area_14 (fun G_66 f_67 o_68 => ?_)
    have f_69 : G_66 hm = some (70, .inr (9, [.int (nI 0), .int (nI S.n), .ref (A 2), .ref (A 3), .ref (A 4), .ref (A 5), .int sg_51, .int sh_52, .ref (A 8), .ref (A 9), .int (nI S.rn), .ref (A 11), .ref (A 12), .ref (A 13), .int (nI S.wn), .ref (A 15), .ref (A 16), .ref (A 17), .ref (A 18), .int kt_53, .int kb_54, .int ks_55])) := f_67
    have f_70 : G_66 (A 18) = some (83, .inl (cA 0, 8600, .inl kf_57)) := (o_68 _ (gne v_60 f_65 (fun e => by cases e))).trans v_60
    have gf_71 : gfr mT G G_66 := gfr_put gfr_rf f_65 (show mT 70 by decide) o_68
    have gf_72 : gfr (fun x => x = 70) _ G_66 := gfr_put gfr_rf f_65 rfl o_68
    have mr_73 : MR cA A Rr_56 G_66 := MR_fr v_59 gf_72 (show ¬ (75 : Nat) = 70 by decide) (show ¬ (76 : Nat) = 70 by decide)
    have mb_74 : MB cA A S G_66 := MB_fr v_64 gf_72 (fun x h9 => by omega)
    refine gs (pc' := 18) (fun _ _ _ _ _ hl => lv_aload_n hx hb d_Mo_area_17 rfl (lv_at hl 0 rfl)) ?_
    refine g_get hx hb hts hin_Mo hown hK f_69 rfl 0 (by decide) (hts _ wm754) (fun _ h9 => h9) rfl d_Mo_area_18 ?_
    refine gsb (pc1 := 26) (pc2 := 24) (fun _ _ _ _ _ => lv_if_le (tgt := 26) hx hb d_Mo_area_21 (by decide)) (fun c_75 => ?_) (fun c_75 => ?_)
    · skip
      have nc_75 : 0 ≤ 0 := (n0_le (a := 0) (by omega)).1 c_75
      refine gs (pc' := 27) (fun _ _ _ _ _ hl => lv_aload_n hx hb d_Mo_area_26 rfl (lv_at hl 0 rfl)) ?_
      refine g_get hx hb hts hin_Mo hown hK f_69 rfl 11 (by decide) (hts _ wm765) (fun _ h9 => h9) rfl d_Mo_area_27 ?_
      refine gs (pc' := 31) (fun _ _ _ _ _ hl => lv_iload_n hx hb d_Mo_area_30 rfl (lv_at hl 1 rfl)) ?_
      obtain ⟨cor_76, pla_77, hei_78, f_79, f_80, f_81, ho_82⟩ := id mb_74.2.1
      refine g_iald hx hb hK 0 f_79 rfl (show vp_in (nI g) 8 from vp_in_nI (by omega) (by omega)) d_Mo_area_31 ?_
      refine g_eqi (show cor_76 (nI g).toNatClampNeg = cor_76 g from by rw [nI_clamp (by omega)]) ?_
      refine g_eqi (show cor_76 g = nI (S.rc g) from (ho_82 g (by omega)).1) ?_
      have rbq_83 := hW.rc g (by omega)
      refine gs (pc' := 33) (fun _ _ _ _ _ hl => lv_iconst (v := nI 2) hx hb d_Mo_area_32 (by decide)) ?_
      refine gsb (pc1 := 39) (pc2 := 36) (fun _ _ _ _ _ => lv_icmp_ge (tgt := 39) hx hb d_Mo_area_33 (by decide)) (fun c_84 => ?_) (fun c_84 => ?_)
      · skip
        have nc_84 : (S.rc g) ≥ 2 := (nn_ge (a := (S.rc g)) (b := 2) (by omega) (by omega)).1 c_84
        have hc2 : ¬ S.rc g < 2 := by omega
        refine gs (pc' := 41) (fun _ _ _ _ _ hl => lv_bipush (v := nI 16) hx hb d_Mo_area_39 (by decide)) ?_
        refine gs (pc' := 42) (fun _ _ _ _ _ hl => lv_iload_n hx hb d_Mo_area_41 rfl (lv_at hl 1 rfl)) ?_
        refine gs (pc' := 43) (fun _ _ _ _ _ hl => lv_imul hx hb d_Mo_area_42) ?_
        refine g_eqi (show (nI 16) * (nI g) = nI (16 * g + 0) from (pk_mul _ _).trans (congrArg nI (show 16 * g = 16 * g + 0 by omega))) ?_
        refine gst (pc' := 44) (L' := [(2, .int (nI (16 * g + 0))), (0, .ref hm), (1, .int (nI g))]) (fun _ _ _ _ _ hl => lv_istore_n hx hb d_Mo_area_43 rfl hl (by decide) rfl) ?_
        refine gs (pc' := 45) (fun _ _ _ _ _ hl => lv_aload_n hx hb d_Mo_area_44 rfl (lv_at hl 1 rfl)) ?_
        refine g_get hx hb hts hin_Mo hown hK f_69 rfl 3 (by decide) (hts _ wm757) (fun _ h9 => h9) rfl d_Mo_area_45 ?_
        refine gs (pc' := 49) (fun _ _ _ _ _ hl => lv_aload_n hx hb d_Mo_area_48 rfl (lv_at hl 1 rfl)) ?_
        refine g_get hx hb hts hin_Mo hown hK f_69 rfl 12 (by decide) (hts _ wm766) (fun _ h9 => h9) rfl d_Mo_area_49 ?_
        refine gs (pc' := 53) (fun _ _ _ _ _ hl => lv_iload_n hx hb d_Mo_area_52 rfl (lv_at hl 0 rfl)) ?_
        refine g_iald hx hb hK 0 f_80 rfl (show vp_in (nI (16 * g + 0)) 128 from vp_in_nI (by omega) (by omega)) d_Mo_area_53 ?_
        refine g_eqi (show pla_77 (nI (16 * g + 0)).toNatClampNeg = pla_77 (16 * g + 0) from by rw [nI_clamp (by omega)]) ?_
        refine g_eqi (show pla_77 (16 * g + 0) = nI (S.rp g 0) from ((ho_82 g (by omega)).2 0 (by omega)).1) ?_
        have rbq_85 := (hW.rp g (by omega) 0 (by omega)).1
        obtain ⟨sgn_86, unt_87, sto_88, szs_89, f_90, f_91, f_92, f_93, hv_94⟩ := id mb_74.1
        refine g_iald hx hb hK 0 f_91 rfl (show vp_in (nI (S.rp g 0)) 200 from vp_in_nI (by omega) (by omega)) d_Mo_area_54 ?_
        refine g_eqi (show unt_87 (nI (S.rp g 0)).toNatClampNeg = unt_87 (S.rp g 0) from by rw [nI_clamp (by omega)]) ?_
        refine g_eqi (show unt_87 (S.rp g 0) = iI (S.un (S.rp g 0)) from (hv_94 (S.rp g 0) (by omega)).2.1) ?_
        have ub_95 := (hW.v (S.rp g 0) (by omega)).2.1
        have ub_96 := (hW.v (S.rp g 0) (by omega)).2.2
        refine gs (pc' := 56) (fun _ _ _ _ _ hl => lv_aload_n hx hb d_Mo_area_55 rfl (lv_at hl 1 rfl)) ?_
        refine g_get hx hb hts hin_Mo hown hK f_69 rfl 3 (by decide) (hts _ wm757) (fun _ h9 => h9) rfl d_Mo_area_56 ?_
        refine gs (pc' := 60) (fun _ _ _ _ _ hl => lv_aload_n hx hb d_Mo_area_59 rfl (lv_at hl 1 rfl)) ?_
        refine g_get hx hb hts hin_Mo hown hK f_69 rfl 13 (by decide) (hts _ wm767) (fun _ h9 => h9) rfl d_Mo_area_60 ?_
        refine gs (pc' := 64) (fun _ _ _ _ _ hl => lv_iload_n hx hb d_Mo_area_63 rfl (lv_at hl 0 rfl)) ?_
        refine g_iald hx hb hK 0 f_81 rfl (show vp_in (nI (16 * g + 0)) 128 from vp_in_nI (by omega) (by omega)) d_Mo_area_64 ?_
        refine g_eqi (show hei_78 (nI (16 * g + 0)).toNatClampNeg = hei_78 (16 * g + 0) from by rw [nI_clamp (by omega)]) ?_
        refine g_eqi (show hei_78 (16 * g + 0) = nI (S.rh g 0) from ((ho_82 g (by omega)).2 0 (by omega)).2) ?_
        have rbq_97 := (hW.rp g (by omega) 0 (by omega)).2.1
        refine g_iald hx hb hK 0 f_91 rfl (show vp_in (nI (S.rh g 0)) 200 from vp_in_nI (by omega) (by omega)) d_Mo_area_65 ?_
        refine g_eqi (show unt_87 (nI (S.rh g 0)).toNatClampNeg = unt_87 (S.rh g 0) from by rw [nI_clamp (by omega)]) ?_
        refine g_eqi (show unt_87 (S.rh g 0) = iI (S.un (S.rh g 0)) from (hv_94 (S.rh g 0) (by omega)).2.1) ?_
        have ub_98 := (hW.v (S.rh g 0) (by omega)).2.1
        have ub_99 := (hW.v (S.rh g 0) (by omega)).2.2
        refine gs (pc' := 67) (fun _ _ _ _ _ hl => lv_iadd hx hb d_Mo_area_66) ?_
        refine g_eqi (show (iI (S.un (S.rp g 0))) + (iI (S.un (S.rh g 0))) = iI ((S.un (S.rp g 0)) + (S.un (S.rh g 0))) from by exact iI_add _ _) ?_
        refine gst (pc' := 68) (L' := [(3, .int (iI ((S.un (S.rp g 0)) + (S.un (S.rh g 0))))), (2, .int (nI (16 * g + 0))), (0, .ref hm), (1, .int (nI g))]) (fun _ _ _ _ _ hl => lv_istore_n hx hb d_Mo_area_67 rfl hl (by decide) rfl) ?_
        refine gs (pc' := 69) (fun _ _ _ _ _ hl => lv_iload_n hx hb d_Mo_area_68 rfl (lv_at hl 0 rfl)) ?_
        refine g_outi hlo (g_runS (As := [.int (iI ((S.un (S.rp g 0)) + (S.un (S.rh g 0))))]) (rest := []) ⟨hx, hb, hml, hown, hts⟩ hK hZ hRc hRs (c_Mo_isUnit l D cA lo MC MS G_66 B ((S.un (S.rp g 0)) + (S.un (S.rh g 0))) (by omega) (by omega) hB1 hB2) (fun _ _ => va_cwS 1 hts (tb_good (tb_cons wm829 (tb_cons wm830 (tb_cons wm12 k_Mo_isUnit)))) rfl rfl rfl (by decide +kernel) ⟨by rw [hRf]; exact Nat.le_of_ble_eq_true rfl, by rw [hRl]; exact Nat.le_of_ble_eq_true rfl⟩) hB1 hB2 rfl (Nat.le_of_ble_eq_true rfl) d_Mo_area_69) (fun r_103 G_100 B_101 p_102 => ?_)
        obtain ⟨u_104, e_105⟩ := p_102
        cases u_104
        subst e_105
        have bd_106 := b01_le (decide (uok ((S.un (S.rp g 0)) + (S.un (S.rh g 0)))))
        refine gsb (pc1 := 85) (pc2 := 75) (fun _ _ _ _ _ => lv_if_eq (tgt := 85) hx hb d_Mo_area_72 (by decide)) (fun c_107 => ?_) (fun c_107 => ?_)
        · skip
          have nc_107 : (b01 (decide (uok ((S.un (S.rp g 0)) + (S.un (S.rh g 0)))))) = 0 := (n0_eq (a := (b01 (decide (uok ((S.un (S.rp g 0)) + (S.un (S.rh g 0))))))) (by omega)).1 c_107
          have huk : ¬ uok (S.un (S.rp g 0) + S.un (S.rh g 0)) := b01_0 nc_107
          refine gs (pc' := 86) (fun _ _ _ _ _ hl => lv_iload_n hx hb d_Mo_area_85 rfl (lv_at hl 0 rfl)) ?_
          refine g_outi hlo (g_runS (As := [.int (iI ((S.un (S.rp g 0)) + (S.un (S.rh g 0))))]) (rest := []) ⟨hx, hb, hml, hown, hts⟩ hK hZ hRc hRs (c_Mo_isUnit l D cA lo MC MS G_66 B ((S.un (S.rp g 0)) + (S.un (S.rh g 0))) (by omega) (by omega) hB1 hB2) (fun _ _ => va_cwS 1 hts (tb_good (tb_cons wm829 (tb_cons wm830 (tb_cons wm12 k_Mo_isUnit)))) rfl rfl rfl (by decide +kernel) ⟨by rw [hRf]; exact Nat.le_of_ble_eq_true rfl, by rw [hRl]; exact Nat.le_of_ble_eq_true rfl⟩) hB1 hB2 rfl (Nat.le_of_ble_eq_true rfl) d_Mo_area_86) (fun r_111 G_108 B_109 p_110 => ?_)
          obtain ⟨u_112, e_113⟩ := p_110
          cases u_112
          subst e_113
          have bd_114 := b01_le (decide (uok ((S.un (S.rp g 0)) + (S.un (S.rh g 0)))))
          refine gsb (pc1 := 97) (pc2 := 92) (fun _ _ _ _ _ => lv_if_ne (tgt := 97) hx hb d_Mo_area_89 (by decide)) (fun c_115 => ?_) (fun c_115 => ?_)
          · skip
            have nc_115 : (b01 (decide (uok ((S.un (S.rp g 0)) + (S.un (S.rh g 0)))))) ≠ 0 := (n0_ne (a := (b01 (decide (uok ((S.un (S.rp g 0)) + (S.un (S.rh g 0))))))) (by omega)).1 c_115
            have huk9 : uok (S.un (S.rp g 0) + S.un (S.rh g 0)) := b01_1 nc_115
            refine gs (pc' := 99) (fun _ _ _ _ _ hl => lv_bipush (v := (-3)) hx hb d_Mo_area_97 (by decide)) ?_
            refine g_eqi (show (-3) = iI (-3) from by decide) ?_
            have hn2 : S.n = 200 := by first | omega | exact absurd huk9 huk
            have hV_116 : MW cA hm A S 0 none none none G_66 := ⟨sg_51, sh_52, kt_53, kb_54, ks_55, Rr_56, _, f_69, mr_73, f_70, sn_, sn_, sn_, mb_74⟩
            rw [st_area hrn hi_g, if_neg hc2, if_neg (Decidable.not_not.mpr huk9), if_pos hn2] at hret
            exact hret 99 _ _ _ _ d_Mo_area_99 hB1 hB2 ⟨rfl, fun _ => rfl, hV_116, gf_71⟩
          · skip
            have nc_115 : (b01 (decide (uok ((S.un (S.rp g 0)) + (S.un (S.rh g 0)))))) = 0 := (n0_ne (a := (b01 (decide (uok ((S.un (S.rp g 0)) + (S.un (S.rh g 0))))))) (by omega)).2 c_115
            have huk9 : ¬ uok (S.un (S.rp g 0) + S.un (S.rh g 0)) := b01_0 nc_115
            refine gs (pc' := 94) (fun _ _ _ _ _ hl => lv_bipush (v := (-2)) hx hb d_Mo_area_92 (by decide)) ?_
            refine g_eqi (show (-2) = iI (-2) from by decide) ?_
            refine gs (pc' := 99) (fun _ _ _ _ _ hl => lv_goto (tgt := 99) hx hb d_Mo_area_94 (by decide)) ?_
            have hV_117 : MW cA hm A S 0 none none none G_66 := ⟨sg_51, sh_52, kt_53, kb_54, ks_55, Rr_56, _, f_69, mr_73, f_70, sn_, sn_, sn_, mb_74⟩
            rw [st_area hrn hi_g, if_neg hc2, if_pos huk9] at hret
            exact hret 99 _ _ _ _ d_Mo_area_99 hB1 hB2 ⟨rfl, fun _ => rfl, hV_117, gf_71⟩
        · skip
          have nc_107 : (b01 (decide (uok ((S.un (S.rp g 0)) + (S.un (S.rh g 0)))))) ≠ 0 := (n0_eq (a := (b01 (decide (uok ((S.un (S.rp g 0)) + (S.un (S.rh g 0))))))) (by omega)).2 c_107
          have huk : uok (S.un (S.rp g 0) + S.un (S.rh g 0)) := b01_1 nc_107
          refine gs (pc' := 76) (fun _ _ _ _ _ hl => lv_aload_n hx hb d_Mo_area_75 rfl (lv_at hl 2 rfl)) ?_
          refine g_get hx hb hts hin_Mo hown hK f_69 rfl 1 (by decide) (hts _ wm755) (fun _ h9 => h9) rfl d_Mo_area_76 ?_
          refine gs (pc' := 82) (fun _ _ _ _ _ hl => lv_sipush (v := nI 200) hx hb d_Mo_area_79 (by decide)) ?_
          refine gsb (pc1 := 100) (pc2 := 85) (fun _ _ _ _ _ => lv_icmp_ne (tgt := 100) hx hb d_Mo_area_82 (by decide)) (fun c_118 => ?_) (fun c_118 => ?_)
          · skip
            have nc_118 : S.n ≠ 200 := (nn_ne (a := S.n) (b := 200) (by omega) (by omega)).1 c_118
            refine gs (pc' := 101) (fun _ _ _ _ _ hl => lv_aload_n hx hb d_Mo_area_100 rfl (lv_at hl 2 rfl)) ?_
            refine gs (pc' := 102) (fun _ _ _ _ _ hl => lv_iconst (v := nI 0) hx hb d_Mo_area_101 (by decide)) ?_
            refine gs (pc' := 103) (fun _ _ _ _ _ hl => lv_lconst (v := lN 0) hx hb d_Mo_area_102 (by decide)) ?_
            refine g_outv hlo (g_runV (As := [.int (nI 0), .long (lN 0)]) (rest := []) ⟨hx, hb, hml, hown, hts⟩ hK hZ hRc hRs (c_Mo_set l D cA lo MC MS G_66 B hm A (mi (nI 0) (nI S.n) sg_51 sh_52 (nI S.rn) (nI S.wn) kt_53 kb_54 ks_55) f_69 Rr_56 mr_73 0 (by decide) 0 (by omega) hB1 hB2) (fun _ _ => cwV 2 hts (tb_good (tb_cons wm838 (tb_cons wm840 (tb_cons ws21 (tb_cons wm12 k_Mo_set))))) rfl rfl rfl (by decide +kernel) ⟨by rw [hRf]; exact Nat.le_of_ble_eq_true rfl, by rw [hRl]; exact Nat.le_of_ble_eq_true rfl⟩) f_69 rfl hB1 hB2 rfl (Nat.le_of_ble_eq_true rfl) d_Mo_area_103) (fun G_119 B_120 p_121 => ?_)
            obtain ⟨e_122, mr_123, f_124, gf_125⟩ := p_121
            have e_122b : B = B_120 := e_122.symm
            subst e_122b
            have gf_126 : gfr mT G G_119 := mT_75 gf_71 gf_125
            have mb_127 : MB cA A S G_119 := MB_75 mb_74 gf_125
            have f_128 : G_119 hm = some (70, .inr (9, [.int (nI 0), .int (nI S.n), .ref (A 2), .ref (A 3), .ref (A 4), .ref (A 5), .int sg_51, .int sh_52, .ref (A 8), .ref (A 9), .int (nI S.rn), .ref (A 11), .ref (A 12), .ref (A 13), .int (nI S.wn), .ref (A 15), .ref (A 16), .ref (A 17), .ref (A 18), .int kt_53, .int kb_54, .int ks_55])) := f_124
            have f_129 : G_119 (A 18) = some (83, .inl (cA 0, 8600, .inl kf_57)) := gf_125 _ _ f_70 (show ¬ ((83 : Nat) = 75 ∨ (83 : Nat) = 76) by decide)
            have f_130 : G_119 (A 11) = some (77, .inl (cA 0, 8, .inl cor_76)) := gf_125 _ _ f_79 (show ¬ ((77 : Nat) = 75 ∨ (77 : Nat) = 76) by decide)
            have f_131 : G_119 (A 12) = some (78, .inl (cA 0, 128, .inl pla_77)) := gf_125 _ _ f_80 (show ¬ ((78 : Nat) = 75 ∨ (78 : Nat) = 76) by decide)
            have f_132 : G_119 (A 13) = some (79, .inl (cA 0, 128, .inl hei_78)) := gf_125 _ _ f_81 (show ¬ ((79 : Nat) = 75 ∨ (79 : Nat) = 76) by decide)
            have f_133 : G_119 (A 2) = some (71, .inl (cA 0, 200, .inl sgn_86)) := gf_125 _ _ f_90 (show ¬ ((71 : Nat) = 75 ∨ (71 : Nat) = 76) by decide)
            have f_134 : G_119 (A 3) = some (72, .inl (cA 0, 200, .inl unt_87)) := gf_125 _ _ f_91 (show ¬ ((72 : Nat) = 75 ∨ (72 : Nat) = 76) by decide)
            have f_135 : G_119 (A 4) = some (73, .inl (cA 0, 40400, .inl sto_88)) := gf_125 _ _ f_92 (show ¬ ((73 : Nat) = 75 ∨ (73 : Nat) = 76) by decide)
            have f_136 : G_119 (A 5) = some (74, .inl (cA 0, 400, .inl szs_89)) := gf_125 _ _ f_93 (show ¬ ((74 : Nat) = 75 ∨ (74 : Nat) = 76) by decide)
            obtain ⟨Rr_137, hR_138⟩ : ∃ y9, y9 = (fup Rr_56 0 0) := ⟨_, rfl⟩
            rw [← hR_138] at mr_123
            have e_139 : Rr_137 0 = 0 := (congrFun hR_138 0).trans (rfl)
            have bd_140 : 0 < 1000000000 ^ (1) := (by decide)
            have fm_141 : ∀ r9, qo = some r9 → fc sh_52 (Rr_137 2) (Rr_137 3) r9 := by rw [show Rr_137 2 = Rr_56 2 from congrFun hR_138 2, show Rr_137 3 = Rr_56 3 from congrFun hR_138 3]; exact v_62
            refine gs (pc' := 107) (fun _ _ _ _ _ hl => lv_aload_n hx hb d_Mo_area_106 rfl (lv_at hl 2 rfl)) ?_
            refine gs (pc' := 108) (fun _ _ _ _ _ hl => lv_iconst (v := nI 1) hx hb d_Mo_area_107 (by decide)) ?_
            refine gs (pc' := 109) (fun _ _ _ _ _ hl => lv_lconst (v := lN 1) hx hb d_Mo_area_108 (by decide)) ?_
            refine g_outv hlo (g_runV (As := [.int (nI 1), .long (lN 1)]) (rest := []) ⟨hx, hb, hml, hown, hts⟩ hK hZ hRc hRs (c_Mo_set l D cA lo MC MS G_119 B hm A (mi (nI 0) (nI S.n) sg_51 sh_52 (nI S.rn) (nI S.wn) kt_53 kb_54 ks_55) f_128 Rr_137 mr_123 1 (by decide) 1 (by omega) hB1 hB2) (fun _ _ => cwV 2 hts (tb_good (tb_cons wm838 (tb_cons wm840 (tb_cons ws21 (tb_cons wm12 k_Mo_set))))) rfl rfl rfl (by decide +kernel) ⟨by rw [hRf]; exact Nat.le_of_ble_eq_true rfl, by rw [hRl]; exact Nat.le_of_ble_eq_true rfl⟩) f_128 rfl hB1 hB2 rfl (Nat.le_of_ble_eq_true rfl) d_Mo_area_109) (fun G_142 B_143 p_144 => ?_)
            obtain ⟨e_145, mr_146, f_147, gf_148⟩ := p_144
            have e_145b : B = B_143 := e_145.symm
            subst e_145b
            have gf_149 : gfr mT G G_142 := mT_75 gf_126 gf_148
            have mb_150 : MB cA A S G_142 := MB_75 mb_127 gf_148
            have f_151 : G_142 hm = some (70, .inr (9, [.int (nI 0), .int (nI S.n), .ref (A 2), .ref (A 3), .ref (A 4), .ref (A 5), .int sg_51, .int sh_52, .ref (A 8), .ref (A 9), .int (nI S.rn), .ref (A 11), .ref (A 12), .ref (A 13), .int (nI S.wn), .ref (A 15), .ref (A 16), .ref (A 17), .ref (A 18), .int kt_53, .int kb_54, .int ks_55])) := f_147
            have f_152 : G_142 (A 18) = some (83, .inl (cA 0, 8600, .inl kf_57)) := gf_148 _ _ f_129 (show ¬ ((83 : Nat) = 75 ∨ (83 : Nat) = 76) by decide)
            have f_153 : G_142 (A 11) = some (77, .inl (cA 0, 8, .inl cor_76)) := gf_148 _ _ f_130 (show ¬ ((77 : Nat) = 75 ∨ (77 : Nat) = 76) by decide)
            have f_154 : G_142 (A 12) = some (78, .inl (cA 0, 128, .inl pla_77)) := gf_148 _ _ f_131 (show ¬ ((78 : Nat) = 75 ∨ (78 : Nat) = 76) by decide)
            have f_155 : G_142 (A 13) = some (79, .inl (cA 0, 128, .inl hei_78)) := gf_148 _ _ f_132 (show ¬ ((79 : Nat) = 75 ∨ (79 : Nat) = 76) by decide)
            have f_156 : G_142 (A 2) = some (71, .inl (cA 0, 200, .inl sgn_86)) := gf_148 _ _ f_133 (show ¬ ((71 : Nat) = 75 ∨ (71 : Nat) = 76) by decide)
            have f_157 : G_142 (A 3) = some (72, .inl (cA 0, 200, .inl unt_87)) := gf_148 _ _ f_134 (show ¬ ((72 : Nat) = 75 ∨ (72 : Nat) = 76) by decide)
            have f_158 : G_142 (A 4) = some (73, .inl (cA 0, 40400, .inl sto_88)) := gf_148 _ _ f_135 (show ¬ ((73 : Nat) = 75 ∨ (73 : Nat) = 76) by decide)
            have f_159 : G_142 (A 5) = some (74, .inl (cA 0, 400, .inl szs_89)) := gf_148 _ _ f_136 (show ¬ ((74 : Nat) = 75 ∨ (74 : Nat) = 76) by decide)
            obtain ⟨Rr_160, hR_161⟩ : ∃ y9, y9 = (fup Rr_137 1 1) := ⟨_, rfl⟩
            rw [← hR_161] at mr_146
            have e_162 : Rr_160 0 = 0 := (congrFun hR_161 0).trans e_139
            have e_163 : Rr_160 1 = 1 := (congrFun hR_161 1).trans (rfl)
            have bd_164 : 1 < 1000000000 ^ (1) := (by decide)
            have fm_165 : ∀ r9, qo = some r9 → fc sh_52 (Rr_160 2) (Rr_160 3) r9 := by rw [show Rr_160 2 = Rr_137 2 from congrFun hR_161 2, show Rr_160 3 = Rr_137 3 from congrFun hR_161 3]; exact fm_141
            refine gs (pc' := 113) (fun _ _ _ _ _ hl => lv_aload_n hx hb d_Mo_area_112 rfl (lv_at hl 2 rfl)) ?_
            refine gs (pc' := 114) (fun _ _ _ _ _ hl => lv_iconst (v := nI 0) hx hb d_Mo_area_113 (by decide)) ?_
            refine g_put (ty := .int) hx hb hts hin_Mo ty_Mo ty_Mo_ok nm_Mo hown hK f_151 rfl 6 (by decide) (hts _ wm760) (fun _ h9 => h9) rfl (by decide +kernel) rfl rfl (Nat.le_of_ble_eq_true rfl) d_Mo_area_114 (fun G_166 f_167 o_168 => ?_)
            have f_169 : G_166 hm = some (70, .inr (9, [.int (nI 0), .int (nI S.n), .ref (A 2), .ref (A 3), .ref (A 4), .ref (A 5), .int (nI 0), .int sh_52, .ref (A 8), .ref (A 9), .int (nI S.rn), .ref (A 11), .ref (A 12), .ref (A 13), .int (nI S.wn), .ref (A 15), .ref (A 16), .ref (A 17), .ref (A 18), .int kt_53, .int kb_54, .int ks_55])) := f_167
            have f_170 : G_166 (A 18) = some (83, .inl (cA 0, 8600, .inl kf_57)) := (o_168 _ (gne f_152 f_151 (fun e => by cases e))).trans f_152
            have f_171 : G_166 (A 11) = some (77, .inl (cA 0, 8, .inl cor_76)) := (o_168 _ (gne f_153 f_151 (fun e => by cases e))).trans f_153
            have f_172 : G_166 (A 12) = some (78, .inl (cA 0, 128, .inl pla_77)) := (o_168 _ (gne f_154 f_151 (fun e => by cases e))).trans f_154
            have f_173 : G_166 (A 13) = some (79, .inl (cA 0, 128, .inl hei_78)) := (o_168 _ (gne f_155 f_151 (fun e => by cases e))).trans f_155
            have f_174 : G_166 (A 2) = some (71, .inl (cA 0, 200, .inl sgn_86)) := (o_168 _ (gne f_156 f_151 (fun e => by cases e))).trans f_156
            have f_175 : G_166 (A 3) = some (72, .inl (cA 0, 200, .inl unt_87)) := (o_168 _ (gne f_157 f_151 (fun e => by cases e))).trans f_157
            have f_176 : G_166 (A 4) = some (73, .inl (cA 0, 40400, .inl sto_88)) := (o_168 _ (gne f_158 f_151 (fun e => by cases e))).trans f_158
            have f_177 : G_166 (A 5) = some (74, .inl (cA 0, 400, .inl szs_89)) := (o_168 _ (gne f_159 f_151 (fun e => by cases e))).trans f_159
            have gf_178 : gfr mT G G_166 := gfr_put gf_149 f_151 (show mT 70 by decide) o_168
            have gf_179 : gfr (fun x => x = 70) _ G_166 := gfr_put gfr_rf f_151 rfl o_168
            have mr_180 : MR cA A Rr_160 G_166 := MR_fr mr_146 gf_179 (show ¬ (75 : Nat) = 70 by decide) (show ¬ (76 : Nat) = 70 by decide)
            have mb_181 : MB cA A S G_166 := MB_fr mb_150 gf_179 (fun x h9 => by omega)
            have hf0 := fc_0 e_162 e_163
            refine gs (pc' := 118) (fun _ _ _ _ _ hl => lv_aload_n hx hb d_Mo_area_117 rfl (lv_at hl 2 rfl)) ?_
            have hV_182 : MW cA hm A S 0 (some 0) qo qk G_166 := ⟨(nI 0), sh_52, kt_53, kb_54, ks_55, Rr_160, _, f_169, mr_180, f_170, (sm_ hf0), fm_165, v_63, mb_181⟩
            refine g_outv hlo (g_runV (As := []) (rest := []) ⟨hx, hb, hml, hown, hts⟩ hK hZ hRc hRs (c_Mo_stash l D cA lo MC MS G_166 B hm A S 0 (some 0) qo qk hV_182 hW 0 rfl hB1 hB2) (fun _ _ => cwV 0 hts (tb_good (tb_cons wm992 (tb_cons wm994 (tb_cons ws46 (tb_cons wm12 k_Mo_stash))))) rfl rfl rfl (by decide +kernel) ⟨by rw [hRf]; exact Nat.le_of_ble_eq_true rfl, by rw [hRl]; exact Nat.le_of_ble_eq_true rfl⟩) f_169 rfl hB1 hB2 rfl (Nat.le_of_ble_eq_true rfl) d_Mo_area_118) (fun G_183 B_184 p_185 => ?_)
            obtain ⟨e_186, hV_187, gf_188⟩ := p_185
            have e_186b : B = B_184 := e_186.symm
            subst e_186b
            have gf_189 : gfr mT G G_183 := mT_mT gf_178 gf_188
            refine gs (pc' := 122) (fun _ _ _ _ _ hl => lv_iload_n hx hb d_Mo_area_121 rfl (lv_at hl 1 rfl)) ?_
            refine gst (pc' := 124) (L' := [(4, .int (nI (16 * g + 0))), (3, .int (iI ((S.un (S.rp g 0)) + (S.un (S.rh g 0))))), (2, .int (nI (16 * g + 0))), (0, .ref hm), (1, .int (nI g))]) (fun _ _ _ _ _ hl => lv_istore hx hb d_Mo_area_122 hl (by decide) rfl) ?_
            refine gsub [0, 1, 2, 3, 4] rfl ?_
            have hz9 : ¬ S.n = 200 := by omega
            have loop : ∀ (q kk : Nat) (cs : Rat) (oo : Option Rat) (Gk : gT), kk + 1 + q = S.rc g → ars (strip S g) kk = some cs → rb cs 100 → MW cA hm A S 0 (some cs) oo (some cs) Gk → gfr mT G Gk → gV p l e R s m args below meth c D clS lo 5 Q 124 [(4, .int (nI (16 * g + kk))), (3, .int (iI ((S.un (S.rp g 0)) + (S.un (S.rh g 0))))), (2, .int (nI (16 * g + 0))), (0, .ref hm), (1, .int (nI g))] [] Gk B := by
              intro q
              induction q with
              | zero =>
                intro kk cs oo Gk hq hcs hrcs hVk hgk
                refine gs (pc' := 126) (fun _ _ _ _ _ hl => lv_iload hx hb d_Mo_area_124 (lv_at hl 0 rfl)) ?_
                refine gs (pc' := 127) (fun _ _ _ _ _ hl => lv_iconst (v := nI 1) hx hb d_Mo_area_126 (by decide)) ?_
                refine gs (pc' := 128) (fun _ _ _ _ _ hl => lv_iadd hx hb d_Mo_area_127) ?_
                refine g_eqi (show (nI (16 * g + kk)) + (nI 1) = nI (16 * g + (kk + 1)) from (nI_add _ _).trans (congrArg nI (show (16 * g + kk) + 1 = 16 * g + (kk + 1) by omega))) ?_
                refine gs (pc' := 129) (fun _ _ _ _ _ hl => lv_iload_n hx hb d_Mo_area_128 rfl (lv_at hl 2 rfl)) ?_
                refine gs (pc' := 130) (fun _ _ _ _ _ hl => lv_aload_n hx hb d_Mo_area_129 rfl (lv_at hl 3 rfl)) ?_
                obtain ⟨sg_190, sh_191, kt_192, kb_193, ks_194, Rr_195, kf_196, v_197, v_198, v_199, v_200, v_201, v_202, v_203⟩ := id hVk
                have f_204 : Gk hm = some (70, .inr (9, [.int (nI 0), .int (nI S.n), .ref (A 2), .ref (A 3), .ref (A 4), .ref (A 5), .int sg_190, .int sh_191, .ref (A 8), .ref (A 9), .int (nI S.rn), .ref (A 11), .ref (A 12), .ref (A 13), .int (nI S.wn), .ref (A 15), .ref (A 16), .ref (A 17), .ref (A 18), .int kt_192, .int kb_193, .int ks_194])) := v_197
                refine g_get hx hb hts hin_Mo hown hK f_204 rfl 11 (by decide) (hts _ wm765) (fun _ h9 => h9) rfl d_Mo_area_130 ?_
                refine gs (pc' := 134) (fun _ _ _ _ _ hl => lv_iload_n hx hb d_Mo_area_133 rfl (lv_at hl 4 rfl)) ?_
                obtain ⟨cor_205, pla_206, hei_207, f_208, f_209, f_210, ho_211⟩ := id v_203.2.1
                refine g_iald hx hb hK 0 f_208 rfl (show vp_in (nI g) 8 from vp_in_nI (by omega) (by omega)) d_Mo_area_134 ?_
                refine g_eqi (show cor_205 (nI g).toNatClampNeg = cor_205 g from by rw [nI_clamp (by omega)]) ?_
                refine g_eqi (show cor_205 g = nI (S.rc g) from (ho_211 g (by omega)).1) ?_
                have rbq_212 := hW.rc g (by omega)
                refine gs (pc' := 136) (fun _ _ _ _ _ hl => lv_iadd hx hb d_Mo_area_135) ?_
                refine g_eqi (show (nI (16 * g + 0)) + (nI (S.rc g)) = nI (16 * g + S.rc g) from (nI_add _ _).trans (congrArg nI (show (16 * g + 0) + (S.rc g) = 16 * g + S.rc g by omega))) ?_
                refine gsb (pc1 := 188) (pc2 := 139) (fun _ _ _ _ _ => lv_icmp_ge (tgt := 188) hx hb d_Mo_area_136 (by decide)) (fun c_213 => ?_) (fun c_213 => ?_)
                · skip
                  have nc_213 : (16 * g + (kk + 1)) ≥ (16 * g + S.rc g) := (nn_ge (a := (16 * g + (kk + 1))) (b := (16 * g + S.rc g)) (by omega) (by omega)).1 c_213
                  refine gs (pc' := 189) (fun _ _ _ _ _ hl => lv_aload_n hx hb d_Mo_area_188 rfl (lv_at hl 3 rfl)) ?_
                  refine gs (pc' := 190) (fun _ _ _ _ _ hl => lv_iload_n hx hb d_Mo_area_189 rfl (lv_at hl 1 rfl)) ?_
                  have hV_214 : MW cA hm A S 0 (some cs) oo (some cs) Gk := ⟨sg_190, sh_191, kt_192, kb_193, ks_194, Rr_195, _, f_204, v_198, v_199, v_200, v_201, v_202, v_203⟩
                  refine g_outi hlo (g_runV (As := [.int (iI ((S.un (S.rp g 0)) + (S.un (S.rh g 0))))]) (rest := []) ⟨hx, hb, hml, hown, hts⟩ hK hZ hRc hRs (c_Mo_keep l D cA lo MC MS Gk B hm A S 0 (some cs) oo (some cs) hV_214 hW cs rfl (100) hrcs (by omega) ((S.un (S.rp g 0)) + (S.un (S.rh g 0))) huk (by omega) hB1 hB2) (fun _ _ => cwV 1 hts (tb_good (tb_cons wm881 (tb_cons wm883 (tb_cons ws31 (tb_cons wm12 k_Mo_keep))))) rfl rfl rfl (by decide +kernel) ⟨by rw [hRf]; exact Nat.le_of_ble_eq_true rfl, by rw [hRl]; exact Nat.le_of_ble_eq_true rfl⟩) f_204 rfl hB1 hB2 rfl (Nat.le_of_ble_eq_true rfl) d_Mo_area_190) (fun r_218 G_215 B_216 p_217 => ?_)
                  obtain ⟨e_219, e_222, hV_220, gf_221⟩ := p_217
                  subst e_222
                  have e_219b : B = B_216 := e_219.symm
                  subst e_219b
                  have gf_223 : gfr mT G G_215 := mT_mT hgk gf_221
                  rw [st_areaS hrn hi_g hc2 huk hz9 (s := cs) (by rw [show S.rc g - 1 = kk by omega]; exact hcs)] at hret
                  exact hret 193 _ _ _ _ d_Mo_area_193 hB1 hB2 ⟨rfl, fun _ => rfl, MW_k hV_220, gf_223⟩
                · skip
                  have nc_213 : (16 * g + (kk + 1)) < (16 * g + S.rc g) := (nn_ge (a := (16 * g + (kk + 1))) (b := (16 * g + S.rc g)) (by omega) (by omega)).2 c_213
                  exact absurd nc_213 (by omega)
              | succ q ih =>
                intro kk cs oo Gk hq hcs hrcs hVk hgk
                have hkk : kk + 1 < S.rc g := by omega
                have hbk0 := hW.rp g hi_g kk (by omega)
                have hbk1 := hW.rp g hi_g (kk + 1) hkk
                have hrb0 : rb (S.v (S.rp g kk)) 100 := rb_of (hW.v _ hbk0.1).1
                have hrb1 : rb (S.v (S.rp g (kk + 1))) 100 := rb_of (hW.v _ hbk1.1).1
                have hrh0 : rb (S.v (S.rh g kk)) 100 := rb_of (hW.v _ hbk0.2.1).1
                have hrh1 : rb (S.v (S.rh g (kk + 1))) 100 := rb_of (hW.v _ hbk1.2.1).1
                refine gs (pc' := 126) (fun _ _ _ _ _ hl => lv_iload hx hb d_Mo_area_124 (lv_at hl 0 rfl)) ?_
                refine gs (pc' := 127) (fun _ _ _ _ _ hl => lv_iconst (v := nI 1) hx hb d_Mo_area_126 (by decide)) ?_
                refine gs (pc' := 128) (fun _ _ _ _ _ hl => lv_iadd hx hb d_Mo_area_127) ?_
                refine g_eqi (show (nI (16 * g + kk)) + (nI 1) = nI (16 * g + (kk + 1)) from (nI_add _ _).trans (congrArg nI (show (16 * g + kk) + 1 = 16 * g + (kk + 1) by omega))) ?_
                refine gs (pc' := 129) (fun _ _ _ _ _ hl => lv_iload_n hx hb d_Mo_area_128 rfl (lv_at hl 2 rfl)) ?_
                refine gs (pc' := 130) (fun _ _ _ _ _ hl => lv_aload_n hx hb d_Mo_area_129 rfl (lv_at hl 3 rfl)) ?_
                obtain ⟨sg_224, sh_225, kt_226, kb_227, ks_228, Rr_229, kf_230, v_231, v_232, v_233, v_234, v_235, v_236, v_237⟩ := id hVk
                have f_238 : Gk hm = some (70, .inr (9, [.int (nI 0), .int (nI S.n), .ref (A 2), .ref (A 3), .ref (A 4), .ref (A 5), .int sg_224, .int sh_225, .ref (A 8), .ref (A 9), .int (nI S.rn), .ref (A 11), .ref (A 12), .ref (A 13), .int (nI S.wn), .ref (A 15), .ref (A 16), .ref (A 17), .ref (A 18), .int kt_226, .int kb_227, .int ks_228])) := v_231
                refine g_get hx hb hts hin_Mo hown hK f_238 rfl 11 (by decide) (hts _ wm765) (fun _ h9 => h9) rfl d_Mo_area_130 ?_
                refine gs (pc' := 134) (fun _ _ _ _ _ hl => lv_iload_n hx hb d_Mo_area_133 rfl (lv_at hl 4 rfl)) ?_
                obtain ⟨cor_239, pla_240, hei_241, f_242, f_243, f_244, ho_245⟩ := id v_237.2.1
                refine g_iald hx hb hK 0 f_242 rfl (show vp_in (nI g) 8 from vp_in_nI (by omega) (by omega)) d_Mo_area_134 ?_
                refine g_eqi (show cor_239 (nI g).toNatClampNeg = cor_239 g from by rw [nI_clamp (by omega)]) ?_
                refine g_eqi (show cor_239 g = nI (S.rc g) from (ho_245 g (by omega)).1) ?_
                have rbq_246 := hW.rc g (by omega)
                refine gs (pc' := 136) (fun _ _ _ _ _ hl => lv_iadd hx hb d_Mo_area_135) ?_
                refine g_eqi (show (nI (16 * g + 0)) + (nI (S.rc g)) = nI (16 * g + S.rc g) from (nI_add _ _).trans (congrArg nI (show (16 * g + 0) + (S.rc g) = 16 * g + S.rc g by omega))) ?_
                refine gsb (pc1 := 188) (pc2 := 139) (fun _ _ _ _ _ => lv_icmp_ge (tgt := 188) hx hb d_Mo_area_136 (by decide)) (fun c_247 => ?_) (fun c_247 => ?_)
                · skip
                  have nc_247 : (16 * g + (kk + 1)) ≥ (16 * g + S.rc g) := (nn_ge (a := (16 * g + (kk + 1))) (b := (16 * g + S.rc g)) (by omega) (by omega)).1 c_247
                  exact absurd nc_247 (by omega)
                · skip
                  have nc_247 : (16 * g + (kk + 1)) < (16 * g + S.rc g) := (nn_ge (a := (16 * g + (kk + 1))) (b := (16 * g + S.rc g)) (by omega) (by omega)).2 c_247
                  refine gs (pc' := 140) (fun _ _ _ _ _ hl => lv_aload_n hx hb d_Mo_area_139 rfl (lv_at hl 3 rfl)) ?_
                  refine gs (pc' := 142) (fun _ _ _ _ _ hl => lv_iload hx hb d_Mo_area_140 (lv_at hl 0 rfl)) ?_
                  refine gs (pc' := 144) (fun _ _ _ _ _ hl => lv_iload hx hb d_Mo_area_142 (lv_at hl 0 rfl)) ?_
                  have rbq_248 : rb ((S.v (S.rp g (kk + 1)) - S.v (S.rp g kk)) * S.v (S.rh g kk) * mkRat 1 2 + cs) (100 + 100 + 1 + 100 + 1 + (100) + 1) := rb_add (j := 100 + 100 + 1 + 100 + 1) (k := 100) (rb_mul (j := 100 + 100 + 1 + 100) (k := 1) (rb_mul (j := 100 + 100 + 1) (k := 100) (rb_sub (j := 100) (k := 100) hrb1 hrb0) hrh0) rb_2) hrcs
                  have hV_249 : MW cA hm A S 0 (some cs) oo (some cs) Gk := ⟨sg_224, sh_225, kt_226, kb_227, ks_228, Rr_229, _, f_238, v_232, v_233, v_234, v_235, v_236, v_237⟩
                  refine g_outv hlo (g_runV (As := [.int (nI (16 * g + kk)), .int (nI (16 * g + kk))]) (rest := []) ⟨hx, hb, hml, hown, hts⟩ hK hZ hRc hRs (c_Mo_addHalf l D cA lo MC MS Gk B hm A S 0 (some cs) oo (some cs) hV_249 hW g hi_g kk hkk kk (by omega) cs rfl (100) hrcs (by omega) hB1 hB2) (fun _ _ => cwV 2 hts (tb_good (tb_cons wm1008 (tb_cons wm1010 (tb_cons ws49 (tb_cons wm12 k_Mo_addHalf))))) rfl rfl rfl (by decide +kernel) ⟨by rw [hRf]; exact Nat.le_of_ble_eq_true rfl, by rw [hRl]; exact Nat.le_of_ble_eq_true rfl⟩) f_238 rfl hB1 hB2 rfl (Nat.le_of_ble_eq_true rfl) d_Mo_area_144) (fun G_250 B_251 p_252 => ?_)
                  obtain ⟨e_253, hV_254, gf_255⟩ := p_252
                  have e_253b : B = B_251 := e_253.symm
                  subst e_253b
                  have gf_256 : gfr mT G G_250 := mT_mT hgk gf_255
                  refine gs (pc' := 148) (fun _ _ _ _ _ hl => lv_aload_n hx hb d_Mo_area_147 rfl (lv_at hl 3 rfl)) ?_
                  refine gs (pc' := 150) (fun _ _ _ _ _ hl => lv_iload hx hb d_Mo_area_148 (lv_at hl 0 rfl)) ?_
                  refine gs (pc' := 152) (fun _ _ _ _ _ hl => lv_iload hx hb d_Mo_area_150 (lv_at hl 0 rfl)) ?_
                  refine gs (pc' := 153) (fun _ _ _ _ _ hl => lv_iconst (v := nI 1) hx hb d_Mo_area_152 (by decide)) ?_
                  refine gs (pc' := 154) (fun _ _ _ _ _ hl => lv_iadd hx hb d_Mo_area_153) ?_
                  refine g_eqi (show (nI (16 * g + kk)) + (nI 1) = nI (16 * g + (kk + 1)) from (nI_add _ _).trans (congrArg nI (show (16 * g + kk) + 1 = 16 * g + (kk + 1) by omega))) ?_
                  have rbq_257 : rb ((S.v (S.rp g (kk + 1)) - S.v (S.rp g kk)) * S.v (S.rh g (kk + 1)) * mkRat 1 2 + ((S.v (S.rp g (kk + 1)) - S.v (S.rp g kk)) * S.v (S.rh g kk) * mkRat 1 2 + cs)) (100 + 100 + 1 + 100 + 1 + (100 + 100 + 1 + 100 + 1 + (100) + 1) + 1) := rb_add (j := 100 + 100 + 1 + 100 + 1) (k := 100 + 100 + 1 + 100 + 1 + (100) + 1) (rb_mul (j := 100 + 100 + 1 + 100) (k := 1) (rb_mul (j := 100 + 100 + 1) (k := 100) (rb_sub (j := 100) (k := 100) hrb1 hrb0) hrh1) rb_2) rbq_248
                  obtain ⟨sg_258, sh_259, kt_260, kb_261, ks_262, Rr_263, kf_264, v_265, v_266, v_267, v_268, v_269, v_270, v_271⟩ := id hV_254
                  have f_272 : G_250 hm = some (70, .inr (9, [.int (nI 0), .int (nI S.n), .ref (A 2), .ref (A 3), .ref (A 4), .ref (A 5), .int sg_258, .int sh_259, .ref (A 8), .ref (A 9), .int (nI S.rn), .ref (A 11), .ref (A 12), .ref (A 13), .int (nI S.wn), .ref (A 15), .ref (A 16), .ref (A 17), .ref (A 18), .int kt_260, .int kb_261, .int ks_262])) := v_265
                  have hV_273 : MW cA hm A S 0 (some ((S.v (S.rp g (kk + 1)) - S.v (S.rp g kk)) * S.v (S.rh g kk) * mkRat 1 2 + cs)) none (some ((S.v (S.rp g (kk + 1)) - S.v (S.rp g kk)) * S.v (S.rh g kk) * mkRat 1 2 + cs)) G_250 := ⟨sg_258, sh_259, kt_260, kb_261, ks_262, Rr_263, _, f_272, v_266, v_267, v_268, v_269, v_270, v_271⟩
                  refine g_outv hlo (g_runV (As := [.int (nI (16 * g + kk)), .int (nI (16 * g + (kk + 1)))]) (rest := []) ⟨hx, hb, hml, hown, hts⟩ hK hZ hRc hRs (c_Mo_addHalf l D cA lo MC MS G_250 B hm A S 0 (some ((S.v (S.rp g (kk + 1)) - S.v (S.rp g kk)) * S.v (S.rh g kk) * mkRat 1 2 + cs)) none (some ((S.v (S.rp g (kk + 1)) - S.v (S.rp g kk)) * S.v (S.rh g kk) * mkRat 1 2 + cs)) hV_273 hW g hi_g kk hkk (kk + 1) (by omega) ((S.v (S.rp g (kk + 1)) - S.v (S.rp g kk)) * S.v (S.rh g kk) * mkRat 1 2 + cs) rfl (100 + 100 + 1 + 100 + 1 + (100) + 1) rbq_248 (by omega) hB1 hB2) (fun _ _ => cwV 2 hts (tb_good (tb_cons wm1008 (tb_cons wm1010 (tb_cons ws49 (tb_cons wm12 k_Mo_addHalf))))) rfl rfl rfl (by decide +kernel) ⟨by rw [hRf]; exact Nat.le_of_ble_eq_true rfl, by rw [hRl]; exact Nat.le_of_ble_eq_true rfl⟩) f_272 rfl hB1 hB2 rfl (Nat.le_of_ble_eq_true rfl) d_Mo_area_154) (fun G_274 B_275 p_276 => ?_)
                  obtain ⟨e_277, hV_278, gf_279⟩ := p_276
                  have e_277b : B = B_275 := e_277.symm
                  subst e_277b
                  have gf_280 : gfr mT G G_274 := mT_mT gf_256 gf_279
                  have hst9 := strip_e (S := S) (r := g) (k := kk) (c := cs)
                  rw [hst9] at hV_278 rbq_257
                  obtain ⟨sg_281, sh_282, kt_283, kb_284, ks_285, Rr_286, kf_287, v_288, v_289, v_290, v_291, v_292, v_293, v_294⟩ := id hV_278
                  have f_295 : G_274 hm = some (70, .inr (9, [.int (nI 0), .int (nI S.n), .ref (A 2), .ref (A 3), .ref (A 4), .ref (A 5), .int sg_281, .int sh_282, .ref (A 8), .ref (A 9), .int (nI S.rn), .ref (A 11), .ref (A 12), .ref (A 13), .int (nI S.wn), .ref (A 15), .ref (A 16), .ref (A 17), .ref (A 18), .int kt_283, .int kb_284, .int ks_285])) := v_288
                  obtain ⟨e_296, e_297, e_298⟩ := v_291 _ rfl
                  have f_299 : G_274 hm = some (70, .inr (9, [.int (nI 0), .int (nI S.n), .ref (A 2), .ref (A 3), .ref (A 4), .ref (A 5), .int (iI ((cs + strip S g kk).num.sign)), .int sh_282, .ref (A 8), .ref (A 9), .int (nI S.rn), .ref (A 11), .ref (A 12), .ref (A 13), .int (nI S.wn), .ref (A 15), .ref (A 16), .ref (A 17), .ref (A 18), .int kt_283, .int kb_284, .int ks_285])) := by rw [← e_296]; exact f_295
                  have fm_300 : ∀ r9, some (cs + strip S g kk) = some r9 → fc (iI ((cs + strip S g kk).num.sign)) (Rr_286 0) (Rr_286 1) r9 := by rw [← e_296]; exact v_291
                  have s3_301 := sg3 (cs + strip S g kk).num
                  refine gs (pc' := 158) (fun _ _ _ _ _ hl => lv_aload_n hx hb d_Mo_area_157 rfl (lv_at hl 3 rfl)) ?_
                  refine gs (pc' := 159) (fun _ _ _ _ _ hl => lv_iconst (v := nI 0) hx hb d_Mo_area_158 (by decide)) ?_
                  refine g_outi hlo (g_runV (As := [.int (nI 0)]) (rest := []) ⟨hx, hb, hml, hown, hts⟩ hK hZ hRc hRs (c_Mo_digits l D cA lo MC MS G_274 B hm A (mi (nI 0) (nI S.n) (iI ((cs + strip S g kk).num.sign)) sh_282 (nI S.rn) (nI S.wn) kt_283 kb_284 ks_285) f_299 Rr_286 v_289 0 (by decide) hB1 hB2) (fun _ _ => cwV 1 hts (tb_good (tb_cons wm885 (tb_cons wm887 (tb_cons ws32 (tb_cons wm12 k_Mo_digits))))) rfl rfl rfl (by decide +kernel) ⟨by rw [hRf]; exact Nat.le_of_ble_eq_true rfl, by rw [hRl]; exact Nat.le_of_ble_eq_true rfl⟩) f_299 rfl hB1 hB2 rfl (Nat.le_of_ble_eq_true rfl) d_Mo_area_159) (fun r_305 G_302 B_303 p_304 => ?_)
                  obtain ⟨u_306, e_307⟩ := p_304
                  cases u_306
                  rw [e_297] at e_307
                  subst e_307
                  have db_308 := dig_b2 (rbq_257.1) (show 100 + 100 + 1 + 100 + 1 + (100 + 100 + 1 + 100 + 1 + (100) + 1) + 1 ≤ 4280 by omega)
                  refine gs (pc' := 165) (fun _ _ _ _ _ hl => lv_sipush (v := nI 900) hx hb d_Mo_area_162 (by decide)) ?_
                  refine gsb (pc1 := 179) (pc2 := 168) (fun _ _ _ _ _ => lv_icmp_gt (tgt := 179) hx hb d_Mo_area_165 (by decide)) (fun c_309 => ?_) (fun c_309 => ?_)
                  · skip
                    have nc_309 : (ndig ((cs + strip S g kk).num.natAbs)) > 900 := (nn_gt (a := (ndig ((cs + strip S g kk).num.natAbs))) (b := 900) (by omega) (by omega)).1 c_309
                    have hlo9 : lng (cs + strip S g kk) := Or.inl (dig_lo.mp (by omega))
                    refine gs (pc' := 181) (fun _ _ _ _ _ hl => lv_bipush (v := (-4)) hx hb d_Mo_area_179 (by decide)) ?_
                    refine g_eqi (show (-4) = iI (-4) from by decide) ?_
                    have hV_310 : MW cA hm A S 0 none none none G_274 := ⟨(iI ((cs + strip S g kk).num.sign)), sh_282, kt_283, kb_284, ks_285, Rr_286, _, f_299, v_289, v_290, sn_, sn_, sn_, v_294⟩
                    rw [st_areaN hrn hi_g hc2 huk hz9 hkk hcs hlo9] at hret
                    exact hret 181 _ _ _ _ d_Mo_area_181 hB1 hB2 ⟨rfl, fun _ => rfl, hV_310, gf_280⟩
                  · skip
                    have nc_309 : (ndig ((cs + strip S g kk).num.natAbs)) ≤ 900 := (nn_gt (a := (ndig ((cs + strip S g kk).num.natAbs))) (b := 900) (by omega) (by omega)).2 c_309
                    have hd1 : ¬ m900 ≤ (cs + strip S g kk).num.natAbs := fun e9 => by have := dig_lo.mpr e9; omega
                    refine gs (pc' := 169) (fun _ _ _ _ _ hl => lv_aload_n hx hb d_Mo_area_168 rfl (lv_at hl 3 rfl)) ?_
                    refine gs (pc' := 170) (fun _ _ _ _ _ hl => lv_iconst (v := nI 1) hx hb d_Mo_area_169 (by decide)) ?_
                    refine g_outi hlo (g_runV (As := [.int (nI 1)]) (rest := []) ⟨hx, hb, hml, hown, hts⟩ hK hZ hRc hRs (c_Mo_digits l D cA lo MC MS G_274 B hm A (mi (nI 0) (nI S.n) (iI ((cs + strip S g kk).num.sign)) sh_282 (nI S.rn) (nI S.wn) kt_283 kb_284 ks_285) f_299 Rr_286 v_289 1 (by decide) hB1 hB2) (fun _ _ => cwV 1 hts (tb_good (tb_cons wm885 (tb_cons wm887 (tb_cons ws32 (tb_cons wm12 k_Mo_digits))))) rfl rfl rfl (by decide +kernel) ⟨by rw [hRf]; exact Nat.le_of_ble_eq_true rfl, by rw [hRl]; exact Nat.le_of_ble_eq_true rfl⟩) f_299 rfl hB1 hB2 rfl (Nat.le_of_ble_eq_true rfl) d_Mo_area_170) (fun r_314 G_311 B_312 p_313 => ?_)
                    obtain ⟨u_315, e_316⟩ := p_313
                    cases u_315
                    rw [e_298] at e_316
                    subst e_316
                    have db_317 := dig_b2 (rbq_257.2) (show 100 + 100 + 1 + 100 + 1 + (100 + 100 + 1 + 100 + 1 + (100) + 1) + 1 ≤ 4280 by omega)
                    refine gs (pc' := 176) (fun _ _ _ _ _ hl => lv_sipush (v := nI 900) hx hb d_Mo_area_173 (by decide)) ?_
                    refine gsb (pc1 := 182) (pc2 := 179) (fun _ _ _ _ _ => lv_icmp_le (tgt := 182) hx hb d_Mo_area_176 (by decide)) (fun c_318 => ?_) (fun c_318 => ?_)
                    · skip
                      have nc_318 : (ndig ((cs + strip S g kk).den)) ≤ 900 := (nn_le (a := (ndig ((cs + strip S g kk).den))) (b := 900) (by omega) (by omega)).1 c_318
                      have hsh9 : ¬ lng (cs + strip S g kk) := fun e9 => by
                        rcases e9 with e9 | e9
                        · exact hd1 e9
                        · have := dig_lo.mpr e9; omega
                      refine gst (pc' := 185) (L' := [(4, .int (nI (16 * g + (kk + 1)))), (3, .int (iI ((S.un (S.rp g 0)) + (S.un (S.rh g 0))))), (2, .int (nI (16 * g + 0))), (0, .ref hm), (1, .int (nI g))]) (fun _ _ _ _ _ hl => lv_iinc (v := nI (16 * g + (kk + 1))) hx hb d_Mo_area_182 hl (k := 0) rfl (nI_add (16 * g + kk) 1) (by decide) rfl) ?_
                      refine gs (pc' := 124) (fun _ _ _ _ _ hl => lv_goto (tgt := 124) hx hb d_Mo_area_185 (by decide)) ?_
                      have hV_319 : MW cA hm A S 0 (some (cs + strip S g kk)) none (some (cs + strip S g kk)) G_274 := ⟨(iI ((cs + strip S g kk).num.sign)), sh_282, kt_283, kb_284, ks_285, Rr_286, _, f_299, v_289, v_290, fm_300, v_292, v_293, v_294⟩
                      refine gsub [0, 1, 2, 3, 4] rfl ?_
                      exact ih (kk + 1) (cs + strip S g kk) _ G_274 (by omega) (by rw [ars_s hcs, if_neg hsh9]) (rb_of hsh9) hV_319 gf_280
                    · skip
                      have nc_318 : (ndig ((cs + strip S g kk).den)) > 900 := (nn_le (a := (ndig ((cs + strip S g kk).den))) (b := 900) (by omega) (by omega)).2 c_318
                      have hlo9 : lng (cs + strip S g kk) := Or.inr (dig_lo.mp (by omega))
                      refine gs (pc' := 181) (fun _ _ _ _ _ hl => lv_bipush (v := (-4)) hx hb d_Mo_area_179 (by decide)) ?_
                      refine g_eqi (show (-4) = iI (-4) from by decide) ?_
                      have hV_320 : MW cA hm A S 0 none none none G_274 := ⟨(iI ((cs + strip S g kk).num.sign)), sh_282, kt_283, kb_284, ks_285, Rr_286, _, f_299, v_289, v_290, sn_, sn_, sn_, v_294⟩
                      rw [st_areaN hrn hi_g hc2 huk hz9 hkk hcs hlo9] at hret
                      exact hret 181 _ _ _ _ d_Mo_area_181 hB1 hB2 ⟨rfl, fun _ => rfl, hV_320, gf_280⟩
            exact loop (S.rc g - 1) 0 0 _ G_183 (by omega) rfl (rb_up rb_0 (by decide)) hV_187 gf_189
          · skip
            have nc_118 : S.n = 200 := (nn_ne (a := S.n) (b := 200) (by omega) (by omega)).2 c_118
            refine gs (pc' := 86) (fun _ _ _ _ _ hl => lv_iload_n hx hb d_Mo_area_85 rfl (lv_at hl 0 rfl)) ?_
            refine g_outi hlo (g_runS (As := [.int (iI ((S.un (S.rp g 0)) + (S.un (S.rh g 0))))]) (rest := []) ⟨hx, hb, hml, hown, hts⟩ hK hZ hRc hRs (c_Mo_isUnit l D cA lo MC MS G_66 B ((S.un (S.rp g 0)) + (S.un (S.rh g 0))) (by omega) (by omega) hB1 hB2) (fun _ _ => va_cwS 1 hts (tb_good (tb_cons wm829 (tb_cons wm830 (tb_cons wm12 k_Mo_isUnit)))) rfl rfl rfl (by decide +kernel) ⟨by rw [hRf]; exact Nat.le_of_ble_eq_true rfl, by rw [hRl]; exact Nat.le_of_ble_eq_true rfl⟩) hB1 hB2 rfl (Nat.le_of_ble_eq_true rfl) d_Mo_area_86) (fun r_324 G_321 B_322 p_323 => ?_)
            obtain ⟨u_325, e_326⟩ := p_323
            cases u_325
            subst e_326
            have bd_327 := b01_le (decide (uok ((S.un (S.rp g 0)) + (S.un (S.rh g 0)))))
            refine gsb (pc1 := 97) (pc2 := 92) (fun _ _ _ _ _ => lv_if_ne (tgt := 97) hx hb d_Mo_area_89 (by decide)) (fun c_328 => ?_) (fun c_328 => ?_)
            · skip
              have nc_328 : (b01 (decide (uok ((S.un (S.rp g 0)) + (S.un (S.rh g 0)))))) ≠ 0 := (n0_ne (a := (b01 (decide (uok ((S.un (S.rp g 0)) + (S.un (S.rh g 0))))))) (by omega)).1 c_328
              have huk9 : uok (S.un (S.rp g 0) + S.un (S.rh g 0)) := b01_1 nc_328
              refine gs (pc' := 99) (fun _ _ _ _ _ hl => lv_bipush (v := (-3)) hx hb d_Mo_area_97 (by decide)) ?_
              refine g_eqi (show (-3) = iI (-3) from by decide) ?_
              have hn2 : S.n = 200 := by first | omega | exact absurd huk9 huk
              have hV_329 : MW cA hm A S 0 none none none G_66 := ⟨sg_51, sh_52, kt_53, kb_54, ks_55, Rr_56, _, f_69, mr_73, f_70, sn_, sn_, sn_, mb_74⟩
              rw [st_area hrn hi_g, if_neg hc2, if_neg (Decidable.not_not.mpr huk9), if_pos hn2] at hret
              exact hret 99 _ _ _ _ d_Mo_area_99 hB1 hB2 ⟨rfl, fun _ => rfl, hV_329, gf_71⟩
            · skip
              have nc_328 : (b01 (decide (uok ((S.un (S.rp g 0)) + (S.un (S.rh g 0)))))) = 0 := (n0_ne (a := (b01 (decide (uok ((S.un (S.rp g 0)) + (S.un (S.rh g 0))))))) (by omega)).2 c_328
              have huk9 : ¬ uok (S.un (S.rp g 0) + S.un (S.rh g 0)) := b01_0 nc_328
              refine gs (pc' := 94) (fun _ _ _ _ _ hl => lv_bipush (v := (-2)) hx hb d_Mo_area_92 (by decide)) ?_
              refine g_eqi (show (-2) = iI (-2) from by decide) ?_
              refine gs (pc' := 99) (fun _ _ _ _ _ hl => lv_goto (tgt := 99) hx hb d_Mo_area_94 (by decide)) ?_
              have hV_330 : MW cA hm A S 0 none none none G_66 := ⟨sg_51, sh_52, kt_53, kb_54, ks_55, Rr_56, _, f_69, mr_73, f_70, sn_, sn_, sn_, mb_74⟩
              rw [st_area hrn hi_g, if_neg hc2, if_pos huk9] at hret
              exact hret 99 _ _ _ _ d_Mo_area_99 hB1 hB2 ⟨rfl, fun _ => rfl, hV_330, gf_71⟩
      · skip
        have nc_84 : (S.rc g) < 2 := (nn_ge (a := (S.rc g)) (b := 2) (by omega) (by omega)).2 c_84
        refine gs (pc' := 38) (fun _ _ _ _ _ hl => lv_bipush (v := (-5)) hx hb d_Mo_area_36 (by decide)) ?_
        refine g_eqi (show (-5) = iI (-5) from by decide) ?_
        have hV_331 : MW cA hm A S 0 none none none G_66 := ⟨sg_51, sh_52, kt_53, kb_54, ks_55, Rr_56, _, f_69, mr_73, f_70, sn_, sn_, sn_, mb_74⟩
        rw [st_area hrn hi_g, if_pos (by omega)] at hret
        exact hret 38 _ _ _ _ d_Mo_area_38 hB1 hB2 ⟨rfl, fun _ => rfl, hV_331, gf_71⟩
    · skip
      have nc_75 : 0 > 0 := (n0_le (a := 0) (by omega)).2 c_75
      exact absurd nc_75 (by decide)
