set_option maxHeartbeats 4000000 in
set_option maxRecDepth 100000 in
theorem c_Mo_prism (l : Launch) (D : va_G) (cA : Nat → ClassId) (lo MC MS : Nat) (G : gT) (B : Nat × Nat) (hm : Nat) (A : Nat → Nat) (S : St) (th : Nat) (qm qo qk : Option Rat) (hV : MW cA hm A S th qm qo qk G) (hW : WF S) (x : Int) (hx1 : -2147483648 ≤ x) (hx2 : x < 2147483648) (y : Int) (hy1 : -2147483648 ≤ y) (hy2 : y < 2147483648) (z : Int) (hz1 : -2147483648 ≤ z) (hz2 : z < 2147483648) (t : Int) (ht1 : -2147483648 ≤ t) (ht2 : t < 2147483648) (hB1 : B.1 ≤ MC) (hB2 : B.2 ≤ MS) : gMet l y_Mo_prism w_Mo_prism 5 131 D clS (gtys cA) lo MC MS [.ref hm, .int (iI x), .int (iI y), .int (iI z), .int (iI t)] G B (gQi D clS lo (fun r9 u => u.2 = B ∧ ((sp_prism S (iI x) (iI y) (iI z) (iI t)).1 = 0 → r9 = iI (sp_prism S (iI x) (iI y) (iI z) (iI t)).2.1) ∧ MW cA hm A (sp_prism S (iI x) (iI y) (iI z) (iI t)).2.2 (sp_prism S (iI x) (iI y) (iI z) (iI t)).1 none none none u.1 ∧ gfr mT G u.1)) := by
  refine g_meti (cc := prog_11_method_35_code) (nL := 6) (L := [(0, .ref hm), (1, .int (iI x)), (2, .int (iI y)), (3, .int (iI z)), (4, .int (iI t))]) (by decide +kernel) rfl (Nat.le_of_ble_eq_true rfl) rfl ?_
  intro p e R s m args below meth c Q hF hRc hRs hRf hRl hret
  obtain ⟨hx, hb, hr, hml, hts0, hown, hlocks, hin, hK, hlo, hZ⟩ := hF
  have hts : ∀ w ∈ tbg, w.before args s = true := fun w h => hts0 w (List.mem_cons_of_mem _ h)
  have hn := hW.n
  have hrn := hW.rn
  have hwn := hW.wn
  refine gs (pc' := 1) (fun _ _ _ _ _ hl => lv_aload_n hx hb d_Mo_prism_0 rfl (lv_at hl 0 rfl)) ?_
  refine gs (pc' := 2) (fun _ _ _ _ _ hl => lv_aload_n hx hb d_Mo_prism_1 rfl (lv_at hl 0 rfl)) ?_
  refine gs (pc' := 3) (fun _ _ _ _ _ hl => lv_iload_n hx hb d_Mo_prism_2 rfl (lv_at hl 1 rfl)) ?_
  obtain ⟨sg_1, sh_2, kt_3, kb_4, ks_5, Rr_6, kf_7, v_8, v_9, v_10, v_11, v_12, v_13, v_14⟩ := id hV
  have f_15 : G hm = some (70, .inr (9, [.int (nI th), .int (nI S.n), .ref (A 2), .ref (A 3), .ref (A 4), .ref (A 5), .int sg_1, .int sh_2, .ref (A 8), .ref (A 9), .int (nI S.rn), .ref (A 11), .ref (A 12), .ref (A 13), .int (nI S.wn), .ref (A 15), .ref (A 16), .ref (A 17), .ref (A 18), .int kt_3, .int kb_4, .int ks_5])) := v_8
  have hV_16 : MW cA hm A S th qm qo qk G := ⟨sg_1, sh_2, kt_3, kb_4, ks_5, Rr_6, _, f_15, v_9, v_10, v_11, v_12, v_13, v_14⟩
  refine g_outi hlo (g_runV (As := [.int (iI x)]) (rest := [.ref hm]) ⟨hx, hb, hml, hown, hts⟩ hK hZ hRc hRs (c_Mo_isValue l D cA lo MC MS G B hm A S th qm qo qk hV_16 hW x (by omega) (by omega) hB1 hB2) (fun _ _ => cwV 1 hts (tb_good (tb_cons wm893 (tb_cons wm895 (tb_cons ws33 (tb_cons wm12 k_Mo_isValue))))) rfl rfl rfl (by decide +kernel) ⟨by rw [hRf]; exact Nat.le_of_ble_eq_true rfl, by rw [hRl]; exact Nat.le_of_ble_eq_true rfl⟩) f_15 rfl hB1 hB2 rfl (Nat.le_of_ble_eq_true rfl) d_Mo_prism_3) (fun r_20 G_17 B_18 p_19 => ?_)
  obtain ⟨u_21, e_22⟩ := p_19
  cases u_21
  subst e_22
  have bd_23 := b01_le (decide (0 ≤ x ∧ x < S.n))
  refine gsb (pc1 := 38) (pc2 := 9) (fun _ _ _ _ _ => lv_if_eq (tgt := 38) hx hb d_Mo_prism_6 (by decide)) (fun c_24 => ?_) (fun c_24 => ?_)
  · skip
    have nc_24 : (b01 (decide (0 ≤ x ∧ x < S.n))) = 0 := (n0_eq (a := (b01 (decide (0 ≤ x ∧ x < S.n)))) (by omega)).1 c_24
    have hb_x : ¬ (0 ≤ x ∧ x < S.n) := b01_0 nc_24
    refine gs (pc' := 39) (fun _ _ _ _ _ hl => lv_iconst (v := nI 1) hx hb d_Mo_prism_38 (by decide)) ?_
    obtain ⟨sg_25, sh_26, kt_27, kb_28, ks_29, Rr_30, kf_31, v_32, v_33, v_34, v_35, v_36, v_37, v_38⟩ := id hV_16
    have f_39 : G hm = some (70, .inr (9, [.int (nI th), .int (nI S.n), .ref (A 2), .ref (A 3), .ref (A 4), .ref (A 5), .int sg_25, .int sh_26, .ref (A 8), .ref (A 9), .int (nI S.rn), .ref (A 11), .ref (A 12), .ref (A 13), .int (nI S.wn), .ref (A 15), .ref (A 16), .ref (A 17), .ref (A 18), .int kt_27, .int kb_28, .int ks_29])) := v_32
    refine g_put (ty := .int) hx hb hts hin_Mo ty_Mo ty_Mo_ok nm_Mo hown hK f_39 rfl 0 (by decide) (hts _ wm754) (fun _ h9 => h9) rfl (by decide +kernel) rfl rfl (Nat.le_of_ble_eq_true rfl) d_Mo_prism_39 (fun G_40 f_41 o_42 => ?_)
    have f_43 : G_40 hm = some (70, .inr (9, [.int (nI 1), .int (nI S.n), .ref (A 2), .ref (A 3), .ref (A 4), .ref (A 5), .int sg_25, .int sh_26, .ref (A 8), .ref (A 9), .int (nI S.rn), .ref (A 11), .ref (A 12), .ref (A 13), .int (nI S.wn), .ref (A 15), .ref (A 16), .ref (A 17), .ref (A 18), .int kt_27, .int kb_28, .int ks_29])) := f_41
    have f_44 : G_40 (A 18) = some (83, .inl (cA 0, 8600, .inl kf_31)) := (o_42 _ (gne v_34 f_39 (fun e => by cases e))).trans v_34
    have gf_45 : gfr mT G G_40 := gfr_put gfr_rf f_39 (show mT 70 by decide) o_42
    have gf_46 : gfr (fun x => x = 70) _ G_40 := gfr_put gfr_rf f_39 rfl o_42
    have mr_47 : MR cA A Rr_30 G_40 := MR_fr v_33 gf_46 (show ¬ (75 : Nat) = 70 by decide) (show ¬ (76 : Nat) = 70 by decide)
    have mb_48 : MB cA A S G_40 := MB_fr v_38 gf_46 (fun x h9 => by omega)
    refine gs (pc' := 43) (fun _ _ _ _ _ hl => lv_aload_n hx hb d_Mo_prism_42 rfl (lv_at hl 0 rfl)) ?_
    refine g_get hx hb hts hin_Mo hown hK f_43 rfl 0 (by decide) (hts _ wm754) (fun _ h9 => h9) rfl d_Mo_prism_43 ?_
    refine gsb (pc1 := 51) (pc2 := 49) (fun _ _ _ _ _ => lv_if_le (tgt := 51) hx hb d_Mo_prism_46 (by decide)) (fun c_49 => ?_) (fun c_49 => ?_)
    · skip
      have nc_49 : 1 ≤ 0 := (n0_le (a := 1) (by omega)).1 c_49
      exact absurd nc_49 (by decide)
    · skip
      have nc_49 : 1 > 0 := (n0_le (a := 1) (by omega)).2 c_49
      refine gs (pc' := 50) (fun _ _ _ _ _ hl => lv_iconst (v := nI 0) hx hb d_Mo_prism_49 (by decide)) ?_
      have hV_50 : MW cA hm A S 1 none none none G_40 := ⟨sg_25, sh_26, kt_27, kb_28, ks_29, Rr_30, _, f_43, mr_47, f_44, sn_, sn_, sn_, mb_48⟩
      rw [su_prism (fun q9 => vn_ hx1 hx2 hb_x q9.1)] at hret
      exact hret 50 _ _ _ _ d_Mo_prism_50 hB1 hB2 ⟨rfl, fun h9 => absurd (show (1 : Nat) = 0 from h9) (by decide), hV_50, gf_45⟩
  · skip
    have nc_24 : (b01 (decide (0 ≤ x ∧ x < S.n))) ≠ 0 := (n0_eq (a := (b01 (decide (0 ≤ x ∧ x < S.n)))) (by omega)).2 c_24
    have hg_x : 0 ≤ x ∧ x < S.n := b01_1 nc_24
    have hg1_x := hg_x.1
    have hg2_x := hg_x.2
    obtain ⟨i, hxe_i⟩ : ∃ i : Nat, x = (i : Int) := ⟨x.toNat, by omega⟩
    subst hxe_i
    rw [← nI_iI i] at hret ⊢
    have hi_i : i < S.n := by omega
    have rbq_51 : rb (S.v i) 100 := rb_of (hW.v _ hi_i).1
    refine gs (pc' := 10) (fun _ _ _ _ _ hl => lv_aload_n hx hb d_Mo_prism_9 rfl (lv_at hl 0 rfl)) ?_
    refine gs (pc' := 11) (fun _ _ _ _ _ hl => lv_iload_n hx hb d_Mo_prism_10 rfl (lv_at hl 2 rfl)) ?_
    obtain ⟨sg_52, sh_53, kt_54, kb_55, ks_56, Rr_57, kf_58, v_59, v_60, v_61, v_62, v_63, v_64, v_65⟩ := id hV_16
    have f_66 : G hm = some (70, .inr (9, [.int (nI th), .int (nI S.n), .ref (A 2), .ref (A 3), .ref (A 4), .ref (A 5), .int sg_52, .int sh_53, .ref (A 8), .ref (A 9), .int (nI S.rn), .ref (A 11), .ref (A 12), .ref (A 13), .int (nI S.wn), .ref (A 15), .ref (A 16), .ref (A 17), .ref (A 18), .int kt_54, .int kb_55, .int ks_56])) := v_59
    have hV_67 : MW cA hm A S th qm qo qk G := ⟨sg_52, sh_53, kt_54, kb_55, ks_56, Rr_57, _, f_66, v_60, v_61, v_62, v_63, v_64, v_65⟩
    refine g_outi hlo (g_runV (As := [.int (iI y)]) (rest := [.ref hm]) ⟨hx, hb, hml, hown, hts⟩ hK hZ hRc hRs (c_Mo_isValue l D cA lo MC MS G B hm A S th qm qo qk hV_67 hW y (by omega) (by omega) hB1 hB2) (fun _ _ => cwV 1 hts (tb_good (tb_cons wm893 (tb_cons wm895 (tb_cons ws33 (tb_cons wm12 k_Mo_isValue))))) rfl rfl rfl (by decide +kernel) ⟨by rw [hRf]; exact Nat.le_of_ble_eq_true rfl, by rw [hRl]; exact Nat.le_of_ble_eq_true rfl⟩) f_66 rfl hB1 hB2 rfl (Nat.le_of_ble_eq_true rfl) d_Mo_prism_11) (fun r_71 G_68 B_69 p_70 => ?_)
    obtain ⟨u_72, e_73⟩ := p_70
    cases u_72
    subst e_73
    have bd_74 := b01_le (decide (0 ≤ y ∧ y < S.n))
    refine gsb (pc1 := 38) (pc2 := 17) (fun _ _ _ _ _ => lv_if_eq (tgt := 38) hx hb d_Mo_prism_14 (by decide)) (fun c_75 => ?_) (fun c_75 => ?_)
    · skip
      have nc_75 : (b01 (decide (0 ≤ y ∧ y < S.n))) = 0 := (n0_eq (a := (b01 (decide (0 ≤ y ∧ y < S.n)))) (by omega)).1 c_75
      have hb_y : ¬ (0 ≤ y ∧ y < S.n) := b01_0 nc_75
      refine gs (pc' := 39) (fun _ _ _ _ _ hl => lv_iconst (v := nI 1) hx hb d_Mo_prism_38 (by decide)) ?_
      obtain ⟨sg_76, sh_77, kt_78, kb_79, ks_80, Rr_81, kf_82, v_83, v_84, v_85, v_86, v_87, v_88, v_89⟩ := id hV_67
      have f_90 : G hm = some (70, .inr (9, [.int (nI th), .int (nI S.n), .ref (A 2), .ref (A 3), .ref (A 4), .ref (A 5), .int sg_76, .int sh_77, .ref (A 8), .ref (A 9), .int (nI S.rn), .ref (A 11), .ref (A 12), .ref (A 13), .int (nI S.wn), .ref (A 15), .ref (A 16), .ref (A 17), .ref (A 18), .int kt_78, .int kb_79, .int ks_80])) := v_83
      refine g_put (ty := .int) hx hb hts hin_Mo ty_Mo ty_Mo_ok nm_Mo hown hK f_90 rfl 0 (by decide) (hts _ wm754) (fun _ h9 => h9) rfl (by decide +kernel) rfl rfl (Nat.le_of_ble_eq_true rfl) d_Mo_prism_39 (fun G_91 f_92 o_93 => ?_)
      have f_94 : G_91 hm = some (70, .inr (9, [.int (nI 1), .int (nI S.n), .ref (A 2), .ref (A 3), .ref (A 4), .ref (A 5), .int sg_76, .int sh_77, .ref (A 8), .ref (A 9), .int (nI S.rn), .ref (A 11), .ref (A 12), .ref (A 13), .int (nI S.wn), .ref (A 15), .ref (A 16), .ref (A 17), .ref (A 18), .int kt_78, .int kb_79, .int ks_80])) := f_92
      have f_95 : G_91 (A 18) = some (83, .inl (cA 0, 8600, .inl kf_82)) := (o_93 _ (gne v_85 f_90 (fun e => by cases e))).trans v_85
      have gf_96 : gfr mT G G_91 := gfr_put gfr_rf f_90 (show mT 70 by decide) o_93
      have gf_97 : gfr (fun x => x = 70) _ G_91 := gfr_put gfr_rf f_90 rfl o_93
      have mr_98 : MR cA A Rr_81 G_91 := MR_fr v_84 gf_97 (show ¬ (75 : Nat) = 70 by decide) (show ¬ (76 : Nat) = 70 by decide)
      have mb_99 : MB cA A S G_91 := MB_fr v_89 gf_97 (fun x h9 => by omega)
      refine gs (pc' := 43) (fun _ _ _ _ _ hl => lv_aload_n hx hb d_Mo_prism_42 rfl (lv_at hl 0 rfl)) ?_
      refine g_get hx hb hts hin_Mo hown hK f_94 rfl 0 (by decide) (hts _ wm754) (fun _ h9 => h9) rfl d_Mo_prism_43 ?_
      refine gsb (pc1 := 51) (pc2 := 49) (fun _ _ _ _ _ => lv_if_le (tgt := 51) hx hb d_Mo_prism_46 (by decide)) (fun c_100 => ?_) (fun c_100 => ?_)
      · skip
        have nc_100 : 1 ≤ 0 := (n0_le (a := 1) (by omega)).1 c_100
        exact absurd nc_100 (by decide)
      · skip
        have nc_100 : 1 > 0 := (n0_le (a := 1) (by omega)).2 c_100
        refine gs (pc' := 50) (fun _ _ _ _ _ hl => lv_iconst (v := nI 0) hx hb d_Mo_prism_49 (by decide)) ?_
        have hV_101 : MW cA hm A S 1 none none none G_91 := ⟨sg_76, sh_77, kt_78, kb_79, ks_80, Rr_81, _, f_94, mr_98, f_95, sn_, sn_, sn_, mb_99⟩
        rw [su_prism (fun q9 => vn_ hy1 hy2 hb_y q9.2.1)] at hret
        exact hret 50 _ _ _ _ d_Mo_prism_50 hB1 hB2 ⟨rfl, fun h9 => absurd (show (1 : Nat) = 0 from h9) (by decide), hV_101, gf_96⟩
    · skip
      have nc_75 : (b01 (decide (0 ≤ y ∧ y < S.n))) ≠ 0 := (n0_eq (a := (b01 (decide (0 ≤ y ∧ y < S.n)))) (by omega)).2 c_75
      have hg_y : 0 ≤ y ∧ y < S.n := b01_1 nc_75
      have hg1_y := hg_y.1
      have hg2_y := hg_y.2
      obtain ⟨j, hxe_j⟩ : ∃ j : Nat, y = (j : Int) := ⟨y.toNat, by omega⟩
      subst hxe_j
      rw [← nI_iI j] at hret ⊢
      have hi_j : j < S.n := by omega
      have rbq_102 : rb (S.v j) 100 := rb_of (hW.v _ hi_j).1
      refine gs (pc' := 18) (fun _ _ _ _ _ hl => lv_aload_n hx hb d_Mo_prism_17 rfl (lv_at hl 0 rfl)) ?_
      refine gs (pc' := 19) (fun _ _ _ _ _ hl => lv_iload_n hx hb d_Mo_prism_18 rfl (lv_at hl 3 rfl)) ?_
      obtain ⟨sg_103, sh_104, kt_105, kb_106, ks_107, Rr_108, kf_109, v_110, v_111, v_112, v_113, v_114, v_115, v_116⟩ := id hV_67
      have f_117 : G hm = some (70, .inr (9, [.int (nI th), .int (nI S.n), .ref (A 2), .ref (A 3), .ref (A 4), .ref (A 5), .int sg_103, .int sh_104, .ref (A 8), .ref (A 9), .int (nI S.rn), .ref (A 11), .ref (A 12), .ref (A 13), .int (nI S.wn), .ref (A 15), .ref (A 16), .ref (A 17), .ref (A 18), .int kt_105, .int kb_106, .int ks_107])) := v_110
      have hV_118 : MW cA hm A S th qm qo qk G := ⟨sg_103, sh_104, kt_105, kb_106, ks_107, Rr_108, _, f_117, v_111, v_112, v_113, v_114, v_115, v_116⟩
      refine g_outi hlo (g_runV (As := [.int (iI z)]) (rest := [.ref hm]) ⟨hx, hb, hml, hown, hts⟩ hK hZ hRc hRs (c_Mo_isValue l D cA lo MC MS G B hm A S th qm qo qk hV_118 hW z (by omega) (by omega) hB1 hB2) (fun _ _ => cwV 1 hts (tb_good (tb_cons wm893 (tb_cons wm895 (tb_cons ws33 (tb_cons wm12 k_Mo_isValue))))) rfl rfl rfl (by decide +kernel) ⟨by rw [hRf]; exact Nat.le_of_ble_eq_true rfl, by rw [hRl]; exact Nat.le_of_ble_eq_true rfl⟩) f_117 rfl hB1 hB2 rfl (Nat.le_of_ble_eq_true rfl) d_Mo_prism_19) (fun r_122 G_119 B_120 p_121 => ?_)
      obtain ⟨u_123, e_124⟩ := p_121
      cases u_123
      subst e_124
      have bd_125 := b01_le (decide (0 ≤ z ∧ z < S.n))
      refine gsb (pc1 := 38) (pc2 := 25) (fun _ _ _ _ _ => lv_if_eq (tgt := 38) hx hb d_Mo_prism_22 (by decide)) (fun c_126 => ?_) (fun c_126 => ?_)
      · skip
        have nc_126 : (b01 (decide (0 ≤ z ∧ z < S.n))) = 0 := (n0_eq (a := (b01 (decide (0 ≤ z ∧ z < S.n)))) (by omega)).1 c_126
        have hb_z : ¬ (0 ≤ z ∧ z < S.n) := b01_0 nc_126
        refine gs (pc' := 39) (fun _ _ _ _ _ hl => lv_iconst (v := nI 1) hx hb d_Mo_prism_38 (by decide)) ?_
        obtain ⟨sg_127, sh_128, kt_129, kb_130, ks_131, Rr_132, kf_133, v_134, v_135, v_136, v_137, v_138, v_139, v_140⟩ := id hV_118
        have f_141 : G hm = some (70, .inr (9, [.int (nI th), .int (nI S.n), .ref (A 2), .ref (A 3), .ref (A 4), .ref (A 5), .int sg_127, .int sh_128, .ref (A 8), .ref (A 9), .int (nI S.rn), .ref (A 11), .ref (A 12), .ref (A 13), .int (nI S.wn), .ref (A 15), .ref (A 16), .ref (A 17), .ref (A 18), .int kt_129, .int kb_130, .int ks_131])) := v_134
        refine g_put (ty := .int) hx hb hts hin_Mo ty_Mo ty_Mo_ok nm_Mo hown hK f_141 rfl 0 (by decide) (hts _ wm754) (fun _ h9 => h9) rfl (by decide +kernel) rfl rfl (Nat.le_of_ble_eq_true rfl) d_Mo_prism_39 (fun G_142 f_143 o_144 => ?_)
        have f_145 : G_142 hm = some (70, .inr (9, [.int (nI 1), .int (nI S.n), .ref (A 2), .ref (A 3), .ref (A 4), .ref (A 5), .int sg_127, .int sh_128, .ref (A 8), .ref (A 9), .int (nI S.rn), .ref (A 11), .ref (A 12), .ref (A 13), .int (nI S.wn), .ref (A 15), .ref (A 16), .ref (A 17), .ref (A 18), .int kt_129, .int kb_130, .int ks_131])) := f_143
        have f_146 : G_142 (A 18) = some (83, .inl (cA 0, 8600, .inl kf_133)) := (o_144 _ (gne v_136 f_141 (fun e => by cases e))).trans v_136
        have gf_147 : gfr mT G G_142 := gfr_put gfr_rf f_141 (show mT 70 by decide) o_144
        have gf_148 : gfr (fun x => x = 70) _ G_142 := gfr_put gfr_rf f_141 rfl o_144
        have mr_149 : MR cA A Rr_132 G_142 := MR_fr v_135 gf_148 (show ¬ (75 : Nat) = 70 by decide) (show ¬ (76 : Nat) = 70 by decide)
        have mb_150 : MB cA A S G_142 := MB_fr v_140 gf_148 (fun x h9 => by omega)
        refine gs (pc' := 43) (fun _ _ _ _ _ hl => lv_aload_n hx hb d_Mo_prism_42 rfl (lv_at hl 0 rfl)) ?_
        refine g_get hx hb hts hin_Mo hown hK f_145 rfl 0 (by decide) (hts _ wm754) (fun _ h9 => h9) rfl d_Mo_prism_43 ?_
        refine gsb (pc1 := 51) (pc2 := 49) (fun _ _ _ _ _ => lv_if_le (tgt := 51) hx hb d_Mo_prism_46 (by decide)) (fun c_151 => ?_) (fun c_151 => ?_)
        · skip
          have nc_151 : 1 ≤ 0 := (n0_le (a := 1) (by omega)).1 c_151
          exact absurd nc_151 (by decide)
        · skip
          have nc_151 : 1 > 0 := (n0_le (a := 1) (by omega)).2 c_151
          refine gs (pc' := 50) (fun _ _ _ _ _ hl => lv_iconst (v := nI 0) hx hb d_Mo_prism_49 (by decide)) ?_
          have hV_152 : MW cA hm A S 1 none none none G_142 := ⟨sg_127, sh_128, kt_129, kb_130, ks_131, Rr_132, _, f_145, mr_149, f_146, sn_, sn_, sn_, mb_150⟩
          rw [su_prism (fun q9 => vn_ hz1 hz2 hb_z q9.2.2.1)] at hret
          exact hret 50 _ _ _ _ d_Mo_prism_50 hB1 hB2 ⟨rfl, fun h9 => absurd (show (1 : Nat) = 0 from h9) (by decide), hV_152, gf_147⟩
      · skip
        have nc_126 : (b01 (decide (0 ≤ z ∧ z < S.n))) ≠ 0 := (n0_eq (a := (b01 (decide (0 ≤ z ∧ z < S.n)))) (by omega)).2 c_126
        have hg_z : 0 ≤ z ∧ z < S.n := b01_1 nc_126
        have hg1_z := hg_z.1
        have hg2_z := hg_z.2
        obtain ⟨k, hxe_k⟩ : ∃ k : Nat, z = (k : Int) := ⟨z.toNat, by omega⟩
        subst hxe_k
        rw [← nI_iI k] at hret ⊢
        have hi_k : k < S.n := by omega
        have rbq_153 : rb (S.v k) 100 := rb_of (hW.v _ hi_k).1
        refine gs (pc' := 26) (fun _ _ _ _ _ hl => lv_aload_n hx hb d_Mo_prism_25 rfl (lv_at hl 0 rfl)) ?_
        refine gs (pc' := 28) (fun _ _ _ _ _ hl => lv_iload hx hb d_Mo_prism_26 (lv_at hl 4 rfl)) ?_
        obtain ⟨sg_154, sh_155, kt_156, kb_157, ks_158, Rr_159, kf_160, v_161, v_162, v_163, v_164, v_165, v_166, v_167⟩ := id hV_118
        have f_168 : G hm = some (70, .inr (9, [.int (nI th), .int (nI S.n), .ref (A 2), .ref (A 3), .ref (A 4), .ref (A 5), .int sg_154, .int sh_155, .ref (A 8), .ref (A 9), .int (nI S.rn), .ref (A 11), .ref (A 12), .ref (A 13), .int (nI S.wn), .ref (A 15), .ref (A 16), .ref (A 17), .ref (A 18), .int kt_156, .int kb_157, .int ks_158])) := v_161
        have hV_169 : MW cA hm A S th qm qo qk G := ⟨sg_154, sh_155, kt_156, kb_157, ks_158, Rr_159, _, f_168, v_162, v_163, v_164, v_165, v_166, v_167⟩
        refine g_outi hlo (g_runV (As := [.int (iI t)]) (rest := [.ref hm]) ⟨hx, hb, hml, hown, hts⟩ hK hZ hRc hRs (c_Mo_isValue l D cA lo MC MS G B hm A S th qm qo qk hV_169 hW t (by omega) (by omega) hB1 hB2) (fun _ _ => cwV 1 hts (tb_good (tb_cons wm893 (tb_cons wm895 (tb_cons ws33 (tb_cons wm12 k_Mo_isValue))))) rfl rfl rfl (by decide +kernel) ⟨by rw [hRf]; exact Nat.le_of_ble_eq_true rfl, by rw [hRl]; exact Nat.le_of_ble_eq_true rfl⟩) f_168 rfl hB1 hB2 rfl (Nat.le_of_ble_eq_true rfl) d_Mo_prism_28) (fun r_173 G_170 B_171 p_172 => ?_)
        obtain ⟨u_174, e_175⟩ := p_172
        cases u_174
        subst e_175
        have bd_176 := b01_le (decide (0 ≤ t ∧ t < S.n))
        refine gsb (pc1 := 38) (pc2 := 34) (fun _ _ _ _ _ => lv_if_eq (tgt := 38) hx hb d_Mo_prism_31 (by decide)) (fun c_177 => ?_) (fun c_177 => ?_)
        · skip
          have nc_177 : (b01 (decide (0 ≤ t ∧ t < S.n))) = 0 := (n0_eq (a := (b01 (decide (0 ≤ t ∧ t < S.n)))) (by omega)).1 c_177
          have hb_t : ¬ (0 ≤ t ∧ t < S.n) := b01_0 nc_177
          refine gs (pc' := 39) (fun _ _ _ _ _ hl => lv_iconst (v := nI 1) hx hb d_Mo_prism_38 (by decide)) ?_
          obtain ⟨sg_178, sh_179, kt_180, kb_181, ks_182, Rr_183, kf_184, v_185, v_186, v_187, v_188, v_189, v_190, v_191⟩ := id hV_169
          have f_192 : G hm = some (70, .inr (9, [.int (nI th), .int (nI S.n), .ref (A 2), .ref (A 3), .ref (A 4), .ref (A 5), .int sg_178, .int sh_179, .ref (A 8), .ref (A 9), .int (nI S.rn), .ref (A 11), .ref (A 12), .ref (A 13), .int (nI S.wn), .ref (A 15), .ref (A 16), .ref (A 17), .ref (A 18), .int kt_180, .int kb_181, .int ks_182])) := v_185
          refine g_put (ty := .int) hx hb hts hin_Mo ty_Mo ty_Mo_ok nm_Mo hown hK f_192 rfl 0 (by decide) (hts _ wm754) (fun _ h9 => h9) rfl (by decide +kernel) rfl rfl (Nat.le_of_ble_eq_true rfl) d_Mo_prism_39 (fun G_193 f_194 o_195 => ?_)
          have f_196 : G_193 hm = some (70, .inr (9, [.int (nI 1), .int (nI S.n), .ref (A 2), .ref (A 3), .ref (A 4), .ref (A 5), .int sg_178, .int sh_179, .ref (A 8), .ref (A 9), .int (nI S.rn), .ref (A 11), .ref (A 12), .ref (A 13), .int (nI S.wn), .ref (A 15), .ref (A 16), .ref (A 17), .ref (A 18), .int kt_180, .int kb_181, .int ks_182])) := f_194
          have f_197 : G_193 (A 18) = some (83, .inl (cA 0, 8600, .inl kf_184)) := (o_195 _ (gne v_187 f_192 (fun e => by cases e))).trans v_187
          have gf_198 : gfr mT G G_193 := gfr_put gfr_rf f_192 (show mT 70 by decide) o_195
          have gf_199 : gfr (fun x => x = 70) _ G_193 := gfr_put gfr_rf f_192 rfl o_195
          have mr_200 : MR cA A Rr_183 G_193 := MR_fr v_186 gf_199 (show ¬ (75 : Nat) = 70 by decide) (show ¬ (76 : Nat) = 70 by decide)
          have mb_201 : MB cA A S G_193 := MB_fr v_191 gf_199 (fun x h9 => by omega)
          refine gs (pc' := 43) (fun _ _ _ _ _ hl => lv_aload_n hx hb d_Mo_prism_42 rfl (lv_at hl 0 rfl)) ?_
          refine g_get hx hb hts hin_Mo hown hK f_196 rfl 0 (by decide) (hts _ wm754) (fun _ h9 => h9) rfl d_Mo_prism_43 ?_
          refine gsb (pc1 := 51) (pc2 := 49) (fun _ _ _ _ _ => lv_if_le (tgt := 51) hx hb d_Mo_prism_46 (by decide)) (fun c_202 => ?_) (fun c_202 => ?_)
          · skip
            have nc_202 : 1 ≤ 0 := (n0_le (a := 1) (by omega)).1 c_202
            exact absurd nc_202 (by decide)
          · skip
            have nc_202 : 1 > 0 := (n0_le (a := 1) (by omega)).2 c_202
            refine gs (pc' := 50) (fun _ _ _ _ _ hl => lv_iconst (v := nI 0) hx hb d_Mo_prism_49 (by decide)) ?_
            have hV_203 : MW cA hm A S 1 none none none G_193 := ⟨sg_178, sh_179, kt_180, kb_181, ks_182, Rr_183, _, f_196, mr_200, f_197, sn_, sn_, sn_, mb_201⟩
            rw [su_prism (fun q9 => vn_ ht1 ht2 hb_t q9.2.2.2)] at hret
            exact hret 50 _ _ _ _ d_Mo_prism_50 hB1 hB2 ⟨rfl, fun h9 => absurd (show (1 : Nat) = 0 from h9) (by decide), hV_203, gf_198⟩
        · skip
          have nc_177 : (b01 (decide (0 ≤ t ∧ t < S.n))) ≠ 0 := (n0_eq (a := (b01 (decide (0 ≤ t ∧ t < S.n)))) (by omega)).2 c_177
          have hg_t : 0 ≤ t ∧ t < S.n := b01_1 nc_177
          have hg1_t := hg_t.1
          have hg2_t := hg_t.2
          obtain ⟨q, hxe_q⟩ : ∃ q : Nat, t = (q : Int) := ⟨t.toNat, by omega⟩
          subst hxe_q
          rw [← nI_iI q] at hret ⊢
          have hi_q : q < S.n := by omega
          have rbq_204 : rb (S.v q) 100 := rb_of (hW.v _ hi_q).1
          refine gs (pc' := 35) (fun _ _ _ _ _ hl => lv_iconst (v := nI 0) hx hb d_Mo_prism_34 (by decide)) ?_
          refine gs (pc' := 39) (fun _ _ _ _ _ hl => lv_goto (tgt := 39) hx hb d_Mo_prism_35 (by decide)) ?_
          obtain ⟨sg_205, sh_206, kt_207, kb_208, ks_209, Rr_210, kf_211, v_212, v_213, v_214, v_215, v_216, v_217, v_218⟩ := id hV_169
          have f_219 : G hm = some (70, .inr (9, [.int (nI th), .int (nI S.n), .ref (A 2), .ref (A 3), .ref (A 4), .ref (A 5), .int sg_205, .int sh_206, .ref (A 8), .ref (A 9), .int (nI S.rn), .ref (A 11), .ref (A 12), .ref (A 13), .int (nI S.wn), .ref (A 15), .ref (A 16), .ref (A 17), .ref (A 18), .int kt_207, .int kb_208, .int ks_209])) := v_212
          refine g_put (ty := .int) hx hb hts hin_Mo ty_Mo ty_Mo_ok nm_Mo hown hK f_219 rfl 0 (by decide) (hts _ wm754) (fun _ h9 => h9) rfl (by decide +kernel) rfl rfl (Nat.le_of_ble_eq_true rfl) d_Mo_prism_39 (fun G_220 f_221 o_222 => ?_)
          have f_223 : G_220 hm = some (70, .inr (9, [.int (nI 0), .int (nI S.n), .ref (A 2), .ref (A 3), .ref (A 4), .ref (A 5), .int sg_205, .int sh_206, .ref (A 8), .ref (A 9), .int (nI S.rn), .ref (A 11), .ref (A 12), .ref (A 13), .int (nI S.wn), .ref (A 15), .ref (A 16), .ref (A 17), .ref (A 18), .int kt_207, .int kb_208, .int ks_209])) := f_221
          have f_224 : G_220 (A 18) = some (83, .inl (cA 0, 8600, .inl kf_211)) := (o_222 _ (gne v_214 f_219 (fun e => by cases e))).trans v_214
          have gf_225 : gfr mT G G_220 := gfr_put gfr_rf f_219 (show mT 70 by decide) o_222
          have gf_226 : gfr (fun x => x = 70) _ G_220 := gfr_put gfr_rf f_219 rfl o_222
          have mr_227 : MR cA A Rr_210 G_220 := MR_fr v_213 gf_226 (show ¬ (75 : Nat) = 70 by decide) (show ¬ (76 : Nat) = 70 by decide)
          have mb_228 : MB cA A S G_220 := MB_fr v_218 gf_226 (fun x h9 => by omega)
          refine gs (pc' := 43) (fun _ _ _ _ _ hl => lv_aload_n hx hb d_Mo_prism_42 rfl (lv_at hl 0 rfl)) ?_
          refine g_get hx hb hts hin_Mo hown hK f_223 rfl 0 (by decide) (hts _ wm754) (fun _ h9 => h9) rfl d_Mo_prism_43 ?_
          refine gsb (pc1 := 51) (pc2 := 49) (fun _ _ _ _ _ => lv_if_le (tgt := 51) hx hb d_Mo_prism_46 (by decide)) (fun c_229 => ?_) (fun c_229 => ?_)
          · skip
            have nc_229 : 0 ≤ 0 := (n0_le (a := 0) (by omega)).1 c_229
            refine gs (pc' := 52) (fun _ _ _ _ _ hl => lv_aload_n hx hb d_Mo_prism_51 rfl (lv_at hl 0 rfl)) ?_
            refine g_get hx hb hts hin_Mo hown hK f_223 rfl 3 (by decide) (hts _ wm757) (fun _ h9 => h9) rfl d_Mo_prism_52 ?_
            refine gs (pc' := 56) (fun _ _ _ _ _ hl => lv_iload_n hx hb d_Mo_prism_55 rfl (lv_at hl 1 rfl)) ?_
            obtain ⟨sgn_230, unt_231, sto_232, szs_233, f_234, f_235, f_236, f_237, hv_238⟩ := id mb_228.1
            refine g_iald hx hb hK 0 f_235 rfl (show vp_in (nI i) 200 from vp_in_nI (by omega) (by omega)) d_Mo_prism_56 ?_
            refine g_eqi (show unt_231 (nI i).toNatClampNeg = unt_231 i from by rw [nI_clamp (by omega)]) ?_
            refine g_eqi (show unt_231 i = iI (S.un i) from (hv_238 i (by omega)).2.1) ?_
            have ub_239 := (hW.v i (by omega)).2.1
            have ub_240 := (hW.v i (by omega)).2.2
            refine gs (pc' := 58) (fun _ _ _ _ _ hl => lv_aload_n hx hb d_Mo_prism_57 rfl (lv_at hl 0 rfl)) ?_
            refine g_get hx hb hts hin_Mo hown hK f_223 rfl 3 (by decide) (hts _ wm757) (fun _ h9 => h9) rfl d_Mo_prism_58 ?_
            refine gs (pc' := 62) (fun _ _ _ _ _ hl => lv_iload_n hx hb d_Mo_prism_61 rfl (lv_at hl 2 rfl)) ?_
            refine g_iald hx hb hK 0 f_235 rfl (show vp_in (nI j) 200 from vp_in_nI (by omega) (by omega)) d_Mo_prism_62 ?_
            refine g_eqi (show unt_231 (nI j).toNatClampNeg = unt_231 j from by rw [nI_clamp (by omega)]) ?_
            refine g_eqi (show unt_231 j = iI (S.un j) from (hv_238 j (by omega)).2.1) ?_
            have ub_241 := (hW.v j (by omega)).2.1
            have ub_242 := (hW.v j (by omega)).2.2
            refine gsb (pc1 := 85) (pc2 := 66) (fun _ _ _ _ _ => lv_icmp_ne (tgt := 85) hx hb d_Mo_prism_63 (by decide)) (fun c_243 => ?_) (fun c_243 => ?_)
            · skip
              have nc_243 : (S.un i) ≠ (S.un j) := (ii_ne (a := (S.un i)) (b := (S.un j)) (by omega) (by omega) (by omega) (by omega)).1 (by first | exact c_243 | (have z9 := c_243; simp only [nI_iI] at z9; exact z9))
              have hs9 : ¬ (S.un i = S.un j ∧ S.un i = S.un k ∧ uok (S.un i + S.un q)) := fun q9 => absurd q9.1 (by omega)
              refine gs (pc' := 86) (fun _ _ _ _ _ hl => lv_iconst (v := nI 0) hx hb d_Mo_prism_85 (by decide)) ?_
              refine gst (pc' := 88) (L' := [(5, .int (nI 0)), (0, .ref hm), (1, .int (nI i)), (2, .int (nI j)), (3, .int (nI k)), (4, .int (nI q))]) (fun _ _ _ _ _ hl => lv_istore hx hb d_Mo_prism_86 hl (by decide) rfl) ?_
              refine gs (pc' := 90) (fun _ _ _ _ _ hl => lv_iload hx hb d_Mo_prism_88 (lv_at hl 0 rfl)) ?_
              refine gsb (pc1 := 123) (pc2 := 93) (fun _ _ _ _ _ => lv_if_eq (tgt := 123) hx hb d_Mo_prism_90 (by decide)) (fun c_244 => ?_) (fun c_244 => ?_)
              · skip
                have nc_244 : 0 = 0 := (n0_eq (a := 0) (by omega)).1 c_244
                refine gs (pc' := 125) (fun _ _ _ _ _ hl => lv_iload hx hb d_Mo_prism_123 (lv_at hl 0 rfl)) ?_
                refine gsb (pc1 := 148) (pc2 := 128) (fun _ _ _ _ _ => lv_if_eq (tgt := 148) hx hb d_Mo_prism_125 (by decide)) (fun c_245 => ?_) (fun c_245 => ?_)
                · skip
                  have nc_245 : 0 = 0 := (n0_eq (a := 0) (by omega)).1 c_245
                  refine gs (pc' := 150) (fun _ _ _ _ _ hl => lv_bipush (v := (-2)) hx hb d_Mo_prism_148 (by decide)) ?_
                  refine g_eqi (show (-2) = iI (-2) from by decide) ?_
                  refine gs (pc' := 155) (fun _ _ _ _ _ hl => lv_goto (tgt := 155) hx hb d_Mo_prism_150 (by decide)) ?_
                  have hs8 : ¬ (S.un i = S.un j ∧ S.un i = S.un k ∧ uok (S.un i + S.un q)) := by first | exact hs9 | exact fun q9 => hu8 q9.2.2
                  have hV_246 : MW cA hm A S 0 none none none G_220 := ⟨sg_205, sh_206, kt_207, kb_208, ks_209, Rr_210, _, f_223, mr_227, f_224, sn_, sn_, sn_, mb_228⟩
                  rw [st_prism hn hi_i hi_j hi_k hi_q, if_pos hs8] at hret
                  exact hret 155 _ _ _ _ d_Mo_prism_155 hB1 hB2 ⟨rfl, fun _ => rfl, hV_246, gf_225⟩
                · skip
                  have nc_245 : 0 ≠ 0 := (n0_eq (a := 0) (by omega)).2 c_245
                  exact absurd nc_245 (by decide)
              · skip
                have nc_244 : 0 ≠ 0 := (n0_eq (a := 0) (by omega)).2 c_244
                exact absurd nc_244 (by decide)
            · skip
              have nc_243 : (S.un i) = (S.un j) := (ii_ne (a := (S.un i)) (b := (S.un j)) (by omega) (by omega) (by omega) (by omega)).2 (by first | exact c_243 | (have z9 := c_243; simp only [nI_iI] at z9; exact z9))
              have hs1 : S.un i = S.un j := by omega
              refine gs (pc' := 67) (fun _ _ _ _ _ hl => lv_aload_n hx hb d_Mo_prism_66 rfl (lv_at hl 0 rfl)) ?_
              refine g_get hx hb hts hin_Mo hown hK f_223 rfl 3 (by decide) (hts _ wm757) (fun _ h9 => h9) rfl d_Mo_prism_67 ?_
              refine gs (pc' := 71) (fun _ _ _ _ _ hl => lv_iload_n hx hb d_Mo_prism_70 rfl (lv_at hl 1 rfl)) ?_
              refine g_iald hx hb hK 0 f_235 rfl (show vp_in (nI i) 200 from vp_in_nI (by omega) (by omega)) d_Mo_prism_71 ?_
              refine g_eqi (show unt_231 (nI i).toNatClampNeg = unt_231 i from by rw [nI_clamp (by omega)]) ?_
              refine g_eqi (show unt_231 i = iI (S.un i) from (hv_238 i (by omega)).2.1) ?_
              have ub_247 := (hW.v i (by omega)).2.1
              have ub_248 := (hW.v i (by omega)).2.2
              refine gs (pc' := 73) (fun _ _ _ _ _ hl => lv_aload_n hx hb d_Mo_prism_72 rfl (lv_at hl 0 rfl)) ?_
              refine g_get hx hb hts hin_Mo hown hK f_223 rfl 3 (by decide) (hts _ wm757) (fun _ h9 => h9) rfl d_Mo_prism_73 ?_
              refine gs (pc' := 77) (fun _ _ _ _ _ hl => lv_iload_n hx hb d_Mo_prism_76 rfl (lv_at hl 3 rfl)) ?_
              refine g_iald hx hb hK 0 f_235 rfl (show vp_in (nI k) 200 from vp_in_nI (by omega) (by omega)) d_Mo_prism_77 ?_
              refine g_eqi (show unt_231 (nI k).toNatClampNeg = unt_231 k from by rw [nI_clamp (by omega)]) ?_
              refine g_eqi (show unt_231 k = iI (S.un k) from (hv_238 k (by omega)).2.1) ?_
              have ub_249 := (hW.v k (by omega)).2.1
              have ub_250 := (hW.v k (by omega)).2.2
              refine gsb (pc1 := 85) (pc2 := 81) (fun _ _ _ _ _ => lv_icmp_ne (tgt := 85) hx hb d_Mo_prism_78 (by decide)) (fun c_251 => ?_) (fun c_251 => ?_)
              · skip
                have nc_251 : (S.un i) ≠ (S.un k) := (ii_ne (a := (S.un i)) (b := (S.un k)) (by omega) (by omega) (by omega) (by omega)).1 (by first | exact c_251 | (have z9 := c_251; simp only [nI_iI] at z9; exact z9))
                have hs9 : ¬ (S.un i = S.un j ∧ S.un i = S.un k ∧ uok (S.un i + S.un q)) := fun q9 => absurd q9.2.1 (by omega)
                refine gs (pc' := 86) (fun _ _ _ _ _ hl => lv_iconst (v := nI 0) hx hb d_Mo_prism_85 (by decide)) ?_
                refine gst (pc' := 88) (L' := [(5, .int (nI 0)), (0, .ref hm), (1, .int (nI i)), (2, .int (nI j)), (3, .int (nI k)), (4, .int (nI q))]) (fun _ _ _ _ _ hl => lv_istore hx hb d_Mo_prism_86 hl (by decide) rfl) ?_
                refine gs (pc' := 90) (fun _ _ _ _ _ hl => lv_iload hx hb d_Mo_prism_88 (lv_at hl 0 rfl)) ?_
                refine gsb (pc1 := 123) (pc2 := 93) (fun _ _ _ _ _ => lv_if_eq (tgt := 123) hx hb d_Mo_prism_90 (by decide)) (fun c_252 => ?_) (fun c_252 => ?_)
                · skip
                  have nc_252 : 0 = 0 := (n0_eq (a := 0) (by omega)).1 c_252
                  refine gs (pc' := 125) (fun _ _ _ _ _ hl => lv_iload hx hb d_Mo_prism_123 (lv_at hl 0 rfl)) ?_
                  refine gsb (pc1 := 148) (pc2 := 128) (fun _ _ _ _ _ => lv_if_eq (tgt := 148) hx hb d_Mo_prism_125 (by decide)) (fun c_253 => ?_) (fun c_253 => ?_)
                  · skip
                    have nc_253 : 0 = 0 := (n0_eq (a := 0) (by omega)).1 c_253
                    refine gs (pc' := 150) (fun _ _ _ _ _ hl => lv_bipush (v := (-2)) hx hb d_Mo_prism_148 (by decide)) ?_
                    refine g_eqi (show (-2) = iI (-2) from by decide) ?_
                    refine gs (pc' := 155) (fun _ _ _ _ _ hl => lv_goto (tgt := 155) hx hb d_Mo_prism_150 (by decide)) ?_
                    have hs8 : ¬ (S.un i = S.un j ∧ S.un i = S.un k ∧ uok (S.un i + S.un q)) := by first | exact hs9 | exact fun q9 => hu8 q9.2.2
                    have hV_254 : MW cA hm A S 0 none none none G_220 := ⟨sg_205, sh_206, kt_207, kb_208, ks_209, Rr_210, _, f_223, mr_227, f_224, sn_, sn_, sn_, mb_228⟩
                    rw [st_prism hn hi_i hi_j hi_k hi_q, if_pos hs8] at hret
                    exact hret 155 _ _ _ _ d_Mo_prism_155 hB1 hB2 ⟨rfl, fun _ => rfl, hV_254, gf_225⟩
                  · skip
                    have nc_253 : 0 ≠ 0 := (n0_eq (a := 0) (by omega)).2 c_253
                    exact absurd nc_253 (by decide)
                · skip
                  have nc_252 : 0 ≠ 0 := (n0_eq (a := 0) (by omega)).2 c_252
                  exact absurd nc_252 (by decide)
              · skip
                have nc_251 : (S.un i) = (S.un k) := (ii_ne (a := (S.un i)) (b := (S.un k)) (by omega) (by omega) (by omega) (by omega)).2 (by first | exact c_251 | (have z9 := c_251; simp only [nI_iI] at z9; exact z9))
                have hs2 : S.un i = S.un k := by omega
                refine gs (pc' := 82) (fun _ _ _ _ _ hl => lv_iconst (v := nI 1) hx hb d_Mo_prism_81 (by decide)) ?_
                refine gs (pc' := 86) (fun _ _ _ _ _ hl => lv_goto (tgt := 86) hx hb d_Mo_prism_82 (by decide)) ?_
                refine gst (pc' := 88) (L' := [(5, .int (nI 1)), (0, .ref hm), (1, .int (nI i)), (2, .int (nI j)), (3, .int (nI k)), (4, .int (nI q))]) (fun _ _ _ _ _ hl => lv_istore hx hb d_Mo_prism_86 hl (by decide) rfl) ?_
                refine gs (pc' := 90) (fun _ _ _ _ _ hl => lv_iload hx hb d_Mo_prism_88 (lv_at hl 0 rfl)) ?_
                refine gsb (pc1 := 123) (pc2 := 93) (fun _ _ _ _ _ => lv_if_eq (tgt := 123) hx hb d_Mo_prism_90 (by decide)) (fun c_255 => ?_) (fun c_255 => ?_)
                · skip
                  have nc_255 : 1 = 0 := (n0_eq (a := 1) (by omega)).1 c_255
                  exact absurd nc_255 (by decide)
                · skip
                  have nc_255 : 1 ≠ 0 := (n0_eq (a := 1) (by omega)).2 c_255
                  refine gs (pc' := 94) (fun _ _ _ _ _ hl => lv_aload_n hx hb d_Mo_prism_93 rfl (lv_at hl 1 rfl)) ?_
                  refine g_get hx hb hts hin_Mo hown hK f_223 rfl 3 (by decide) (hts _ wm757) (fun _ h9 => h9) rfl d_Mo_prism_94 ?_
                  refine gs (pc' := 98) (fun _ _ _ _ _ hl => lv_iload_n hx hb d_Mo_prism_97 rfl (lv_at hl 2 rfl)) ?_
                  refine g_iald hx hb hK 0 f_235 rfl (show vp_in (nI i) 200 from vp_in_nI (by omega) (by omega)) d_Mo_prism_98 ?_
                  refine g_eqi (show unt_231 (nI i).toNatClampNeg = unt_231 i from by rw [nI_clamp (by omega)]) ?_
                  refine g_eqi (show unt_231 i = iI (S.un i) from (hv_238 i (by omega)).2.1) ?_
                  have ub_256 := (hW.v i (by omega)).2.1
                  have ub_257 := (hW.v i (by omega)).2.2
                  refine gs (pc' := 100) (fun _ _ _ _ _ hl => lv_aload_n hx hb d_Mo_prism_99 rfl (lv_at hl 1 rfl)) ?_
                  refine g_get hx hb hts hin_Mo hown hK f_223 rfl 3 (by decide) (hts _ wm757) (fun _ h9 => h9) rfl d_Mo_prism_100 ?_
                  refine gs (pc' := 105) (fun _ _ _ _ _ hl => lv_iload hx hb d_Mo_prism_103 (lv_at hl 5 rfl)) ?_
                  refine g_iald hx hb hK 0 f_235 rfl (show vp_in (nI q) 200 from vp_in_nI (by omega) (by omega)) d_Mo_prism_105 ?_
                  refine g_eqi (show unt_231 (nI q).toNatClampNeg = unt_231 q from by rw [nI_clamp (by omega)]) ?_
                  refine g_eqi (show unt_231 q = iI (S.un q) from (hv_238 q (by omega)).2.1) ?_
                  have ub_258 := (hW.v q (by omega)).2.1
                  have ub_259 := (hW.v q (by omega)).2.2
                  refine gs (pc' := 107) (fun _ _ _ _ _ hl => lv_iadd hx hb d_Mo_prism_106) ?_
                  refine g_eqi (show (iI (S.un i)) + (iI (S.un q)) = iI ((S.un i) + (S.un q)) from by exact iI_add _ _) ?_
                  refine g_outi hlo (g_runS (As := [.int (iI ((S.un i) + (S.un q)))]) (rest := []) ⟨hx, hb, hml, hown, hts⟩ hK hZ hRc hRs (c_Mo_isUnit l D cA lo MC MS G_220 B ((S.un i) + (S.un q)) (by omega) (by omega) hB1 hB2) (fun _ _ => va_cwS 1 hts (tb_good (tb_cons wm829 (tb_cons wm830 (tb_cons wm12 k_Mo_isUnit)))) rfl rfl rfl (by decide +kernel) ⟨by rw [hRf]; exact Nat.le_of_ble_eq_true rfl, by rw [hRl]; exact Nat.le_of_ble_eq_true rfl⟩) hB1 hB2 rfl (Nat.le_of_ble_eq_true rfl) d_Mo_prism_107) (fun r_263 G_260 B_261 p_262 => ?_)
                  obtain ⟨u_264, e_265⟩ := p_262
                  cases u_264
                  subst e_265
                  have bd_266 := b01_le (decide (uok ((S.un i) + (S.un q))))
                  refine gsb (pc1 := 123) (pc2 := 113) (fun _ _ _ _ _ => lv_if_eq (tgt := 123) hx hb d_Mo_prism_110 (by decide)) (fun c_267 => ?_) (fun c_267 => ?_)
                  · skip
                    have nc_267 : (b01 (decide (uok ((S.un i) + (S.un q))))) = 0 := (n0_eq (a := (b01 (decide (uok ((S.un i) + (S.un q)))))) (by omega)).1 c_267
                    have hs9 : ¬ (S.un i = S.un j ∧ S.un i = S.un k ∧ uok (S.un i + S.un q)) := fun q9 => b01_0 nc_267 q9.2.2
                    refine gs (pc' := 125) (fun _ _ _ _ _ hl => lv_iload hx hb d_Mo_prism_123 (lv_at hl 0 rfl)) ?_
                    refine gsb (pc1 := 148) (pc2 := 128) (fun _ _ _ _ _ => lv_if_eq (tgt := 148) hx hb d_Mo_prism_125 (by decide)) (fun c_268 => ?_) (fun c_268 => ?_)
                    · skip
                      have nc_268 : 1 = 0 := (n0_eq (a := 1) (by omega)).1 c_268
                      exact absurd nc_268 (by decide)
                    · skip
                      have nc_268 : 1 ≠ 0 := (n0_eq (a := 1) (by omega)).2 c_268
                      refine gs (pc' := 129) (fun _ _ _ _ _ hl => lv_aload_n hx hb d_Mo_prism_128 rfl (lv_at hl 1 rfl)) ?_
                      refine g_get hx hb hts hin_Mo hown hK f_223 rfl 3 (by decide) (hts _ wm757) (fun _ h9 => h9) rfl d_Mo_prism_129 ?_
                      refine gs (pc' := 133) (fun _ _ _ _ _ hl => lv_iload_n hx hb d_Mo_prism_132 rfl (lv_at hl 2 rfl)) ?_
                      refine g_iald hx hb hK 0 f_235 rfl (show vp_in (nI i) 200 from vp_in_nI (by omega) (by omega)) d_Mo_prism_133 ?_
                      refine g_eqi (show unt_231 (nI i).toNatClampNeg = unt_231 i from by rw [nI_clamp (by omega)]) ?_
                      refine g_eqi (show unt_231 i = iI (S.un i) from (hv_238 i (by omega)).2.1) ?_
                      have ub_269 := (hW.v i (by omega)).2.1
                      have ub_270 := (hW.v i (by omega)).2.2
                      refine gs (pc' := 135) (fun _ _ _ _ _ hl => lv_aload_n hx hb d_Mo_prism_134 rfl (lv_at hl 1 rfl)) ?_
                      refine g_get hx hb hts hin_Mo hown hK f_223 rfl 3 (by decide) (hts _ wm757) (fun _ h9 => h9) rfl d_Mo_prism_135 ?_
                      refine gs (pc' := 140) (fun _ _ _ _ _ hl => lv_iload hx hb d_Mo_prism_138 (lv_at hl 5 rfl)) ?_
                      refine g_iald hx hb hK 0 f_235 rfl (show vp_in (nI q) 200 from vp_in_nI (by omega) (by omega)) d_Mo_prism_140 ?_
                      refine g_eqi (show unt_231 (nI q).toNatClampNeg = unt_231 q from by rw [nI_clamp (by omega)]) ?_
                      refine g_eqi (show unt_231 q = iI (S.un q) from (hv_238 q (by omega)).2.1) ?_
                      have ub_271 := (hW.v q (by omega)).2.1
                      have ub_272 := (hW.v q (by omega)).2.2
                      refine gs (pc' := 142) (fun _ _ _ _ _ hl => lv_iadd hx hb d_Mo_prism_141) ?_
                      refine g_eqi (show (iI (S.un i)) + (iI (S.un q)) = iI ((S.un i) + (S.un q)) from by exact iI_add _ _) ?_
                      refine g_outi hlo (g_runS (As := [.int (iI ((S.un i) + (S.un q)))]) (rest := []) ⟨hx, hb, hml, hown, hts⟩ hK hZ hRc hRs (c_Mo_isUnit l D cA lo MC MS G_220 B ((S.un i) + (S.un q)) (by omega) (by omega) hB1 hB2) (fun _ _ => va_cwS 1 hts (tb_good (tb_cons wm829 (tb_cons wm830 (tb_cons wm12 k_Mo_isUnit)))) rfl rfl rfl (by decide +kernel) ⟨by rw [hRf]; exact Nat.le_of_ble_eq_true rfl, by rw [hRl]; exact Nat.le_of_ble_eq_true rfl⟩) hB1 hB2 rfl (Nat.le_of_ble_eq_true rfl) d_Mo_prism_142) (fun r_276 G_273 B_274 p_275 => ?_)
                      obtain ⟨u_277, e_278⟩ := p_275
                      cases u_277
                      subst e_278
                      have bd_279 := b01_le (decide (uok ((S.un i) + (S.un q))))
                      refine gsb (pc1 := 153) (pc2 := 148) (fun _ _ _ _ _ => lv_if_ne (tgt := 153) hx hb d_Mo_prism_145 (by decide)) (fun c_280 => ?_) (fun c_280 => ?_)
                      · skip
                        have nc_280 : (b01 (decide (uok ((S.un i) + (S.un q))))) ≠ 0 := (n0_ne (a := (b01 (decide (uok ((S.un i) + (S.un q)))))) (by omega)).1 c_280
                        have hu8 : uok (S.un i + S.un q) := b01_1 nc_280
                        refine gs (pc' := 155) (fun _ _ _ _ _ hl => lv_bipush (v := (-3)) hx hb d_Mo_prism_153 (by decide)) ?_
                        refine g_eqi (show (-3) = iI (-3) from by decide) ?_
                        have hs8 : S.un i = S.un j ∧ S.un i = S.un k ∧ uok (S.un i + S.un q) := ⟨hs1, hs2, hu8⟩
                        have hn2 : S.n = 200 := by first | omega | exact absurd hs8 hs9
                        have hV_281 : MW cA hm A S 0 none none none G_220 := ⟨sg_205, sh_206, kt_207, kb_208, ks_209, Rr_210, _, f_223, mr_227, f_224, sn_, sn_, sn_, mb_228⟩
                        rw [st_prism hn hi_i hi_j hi_k hi_q, if_neg (Decidable.not_not.mpr hs8), if_pos hn2] at hret
                        exact hret 155 _ _ _ _ d_Mo_prism_155 hB1 hB2 ⟨rfl, fun _ => rfl, hV_281, gf_225⟩
                      · skip
                        have nc_280 : (b01 (decide (uok ((S.un i) + (S.un q))))) = 0 := (n0_ne (a := (b01 (decide (uok ((S.un i) + (S.un q)))))) (by omega)).2 c_280
                        have hu8 : ¬ uok (S.un i + S.un q) := b01_0 nc_280
                        refine gs (pc' := 150) (fun _ _ _ _ _ hl => lv_bipush (v := (-2)) hx hb d_Mo_prism_148 (by decide)) ?_
                        refine g_eqi (show (-2) = iI (-2) from by decide) ?_
                        refine gs (pc' := 155) (fun _ _ _ _ _ hl => lv_goto (tgt := 155) hx hb d_Mo_prism_150 (by decide)) ?_
                        have hs8 : ¬ (S.un i = S.un j ∧ S.un i = S.un k ∧ uok (S.un i + S.un q)) := by first | exact hs9 | exact fun q9 => hu8 q9.2.2
                        have hV_282 : MW cA hm A S 0 none none none G_220 := ⟨sg_205, sh_206, kt_207, kb_208, ks_209, Rr_210, _, f_223, mr_227, f_224, sn_, sn_, sn_, mb_228⟩
                        rw [st_prism hn hi_i hi_j hi_k hi_q, if_pos hs8] at hret
                        exact hret 155 _ _ _ _ d_Mo_prism_155 hB1 hB2 ⟨rfl, fun _ => rfl, hV_282, gf_225⟩
                  · skip
                    have nc_267 : (b01 (decide (uok ((S.un i) + (S.un q))))) ≠ 0 := (n0_eq (a := (b01 (decide (uok ((S.un i) + (S.un q)))))) (by omega)).2 c_267
                    have hs9 : S.un i = S.un j ∧ S.un i = S.un k ∧ uok (S.un i + S.un q) := ⟨hs1, hs2, b01_1 nc_267⟩
                    refine gs (pc' := 114) (fun _ _ _ _ _ hl => lv_aload_n hx hb d_Mo_prism_113 rfl (lv_at hl 1 rfl)) ?_
                    refine g_get hx hb hts hin_Mo hown hK f_223 rfl 1 (by decide) (hts _ wm755) (fun _ h9 => h9) rfl d_Mo_prism_114 ?_
                    refine gs (pc' := 120) (fun _ _ _ _ _ hl => lv_sipush (v := nI 200) hx hb d_Mo_prism_117 (by decide)) ?_
                    refine gsb (pc1 := 156) (pc2 := 123) (fun _ _ _ _ _ => lv_icmp_ne (tgt := 156) hx hb d_Mo_prism_120 (by decide)) (fun c_283 => ?_) (fun c_283 => ?_)
                    · skip
                      have nc_283 : S.n ≠ 200 := (nn_ne (a := S.n) (b := 200) (by omega) (by omega)).1 c_283
                      refine gs (pc' := 157) (fun _ _ _ _ _ hl => lv_aload_n hx hb d_Mo_prism_156 rfl (lv_at hl 1 rfl)) ?_
                      refine gs (pc' := 158) (fun _ _ _ _ _ hl => lv_iload_n hx hb d_Mo_prism_157 rfl (lv_at hl 3 rfl)) ?_
                      have hV_284 : MW cA hm A S 0 qm qo qk G_220 := ⟨sg_205, sh_206, kt_207, kb_208, ks_209, Rr_210, _, f_223, mr_227, f_224, v_215, v_216, v_217, mb_228⟩
                      refine g_outv hlo (g_runV (As := [.int (nI j)]) (rest := []) ⟨hx, hb, hml, hown, hts⟩ hK hZ hRc hRs (c_Mo_load l D cA lo MC MS G_220 B hm A S 0 qm qo qk hV_284 hW j (by omega) hB1 hB2) (fun _ _ => cwV 1 hts (tb_good (tb_cons wm897 (tb_cons wm899 (tb_cons ws34 (tb_cons wm12 k_Mo_load))))) rfl rfl rfl (by decide +kernel) ⟨by rw [hRf]; exact Nat.le_of_ble_eq_true rfl, by rw [hRl]; exact Nat.le_of_ble_eq_true rfl⟩) f_223 rfl hB1 hB2 rfl (Nat.le_of_ble_eq_true rfl) d_Mo_prism_158) (fun G_285 B_286 p_287 => ?_)
                      obtain ⟨e_288, hV_289, gf_290⟩ := p_287
                      have e_288b : B = B_286 := e_288.symm
                      subst e_288b
                      have gf_291 : gfr mT G G_285 := mT_mT gf_225 gf_290
                      obtain ⟨sg_292, sh_293, kt_294, kb_295, ks_296, Rr_297, kf_298, v_299, v_300, v_301, v_302, v_303, v_304, v_305⟩ := id hV_289
                      have f_306 : G_285 hm = some (70, .inr (9, [.int (nI 0), .int (nI S.n), .ref (A 2), .ref (A 3), .ref (A 4), .ref (A 5), .int sg_292, .int sh_293, .ref (A 8), .ref (A 9), .int (nI S.rn), .ref (A 11), .ref (A 12), .ref (A 13), .int (nI S.wn), .ref (A 15), .ref (A 16), .ref (A 17), .ref (A 18), .int kt_294, .int kb_295, .int ks_296])) := v_299
                      obtain ⟨e_307, e_308, e_309⟩ := v_302 _ rfl
                      have f_310 : G_285 hm = some (70, .inr (9, [.int (nI 0), .int (nI S.n), .ref (A 2), .ref (A 3), .ref (A 4), .ref (A 5), .int (iI ((S.v j).num.sign)), .int sh_293, .ref (A 8), .ref (A 9), .int (nI S.rn), .ref (A 11), .ref (A 12), .ref (A 13), .int (nI S.wn), .ref (A 15), .ref (A 16), .ref (A 17), .ref (A 18), .int kt_294, .int kb_295, .int ks_296])) := by rw [← e_307]; exact f_306
                      have fm_311 : ∀ r9, some (S.v j) = some r9 → fc (iI ((S.v j).num.sign)) (Rr_297 0) (Rr_297 1) r9 := by rw [← e_307]; exact v_302
                      have s3_312 := sg3 (S.v j).num
                      have rbq_313 : rb (S.v j * 4) 101 := rb_mul (j := 100) (k := 1) rbq_102 rb_4
                      refine gs (pc' := 162) (fun _ _ _ _ _ hl => lv_aload_n hx hb d_Mo_prism_161 rfl (lv_at hl 1 rfl)) ?_
                      refine gs (pc' := 163) (fun _ _ _ _ _ hl => lv_iconst (v := nI 0) hx hb d_Mo_prism_162 (by decide)) ?_
                      refine gs (pc' := 166) (fun _ _ _ _ _ hl => lv_ldc2 (v := 4) hx hb hown (hts _ wm962) d_Mo_prism_163) ?_
                      refine g_eql (show 4 = lN 4 from rfl) ?_
                      refine g_outv hlo (g_runV (As := [.int (nI 0), .long (lN 4)]) (rest := []) ⟨hx, hb, hml, hown, hts⟩ hK hZ hRc hRs (c_Mo_scale l D cA lo MC MS G_285 B hm A (mi (nI 0) (nI S.n) (iI ((S.v j).num.sign)) sh_293 (nI S.rn) (nI S.wn) kt_294 kb_295 ks_296) f_310 Rr_297 v_300 0 (by decide) 4 (by omega) (100) (by rw [e_308]; exact rbq_102.1) (by omega) hB1 hB2) (fun _ _ => cwV 2 hts (tb_good (tb_cons wm868 (tb_cons wm870 (tb_cons ws28 (tb_cons wm12 k_Mo_scale))))) rfl rfl rfl (by decide +kernel) ⟨by rw [hRf]; exact Nat.le_of_ble_eq_true rfl, by rw [hRl]; exact Nat.le_of_ble_eq_true rfl⟩) f_310 rfl hB1 hB2 rfl (Nat.le_of_ble_eq_true rfl) d_Mo_prism_166) (fun G_314 B_315 p_316 => ?_)
                      obtain ⟨e_317, mr_318, f_319, gf_320⟩ := p_316
                      have e_317b : B = B_315 := e_317.symm
                      subst e_317b
                      have gf_321 : gfr mT G G_314 := mT_75 gf_291 gf_320
                      have mb_322 : MB cA A S G_314 := MB_75 v_305 gf_320
                      have f_323 : G_314 hm = some (70, .inr (9, [.int (nI 0), .int (nI S.n), .ref (A 2), .ref (A 3), .ref (A 4), .ref (A 5), .int (iI ((S.v j).num.sign)), .int sh_293, .ref (A 8), .ref (A 9), .int (nI S.rn), .ref (A 11), .ref (A 12), .ref (A 13), .int (nI S.wn), .ref (A 15), .ref (A 16), .ref (A 17), .ref (A 18), .int kt_294, .int kb_295, .int ks_296])) := f_319
                      have f_324 : G_314 (A 18) = some (83, .inl (cA 0, 8600, .inl kf_298)) := gf_320 _ _ v_301 (show ¬ ((83 : Nat) = 75 ∨ (83 : Nat) = 76) by decide)
                      obtain ⟨Rr_325, hR_326⟩ : ∃ y9, y9 = (fup Rr_297 0 (Rr_297 0 * 4)) := ⟨_, rfl⟩
                      rw [← hR_326] at mr_318
                      have e_327 : Rr_325 1 = (S.v j).den := (congrFun hR_326 1).trans e_309
                      have e_328 : Rr_325 0 = ((S.v j).num.natAbs) * 4 := (congrFun hR_326 0).trans (by rw [← e_308]; rfl)
                      have bd_329 : ((S.v j).num.natAbs) * 4 < 1000000000 ^ (100 + 1) := pw_sc rbq_102.1 (by omega)
                      have fm_330 : ∀ r9, qo = some r9 → fc sh_293 (Rr_325 2) (Rr_325 3) r9 := by rw [show Rr_325 2 = Rr_297 2 from congrFun hR_326 2, show Rr_325 3 = Rr_297 3 from congrFun hR_326 3]; exact v_303
                      refine gs (pc' := 170) (fun _ _ _ _ _ hl => lv_aload_n hx hb d_Mo_prism_169 rfl (lv_at hl 1 rfl)) ?_
                      have fq_331 : fq (iI ((S.v j).num.sign)) (((S.v j).num.natAbs) * 4) ((S.v j).den) (S.v j * 4) := tp4_ (fc_fq ⟨rfl, rfl, rfl⟩)
                      refine g_outv hlo (g_runV (As := []) (rest := []) ⟨hx, hb, hml, hown, hts⟩ hK hZ hRc hRs (c_Mo_reduce l D cA lo MC MS G_314 B hm A (mi (nI 0) (nI S.n) (iI ((S.v j).num.sign)) sh_293 (nI S.rn) (nI S.wn) kt_294 kb_295 ks_296) f_323 Rr_325 mr_318 (by rw [e_327]; exact fq_331.1) (101) (by rw [e_328]; exact pw_up bd_329 (by omega)) (by rw [e_327]; exact pw_up rbq_102.2 (by omega)) (by omega) hB1 hB2) (fun _ _ => cwV 0 hts (tb_good (tb_cons wm843 (tb_cons wm845 (tb_cons ws22 (tb_cons wm12 k_Mo_reduce))))) rfl rfl rfl (by decide +kernel) ⟨by rw [hRf]; exact Nat.le_of_ble_eq_true rfl, by rw [hRl]; exact Nat.le_of_ble_eq_true rfl⟩) f_323 rfl hB1 hB2 rfl (Nat.le_of_ble_eq_true rfl) d_Mo_prism_170) (fun G_332 B_333 p_334 => ?_)
                      obtain ⟨e_335, ⟨Rr_336, mr_337, q_338, q_339, q_340, q_341⟩, f_342, gf_343⟩ := p_334
                      have e_335b : B = B_333 := e_335.symm
                      subst e_335b
                      obtain ⟨sg_344, e_345⟩ : ∃ y9 : Int32, y9 = if Rr_325 0 = 0 then nI 0 else (iI ((S.v j).num.sign)) := ⟨_, rfl⟩
                      have gf_346 : gfr mT G G_332 := mT_705 gf_321 gf_343
                      have mb_347 : MB cA A S G_332 := MB_705 mb_322 gf_343
                      have f_348 : G_332 hm = some (70, .inr (9, [.int (nI 0), .int (nI S.n), .ref (A 2), .ref (A 3), .ref (A 4), .ref (A 5), .int sg_344, .int sh_293, .ref (A 8), .ref (A 9), .int (nI S.rn), .ref (A 11), .ref (A 12), .ref (A 13), .int (nI S.wn), .ref (A 15), .ref (A 16), .ref (A 17), .ref (A 18), .int kt_294, .int kb_295, .int ks_296])) := f_342.trans (by rw [mi_if, ← e_345]; rfl)
                      have f_349 : G_332 (A 18) = some (83, .inl (cA 0, 8600, .inl kf_298)) := gf_343 _ _ f_324 (show ¬ ((83 : Nat) = 70 ∨ (83 : Nat) = 75 ∨ (83 : Nat) = 76) by decide)
                      have fc_350 : fc sg_344 (Rr_336 0) (Rr_336 1) (S.v j * 4) := by rw [q_338, q_339, e_345, e_328, e_327]; exact fq_fc fq_331
                      refine gs (pc' := 174) (fun _ _ _ _ _ hl => lv_aload_n hx hb d_Mo_prism_173 rfl (lv_at hl 1 rfl)) ?_
                      refine gs (pc' := 175) (fun _ _ _ _ _ hl => lv_iload_n hx hb d_Mo_prism_174 rfl (lv_at hl 2 rfl)) ?_
                      have hV_351 : MW cA hm A S 0 (some (S.v j * 4)) none qk G_332 := ⟨sg_344, sh_293, kt_294, kb_295, ks_296, Rr_336, _, f_348, mr_337, f_349, (sm_ fc_350), sn_, v_304, mb_347⟩
                      refine g_outv hlo (g_runV (As := [.int (nI i)]) (rest := []) ⟨hx, hb, hml, hown, hts⟩ hK hZ hRc hRs (c_Mo_loadOther l D cA lo MC MS G_332 B hm A S 0 (some (S.v j * 4)) none qk hV_351 hW i (by omega) hB1 hB2) (fun _ _ => cwV 1 hts (tb_good (tb_cons wm905 (tb_cons wm907 (tb_cons ws36 (tb_cons wm12 k_Mo_loadOther))))) rfl rfl rfl (by decide +kernel) ⟨by rw [hRf]; exact Nat.le_of_ble_eq_true rfl, by rw [hRl]; exact Nat.le_of_ble_eq_true rfl⟩) f_348 rfl hB1 hB2 rfl (Nat.le_of_ble_eq_true rfl) d_Mo_prism_175) (fun G_352 B_353 p_354 => ?_)
                      obtain ⟨e_355, hV_356, gf_357⟩ := p_354
                      have e_355b : B = B_353 := e_355.symm
                      subst e_355b
                      have gf_358 : gfr mT G G_352 := mT_mT gf_346 gf_357
                      refine gs (pc' := 179) (fun _ _ _ _ _ hl => lv_aload_n hx hb d_Mo_prism_178 rfl (lv_at hl 1 rfl)) ?_
                      refine gs (pc' := 180) (fun _ _ _ _ _ hl => lv_iconst (v := nI 1) hx hb d_Mo_prism_179 (by decide)) ?_
                      have rbq_359 : rb ((S.v j * 4) + (S.v i)) (101 + 100 + 1) := rb_add (j := 101) (k := 100) rbq_313 rbq_51
                      obtain ⟨sg_360, sh_361, kt_362, kb_363, ks_364, Rr_365, kf_366, v_367, v_368, v_369, v_370, v_371, v_372, v_373⟩ := id hV_356
                      have f_374 : G_352 hm = some (70, .inr (9, [.int (nI 0), .int (nI S.n), .ref (A 2), .ref (A 3), .ref (A 4), .ref (A 5), .int sg_360, .int sh_361, .ref (A 8), .ref (A 9), .int (nI S.rn), .ref (A 11), .ref (A 12), .ref (A 13), .int (nI S.wn), .ref (A 15), .ref (A 16), .ref (A 17), .ref (A 18), .int kt_362, .int kb_363, .int ks_364])) := v_367
                      have hV_375 : MW cA hm A S 0 (some (S.v j * 4)) (some (S.v i)) qk G_352 := ⟨sg_360, sh_361, kt_362, kb_363, ks_364, Rr_365, _, f_374, v_368, v_369, v_370, v_371, v_372, v_373⟩
                      refine g_outv hlo (g_runV (As := [.int (nI 1)]) (rest := []) ⟨hx, hb, hml, hown, hts⟩ hK hZ hRc hRs (c_Mo_addOther l D cA lo MC MS G_352 B hm A S 0 (some (S.v j * 4)) (some (S.v i)) qk hV_375 hW (S.v j * 4) (S.v i) rfl rfl (101) rbq_313 (100) rbq_51 (by omega) 1 ((S.v j * 4) + (S.v i)) (Or.inl ⟨rfl, rfl⟩) hB1 hB2) (fun _ _ => cwV 1 hts (tb_good (tb_cons wm909 (tb_cons wm911 (tb_cons ws37 (tb_cons wm12 k_Mo_addOther))))) rfl rfl rfl (by decide +kernel) ⟨by rw [hRf]; exact Nat.le_of_ble_eq_true rfl, by rw [hRl]; exact Nat.le_of_ble_eq_true rfl⟩) f_374 rfl hB1 hB2 rfl (Nat.le_of_ble_eq_true rfl) d_Mo_prism_180) (fun G_376 B_377 p_378 => ?_)
                      obtain ⟨e_379, hV_380, gf_381⟩ := p_378
                      have e_379b : B = B_377 := e_379.symm
                      subst e_379b
                      have gf_382 : gfr mT G G_376 := mT_mT gf_358 gf_381
                      refine gs (pc' := 184) (fun _ _ _ _ _ hl => lv_aload_n hx hb d_Mo_prism_183 rfl (lv_at hl 1 rfl)) ?_
                      refine gs (pc' := 185) (fun _ _ _ _ _ hl => lv_iload_n hx hb d_Mo_prism_184 rfl (lv_at hl 4 rfl)) ?_
                      obtain ⟨sg_383, sh_384, kt_385, kb_386, ks_387, Rr_388, kf_389, v_390, v_391, v_392, v_393, v_394, v_395, v_396⟩ := id hV_380
                      have f_397 : G_376 hm = some (70, .inr (9, [.int (nI 0), .int (nI S.n), .ref (A 2), .ref (A 3), .ref (A 4), .ref (A 5), .int sg_383, .int sh_384, .ref (A 8), .ref (A 9), .int (nI S.rn), .ref (A 11), .ref (A 12), .ref (A 13), .int (nI S.wn), .ref (A 15), .ref (A 16), .ref (A 17), .ref (A 18), .int kt_385, .int kb_386, .int ks_387])) := v_390
                      have hV_398 : MW cA hm A S 0 (some ((S.v j * 4) + (S.v i))) none qk G_376 := ⟨sg_383, sh_384, kt_385, kb_386, ks_387, Rr_388, _, f_397, v_391, v_392, v_393, v_394, v_395, v_396⟩
                      refine g_outv hlo (g_runV (As := [.int (nI k)]) (rest := []) ⟨hx, hb, hml, hown, hts⟩ hK hZ hRc hRs (c_Mo_loadOther l D cA lo MC MS G_376 B hm A S 0 (some ((S.v j * 4) + (S.v i))) none qk hV_398 hW k (by omega) hB1 hB2) (fun _ _ => cwV 1 hts (tb_good (tb_cons wm905 (tb_cons wm907 (tb_cons ws36 (tb_cons wm12 k_Mo_loadOther))))) rfl rfl rfl (by decide +kernel) ⟨by rw [hRf]; exact Nat.le_of_ble_eq_true rfl, by rw [hRl]; exact Nat.le_of_ble_eq_true rfl⟩) f_397 rfl hB1 hB2 rfl (Nat.le_of_ble_eq_true rfl) d_Mo_prism_185) (fun G_399 B_400 p_401 => ?_)
                      obtain ⟨e_402, hV_403, gf_404⟩ := p_401
                      have e_402b : B = B_400 := e_402.symm
                      subst e_402b
                      have gf_405 : gfr mT G G_399 := mT_mT gf_382 gf_404
                      refine gs (pc' := 189) (fun _ _ _ _ _ hl => lv_aload_n hx hb d_Mo_prism_188 rfl (lv_at hl 1 rfl)) ?_
                      refine gs (pc' := 190) (fun _ _ _ _ _ hl => lv_iconst (v := nI 1) hx hb d_Mo_prism_189 (by decide)) ?_
                      have rbq_406 : rb (((S.v j * 4) + (S.v i)) + (S.v k)) (101 + 100 + 1 + 100 + 1) := rb_add (j := 101 + 100 + 1) (k := 100) rbq_359 rbq_153
                      obtain ⟨sg_407, sh_408, kt_409, kb_410, ks_411, Rr_412, kf_413, v_414, v_415, v_416, v_417, v_418, v_419, v_420⟩ := id hV_403
                      have f_421 : G_399 hm = some (70, .inr (9, [.int (nI 0), .int (nI S.n), .ref (A 2), .ref (A 3), .ref (A 4), .ref (A 5), .int sg_407, .int sh_408, .ref (A 8), .ref (A 9), .int (nI S.rn), .ref (A 11), .ref (A 12), .ref (A 13), .int (nI S.wn), .ref (A 15), .ref (A 16), .ref (A 17), .ref (A 18), .int kt_409, .int kb_410, .int ks_411])) := v_414
                      have hV_422 : MW cA hm A S 0 (some ((S.v j * 4) + (S.v i))) (some (S.v k)) qk G_399 := ⟨sg_407, sh_408, kt_409, kb_410, ks_411, Rr_412, _, f_421, v_415, v_416, v_417, v_418, v_419, v_420⟩
                      refine g_outv hlo (g_runV (As := [.int (nI 1)]) (rest := []) ⟨hx, hb, hml, hown, hts⟩ hK hZ hRc hRs (c_Mo_addOther l D cA lo MC MS G_399 B hm A S 0 (some ((S.v j * 4) + (S.v i))) (some (S.v k)) qk hV_422 hW ((S.v j * 4) + (S.v i)) (S.v k) rfl rfl (101 + 100 + 1) rbq_359 (100) rbq_153 (by omega) 1 (((S.v j * 4) + (S.v i)) + (S.v k)) (Or.inl ⟨rfl, rfl⟩) hB1 hB2) (fun _ _ => cwV 1 hts (tb_good (tb_cons wm909 (tb_cons wm911 (tb_cons ws37 (tb_cons wm12 k_Mo_addOther))))) rfl rfl rfl (by decide +kernel) ⟨by rw [hRf]; exact Nat.le_of_ble_eq_true rfl, by rw [hRl]; exact Nat.le_of_ble_eq_true rfl⟩) f_421 rfl hB1 hB2 rfl (Nat.le_of_ble_eq_true rfl) d_Mo_prism_190) (fun G_423 B_424 p_425 => ?_)
                      obtain ⟨e_426, hV_427, gf_428⟩ := p_425
                      have e_426b : B = B_424 := e_426.symm
                      subst e_426b
                      have gf_429 : gfr mT G G_423 := mT_mT gf_405 gf_428
                      refine gs (pc' := 194) (fun _ _ _ _ _ hl => lv_aload_n hx hb d_Mo_prism_193 rfl (lv_at hl 1 rfl)) ?_
                      refine gs (pc' := 196) (fun _ _ _ _ _ hl => lv_iload hx hb d_Mo_prism_194 (lv_at hl 5 rfl)) ?_
                      obtain ⟨sg_430, sh_431, kt_432, kb_433, ks_434, Rr_435, kf_436, v_437, v_438, v_439, v_440, v_441, v_442, v_443⟩ := id hV_427
                      have f_444 : G_423 hm = some (70, .inr (9, [.int (nI 0), .int (nI S.n), .ref (A 2), .ref (A 3), .ref (A 4), .ref (A 5), .int sg_430, .int sh_431, .ref (A 8), .ref (A 9), .int (nI S.rn), .ref (A 11), .ref (A 12), .ref (A 13), .int (nI S.wn), .ref (A 15), .ref (A 16), .ref (A 17), .ref (A 18), .int kt_432, .int kb_433, .int ks_434])) := v_437
                      have hV_445 : MW cA hm A S 0 (some (((S.v j * 4) + (S.v i)) + (S.v k))) none qk G_423 := ⟨sg_430, sh_431, kt_432, kb_433, ks_434, Rr_435, _, f_444, v_438, v_439, v_440, v_441, v_442, v_443⟩
                      refine g_outv hlo (g_runV (As := [.int (nI q)]) (rest := []) ⟨hx, hb, hml, hown, hts⟩ hK hZ hRc hRs (c_Mo_loadOther l D cA lo MC MS G_423 B hm A S 0 (some (((S.v j * 4) + (S.v i)) + (S.v k))) none qk hV_445 hW q (by omega) hB1 hB2) (fun _ _ => cwV 1 hts (tb_good (tb_cons wm905 (tb_cons wm907 (tb_cons ws36 (tb_cons wm12 k_Mo_loadOther))))) rfl rfl rfl (by decide +kernel) ⟨by rw [hRf]; exact Nat.le_of_ble_eq_true rfl, by rw [hRl]; exact Nat.le_of_ble_eq_true rfl⟩) f_444 rfl hB1 hB2 rfl (Nat.le_of_ble_eq_true rfl) d_Mo_prism_196) (fun G_446 B_447 p_448 => ?_)
                      obtain ⟨e_449, hV_450, gf_451⟩ := p_448
                      have e_449b : B = B_447 := e_449.symm
                      subst e_449b
                      have gf_452 : gfr mT G G_446 := mT_mT gf_429 gf_451
                      refine gs (pc' := 200) (fun _ _ _ _ _ hl => lv_aload_n hx hb d_Mo_prism_199 rfl (lv_at hl 1 rfl)) ?_
                      have rbq_453 : rb ((((S.v j * 4) + (S.v i)) + (S.v k)) * (S.v q)) (101 + 100 + 1 + 100 + 1 + 100) := rb_mul (j := 101 + 100 + 1 + 100 + 1) (k := 100) rbq_406 rbq_204
                      obtain ⟨sg_454, sh_455, kt_456, kb_457, ks_458, Rr_459, kf_460, v_461, v_462, v_463, v_464, v_465, v_466, v_467⟩ := id hV_450
                      have f_468 : G_446 hm = some (70, .inr (9, [.int (nI 0), .int (nI S.n), .ref (A 2), .ref (A 3), .ref (A 4), .ref (A 5), .int sg_454, .int sh_455, .ref (A 8), .ref (A 9), .int (nI S.rn), .ref (A 11), .ref (A 12), .ref (A 13), .int (nI S.wn), .ref (A 15), .ref (A 16), .ref (A 17), .ref (A 18), .int kt_456, .int kb_457, .int ks_458])) := v_461
                      have hV_469 : MW cA hm A S 0 (some (((S.v j * 4) + (S.v i)) + (S.v k))) (some (S.v q)) qk G_446 := ⟨sg_454, sh_455, kt_456, kb_457, ks_458, Rr_459, _, f_468, v_462, v_463, v_464, v_465, v_466, v_467⟩
                      refine g_outv hlo (g_runV (As := []) (rest := []) ⟨hx, hb, hml, hown, hts⟩ hK hZ hRc hRs (c_Mo_timesOther l D cA lo MC MS G_446 B hm A S 0 (some (((S.v j * 4) + (S.v i)) + (S.v k))) (some (S.v q)) qk hV_469 hW (((S.v j * 4) + (S.v i)) + (S.v k)) (S.v q) rfl rfl (101 + 100 + 1 + 100 + 1) rbq_406 (100) rbq_204 (by omega) hB1 hB2) (fun _ _ => cwV 0 hts (tb_good (tb_cons wm933 (tb_cons wm935 (tb_cons ws42 (tb_cons wm12 k_Mo_timesOther))))) rfl rfl rfl (by decide +kernel) ⟨by rw [hRf]; exact Nat.le_of_ble_eq_true rfl, by rw [hRl]; exact Nat.le_of_ble_eq_true rfl⟩) f_468 rfl hB1 hB2 rfl (Nat.le_of_ble_eq_true rfl) d_Mo_prism_200) (fun G_470 B_471 p_472 => ?_)
                      obtain ⟨e_473, hV_474, gf_475⟩ := p_472
                      have e_473b : B = B_471 := e_473.symm
                      subst e_473b
                      have gf_476 : gfr mT G G_470 := mT_mT gf_452 gf_475
                      obtain ⟨sg_477, sh_478, kt_479, kb_480, ks_481, Rr_482, kf_483, v_484, v_485, v_486, v_487, v_488, v_489, v_490⟩ := id hV_474
                      have f_491 : G_470 hm = some (70, .inr (9, [.int (nI 0), .int (nI S.n), .ref (A 2), .ref (A 3), .ref (A 4), .ref (A 5), .int sg_477, .int sh_478, .ref (A 8), .ref (A 9), .int (nI S.rn), .ref (A 11), .ref (A 12), .ref (A 13), .int (nI S.wn), .ref (A 15), .ref (A 16), .ref (A 17), .ref (A 18), .int kt_479, .int kb_480, .int ks_481])) := v_484
                      obtain ⟨e_492, e_493, e_494⟩ := v_487 _ rfl
                      have f_495 : G_470 hm = some (70, .inr (9, [.int (nI 0), .int (nI S.n), .ref (A 2), .ref (A 3), .ref (A 4), .ref (A 5), .int (iI (((((S.v j * 4) + (S.v i)) + (S.v k)) * (S.v q)).num.sign)), .int sh_478, .ref (A 8), .ref (A 9), .int (nI S.rn), .ref (A 11), .ref (A 12), .ref (A 13), .int (nI S.wn), .ref (A 15), .ref (A 16), .ref (A 17), .ref (A 18), .int kt_479, .int kb_480, .int ks_481])) := by rw [← e_492]; exact f_491
                      have fm_496 : ∀ r9, some ((((S.v j * 4) + (S.v i)) + (S.v k)) * (S.v q)) = some r9 → fc (iI (((((S.v j * 4) + (S.v i)) + (S.v k)) * (S.v q)).num.sign)) (Rr_482 0) (Rr_482 1) r9 := by rw [← e_492]; exact v_487
                      have s3_497 := sg3 ((((S.v j * 4) + (S.v i)) + (S.v k)) * (S.v q)).num
                      have rbq_498 : rb (((((S.v j * 4) + (S.v i)) + (S.v k)) * (S.v q)) * mkRat 1 6) (101 + 100 + 1 + 100 + 1 + 100 + 1) := rb_mul (j := 101 + 100 + 1 + 100 + 1 + 100) (k := 1) rbq_453 rb_6
                      refine gs (pc' := 204) (fun _ _ _ _ _ hl => lv_aload_n hx hb d_Mo_prism_203 rfl (lv_at hl 1 rfl)) ?_
                      refine gs (pc' := 205) (fun _ _ _ _ _ hl => lv_iconst (v := nI 1) hx hb d_Mo_prism_204 (by decide)) ?_
                      refine gs (pc' := 208) (fun _ _ _ _ _ hl => lv_ldc2 (v := 6) hx hb hown (hts _ wm963) d_Mo_prism_205) ?_
                      refine g_eql (show 6 = lN 6 from rfl) ?_
                      refine g_outv hlo (g_runV (As := [.int (nI 1), .long (lN 6)]) (rest := []) ⟨hx, hb, hml, hown, hts⟩ hK hZ hRc hRs (c_Mo_scale l D cA lo MC MS G_470 B hm A (mi (nI 0) (nI S.n) (iI (((((S.v j * 4) + (S.v i)) + (S.v k)) * (S.v q)).num.sign)) sh_478 (nI S.rn) (nI S.wn) kt_479 kb_480 ks_481) f_495 Rr_482 v_485 1 (by decide) 6 (by omega) (101 + 100 + 1 + 100 + 1 + 100) (by rw [e_494]; exact rbq_453.2) (by omega) hB1 hB2) (fun _ _ => cwV 2 hts (tb_good (tb_cons wm868 (tb_cons wm870 (tb_cons ws28 (tb_cons wm12 k_Mo_scale))))) rfl rfl rfl (by decide +kernel) ⟨by rw [hRf]; exact Nat.le_of_ble_eq_true rfl, by rw [hRl]; exact Nat.le_of_ble_eq_true rfl⟩) f_495 rfl hB1 hB2 rfl (Nat.le_of_ble_eq_true rfl) d_Mo_prism_208) (fun G_499 B_500 p_501 => ?_)
                      obtain ⟨e_502, mr_503, f_504, gf_505⟩ := p_501
                      have e_502b : B = B_500 := e_502.symm
                      subst e_502b
                      have gf_506 : gfr mT G G_499 := mT_75 gf_476 gf_505
                      have mb_507 : MB cA A S G_499 := MB_75 v_490 gf_505
                      have f_508 : G_499 hm = some (70, .inr (9, [.int (nI 0), .int (nI S.n), .ref (A 2), .ref (A 3), .ref (A 4), .ref (A 5), .int (iI (((((S.v j * 4) + (S.v i)) + (S.v k)) * (S.v q)).num.sign)), .int sh_478, .ref (A 8), .ref (A 9), .int (nI S.rn), .ref (A 11), .ref (A 12), .ref (A 13), .int (nI S.wn), .ref (A 15), .ref (A 16), .ref (A 17), .ref (A 18), .int kt_479, .int kb_480, .int ks_481])) := f_504
                      have f_509 : G_499 (A 18) = some (83, .inl (cA 0, 8600, .inl kf_483)) := gf_505 _ _ v_486 (show ¬ ((83 : Nat) = 75 ∨ (83 : Nat) = 76) by decide)
                      obtain ⟨Rr_510, hR_511⟩ : ∃ y9, y9 = (fup Rr_482 1 (Rr_482 1 * 6)) := ⟨_, rfl⟩
                      rw [← hR_511] at mr_503
                      have e_512 : Rr_510 0 = ((((S.v j * 4) + (S.v i)) + (S.v k)) * (S.v q)).num.natAbs := (congrFun hR_511 0).trans e_493
                      have e_513 : Rr_510 1 = (((((S.v j * 4) + (S.v i)) + (S.v k)) * (S.v q)).den) * 6 := (congrFun hR_511 1).trans (by rw [← e_494]; rfl)
                      have bd_514 : (((((S.v j * 4) + (S.v i)) + (S.v k)) * (S.v q)).den) * 6 < 1000000000 ^ (101 + 100 + 1 + 100 + 1 + 100 + 1) := pw_sc rbq_453.2 (by omega)
                      refine gs (pc' := 212) (fun _ _ _ _ _ hl => lv_aload_n hx hb d_Mo_prism_211 rfl (lv_at hl 1 rfl)) ?_
                      have fq_515 : fq (iI (((((S.v j * 4) + (S.v i)) + (S.v k)) * (S.v q)).num.sign)) (((((S.v j * 4) + (S.v i)) + (S.v k)) * (S.v q)).num.natAbs) ((((((S.v j * 4) + (S.v i)) + (S.v k)) * (S.v q)).den) * 6) (((((S.v j * 4) + (S.v i)) + (S.v k)) * (S.v q)) * mkRat 1 6) := fq_low (fc_fq ⟨rfl, rfl, rfl⟩) (by decide)
                      refine g_outv hlo (g_runV (As := []) (rest := []) ⟨hx, hb, hml, hown, hts⟩ hK hZ hRc hRs (c_Mo_reduce l D cA lo MC MS G_499 B hm A (mi (nI 0) (nI S.n) (iI (((((S.v j * 4) + (S.v i)) + (S.v k)) * (S.v q)).num.sign)) sh_478 (nI S.rn) (nI S.wn) kt_479 kb_480 ks_481) f_508 Rr_510 mr_503 (by rw [e_513]; exact fq_515.1) (101 + 100 + 1 + 100 + 1 + 100 + 1) (by rw [e_512]; exact pw_up rbq_453.1 (by omega)) (by rw [e_513]; exact pw_up bd_514 (by omega)) (by omega) hB1 hB2) (fun _ _ => cwV 0 hts (tb_good (tb_cons wm843 (tb_cons wm845 (tb_cons ws22 (tb_cons wm12 k_Mo_reduce))))) rfl rfl rfl (by decide +kernel) ⟨by rw [hRf]; exact Nat.le_of_ble_eq_true rfl, by rw [hRl]; exact Nat.le_of_ble_eq_true rfl⟩) f_508 rfl hB1 hB2 rfl (Nat.le_of_ble_eq_true rfl) d_Mo_prism_212) (fun G_516 B_517 p_518 => ?_)
                      obtain ⟨e_519, ⟨Rr_520, mr_521, q_522, q_523, q_524, q_525⟩, f_526, gf_527⟩ := p_518
                      have e_519b : B = B_517 := e_519.symm
                      subst e_519b
                      obtain ⟨sg_528, e_529⟩ : ∃ y9 : Int32, y9 = if Rr_510 0 = 0 then nI 0 else (iI (((((S.v j * 4) + (S.v i)) + (S.v k)) * (S.v q)).num.sign)) := ⟨_, rfl⟩
                      have gf_530 : gfr mT G G_516 := mT_705 gf_506 gf_527
                      have mb_531 : MB cA A S G_516 := MB_705 mb_507 gf_527
                      have f_532 : G_516 hm = some (70, .inr (9, [.int (nI 0), .int (nI S.n), .ref (A 2), .ref (A 3), .ref (A 4), .ref (A 5), .int sg_528, .int sh_478, .ref (A 8), .ref (A 9), .int (nI S.rn), .ref (A 11), .ref (A 12), .ref (A 13), .int (nI S.wn), .ref (A 15), .ref (A 16), .ref (A 17), .ref (A 18), .int kt_479, .int kb_480, .int ks_481])) := f_526.trans (by rw [mi_if, ← e_529]; rfl)
                      have f_533 : G_516 (A 18) = some (83, .inl (cA 0, 8600, .inl kf_483)) := gf_527 _ _ f_509 (show ¬ ((83 : Nat) = 70 ∨ (83 : Nat) = 75 ∨ (83 : Nat) = 76) by decide)
                      have fc_534 : fc sg_528 (Rr_520 0) (Rr_520 1) (((((S.v j * 4) + (S.v i)) + (S.v k)) * (S.v q)) * mkRat 1 6) := by rw [q_522, q_523, e_529, e_512, e_513]; exact fq_fc fq_515
                      refine gs (pc' := 216) (fun _ _ _ _ _ hl => lv_aload_n hx hb d_Mo_prism_215 rfl (lv_at hl 1 rfl)) ?_
                      refine gs (pc' := 217) (fun _ _ _ _ _ hl => lv_aload_n hx hb d_Mo_prism_216 rfl (lv_at hl 1 rfl)) ?_
                      refine g_get hx hb hts hin_Mo hown hK f_532 rfl 3 (by decide) (hts _ wm757) (fun _ h9 => h9) rfl d_Mo_prism_217 ?_
                      refine gs (pc' := 221) (fun _ _ _ _ _ hl => lv_iload_n hx hb d_Mo_prism_220 rfl (lv_at hl 2 rfl)) ?_
                      obtain ⟨sgn_535, unt_536, sto_537, szs_538, f_539, f_540, f_541, f_542, hv_543⟩ := id mb_531.1
                      refine g_iald hx hb hK 0 f_540 rfl (show vp_in (nI i) 200 from vp_in_nI (by omega) (by omega)) d_Mo_prism_221 ?_
                      refine g_eqi (show unt_536 (nI i).toNatClampNeg = unt_536 i from by rw [nI_clamp (by omega)]) ?_
                      refine g_eqi (show unt_536 i = iI (S.un i) from (hv_543 i (by omega)).2.1) ?_
                      have ub_544 := (hW.v i (by omega)).2.1
                      have ub_545 := (hW.v i (by omega)).2.2
                      refine gs (pc' := 223) (fun _ _ _ _ _ hl => lv_aload_n hx hb d_Mo_prism_222 rfl (lv_at hl 1 rfl)) ?_
                      refine g_get hx hb hts hin_Mo hown hK f_532 rfl 3 (by decide) (hts _ wm757) (fun _ h9 => h9) rfl d_Mo_prism_223 ?_
                      refine gs (pc' := 228) (fun _ _ _ _ _ hl => lv_iload hx hb d_Mo_prism_226 (lv_at hl 5 rfl)) ?_
                      refine g_iald hx hb hK 0 f_540 rfl (show vp_in (nI q) 200 from vp_in_nI (by omega) (by omega)) d_Mo_prism_228 ?_
                      refine g_eqi (show unt_536 (nI q).toNatClampNeg = unt_536 q from by rw [nI_clamp (by omega)]) ?_
                      refine g_eqi (show unt_536 q = iI (S.un q) from (hv_543 q (by omega)).2.1) ?_
                      have ub_546 := (hW.v q (by omega)).2.1
                      have ub_547 := (hW.v q (by omega)).2.2
                      refine gs (pc' := 230) (fun _ _ _ _ _ hl => lv_iadd hx hb d_Mo_prism_229) ?_
                      refine g_eqi (show (iI (S.un i)) + (iI (S.un q)) = iI ((S.un i) + (S.un q)) from by exact iI_add _ _) ?_
                      have hV_548 : MW cA hm A S 0 (some (((((S.v j * 4) + (S.v i)) + (S.v k)) * (S.v q)) * mkRat 1 6)) none qk G_516 := ⟨sg_528, sh_478, kt_479, kb_480, ks_481, Rr_520, _, f_532, mr_521, f_533, (sm_ fc_534), sn_, v_489, mb_531⟩
                      refine g_outi hlo (g_runV (As := [.int (iI ((S.un i) + (S.un q)))]) (rest := []) ⟨hx, hb, hml, hown, hts⟩ hK hZ hRc hRs (c_Mo_keep l D cA lo MC MS G_516 B hm A S 0 (some (((((S.v j * 4) + (S.v i)) + (S.v k)) * (S.v q)) * mkRat 1 6)) none qk hV_548 hW (((((S.v j * 4) + (S.v i)) + (S.v k)) * (S.v q)) * mkRat 1 6) rfl (101 + 100 + 1 + 100 + 1 + 100 + 1) rbq_498 (by omega) ((S.un i) + (S.un q)) hs9.2.2 (by omega) hB1 hB2) (fun _ _ => cwV 1 hts (tb_good (tb_cons wm881 (tb_cons wm883 (tb_cons ws31 (tb_cons wm12 k_Mo_keep))))) rfl rfl rfl (by decide +kernel) ⟨by rw [hRf]; exact Nat.le_of_ble_eq_true rfl, by rw [hRl]; exact Nat.le_of_ble_eq_true rfl⟩) f_532 rfl hB1 hB2 rfl (Nat.le_of_ble_eq_true rfl) d_Mo_prism_230) (fun r_552 G_549 B_550 p_551 => ?_)
                      obtain ⟨e_553, e_556, hV_554, gf_555⟩ := p_551
                      subst e_556
                      have e_553b : B = B_550 := e_553.symm
                      subst e_553b
                      have gf_557 : gfr mT G G_549 := mT_mT gf_530 gf_555
                      rw [st_prism hn hi_i hi_j hi_k hi_q, if_neg (Decidable.not_not.mpr hs9), if_neg (by omega), Rat.add_comm (S.v i) (S.v j * 4)] at hret
                      exact hret 233 _ _ _ _ d_Mo_prism_233 hB1 hB2 ⟨rfl, fun _ => rfl, MW_k hV_554, gf_557⟩
                    · skip
                      have nc_283 : S.n = 200 := (nn_ne (a := S.n) (b := 200) (by omega) (by omega)).2 c_283
                      refine gs (pc' := 125) (fun _ _ _ _ _ hl => lv_iload hx hb d_Mo_prism_123 (lv_at hl 0 rfl)) ?_
                      refine gsb (pc1 := 148) (pc2 := 128) (fun _ _ _ _ _ => lv_if_eq (tgt := 148) hx hb d_Mo_prism_125 (by decide)) (fun c_558 => ?_) (fun c_558 => ?_)
                      · skip
                        have nc_558 : 1 = 0 := (n0_eq (a := 1) (by omega)).1 c_558
                        exact absurd nc_558 (by decide)
                      · skip
                        have nc_558 : 1 ≠ 0 := (n0_eq (a := 1) (by omega)).2 c_558
                        refine gs (pc' := 129) (fun _ _ _ _ _ hl => lv_aload_n hx hb d_Mo_prism_128 rfl (lv_at hl 1 rfl)) ?_
                        refine g_get hx hb hts hin_Mo hown hK f_223 rfl 3 (by decide) (hts _ wm757) (fun _ h9 => h9) rfl d_Mo_prism_129 ?_
                        refine gs (pc' := 133) (fun _ _ _ _ _ hl => lv_iload_n hx hb d_Mo_prism_132 rfl (lv_at hl 2 rfl)) ?_
                        refine g_iald hx hb hK 0 f_235 rfl (show vp_in (nI i) 200 from vp_in_nI (by omega) (by omega)) d_Mo_prism_133 ?_
                        refine g_eqi (show unt_231 (nI i).toNatClampNeg = unt_231 i from by rw [nI_clamp (by omega)]) ?_
                        refine g_eqi (show unt_231 i = iI (S.un i) from (hv_238 i (by omega)).2.1) ?_
                        have ub_559 := (hW.v i (by omega)).2.1
                        have ub_560 := (hW.v i (by omega)).2.2
                        refine gs (pc' := 135) (fun _ _ _ _ _ hl => lv_aload_n hx hb d_Mo_prism_134 rfl (lv_at hl 1 rfl)) ?_
                        refine g_get hx hb hts hin_Mo hown hK f_223 rfl 3 (by decide) (hts _ wm757) (fun _ h9 => h9) rfl d_Mo_prism_135 ?_
                        refine gs (pc' := 140) (fun _ _ _ _ _ hl => lv_iload hx hb d_Mo_prism_138 (lv_at hl 5 rfl)) ?_
                        refine g_iald hx hb hK 0 f_235 rfl (show vp_in (nI q) 200 from vp_in_nI (by omega) (by omega)) d_Mo_prism_140 ?_
                        refine g_eqi (show unt_231 (nI q).toNatClampNeg = unt_231 q from by rw [nI_clamp (by omega)]) ?_
                        refine g_eqi (show unt_231 q = iI (S.un q) from (hv_238 q (by omega)).2.1) ?_
                        have ub_561 := (hW.v q (by omega)).2.1
                        have ub_562 := (hW.v q (by omega)).2.2
                        refine gs (pc' := 142) (fun _ _ _ _ _ hl => lv_iadd hx hb d_Mo_prism_141) ?_
                        refine g_eqi (show (iI (S.un i)) + (iI (S.un q)) = iI ((S.un i) + (S.un q)) from by exact iI_add _ _) ?_
                        refine g_outi hlo (g_runS (As := [.int (iI ((S.un i) + (S.un q)))]) (rest := []) ⟨hx, hb, hml, hown, hts⟩ hK hZ hRc hRs (c_Mo_isUnit l D cA lo MC MS G_220 B ((S.un i) + (S.un q)) (by omega) (by omega) hB1 hB2) (fun _ _ => va_cwS 1 hts (tb_good (tb_cons wm829 (tb_cons wm830 (tb_cons wm12 k_Mo_isUnit)))) rfl rfl rfl (by decide +kernel) ⟨by rw [hRf]; exact Nat.le_of_ble_eq_true rfl, by rw [hRl]; exact Nat.le_of_ble_eq_true rfl⟩) hB1 hB2 rfl (Nat.le_of_ble_eq_true rfl) d_Mo_prism_142) (fun r_566 G_563 B_564 p_565 => ?_)
                        obtain ⟨u_567, e_568⟩ := p_565
                        cases u_567
                        subst e_568
                        have bd_569 := b01_le (decide (uok ((S.un i) + (S.un q))))
                        refine gsb (pc1 := 153) (pc2 := 148) (fun _ _ _ _ _ => lv_if_ne (tgt := 153) hx hb d_Mo_prism_145 (by decide)) (fun c_570 => ?_) (fun c_570 => ?_)
                        · skip
                          have nc_570 : (b01 (decide (uok ((S.un i) + (S.un q))))) ≠ 0 := (n0_ne (a := (b01 (decide (uok ((S.un i) + (S.un q)))))) (by omega)).1 c_570
                          have hu8 : uok (S.un i + S.un q) := b01_1 nc_570
                          refine gs (pc' := 155) (fun _ _ _ _ _ hl => lv_bipush (v := (-3)) hx hb d_Mo_prism_153 (by decide)) ?_
                          refine g_eqi (show (-3) = iI (-3) from by decide) ?_
                          have hs8 : S.un i = S.un j ∧ S.un i = S.un k ∧ uok (S.un i + S.un q) := ⟨hs1, hs2, hu8⟩
                          have hn2 : S.n = 200 := by first | omega | exact absurd hs8 hs9
                          have hV_571 : MW cA hm A S 0 none none none G_220 := ⟨sg_205, sh_206, kt_207, kb_208, ks_209, Rr_210, _, f_223, mr_227, f_224, sn_, sn_, sn_, mb_228⟩
                          rw [st_prism hn hi_i hi_j hi_k hi_q, if_neg (Decidable.not_not.mpr hs8), if_pos hn2] at hret
                          exact hret 155 _ _ _ _ d_Mo_prism_155 hB1 hB2 ⟨rfl, fun _ => rfl, hV_571, gf_225⟩
                        · skip
                          have nc_570 : (b01 (decide (uok ((S.un i) + (S.un q))))) = 0 := (n0_ne (a := (b01 (decide (uok ((S.un i) + (S.un q)))))) (by omega)).2 c_570
                          have hu8 : ¬ uok (S.un i + S.un q) := b01_0 nc_570
                          refine gs (pc' := 150) (fun _ _ _ _ _ hl => lv_bipush (v := (-2)) hx hb d_Mo_prism_148 (by decide)) ?_
                          refine g_eqi (show (-2) = iI (-2) from by decide) ?_
                          refine gs (pc' := 155) (fun _ _ _ _ _ hl => lv_goto (tgt := 155) hx hb d_Mo_prism_150 (by decide)) ?_
                          have hs8 : ¬ (S.un i = S.un j ∧ S.un i = S.un k ∧ uok (S.un i + S.un q)) := by first | exact hs9 | exact fun q9 => hu8 q9.2.2
                          have hV_572 : MW cA hm A S 0 none none none G_220 := ⟨sg_205, sh_206, kt_207, kb_208, ks_209, Rr_210, _, f_223, mr_227, f_224, sn_, sn_, sn_, mb_228⟩
                          rw [st_prism hn hi_i hi_j hi_k hi_q, if_pos hs8] at hret
                          exact hret 155 _ _ _ _ d_Mo_prism_155 hB1 hB2 ⟨rfl, fun _ => rfl, hV_572, gf_225⟩
          · skip
            have nc_229 : 0 > 0 := (n0_le (a := 0) (by omega)).2 c_229
            exact absurd nc_229 (by decide)
set_option maxHeartbeats 4000000 in
set_option maxRecDepth 100000 in
theorem c_Mo_clear (l : Launch) (D : va_G) (cA : Nat → ClassId) (lo MC MS : Nat) (G : gT) (B : Nat × Nat) (hm : Nat) (A : Nat → Nat) (S : St) (th : Nat) (qm qo qk : Option Rat) (hV : MW cA hm A S th qm qo qk G) (hW : WF S) (hB1 : B.1 ≤ MC) (hB2 : B.2 ≤ MS) : gMet l y_Mo_clear w_Mo_clear 0 0 D clS (gtys cA) lo MC MS [.ref hm] G B (gQi D clS lo (fun r9 u => u.2 = B ∧ ((sp_clear S).1 = 0 → r9 = iI (sp_clear S).2.1) ∧ MW cA hm A (sp_clear S).2.2 (sp_clear S).1 none none none u.1 ∧ gfr mT G u.1)) := by
  refine g_meti (cc := prog_11_method_38_code) (nL := 2) (L := [(0, .ref hm)]) (by decide +kernel) rfl (Nat.le_of_ble_eq_true rfl) rfl ?_
  intro p e R s m args below meth c Q hF hRc hRs hRf hRl hret
  obtain ⟨hx, hb, hr, hml, hts0, hown, hlocks, hin, hK, hlo, hZ⟩ := hF
  have hts : ∀ w ∈ tbg, w.before args s = true := fun w h => hts0 w (List.mem_cons_of_mem _ h)
  have hn := hW.n
  have hrn := hW.rn
  have hwn := hW.wn
  refine gs (pc' := 1) (fun _ _ _ _ _ hl => lv_aload_n hx hb d_Mo_clear_0 rfl (lv_at hl 0 rfl)) ?_
  refine gs (pc' := 2) (fun _ _ _ _ _ hl => lv_iconst (v := nI 0) hx hb d_Mo_clear_1 (by decide)) ?_
  obtain ⟨sg_1, sh_2, kt_3, kb_4, ks_5, Rr_6, kf_7, v_8, v_9, v_10, v_11, v_12, v_13, v_14⟩ := id hV
  have f_15 : G hm = some (70, .inr (9, [.int (nI th), .int (nI S.n), .ref (A 2), .ref (A 3), .ref (A 4), .ref (A 5), .int sg_1, .int sh_2, .ref (A 8), .ref (A 9), .int (nI S.rn), .ref (A 11), .ref (A 12), .ref (A 13), .int (nI S.wn), .ref (A 15), .ref (A 16), .ref (A 17), .ref (A 18), .int kt_3, .int kb_4, .int ks_5])) := v_8
  refine g_put (ty := .int) hx hb hts hin_Mo ty_Mo ty_Mo_ok nm_Mo hown hK f_15 rfl 0 (by decide) (hts _ wm754) (fun _ h9 => h9) rfl (by decide +kernel) rfl rfl (Nat.le_of_ble_eq_true rfl) d_Mo_clear_2 (fun G_16 f_17 o_18 => ?_)
  have f_19 : G_16 hm = some (70, .inr (9, [.int (nI 0), .int (nI S.n), .ref (A 2), .ref (A 3), .ref (A 4), .ref (A 5), .int sg_1, .int sh_2, .ref (A 8), .ref (A 9), .int (nI S.rn), .ref (A 11), .ref (A 12), .ref (A 13), .int (nI S.wn), .ref (A 15), .ref (A 16), .ref (A 17), .ref (A 18), .int kt_3, .int kb_4, .int ks_5])) := f_17
  have f_20 : G_16 (A 18) = some (83, .inl (cA 0, 8600, .inl kf_7)) := (o_18 _ (gne v_10 f_15 (fun e => by cases e))).trans v_10
  have gf_21 : gfr mT G G_16 := gfr_put gfr_rf f_15 (show mT 70 by decide) o_18
  have gf_22 : gfr (fun x => x = 70) _ G_16 := gfr_put gfr_rf f_15 rfl o_18
  have mr_23 : MR cA A Rr_6 G_16 := MR_fr v_9 gf_22 (show ¬ (75 : Nat) = 70 by decide) (show ¬ (76 : Nat) = 70 by decide)
  have mb_24 : MB cA A S G_16 := MB_fr v_14 gf_22 (fun x h9 => by omega)
  refine gs (pc' := 6) (fun _ _ _ _ _ hl => lv_aload_n hx hb d_Mo_clear_5 rfl (lv_at hl 0 rfl)) ?_
  refine g_get hx hb hts hin_Mo hown hK f_19 rfl 1 (by decide) (hts _ wm755) (fun _ h9 => h9) rfl d_Mo_clear_6 ?_
  refine gst (pc' := 10) (L' := [(1, .int (nI S.n)), (0, .ref hm)]) (fun _ _ _ _ _ hl => lv_istore_n hx hb d_Mo_clear_9 rfl hl (by decide) rfl) ?_
  refine gs (pc' := 11) (fun _ _ _ _ _ hl => lv_aload_n hx hb d_Mo_clear_10 rfl (lv_at hl 1 rfl)) ?_
  refine gs (pc' := 12) (fun _ _ _ _ _ hl => lv_iconst (v := nI 0) hx hb d_Mo_clear_11 (by decide)) ?_
  refine g_put (ty := .int) hx hb hts hin_Mo ty_Mo ty_Mo_ok nm_Mo hown hK f_19 rfl 1 (by decide) (hts _ wm755) (fun _ h9 => h9) rfl (by decide +kernel) rfl rfl (Nat.le_of_ble_eq_true rfl) d_Mo_clear_12 (fun G_25 f_26 o_27 => ?_)
  have f_28 : G_25 hm = some (70, .inr (9, [.int (nI 0), .int (nI 0), .ref (A 2), .ref (A 3), .ref (A 4), .ref (A 5), .int sg_1, .int sh_2, .ref (A 8), .ref (A 9), .int (nI S.rn), .ref (A 11), .ref (A 12), .ref (A 13), .int (nI S.wn), .ref (A 15), .ref (A 16), .ref (A 17), .ref (A 18), .int kt_3, .int kb_4, .int ks_5])) := f_26
  have f_29 : G_25 (A 18) = some (83, .inl (cA 0, 8600, .inl kf_7)) := (o_27 _ (gne f_20 f_19 (fun e => by cases e))).trans f_20
  have gf_30 : gfr mT G G_25 := gfr_put gf_21 f_19 (show mT 70 by decide) o_27
  have gf_31 : gfr (fun x => x = 70) _ G_25 := gfr_put gfr_rf f_19 rfl o_27
  have mr_32 : MR cA A Rr_6 G_25 := MR_fr mr_23 gf_31 (show ¬ (75 : Nat) = 70 by decide) (show ¬ (76 : Nat) = 70 by decide)
  have mb_33 : MB cA A S G_25 := MB_fr mb_24 gf_31 (fun x h9 => by omega)
  refine gs (pc' := 16) (fun _ _ _ _ _ hl => lv_aload_n hx hb d_Mo_clear_15 rfl (lv_at hl 1 rfl)) ?_
  refine gs (pc' := 17) (fun _ _ _ _ _ hl => lv_iconst (v := nI 0) hx hb d_Mo_clear_16 (by decide)) ?_
  refine g_put (ty := .int) hx hb hts hin_Mo ty_Mo ty_Mo_ok nm_Mo hown hK f_28 rfl 10 (by decide) (hts _ wm764) (fun _ h9 => h9) rfl (by decide +kernel) rfl rfl (Nat.le_of_ble_eq_true rfl) d_Mo_clear_17 (fun G_34 f_35 o_36 => ?_)
  have f_37 : G_34 hm = some (70, .inr (9, [.int (nI 0), .int (nI 0), .ref (A 2), .ref (A 3), .ref (A 4), .ref (A 5), .int sg_1, .int sh_2, .ref (A 8), .ref (A 9), .int (nI 0), .ref (A 11), .ref (A 12), .ref (A 13), .int (nI S.wn), .ref (A 15), .ref (A 16), .ref (A 17), .ref (A 18), .int kt_3, .int kb_4, .int ks_5])) := f_35
  have f_38 : G_34 (A 18) = some (83, .inl (cA 0, 8600, .inl kf_7)) := (o_36 _ (gne f_29 f_28 (fun e => by cases e))).trans f_29
  have gf_39 : gfr mT G G_34 := gfr_put gf_30 f_28 (show mT 70 by decide) o_36
  have gf_40 : gfr (fun x => x = 70) _ G_34 := gfr_put gfr_rf f_28 rfl o_36
  have mr_41 : MR cA A Rr_6 G_34 := MR_fr mr_32 gf_40 (show ¬ (75 : Nat) = 70 by decide) (show ¬ (76 : Nat) = 70 by decide)
  have mb_42 : MB cA A S G_34 := MB_fr mb_33 gf_40 (fun x h9 => by omega)
  refine gs (pc' := 21) (fun _ _ _ _ _ hl => lv_iload_n hx hb d_Mo_clear_20 rfl (lv_at hl 0 rfl)) ?_
  have hV_43 : MW cA hm A (St.mk 0 S.v S.un 0 S.rc S.rp S.rh S.wn S.w) 0 none none none G_34 := ⟨sg_1, sh_2, kt_3, kb_4, ks_5, Rr_6, _, f_37, mr_41, f_38, sn_, sn_, sn_, (MB_clear mb_42)⟩
  exact hret 21 _ _ _ _ d_Mo_clear_21 hB1 hB2 ⟨rfl, fun _ => nI_iI _, hV_43, gf_39⟩
set_option maxHeartbeats 4000000 in
set_option maxRecDepth 100000 in
theorem c_Mo_noWeights (l : Launch) (D : va_G) (cA : Nat → ClassId) (lo MC MS : Nat) (G : gT) (B : Nat × Nat) (hm : Nat) (A : Nat → Nat) (S : St) (th : Nat) (qm qo qk : Option Rat) (hV : MW cA hm A S th qm qo qk G) (hW : WF S) (hB1 : B.1 ≤ MC) (hB2 : B.2 ≤ MS) : gMet l y_Mo_noWeights w_Mo_noWeights 0 0 D clS (gtys cA) lo MC MS [.ref hm] G B (gQi D clS lo (fun r9 u => u.2 = B ∧ ((sp_noWeights S).1 = 0 → r9 = iI (sp_noWeights S).2.1) ∧ MW cA hm A (sp_noWeights S).2.2 (sp_noWeights S).1 none none none u.1 ∧ gfr mT G u.1)) := by
  refine g_meti (cc := prog_11_method_49_code) (nL := 2) (L := [(0, .ref hm)]) (by decide +kernel) rfl (Nat.le_of_ble_eq_true rfl) rfl ?_
  intro p e R s m args below meth c Q hF hRc hRs hRf hRl hret
  obtain ⟨hx, hb, hr, hml, hts0, hown, hlocks, hin, hK, hlo, hZ⟩ := hF
  have hts : ∀ w ∈ tbg, w.before args s = true := fun w h => hts0 w (List.mem_cons_of_mem _ h)
  have hn := hW.n
  have hrn := hW.rn
  have hwn := hW.wn
  refine gs (pc' := 1) (fun _ _ _ _ _ hl => lv_aload_n hx hb d_Mo_noWeights_0 rfl (lv_at hl 0 rfl)) ?_
  refine gs (pc' := 2) (fun _ _ _ _ _ hl => lv_iconst (v := nI 0) hx hb d_Mo_noWeights_1 (by decide)) ?_
  obtain ⟨sg_1, sh_2, kt_3, kb_4, ks_5, Rr_6, kf_7, v_8, v_9, v_10, v_11, v_12, v_13, v_14⟩ := id hV
  have f_15 : G hm = some (70, .inr (9, [.int (nI th), .int (nI S.n), .ref (A 2), .ref (A 3), .ref (A 4), .ref (A 5), .int sg_1, .int sh_2, .ref (A 8), .ref (A 9), .int (nI S.rn), .ref (A 11), .ref (A 12), .ref (A 13), .int (nI S.wn), .ref (A 15), .ref (A 16), .ref (A 17), .ref (A 18), .int kt_3, .int kb_4, .int ks_5])) := v_8
  refine g_put (ty := .int) hx hb hts hin_Mo ty_Mo ty_Mo_ok nm_Mo hown hK f_15 rfl 0 (by decide) (hts _ wm754) (fun _ h9 => h9) rfl (by decide +kernel) rfl rfl (Nat.le_of_ble_eq_true rfl) d_Mo_noWeights_2 (fun G_16 f_17 o_18 => ?_)
  have f_19 : G_16 hm = some (70, .inr (9, [.int (nI 0), .int (nI S.n), .ref (A 2), .ref (A 3), .ref (A 4), .ref (A 5), .int sg_1, .int sh_2, .ref (A 8), .ref (A 9), .int (nI S.rn), .ref (A 11), .ref (A 12), .ref (A 13), .int (nI S.wn), .ref (A 15), .ref (A 16), .ref (A 17), .ref (A 18), .int kt_3, .int kb_4, .int ks_5])) := f_17
  have f_20 : G_16 (A 18) = some (83, .inl (cA 0, 8600, .inl kf_7)) := (o_18 _ (gne v_10 f_15 (fun e => by cases e))).trans v_10
  have gf_21 : gfr mT G G_16 := gfr_put gfr_rf f_15 (show mT 70 by decide) o_18
  have gf_22 : gfr (fun x => x = 70) _ G_16 := gfr_put gfr_rf f_15 rfl o_18
  have mr_23 : MR cA A Rr_6 G_16 := MR_fr v_9 gf_22 (show ¬ (75 : Nat) = 70 by decide) (show ¬ (76 : Nat) = 70 by decide)
  have mb_24 : MB cA A S G_16 := MB_fr v_14 gf_22 (fun x h9 => by omega)
  refine gs (pc' := 6) (fun _ _ _ _ _ hl => lv_aload_n hx hb d_Mo_noWeights_5 rfl (lv_at hl 0 rfl)) ?_
  refine g_get hx hb hts hin_Mo hown hK f_19 rfl 14 (by decide) (hts _ wm768) (fun _ h9 => h9) rfl d_Mo_noWeights_6 ?_
  refine gst (pc' := 10) (L' := [(1, .int (nI S.wn)), (0, .ref hm)]) (fun _ _ _ _ _ hl => lv_istore_n hx hb d_Mo_noWeights_9 rfl hl (by decide) rfl) ?_
  refine gs (pc' := 11) (fun _ _ _ _ _ hl => lv_aload_n hx hb d_Mo_noWeights_10 rfl (lv_at hl 1 rfl)) ?_
  refine gs (pc' := 12) (fun _ _ _ _ _ hl => lv_iconst (v := nI 0) hx hb d_Mo_noWeights_11 (by decide)) ?_
  refine g_put (ty := .int) hx hb hts hin_Mo ty_Mo ty_Mo_ok nm_Mo hown hK f_19 rfl 14 (by decide) (hts _ wm768) (fun _ h9 => h9) rfl (by decide +kernel) rfl rfl (Nat.le_of_ble_eq_true rfl) d_Mo_noWeights_12 (fun G_25 f_26 o_27 => ?_)
  have f_28 : G_25 hm = some (70, .inr (9, [.int (nI 0), .int (nI S.n), .ref (A 2), .ref (A 3), .ref (A 4), .ref (A 5), .int sg_1, .int sh_2, .ref (A 8), .ref (A 9), .int (nI S.rn), .ref (A 11), .ref (A 12), .ref (A 13), .int (nI 0), .ref (A 15), .ref (A 16), .ref (A 17), .ref (A 18), .int kt_3, .int kb_4, .int ks_5])) := f_26
  have f_29 : G_25 (A 18) = some (83, .inl (cA 0, 8600, .inl kf_7)) := (o_27 _ (gne f_20 f_19 (fun e => by cases e))).trans f_20
  have gf_30 : gfr mT G G_25 := gfr_put gf_21 f_19 (show mT 70 by decide) o_27
  have gf_31 : gfr (fun x => x = 70) _ G_25 := gfr_put gfr_rf f_19 rfl o_27
  have mr_32 : MR cA A Rr_6 G_25 := MR_fr mr_23 gf_31 (show ¬ (75 : Nat) = 70 by decide) (show ¬ (76 : Nat) = 70 by decide)
  have mb_33 : MB cA A S G_25 := MB_fr mb_24 gf_31 (fun x h9 => by omega)
  refine gs (pc' := 16) (fun _ _ _ _ _ hl => lv_iload_n hx hb d_Mo_noWeights_15 rfl (lv_at hl 0 rfl)) ?_
  have hV_34 : MW cA hm A (S.sw 0 S.w) 0 none none none G_25 := ⟨sg_1, sh_2, kt_3, kb_4, ks_5, Rr_6, _, f_28, mr_32, f_29, sn_, sn_, sn_, (MB_noW mb_33)⟩
  exact hret 16 _ _ _ _ d_Mo_noWeights_16 hB1 hB2 ⟨rfl, fun _ => nI_iI _, hV_34, gf_30⟩
set_option maxHeartbeats 4000000 in
set_option maxRecDepth 100000 in
theorem c_Mo_row (l : Launch) (D : va_G) (cA : Nat → ClassId) (lo MC MS : Nat) (G : gT) (B : Nat × Nat) (hm : Nat) (A : Nat → Nat) (S : St) (th : Nat) (qm qo qk : Option Rat) (hV : MW cA hm A S th qm qo qk G) (hW : WF S) (hB1 : B.1 ≤ MC) (hB2 : B.2 ≤ MS) : gMet l y_Mo_row w_Mo_row 0 0 D clS (gtys cA) lo MC MS [.ref hm] G B (gQi D clS lo (fun r9 u => u.2 = B ∧ ((sp_row S).1 = 0 → r9 = iI (sp_row S).2.1) ∧ MW cA hm A (sp_row S).2.2 (sp_row S).1 none none none u.1 ∧ gfr mT G u.1)) := by
  refine g_meti (cc := prog_11_method_39_code) (nL := 1) (L := [(0, .ref hm)]) (by decide +kernel) rfl (Nat.le_of_ble_eq_true rfl) rfl ?_
  intro p e R s m args below meth c Q hF hRc hRs hRf hRl hret
  obtain ⟨hx, hb, hr, hml, hts0, hown, hlocks, hin, hK, hlo, hZ⟩ := hF
  have hts : ∀ w ∈ tbg, w.before args s = true := fun w h => hts0 w (List.mem_cons_of_mem _ h)
  have hn := hW.n
  have hrn := hW.rn
  have hwn := hW.wn
  refine gs (pc' := 1) (fun _ _ _ _ _ hl => lv_aload_n hx hb d_Mo_row_0 rfl (lv_at hl 0 rfl)) ?_
  refine gs (pc' := 2) (fun _ _ _ _ _ hl => lv_iconst (v := nI 0) hx hb d_Mo_row_1 (by decide)) ?_
  obtain ⟨sg_1, sh_2, kt_3, kb_4, ks_5, Rr_6, kf_7, v_8, v_9, v_10, v_11, v_12, v_13, v_14⟩ := id hV
  have f_15 : G hm = some (70, .inr (9, [.int (nI th), .int (nI S.n), .ref (A 2), .ref (A 3), .ref (A 4), .ref (A 5), .int sg_1, .int sh_2, .ref (A 8), .ref (A 9), .int (nI S.rn), .ref (A 11), .ref (A 12), .ref (A 13), .int (nI S.wn), .ref (A 15), .ref (A 16), .ref (A 17), .ref (A 18), .int kt_3, .int kb_4, .int ks_5])) := v_8
  refine g_put (ty := .int) hx hb hts hin_Mo ty_Mo ty_Mo_ok nm_Mo hown hK f_15 rfl 0 (by decide) (hts _ wm754) (fun _ h9 => h9) rfl (by decide +kernel) rfl rfl (Nat.le_of_ble_eq_true rfl) d_Mo_row_2 (fun G_16 f_17 o_18 => ?_)
  have f_19 : G_16 hm = some (70, .inr (9, [.int (nI 0), .int (nI S.n), .ref (A 2), .ref (A 3), .ref (A 4), .ref (A 5), .int sg_1, .int sh_2, .ref (A 8), .ref (A 9), .int (nI S.rn), .ref (A 11), .ref (A 12), .ref (A 13), .int (nI S.wn), .ref (A 15), .ref (A 16), .ref (A 17), .ref (A 18), .int kt_3, .int kb_4, .int ks_5])) := f_17
  have f_20 : G_16 (A 18) = some (83, .inl (cA 0, 8600, .inl kf_7)) := (o_18 _ (gne v_10 f_15 (fun e => by cases e))).trans v_10
  have gf_21 : gfr mT G G_16 := gfr_put gfr_rf f_15 (show mT 70 by decide) o_18
  have gf_22 : gfr (fun x => x = 70) _ G_16 := gfr_put gfr_rf f_15 rfl o_18
  have mr_23 : MR cA A Rr_6 G_16 := MR_fr v_9 gf_22 (show ¬ (75 : Nat) = 70 by decide) (show ¬ (76 : Nat) = 70 by decide)
  have mb_24 : MB cA A S G_16 := MB_fr v_14 gf_22 (fun x h9 => by omega)
  refine gs (pc' := 6) (fun _ _ _ _ _ hl => lv_aload_n hx hb d_Mo_row_5 rfl (lv_at hl 0 rfl)) ?_
  refine g_get hx hb hts hin_Mo hown hK f_19 rfl 10 (by decide) (hts _ wm764) (fun _ h9 => h9) rfl d_Mo_row_6 ?_
  refine gs (pc' := 11) (fun _ _ _ _ _ hl => lv_bipush (v := nI 8) hx hb d_Mo_row_9 (by decide)) ?_
  refine gsb (pc1 := 17) (pc2 := 14) (fun _ _ _ _ _ => lv_icmp_ne (tgt := 17) hx hb d_Mo_row_11 (by decide)) (fun c_25 => ?_) (fun c_25 => ?_)
  · skip
    have nc_25 : S.rn ≠ 8 := (nn_ne (a := S.rn) (b := 8) (by omega) (by omega)).1 c_25
    refine gs (pc' := 18) (fun _ _ _ _ _ hl => lv_aload_n hx hb d_Mo_row_17 rfl (lv_at hl 0 rfl)) ?_
    refine g_get hx hb hts hin_Mo hown hK f_19 rfl 11 (by decide) (hts _ wm765) (fun _ h9 => h9) rfl d_Mo_row_18 ?_
    refine gs (pc' := 22) (fun _ _ _ _ _ hl => lv_aload_n hx hb d_Mo_row_21 rfl (lv_at hl 0 rfl)) ?_
    refine g_get hx hb hts hin_Mo hown hK f_19 rfl 10 (by decide) (hts _ wm764) (fun _ h9 => h9) rfl d_Mo_row_22 ?_
    refine gs (pc' := 26) (fun _ _ _ _ _ hl => lv_iconst (v := nI 0) hx hb d_Mo_row_25 (by decide)) ?_
    obtain ⟨cor_26, pla_27, hei_28, f_29, f_30, f_31, ho_32⟩ := id mb_24.2.1
    refine g_iast hx hb hK 0 f_29 rfl (show vp_in (nI S.rn) 8 from vp_in_nI (by omega) (by omega)) d_Mo_row_26 (fun G_33 f_34 o_35 => ?_)
    rw [nI_clamp (by omega)] at f_34
    have f_36 : G_33 (A 18) = some (83, .inl (cA 0, 8600, .inl kf_7)) := (o_35 _ (gne f_20 f_29 (by simp))).trans f_20
    have f_37 : G_33 hm = some (70, .inr (9, [.int (nI 0), .int (nI S.n), .ref (A 2), .ref (A 3), .ref (A 4), .ref (A 5), .int sg_1, .int sh_2, .ref (A 8), .ref (A 9), .int (nI S.rn), .ref (A 11), .ref (A 12), .ref (A 13), .int (nI S.wn), .ref (A 15), .ref (A 16), .ref (A 17), .ref (A 18), .int kt_3, .int kb_4, .int ks_5])) := (o_35 _ (gne f_19 f_29 (fun e => by cases e))).trans f_19
    have f_38 : G_33 (A 12) = some (78, .inl (cA 0, 128, .inl pla_27)) := (o_35 _ (gne f_30 f_29 (by simp))).trans f_30
    have f_39 : G_33 (A 13) = some (79, .inl (cA 0, 128, .inl hei_28)) := (o_35 _ (gne f_31 f_29 (by simp))).trans f_31
    have gf_40 : gfr mT G G_33 := gfr_put gf_21 f_29 (show mT 77 by decide) o_35
    have gf_41 : gfr (fun x => x = 77) _ G_33 := gfr_put gfr_rf f_29 rfl o_35
    have mr_42 : MR cA A Rr_6 G_33 := MR_fr mr_23 gf_41 (show ¬ (75 : Nat) = 77 by decide) (show ¬ (76 : Nat) = 77 by decide)
    have mb_44 : MV cA A S G_33 := MV_fr mb_24.1 gf_41 (show ¬ (71 : Nat) = 77 by decide) (show ¬ (72 : Nat) = 77 by decide) (show ¬ (73 : Nat) = 77 by decide) (show ¬ (74 : Nat) = 77 by decide)
    have mb_45 : ME cA A S G_33 := ME_fr mb_24.2.2 gf_41 (show ¬ (80 : Nat) = 77 by decide) (show ¬ (81 : Nat) = 77 by decide) (show ¬ (82 : Nat) = 77 by decide)
    refine gs (pc' := 28) (fun _ _ _ _ _ hl => lv_aload_n hx hb d_Mo_row_27 rfl (lv_at hl 0 rfl)) ?_
    refine gs (pc' := 29) (fun _ _ _ _ _ hl => lv_dup hx hb d_Mo_row_28 rfl) ?_
    refine g_get hx hb hts hin_Mo hown hK f_37 rfl 10 (by decide) (hts _ wm764) (fun _ h9 => h9) rfl d_Mo_row_29 ?_
    refine gs (pc' := 33) (fun _ _ _ _ _ hl => lv_iconst (v := nI 1) hx hb d_Mo_row_32 (by decide)) ?_
    refine gs (pc' := 34) (fun _ _ _ _ _ hl => lv_iadd hx hb d_Mo_row_33) ?_
    refine g_eqi (show (nI S.rn) + (nI 1) = nI (S.rn + 1) from nI_add _ _) ?_
    refine g_put (ty := .int) hx hb hts hin_Mo ty_Mo ty_Mo_ok nm_Mo hown hK f_37 rfl 10 (by decide) (hts _ wm764) (fun _ h9 => h9) rfl (by decide +kernel) rfl rfl (Nat.le_of_ble_eq_true rfl) d_Mo_row_34 (fun G_46 f_47 o_48 => ?_)
    have f_49 : G_46 hm = some (70, .inr (9, [.int (nI 0), .int (nI S.n), .ref (A 2), .ref (A 3), .ref (A 4), .ref (A 5), .int sg_1, .int sh_2, .ref (A 8), .ref (A 9), .int (nI (S.rn + 1)), .ref (A 11), .ref (A 12), .ref (A 13), .int (nI S.wn), .ref (A 15), .ref (A 16), .ref (A 17), .ref (A 18), .int kt_3, .int kb_4, .int ks_5])) := f_47
    have f_50 : G_46 (A 18) = some (83, .inl (cA 0, 8600, .inl kf_7)) := (o_48 _ (gne f_36 f_37 (fun e => by cases e))).trans f_36
    have f_51 : G_46 (A 12) = some (78, .inl (cA 0, 128, .inl pla_27)) := (o_48 _ (gne f_38 f_37 (fun e => by cases e))).trans f_38
    have f_52 : G_46 (A 13) = some (79, .inl (cA 0, 128, .inl hei_28)) := (o_48 _ (gne f_39 f_37 (fun e => by cases e))).trans f_39
    have f_53 : G_46 (A 11) = some (77, .inl (cA 0, 8, .inl (upd cor_26 S.rn (nI 0)))) := (o_48 _ (gne f_34 f_37 (fun e => by cases e))).trans f_34
    have gf_54 : gfr mT G G_46 := gfr_put gf_40 f_37 (show mT 70 by decide) o_48
    have gf_55 : gfr (fun x => x = 70) _ G_46 := gfr_put gfr_rf f_37 rfl o_48
    have mr_56 : MR cA A Rr_6 G_46 := MR_fr mr_42 gf_55 (show ¬ (75 : Nat) = 70 by decide) (show ¬ (76 : Nat) = 70 by decide)
    have mb_58 : MV cA A S G_46 := MV_fr mb_44 gf_55 (show ¬ (71 : Nat) = 70 by decide) (show ¬ (72 : Nat) = 70 by decide) (show ¬ (73 : Nat) = 70 by decide) (show ¬ (74 : Nat) = 70 by decide)
    have mb_59 : ME cA A S G_46 := ME_fr mb_45 gf_55 (show ¬ (80 : Nat) = 70 by decide) (show ¬ (81 : Nat) = 70 by decide) (show ¬ (82 : Nat) = 70 by decide)
    refine gs (pc' := 38) (fun _ _ _ _ _ hl => lv_aload_n hx hb d_Mo_row_37 rfl (lv_at hl 0 rfl)) ?_
    refine g_get hx hb hts hin_Mo hown hK f_49 rfl 10 (by decide) (hts _ wm764) (fun _ h9 => h9) rfl d_Mo_row_38 ?_
    refine gs (pc' := 42) (fun _ _ _ _ _ hl => lv_iconst (v := nI 1) hx hb d_Mo_row_41 (by decide)) ?_
    refine gs (pc' := 43) (fun _ _ _ _ _ hl => lv_isub hx hb d_Mo_row_42) ?_
    refine g_eqi (show (nI (S.rn + 1)) - (nI 1) = nI S.rn from (pk_sub (by omega)).trans (congrArg nI (show (S.rn + 1) - 1 = S.rn by omega))) ?_
    have hmo9 : MO cA A (S.sr (S.rn + 1) (fup S.rc S.rn 0) S.rp S.rh) G_46 := by
      refine ⟨_, _, _, f_53, f_51, f_52, fun i9 h9 => ?_⟩
      have h9 : i9 < S.rn + 1 := h9
      show _ = nI (fup S.rc S.rn 0 i9) ∧ ∀ j9, j9 < fup S.rc S.rn 0 i9 → _
      by_cases e9 : i9 = S.rn
      · subst e9
        rw [fup_s]
        exact ⟨pk_us, fun j9 h8 => absurd h8 (Nat.not_lt_zero _)⟩
      · rw [fup_n e9]
        obtain ⟨q1, q2⟩ := ho_32 i9 (by omega)
        exact ⟨(pk_un e9).trans q1, q2⟩
    have hV_60 : MW cA hm A (S.sr (S.rn + 1) (fup S.rc S.rn 0) S.rp S.rh) 0 none none none G_46 := ⟨sg_1, sh_2, kt_3, kb_4, ks_5, Rr_6, _, f_49, mr_56, f_50, sn_, sn_, sn_, ⟨mb_58, hmo9, mb_59⟩⟩
    rw [sp_rowS (by omega)] at hret
    exact hret 43 _ _ _ _ d_Mo_row_43 hB1 hB2 ⟨rfl, fun _ => nI_iI _, hV_60, gf_54⟩
  · skip
    have nc_25 : S.rn = 8 := (nn_ne (a := S.rn) (b := 8) (by omega) (by omega)).2 c_25
    refine gs (pc' := 16) (fun _ _ _ _ _ hl => lv_bipush (v := (-3)) hx hb d_Mo_row_14 (by decide)) ?_
    refine g_eqi (show (-3) = iI (-3) from by decide) ?_
    have hV_61 : MW cA hm A S 0 none none none G_16 := ⟨sg_1, sh_2, kt_3, kb_4, ks_5, Rr_6, _, f_19, mr_23, f_20, sn_, sn_, sn_, mb_24⟩
    rw [sp_row8 (by omega)] at hret
    exact hret 16 _ _ _ _ d_Mo_row_16 hB1 hB2 ⟨rfl, fun _ => rfl, hV_61, gf_21⟩
set_option maxHeartbeats 4000000 in
set_option maxRecDepth 100000 in
theorem c_Mo_weight (l : Launch) (D : va_G) (cA : Nat → ClassId) (lo MC MS : Nat) (G : gT) (B : Nat × Nat) (hm : Nat) (A : Nat → Nat) (S : St) (th : Nat) (qm qo qk : Option Rat) (hV : MW cA hm A S th qm qo qk G) (hW : WF S) (x : Int) (hx1 : -2147483648 ≤ x) (hx2 : x < 2147483648) (hB1 : B.1 ≤ MC) (hB2 : B.2 ≤ MS) : gMet l y_Mo_weight w_Mo_weight 0 0 D clS (gtys cA) lo MC MS [.ref hm, .int (iI x)] G B (gQi D clS lo (fun r9 u => u.2 = B ∧ ((sp_weight S (iI x)).1 = 0 → r9 = iI (sp_weight S (iI x)).2.1) ∧ MW cA hm A (sp_weight S (iI x)).2.2 (sp_weight S (iI x)).1 none none none u.1 ∧ gfr mT G u.1)) := by
  refine g_meti (cc := prog_11_method_48_code) (nL := 2) (L := [(0, .ref hm), (1, .int (iI x))]) (by decide +kernel) rfl (Nat.le_of_ble_eq_true rfl) rfl ?_
  intro p e R s m args below meth c Q hF hRc hRs hRf hRl hret
  obtain ⟨hx, hb, hr, hml, hts0, hown, hlocks, hin, hK, hlo, hZ⟩ := hF
  have hts : ∀ w ∈ tbg, w.before args s = true := fun w h => hts0 w (List.mem_cons_of_mem _ h)
  have hn := hW.n
  have hrn := hW.rn
  have hwn := hW.wn
  refine gs (pc' := 1) (fun _ _ _ _ _ hl => lv_aload_n hx hb d_Mo_weight_0 rfl (lv_at hl 0 rfl)) ?_
  refine gs (pc' := 2) (fun _ _ _ _ _ hl => lv_iload_n hx hb d_Mo_weight_1 rfl (lv_at hl 1 rfl)) ?_
  refine gs (pc' := 3) (fun _ _ _ _ _ hl => lv_iconst (v := nI 1) hx hb d_Mo_weight_2 (by decide)) ?_
  refine gsb (pc1 := 16) (pc2 := 6) (fun _ _ _ _ _ => lv_icmp_lt (tgt := 16) hx hb d_Mo_weight_3 (by decide)) (fun c_1 => ?_) (fun c_1 => ?_)
  · skip
    have nc_1 : x < ((1 : Nat) : Int) := (ii_lt (a := x) (b := ((1 : Nat) : Int)) (by omega) (by omega) (by omega) (by omega)).1 (by first | exact c_1 | (have z9 := c_1; simp only [nI_iI] at z9; exact z9))
    refine gs (pc' := 17) (fun _ _ _ _ _ hl => lv_iconst (v := nI 1) hx hb d_Mo_weight_16 (by decide)) ?_
    obtain ⟨sg_2, sh_3, kt_4, kb_5, ks_6, Rr_7, kf_8, v_9, v_10, v_11, v_12, v_13, v_14, v_15⟩ := id hV
    have f_16 : G hm = some (70, .inr (9, [.int (nI th), .int (nI S.n), .ref (A 2), .ref (A 3), .ref (A 4), .ref (A 5), .int sg_2, .int sh_3, .ref (A 8), .ref (A 9), .int (nI S.rn), .ref (A 11), .ref (A 12), .ref (A 13), .int (nI S.wn), .ref (A 15), .ref (A 16), .ref (A 17), .ref (A 18), .int kt_4, .int kb_5, .int ks_6])) := v_9
    refine g_put (ty := .int) hx hb hts hin_Mo ty_Mo ty_Mo_ok nm_Mo hown hK f_16 rfl 0 (by decide) (hts _ wm754) (fun _ h9 => h9) rfl (by decide +kernel) rfl rfl (Nat.le_of_ble_eq_true rfl) d_Mo_weight_17 (fun G_17 f_18 o_19 => ?_)
    have f_20 : G_17 hm = some (70, .inr (9, [.int (nI 1), .int (nI S.n), .ref (A 2), .ref (A 3), .ref (A 4), .ref (A 5), .int sg_2, .int sh_3, .ref (A 8), .ref (A 9), .int (nI S.rn), .ref (A 11), .ref (A 12), .ref (A 13), .int (nI S.wn), .ref (A 15), .ref (A 16), .ref (A 17), .ref (A 18), .int kt_4, .int kb_5, .int ks_6])) := f_18
    have f_21 : G_17 (A 18) = some (83, .inl (cA 0, 8600, .inl kf_8)) := (o_19 _ (gne v_11 f_16 (fun e => by cases e))).trans v_11
    have gf_22 : gfr mT G G_17 := gfr_put gfr_rf f_16 (show mT 70 by decide) o_19
    have gf_23 : gfr (fun x => x = 70) _ G_17 := gfr_put gfr_rf f_16 rfl o_19
    have mr_24 : MR cA A Rr_7 G_17 := MR_fr v_10 gf_23 (show ¬ (75 : Nat) = 70 by decide) (show ¬ (76 : Nat) = 70 by decide)
    have mb_25 : MB cA A S G_17 := MB_fr v_15 gf_23 (fun x h9 => by omega)
    refine gs (pc' := 21) (fun _ _ _ _ _ hl => lv_aload_n hx hb d_Mo_weight_20 rfl (lv_at hl 0 rfl)) ?_
    refine g_get hx hb hts hin_Mo hown hK f_20 rfl 0 (by decide) (hts _ wm754) (fun _ h9 => h9) rfl d_Mo_weight_21 ?_
    refine gsb (pc1 := 29) (pc2 := 27) (fun _ _ _ _ _ => lv_if_le (tgt := 29) hx hb d_Mo_weight_24 (by decide)) (fun c_26 => ?_) (fun c_26 => ?_)
    · skip
      have nc_26 : 1 ≤ 0 := (n0_le (a := 1) (by omega)).1 c_26
      exact absurd nc_26 (by decide)
    · skip
      have nc_26 : 1 > 0 := (n0_le (a := 1) (by omega)).2 c_26
      refine gs (pc' := 28) (fun _ _ _ _ _ hl => lv_iconst (v := nI 0) hx hb d_Mo_weight_27 (by decide)) ?_
      have hV_27 : MW cA hm A S 1 none none none G_17 := ⟨sg_2, sh_3, kt_4, kb_5, ks_6, Rr_7, _, f_20, mr_24, f_21, sn_, sn_, sn_, mb_25⟩
      rw [st_weight hx1 hx2, if_pos (show ¬ (1 ≤ x ∧ x ≤ 1000000000) by omega)] at hret
      exact hret 28 _ _ _ _ d_Mo_weight_28 hB1 hB2 ⟨rfl, fun h9 => absurd (show (1 : Nat) = 0 from h9) (by decide), hV_27, gf_22⟩
  · skip
    have nc_1 : x ≥ ((1 : Nat) : Int) := (ii_lt (a := x) (b := ((1 : Nat) : Int)) (by omega) (by omega) (by omega) (by omega)).2 (by first | exact c_1 | (have z9 := c_1; simp only [nI_iI] at z9; exact z9))
    refine gs (pc' := 7) (fun _ _ _ _ _ hl => lv_iload_n hx hb d_Mo_weight_6 rfl (lv_at hl 1 rfl)) ?_
    refine gs (pc' := 9) (fun _ _ _ _ _ hl => lv_ldc (v := 1000000000) hx hb hown (hts _ wm867) d_Mo_weight_7) ?_
    refine g_eqi (show 1000000000 = nI 1000000000 from rfl) ?_
    refine gsb (pc1 := 16) (pc2 := 12) (fun _ _ _ _ _ => lv_icmp_gt (tgt := 16) hx hb d_Mo_weight_9 (by decide)) (fun c_28 => ?_) (fun c_28 => ?_)
    · skip
      have nc_28 : x > ((1000000000 : Nat) : Int) := (ii_gt (a := x) (b := ((1000000000 : Nat) : Int)) (by omega) (by omega) (by omega) (by omega)).1 (by first | exact c_28 | (have z9 := c_28; simp only [nI_iI] at z9; exact z9))
      refine gs (pc' := 17) (fun _ _ _ _ _ hl => lv_iconst (v := nI 1) hx hb d_Mo_weight_16 (by decide)) ?_
      obtain ⟨sg_29, sh_30, kt_31, kb_32, ks_33, Rr_34, kf_35, v_36, v_37, v_38, v_39, v_40, v_41, v_42⟩ := id hV
      have f_43 : G hm = some (70, .inr (9, [.int (nI th), .int (nI S.n), .ref (A 2), .ref (A 3), .ref (A 4), .ref (A 5), .int sg_29, .int sh_30, .ref (A 8), .ref (A 9), .int (nI S.rn), .ref (A 11), .ref (A 12), .ref (A 13), .int (nI S.wn), .ref (A 15), .ref (A 16), .ref (A 17), .ref (A 18), .int kt_31, .int kb_32, .int ks_33])) := v_36
      refine g_put (ty := .int) hx hb hts hin_Mo ty_Mo ty_Mo_ok nm_Mo hown hK f_43 rfl 0 (by decide) (hts _ wm754) (fun _ h9 => h9) rfl (by decide +kernel) rfl rfl (Nat.le_of_ble_eq_true rfl) d_Mo_weight_17 (fun G_44 f_45 o_46 => ?_)
      have f_47 : G_44 hm = some (70, .inr (9, [.int (nI 1), .int (nI S.n), .ref (A 2), .ref (A 3), .ref (A 4), .ref (A 5), .int sg_29, .int sh_30, .ref (A 8), .ref (A 9), .int (nI S.rn), .ref (A 11), .ref (A 12), .ref (A 13), .int (nI S.wn), .ref (A 15), .ref (A 16), .ref (A 17), .ref (A 18), .int kt_31, .int kb_32, .int ks_33])) := f_45
      have f_48 : G_44 (A 18) = some (83, .inl (cA 0, 8600, .inl kf_35)) := (o_46 _ (gne v_38 f_43 (fun e => by cases e))).trans v_38
      have gf_49 : gfr mT G G_44 := gfr_put gfr_rf f_43 (show mT 70 by decide) o_46
      have gf_50 : gfr (fun x => x = 70) _ G_44 := gfr_put gfr_rf f_43 rfl o_46
      have mr_51 : MR cA A Rr_34 G_44 := MR_fr v_37 gf_50 (show ¬ (75 : Nat) = 70 by decide) (show ¬ (76 : Nat) = 70 by decide)
      have mb_52 : MB cA A S G_44 := MB_fr v_42 gf_50 (fun x h9 => by omega)
      refine gs (pc' := 21) (fun _ _ _ _ _ hl => lv_aload_n hx hb d_Mo_weight_20 rfl (lv_at hl 0 rfl)) ?_
      refine g_get hx hb hts hin_Mo hown hK f_47 rfl 0 (by decide) (hts _ wm754) (fun _ h9 => h9) rfl d_Mo_weight_21 ?_
      refine gsb (pc1 := 29) (pc2 := 27) (fun _ _ _ _ _ => lv_if_le (tgt := 29) hx hb d_Mo_weight_24 (by decide)) (fun c_53 => ?_) (fun c_53 => ?_)
      · skip
        have nc_53 : 1 ≤ 0 := (n0_le (a := 1) (by omega)).1 c_53
        exact absurd nc_53 (by decide)
      · skip
        have nc_53 : 1 > 0 := (n0_le (a := 1) (by omega)).2 c_53
        refine gs (pc' := 28) (fun _ _ _ _ _ hl => lv_iconst (v := nI 0) hx hb d_Mo_weight_27 (by decide)) ?_
        have hV_54 : MW cA hm A S 1 none none none G_44 := ⟨sg_29, sh_30, kt_31, kb_32, ks_33, Rr_34, _, f_47, mr_51, f_48, sn_, sn_, sn_, mb_52⟩
        rw [st_weight hx1 hx2, if_pos (show ¬ (1 ≤ x ∧ x ≤ 1000000000) by omega)] at hret
        exact hret 28 _ _ _ _ d_Mo_weight_28 hB1 hB2 ⟨rfl, fun h9 => absurd (show (1 : Nat) = 0 from h9) (by decide), hV_54, gf_49⟩
    · skip
      have nc_28 : x ≤ ((1000000000 : Nat) : Int) := (ii_gt (a := x) (b := ((1000000000 : Nat) : Int)) (by omega) (by omega) (by omega) (by omega)).2 (by first | exact c_28 | (have z9 := c_28; simp only [nI_iI] at z9; exact z9))
      refine gs (pc' := 13) (fun _ _ _ _ _ hl => lv_iconst (v := nI 0) hx hb d_Mo_weight_12 (by decide)) ?_
      refine gs (pc' := 17) (fun _ _ _ _ _ hl => lv_goto (tgt := 17) hx hb d_Mo_weight_13 (by decide)) ?_
      obtain ⟨sg_55, sh_56, kt_57, kb_58, ks_59, Rr_60, kf_61, v_62, v_63, v_64, v_65, v_66, v_67, v_68⟩ := id hV
      have f_69 : G hm = some (70, .inr (9, [.int (nI th), .int (nI S.n), .ref (A 2), .ref (A 3), .ref (A 4), .ref (A 5), .int sg_55, .int sh_56, .ref (A 8), .ref (A 9), .int (nI S.rn), .ref (A 11), .ref (A 12), .ref (A 13), .int (nI S.wn), .ref (A 15), .ref (A 16), .ref (A 17), .ref (A 18), .int kt_57, .int kb_58, .int ks_59])) := v_62
      refine g_put (ty := .int) hx hb hts hin_Mo ty_Mo ty_Mo_ok nm_Mo hown hK f_69 rfl 0 (by decide) (hts _ wm754) (fun _ h9 => h9) rfl (by decide +kernel) rfl rfl (Nat.le_of_ble_eq_true rfl) d_Mo_weight_17 (fun G_70 f_71 o_72 => ?_)
      have f_73 : G_70 hm = some (70, .inr (9, [.int (nI 0), .int (nI S.n), .ref (A 2), .ref (A 3), .ref (A 4), .ref (A 5), .int sg_55, .int sh_56, .ref (A 8), .ref (A 9), .int (nI S.rn), .ref (A 11), .ref (A 12), .ref (A 13), .int (nI S.wn), .ref (A 15), .ref (A 16), .ref (A 17), .ref (A 18), .int kt_57, .int kb_58, .int ks_59])) := f_71
      have f_74 : G_70 (A 18) = some (83, .inl (cA 0, 8600, .inl kf_61)) := (o_72 _ (gne v_64 f_69 (fun e => by cases e))).trans v_64
      have gf_75 : gfr mT G G_70 := gfr_put gfr_rf f_69 (show mT 70 by decide) o_72
      have gf_76 : gfr (fun x => x = 70) _ G_70 := gfr_put gfr_rf f_69 rfl o_72
      have mr_77 : MR cA A Rr_60 G_70 := MR_fr v_63 gf_76 (show ¬ (75 : Nat) = 70 by decide) (show ¬ (76 : Nat) = 70 by decide)
      have mb_78 : MB cA A S G_70 := MB_fr v_68 gf_76 (fun x h9 => by omega)
      refine gs (pc' := 21) (fun _ _ _ _ _ hl => lv_aload_n hx hb d_Mo_weight_20 rfl (lv_at hl 0 rfl)) ?_
      refine g_get hx hb hts hin_Mo hown hK f_73 rfl 0 (by decide) (hts _ wm754) (fun _ h9 => h9) rfl d_Mo_weight_21 ?_
      refine gsb (pc1 := 29) (pc2 := 27) (fun _ _ _ _ _ => lv_if_le (tgt := 29) hx hb d_Mo_weight_24 (by decide)) (fun c_79 => ?_) (fun c_79 => ?_)
      · skip
        have nc_79 : 0 ≤ 0 := (n0_le (a := 0) (by omega)).1 c_79
        refine gs (pc' := 30) (fun _ _ _ _ _ hl => lv_aload_n hx hb d_Mo_weight_29 rfl (lv_at hl 0 rfl)) ?_
        refine g_get hx hb hts hin_Mo hown hK f_73 rfl 14 (by decide) (hts _ wm768) (fun _ h9 => h9) rfl d_Mo_weight_30 ?_
        refine gs (pc' := 35) (fun _ _ _ _ _ hl => lv_bipush (v := nI 12) hx hb d_Mo_weight_33 (by decide)) ?_
        refine gsb (pc1 := 41) (pc2 := 38) (fun _ _ _ _ _ => lv_icmp_ne (tgt := 41) hx hb d_Mo_weight_35 (by decide)) (fun c_80 => ?_) (fun c_80 => ?_)
        · skip
          have nc_80 : S.wn ≠ 12 := (nn_ne (a := S.wn) (b := 12) (by omega) (by omega)).1 c_80
          refine gs (pc' := 42) (fun _ _ _ _ _ hl => lv_aload_n hx hb d_Mo_weight_41 rfl (lv_at hl 0 rfl)) ?_
          refine g_get hx hb hts hin_Mo hown hK f_73 rfl 15 (by decide) (hts _ wm769) (fun _ h9 => h9) rfl d_Mo_weight_42 ?_
          refine gs (pc' := 46) (fun _ _ _ _ _ hl => lv_aload_n hx hb d_Mo_weight_45 rfl (lv_at hl 0 rfl)) ?_
          refine g_get hx hb hts hin_Mo hown hK f_73 rfl 14 (by decide) (hts _ wm768) (fun _ h9 => h9) rfl d_Mo_weight_46 ?_
          refine gs (pc' := 50) (fun _ _ _ _ _ hl => lv_iload_n hx hb d_Mo_weight_49 rfl (lv_at hl 1 rfl)) ?_
          refine gs (pc' := 51) (fun _ _ _ _ _ hl => lv_i2l (v := lN x.toNat) hx hb d_Mo_weight_50 (iI_l64 (by omega) (by omega))) ?_
          obtain ⟨wei_81, sha_82, res_83, f_84, f_85, f_86, he_87⟩ := id mb_78.2.2
          refine g_last hx hb hK 1 f_84 rfl (show vp_in (nI S.wn) 12 from vp_in_nI (by omega) (by omega)) d_Mo_weight_51 (fun G_88 f_89 o_90 => ?_)
          rw [nI_clamp (by omega)] at f_89
          have f_91 : G_88 (A 18) = some (83, .inl (cA 0, 8600, .inl kf_61)) := (o_90 _ (gne f_74 f_84 (by simp))).trans f_74
          have f_92 : G_88 hm = some (70, .inr (9, [.int (nI 0), .int (nI S.n), .ref (A 2), .ref (A 3), .ref (A 4), .ref (A 5), .int sg_55, .int sh_56, .ref (A 8), .ref (A 9), .int (nI S.rn), .ref (A 11), .ref (A 12), .ref (A 13), .int (nI S.wn), .ref (A 15), .ref (A 16), .ref (A 17), .ref (A 18), .int kt_57, .int kb_58, .int ks_59])) := (o_90 _ (gne f_73 f_84 (fun e => by cases e))).trans f_73
          have f_93 : G_88 (A 16) = some (81, .inl (cA 1, 12, .inr (.inl sha_82))) := (o_90 _ (gne f_85 f_84 (by simp))).trans f_85
          have f_94 : G_88 (A 17) = some (82, .inl (cA 1, 12, .inr (.inl res_83))) := (o_90 _ (gne f_86 f_84 (by simp))).trans f_86
          have gf_95 : gfr mT G G_88 := gfr_put gf_75 f_84 (show mT 80 by decide) o_90
          have gf_96 : gfr (fun x => x = 80) _ G_88 := gfr_put gfr_rf f_84 rfl o_90
          have mr_97 : MR cA A Rr_60 G_88 := MR_fr mr_77 gf_96 (show ¬ (75 : Nat) = 80 by decide) (show ¬ (76 : Nat) = 80 by decide)
          have mb_99 : MV cA A S G_88 := MV_fr mb_78.1 gf_96 (show ¬ (71 : Nat) = 80 by decide) (show ¬ (72 : Nat) = 80 by decide) (show ¬ (73 : Nat) = 80 by decide) (show ¬ (74 : Nat) = 80 by decide)
          have mb_100 : MO cA A S G_88 := MO_fr mb_78.2.1 gf_96 (show ¬ (77 : Nat) = 80 by decide) (show ¬ (78 : Nat) = 80 by decide) (show ¬ (79 : Nat) = 80 by decide)
          refine gs (pc' := 53) (fun _ _ _ _ _ hl => lv_aload_n hx hb d_Mo_weight_52 rfl (lv_at hl 0 rfl)) ?_
          refine gs (pc' := 54) (fun _ _ _ _ _ hl => lv_dup hx hb d_Mo_weight_53 rfl) ?_
          refine g_get hx hb hts hin_Mo hown hK f_92 rfl 14 (by decide) (hts _ wm768) (fun _ h9 => h9) rfl d_Mo_weight_54 ?_
          refine gs (pc' := 58) (fun _ _ _ _ _ hl => lv_iconst (v := nI 1) hx hb d_Mo_weight_57 (by decide)) ?_
          refine gs (pc' := 59) (fun _ _ _ _ _ hl => lv_iadd hx hb d_Mo_weight_58) ?_
          refine g_eqi (show (nI S.wn) + (nI 1) = nI (S.wn + 1) from nI_add _ _) ?_
          refine g_put (ty := .int) hx hb hts hin_Mo ty_Mo ty_Mo_ok nm_Mo hown hK f_92 rfl 14 (by decide) (hts _ wm768) (fun _ h9 => h9) rfl (by decide +kernel) rfl rfl (Nat.le_of_ble_eq_true rfl) d_Mo_weight_59 (fun G_101 f_102 o_103 => ?_)
          have f_104 : G_101 hm = some (70, .inr (9, [.int (nI 0), .int (nI S.n), .ref (A 2), .ref (A 3), .ref (A 4), .ref (A 5), .int sg_55, .int sh_56, .ref (A 8), .ref (A 9), .int (nI S.rn), .ref (A 11), .ref (A 12), .ref (A 13), .int (nI (S.wn + 1)), .ref (A 15), .ref (A 16), .ref (A 17), .ref (A 18), .int kt_57, .int kb_58, .int ks_59])) := f_102
          have f_105 : G_101 (A 18) = some (83, .inl (cA 0, 8600, .inl kf_61)) := (o_103 _ (gne f_91 f_92 (fun e => by cases e))).trans f_91
          have f_106 : G_101 (A 16) = some (81, .inl (cA 1, 12, .inr (.inl sha_82))) := (o_103 _ (gne f_93 f_92 (fun e => by cases e))).trans f_93
          have f_107 : G_101 (A 17) = some (82, .inl (cA 1, 12, .inr (.inl res_83))) := (o_103 _ (gne f_94 f_92 (fun e => by cases e))).trans f_94
          have f_108 : G_101 (A 15) = some (80, .inl (cA 1, 12, .inr (.inl (vp_updL wei_81 S.wn (lN x.toNat))))) := (o_103 _ (gne f_89 f_92 (fun e => by cases e))).trans f_89
          have gf_109 : gfr mT G G_101 := gfr_put gf_95 f_92 (show mT 70 by decide) o_103
          have gf_110 : gfr (fun x => x = 70) _ G_101 := gfr_put gfr_rf f_92 rfl o_103
          have mr_111 : MR cA A Rr_60 G_101 := MR_fr mr_97 gf_110 (show ¬ (75 : Nat) = 70 by decide) (show ¬ (76 : Nat) = 70 by decide)
          have mb_113 : MV cA A S G_101 := MV_fr mb_99 gf_110 (show ¬ (71 : Nat) = 70 by decide) (show ¬ (72 : Nat) = 70 by decide) (show ¬ (73 : Nat) = 70 by decide) (show ¬ (74 : Nat) = 70 by decide)
          have mb_114 : MO cA A S G_101 := MO_fr mb_100 gf_110 (show ¬ (77 : Nat) = 70 by decide) (show ¬ (78 : Nat) = 70 by decide) (show ¬ (79 : Nat) = 70 by decide)
          refine gs (pc' := 63) (fun _ _ _ _ _ hl => lv_aload_n hx hb d_Mo_weight_62 rfl (lv_at hl 0 rfl)) ?_
          refine g_get hx hb hts hin_Mo hown hK f_104 rfl 14 (by decide) (hts _ wm768) (fun _ h9 => h9) rfl d_Mo_weight_63 ?_
          have hme9 : ME cA A (S.sw (S.wn + 1) (fup S.w S.wn x.toNat)) G_101 := by
            refine ⟨_, _, _, f_108, f_106, f_107, fun i9 h9 => ?_⟩
            have h9 : i9 < S.wn + 1 := h9
            show _ = lN (fup S.w S.wn x.toNat i9)
            by_cases e9 : i9 = S.wn
            · subst e9
              rw [fup_s]
              exact if_pos rfl
            · rw [fup_n e9]
              exact (if_neg e9).trans (he_87 i9 (by omega))
          have hV_115 : MW cA hm A (S.sw (S.wn + 1) (fup S.w S.wn x.toNat)) 0 none none none G_101 := ⟨sg_55, sh_56, kt_57, kb_58, ks_59, Rr_60, _, f_104, mr_111, f_105, sn_, sn_, sn_, ⟨mb_113, mb_114, hme9⟩⟩
          rw [st_weight hx1 hx2, if_neg (show ¬ ¬ (1 ≤ x ∧ x ≤ 1000000000) by omega), if_neg (by omega)] at hret
          exact hret 66 _ _ _ _ d_Mo_weight_66 hB1 hB2 ⟨rfl, fun _ => nI1_ _, hV_115, gf_109⟩
        · skip
          have nc_80 : S.wn = 12 := (nn_ne (a := S.wn) (b := 12) (by omega) (by omega)).2 c_80
          refine gs (pc' := 40) (fun _ _ _ _ _ hl => lv_bipush (v := (-3)) hx hb d_Mo_weight_38 (by decide)) ?_
          refine g_eqi (show (-3) = iI (-3) from by decide) ?_
          have hV_116 : MW cA hm A S 0 none none none G_70 := ⟨sg_55, sh_56, kt_57, kb_58, ks_59, Rr_60, _, f_73, mr_77, f_74, sn_, sn_, sn_, mb_78⟩
          rw [st_weight hx1 hx2, if_neg (show ¬ ¬ (1 ≤ x ∧ x ≤ 1000000000) by omega), if_pos (by omega)] at hret
          exact hret 40 _ _ _ _ d_Mo_weight_40 hB1 hB2 ⟨rfl, fun _ => rfl, hV_116, gf_75⟩
      · skip
        have nc_79 : 0 > 0 := (n0_le (a := 0) (by omega)).2 c_79
        exact absurd nc_79 (by decide)
set_option maxHeartbeats 4000000 in
set_option maxRecDepth 100000 in
theorem c_Mo_digit (l : Launch) (D : va_G) (cA : Nat → ClassId) (lo MC MS : Nat) (G : gT) (B : Nat × Nat) (hm : Nat) (A : Nat → Nat) (S : St) (th : Nat) (qm qo qk : Option Rat) (hV : MW cA hm A S th qm qo qk G) (hW : WF S) (x : Int) (hx1 : -2147483648 ≤ x) (hx2 : x < 2147483648) (y : Int) (hy1 : -2147483648 ≤ y) (hy2 : y < 2147483648) (z : Int) (hz1 : -2147483648 ≤ z) (hz2 : z < 2147483648) (hB1 : B.1 ≤ MC) (hB2 : B.2 ≤ MS) : gMet l y_Mo_digit w_Mo_digit 2 45 D clS (gtys cA) lo MC MS [.ref hm, .int (iI x), .int (iI y), .int (iI z)] G B (gQi D clS lo (fun r9 u => u.2 = B ∧ ((sp_digit S (iI x) (iI y) (iI z)).1 = 0 → r9 = iI (sp_digit S (iI x) (iI y) (iI z)).2.1) ∧ MW cA hm A (sp_digit S (iI x) (iI y) (iI z)).2.2 (sp_digit S (iI x) (iI y) (iI z)).1 none none none u.1 ∧ gfr mT G u.1)) := by
  refine g_meti (cc := prog_11_method_37_code) (nL := 8) (L := [(0, .ref hm), (1, .int (iI x)), (2, .int (iI y)), (3, .int (iI z))]) (by decide +kernel) rfl (Nat.le_of_ble_eq_true rfl) rfl ?_
  intro p e R s m args below meth c Q hF hRc hRs hRf hRl hret
  obtain ⟨hx, hb, hr, hml, hts0, hown, hlocks, hin, hK, hlo, hZ⟩ := hF
  have hts : ∀ w ∈ tbg, w.before args s = true := fun w h => hts0 w (List.mem_cons_of_mem _ h)
  have hn := hW.n
  have hrn := hW.rn
  have hwn := hW.wn
  refine gs (pc' := 1) (fun _ _ _ _ _ hl => lv_iload_n hx hb d_Mo_digit_0 rfl (lv_at hl 2 rfl)) ?_
  refine gsb (pc1 := 9) (pc2 := 4) (fun _ _ _ _ _ => lv_if_lt (tgt := 9) hx hb d_Mo_digit_1 (by decide)) (fun c_1 => ?_) (fun c_1 => ?_)
  · skip
    have nc_1 : y < 0 := (ii_lt (a := y) (b := 0) (by omega) (by omega) (by omega) (by omega)).1 (by first | exact c_1 | (have z9 := c_1; simp only [nI_iI] at z9; exact z9))
    have hpo : ¬ (y = 0 ∨ y = 1) := by omega
    refine gs (pc' := 10) (fun _ _ _ _ _ hl => lv_iconst (v := nI 1) hx hb d_Mo_digit_9 (by decide)) ?_
    refine gs (pc' := 14) (fun _ _ _ _ _ hl => lv_goto (tgt := 14) hx hb d_Mo_digit_10 (by decide)) ?_
    refine gst (pc' := 16) (L' := [(4, .int (nI 1)), (0, .ref hm), (1, .int (iI x)), (2, .int (iI y)), (3, .int (iI z))]) (fun _ _ _ _ _ hl => lv_istore hx hb d_Mo_digit_14 hl (by decide) rfl) ?_
    refine gs (pc' := 17) (fun _ _ _ _ _ hl => lv_aload_n hx hb d_Mo_digit_16 rfl (lv_at hl 1 rfl)) ?_
    refine gs (pc' := 18) (fun _ _ _ _ _ hl => lv_iload_n hx hb d_Mo_digit_17 rfl (lv_at hl 2 rfl)) ?_
    obtain ⟨sg_2, sh_3, kt_4, kb_5, ks_6, Rr_7, kf_8, v_9, v_10, v_11, v_12, v_13, v_14, v_15⟩ := id hV
    have f_16 : G hm = some (70, .inr (9, [.int (nI th), .int (nI S.n), .ref (A 2), .ref (A 3), .ref (A 4), .ref (A 5), .int sg_2, .int sh_3, .ref (A 8), .ref (A 9), .int (nI S.rn), .ref (A 11), .ref (A 12), .ref (A 13), .int (nI S.wn), .ref (A 15), .ref (A 16), .ref (A 17), .ref (A 18), .int kt_4, .int kb_5, .int ks_6])) := v_9
    have hV_17 : MW cA hm A S th qm qo qk G := ⟨sg_2, sh_3, kt_4, kb_5, ks_6, Rr_7, _, f_16, v_10, v_11, v_12, v_13, v_14, v_15⟩
    refine g_outi hlo (g_runV (As := [.int (iI x)]) (rest := []) ⟨hx, hb, hml, hown, hts⟩ hK hZ hRc hRs (c_Mo_isValue l D cA lo MC MS G B hm A S th qm qo qk hV_17 hW x (by omega) (by omega) hB1 hB2) (fun _ _ => cwV 1 hts (tb_good (tb_cons wm893 (tb_cons wm895 (tb_cons ws33 (tb_cons wm12 k_Mo_isValue))))) rfl rfl rfl (by decide +kernel) ⟨by rw [hRf]; exact Nat.le_of_ble_eq_true rfl, by rw [hRl]; exact Nat.le_of_ble_eq_true rfl⟩) f_16 rfl hB1 hB2 rfl (Nat.le_of_ble_eq_true rfl) d_Mo_digit_18) (fun r_21 G_18 B_19 p_20 => ?_)
    obtain ⟨u_22, e_23⟩ := p_20
    cases u_22
    subst e_23
    have bd_24 := b01_le (decide (0 ≤ x ∧ x < S.n))
    refine gsb (pc1 := 28) (pc2 := 24) (fun _ _ _ _ _ => lv_if_eq (tgt := 28) hx hb d_Mo_digit_21 (by decide)) (fun c_25 => ?_) (fun c_25 => ?_)
    · skip
      have nc_25 : (b01 (decide (0 ≤ x ∧ x < S.n))) = 0 := (n0_eq (a := (b01 (decide (0 ≤ x ∧ x < S.n)))) (by omega)).1 c_25
      have hb_x : ¬ (0 ≤ x ∧ x < S.n) := b01_0 nc_25
      refine gs (pc' := 29) (fun _ _ _ _ _ hl => lv_aload_n hx hb d_Mo_digit_28 rfl (lv_at hl 1 rfl)) ?_
      refine gs (pc' := 30) (fun _ _ _ _ _ hl => lv_iconst (v := nI 1) hx hb d_Mo_digit_29 (by decide)) ?_
      obtain ⟨sg_26, sh_27, kt_28, kb_29, ks_30, Rr_31, kf_32, v_33, v_34, v_35, v_36, v_37, v_38, v_39⟩ := id hV_17
      have f_40 : G hm = some (70, .inr (9, [.int (nI th), .int (nI S.n), .ref (A 2), .ref (A 3), .ref (A 4), .ref (A 5), .int sg_26, .int sh_27, .ref (A 8), .ref (A 9), .int (nI S.rn), .ref (A 11), .ref (A 12), .ref (A 13), .int (nI S.wn), .ref (A 15), .ref (A 16), .ref (A 17), .ref (A 18), .int kt_28, .int kb_29, .int ks_30])) := v_33
      refine g_put (ty := .int) hx hb hts hin_Mo ty_Mo ty_Mo_ok nm_Mo hown hK f_40 rfl 0 (by decide) (hts _ wm754) (fun _ h9 => h9) rfl (by decide +kernel) rfl rfl (Nat.le_of_ble_eq_true rfl) d_Mo_digit_30 (fun G_41 f_42 o_43 => ?_)
      have f_44 : G_41 hm = some (70, .inr (9, [.int (nI 1), .int (nI S.n), .ref (A 2), .ref (A 3), .ref (A 4), .ref (A 5), .int sg_26, .int sh_27, .ref (A 8), .ref (A 9), .int (nI S.rn), .ref (A 11), .ref (A 12), .ref (A 13), .int (nI S.wn), .ref (A 15), .ref (A 16), .ref (A 17), .ref (A 18), .int kt_28, .int kb_29, .int ks_30])) := f_42
      have f_45 : G_41 (A 18) = some (83, .inl (cA 0, 8600, .inl kf_32)) := (o_43 _ (gne v_35 f_40 (fun e => by cases e))).trans v_35
      have gf_46 : gfr mT G G_41 := gfr_put gfr_rf f_40 (show mT 70 by decide) o_43
      have gf_47 : gfr (fun x => x = 70) _ G_41 := gfr_put gfr_rf f_40 rfl o_43
      have mr_48 : MR cA A Rr_31 G_41 := MR_fr v_34 gf_47 (show ¬ (75 : Nat) = 70 by decide) (show ¬ (76 : Nat) = 70 by decide)
      have mb_49 : MB cA A S G_41 := MB_fr v_39 gf_47 (fun x h9 => by omega)
      refine gs (pc' := 34) (fun _ _ _ _ _ hl => lv_iconst (v := nI 0) hx hb d_Mo_digit_33 (by decide)) ?_
      have hV_50 : MW cA hm A S 1 none none none G_41 := ⟨sg_26, sh_27, kt_28, kb_29, ks_30, Rr_31, _, f_44, mr_48, f_45, sn_, sn_, sn_, mb_49⟩
      rw [su_digit (fun q9 => vn_ hx1 hx2 hb_x q9.1)] at hret
      exact hret 34 _ _ _ _ d_Mo_digit_34 hB1 hB2 ⟨rfl, fun h9 => absurd (show (1 : Nat) = 0 from h9) (by decide), hV_50, gf_46⟩
    · skip
      have nc_25 : (b01 (decide (0 ≤ x ∧ x < S.n))) ≠ 0 := (n0_eq (a := (b01 (decide (0 ≤ x ∧ x < S.n)))) (by omega)).2 c_25
      have hg_x : 0 ≤ x ∧ x < S.n := b01_1 nc_25
      have hg1_x := hg_x.1
      have hg2_x := hg_x.2
      obtain ⟨i, hxe_i⟩ : ∃ i : Nat, x = (i : Int) := ⟨x.toNat, by omega⟩
      subst hxe_i
      rw [← nI_iI i] at hret ⊢
      have hi_i : i < S.n := by omega
      have rbq_51 : rb (S.v i) 100 := rb_of (hW.v _ hi_i).1
      refine gs (pc' := 25) (fun _ _ _ _ _ hl => lv_iload_n hx hb d_Mo_digit_24 rfl (lv_at hl 4 rfl)) ?_
      refine gsb (pc1 := 35) (pc2 := 28) (fun _ _ _ _ _ => lv_if_ge (tgt := 35) hx hb d_Mo_digit_25 (by decide)) (fun c_52 => ?_) (fun c_52 => ?_)
      · skip
        have nc_52 : z ≥ 0 := (ii_ge (a := z) (b := 0) (by omega) (by omega) (by omega) (by omega)).1 (by first | exact c_52 | (have z9 := c_52; simp only [nI_iI] at z9; exact z9))
        obtain ⟨k, hxe_k⟩ : ∃ k : Nat, z = (k : Int) := ⟨z.toNat, by omega⟩
        subst hxe_k
        rw [← nI_iI k] at hret ⊢
        refine gs (pc' := 36) (fun _ _ _ _ _ hl => lv_aload_n hx hb d_Mo_digit_35 rfl (lv_at hl 1 rfl)) ?_
        refine gs (pc' := 37) (fun _ _ _ _ _ hl => lv_iload_n hx hb d_Mo_digit_36 rfl (lv_at hl 2 rfl)) ?_
        obtain ⟨sg_53, sh_54, kt_55, kb_56, ks_57, Rr_58, kf_59, v_60, v_61, v_62, v_63, v_64, v_65, v_66⟩ := id hV_17
        have f_67 : G hm = some (70, .inr (9, [.int (nI th), .int (nI S.n), .ref (A 2), .ref (A 3), .ref (A 4), .ref (A 5), .int sg_53, .int sh_54, .ref (A 8), .ref (A 9), .int (nI S.rn), .ref (A 11), .ref (A 12), .ref (A 13), .int (nI S.wn), .ref (A 15), .ref (A 16), .ref (A 17), .ref (A 18), .int kt_55, .int kb_56, .int ks_57])) := v_60
        have hV_68 : MW cA hm A S th qm qo qk G := ⟨sg_53, sh_54, kt_55, kb_56, ks_57, Rr_58, _, f_67, v_61, v_62, v_63, v_64, v_65, v_66⟩
        refine g_outv hlo (g_runV (As := [.int (nI i)]) (rest := []) ⟨hx, hb, hml, hown, hts⟩ hK hZ hRc hRs (c_Mo_load l D cA lo MC MS G B hm A S th qm qo qk hV_68 hW i (by omega) hB1 hB2) (fun _ _ => cwV 1 hts (tb_good (tb_cons wm897 (tb_cons wm899 (tb_cons ws34 (tb_cons wm12 k_Mo_load))))) rfl rfl rfl (by decide +kernel) ⟨by rw [hRf]; exact Nat.le_of_ble_eq_true rfl, by rw [hRl]; exact Nat.le_of_ble_eq_true rfl⟩) f_67 rfl hB1 hB2 rfl (Nat.le_of_ble_eq_true rfl) d_Mo_digit_37) (fun G_69 B_70 p_71 => ?_)
        obtain ⟨e_72, hV_73, gf_74⟩ := p_71
        have e_72b : B = B_70 := e_72.symm
        subst e_72b
        have gf_75 : gfr mT G G_69 := mT_mT gfr_rf gf_74
        refine gs (pc' := 41) (fun _ _ _ _ _ hl => lv_iload_n hx hb d_Mo_digit_40 rfl (lv_at hl 3 rfl)) ?_
        refine gsb (pc1 := 48) (pc2 := 44) (fun _ _ _ _ _ => lv_if_ne (tgt := 48) hx hb d_Mo_digit_41 (by decide)) (fun c_76 => ?_) (fun c_76 => ?_)
        · skip
          have nc_76 : y ≠ 0 := (ii_ne (a := y) (b := 0) (by omega) (by omega) (by omega) (by omega)).1 (by first | exact c_76 | (have z9 := c_76; simp only [nI_iI] at z9; exact z9))
          have hy9 : ¬ y = 0 := by omega
          have hpr : prt (S.v i) y = (S.v i).den := if_neg hy9
          refine gs (pc' := 49) (fun _ _ _ _ _ hl => lv_iconst (v := nI 1) hx hb d_Mo_digit_48 (by decide)) ?_
          refine gst (pc' := 51) (L' := [(5, .int (nI 1)), (4, .int (nI 1)), (0, .ref hm), (1, .int (nI i)), (2, .int (iI y)), (3, .int (nI k))]) (fun _ _ _ _ _ hl => lv_istore hx hb d_Mo_digit_49 hl (by decide) rfl) ?_
          obtain ⟨sg_77, sh_78, kt_79, kb_80, ks_81, Rr_82, kf_83, v_84, v_85, v_86, v_87, v_88, v_89, v_90⟩ := id hV_73
          have f_91 : G_69 hm = some (70, .inr (9, [.int (nI th), .int (nI S.n), .ref (A 2), .ref (A 3), .ref (A 4), .ref (A 5), .int sg_77, .int sh_78, .ref (A 8), .ref (A 9), .int (nI S.rn), .ref (A 11), .ref (A 12), .ref (A 13), .int (nI S.wn), .ref (A 15), .ref (A 16), .ref (A 17), .ref (A 18), .int kt_79, .int kb_80, .int ks_81])) := v_84
          obtain ⟨e_92, e_93, e_94⟩ := v_87 _ rfl
          have f_95 : G_69 hm = some (70, .inr (9, [.int (nI th), .int (nI S.n), .ref (A 2), .ref (A 3), .ref (A 4), .ref (A 5), .int (iI ((S.v i).num.sign)), .int sh_78, .ref (A 8), .ref (A 9), .int (nI S.rn), .ref (A 11), .ref (A 12), .ref (A 13), .int (nI S.wn), .ref (A 15), .ref (A 16), .ref (A 17), .ref (A 18), .int kt_79, .int kb_80, .int ks_81])) := by rw [← e_92]; exact f_91
          have fm_96 : ∀ r9, some (S.v i) = some r9 → fc (iI ((S.v i).num.sign)) (Rr_82 0) (Rr_82 1) r9 := by rw [← e_92]; exact v_87
          have s3_97 := sg3 (S.v i).num
          have hd1 := dig_900 (fun e9 => (hW.v i hi_i).1 (Or.inl e9))
          have hd2 := dig_900 (fun e9 => (hW.v i hi_i).1 (Or.inr e9))
          refine gs (pc' := 52) (fun _ _ _ _ _ hl => lv_aload_n hx hb d_Mo_digit_51 rfl (lv_at hl 2 rfl)) ?_
          refine gs (pc' := 54) (fun _ _ _ _ _ hl => lv_iload hx hb d_Mo_digit_52 (lv_at hl 1 rfl)) ?_
          refine gsb (pc1 := 61) (pc2 := 57) (fun _ _ _ _ _ => lv_if_eq (tgt := 61) hx hb d_Mo_digit_54 (by decide)) (fun c_98 => ?_) (fun c_98 => ?_)
          · skip
            have nc_98 : 1 = 0 := (n0_eq (a := 1) (by omega)).1 c_98
            exact absurd nc_98 (by decide)
          · skip
            have nc_98 : 1 ≠ 0 := (n0_eq (a := 1) (by omega)).2 c_98
            refine gs (pc' := 58) (fun _ _ _ _ _ hl => lv_iconst (v := nI 2) hx hb d_Mo_digit_57 (by decide)) ?_
            refine gs (pc' := 76) (fun _ _ _ _ _ hl => lv_goto (tgt := 76) hx hb d_Mo_digit_58 (by decide)) ?_
            refine g_put (ty := .int) hx hb hts hin_Mo ty_Mo ty_Mo_ok nm_Mo hown hK f_95 rfl 0 (by decide) (hts _ wm754) (fun _ h9 => h9) rfl (by decide +kernel) rfl rfl (Nat.le_of_ble_eq_true rfl) d_Mo_digit_76 (fun G_99 f_100 o_101 => ?_)
            have f_102 : G_99 hm = some (70, .inr (9, [.int (nI 2), .int (nI S.n), .ref (A 2), .ref (A 3), .ref (A 4), .ref (A 5), .int (iI ((S.v i).num.sign)), .int sh_78, .ref (A 8), .ref (A 9), .int (nI S.rn), .ref (A 11), .ref (A 12), .ref (A 13), .int (nI S.wn), .ref (A 15), .ref (A 16), .ref (A 17), .ref (A 18), .int kt_79, .int kb_80, .int ks_81])) := f_100
            have f_103 : G_99 (A 18) = some (83, .inl (cA 0, 8600, .inl kf_83)) := (o_101 _ (gne v_86 f_95 (fun e => by cases e))).trans v_86
            have gf_104 : gfr mT G G_99 := gfr_put gf_75 f_95 (show mT 70 by decide) o_101
            have gf_105 : gfr (fun x => x = 70) _ G_99 := gfr_put gfr_rf f_95 rfl o_101
            have mr_106 : MR cA A Rr_82 G_99 := MR_fr v_85 gf_105 (show ¬ (75 : Nat) = 70 by decide) (show ¬ (76 : Nat) = 70 by decide)
            have mb_107 : MB cA A S G_99 := MB_fr v_90 gf_105 (fun x h9 => by omega)
            refine gs (pc' := 80) (fun _ _ _ _ _ hl => lv_aload_n hx hb d_Mo_digit_79 rfl (lv_at hl 2 rfl)) ?_
            refine g_get hx hb hts hin_Mo hown hK f_102 rfl 0 (by decide) (hts _ wm754) (fun _ h9 => h9) rfl d_Mo_digit_80 ?_
            refine gsb (pc1 := 88) (pc2 := 86) (fun _ _ _ _ _ => lv_if_le (tgt := 88) hx hb d_Mo_digit_83 (by decide)) (fun c_108 => ?_) (fun c_108 => ?_)
            · skip
              have nc_108 : 2 ≤ 0 := (n0_le (a := 2) (by omega)).1 c_108
              exact absurd nc_108 (by decide)
            · skip
              have nc_108 : 2 > 0 := (n0_le (a := 2) (by omega)).2 c_108
              refine gs (pc' := 87) (fun _ _ _ _ _ hl => lv_iconst (v := nI 0) hx hb d_Mo_digit_86 (by decide)) ?_
              have hV_109 : MW cA hm A S 2 none none none G_99 := ⟨(iI ((S.v i).num.sign)), sh_78, kt_79, kb_80, ks_81, Rr_82, _, f_102, mr_106, f_103, sn_, sn_, sn_, mb_107⟩
              rw [st_digit hn hi_i hy1 hy2 (by omega), if_pos hpo] at hret
              exact hret 87 _ _ _ _ d_Mo_digit_87 hB1 hB2 ⟨rfl, fun h9 => absurd (show (2 : Nat) = 0 from h9) (by decide), hV_109, gf_104⟩
        · skip
          have nc_76 : y = 0 := (ii_ne (a := y) (b := 0) (by omega) (by omega) (by omega) (by omega)).2 (by first | exact c_76 | (have z9 := c_76; simp only [nI_iI] at z9; exact z9))
          have hpr : prt (S.v i) y = (S.v i).num.natAbs := if_pos (by omega)
          refine gs (pc' := 45) (fun _ _ _ _ _ hl => lv_iconst (v := nI 0) hx hb d_Mo_digit_44 (by decide)) ?_
          refine gs (pc' := 49) (fun _ _ _ _ _ hl => lv_goto (tgt := 49) hx hb d_Mo_digit_45 (by decide)) ?_
          refine gst (pc' := 51) (L' := [(5, .int (nI 0)), (4, .int (nI 1)), (0, .ref hm), (1, .int (nI i)), (2, .int (iI y)), (3, .int (nI k))]) (fun _ _ _ _ _ hl => lv_istore hx hb d_Mo_digit_49 hl (by decide) rfl) ?_
          obtain ⟨sg_110, sh_111, kt_112, kb_113, ks_114, Rr_115, kf_116, v_117, v_118, v_119, v_120, v_121, v_122, v_123⟩ := id hV_73
          have f_124 : G_69 hm = some (70, .inr (9, [.int (nI th), .int (nI S.n), .ref (A 2), .ref (A 3), .ref (A 4), .ref (A 5), .int sg_110, .int sh_111, .ref (A 8), .ref (A 9), .int (nI S.rn), .ref (A 11), .ref (A 12), .ref (A 13), .int (nI S.wn), .ref (A 15), .ref (A 16), .ref (A 17), .ref (A 18), .int kt_112, .int kb_113, .int ks_114])) := v_117
          obtain ⟨e_125, e_126, e_127⟩ := v_120 _ rfl
          have f_128 : G_69 hm = some (70, .inr (9, [.int (nI th), .int (nI S.n), .ref (A 2), .ref (A 3), .ref (A 4), .ref (A 5), .int (iI ((S.v i).num.sign)), .int sh_111, .ref (A 8), .ref (A 9), .int (nI S.rn), .ref (A 11), .ref (A 12), .ref (A 13), .int (nI S.wn), .ref (A 15), .ref (A 16), .ref (A 17), .ref (A 18), .int kt_112, .int kb_113, .int ks_114])) := by rw [← e_125]; exact f_124
          have fm_129 : ∀ r9, some (S.v i) = some r9 → fc (iI ((S.v i).num.sign)) (Rr_115 0) (Rr_115 1) r9 := by rw [← e_125]; exact v_120
          have s3_130 := sg3 (S.v i).num
          have hd1 := dig_900 (fun e9 => (hW.v i hi_i).1 (Or.inl e9))
          have hd2 := dig_900 (fun e9 => (hW.v i hi_i).1 (Or.inr e9))
          refine gs (pc' := 52) (fun _ _ _ _ _ hl => lv_aload_n hx hb d_Mo_digit_51 rfl (lv_at hl 2 rfl)) ?_
          refine gs (pc' := 54) (fun _ _ _ _ _ hl => lv_iload hx hb d_Mo_digit_52 (lv_at hl 1 rfl)) ?_
          refine gsb (pc1 := 61) (pc2 := 57) (fun _ _ _ _ _ => lv_if_eq (tgt := 61) hx hb d_Mo_digit_54 (by decide)) (fun c_131 => ?_) (fun c_131 => ?_)
          · skip
            have nc_131 : 1 = 0 := (n0_eq (a := 1) (by omega)).1 c_131
            exact absurd nc_131 (by decide)
          · skip
            have nc_131 : 1 ≠ 0 := (n0_eq (a := 1) (by omega)).2 c_131
            refine gs (pc' := 58) (fun _ _ _ _ _ hl => lv_iconst (v := nI 2) hx hb d_Mo_digit_57 (by decide)) ?_
            refine gs (pc' := 76) (fun _ _ _ _ _ hl => lv_goto (tgt := 76) hx hb d_Mo_digit_58 (by decide)) ?_
            refine g_put (ty := .int) hx hb hts hin_Mo ty_Mo ty_Mo_ok nm_Mo hown hK f_128 rfl 0 (by decide) (hts _ wm754) (fun _ h9 => h9) rfl (by decide +kernel) rfl rfl (Nat.le_of_ble_eq_true rfl) d_Mo_digit_76 (fun G_132 f_133 o_134 => ?_)
            have f_135 : G_132 hm = some (70, .inr (9, [.int (nI 2), .int (nI S.n), .ref (A 2), .ref (A 3), .ref (A 4), .ref (A 5), .int (iI ((S.v i).num.sign)), .int sh_111, .ref (A 8), .ref (A 9), .int (nI S.rn), .ref (A 11), .ref (A 12), .ref (A 13), .int (nI S.wn), .ref (A 15), .ref (A 16), .ref (A 17), .ref (A 18), .int kt_112, .int kb_113, .int ks_114])) := f_133
            have f_136 : G_132 (A 18) = some (83, .inl (cA 0, 8600, .inl kf_116)) := (o_134 _ (gne v_119 f_128 (fun e => by cases e))).trans v_119
            have gf_137 : gfr mT G G_132 := gfr_put gf_75 f_128 (show mT 70 by decide) o_134
            have gf_138 : gfr (fun x => x = 70) _ G_132 := gfr_put gfr_rf f_128 rfl o_134
            have mr_139 : MR cA A Rr_115 G_132 := MR_fr v_118 gf_138 (show ¬ (75 : Nat) = 70 by decide) (show ¬ (76 : Nat) = 70 by decide)
            have mb_140 : MB cA A S G_132 := MB_fr v_123 gf_138 (fun x h9 => by omega)
            refine gs (pc' := 80) (fun _ _ _ _ _ hl => lv_aload_n hx hb d_Mo_digit_79 rfl (lv_at hl 2 rfl)) ?_
            refine g_get hx hb hts hin_Mo hown hK f_135 rfl 0 (by decide) (hts _ wm754) (fun _ h9 => h9) rfl d_Mo_digit_80 ?_
            refine gsb (pc1 := 88) (pc2 := 86) (fun _ _ _ _ _ => lv_if_le (tgt := 88) hx hb d_Mo_digit_83 (by decide)) (fun c_141 => ?_) (fun c_141 => ?_)
            · skip
              have nc_141 : 2 ≤ 0 := (n0_le (a := 2) (by omega)).1 c_141
              exact absurd nc_141 (by decide)
            · skip
              have nc_141 : 2 > 0 := (n0_le (a := 2) (by omega)).2 c_141
              refine gs (pc' := 87) (fun _ _ _ _ _ hl => lv_iconst (v := nI 0) hx hb d_Mo_digit_86 (by decide)) ?_
              have hV_142 : MW cA hm A S 2 none none none G_132 := ⟨(iI ((S.v i).num.sign)), sh_111, kt_112, kb_113, ks_114, Rr_115, _, f_135, mr_139, f_136, sn_, sn_, sn_, mb_140⟩
              rw [st_digit hn hi_i hy1 hy2 (by omega), if_pos hpo] at hret
              exact hret 87 _ _ _ _ d_Mo_digit_87 hB1 hB2 ⟨rfl, fun h9 => absurd (show (2 : Nat) = 0 from h9) (by decide), hV_142, gf_137⟩
      · skip
        have nc_52 : z < 0 := (ii_ge (a := z) (b := 0) (by omega) (by omega) (by omega) (by omega)).2 (by first | exact c_52 | (have z9 := c_52; simp only [nI_iI] at z9; exact z9))
        refine gs (pc' := 29) (fun _ _ _ _ _ hl => lv_aload_n hx hb d_Mo_digit_28 rfl (lv_at hl 1 rfl)) ?_
        refine gs (pc' := 30) (fun _ _ _ _ _ hl => lv_iconst (v := nI 1) hx hb d_Mo_digit_29 (by decide)) ?_
        obtain ⟨sg_143, sh_144, kt_145, kb_146, ks_147, Rr_148, kf_149, v_150, v_151, v_152, v_153, v_154, v_155, v_156⟩ := id hV_17
        have f_157 : G hm = some (70, .inr (9, [.int (nI th), .int (nI S.n), .ref (A 2), .ref (A 3), .ref (A 4), .ref (A 5), .int sg_143, .int sh_144, .ref (A 8), .ref (A 9), .int (nI S.rn), .ref (A 11), .ref (A 12), .ref (A 13), .int (nI S.wn), .ref (A 15), .ref (A 16), .ref (A 17), .ref (A 18), .int kt_145, .int kb_146, .int ks_147])) := v_150
        refine g_put (ty := .int) hx hb hts hin_Mo ty_Mo ty_Mo_ok nm_Mo hown hK f_157 rfl 0 (by decide) (hts _ wm754) (fun _ h9 => h9) rfl (by decide +kernel) rfl rfl (Nat.le_of_ble_eq_true rfl) d_Mo_digit_30 (fun G_158 f_159 o_160 => ?_)
        have f_161 : G_158 hm = some (70, .inr (9, [.int (nI 1), .int (nI S.n), .ref (A 2), .ref (A 3), .ref (A 4), .ref (A 5), .int sg_143, .int sh_144, .ref (A 8), .ref (A 9), .int (nI S.rn), .ref (A 11), .ref (A 12), .ref (A 13), .int (nI S.wn), .ref (A 15), .ref (A 16), .ref (A 17), .ref (A 18), .int kt_145, .int kb_146, .int ks_147])) := f_159
        have f_162 : G_158 (A 18) = some (83, .inl (cA 0, 8600, .inl kf_149)) := (o_160 _ (gne v_152 f_157 (fun e => by cases e))).trans v_152
        have gf_163 : gfr mT G G_158 := gfr_put gfr_rf f_157 (show mT 70 by decide) o_160
        have gf_164 : gfr (fun x => x = 70) _ G_158 := gfr_put gfr_rf f_157 rfl o_160
        have mr_165 : MR cA A Rr_148 G_158 := MR_fr v_151 gf_164 (show ¬ (75 : Nat) = 70 by decide) (show ¬ (76 : Nat) = 70 by decide)
        have mb_166 : MB cA A S G_158 := MB_fr v_156 gf_164 (fun x h9 => by omega)
        refine gs (pc' := 34) (fun _ _ _ _ _ hl => lv_iconst (v := nI 0) hx hb d_Mo_digit_33 (by decide)) ?_
        have hV_167 : MW cA hm A S 1 none none none G_158 := ⟨sg_143, sh_144, kt_145, kb_146, ks_147, Rr_148, _, f_161, mr_165, f_162, sn_, sn_, sn_, mb_166⟩
        rw [su_digit (fun q9 => by have q8 := q9.2; rw [iI_toInt hz1 hz2] at q8; omega)] at hret
        exact hret 34 _ _ _ _ d_Mo_digit_34 hB1 hB2 ⟨rfl, fun h9 => absurd (show (1 : Nat) = 0 from h9) (by decide), hV_167, gf_163⟩
  · skip
    have nc_1 : y ≥ 0 := (ii_lt (a := y) (b := 0) (by omega) (by omega) (by omega) (by omega)).2 (by first | exact c_1 | (have z9 := c_1; simp only [nI_iI] at z9; exact z9))
    refine gs (pc' := 5) (fun _ _ _ _ _ hl => lv_iload_n hx hb d_Mo_digit_4 rfl (lv_at hl 2 rfl)) ?_
    refine gs (pc' := 6) (fun _ _ _ _ _ hl => lv_iconst (v := nI 1) hx hb d_Mo_digit_5 (by decide)) ?_
    refine gsb (pc1 := 13) (pc2 := 9) (fun _ _ _ _ _ => lv_icmp_le (tgt := 13) hx hb d_Mo_digit_6 (by decide)) (fun c_168 => ?_) (fun c_168 => ?_)
    · skip
      have nc_168 : y ≤ ((1 : Nat) : Int) := (ii_le (a := y) (b := ((1 : Nat) : Int)) (by omega) (by omega) (by omega) (by omega)).1 (by first | exact c_168 | (have z9 := c_168; simp only [nI_iI] at z9; exact z9))
      have hpo : y = 0 ∨ y = 1 := by omega
      refine gs (pc' := 14) (fun _ _ _ _ _ hl => lv_iconst (v := nI 0) hx hb d_Mo_digit_13 (by decide)) ?_
      refine gst (pc' := 16) (L' := [(4, .int (nI 0)), (0, .ref hm), (1, .int (iI x)), (2, .int (iI y)), (3, .int (iI z))]) (fun _ _ _ _ _ hl => lv_istore hx hb d_Mo_digit_14 hl (by decide) rfl) ?_
      refine gs (pc' := 17) (fun _ _ _ _ _ hl => lv_aload_n hx hb d_Mo_digit_16 rfl (lv_at hl 1 rfl)) ?_
      refine gs (pc' := 18) (fun _ _ _ _ _ hl => lv_iload_n hx hb d_Mo_digit_17 rfl (lv_at hl 2 rfl)) ?_
      obtain ⟨sg_169, sh_170, kt_171, kb_172, ks_173, Rr_174, kf_175, v_176, v_177, v_178, v_179, v_180, v_181, v_182⟩ := id hV
      have f_183 : G hm = some (70, .inr (9, [.int (nI th), .int (nI S.n), .ref (A 2), .ref (A 3), .ref (A 4), .ref (A 5), .int sg_169, .int sh_170, .ref (A 8), .ref (A 9), .int (nI S.rn), .ref (A 11), .ref (A 12), .ref (A 13), .int (nI S.wn), .ref (A 15), .ref (A 16), .ref (A 17), .ref (A 18), .int kt_171, .int kb_172, .int ks_173])) := v_176
      have hV_184 : MW cA hm A S th qm qo qk G := ⟨sg_169, sh_170, kt_171, kb_172, ks_173, Rr_174, _, f_183, v_177, v_178, v_179, v_180, v_181, v_182⟩
      refine g_outi hlo (g_runV (As := [.int (iI x)]) (rest := []) ⟨hx, hb, hml, hown, hts⟩ hK hZ hRc hRs (c_Mo_isValue l D cA lo MC MS G B hm A S th qm qo qk hV_184 hW x (by omega) (by omega) hB1 hB2) (fun _ _ => cwV 1 hts (tb_good (tb_cons wm893 (tb_cons wm895 (tb_cons ws33 (tb_cons wm12 k_Mo_isValue))))) rfl rfl rfl (by decide +kernel) ⟨by rw [hRf]; exact Nat.le_of_ble_eq_true rfl, by rw [hRl]; exact Nat.le_of_ble_eq_true rfl⟩) f_183 rfl hB1 hB2 rfl (Nat.le_of_ble_eq_true rfl) d_Mo_digit_18) (fun r_188 G_185 B_186 p_187 => ?_)
      obtain ⟨u_189, e_190⟩ := p_187
      cases u_189
      subst e_190
      have bd_191 := b01_le (decide (0 ≤ x ∧ x < S.n))
      refine gsb (pc1 := 28) (pc2 := 24) (fun _ _ _ _ _ => lv_if_eq (tgt := 28) hx hb d_Mo_digit_21 (by decide)) (fun c_192 => ?_) (fun c_192 => ?_)
      · skip
        have nc_192 : (b01 (decide (0 ≤ x ∧ x < S.n))) = 0 := (n0_eq (a := (b01 (decide (0 ≤ x ∧ x < S.n)))) (by omega)).1 c_192
        have hb_x : ¬ (0 ≤ x ∧ x < S.n) := b01_0 nc_192
        refine gs (pc' := 29) (fun _ _ _ _ _ hl => lv_aload_n hx hb d_Mo_digit_28 rfl (lv_at hl 1 rfl)) ?_
        refine gs (pc' := 30) (fun _ _ _ _ _ hl => lv_iconst (v := nI 1) hx hb d_Mo_digit_29 (by decide)) ?_
        obtain ⟨sg_193, sh_194, kt_195, kb_196, ks_197, Rr_198, kf_199, v_200, v_201, v_202, v_203, v_204, v_205, v_206⟩ := id hV_184
        have f_207 : G hm = some (70, .inr (9, [.int (nI th), .int (nI S.n), .ref (A 2), .ref (A 3), .ref (A 4), .ref (A 5), .int sg_193, .int sh_194, .ref (A 8), .ref (A 9), .int (nI S.rn), .ref (A 11), .ref (A 12), .ref (A 13), .int (nI S.wn), .ref (A 15), .ref (A 16), .ref (A 17), .ref (A 18), .int kt_195, .int kb_196, .int ks_197])) := v_200
        refine g_put (ty := .int) hx hb hts hin_Mo ty_Mo ty_Mo_ok nm_Mo hown hK f_207 rfl 0 (by decide) (hts _ wm754) (fun _ h9 => h9) rfl (by decide +kernel) rfl rfl (Nat.le_of_ble_eq_true rfl) d_Mo_digit_30 (fun G_208 f_209 o_210 => ?_)
        have f_211 : G_208 hm = some (70, .inr (9, [.int (nI 1), .int (nI S.n), .ref (A 2), .ref (A 3), .ref (A 4), .ref (A 5), .int sg_193, .int sh_194, .ref (A 8), .ref (A 9), .int (nI S.rn), .ref (A 11), .ref (A 12), .ref (A 13), .int (nI S.wn), .ref (A 15), .ref (A 16), .ref (A 17), .ref (A 18), .int kt_195, .int kb_196, .int ks_197])) := f_209
        have f_212 : G_208 (A 18) = some (83, .inl (cA 0, 8600, .inl kf_199)) := (o_210 _ (gne v_202 f_207 (fun e => by cases e))).trans v_202
        have gf_213 : gfr mT G G_208 := gfr_put gfr_rf f_207 (show mT 70 by decide) o_210
        have gf_214 : gfr (fun x => x = 70) _ G_208 := gfr_put gfr_rf f_207 rfl o_210
        have mr_215 : MR cA A Rr_198 G_208 := MR_fr v_201 gf_214 (show ¬ (75 : Nat) = 70 by decide) (show ¬ (76 : Nat) = 70 by decide)
        have mb_216 : MB cA A S G_208 := MB_fr v_206 gf_214 (fun x h9 => by omega)
        refine gs (pc' := 34) (fun _ _ _ _ _ hl => lv_iconst (v := nI 0) hx hb d_Mo_digit_33 (by decide)) ?_
        have hV_217 : MW cA hm A S 1 none none none G_208 := ⟨sg_193, sh_194, kt_195, kb_196, ks_197, Rr_198, _, f_211, mr_215, f_212, sn_, sn_, sn_, mb_216⟩
        rw [su_digit (fun q9 => vn_ hx1 hx2 hb_x q9.1)] at hret
        exact hret 34 _ _ _ _ d_Mo_digit_34 hB1 hB2 ⟨rfl, fun h9 => absurd (show (1 : Nat) = 0 from h9) (by decide), hV_217, gf_213⟩
      · skip
        have nc_192 : (b01 (decide (0 ≤ x ∧ x < S.n))) ≠ 0 := (n0_eq (a := (b01 (decide (0 ≤ x ∧ x < S.n)))) (by omega)).2 c_192
        have hg_x : 0 ≤ x ∧ x < S.n := b01_1 nc_192
        have hg1_x := hg_x.1
        have hg2_x := hg_x.2
        obtain ⟨i, hxe_i⟩ : ∃ i : Nat, x = (i : Int) := ⟨x.toNat, by omega⟩
        subst hxe_i
        rw [← nI_iI i] at hret ⊢
        have hi_i : i < S.n := by omega
        have rbq_218 : rb (S.v i) 100 := rb_of (hW.v _ hi_i).1
        refine gs (pc' := 25) (fun _ _ _ _ _ hl => lv_iload_n hx hb d_Mo_digit_24 rfl (lv_at hl 4 rfl)) ?_
        refine gsb (pc1 := 35) (pc2 := 28) (fun _ _ _ _ _ => lv_if_ge (tgt := 35) hx hb d_Mo_digit_25 (by decide)) (fun c_219 => ?_) (fun c_219 => ?_)
        · skip
          have nc_219 : z ≥ 0 := (ii_ge (a := z) (b := 0) (by omega) (by omega) (by omega) (by omega)).1 (by first | exact c_219 | (have z9 := c_219; simp only [nI_iI] at z9; exact z9))
          obtain ⟨k, hxe_k⟩ : ∃ k : Nat, z = (k : Int) := ⟨z.toNat, by omega⟩
          subst hxe_k
          rw [← nI_iI k] at hret ⊢
          refine gs (pc' := 36) (fun _ _ _ _ _ hl => lv_aload_n hx hb d_Mo_digit_35 rfl (lv_at hl 1 rfl)) ?_
          refine gs (pc' := 37) (fun _ _ _ _ _ hl => lv_iload_n hx hb d_Mo_digit_36 rfl (lv_at hl 2 rfl)) ?_
          obtain ⟨sg_220, sh_221, kt_222, kb_223, ks_224, Rr_225, kf_226, v_227, v_228, v_229, v_230, v_231, v_232, v_233⟩ := id hV_184
          have f_234 : G hm = some (70, .inr (9, [.int (nI th), .int (nI S.n), .ref (A 2), .ref (A 3), .ref (A 4), .ref (A 5), .int sg_220, .int sh_221, .ref (A 8), .ref (A 9), .int (nI S.rn), .ref (A 11), .ref (A 12), .ref (A 13), .int (nI S.wn), .ref (A 15), .ref (A 16), .ref (A 17), .ref (A 18), .int kt_222, .int kb_223, .int ks_224])) := v_227
          have hV_235 : MW cA hm A S th qm qo qk G := ⟨sg_220, sh_221, kt_222, kb_223, ks_224, Rr_225, _, f_234, v_228, v_229, v_230, v_231, v_232, v_233⟩
          refine g_outv hlo (g_runV (As := [.int (nI i)]) (rest := []) ⟨hx, hb, hml, hown, hts⟩ hK hZ hRc hRs (c_Mo_load l D cA lo MC MS G B hm A S th qm qo qk hV_235 hW i (by omega) hB1 hB2) (fun _ _ => cwV 1 hts (tb_good (tb_cons wm897 (tb_cons wm899 (tb_cons ws34 (tb_cons wm12 k_Mo_load))))) rfl rfl rfl (by decide +kernel) ⟨by rw [hRf]; exact Nat.le_of_ble_eq_true rfl, by rw [hRl]; exact Nat.le_of_ble_eq_true rfl⟩) f_234 rfl hB1 hB2 rfl (Nat.le_of_ble_eq_true rfl) d_Mo_digit_37) (fun G_236 B_237 p_238 => ?_)
          obtain ⟨e_239, hV_240, gf_241⟩ := p_238
          have e_239b : B = B_237 := e_239.symm
          subst e_239b
          have gf_242 : gfr mT G G_236 := mT_mT gfr_rf gf_241
          refine gs (pc' := 41) (fun _ _ _ _ _ hl => lv_iload_n hx hb d_Mo_digit_40 rfl (lv_at hl 3 rfl)) ?_
          refine gsb (pc1 := 48) (pc2 := 44) (fun _ _ _ _ _ => lv_if_ne (tgt := 48) hx hb d_Mo_digit_41 (by decide)) (fun c_243 => ?_) (fun c_243 => ?_)
          · skip
            have nc_243 : y ≠ 0 := (ii_ne (a := y) (b := 0) (by omega) (by omega) (by omega) (by omega)).1 (by first | exact c_243 | (have z9 := c_243; simp only [nI_iI] at z9; exact z9))
            have hy9 : ¬ y = 0 := by omega
            have hpr : prt (S.v i) y = (S.v i).den := if_neg hy9
            refine gs (pc' := 49) (fun _ _ _ _ _ hl => lv_iconst (v := nI 1) hx hb d_Mo_digit_48 (by decide)) ?_
            refine gst (pc' := 51) (L' := [(5, .int (nI 1)), (4, .int (nI 0)), (0, .ref hm), (1, .int (nI i)), (2, .int (iI y)), (3, .int (nI k))]) (fun _ _ _ _ _ hl => lv_istore hx hb d_Mo_digit_49 hl (by decide) rfl) ?_
            obtain ⟨sg_244, sh_245, kt_246, kb_247, ks_248, Rr_249, kf_250, v_251, v_252, v_253, v_254, v_255, v_256, v_257⟩ := id hV_240
            have f_258 : G_236 hm = some (70, .inr (9, [.int (nI th), .int (nI S.n), .ref (A 2), .ref (A 3), .ref (A 4), .ref (A 5), .int sg_244, .int sh_245, .ref (A 8), .ref (A 9), .int (nI S.rn), .ref (A 11), .ref (A 12), .ref (A 13), .int (nI S.wn), .ref (A 15), .ref (A 16), .ref (A 17), .ref (A 18), .int kt_246, .int kb_247, .int ks_248])) := v_251
            obtain ⟨e_259, e_260, e_261⟩ := v_254 _ rfl
            have f_262 : G_236 hm = some (70, .inr (9, [.int (nI th), .int (nI S.n), .ref (A 2), .ref (A 3), .ref (A 4), .ref (A 5), .int (iI ((S.v i).num.sign)), .int sh_245, .ref (A 8), .ref (A 9), .int (nI S.rn), .ref (A 11), .ref (A 12), .ref (A 13), .int (nI S.wn), .ref (A 15), .ref (A 16), .ref (A 17), .ref (A 18), .int kt_246, .int kb_247, .int ks_248])) := by rw [← e_259]; exact f_258
            have fm_263 : ∀ r9, some (S.v i) = some r9 → fc (iI ((S.v i).num.sign)) (Rr_249 0) (Rr_249 1) r9 := by rw [← e_259]; exact v_254
            have s3_264 := sg3 (S.v i).num
            have hd1 := dig_900 (fun e9 => (hW.v i hi_i).1 (Or.inl e9))
            have hd2 := dig_900 (fun e9 => (hW.v i hi_i).1 (Or.inr e9))
            refine gs (pc' := 52) (fun _ _ _ _ _ hl => lv_aload_n hx hb d_Mo_digit_51 rfl (lv_at hl 2 rfl)) ?_
            refine gs (pc' := 54) (fun _ _ _ _ _ hl => lv_iload hx hb d_Mo_digit_52 (lv_at hl 1 rfl)) ?_
            refine gsb (pc1 := 61) (pc2 := 57) (fun _ _ _ _ _ => lv_if_eq (tgt := 61) hx hb d_Mo_digit_54 (by decide)) (fun c_265 => ?_) (fun c_265 => ?_)
            · skip
              have nc_265 : 0 = 0 := (n0_eq (a := 0) (by omega)).1 c_265
              refine gs (pc' := 62) (fun _ _ _ _ _ hl => lv_iload_n hx hb d_Mo_digit_61 rfl (lv_at hl 5 rfl)) ?_
              refine gs (pc' := 63) (fun _ _ _ _ _ hl => lv_aload_n hx hb d_Mo_digit_62 rfl (lv_at hl 2 rfl)) ?_
              refine gs (pc' := 65) (fun _ _ _ _ _ hl => lv_iload hx hb d_Mo_digit_63 (lv_at hl 0 rfl)) ?_
              refine g_outi hlo (g_runV (As := [.int (nI 1)]) (rest := [.int (nI k), .ref hm]) ⟨hx, hb, hml, hown, hts⟩ hK hZ hRc hRs (c_Mo_digits l D cA lo MC MS G_236 B hm A (mi (nI th) (nI S.n) (iI ((S.v i).num.sign)) sh_245 (nI S.rn) (nI S.wn) kt_246 kb_247 ks_248) f_262 Rr_249 v_252 1 (by decide) hB1 hB2) (fun _ _ => cwV 1 hts (tb_good (tb_cons wm885 (tb_cons wm887 (tb_cons ws32 (tb_cons wm12 k_Mo_digits))))) rfl rfl rfl (by decide +kernel) ⟨by rw [hRf]; exact Nat.le_of_ble_eq_true rfl, by rw [hRl]; exact Nat.le_of_ble_eq_true rfl⟩) f_262 rfl hB1 hB2 rfl (Nat.le_of_ble_eq_true rfl) d_Mo_digit_65) (fun r_269 G_266 B_267 p_268 => ?_)
              obtain ⟨u_270, e_271⟩ := p_268
              cases u_270
              rw [e_261] at e_271
              subst e_271
              have db_272 := dig_b2 (rbq_218.2) (show 100 ≤ 4280 by omega)
              refine gsb (pc1 := 75) (pc2 := 71) (fun _ _ _ _ _ => lv_icmp_lt (tgt := 75) hx hb d_Mo_digit_68 (by decide)) (fun c_273 => ?_) (fun c_273 => ?_)
              · skip
                have nc_273 : k < (ndig ((S.v i).den)) := (nn_lt (a := k) (b := (ndig ((S.v i).den))) (by omega) (by omega)).1 c_273
                refine gs (pc' := 76) (fun _ _ _ _ _ hl => lv_iconst (v := nI 0) hx hb d_Mo_digit_75 (by decide)) ?_
                refine g_put (ty := .int) hx hb hts hin_Mo ty_Mo ty_Mo_ok nm_Mo hown hK f_262 rfl 0 (by decide) (hts _ wm754) (fun _ h9 => h9) rfl (by decide +kernel) rfl rfl (Nat.le_of_ble_eq_true rfl) d_Mo_digit_76 (fun G_274 f_275 o_276 => ?_)
                have f_277 : G_274 hm = some (70, .inr (9, [.int (nI 0), .int (nI S.n), .ref (A 2), .ref (A 3), .ref (A 4), .ref (A 5), .int (iI ((S.v i).num.sign)), .int sh_245, .ref (A 8), .ref (A 9), .int (nI S.rn), .ref (A 11), .ref (A 12), .ref (A 13), .int (nI S.wn), .ref (A 15), .ref (A 16), .ref (A 17), .ref (A 18), .int kt_246, .int kb_247, .int ks_248])) := f_275
                have f_278 : G_274 (A 18) = some (83, .inl (cA 0, 8600, .inl kf_250)) := (o_276 _ (gne v_253 f_262 (fun e => by cases e))).trans v_253
                have gf_279 : gfr mT G G_274 := gfr_put gf_242 f_262 (show mT 70 by decide) o_276
                have gf_280 : gfr (fun x => x = 70) _ G_274 := gfr_put gfr_rf f_262 rfl o_276
                have mr_281 : MR cA A Rr_249 G_274 := MR_fr v_252 gf_280 (show ¬ (75 : Nat) = 70 by decide) (show ¬ (76 : Nat) = 70 by decide)
                have mb_282 : MB cA A S G_274 := MB_fr v_257 gf_280 (fun x h9 => by omega)
                refine gs (pc' := 80) (fun _ _ _ _ _ hl => lv_aload_n hx hb d_Mo_digit_79 rfl (lv_at hl 2 rfl)) ?_
                refine g_get hx hb hts hin_Mo hown hK f_277 rfl 0 (by decide) (hts _ wm754) (fun _ h9 => h9) rfl d_Mo_digit_80 ?_
                refine gsb (pc1 := 88) (pc2 := 86) (fun _ _ _ _ _ => lv_if_le (tgt := 88) hx hb d_Mo_digit_83 (by decide)) (fun c_283 => ?_) (fun c_283 => ?_)
                · skip
                  have nc_283 : 0 ≤ 0 := (n0_le (a := 0) (by omega)).1 c_283
                  refine gs (pc' := 89) (fun _ _ _ _ _ hl => lv_aload_n hx hb d_Mo_digit_88 rfl (lv_at hl 2 rfl)) ?_
                  refine gs (pc' := 91) (fun _ _ _ _ _ hl => lv_iload hx hb d_Mo_digit_89 (lv_at hl 0 rfl)) ?_
                  refine gs (pc' := 92) (fun _ _ _ _ _ hl => lv_iload_n hx hb d_Mo_digit_91 rfl (lv_at hl 5 rfl)) ?_
                  refine gs (pc' := 94) (fun _ _ _ _ _ hl => lv_bipush (v := nI 9) hx hb d_Mo_digit_92 (by decide)) ?_
                  refine gs (pc' := 95) (fun _ _ _ _ _ hl => lv_idiv hx hb d_Mo_digit_94 (by decide)) ?_
                  refine g_eqi (show (nI k) / (nI 9) = nI (k / 9) from pk_div (by omega) (by omega) (by omega)) ?_
                  obtain ⟨lm_284, sz_285, f_286, f_287, rg_288⟩ := id mr_281
                  obtain ⟨zz_289, hg_290, hz_291, hD_292⟩ := rg_288 1 (by decide)
                  refine g_outi hlo (g_runV (As := [.int (nI 1), .int (nI (k / 9))]) (rest := []) ⟨hx, hb, hml, hown, hts⟩ hK hZ hRc hRs (c_Mo_limb l D cA lo MC MS G_274 B hm A (mi (nI 0) (nI S.n) (iI ((S.v i).num.sign)) sh_245 (nI S.rn) (nI S.wn) kt_246 kb_247 ks_248) f_277 lm_284 sz_285 f_286 f_287 1 (by decide) zz_289 hg_290 hz_291 hD_292.1 (k / 9) (by omega) hB1 hB2) (fun _ _ => cwV 2 hts (tb_good (tb_cons wm921 (tb_cons wm923 (tb_cons ws40 (tb_cons wm12 k_Mo_limb))))) rfl rfl rfl (by decide +kernel) ⟨by rw [hRf]; exact Nat.le_of_ble_eq_true rfl, by rw [hRl]; exact Nat.le_of_ble_eq_true rfl⟩) f_277 rfl hB1 hB2 rfl (Nat.le_of_ble_eq_true rfl) d_Mo_digit_95) (fun r_296 G_293 B_294 p_295 => ?_)
                  obtain ⟨u_297, e_298⟩ := p_295
                  cases u_297
                  obtain ⟨Dx, hDx⟩ : ∃ y9, y9 = dx (sh lm_284 1) zz_289 (k / 9) := ⟨_, rfl⟩
                  rw [← hDx] at e_298
                  subst e_298
                  have hDb : Dx < 1000000000 := by rw [hDx]; exact dx_b hD_292.1
                  have hDe := dec_at (i := k) hD_292
                  rw [← hDx, e_261] at hDe
                  refine gst (pc' := 100) (L' := [(6, .int (nI Dx)), (5, .int (nI 1)), (4, .int (nI 0)), (0, .ref hm), (1, .int (nI i)), (2, .int (iI y)), (3, .int (nI k))]) (fun _ _ _ _ _ hl => lv_istore hx hb d_Mo_digit_98 hl (by decide) rfl) ?_
                  refine gs (pc' := 101) (fun _ _ _ _ _ hl => lv_iconst (v := nI 0) hx hb d_Mo_digit_100 (by decide)) ?_
                  refine gst (pc' := 103) (L' := [(7, .int (nI 0)), (6, .int (nI Dx)), (5, .int (nI 1)), (4, .int (nI 0)), (0, .ref hm), (1, .int (nI i)), (2, .int (iI y)), (3, .int (nI k))]) (fun _ _ _ _ _ hl => lv_istore hx hb d_Mo_digit_101 hl (by decide) rfl) ?_
                  have hV_299 : MW cA hm A S 0 none none none G_274 := ⟨(iI ((S.v i).num.sign)), sh_245, kt_246, kb_247, ks_248, Rr_249, _, f_277, mr_281, f_278, sn_, sn_, sn_, mb_282⟩
                  refine gsub [0, 1, 7, 4] rfl ?_
                  have loop : ∀ (q cc : Nat), cc + q = k % 9 → gV p l e R s m args below meth c D clS lo 8 Q 103 [(7, .int (nI cc)), (6, .int (nI (Dx / 10 ^ cc))), (3, .int (nI k)), (0, .ref hm)] [] G_274 B := by
                    intro q
                    induction q with
                    | zero =>
                      intro cc hq
                      have hdl : Dx / 10 ^ cc ≤ Dx := Nat.div_le_self _ _
                      refine gs (pc' := 105) (fun _ _ _ _ _ hl => lv_iload hx hb d_Mo_digit_103 (lv_at hl 0 rfl)) ?_
                      refine gs (pc' := 106) (fun _ _ _ _ _ hl => lv_iload_n hx hb d_Mo_digit_105 rfl (lv_at hl 2 rfl)) ?_
                      refine gs (pc' := 108) (fun _ _ _ _ _ hl => lv_bipush (v := nI 9) hx hb d_Mo_digit_106 (by decide)) ?_
                      refine gs (pc' := 109) (fun _ _ _ _ _ hl => lv_irem hx hb d_Mo_digit_108 (by decide)) ?_
                      refine g_eqi (show (nI k) - (nI k) / (nI 9) * (nI 9) = nI (k % 9) from pk_rem (by omega) (by omega) (by omega)) ?_
                      refine gsb (pc1 := 125) (pc2 := 112) (fun _ _ _ _ _ => lv_icmp_ge (tgt := 125) hx hb d_Mo_digit_109 (by decide)) (fun c_300 => ?_) (fun c_300 => ?_)
                      · skip
                        have nc_300 : cc ≥ (k % 9) := (nn_ge (a := cc) (b := (k % 9)) (by omega) (by omega)).1 c_300
                        refine gs (pc' := 127) (fun _ _ _ _ _ hl => lv_iload hx hb d_Mo_digit_125 (lv_at hl 1 rfl)) ?_
                        refine gs (pc' := 129) (fun _ _ _ _ _ hl => lv_bipush (v := nI 10) hx hb d_Mo_digit_127 (by decide)) ?_
                        refine gs (pc' := 130) (fun _ _ _ _ _ hl => lv_irem hx hb d_Mo_digit_129 (by decide)) ?_
                        refine g_eqi (show (nI (Dx / 10 ^ cc)) - (nI (Dx / 10 ^ cc)) / (nI 10) * (nI 10) = nI ((Dx / 10 ^ cc) % 10) from pk_rem (by omega) (by omega) (by omega)) ?_
                        have hc9 : cc = k % 9 := by omega
                        subst hc9
                        rw [st_digit hn hi_i hy1 hy2 (by omega), if_neg (Decidable.not_not.mpr hpo), if_neg (by rw [hpr]; omega), hpr] at hret
                        exact hret 130 _ _ _ _ d_Mo_digit_130 hB1 hB2 ⟨rfl, fun _ => by rw [hDe]; exact nI_iI _, hV_299, gf_279⟩
                      · skip
                        have nc_300 : cc < (k % 9) := (nn_ge (a := cc) (b := (k % 9)) (by omega) (by omega)).2 c_300
                        exact absurd nc_300 (by omega)
                    | succ q ih =>
                      intro cc hq
                      have hdl : Dx / 10 ^ cc ≤ Dx := Nat.div_le_self _ _
                      refine gs (pc' := 105) (fun _ _ _ _ _ hl => lv_iload hx hb d_Mo_digit_103 (lv_at hl 0 rfl)) ?_
                      refine gs (pc' := 106) (fun _ _ _ _ _ hl => lv_iload_n hx hb d_Mo_digit_105 rfl (lv_at hl 2 rfl)) ?_
                      refine gs (pc' := 108) (fun _ _ _ _ _ hl => lv_bipush (v := nI 9) hx hb d_Mo_digit_106 (by decide)) ?_
                      refine gs (pc' := 109) (fun _ _ _ _ _ hl => lv_irem hx hb d_Mo_digit_108 (by decide)) ?_
                      refine g_eqi (show (nI k) - (nI k) / (nI 9) * (nI 9) = nI (k % 9) from pk_rem (by omega) (by omega) (by omega)) ?_
                      refine gsb (pc1 := 125) (pc2 := 112) (fun _ _ _ _ _ => lv_icmp_ge (tgt := 125) hx hb d_Mo_digit_109 (by decide)) (fun c_301 => ?_) (fun c_301 => ?_)
                      · skip
                        have nc_301 : cc ≥ (k % 9) := (nn_ge (a := cc) (b := (k % 9)) (by omega) (by omega)).1 c_301
                        exact absurd nc_301 (by omega)
                      · skip
                        have nc_301 : cc < (k % 9) := (nn_ge (a := cc) (b := (k % 9)) (by omega) (by omega)).2 c_301
                        refine gs (pc' := 114) (fun _ _ _ _ _ hl => lv_iload hx hb d_Mo_digit_112 (lv_at hl 1 rfl)) ?_
                        refine gs (pc' := 116) (fun _ _ _ _ _ hl => lv_bipush (v := nI 10) hx hb d_Mo_digit_114 (by decide)) ?_
                        refine gs (pc' := 117) (fun _ _ _ _ _ hl => lv_idiv hx hb d_Mo_digit_116 (by decide)) ?_
                        refine g_eqi (show (nI (Dx / 10 ^ cc)) / (nI 10) = nI ((Dx / 10 ^ cc) / 10) from pk_div (by omega) (by omega) (by omega)) ?_
                        refine g_eqi (show nI ((Dx / 10 ^ cc) / 10) = nI (Dx / 10 ^ (cc + 1)) from by rw [Nat.pow_succ, Nat.div_div_eq_div_mul]) ?_
                        refine gst (pc' := 119) (L' := [(6, .int (nI (Dx / 10 ^ (cc + 1)))), (7, .int (nI cc)), (3, .int (nI k)), (0, .ref hm)]) (fun _ _ _ _ _ hl => lv_istore hx hb d_Mo_digit_117 hl (by decide) rfl) ?_
                        refine gst (pc' := 122) (L' := [(7, .int (nI (cc + 1))), (6, .int (nI (Dx / 10 ^ (cc + 1)))), (3, .int (nI k)), (0, .ref hm)]) (fun _ _ _ _ _ hl => lv_iinc (v := nI (cc + 1)) hx hb d_Mo_digit_119 hl (k := 1) rfl (nI_add _ 1) (by decide) rfl) ?_
                        refine gs (pc' := 103) (fun _ _ _ _ _ hl => lv_goto (tgt := 103) hx hb d_Mo_digit_122 (by decide)) ?_
                        refine gsub [0, 1, 2, 3] rfl ?_
                        exact ih (cc + 1) (by omega)
                  have lp := loop (k % 9) 0 (by omega)
                  rw [Nat.pow_zero, Nat.div_one] at lp
                  exact lp
                · skip
                  have nc_283 : 0 > 0 := (n0_le (a := 0) (by omega)).2 c_283
                  exact absurd nc_283 (by decide)
              · skip
                have nc_273 : k ≥ (ndig ((S.v i).den)) := (nn_lt (a := k) (b := (ndig ((S.v i).den))) (by omega) (by omega)).2 c_273
                refine gs (pc' := 72) (fun _ _ _ _ _ hl => lv_iconst (v := nI 1) hx hb d_Mo_digit_71 (by decide)) ?_
                refine gs (pc' := 76) (fun _ _ _ _ _ hl => lv_goto (tgt := 76) hx hb d_Mo_digit_72 (by decide)) ?_
                refine g_put (ty := .int) hx hb hts hin_Mo ty_Mo ty_Mo_ok nm_Mo hown hK f_262 rfl 0 (by decide) (hts _ wm754) (fun _ h9 => h9) rfl (by decide +kernel) rfl rfl (Nat.le_of_ble_eq_true rfl) d_Mo_digit_76 (fun G_302 f_303 o_304 => ?_)
                have f_305 : G_302 hm = some (70, .inr (9, [.int (nI 1), .int (nI S.n), .ref (A 2), .ref (A 3), .ref (A 4), .ref (A 5), .int (iI ((S.v i).num.sign)), .int sh_245, .ref (A 8), .ref (A 9), .int (nI S.rn), .ref (A 11), .ref (A 12), .ref (A 13), .int (nI S.wn), .ref (A 15), .ref (A 16), .ref (A 17), .ref (A 18), .int kt_246, .int kb_247, .int ks_248])) := f_303
                have f_306 : G_302 (A 18) = some (83, .inl (cA 0, 8600, .inl kf_250)) := (o_304 _ (gne v_253 f_262 (fun e => by cases e))).trans v_253
                have gf_307 : gfr mT G G_302 := gfr_put gf_242 f_262 (show mT 70 by decide) o_304
                have gf_308 : gfr (fun x => x = 70) _ G_302 := gfr_put gfr_rf f_262 rfl o_304
                have mr_309 : MR cA A Rr_249 G_302 := MR_fr v_252 gf_308 (show ¬ (75 : Nat) = 70 by decide) (show ¬ (76 : Nat) = 70 by decide)
                have mb_310 : MB cA A S G_302 := MB_fr v_257 gf_308 (fun x h9 => by omega)
                refine gs (pc' := 80) (fun _ _ _ _ _ hl => lv_aload_n hx hb d_Mo_digit_79 rfl (lv_at hl 2 rfl)) ?_
                refine g_get hx hb hts hin_Mo hown hK f_305 rfl 0 (by decide) (hts _ wm754) (fun _ h9 => h9) rfl d_Mo_digit_80 ?_
                refine gsb (pc1 := 88) (pc2 := 86) (fun _ _ _ _ _ => lv_if_le (tgt := 88) hx hb d_Mo_digit_83 (by decide)) (fun c_311 => ?_) (fun c_311 => ?_)
                · skip
                  have nc_311 : 1 ≤ 0 := (n0_le (a := 1) (by omega)).1 c_311
                  exact absurd nc_311 (by decide)
                · skip
                  have nc_311 : 1 > 0 := (n0_le (a := 1) (by omega)).2 c_311
                  refine gs (pc' := 87) (fun _ _ _ _ _ hl => lv_iconst (v := nI 0) hx hb d_Mo_digit_86 (by decide)) ?_
                  have hV_312 : MW cA hm A S 1 none none none G_302 := ⟨(iI ((S.v i).num.sign)), sh_245, kt_246, kb_247, ks_248, Rr_249, _, f_305, mr_309, f_306, sn_, sn_, sn_, mb_310⟩
                  rw [st_digit hn hi_i hy1 hy2 (by omega), if_neg (Decidable.not_not.mpr hpo), if_pos (by rw [hpr]; omega)] at hret
                  exact hret 87 _ _ _ _ d_Mo_digit_87 hB1 hB2 ⟨rfl, fun h9 => absurd (show (1 : Nat) = 0 from h9) (by decide), hV_312, gf_307⟩
            · skip
              have nc_265 : 0 ≠ 0 := (n0_eq (a := 0) (by omega)).2 c_265
              exact absurd nc_265 (by decide)
          · skip
            have nc_243 : y = 0 := (ii_ne (a := y) (b := 0) (by omega) (by omega) (by omega) (by omega)).2 (by first | exact c_243 | (have z9 := c_243; simp only [nI_iI] at z9; exact z9))
            have hpr : prt (S.v i) y = (S.v i).num.natAbs := if_pos (by omega)
            refine gs (pc' := 45) (fun _ _ _ _ _ hl => lv_iconst (v := nI 0) hx hb d_Mo_digit_44 (by decide)) ?_
            refine gs (pc' := 49) (fun _ _ _ _ _ hl => lv_goto (tgt := 49) hx hb d_Mo_digit_45 (by decide)) ?_
            refine gst (pc' := 51) (L' := [(5, .int (nI 0)), (4, .int (nI 0)), (0, .ref hm), (1, .int (nI i)), (2, .int (iI y)), (3, .int (nI k))]) (fun _ _ _ _ _ hl => lv_istore hx hb d_Mo_digit_49 hl (by decide) rfl) ?_
            obtain ⟨sg_313, sh_314, kt_315, kb_316, ks_317, Rr_318, kf_319, v_320, v_321, v_322, v_323, v_324, v_325, v_326⟩ := id hV_240
            have f_327 : G_236 hm = some (70, .inr (9, [.int (nI th), .int (nI S.n), .ref (A 2), .ref (A 3), .ref (A 4), .ref (A 5), .int sg_313, .int sh_314, .ref (A 8), .ref (A 9), .int (nI S.rn), .ref (A 11), .ref (A 12), .ref (A 13), .int (nI S.wn), .ref (A 15), .ref (A 16), .ref (A 17), .ref (A 18), .int kt_315, .int kb_316, .int ks_317])) := v_320
            obtain ⟨e_328, e_329, e_330⟩ := v_323 _ rfl
            have f_331 : G_236 hm = some (70, .inr (9, [.int (nI th), .int (nI S.n), .ref (A 2), .ref (A 3), .ref (A 4), .ref (A 5), .int (iI ((S.v i).num.sign)), .int sh_314, .ref (A 8), .ref (A 9), .int (nI S.rn), .ref (A 11), .ref (A 12), .ref (A 13), .int (nI S.wn), .ref (A 15), .ref (A 16), .ref (A 17), .ref (A 18), .int kt_315, .int kb_316, .int ks_317])) := by rw [← e_328]; exact f_327
            have fm_332 : ∀ r9, some (S.v i) = some r9 → fc (iI ((S.v i).num.sign)) (Rr_318 0) (Rr_318 1) r9 := by rw [← e_328]; exact v_323
            have s3_333 := sg3 (S.v i).num
            have hd1 := dig_900 (fun e9 => (hW.v i hi_i).1 (Or.inl e9))
            have hd2 := dig_900 (fun e9 => (hW.v i hi_i).1 (Or.inr e9))
            refine gs (pc' := 52) (fun _ _ _ _ _ hl => lv_aload_n hx hb d_Mo_digit_51 rfl (lv_at hl 2 rfl)) ?_
            refine gs (pc' := 54) (fun _ _ _ _ _ hl => lv_iload hx hb d_Mo_digit_52 (lv_at hl 1 rfl)) ?_
            refine gsb (pc1 := 61) (pc2 := 57) (fun _ _ _ _ _ => lv_if_eq (tgt := 61) hx hb d_Mo_digit_54 (by decide)) (fun c_334 => ?_) (fun c_334 => ?_)
            · skip
              have nc_334 : 0 = 0 := (n0_eq (a := 0) (by omega)).1 c_334
              refine gs (pc' := 62) (fun _ _ _ _ _ hl => lv_iload_n hx hb d_Mo_digit_61 rfl (lv_at hl 5 rfl)) ?_
              refine gs (pc' := 63) (fun _ _ _ _ _ hl => lv_aload_n hx hb d_Mo_digit_62 rfl (lv_at hl 2 rfl)) ?_
              refine gs (pc' := 65) (fun _ _ _ _ _ hl => lv_iload hx hb d_Mo_digit_63 (lv_at hl 0 rfl)) ?_
              refine g_outi hlo (g_runV (As := [.int (nI 0)]) (rest := [.int (nI k), .ref hm]) ⟨hx, hb, hml, hown, hts⟩ hK hZ hRc hRs (c_Mo_digits l D cA lo MC MS G_236 B hm A (mi (nI th) (nI S.n) (iI ((S.v i).num.sign)) sh_314 (nI S.rn) (nI S.wn) kt_315 kb_316 ks_317) f_331 Rr_318 v_321 0 (by decide) hB1 hB2) (fun _ _ => cwV 1 hts (tb_good (tb_cons wm885 (tb_cons wm887 (tb_cons ws32 (tb_cons wm12 k_Mo_digits))))) rfl rfl rfl (by decide +kernel) ⟨by rw [hRf]; exact Nat.le_of_ble_eq_true rfl, by rw [hRl]; exact Nat.le_of_ble_eq_true rfl⟩) f_331 rfl hB1 hB2 rfl (Nat.le_of_ble_eq_true rfl) d_Mo_digit_65) (fun r_338 G_335 B_336 p_337 => ?_)
              obtain ⟨u_339, e_340⟩ := p_337
              cases u_339
              rw [e_329] at e_340
              subst e_340
              have db_341 := dig_b2 (rbq_218.1) (show 100 ≤ 4280 by omega)
              refine gsb (pc1 := 75) (pc2 := 71) (fun _ _ _ _ _ => lv_icmp_lt (tgt := 75) hx hb d_Mo_digit_68 (by decide)) (fun c_342 => ?_) (fun c_342 => ?_)
              · skip
                have nc_342 : k < (ndig ((S.v i).num.natAbs)) := (nn_lt (a := k) (b := (ndig ((S.v i).num.natAbs))) (by omega) (by omega)).1 c_342
                refine gs (pc' := 76) (fun _ _ _ _ _ hl => lv_iconst (v := nI 0) hx hb d_Mo_digit_75 (by decide)) ?_
                refine g_put (ty := .int) hx hb hts hin_Mo ty_Mo ty_Mo_ok nm_Mo hown hK f_331 rfl 0 (by decide) (hts _ wm754) (fun _ h9 => h9) rfl (by decide +kernel) rfl rfl (Nat.le_of_ble_eq_true rfl) d_Mo_digit_76 (fun G_343 f_344 o_345 => ?_)
                have f_346 : G_343 hm = some (70, .inr (9, [.int (nI 0), .int (nI S.n), .ref (A 2), .ref (A 3), .ref (A 4), .ref (A 5), .int (iI ((S.v i).num.sign)), .int sh_314, .ref (A 8), .ref (A 9), .int (nI S.rn), .ref (A 11), .ref (A 12), .ref (A 13), .int (nI S.wn), .ref (A 15), .ref (A 16), .ref (A 17), .ref (A 18), .int kt_315, .int kb_316, .int ks_317])) := f_344
                have f_347 : G_343 (A 18) = some (83, .inl (cA 0, 8600, .inl kf_319)) := (o_345 _ (gne v_322 f_331 (fun e => by cases e))).trans v_322
                have gf_348 : gfr mT G G_343 := gfr_put gf_242 f_331 (show mT 70 by decide) o_345
                have gf_349 : gfr (fun x => x = 70) _ G_343 := gfr_put gfr_rf f_331 rfl o_345
                have mr_350 : MR cA A Rr_318 G_343 := MR_fr v_321 gf_349 (show ¬ (75 : Nat) = 70 by decide) (show ¬ (76 : Nat) = 70 by decide)
                have mb_351 : MB cA A S G_343 := MB_fr v_326 gf_349 (fun x h9 => by omega)
                refine gs (pc' := 80) (fun _ _ _ _ _ hl => lv_aload_n hx hb d_Mo_digit_79 rfl (lv_at hl 2 rfl)) ?_
                refine g_get hx hb hts hin_Mo hown hK f_346 rfl 0 (by decide) (hts _ wm754) (fun _ h9 => h9) rfl d_Mo_digit_80 ?_
                refine gsb (pc1 := 88) (pc2 := 86) (fun _ _ _ _ _ => lv_if_le (tgt := 88) hx hb d_Mo_digit_83 (by decide)) (fun c_352 => ?_) (fun c_352 => ?_)
                · skip
                  have nc_352 : 0 ≤ 0 := (n0_le (a := 0) (by omega)).1 c_352
                  refine gs (pc' := 89) (fun _ _ _ _ _ hl => lv_aload_n hx hb d_Mo_digit_88 rfl (lv_at hl 2 rfl)) ?_
                  refine gs (pc' := 91) (fun _ _ _ _ _ hl => lv_iload hx hb d_Mo_digit_89 (lv_at hl 0 rfl)) ?_
                  refine gs (pc' := 92) (fun _ _ _ _ _ hl => lv_iload_n hx hb d_Mo_digit_91 rfl (lv_at hl 5 rfl)) ?_
                  refine gs (pc' := 94) (fun _ _ _ _ _ hl => lv_bipush (v := nI 9) hx hb d_Mo_digit_92 (by decide)) ?_
                  refine gs (pc' := 95) (fun _ _ _ _ _ hl => lv_idiv hx hb d_Mo_digit_94 (by decide)) ?_
                  refine g_eqi (show (nI k) / (nI 9) = nI (k / 9) from pk_div (by omega) (by omega) (by omega)) ?_
                  obtain ⟨lm_353, sz_354, f_355, f_356, rg_357⟩ := id mr_350
                  obtain ⟨zz_358, hg_359, hz_360, hD_361⟩ := rg_357 0 (by decide)
                  refine g_outi hlo (g_runV (As := [.int (nI 0), .int (nI (k / 9))]) (rest := []) ⟨hx, hb, hml, hown, hts⟩ hK hZ hRc hRs (c_Mo_limb l D cA lo MC MS G_343 B hm A (mi (nI 0) (nI S.n) (iI ((S.v i).num.sign)) sh_314 (nI S.rn) (nI S.wn) kt_315 kb_316 ks_317) f_346 lm_353 sz_354 f_355 f_356 0 (by decide) zz_358 hg_359 hz_360 hD_361.1 (k / 9) (by omega) hB1 hB2) (fun _ _ => cwV 2 hts (tb_good (tb_cons wm921 (tb_cons wm923 (tb_cons ws40 (tb_cons wm12 k_Mo_limb))))) rfl rfl rfl (by decide +kernel) ⟨by rw [hRf]; exact Nat.le_of_ble_eq_true rfl, by rw [hRl]; exact Nat.le_of_ble_eq_true rfl⟩) f_346 rfl hB1 hB2 rfl (Nat.le_of_ble_eq_true rfl) d_Mo_digit_95) (fun r_365 G_362 B_363 p_364 => ?_)
                  obtain ⟨u_366, e_367⟩ := p_364
                  cases u_366
                  obtain ⟨Dx, hDx⟩ : ∃ y9, y9 = dx (sh lm_353 0) zz_358 (k / 9) := ⟨_, rfl⟩
                  rw [← hDx] at e_367
                  subst e_367
                  have hDb : Dx < 1000000000 := by rw [hDx]; exact dx_b hD_361.1
                  have hDe := dec_at (i := k) hD_361
                  rw [← hDx, e_329] at hDe
                  refine gst (pc' := 100) (L' := [(6, .int (nI Dx)), (5, .int (nI 0)), (4, .int (nI 0)), (0, .ref hm), (1, .int (nI i)), (2, .int (iI y)), (3, .int (nI k))]) (fun _ _ _ _ _ hl => lv_istore hx hb d_Mo_digit_98 hl (by decide) rfl) ?_
                  refine gs (pc' := 101) (fun _ _ _ _ _ hl => lv_iconst (v := nI 0) hx hb d_Mo_digit_100 (by decide)) ?_
                  refine gst (pc' := 103) (L' := [(7, .int (nI 0)), (6, .int (nI Dx)), (5, .int (nI 0)), (4, .int (nI 0)), (0, .ref hm), (1, .int (nI i)), (2, .int (iI y)), (3, .int (nI k))]) (fun _ _ _ _ _ hl => lv_istore hx hb d_Mo_digit_101 hl (by decide) rfl) ?_
                  have hV_368 : MW cA hm A S 0 none none none G_343 := ⟨(iI ((S.v i).num.sign)), sh_314, kt_315, kb_316, ks_317, Rr_318, _, f_346, mr_350, f_347, sn_, sn_, sn_, mb_351⟩
                  refine gsub [0, 1, 7, 4] rfl ?_
                  have loop : ∀ (q cc : Nat), cc + q = k % 9 → gV p l e R s m args below meth c D clS lo 8 Q 103 [(7, .int (nI cc)), (6, .int (nI (Dx / 10 ^ cc))), (3, .int (nI k)), (0, .ref hm)] [] G_343 B := by
                    intro q
                    induction q with
                    | zero =>
                      intro cc hq
                      have hdl : Dx / 10 ^ cc ≤ Dx := Nat.div_le_self _ _
                      refine gs (pc' := 105) (fun _ _ _ _ _ hl => lv_iload hx hb d_Mo_digit_103 (lv_at hl 0 rfl)) ?_
                      refine gs (pc' := 106) (fun _ _ _ _ _ hl => lv_iload_n hx hb d_Mo_digit_105 rfl (lv_at hl 2 rfl)) ?_
                      refine gs (pc' := 108) (fun _ _ _ _ _ hl => lv_bipush (v := nI 9) hx hb d_Mo_digit_106 (by decide)) ?_
                      refine gs (pc' := 109) (fun _ _ _ _ _ hl => lv_irem hx hb d_Mo_digit_108 (by decide)) ?_
                      refine g_eqi (show (nI k) - (nI k) / (nI 9) * (nI 9) = nI (k % 9) from pk_rem (by omega) (by omega) (by omega)) ?_
                      refine gsb (pc1 := 125) (pc2 := 112) (fun _ _ _ _ _ => lv_icmp_ge (tgt := 125) hx hb d_Mo_digit_109 (by decide)) (fun c_369 => ?_) (fun c_369 => ?_)
                      · skip
                        have nc_369 : cc ≥ (k % 9) := (nn_ge (a := cc) (b := (k % 9)) (by omega) (by omega)).1 c_369
                        refine gs (pc' := 127) (fun _ _ _ _ _ hl => lv_iload hx hb d_Mo_digit_125 (lv_at hl 1 rfl)) ?_
                        refine gs (pc' := 129) (fun _ _ _ _ _ hl => lv_bipush (v := nI 10) hx hb d_Mo_digit_127 (by decide)) ?_
                        refine gs (pc' := 130) (fun _ _ _ _ _ hl => lv_irem hx hb d_Mo_digit_129 (by decide)) ?_
                        refine g_eqi (show (nI (Dx / 10 ^ cc)) - (nI (Dx / 10 ^ cc)) / (nI 10) * (nI 10) = nI ((Dx / 10 ^ cc) % 10) from pk_rem (by omega) (by omega) (by omega)) ?_
                        have hc9 : cc = k % 9 := by omega
                        subst hc9
                        rw [st_digit hn hi_i hy1 hy2 (by omega), if_neg (Decidable.not_not.mpr hpo), if_neg (by rw [hpr]; omega), hpr] at hret
                        exact hret 130 _ _ _ _ d_Mo_digit_130 hB1 hB2 ⟨rfl, fun _ => by rw [hDe]; exact nI_iI _, hV_368, gf_348⟩
                      · skip
                        have nc_369 : cc < (k % 9) := (nn_ge (a := cc) (b := (k % 9)) (by omega) (by omega)).2 c_369
                        exact absurd nc_369 (by omega)
                    | succ q ih =>
                      intro cc hq
                      have hdl : Dx / 10 ^ cc ≤ Dx := Nat.div_le_self _ _
                      refine gs (pc' := 105) (fun _ _ _ _ _ hl => lv_iload hx hb d_Mo_digit_103 (lv_at hl 0 rfl)) ?_
                      refine gs (pc' := 106) (fun _ _ _ _ _ hl => lv_iload_n hx hb d_Mo_digit_105 rfl (lv_at hl 2 rfl)) ?_
                      refine gs (pc' := 108) (fun _ _ _ _ _ hl => lv_bipush (v := nI 9) hx hb d_Mo_digit_106 (by decide)) ?_
                      refine gs (pc' := 109) (fun _ _ _ _ _ hl => lv_irem hx hb d_Mo_digit_108 (by decide)) ?_
                      refine g_eqi (show (nI k) - (nI k) / (nI 9) * (nI 9) = nI (k % 9) from pk_rem (by omega) (by omega) (by omega)) ?_
                      refine gsb (pc1 := 125) (pc2 := 112) (fun _ _ _ _ _ => lv_icmp_ge (tgt := 125) hx hb d_Mo_digit_109 (by decide)) (fun c_370 => ?_) (fun c_370 => ?_)
                      · skip
                        have nc_370 : cc ≥ (k % 9) := (nn_ge (a := cc) (b := (k % 9)) (by omega) (by omega)).1 c_370
                        exact absurd nc_370 (by omega)
                      · skip
                        have nc_370 : cc < (k % 9) := (nn_ge (a := cc) (b := (k % 9)) (by omega) (by omega)).2 c_370
                        refine gs (pc' := 114) (fun _ _ _ _ _ hl => lv_iload hx hb d_Mo_digit_112 (lv_at hl 1 rfl)) ?_
                        refine gs (pc' := 116) (fun _ _ _ _ _ hl => lv_bipush (v := nI 10) hx hb d_Mo_digit_114 (by decide)) ?_
                        refine gs (pc' := 117) (fun _ _ _ _ _ hl => lv_idiv hx hb d_Mo_digit_116 (by decide)) ?_
                        refine g_eqi (show (nI (Dx / 10 ^ cc)) / (nI 10) = nI ((Dx / 10 ^ cc) / 10) from pk_div (by omega) (by omega) (by omega)) ?_
                        refine g_eqi (show nI ((Dx / 10 ^ cc) / 10) = nI (Dx / 10 ^ (cc + 1)) from by rw [Nat.pow_succ, Nat.div_div_eq_div_mul]) ?_
                        refine gst (pc' := 119) (L' := [(6, .int (nI (Dx / 10 ^ (cc + 1)))), (7, .int (nI cc)), (3, .int (nI k)), (0, .ref hm)]) (fun _ _ _ _ _ hl => lv_istore hx hb d_Mo_digit_117 hl (by decide) rfl) ?_
                        refine gst (pc' := 122) (L' := [(7, .int (nI (cc + 1))), (6, .int (nI (Dx / 10 ^ (cc + 1)))), (3, .int (nI k)), (0, .ref hm)]) (fun _ _ _ _ _ hl => lv_iinc (v := nI (cc + 1)) hx hb d_Mo_digit_119 hl (k := 1) rfl (nI_add _ 1) (by decide) rfl) ?_
                        refine gs (pc' := 103) (fun _ _ _ _ _ hl => lv_goto (tgt := 103) hx hb d_Mo_digit_122 (by decide)) ?_
                        refine gsub [0, 1, 2, 3] rfl ?_
                        exact ih (cc + 1) (by omega)
                  have lp := loop (k % 9) 0 (by omega)
                  rw [Nat.pow_zero, Nat.div_one] at lp
                  exact lp
                · skip
                  have nc_352 : 0 > 0 := (n0_le (a := 0) (by omega)).2 c_352
                  exact absurd nc_352 (by decide)
              · skip
                have nc_342 : k ≥ (ndig ((S.v i).num.natAbs)) := (nn_lt (a := k) (b := (ndig ((S.v i).num.natAbs))) (by omega) (by omega)).2 c_342
                refine gs (pc' := 72) (fun _ _ _ _ _ hl => lv_iconst (v := nI 1) hx hb d_Mo_digit_71 (by decide)) ?_
                refine gs (pc' := 76) (fun _ _ _ _ _ hl => lv_goto (tgt := 76) hx hb d_Mo_digit_72 (by decide)) ?_
                refine g_put (ty := .int) hx hb hts hin_Mo ty_Mo ty_Mo_ok nm_Mo hown hK f_331 rfl 0 (by decide) (hts _ wm754) (fun _ h9 => h9) rfl (by decide +kernel) rfl rfl (Nat.le_of_ble_eq_true rfl) d_Mo_digit_76 (fun G_371 f_372 o_373 => ?_)
                have f_374 : G_371 hm = some (70, .inr (9, [.int (nI 1), .int (nI S.n), .ref (A 2), .ref (A 3), .ref (A 4), .ref (A 5), .int (iI ((S.v i).num.sign)), .int sh_314, .ref (A 8), .ref (A 9), .int (nI S.rn), .ref (A 11), .ref (A 12), .ref (A 13), .int (nI S.wn), .ref (A 15), .ref (A 16), .ref (A 17), .ref (A 18), .int kt_315, .int kb_316, .int ks_317])) := f_372
                have f_375 : G_371 (A 18) = some (83, .inl (cA 0, 8600, .inl kf_319)) := (o_373 _ (gne v_322 f_331 (fun e => by cases e))).trans v_322
                have gf_376 : gfr mT G G_371 := gfr_put gf_242 f_331 (show mT 70 by decide) o_373
                have gf_377 : gfr (fun x => x = 70) _ G_371 := gfr_put gfr_rf f_331 rfl o_373
                have mr_378 : MR cA A Rr_318 G_371 := MR_fr v_321 gf_377 (show ¬ (75 : Nat) = 70 by decide) (show ¬ (76 : Nat) = 70 by decide)
                have mb_379 : MB cA A S G_371 := MB_fr v_326 gf_377 (fun x h9 => by omega)
                refine gs (pc' := 80) (fun _ _ _ _ _ hl => lv_aload_n hx hb d_Mo_digit_79 rfl (lv_at hl 2 rfl)) ?_
                refine g_get hx hb hts hin_Mo hown hK f_374 rfl 0 (by decide) (hts _ wm754) (fun _ h9 => h9) rfl d_Mo_digit_80 ?_
                refine gsb (pc1 := 88) (pc2 := 86) (fun _ _ _ _ _ => lv_if_le (tgt := 88) hx hb d_Mo_digit_83 (by decide)) (fun c_380 => ?_) (fun c_380 => ?_)
                · skip
                  have nc_380 : 1 ≤ 0 := (n0_le (a := 1) (by omega)).1 c_380
                  exact absurd nc_380 (by decide)
                · skip
                  have nc_380 : 1 > 0 := (n0_le (a := 1) (by omega)).2 c_380
                  refine gs (pc' := 87) (fun _ _ _ _ _ hl => lv_iconst (v := nI 0) hx hb d_Mo_digit_86 (by decide)) ?_
                  have hV_381 : MW cA hm A S 1 none none none G_371 := ⟨(iI ((S.v i).num.sign)), sh_314, kt_315, kb_316, ks_317, Rr_318, _, f_374, mr_378, f_375, sn_, sn_, sn_, mb_379⟩
                  rw [st_digit hn hi_i hy1 hy2 (by omega), if_neg (Decidable.not_not.mpr hpo), if_pos (by rw [hpr]; omega)] at hret
                  exact hret 87 _ _ _ _ d_Mo_digit_87 hB1 hB2 ⟨rfl, fun h9 => absurd (show (1 : Nat) = 0 from h9) (by decide), hV_381, gf_376⟩
            · skip
              have nc_334 : 0 ≠ 0 := (n0_eq (a := 0) (by omega)).2 c_334
              exact absurd nc_334 (by decide)
        · skip
          have nc_219 : z < 0 := (ii_ge (a := z) (b := 0) (by omega) (by omega) (by omega) (by omega)).2 (by first | exact c_219 | (have z9 := c_219; simp only [nI_iI] at z9; exact z9))
          refine gs (pc' := 29) (fun _ _ _ _ _ hl => lv_aload_n hx hb d_Mo_digit_28 rfl (lv_at hl 1 rfl)) ?_
          refine gs (pc' := 30) (fun _ _ _ _ _ hl => lv_iconst (v := nI 1) hx hb d_Mo_digit_29 (by decide)) ?_
          obtain ⟨sg_382, sh_383, kt_384, kb_385, ks_386, Rr_387, kf_388, v_389, v_390, v_391, v_392, v_393, v_394, v_395⟩ := id hV_184
          have f_396 : G hm = some (70, .inr (9, [.int (nI th), .int (nI S.n), .ref (A 2), .ref (A 3), .ref (A 4), .ref (A 5), .int sg_382, .int sh_383, .ref (A 8), .ref (A 9), .int (nI S.rn), .ref (A 11), .ref (A 12), .ref (A 13), .int (nI S.wn), .ref (A 15), .ref (A 16), .ref (A 17), .ref (A 18), .int kt_384, .int kb_385, .int ks_386])) := v_389
          refine g_put (ty := .int) hx hb hts hin_Mo ty_Mo ty_Mo_ok nm_Mo hown hK f_396 rfl 0 (by decide) (hts _ wm754) (fun _ h9 => h9) rfl (by decide +kernel) rfl rfl (Nat.le_of_ble_eq_true rfl) d_Mo_digit_30 (fun G_397 f_398 o_399 => ?_)
          have f_400 : G_397 hm = some (70, .inr (9, [.int (nI 1), .int (nI S.n), .ref (A 2), .ref (A 3), .ref (A 4), .ref (A 5), .int sg_382, .int sh_383, .ref (A 8), .ref (A 9), .int (nI S.rn), .ref (A 11), .ref (A 12), .ref (A 13), .int (nI S.wn), .ref (A 15), .ref (A 16), .ref (A 17), .ref (A 18), .int kt_384, .int kb_385, .int ks_386])) := f_398
          have f_401 : G_397 (A 18) = some (83, .inl (cA 0, 8600, .inl kf_388)) := (o_399 _ (gne v_391 f_396 (fun e => by cases e))).trans v_391
          have gf_402 : gfr mT G G_397 := gfr_put gfr_rf f_396 (show mT 70 by decide) o_399
          have gf_403 : gfr (fun x => x = 70) _ G_397 := gfr_put gfr_rf f_396 rfl o_399
          have mr_404 : MR cA A Rr_387 G_397 := MR_fr v_390 gf_403 (show ¬ (75 : Nat) = 70 by decide) (show ¬ (76 : Nat) = 70 by decide)
          have mb_405 : MB cA A S G_397 := MB_fr v_395 gf_403 (fun x h9 => by omega)
          refine gs (pc' := 34) (fun _ _ _ _ _ hl => lv_iconst (v := nI 0) hx hb d_Mo_digit_33 (by decide)) ?_
          have hV_406 : MW cA hm A S 1 none none none G_397 := ⟨sg_382, sh_383, kt_384, kb_385, ks_386, Rr_387, _, f_400, mr_404, f_401, sn_, sn_, sn_, mb_405⟩
          rw [su_digit (fun q9 => by have q8 := q9.2; rw [iI_toInt hz1 hz2] at q8; omega)] at hret
          exact hret 34 _ _ _ _ d_Mo_digit_34 hB1 hB2 ⟨rfl, fun h9 => absurd (show (1 : Nat) = 0 from h9) (by decide), hV_406, gf_402⟩
    · skip
      have nc_168 : y > ((1 : Nat) : Int) := (ii_le (a := y) (b := ((1 : Nat) : Int)) (by omega) (by omega) (by omega) (by omega)).2 (by first | exact c_168 | (have z9 := c_168; simp only [nI_iI] at z9; exact z9))
      have hpo : ¬ (y = 0 ∨ y = 1) := by omega
      refine gs (pc' := 10) (fun _ _ _ _ _ hl => lv_iconst (v := nI 1) hx hb d_Mo_digit_9 (by decide)) ?_
      refine gs (pc' := 14) (fun _ _ _ _ _ hl => lv_goto (tgt := 14) hx hb d_Mo_digit_10 (by decide)) ?_
      refine gst (pc' := 16) (L' := [(4, .int (nI 1)), (0, .ref hm), (1, .int (iI x)), (2, .int (iI y)), (3, .int (iI z))]) (fun _ _ _ _ _ hl => lv_istore hx hb d_Mo_digit_14 hl (by decide) rfl) ?_
      refine gs (pc' := 17) (fun _ _ _ _ _ hl => lv_aload_n hx hb d_Mo_digit_16 rfl (lv_at hl 1 rfl)) ?_
      refine gs (pc' := 18) (fun _ _ _ _ _ hl => lv_iload_n hx hb d_Mo_digit_17 rfl (lv_at hl 2 rfl)) ?_
      obtain ⟨sg_407, sh_408, kt_409, kb_410, ks_411, Rr_412, kf_413, v_414, v_415, v_416, v_417, v_418, v_419, v_420⟩ := id hV
      have f_421 : G hm = some (70, .inr (9, [.int (nI th), .int (nI S.n), .ref (A 2), .ref (A 3), .ref (A 4), .ref (A 5), .int sg_407, .int sh_408, .ref (A 8), .ref (A 9), .int (nI S.rn), .ref (A 11), .ref (A 12), .ref (A 13), .int (nI S.wn), .ref (A 15), .ref (A 16), .ref (A 17), .ref (A 18), .int kt_409, .int kb_410, .int ks_411])) := v_414
      have hV_422 : MW cA hm A S th qm qo qk G := ⟨sg_407, sh_408, kt_409, kb_410, ks_411, Rr_412, _, f_421, v_415, v_416, v_417, v_418, v_419, v_420⟩
      refine g_outi hlo (g_runV (As := [.int (iI x)]) (rest := []) ⟨hx, hb, hml, hown, hts⟩ hK hZ hRc hRs (c_Mo_isValue l D cA lo MC MS G B hm A S th qm qo qk hV_422 hW x (by omega) (by omega) hB1 hB2) (fun _ _ => cwV 1 hts (tb_good (tb_cons wm893 (tb_cons wm895 (tb_cons ws33 (tb_cons wm12 k_Mo_isValue))))) rfl rfl rfl (by decide +kernel) ⟨by rw [hRf]; exact Nat.le_of_ble_eq_true rfl, by rw [hRl]; exact Nat.le_of_ble_eq_true rfl⟩) f_421 rfl hB1 hB2 rfl (Nat.le_of_ble_eq_true rfl) d_Mo_digit_18) (fun r_426 G_423 B_424 p_425 => ?_)
      obtain ⟨u_427, e_428⟩ := p_425
      cases u_427
      subst e_428
      have bd_429 := b01_le (decide (0 ≤ x ∧ x < S.n))
      refine gsb (pc1 := 28) (pc2 := 24) (fun _ _ _ _ _ => lv_if_eq (tgt := 28) hx hb d_Mo_digit_21 (by decide)) (fun c_430 => ?_) (fun c_430 => ?_)
      · skip
        have nc_430 : (b01 (decide (0 ≤ x ∧ x < S.n))) = 0 := (n0_eq (a := (b01 (decide (0 ≤ x ∧ x < S.n)))) (by omega)).1 c_430
        have hb_x : ¬ (0 ≤ x ∧ x < S.n) := b01_0 nc_430
        refine gs (pc' := 29) (fun _ _ _ _ _ hl => lv_aload_n hx hb d_Mo_digit_28 rfl (lv_at hl 1 rfl)) ?_
        refine gs (pc' := 30) (fun _ _ _ _ _ hl => lv_iconst (v := nI 1) hx hb d_Mo_digit_29 (by decide)) ?_
        obtain ⟨sg_431, sh_432, kt_433, kb_434, ks_435, Rr_436, kf_437, v_438, v_439, v_440, v_441, v_442, v_443, v_444⟩ := id hV_422
        have f_445 : G hm = some (70, .inr (9, [.int (nI th), .int (nI S.n), .ref (A 2), .ref (A 3), .ref (A 4), .ref (A 5), .int sg_431, .int sh_432, .ref (A 8), .ref (A 9), .int (nI S.rn), .ref (A 11), .ref (A 12), .ref (A 13), .int (nI S.wn), .ref (A 15), .ref (A 16), .ref (A 17), .ref (A 18), .int kt_433, .int kb_434, .int ks_435])) := v_438
        refine g_put (ty := .int) hx hb hts hin_Mo ty_Mo ty_Mo_ok nm_Mo hown hK f_445 rfl 0 (by decide) (hts _ wm754) (fun _ h9 => h9) rfl (by decide +kernel) rfl rfl (Nat.le_of_ble_eq_true rfl) d_Mo_digit_30 (fun G_446 f_447 o_448 => ?_)
        have f_449 : G_446 hm = some (70, .inr (9, [.int (nI 1), .int (nI S.n), .ref (A 2), .ref (A 3), .ref (A 4), .ref (A 5), .int sg_431, .int sh_432, .ref (A 8), .ref (A 9), .int (nI S.rn), .ref (A 11), .ref (A 12), .ref (A 13), .int (nI S.wn), .ref (A 15), .ref (A 16), .ref (A 17), .ref (A 18), .int kt_433, .int kb_434, .int ks_435])) := f_447
        have f_450 : G_446 (A 18) = some (83, .inl (cA 0, 8600, .inl kf_437)) := (o_448 _ (gne v_440 f_445 (fun e => by cases e))).trans v_440
        have gf_451 : gfr mT G G_446 := gfr_put gfr_rf f_445 (show mT 70 by decide) o_448
        have gf_452 : gfr (fun x => x = 70) _ G_446 := gfr_put gfr_rf f_445 rfl o_448
        have mr_453 : MR cA A Rr_436 G_446 := MR_fr v_439 gf_452 (show ¬ (75 : Nat) = 70 by decide) (show ¬ (76 : Nat) = 70 by decide)
        have mb_454 : MB cA A S G_446 := MB_fr v_444 gf_452 (fun x h9 => by omega)
        refine gs (pc' := 34) (fun _ _ _ _ _ hl => lv_iconst (v := nI 0) hx hb d_Mo_digit_33 (by decide)) ?_
        have hV_455 : MW cA hm A S 1 none none none G_446 := ⟨sg_431, sh_432, kt_433, kb_434, ks_435, Rr_436, _, f_449, mr_453, f_450, sn_, sn_, sn_, mb_454⟩
        rw [su_digit (fun q9 => vn_ hx1 hx2 hb_x q9.1)] at hret
        exact hret 34 _ _ _ _ d_Mo_digit_34 hB1 hB2 ⟨rfl, fun h9 => absurd (show (1 : Nat) = 0 from h9) (by decide), hV_455, gf_451⟩
      · skip
        have nc_430 : (b01 (decide (0 ≤ x ∧ x < S.n))) ≠ 0 := (n0_eq (a := (b01 (decide (0 ≤ x ∧ x < S.n)))) (by omega)).2 c_430
        have hg_x : 0 ≤ x ∧ x < S.n := b01_1 nc_430
        have hg1_x := hg_x.1
        have hg2_x := hg_x.2
        obtain ⟨i, hxe_i⟩ : ∃ i : Nat, x = (i : Int) := ⟨x.toNat, by omega⟩
        subst hxe_i
        rw [← nI_iI i] at hret ⊢
        have hi_i : i < S.n := by omega
        have rbq_456 : rb (S.v i) 100 := rb_of (hW.v _ hi_i).1
        refine gs (pc' := 25) (fun _ _ _ _ _ hl => lv_iload_n hx hb d_Mo_digit_24 rfl (lv_at hl 4 rfl)) ?_
        refine gsb (pc1 := 35) (pc2 := 28) (fun _ _ _ _ _ => lv_if_ge (tgt := 35) hx hb d_Mo_digit_25 (by decide)) (fun c_457 => ?_) (fun c_457 => ?_)
        · skip
          have nc_457 : z ≥ 0 := (ii_ge (a := z) (b := 0) (by omega) (by omega) (by omega) (by omega)).1 (by first | exact c_457 | (have z9 := c_457; simp only [nI_iI] at z9; exact z9))
          obtain ⟨k, hxe_k⟩ : ∃ k : Nat, z = (k : Int) := ⟨z.toNat, by omega⟩
          subst hxe_k
          rw [← nI_iI k] at hret ⊢
          refine gs (pc' := 36) (fun _ _ _ _ _ hl => lv_aload_n hx hb d_Mo_digit_35 rfl (lv_at hl 1 rfl)) ?_
          refine gs (pc' := 37) (fun _ _ _ _ _ hl => lv_iload_n hx hb d_Mo_digit_36 rfl (lv_at hl 2 rfl)) ?_
          obtain ⟨sg_458, sh_459, kt_460, kb_461, ks_462, Rr_463, kf_464, v_465, v_466, v_467, v_468, v_469, v_470, v_471⟩ := id hV_422
          have f_472 : G hm = some (70, .inr (9, [.int (nI th), .int (nI S.n), .ref (A 2), .ref (A 3), .ref (A 4), .ref (A 5), .int sg_458, .int sh_459, .ref (A 8), .ref (A 9), .int (nI S.rn), .ref (A 11), .ref (A 12), .ref (A 13), .int (nI S.wn), .ref (A 15), .ref (A 16), .ref (A 17), .ref (A 18), .int kt_460, .int kb_461, .int ks_462])) := v_465
          have hV_473 : MW cA hm A S th qm qo qk G := ⟨sg_458, sh_459, kt_460, kb_461, ks_462, Rr_463, _, f_472, v_466, v_467, v_468, v_469, v_470, v_471⟩
          refine g_outv hlo (g_runV (As := [.int (nI i)]) (rest := []) ⟨hx, hb, hml, hown, hts⟩ hK hZ hRc hRs (c_Mo_load l D cA lo MC MS G B hm A S th qm qo qk hV_473 hW i (by omega) hB1 hB2) (fun _ _ => cwV 1 hts (tb_good (tb_cons wm897 (tb_cons wm899 (tb_cons ws34 (tb_cons wm12 k_Mo_load))))) rfl rfl rfl (by decide +kernel) ⟨by rw [hRf]; exact Nat.le_of_ble_eq_true rfl, by rw [hRl]; exact Nat.le_of_ble_eq_true rfl⟩) f_472 rfl hB1 hB2 rfl (Nat.le_of_ble_eq_true rfl) d_Mo_digit_37) (fun G_474 B_475 p_476 => ?_)
          obtain ⟨e_477, hV_478, gf_479⟩ := p_476
          have e_477b : B = B_475 := e_477.symm
          subst e_477b
          have gf_480 : gfr mT G G_474 := mT_mT gfr_rf gf_479
          refine gs (pc' := 41) (fun _ _ _ _ _ hl => lv_iload_n hx hb d_Mo_digit_40 rfl (lv_at hl 3 rfl)) ?_
          refine gsb (pc1 := 48) (pc2 := 44) (fun _ _ _ _ _ => lv_if_ne (tgt := 48) hx hb d_Mo_digit_41 (by decide)) (fun c_481 => ?_) (fun c_481 => ?_)
          · skip
            have nc_481 : y ≠ 0 := (ii_ne (a := y) (b := 0) (by omega) (by omega) (by omega) (by omega)).1 (by first | exact c_481 | (have z9 := c_481; simp only [nI_iI] at z9; exact z9))
            have hy9 : ¬ y = 0 := by omega
            have hpr : prt (S.v i) y = (S.v i).den := if_neg hy9
            refine gs (pc' := 49) (fun _ _ _ _ _ hl => lv_iconst (v := nI 1) hx hb d_Mo_digit_48 (by decide)) ?_
            refine gst (pc' := 51) (L' := [(5, .int (nI 1)), (4, .int (nI 1)), (0, .ref hm), (1, .int (nI i)), (2, .int (iI y)), (3, .int (nI k))]) (fun _ _ _ _ _ hl => lv_istore hx hb d_Mo_digit_49 hl (by decide) rfl) ?_
            obtain ⟨sg_482, sh_483, kt_484, kb_485, ks_486, Rr_487, kf_488, v_489, v_490, v_491, v_492, v_493, v_494, v_495⟩ := id hV_478
            have f_496 : G_474 hm = some (70, .inr (9, [.int (nI th), .int (nI S.n), .ref (A 2), .ref (A 3), .ref (A 4), .ref (A 5), .int sg_482, .int sh_483, .ref (A 8), .ref (A 9), .int (nI S.rn), .ref (A 11), .ref (A 12), .ref (A 13), .int (nI S.wn), .ref (A 15), .ref (A 16), .ref (A 17), .ref (A 18), .int kt_484, .int kb_485, .int ks_486])) := v_489
            obtain ⟨e_497, e_498, e_499⟩ := v_492 _ rfl
            have f_500 : G_474 hm = some (70, .inr (9, [.int (nI th), .int (nI S.n), .ref (A 2), .ref (A 3), .ref (A 4), .ref (A 5), .int (iI ((S.v i).num.sign)), .int sh_483, .ref (A 8), .ref (A 9), .int (nI S.rn), .ref (A 11), .ref (A 12), .ref (A 13), .int (nI S.wn), .ref (A 15), .ref (A 16), .ref (A 17), .ref (A 18), .int kt_484, .int kb_485, .int ks_486])) := by rw [← e_497]; exact f_496
            have fm_501 : ∀ r9, some (S.v i) = some r9 → fc (iI ((S.v i).num.sign)) (Rr_487 0) (Rr_487 1) r9 := by rw [← e_497]; exact v_492
            have s3_502 := sg3 (S.v i).num
            have hd1 := dig_900 (fun e9 => (hW.v i hi_i).1 (Or.inl e9))
            have hd2 := dig_900 (fun e9 => (hW.v i hi_i).1 (Or.inr e9))
            refine gs (pc' := 52) (fun _ _ _ _ _ hl => lv_aload_n hx hb d_Mo_digit_51 rfl (lv_at hl 2 rfl)) ?_
            refine gs (pc' := 54) (fun _ _ _ _ _ hl => lv_iload hx hb d_Mo_digit_52 (lv_at hl 1 rfl)) ?_
            refine gsb (pc1 := 61) (pc2 := 57) (fun _ _ _ _ _ => lv_if_eq (tgt := 61) hx hb d_Mo_digit_54 (by decide)) (fun c_503 => ?_) (fun c_503 => ?_)
            · skip
              have nc_503 : 1 = 0 := (n0_eq (a := 1) (by omega)).1 c_503
              exact absurd nc_503 (by decide)
            · skip
              have nc_503 : 1 ≠ 0 := (n0_eq (a := 1) (by omega)).2 c_503
              refine gs (pc' := 58) (fun _ _ _ _ _ hl => lv_iconst (v := nI 2) hx hb d_Mo_digit_57 (by decide)) ?_
              refine gs (pc' := 76) (fun _ _ _ _ _ hl => lv_goto (tgt := 76) hx hb d_Mo_digit_58 (by decide)) ?_
              refine g_put (ty := .int) hx hb hts hin_Mo ty_Mo ty_Mo_ok nm_Mo hown hK f_500 rfl 0 (by decide) (hts _ wm754) (fun _ h9 => h9) rfl (by decide +kernel) rfl rfl (Nat.le_of_ble_eq_true rfl) d_Mo_digit_76 (fun G_504 f_505 o_506 => ?_)
              have f_507 : G_504 hm = some (70, .inr (9, [.int (nI 2), .int (nI S.n), .ref (A 2), .ref (A 3), .ref (A 4), .ref (A 5), .int (iI ((S.v i).num.sign)), .int sh_483, .ref (A 8), .ref (A 9), .int (nI S.rn), .ref (A 11), .ref (A 12), .ref (A 13), .int (nI S.wn), .ref (A 15), .ref (A 16), .ref (A 17), .ref (A 18), .int kt_484, .int kb_485, .int ks_486])) := f_505
              have f_508 : G_504 (A 18) = some (83, .inl (cA 0, 8600, .inl kf_488)) := (o_506 _ (gne v_491 f_500 (fun e => by cases e))).trans v_491
              have gf_509 : gfr mT G G_504 := gfr_put gf_480 f_500 (show mT 70 by decide) o_506
              have gf_510 : gfr (fun x => x = 70) _ G_504 := gfr_put gfr_rf f_500 rfl o_506
              have mr_511 : MR cA A Rr_487 G_504 := MR_fr v_490 gf_510 (show ¬ (75 : Nat) = 70 by decide) (show ¬ (76 : Nat) = 70 by decide)
              have mb_512 : MB cA A S G_504 := MB_fr v_495 gf_510 (fun x h9 => by omega)
              refine gs (pc' := 80) (fun _ _ _ _ _ hl => lv_aload_n hx hb d_Mo_digit_79 rfl (lv_at hl 2 rfl)) ?_
              refine g_get hx hb hts hin_Mo hown hK f_507 rfl 0 (by decide) (hts _ wm754) (fun _ h9 => h9) rfl d_Mo_digit_80 ?_
              refine gsb (pc1 := 88) (pc2 := 86) (fun _ _ _ _ _ => lv_if_le (tgt := 88) hx hb d_Mo_digit_83 (by decide)) (fun c_513 => ?_) (fun c_513 => ?_)
              · skip
                have nc_513 : 2 ≤ 0 := (n0_le (a := 2) (by omega)).1 c_513
                exact absurd nc_513 (by decide)
              · skip
                have nc_513 : 2 > 0 := (n0_le (a := 2) (by omega)).2 c_513
                refine gs (pc' := 87) (fun _ _ _ _ _ hl => lv_iconst (v := nI 0) hx hb d_Mo_digit_86 (by decide)) ?_
                have hV_514 : MW cA hm A S 2 none none none G_504 := ⟨(iI ((S.v i).num.sign)), sh_483, kt_484, kb_485, ks_486, Rr_487, _, f_507, mr_511, f_508, sn_, sn_, sn_, mb_512⟩
                rw [st_digit hn hi_i hy1 hy2 (by omega), if_pos hpo] at hret
                exact hret 87 _ _ _ _ d_Mo_digit_87 hB1 hB2 ⟨rfl, fun h9 => absurd (show (2 : Nat) = 0 from h9) (by decide), hV_514, gf_509⟩
          · skip
            have nc_481 : y = 0 := (ii_ne (a := y) (b := 0) (by omega) (by omega) (by omega) (by omega)).2 (by first | exact c_481 | (have z9 := c_481; simp only [nI_iI] at z9; exact z9))
            have hpr : prt (S.v i) y = (S.v i).num.natAbs := if_pos (by omega)
            refine gs (pc' := 45) (fun _ _ _ _ _ hl => lv_iconst (v := nI 0) hx hb d_Mo_digit_44 (by decide)) ?_
            refine gs (pc' := 49) (fun _ _ _ _ _ hl => lv_goto (tgt := 49) hx hb d_Mo_digit_45 (by decide)) ?_
            refine gst (pc' := 51) (L' := [(5, .int (nI 0)), (4, .int (nI 1)), (0, .ref hm), (1, .int (nI i)), (2, .int (iI y)), (3, .int (nI k))]) (fun _ _ _ _ _ hl => lv_istore hx hb d_Mo_digit_49 hl (by decide) rfl) ?_
            obtain ⟨sg_515, sh_516, kt_517, kb_518, ks_519, Rr_520, kf_521, v_522, v_523, v_524, v_525, v_526, v_527, v_528⟩ := id hV_478
            have f_529 : G_474 hm = some (70, .inr (9, [.int (nI th), .int (nI S.n), .ref (A 2), .ref (A 3), .ref (A 4), .ref (A 5), .int sg_515, .int sh_516, .ref (A 8), .ref (A 9), .int (nI S.rn), .ref (A 11), .ref (A 12), .ref (A 13), .int (nI S.wn), .ref (A 15), .ref (A 16), .ref (A 17), .ref (A 18), .int kt_517, .int kb_518, .int ks_519])) := v_522
            obtain ⟨e_530, e_531, e_532⟩ := v_525 _ rfl
            have f_533 : G_474 hm = some (70, .inr (9, [.int (nI th), .int (nI S.n), .ref (A 2), .ref (A 3), .ref (A 4), .ref (A 5), .int (iI ((S.v i).num.sign)), .int sh_516, .ref (A 8), .ref (A 9), .int (nI S.rn), .ref (A 11), .ref (A 12), .ref (A 13), .int (nI S.wn), .ref (A 15), .ref (A 16), .ref (A 17), .ref (A 18), .int kt_517, .int kb_518, .int ks_519])) := by rw [← e_530]; exact f_529
            have fm_534 : ∀ r9, some (S.v i) = some r9 → fc (iI ((S.v i).num.sign)) (Rr_520 0) (Rr_520 1) r9 := by rw [← e_530]; exact v_525
            have s3_535 := sg3 (S.v i).num
            have hd1 := dig_900 (fun e9 => (hW.v i hi_i).1 (Or.inl e9))
            have hd2 := dig_900 (fun e9 => (hW.v i hi_i).1 (Or.inr e9))
            refine gs (pc' := 52) (fun _ _ _ _ _ hl => lv_aload_n hx hb d_Mo_digit_51 rfl (lv_at hl 2 rfl)) ?_
            refine gs (pc' := 54) (fun _ _ _ _ _ hl => lv_iload hx hb d_Mo_digit_52 (lv_at hl 1 rfl)) ?_
            refine gsb (pc1 := 61) (pc2 := 57) (fun _ _ _ _ _ => lv_if_eq (tgt := 61) hx hb d_Mo_digit_54 (by decide)) (fun c_536 => ?_) (fun c_536 => ?_)
            · skip
              have nc_536 : 1 = 0 := (n0_eq (a := 1) (by omega)).1 c_536
              exact absurd nc_536 (by decide)
            · skip
              have nc_536 : 1 ≠ 0 := (n0_eq (a := 1) (by omega)).2 c_536
              refine gs (pc' := 58) (fun _ _ _ _ _ hl => lv_iconst (v := nI 2) hx hb d_Mo_digit_57 (by decide)) ?_
              refine gs (pc' := 76) (fun _ _ _ _ _ hl => lv_goto (tgt := 76) hx hb d_Mo_digit_58 (by decide)) ?_
              refine g_put (ty := .int) hx hb hts hin_Mo ty_Mo ty_Mo_ok nm_Mo hown hK f_533 rfl 0 (by decide) (hts _ wm754) (fun _ h9 => h9) rfl (by decide +kernel) rfl rfl (Nat.le_of_ble_eq_true rfl) d_Mo_digit_76 (fun G_537 f_538 o_539 => ?_)
              have f_540 : G_537 hm = some (70, .inr (9, [.int (nI 2), .int (nI S.n), .ref (A 2), .ref (A 3), .ref (A 4), .ref (A 5), .int (iI ((S.v i).num.sign)), .int sh_516, .ref (A 8), .ref (A 9), .int (nI S.rn), .ref (A 11), .ref (A 12), .ref (A 13), .int (nI S.wn), .ref (A 15), .ref (A 16), .ref (A 17), .ref (A 18), .int kt_517, .int kb_518, .int ks_519])) := f_538
              have f_541 : G_537 (A 18) = some (83, .inl (cA 0, 8600, .inl kf_521)) := (o_539 _ (gne v_524 f_533 (fun e => by cases e))).trans v_524
              have gf_542 : gfr mT G G_537 := gfr_put gf_480 f_533 (show mT 70 by decide) o_539
              have gf_543 : gfr (fun x => x = 70) _ G_537 := gfr_put gfr_rf f_533 rfl o_539
              have mr_544 : MR cA A Rr_520 G_537 := MR_fr v_523 gf_543 (show ¬ (75 : Nat) = 70 by decide) (show ¬ (76 : Nat) = 70 by decide)
              have mb_545 : MB cA A S G_537 := MB_fr v_528 gf_543 (fun x h9 => by omega)
              refine gs (pc' := 80) (fun _ _ _ _ _ hl => lv_aload_n hx hb d_Mo_digit_79 rfl (lv_at hl 2 rfl)) ?_
              refine g_get hx hb hts hin_Mo hown hK f_540 rfl 0 (by decide) (hts _ wm754) (fun _ h9 => h9) rfl d_Mo_digit_80 ?_
              refine gsb (pc1 := 88) (pc2 := 86) (fun _ _ _ _ _ => lv_if_le (tgt := 88) hx hb d_Mo_digit_83 (by decide)) (fun c_546 => ?_) (fun c_546 => ?_)
              · skip
                have nc_546 : 2 ≤ 0 := (n0_le (a := 2) (by omega)).1 c_546
                exact absurd nc_546 (by decide)
              · skip
                have nc_546 : 2 > 0 := (n0_le (a := 2) (by omega)).2 c_546
                refine gs (pc' := 87) (fun _ _ _ _ _ hl => lv_iconst (v := nI 0) hx hb d_Mo_digit_86 (by decide)) ?_
                have hV_547 : MW cA hm A S 2 none none none G_537 := ⟨(iI ((S.v i).num.sign)), sh_516, kt_517, kb_518, ks_519, Rr_520, _, f_540, mr_544, f_541, sn_, sn_, sn_, mb_545⟩
                rw [st_digit hn hi_i hy1 hy2 (by omega), if_pos hpo] at hret
                exact hret 87 _ _ _ _ d_Mo_digit_87 hB1 hB2 ⟨rfl, fun h9 => absurd (show (2 : Nat) = 0 from h9) (by decide), hV_547, gf_542⟩
        · skip
          have nc_457 : z < 0 := (ii_ge (a := z) (b := 0) (by omega) (by omega) (by omega) (by omega)).2 (by first | exact c_457 | (have z9 := c_457; simp only [nI_iI] at z9; exact z9))
          refine gs (pc' := 29) (fun _ _ _ _ _ hl => lv_aload_n hx hb d_Mo_digit_28 rfl (lv_at hl 1 rfl)) ?_
          refine gs (pc' := 30) (fun _ _ _ _ _ hl => lv_iconst (v := nI 1) hx hb d_Mo_digit_29 (by decide)) ?_
          obtain ⟨sg_548, sh_549, kt_550, kb_551, ks_552, Rr_553, kf_554, v_555, v_556, v_557, v_558, v_559, v_560, v_561⟩ := id hV_422
          have f_562 : G hm = some (70, .inr (9, [.int (nI th), .int (nI S.n), .ref (A 2), .ref (A 3), .ref (A 4), .ref (A 5), .int sg_548, .int sh_549, .ref (A 8), .ref (A 9), .int (nI S.rn), .ref (A 11), .ref (A 12), .ref (A 13), .int (nI S.wn), .ref (A 15), .ref (A 16), .ref (A 17), .ref (A 18), .int kt_550, .int kb_551, .int ks_552])) := v_555
          refine g_put (ty := .int) hx hb hts hin_Mo ty_Mo ty_Mo_ok nm_Mo hown hK f_562 rfl 0 (by decide) (hts _ wm754) (fun _ h9 => h9) rfl (by decide +kernel) rfl rfl (Nat.le_of_ble_eq_true rfl) d_Mo_digit_30 (fun G_563 f_564 o_565 => ?_)
          have f_566 : G_563 hm = some (70, .inr (9, [.int (nI 1), .int (nI S.n), .ref (A 2), .ref (A 3), .ref (A 4), .ref (A 5), .int sg_548, .int sh_549, .ref (A 8), .ref (A 9), .int (nI S.rn), .ref (A 11), .ref (A 12), .ref (A 13), .int (nI S.wn), .ref (A 15), .ref (A 16), .ref (A 17), .ref (A 18), .int kt_550, .int kb_551, .int ks_552])) := f_564
          have f_567 : G_563 (A 18) = some (83, .inl (cA 0, 8600, .inl kf_554)) := (o_565 _ (gne v_557 f_562 (fun e => by cases e))).trans v_557
          have gf_568 : gfr mT G G_563 := gfr_put gfr_rf f_562 (show mT 70 by decide) o_565
          have gf_569 : gfr (fun x => x = 70) _ G_563 := gfr_put gfr_rf f_562 rfl o_565
          have mr_570 : MR cA A Rr_553 G_563 := MR_fr v_556 gf_569 (show ¬ (75 : Nat) = 70 by decide) (show ¬ (76 : Nat) = 70 by decide)
          have mb_571 : MB cA A S G_563 := MB_fr v_561 gf_569 (fun x h9 => by omega)
          refine gs (pc' := 34) (fun _ _ _ _ _ hl => lv_iconst (v := nI 0) hx hb d_Mo_digit_33 (by decide)) ?_
          have hV_572 : MW cA hm A S 1 none none none G_563 := ⟨sg_548, sh_549, kt_550, kb_551, ks_552, Rr_553, _, f_566, mr_570, f_567, sn_, sn_, sn_, mb_571⟩
          rw [su_digit (fun q9 => by have q8 := q9.2; rw [iI_toInt hz1 hz2] at q8; omega)] at hret
          exact hret 34 _ _ _ _ d_Mo_digit_34 hB1 hB2 ⟨rfl, fun h9 => absurd (show (1 : Nat) = 0 from h9) (by decide), hV_572, gf_568⟩
set_option maxHeartbeats 4000000 in
set_option maxRecDepth 100000 in
theorem c_Mo_corner (l : Launch) (D : va_G) (cA : Nat → ClassId) (lo MC MS : Nat) (G : gT) (B : Nat × Nat) (hm : Nat) (A : Nat → Nat) (S : St) (th : Nat) (qm qo qk : Option Rat) (hV : MW cA hm A S th qm qo qk G) (hW : WF S) (x : Int) (hx1 : -2147483648 ≤ x) (hx2 : x < 2147483648) (y : Int) (hy1 : -2147483648 ≤ y) (hy2 : y < 2147483648) (z : Int) (hz1 : -2147483648 ≤ z) (hz2 : z < 2147483648) (hB1 : B.1 ≤ MC) (hB2 : B.2 ≤ MS) : gMet l y_Mo_corner w_Mo_corner 3 75 D clS (gtys cA) lo MC MS [.ref hm, .int (iI x), .int (iI y), .int (iI z)] G B (gQi D clS lo (fun r9 u => u.2 = B ∧ ((sp_corner S (iI x) (iI y) (iI z)).1 = 0 → r9 = iI (sp_corner S (iI x) (iI y) (iI z)).2.1) ∧ MW cA hm A (sp_corner S (iI x) (iI y) (iI z)).2.2 (sp_corner S (iI x) (iI y) (iI z)).1 none none none u.1 ∧ gfr mT G u.1)) := by
  refine g_meti (cc := prog_11_method_41_code) (nL := 5) (L := [(0, .ref hm), (1, .int (iI x)), (2, .int (iI y)), (3, .int (iI z))]) (by decide +kernel) rfl (Nat.le_of_ble_eq_true rfl) rfl ?_
  intro p e R s m args below meth c Q hF hRc hRs hRf hRl hret
  obtain ⟨hx, hb, hr, hml, hts0, hown, hlocks, hin, hK, hlo, hZ⟩ := hF
  have hts : ∀ w ∈ tbg, w.before args s = true := fun w h => hts0 w (List.mem_cons_of_mem _ h)
  have hn := hW.n
  have hrn := hW.rn
  have hwn := hW.wn
  refine gs (pc' := 1) (fun _ _ _ _ _ hl => lv_aload_n hx hb d_Mo_corner_0 rfl (lv_at hl 0 rfl)) ?_
  refine gs (pc' := 2) (fun _ _ _ _ _ hl => lv_aload_n hx hb d_Mo_corner_1 rfl (lv_at hl 0 rfl)) ?_
  refine gs (pc' := 3) (fun _ _ _ _ _ hl => lv_iload_n hx hb d_Mo_corner_2 rfl (lv_at hl 1 rfl)) ?_
  obtain ⟨sg_1, sh_2, kt_3, kb_4, ks_5, Rr_6, kf_7, v_8, v_9, v_10, v_11, v_12, v_13, v_14⟩ := id hV
  have f_15 : G hm = some (70, .inr (9, [.int (nI th), .int (nI S.n), .ref (A 2), .ref (A 3), .ref (A 4), .ref (A 5), .int sg_1, .int sh_2, .ref (A 8), .ref (A 9), .int (nI S.rn), .ref (A 11), .ref (A 12), .ref (A 13), .int (nI S.wn), .ref (A 15), .ref (A 16), .ref (A 17), .ref (A 18), .int kt_3, .int kb_4, .int ks_5])) := v_8
  have hV_16 : MW cA hm A S th qm qo qk G := ⟨sg_1, sh_2, kt_3, kb_4, ks_5, Rr_6, _, f_15, v_9, v_10, v_11, v_12, v_13, v_14⟩
  refine g_outi hlo (g_runV (As := [.int (iI x)]) (rest := [.ref hm]) ⟨hx, hb, hml, hown, hts⟩ hK hZ hRc hRs (c_Mo_isRow l D cA lo MC MS G B hm A S th qm qo qk hV_16 hW x (by omega) (by omega) hB1 hB2) (fun _ _ => cwV 1 hts (tb_good (tb_cons wm984 (tb_cons wm986 (tb_cons ws45 (tb_cons wm12 k_Mo_isRow))))) rfl rfl rfl (by decide +kernel) ⟨by rw [hRf]; exact Nat.le_of_ble_eq_true rfl, by rw [hRl]; exact Nat.le_of_ble_eq_true rfl⟩) f_15 rfl hB1 hB2 rfl (Nat.le_of_ble_eq_true rfl) d_Mo_corner_3) (fun r_20 G_17 B_18 p_19 => ?_)
  obtain ⟨u_21, e_22⟩ := p_19
  cases u_21
  subst e_22
  have bd_23 := b01_le (decide (0 ≤ x ∧ x < S.rn))
  refine gsb (pc1 := 29) (pc2 := 9) (fun _ _ _ _ _ => lv_if_eq (tgt := 29) hx hb d_Mo_corner_6 (by decide)) (fun c_24 => ?_) (fun c_24 => ?_)
  · skip
    have nc_24 : (b01 (decide (0 ≤ x ∧ x < S.rn))) = 0 := (n0_eq (a := (b01 (decide (0 ≤ x ∧ x < S.rn)))) (by omega)).1 c_24
    have hb_x : ¬ (0 ≤ x ∧ x < S.rn) := b01_0 nc_24
    refine gs (pc' := 30) (fun _ _ _ _ _ hl => lv_iconst (v := nI 1) hx hb d_Mo_corner_29 (by decide)) ?_
    obtain ⟨sg_25, sh_26, kt_27, kb_28, ks_29, Rr_30, kf_31, v_32, v_33, v_34, v_35, v_36, v_37, v_38⟩ := id hV_16
    have f_39 : G hm = some (70, .inr (9, [.int (nI th), .int (nI S.n), .ref (A 2), .ref (A 3), .ref (A 4), .ref (A 5), .int sg_25, .int sh_26, .ref (A 8), .ref (A 9), .int (nI S.rn), .ref (A 11), .ref (A 12), .ref (A 13), .int (nI S.wn), .ref (A 15), .ref (A 16), .ref (A 17), .ref (A 18), .int kt_27, .int kb_28, .int ks_29])) := v_32
    refine g_put (ty := .int) hx hb hts hin_Mo ty_Mo ty_Mo_ok nm_Mo hown hK f_39 rfl 0 (by decide) (hts _ wm754) (fun _ h9 => h9) rfl (by decide +kernel) rfl rfl (Nat.le_of_ble_eq_true rfl) d_Mo_corner_30 (fun G_40 f_41 o_42 => ?_)
    have f_43 : G_40 hm = some (70, .inr (9, [.int (nI 1), .int (nI S.n), .ref (A 2), .ref (A 3), .ref (A 4), .ref (A 5), .int sg_25, .int sh_26, .ref (A 8), .ref (A 9), .int (nI S.rn), .ref (A 11), .ref (A 12), .ref (A 13), .int (nI S.wn), .ref (A 15), .ref (A 16), .ref (A 17), .ref (A 18), .int kt_27, .int kb_28, .int ks_29])) := f_41
    have f_44 : G_40 (A 18) = some (83, .inl (cA 0, 8600, .inl kf_31)) := (o_42 _ (gne v_34 f_39 (fun e => by cases e))).trans v_34
    have gf_45 : gfr mT G G_40 := gfr_put gfr_rf f_39 (show mT 70 by decide) o_42
    have gf_46 : gfr (fun x => x = 70) _ G_40 := gfr_put gfr_rf f_39 rfl o_42
    have mr_47 : MR cA A Rr_30 G_40 := MR_fr v_33 gf_46 (show ¬ (75 : Nat) = 70 by decide) (show ¬ (76 : Nat) = 70 by decide)
    have mb_48 : MB cA A S G_40 := MB_fr v_38 gf_46 (fun x h9 => by omega)
    refine gs (pc' := 34) (fun _ _ _ _ _ hl => lv_aload_n hx hb d_Mo_corner_33 rfl (lv_at hl 0 rfl)) ?_
    refine g_get hx hb hts hin_Mo hown hK f_43 rfl 0 (by decide) (hts _ wm754) (fun _ h9 => h9) rfl d_Mo_corner_34 ?_
    refine gsb (pc1 := 42) (pc2 := 40) (fun _ _ _ _ _ => lv_if_le (tgt := 42) hx hb d_Mo_corner_37 (by decide)) (fun c_49 => ?_) (fun c_49 => ?_)
    · skip
      have nc_49 : 1 ≤ 0 := (n0_le (a := 1) (by omega)).1 c_49
      exact absurd nc_49 (by decide)
    · skip
      have nc_49 : 1 > 0 := (n0_le (a := 1) (by omega)).2 c_49
      refine gs (pc' := 41) (fun _ _ _ _ _ hl => lv_iconst (v := nI 0) hx hb d_Mo_corner_40 (by decide)) ?_
      have hV_50 : MW cA hm A S 1 none none none G_40 := ⟨sg_25, sh_26, kt_27, kb_28, ks_29, Rr_30, _, f_43, mr_47, f_44, sn_, sn_, sn_, mb_48⟩
      rw [su_corner (fun q9 => rn_ hx1 hx2 hb_x q9.1)] at hret
      exact hret 41 _ _ _ _ d_Mo_corner_41 hB1 hB2 ⟨rfl, fun h9 => absurd (show (1 : Nat) = 0 from h9) (by decide), hV_50, gf_45⟩
  · skip
    have nc_24 : (b01 (decide (0 ≤ x ∧ x < S.rn))) ≠ 0 := (n0_eq (a := (b01 (decide (0 ≤ x ∧ x < S.rn)))) (by omega)).2 c_24
    have hg_x : 0 ≤ x ∧ x < S.rn := b01_1 nc_24
    have hg1_x := hg_x.1
    have hg2_x := hg_x.2
    obtain ⟨g, hxe_g⟩ : ∃ g : Nat, x = (g : Int) := ⟨x.toNat, by omega⟩
    subst hxe_g
    rw [← nI_iI g] at hret ⊢
    have hi_g : g < S.rn := by omega
    refine gs (pc' := 10) (fun _ _ _ _ _ hl => lv_aload_n hx hb d_Mo_corner_9 rfl (lv_at hl 0 rfl)) ?_
    refine gs (pc' := 11) (fun _ _ _ _ _ hl => lv_iload_n hx hb d_Mo_corner_10 rfl (lv_at hl 2 rfl)) ?_
    obtain ⟨sg_51, sh_52, kt_53, kb_54, ks_55, Rr_56, kf_57, v_58, v_59, v_60, v_61, v_62, v_63, v_64⟩ := id hV_16
    have f_65 : G hm = some (70, .inr (9, [.int (nI th), .int (nI S.n), .ref (A 2), .ref (A 3), .ref (A 4), .ref (A 5), .int sg_51, .int sh_52, .ref (A 8), .ref (A 9), .int (nI S.rn), .ref (A 11), .ref (A 12), .ref (A 13), .int (nI S.wn), .ref (A 15), .ref (A 16), .ref (A 17), .ref (A 18), .int kt_53, .int kb_54, .int ks_55])) := v_58
    have hV_66 : MW cA hm A S th qm qo qk G := ⟨sg_51, sh_52, kt_53, kb_54, ks_55, Rr_56, _, f_65, v_59, v_60, v_61, v_62, v_63, v_64⟩
    refine g_outi hlo (g_runV (As := [.int (iI y)]) (rest := [.ref hm]) ⟨hx, hb, hml, hown, hts⟩ hK hZ hRc hRs (c_Mo_isValue l D cA lo MC MS G B hm A S th qm qo qk hV_66 hW y (by omega) (by omega) hB1 hB2) (fun _ _ => cwV 1 hts (tb_good (tb_cons wm893 (tb_cons wm895 (tb_cons ws33 (tb_cons wm12 k_Mo_isValue))))) rfl rfl rfl (by decide +kernel) ⟨by rw [hRf]; exact Nat.le_of_ble_eq_true rfl, by rw [hRl]; exact Nat.le_of_ble_eq_true rfl⟩) f_65 rfl hB1 hB2 rfl (Nat.le_of_ble_eq_true rfl) d_Mo_corner_11) (fun r_70 G_67 B_68 p_69 => ?_)
    obtain ⟨u_71, e_72⟩ := p_69
    cases u_71
    subst e_72
    have bd_73 := b01_le (decide (0 ≤ y ∧ y < S.n))
    refine gsb (pc1 := 29) (pc2 := 17) (fun _ _ _ _ _ => lv_if_eq (tgt := 29) hx hb d_Mo_corner_14 (by decide)) (fun c_74 => ?_) (fun c_74 => ?_)
    · skip
      have nc_74 : (b01 (decide (0 ≤ y ∧ y < S.n))) = 0 := (n0_eq (a := (b01 (decide (0 ≤ y ∧ y < S.n)))) (by omega)).1 c_74
      have hb_y : ¬ (0 ≤ y ∧ y < S.n) := b01_0 nc_74
      refine gs (pc' := 30) (fun _ _ _ _ _ hl => lv_iconst (v := nI 1) hx hb d_Mo_corner_29 (by decide)) ?_
      obtain ⟨sg_75, sh_76, kt_77, kb_78, ks_79, Rr_80, kf_81, v_82, v_83, v_84, v_85, v_86, v_87, v_88⟩ := id hV_66
      have f_89 : G hm = some (70, .inr (9, [.int (nI th), .int (nI S.n), .ref (A 2), .ref (A 3), .ref (A 4), .ref (A 5), .int sg_75, .int sh_76, .ref (A 8), .ref (A 9), .int (nI S.rn), .ref (A 11), .ref (A 12), .ref (A 13), .int (nI S.wn), .ref (A 15), .ref (A 16), .ref (A 17), .ref (A 18), .int kt_77, .int kb_78, .int ks_79])) := v_82
      refine g_put (ty := .int) hx hb hts hin_Mo ty_Mo ty_Mo_ok nm_Mo hown hK f_89 rfl 0 (by decide) (hts _ wm754) (fun _ h9 => h9) rfl (by decide +kernel) rfl rfl (Nat.le_of_ble_eq_true rfl) d_Mo_corner_30 (fun G_90 f_91 o_92 => ?_)
      have f_93 : G_90 hm = some (70, .inr (9, [.int (nI 1), .int (nI S.n), .ref (A 2), .ref (A 3), .ref (A 4), .ref (A 5), .int sg_75, .int sh_76, .ref (A 8), .ref (A 9), .int (nI S.rn), .ref (A 11), .ref (A 12), .ref (A 13), .int (nI S.wn), .ref (A 15), .ref (A 16), .ref (A 17), .ref (A 18), .int kt_77, .int kb_78, .int ks_79])) := f_91
      have f_94 : G_90 (A 18) = some (83, .inl (cA 0, 8600, .inl kf_81)) := (o_92 _ (gne v_84 f_89 (fun e => by cases e))).trans v_84
      have gf_95 : gfr mT G G_90 := gfr_put gfr_rf f_89 (show mT 70 by decide) o_92
      have gf_96 : gfr (fun x => x = 70) _ G_90 := gfr_put gfr_rf f_89 rfl o_92
      have mr_97 : MR cA A Rr_80 G_90 := MR_fr v_83 gf_96 (show ¬ (75 : Nat) = 70 by decide) (show ¬ (76 : Nat) = 70 by decide)
      have mb_98 : MB cA A S G_90 := MB_fr v_88 gf_96 (fun x h9 => by omega)
      refine gs (pc' := 34) (fun _ _ _ _ _ hl => lv_aload_n hx hb d_Mo_corner_33 rfl (lv_at hl 0 rfl)) ?_
      refine g_get hx hb hts hin_Mo hown hK f_93 rfl 0 (by decide) (hts _ wm754) (fun _ h9 => h9) rfl d_Mo_corner_34 ?_
      refine gsb (pc1 := 42) (pc2 := 40) (fun _ _ _ _ _ => lv_if_le (tgt := 42) hx hb d_Mo_corner_37 (by decide)) (fun c_99 => ?_) (fun c_99 => ?_)
      · skip
        have nc_99 : 1 ≤ 0 := (n0_le (a := 1) (by omega)).1 c_99
        exact absurd nc_99 (by decide)
      · skip
        have nc_99 : 1 > 0 := (n0_le (a := 1) (by omega)).2 c_99
        refine gs (pc' := 41) (fun _ _ _ _ _ hl => lv_iconst (v := nI 0) hx hb d_Mo_corner_40 (by decide)) ?_
        have hV_100 : MW cA hm A S 1 none none none G_90 := ⟨sg_75, sh_76, kt_77, kb_78, ks_79, Rr_80, _, f_93, mr_97, f_94, sn_, sn_, sn_, mb_98⟩
        rw [su_corner (fun q9 => vn_ hy1 hy2 hb_y q9.2.1)] at hret
        exact hret 41 _ _ _ _ d_Mo_corner_41 hB1 hB2 ⟨rfl, fun h9 => absurd (show (1 : Nat) = 0 from h9) (by decide), hV_100, gf_95⟩
    · skip
      have nc_74 : (b01 (decide (0 ≤ y ∧ y < S.n))) ≠ 0 := (n0_eq (a := (b01 (decide (0 ≤ y ∧ y < S.n)))) (by omega)).2 c_74
      have hg_y : 0 ≤ y ∧ y < S.n := b01_1 nc_74
      have hg1_y := hg_y.1
      have hg2_y := hg_y.2
      obtain ⟨i, hxe_i⟩ : ∃ i : Nat, y = (i : Int) := ⟨y.toNat, by omega⟩
      subst hxe_i
      rw [← nI_iI i] at hret ⊢
      have hi_i : i < S.n := by omega
      have rbq_101 : rb (S.v i) 100 := rb_of (hW.v _ hi_i).1
      refine gs (pc' := 18) (fun _ _ _ _ _ hl => lv_aload_n hx hb d_Mo_corner_17 rfl (lv_at hl 0 rfl)) ?_
      refine gs (pc' := 19) (fun _ _ _ _ _ hl => lv_iload_n hx hb d_Mo_corner_18 rfl (lv_at hl 3 rfl)) ?_
      obtain ⟨sg_102, sh_103, kt_104, kb_105, ks_106, Rr_107, kf_108, v_109, v_110, v_111, v_112, v_113, v_114, v_115⟩ := id hV_66
      have f_116 : G hm = some (70, .inr (9, [.int (nI th), .int (nI S.n), .ref (A 2), .ref (A 3), .ref (A 4), .ref (A 5), .int sg_102, .int sh_103, .ref (A 8), .ref (A 9), .int (nI S.rn), .ref (A 11), .ref (A 12), .ref (A 13), .int (nI S.wn), .ref (A 15), .ref (A 16), .ref (A 17), .ref (A 18), .int kt_104, .int kb_105, .int ks_106])) := v_109
      have hV_117 : MW cA hm A S th qm qo qk G := ⟨sg_102, sh_103, kt_104, kb_105, ks_106, Rr_107, _, f_116, v_110, v_111, v_112, v_113, v_114, v_115⟩
      refine g_outi hlo (g_runV (As := [.int (iI z)]) (rest := [.ref hm]) ⟨hx, hb, hml, hown, hts⟩ hK hZ hRc hRs (c_Mo_isValue l D cA lo MC MS G B hm A S th qm qo qk hV_117 hW z (by omega) (by omega) hB1 hB2) (fun _ _ => cwV 1 hts (tb_good (tb_cons wm893 (tb_cons wm895 (tb_cons ws33 (tb_cons wm12 k_Mo_isValue))))) rfl rfl rfl (by decide +kernel) ⟨by rw [hRf]; exact Nat.le_of_ble_eq_true rfl, by rw [hRl]; exact Nat.le_of_ble_eq_true rfl⟩) f_116 rfl hB1 hB2 rfl (Nat.le_of_ble_eq_true rfl) d_Mo_corner_19) (fun r_121 G_118 B_119 p_120 => ?_)
      obtain ⟨u_122, e_123⟩ := p_120
      cases u_122
      subst e_123
      have bd_124 := b01_le (decide (0 ≤ z ∧ z < S.n))
      refine gsb (pc1 := 29) (pc2 := 25) (fun _ _ _ _ _ => lv_if_eq (tgt := 29) hx hb d_Mo_corner_22 (by decide)) (fun c_125 => ?_) (fun c_125 => ?_)
      · skip
        have nc_125 : (b01 (decide (0 ≤ z ∧ z < S.n))) = 0 := (n0_eq (a := (b01 (decide (0 ≤ z ∧ z < S.n)))) (by omega)).1 c_125
        have hb_z : ¬ (0 ≤ z ∧ z < S.n) := b01_0 nc_125
        refine gs (pc' := 30) (fun _ _ _ _ _ hl => lv_iconst (v := nI 1) hx hb d_Mo_corner_29 (by decide)) ?_
        obtain ⟨sg_126, sh_127, kt_128, kb_129, ks_130, Rr_131, kf_132, v_133, v_134, v_135, v_136, v_137, v_138, v_139⟩ := id hV_117
        have f_140 : G hm = some (70, .inr (9, [.int (nI th), .int (nI S.n), .ref (A 2), .ref (A 3), .ref (A 4), .ref (A 5), .int sg_126, .int sh_127, .ref (A 8), .ref (A 9), .int (nI S.rn), .ref (A 11), .ref (A 12), .ref (A 13), .int (nI S.wn), .ref (A 15), .ref (A 16), .ref (A 17), .ref (A 18), .int kt_128, .int kb_129, .int ks_130])) := v_133
        refine g_put (ty := .int) hx hb hts hin_Mo ty_Mo ty_Mo_ok nm_Mo hown hK f_140 rfl 0 (by decide) (hts _ wm754) (fun _ h9 => h9) rfl (by decide +kernel) rfl rfl (Nat.le_of_ble_eq_true rfl) d_Mo_corner_30 (fun G_141 f_142 o_143 => ?_)
        have f_144 : G_141 hm = some (70, .inr (9, [.int (nI 1), .int (nI S.n), .ref (A 2), .ref (A 3), .ref (A 4), .ref (A 5), .int sg_126, .int sh_127, .ref (A 8), .ref (A 9), .int (nI S.rn), .ref (A 11), .ref (A 12), .ref (A 13), .int (nI S.wn), .ref (A 15), .ref (A 16), .ref (A 17), .ref (A 18), .int kt_128, .int kb_129, .int ks_130])) := f_142
        have f_145 : G_141 (A 18) = some (83, .inl (cA 0, 8600, .inl kf_132)) := (o_143 _ (gne v_135 f_140 (fun e => by cases e))).trans v_135
        have gf_146 : gfr mT G G_141 := gfr_put gfr_rf f_140 (show mT 70 by decide) o_143
        have gf_147 : gfr (fun x => x = 70) _ G_141 := gfr_put gfr_rf f_140 rfl o_143
        have mr_148 : MR cA A Rr_131 G_141 := MR_fr v_134 gf_147 (show ¬ (75 : Nat) = 70 by decide) (show ¬ (76 : Nat) = 70 by decide)
        have mb_149 : MB cA A S G_141 := MB_fr v_139 gf_147 (fun x h9 => by omega)
        refine gs (pc' := 34) (fun _ _ _ _ _ hl => lv_aload_n hx hb d_Mo_corner_33 rfl (lv_at hl 0 rfl)) ?_
        refine g_get hx hb hts hin_Mo hown hK f_144 rfl 0 (by decide) (hts _ wm754) (fun _ h9 => h9) rfl d_Mo_corner_34 ?_
        refine gsb (pc1 := 42) (pc2 := 40) (fun _ _ _ _ _ => lv_if_le (tgt := 42) hx hb d_Mo_corner_37 (by decide)) (fun c_150 => ?_) (fun c_150 => ?_)
        · skip
          have nc_150 : 1 ≤ 0 := (n0_le (a := 1) (by omega)).1 c_150
          exact absurd nc_150 (by decide)
        · skip
          have nc_150 : 1 > 0 := (n0_le (a := 1) (by omega)).2 c_150
          refine gs (pc' := 41) (fun _ _ _ _ _ hl => lv_iconst (v := nI 0) hx hb d_Mo_corner_40 (by decide)) ?_
          have hV_151 : MW cA hm A S 1 none none none G_141 := ⟨sg_126, sh_127, kt_128, kb_129, ks_130, Rr_131, _, f_144, mr_148, f_145, sn_, sn_, sn_, mb_149⟩
          rw [su_corner (fun q9 => vn_ hz1 hz2 hb_z q9.2.2)] at hret
          exact hret 41 _ _ _ _ d_Mo_corner_41 hB1 hB2 ⟨rfl, fun h9 => absurd (show (1 : Nat) = 0 from h9) (by decide), hV_151, gf_146⟩
      · skip
        have nc_125 : (b01 (decide (0 ≤ z ∧ z < S.n))) ≠ 0 := (n0_eq (a := (b01 (decide (0 ≤ z ∧ z < S.n)))) (by omega)).2 c_125
        have hg_z : 0 ≤ z ∧ z < S.n := b01_1 nc_125
        have hg1_z := hg_z.1
        have hg2_z := hg_z.2
        obtain ⟨j, hxe_j⟩ : ∃ j : Nat, z = (j : Int) := ⟨z.toNat, by omega⟩
        subst hxe_j
        rw [← nI_iI j] at hret ⊢
        have hi_j : j < S.n := by omega
        have rbq_152 : rb (S.v j) 100 := rb_of (hW.v _ hi_j).1
        refine gs (pc' := 26) (fun _ _ _ _ _ hl => lv_iconst (v := nI 0) hx hb d_Mo_corner_25 (by decide)) ?_
        refine gs (pc' := 30) (fun _ _ _ _ _ hl => lv_goto (tgt := 30) hx hb d_Mo_corner_26 (by decide)) ?_
        obtain ⟨sg_153, sh_154, kt_155, kb_156, ks_157, Rr_158, kf_159, v_160, v_161, v_162, v_163, v_164, v_165, v_166⟩ := id hV_117
        have f_167 : G hm = some (70, .inr (9, [.int (nI th), .int (nI S.n), .ref (A 2), .ref (A 3), .ref (A 4), .ref (A 5), .int sg_153, .int sh_154, .ref (A 8), .ref (A 9), .int (nI S.rn), .ref (A 11), .ref (A 12), .ref (A 13), .int (nI S.wn), .ref (A 15), .ref (A 16), .ref (A 17), .ref (A 18), .int kt_155, .int kb_156, .int ks_157])) := v_160
        refine g_put (ty := .int) hx hb hts hin_Mo ty_Mo ty_Mo_ok nm_Mo hown hK f_167 rfl 0 (by decide) (hts _ wm754) (fun _ h9 => h9) rfl (by decide +kernel) rfl rfl (Nat.le_of_ble_eq_true rfl) d_Mo_corner_30 (fun G_168 f_169 o_170 => ?_)
        have f_171 : G_168 hm = some (70, .inr (9, [.int (nI 0), .int (nI S.n), .ref (A 2), .ref (A 3), .ref (A 4), .ref (A 5), .int sg_153, .int sh_154, .ref (A 8), .ref (A 9), .int (nI S.rn), .ref (A 11), .ref (A 12), .ref (A 13), .int (nI S.wn), .ref (A 15), .ref (A 16), .ref (A 17), .ref (A 18), .int kt_155, .int kb_156, .int ks_157])) := f_169
        have f_172 : G_168 (A 18) = some (83, .inl (cA 0, 8600, .inl kf_159)) := (o_170 _ (gne v_162 f_167 (fun e => by cases e))).trans v_162
        have gf_173 : gfr mT G G_168 := gfr_put gfr_rf f_167 (show mT 70 by decide) o_170
        have gf_174 : gfr (fun x => x = 70) _ G_168 := gfr_put gfr_rf f_167 rfl o_170
        have mr_175 : MR cA A Rr_158 G_168 := MR_fr v_161 gf_174 (show ¬ (75 : Nat) = 70 by decide) (show ¬ (76 : Nat) = 70 by decide)
        have mb_176 : MB cA A S G_168 := MB_fr v_166 gf_174 (fun x h9 => by omega)
        refine gs (pc' := 34) (fun _ _ _ _ _ hl => lv_aload_n hx hb d_Mo_corner_33 rfl (lv_at hl 0 rfl)) ?_
        refine g_get hx hb hts hin_Mo hown hK f_171 rfl 0 (by decide) (hts _ wm754) (fun _ h9 => h9) rfl d_Mo_corner_34 ?_
        refine gsb (pc1 := 42) (pc2 := 40) (fun _ _ _ _ _ => lv_if_le (tgt := 42) hx hb d_Mo_corner_37 (by decide)) (fun c_177 => ?_) (fun c_177 => ?_)
        · skip
          have nc_177 : 0 ≤ 0 := (n0_le (a := 0) (by omega)).1 c_177
          refine gs (pc' := 43) (fun _ _ _ _ _ hl => lv_aload_n hx hb d_Mo_corner_42 rfl (lv_at hl 0 rfl)) ?_
          refine g_get hx hb hts hin_Mo hown hK f_171 rfl 11 (by decide) (hts _ wm765) (fun _ h9 => h9) rfl d_Mo_corner_43 ?_
          refine gs (pc' := 47) (fun _ _ _ _ _ hl => lv_iload_n hx hb d_Mo_corner_46 rfl (lv_at hl 1 rfl)) ?_
          obtain ⟨cor_178, pla_179, hei_180, f_181, f_182, f_183, ho_184⟩ := id mb_176.2.1
          refine g_iald hx hb hK 0 f_181 rfl (show vp_in (nI g) 8 from vp_in_nI (by omega) (by omega)) d_Mo_corner_47 ?_
          refine g_eqi (show cor_178 (nI g).toNatClampNeg = cor_178 g from by rw [nI_clamp (by omega)]) ?_
          refine g_eqi (show cor_178 g = nI (S.rc g) from (ho_184 g (by omega)).1) ?_
          have rbq_185 := hW.rc g (by omega)
          refine gst (pc' := 50) (L' := [(4, .int (nI (S.rc g))), (0, .ref hm), (1, .int (nI g)), (2, .int (nI i)), (3, .int (nI j))]) (fun _ _ _ _ _ hl => lv_istore hx hb d_Mo_corner_48 hl (by decide) rfl) ?_
          refine gs (pc' := 52) (fun _ _ _ _ _ hl => lv_iload hx hb d_Mo_corner_50 (lv_at hl 0 rfl)) ?_
          refine gsb (pc1 := 104) (pc2 := 55) (fun _ _ _ _ _ => lv_if_le (tgt := 104) hx hb d_Mo_corner_52 (by decide)) (fun c_186 => ?_) (fun c_186 => ?_)
          · skip
            have nc_186 : (S.rc g) ≤ 0 := (n0_le (a := (S.rc g)) (by omega)).1 c_186
            have hc1 : ¬ (0 < S.rc g ∧ (S.un i ≠ S.un (S.rp g 0) ∨ S.un j ≠ S.un (S.rh g 0))) := fun q9 => absurd q9.1 (by omega)
            refine gs (pc' := 106) (fun _ _ _ _ _ hl => lv_iload hx hb d_Mo_corner_104 (lv_at hl 0 rfl)) ?_
            refine gs (pc' := 108) (fun _ _ _ _ _ hl => lv_bipush (v := nI 16) hx hb d_Mo_corner_106 (by decide)) ?_
            refine gsb (pc1 := 114) (pc2 := 111) (fun _ _ _ _ _ => lv_icmp_ne (tgt := 114) hx hb d_Mo_corner_108 (by decide)) (fun c_187 => ?_) (fun c_187 => ?_)
            · skip
              have nc_187 : (S.rc g) ≠ 16 := (nn_ne (a := (S.rc g)) (b := 16) (by omega) (by omega)).1 c_187
              refine gs (pc' := 116) (fun _ _ _ _ _ hl => lv_iload hx hb d_Mo_corner_114 (lv_at hl 0 rfl)) ?_
              refine gsb (pc1 := 144) (pc2 := 119) (fun _ _ _ _ _ => lv_if_le (tgt := 144) hx hb d_Mo_corner_116 (by decide)) (fun c_188 => ?_) (fun c_188 => ?_)
              · skip
                have nc_188 : (S.rc g) ≤ 0 := (n0_le (a := (S.rc g)) (by omega)).1 c_188
                have hc3 : ¬ (0 < S.rc g ∧ S.v i ≤ S.v (S.rp g (S.rc g - 1))) := fun q9 => absurd q9.1 (by omega)
                refine gs (pc' := 145) (fun _ _ _ _ _ hl => lv_aload_n hx hb d_Mo_corner_144 rfl (lv_at hl 1 rfl)) ?_
                refine g_get hx hb hts hin_Mo hown hK f_171 rfl 12 (by decide) (hts _ wm766) (fun _ h9 => h9) rfl d_Mo_corner_145 ?_
                refine gs (pc' := 150) (fun _ _ _ _ _ hl => lv_bipush (v := nI 16) hx hb d_Mo_corner_148 (by decide)) ?_
                refine gs (pc' := 151) (fun _ _ _ _ _ hl => lv_iload_n hx hb d_Mo_corner_150 rfl (lv_at hl 2 rfl)) ?_
                refine gs (pc' := 152) (fun _ _ _ _ _ hl => lv_imul hx hb d_Mo_corner_151) ?_
                refine g_eqi (show (nI 16) * (nI g) = nI (16 * g) from pk_mul _ _) ?_
                refine gs (pc' := 154) (fun _ _ _ _ _ hl => lv_iload hx hb d_Mo_corner_152 (lv_at hl 0 rfl)) ?_
                refine gs (pc' := 155) (fun _ _ _ _ _ hl => lv_iadd hx hb d_Mo_corner_154) ?_
                refine g_eqi (show (nI (16 * g)) + (nI (S.rc g)) = nI (16 * g + S.rc g) from (nI_add _ _).trans (congrArg nI (show (16 * g) + (S.rc g) = 16 * g + S.rc g by omega))) ?_
                refine gs (pc' := 156) (fun _ _ _ _ _ hl => lv_iload_n hx hb d_Mo_corner_155 rfl (lv_at hl 3 rfl)) ?_
                refine g_iast hx hb hK 0 f_182 rfl (show vp_in (nI (16 * g + S.rc g)) 128 from vp_in_nI (by omega) (by omega)) d_Mo_corner_156 (fun G_189 f_190 o_191 => ?_)
                rw [nI_clamp (by omega)] at f_190
                have f_192 : G_189 (A 18) = some (83, .inl (cA 0, 8600, .inl kf_159)) := (o_191 _ (gne f_172 f_182 (by simp))).trans f_172
                have f_193 : G_189 hm = some (70, .inr (9, [.int (nI 0), .int (nI S.n), .ref (A 2), .ref (A 3), .ref (A 4), .ref (A 5), .int sg_153, .int sh_154, .ref (A 8), .ref (A 9), .int (nI S.rn), .ref (A 11), .ref (A 12), .ref (A 13), .int (nI S.wn), .ref (A 15), .ref (A 16), .ref (A 17), .ref (A 18), .int kt_155, .int kb_156, .int ks_157])) := (o_191 _ (gne f_171 f_182 (fun e => by cases e))).trans f_171
                have f_194 : G_189 (A 11) = some (77, .inl (cA 0, 8, .inl cor_178)) := (o_191 _ (gne f_181 f_182 (by simp))).trans f_181
                have f_195 : G_189 (A 13) = some (79, .inl (cA 0, 128, .inl hei_180)) := (o_191 _ (gne f_183 f_182 (by simp))).trans f_183
                have gf_196 : gfr mT G G_189 := gfr_put gf_173 f_182 (show mT 78 by decide) o_191
                have gf_197 : gfr (fun x => x = 78) _ G_189 := gfr_put gfr_rf f_182 rfl o_191
                have mr_198 : MR cA A Rr_158 G_189 := MR_fr mr_175 gf_197 (show ¬ (75 : Nat) = 78 by decide) (show ¬ (76 : Nat) = 78 by decide)
                have mb_200 : MV cA A S G_189 := MV_fr mb_176.1 gf_197 (show ¬ (71 : Nat) = 78 by decide) (show ¬ (72 : Nat) = 78 by decide) (show ¬ (73 : Nat) = 78 by decide) (show ¬ (74 : Nat) = 78 by decide)
                have mb_201 : ME cA A S G_189 := ME_fr mb_176.2.2 gf_197 (show ¬ (80 : Nat) = 78 by decide) (show ¬ (81 : Nat) = 78 by decide) (show ¬ (82 : Nat) = 78 by decide)
                refine gs (pc' := 158) (fun _ _ _ _ _ hl => lv_aload_n hx hb d_Mo_corner_157 rfl (lv_at hl 1 rfl)) ?_
                refine g_get hx hb hts hin_Mo hown hK f_193 rfl 13 (by decide) (hts _ wm767) (fun _ h9 => h9) rfl d_Mo_corner_158 ?_
                refine gs (pc' := 163) (fun _ _ _ _ _ hl => lv_bipush (v := nI 16) hx hb d_Mo_corner_161 (by decide)) ?_
                refine gs (pc' := 164) (fun _ _ _ _ _ hl => lv_iload_n hx hb d_Mo_corner_163 rfl (lv_at hl 2 rfl)) ?_
                refine gs (pc' := 165) (fun _ _ _ _ _ hl => lv_imul hx hb d_Mo_corner_164) ?_
                refine g_eqi (show (nI 16) * (nI g) = nI (16 * g) from pk_mul _ _) ?_
                refine gs (pc' := 167) (fun _ _ _ _ _ hl => lv_iload hx hb d_Mo_corner_165 (lv_at hl 0 rfl)) ?_
                refine gs (pc' := 168) (fun _ _ _ _ _ hl => lv_iadd hx hb d_Mo_corner_167) ?_
                refine g_eqi (show (nI (16 * g)) + (nI (S.rc g)) = nI (16 * g + S.rc g) from (nI_add _ _).trans (congrArg nI (show (16 * g) + (S.rc g) = 16 * g + S.rc g by omega))) ?_
                refine gs (pc' := 169) (fun _ _ _ _ _ hl => lv_iload_n hx hb d_Mo_corner_168 rfl (lv_at hl 4 rfl)) ?_
                refine g_iast hx hb hK 0 f_195 rfl (show vp_in (nI (16 * g + S.rc g)) 128 from vp_in_nI (by omega) (by omega)) d_Mo_corner_169 (fun G_202 f_203 o_204 => ?_)
                rw [nI_clamp (by omega)] at f_203
                have f_205 : G_202 (A 18) = some (83, .inl (cA 0, 8600, .inl kf_159)) := (o_204 _ (gne f_192 f_195 (by simp))).trans f_192
                have f_206 : G_202 hm = some (70, .inr (9, [.int (nI 0), .int (nI S.n), .ref (A 2), .ref (A 3), .ref (A 4), .ref (A 5), .int sg_153, .int sh_154, .ref (A 8), .ref (A 9), .int (nI S.rn), .ref (A 11), .ref (A 12), .ref (A 13), .int (nI S.wn), .ref (A 15), .ref (A 16), .ref (A 17), .ref (A 18), .int kt_155, .int kb_156, .int ks_157])) := (o_204 _ (gne f_193 f_195 (fun e => by cases e))).trans f_193
                have f_207 : G_202 (A 11) = some (77, .inl (cA 0, 8, .inl cor_178)) := (o_204 _ (gne f_194 f_195 (by simp))).trans f_194
                have f_208 : G_202 (A 12) = some (78, .inl (cA 0, 128, .inl (upd pla_179 (16 * g + S.rc g) (nI i)))) := (o_204 _ (gne f_190 f_195 (by simp))).trans f_190
                have gf_209 : gfr mT G G_202 := gfr_put gf_196 f_195 (show mT 79 by decide) o_204
                have gf_210 : gfr (fun x => x = 79) _ G_202 := gfr_put gfr_rf f_195 rfl o_204
                have mr_211 : MR cA A Rr_158 G_202 := MR_fr mr_198 gf_210 (show ¬ (75 : Nat) = 79 by decide) (show ¬ (76 : Nat) = 79 by decide)
                have mb_213 : MV cA A S G_202 := MV_fr mb_200 gf_210 (show ¬ (71 : Nat) = 79 by decide) (show ¬ (72 : Nat) = 79 by decide) (show ¬ (73 : Nat) = 79 by decide) (show ¬ (74 : Nat) = 79 by decide)
                have mb_214 : ME cA A S G_202 := ME_fr mb_201 gf_210 (show ¬ (80 : Nat) = 79 by decide) (show ¬ (81 : Nat) = 79 by decide) (show ¬ (82 : Nat) = 79 by decide)
                refine gs (pc' := 171) (fun _ _ _ _ _ hl => lv_aload_n hx hb d_Mo_corner_170 rfl (lv_at hl 1 rfl)) ?_
                refine g_get hx hb hts hin_Mo hown hK f_206 rfl 11 (by decide) (hts _ wm765) (fun _ h9 => h9) rfl d_Mo_corner_171 ?_
                refine gs (pc' := 175) (fun _ _ _ _ _ hl => lv_iload_n hx hb d_Mo_corner_174 rfl (lv_at hl 2 rfl)) ?_
                refine gs (pc' := 176) (fun _ _ _ _ _ hl => lv_dup2_11 hx hb d_Mo_corner_175 rfl rfl) ?_
                refine g_iald hx hb hK 0 f_207 rfl (show vp_in (nI g) 8 from vp_in_nI (by omega) (by omega)) d_Mo_corner_176 ?_
                refine g_eqi (show cor_178 (nI g).toNatClampNeg = cor_178 g from by rw [nI_clamp (by omega)]) ?_
                refine g_eqi (show cor_178 g = nI (S.rc g) from (ho_184 g (by omega)).1) ?_
                have rbq_215 := hW.rc g (by omega)
                refine gs (pc' := 178) (fun _ _ _ _ _ hl => lv_iconst (v := nI 1) hx hb d_Mo_corner_177 (by decide)) ?_
                refine gs (pc' := 179) (fun _ _ _ _ _ hl => lv_iadd hx hb d_Mo_corner_178) ?_
                refine g_eqi (show (nI (S.rc g)) + (nI 1) = nI ((S.rc g) + 1) from nI_add _ _) ?_
                refine g_iast hx hb hK 0 f_207 rfl (show vp_in (nI g) 8 from vp_in_nI (by omega) (by omega)) d_Mo_corner_179 (fun G_216 f_217 o_218 => ?_)
                rw [nI_clamp (by omega)] at f_217
                have f_219 : G_216 (A 18) = some (83, .inl (cA 0, 8600, .inl kf_159)) := (o_218 _ (gne f_205 f_207 (by simp))).trans f_205
                have f_220 : G_216 hm = some (70, .inr (9, [.int (nI 0), .int (nI S.n), .ref (A 2), .ref (A 3), .ref (A 4), .ref (A 5), .int sg_153, .int sh_154, .ref (A 8), .ref (A 9), .int (nI S.rn), .ref (A 11), .ref (A 12), .ref (A 13), .int (nI S.wn), .ref (A 15), .ref (A 16), .ref (A 17), .ref (A 18), .int kt_155, .int kb_156, .int ks_157])) := (o_218 _ (gne f_206 f_207 (fun e => by cases e))).trans f_206
                have f_221 : G_216 (A 12) = some (78, .inl (cA 0, 128, .inl (upd pla_179 (16 * g + S.rc g) (nI i)))) := (o_218 _ (gne f_208 f_207 (by simp))).trans f_208
                have f_222 : G_216 (A 13) = some (79, .inl (cA 0, 128, .inl (upd hei_180 (16 * g + S.rc g) (nI j)))) := (o_218 _ (gne f_203 f_207 (by simp))).trans f_203
                have gf_223 : gfr mT G G_216 := gfr_put gf_209 f_207 (show mT 77 by decide) o_218
                have gf_224 : gfr (fun x => x = 77) _ G_216 := gfr_put gfr_rf f_207 rfl o_218
                have mr_225 : MR cA A Rr_158 G_216 := MR_fr mr_211 gf_224 (show ¬ (75 : Nat) = 77 by decide) (show ¬ (76 : Nat) = 77 by decide)
                have mb_227 : MV cA A S G_216 := MV_fr mb_213 gf_224 (show ¬ (71 : Nat) = 77 by decide) (show ¬ (72 : Nat) = 77 by decide) (show ¬ (73 : Nat) = 77 by decide) (show ¬ (74 : Nat) = 77 by decide)
                have mb_228 : ME cA A S G_216 := ME_fr mb_214 gf_224 (show ¬ (80 : Nat) = 77 by decide) (show ¬ (81 : Nat) = 77 by decide) (show ¬ (82 : Nat) = 77 by decide)
                refine gs (pc' := 182) (fun _ _ _ _ _ hl => lv_iload hx hb d_Mo_corner_180 (lv_at hl 0 rfl)) ?_
                refine gs (pc' := 183) (fun _ _ _ _ _ hl => lv_iconst (v := nI 1) hx hb d_Mo_corner_182 (by decide)) ?_
                refine gs (pc' := 184) (fun _ _ _ _ _ hl => lv_iadd hx hb d_Mo_corner_183) ?_
                refine g_eqi (show (nI (S.rc g)) + (nI 1) = nI ((S.rc g) + 1) from nI_add _ _) ?_
                have hmo9 : MO cA A (S.sr S.rn (fup S.rc g (S.rc g + 1)) (fup S.rp g (fup (S.rp g) (S.rc g) i)) (fup S.rh g (fup (S.rh g) (S.rc g) j))) G_216 := by
                  refine ⟨_, _, _, f_217, f_221, f_222, fun i9 h9 => ?_⟩
                  have h9 : i9 < S.rn := h9
                  show _ = nI (fup S.rc g (S.rc g + 1) i9) ∧ ∀ j9, j9 < fup S.rc g (S.rc g + 1) i9 → _ = nI (fup S.rp g (fup (S.rp g) (S.rc g) i) i9 j9) ∧ _ = nI (fup S.rh g (fup (S.rh g) (S.rc g) j) i9 j9)
                  have hrc8 := hW.rc i9 h9
                  obtain ⟨q1, q2⟩ := ho_184 i9 h9
                  by_cases e9 : i9 = g
                  · subst e9
                    rw [fup_s, fup_s, fup_s]
                    refine ⟨pk_us, fun j9 h8 => ?_⟩
                    by_cases e8 : j9 = S.rc i9
                    · subst e8; rw [fup_s, fup_s]; exact ⟨pk_us, pk_us⟩
                    · rw [fup_n e8, fup_n e8, pk_un (by omega), pk_un (by omega)]; exact q2 j9 (by omega)
                  · rw [fup_n e9, fup_n e9, fup_n e9]
                    refine ⟨(pk_un e9).trans q1, fun j9 h8 => ?_⟩
                    have h7 : 16 * i9 + j9 ≠ 16 * g + S.rc g := by omega
                    rw [pk_un h7, pk_un h7]; exact q2 j9 h8
                have hV_229 : MW cA hm A (S.sr S.rn (fup S.rc g (S.rc g + 1)) (fup S.rp g (fup (S.rp g) (S.rc g) i)) (fup S.rh g (fup (S.rh g) (S.rc g) j))) 0 none none none G_216 := ⟨sg_153, sh_154, kt_155, kb_156, ks_157, Rr_158, _, f_220, mr_225, f_219, sn_, sn_, sn_, ⟨mb_227, hmo9, mb_228⟩⟩
                rw [st_corner hrn hn hi_g hi_i hi_j, if_neg hc1, if_neg (by omega), if_neg hc3] at hret
                exact hret 184 _ _ _ _ d_Mo_corner_184 hB1 hB2 ⟨rfl, fun _ => nI1_ _, hV_229, gf_223⟩
              · skip
                have nc_188 : (S.rc g) > 0 := (n0_le (a := (S.rc g)) (by omega)).2 c_188
                refine gs (pc' := 120) (fun _ _ _ _ _ hl => lv_aload_n hx hb d_Mo_corner_119 rfl (lv_at hl 1 rfl)) ?_
                refine gs (pc' := 121) (fun _ _ _ _ _ hl => lv_iload_n hx hb d_Mo_corner_120 rfl (lv_at hl 3 rfl)) ?_
                refine gs (pc' := 122) (fun _ _ _ _ _ hl => lv_aload_n hx hb d_Mo_corner_121 rfl (lv_at hl 1 rfl)) ?_
                refine g_get hx hb hts hin_Mo hown hK f_171 rfl 12 (by decide) (hts _ wm766) (fun _ h9 => h9) rfl d_Mo_corner_122 ?_
                refine gs (pc' := 127) (fun _ _ _ _ _ hl => lv_bipush (v := nI 16) hx hb d_Mo_corner_125 (by decide)) ?_
                refine gs (pc' := 128) (fun _ _ _ _ _ hl => lv_iload_n hx hb d_Mo_corner_127 rfl (lv_at hl 2 rfl)) ?_
                refine gs (pc' := 129) (fun _ _ _ _ _ hl => lv_imul hx hb d_Mo_corner_128) ?_
                refine g_eqi (show (nI 16) * (nI g) = nI (16 * g) from pk_mul _ _) ?_
                refine gs (pc' := 131) (fun _ _ _ _ _ hl => lv_iload hx hb d_Mo_corner_129 (lv_at hl 0 rfl)) ?_
                refine gs (pc' := 132) (fun _ _ _ _ _ hl => lv_iadd hx hb d_Mo_corner_131) ?_
                refine g_eqi (show (nI (16 * g)) + (nI (S.rc g)) = nI (16 * g + S.rc g) from (nI_add _ _).trans (congrArg nI (show (16 * g) + (S.rc g) = 16 * g + S.rc g by omega))) ?_
                refine gs (pc' := 133) (fun _ _ _ _ _ hl => lv_iconst (v := nI 1) hx hb d_Mo_corner_132 (by decide)) ?_
                refine gs (pc' := 134) (fun _ _ _ _ _ hl => lv_isub hx hb d_Mo_corner_133) ?_
                refine g_eqi (show (nI (16 * g + S.rc g)) - (nI 1) = nI (16 * g + (S.rc g - 1)) from (pk_sub (by omega)).trans (congrArg nI (show (16 * g + S.rc g) - 1 = 16 * g + (S.rc g - 1) by omega))) ?_
                refine g_iald hx hb hK 0 f_182 rfl (show vp_in (nI (16 * g + (S.rc g - 1))) 128 from vp_in_nI (by omega) (by omega)) d_Mo_corner_134 ?_
                refine g_eqi (show pla_179 (nI (16 * g + (S.rc g - 1))).toNatClampNeg = pla_179 (16 * g + (S.rc g - 1)) from by rw [nI_clamp (by omega)]) ?_
                refine g_eqi (show pla_179 (16 * g + (S.rc g - 1)) = nI (S.rp g (S.rc g - 1)) from ((ho_184 g (by omega)).2 (S.rc g - 1) (by omega)).1) ?_
                have rbq_230 := (hW.rp g (by omega) (S.rc g - 1) (by omega)).1
                have hV_231 : MW cA hm A S 0 qm qo qk G_168 := ⟨sg_153, sh_154, kt_155, kb_156, ks_157, Rr_158, _, f_171, mr_175, f_172, v_163, v_164, v_165, mb_176⟩
                refine g_outi hlo (g_runV (As := [.int (nI i), .int (nI (S.rp g (S.rc g - 1)))]) (rest := []) ⟨hx, hb, hml, hown, hts⟩ hK hZ hRc hRs (c_Mo_compareValues l D cA lo MC MS G_168 B hm A S 0 qm qo qk hV_231 hW i (by omega) (S.rp g (S.rc g - 1)) (by omega) hB1 hB2) (fun _ _ => cwV 2 hts (tb_good (tb_cons wm949 (tb_cons wm951 (tb_cons ws44 (tb_cons wm12 k_Mo_compareValues))))) rfl rfl rfl (by decide +kernel) ⟨by rw [hRf]; exact Nat.le_of_ble_eq_true rfl, by rw [hRl]; exact Nat.le_of_ble_eq_true rfl⟩) f_171 rfl hB1 hB2 rfl (Nat.le_of_ble_eq_true rfl) d_Mo_corner_135) (fun r_235 G_232 B_233 p_234 => ?_)
                obtain ⟨e_236, e_239, hV_237, gf_238⟩ := p_234
                subst e_239
                have e_236b : B = B_233 := e_236.symm
                subst e_236b
                have gf_240 : gfr mT G G_232 := mT_mT gf_173 gf_238
                have bd_241 := rcmp_bd (S.v i) (S.v (S.rp g (S.rc g - 1)))
                refine gsb (pc1 := 144) (pc2 := 141) (fun _ _ _ _ _ => lv_if_gt (tgt := 144) hx hb d_Mo_corner_138 (by decide)) (fun c_242 => ?_) (fun c_242 => ?_)
                · skip
                  have nc_242 : (rcmp (S.v i) (S.v (S.rp g (S.rc g - 1)))) > 0 := (ii_gt (a := (rcmp (S.v i) (S.v (S.rp g (S.rc g - 1))))) (b := 0) (by omega) (by omega) (by omega) (by omega)).1 (by first | exact c_242 | (have z9 := c_242; simp only [nI_iI] at z9; exact z9))
                  have hc3 : ¬ (0 < S.rc g ∧ S.v i ≤ S.v (S.rp g (S.rc g - 1))) := fun q9 => absurd (rcmp_le.mpr q9.2) (by omega)
                  refine gs (pc' := 145) (fun _ _ _ _ _ hl => lv_aload_n hx hb d_Mo_corner_144 rfl (lv_at hl 1 rfl)) ?_
                  obtain ⟨sg_243, sh_244, kt_245, kb_246, ks_247, Rr_248, kf_249, v_250, v_251, v_252, v_253, v_254, v_255, v_256⟩ := id hV_237
                  have f_257 : G_232 hm = some (70, .inr (9, [.int (nI 0), .int (nI S.n), .ref (A 2), .ref (A 3), .ref (A 4), .ref (A 5), .int sg_243, .int sh_244, .ref (A 8), .ref (A 9), .int (nI S.rn), .ref (A 11), .ref (A 12), .ref (A 13), .int (nI S.wn), .ref (A 15), .ref (A 16), .ref (A 17), .ref (A 18), .int kt_245, .int kb_246, .int ks_247])) := v_250
                  refine g_get hx hb hts hin_Mo hown hK f_257 rfl 12 (by decide) (hts _ wm766) (fun _ h9 => h9) rfl d_Mo_corner_145 ?_
                  refine gs (pc' := 150) (fun _ _ _ _ _ hl => lv_bipush (v := nI 16) hx hb d_Mo_corner_148 (by decide)) ?_
                  refine gs (pc' := 151) (fun _ _ _ _ _ hl => lv_iload_n hx hb d_Mo_corner_150 rfl (lv_at hl 2 rfl)) ?_
                  refine gs (pc' := 152) (fun _ _ _ _ _ hl => lv_imul hx hb d_Mo_corner_151) ?_
                  refine g_eqi (show (nI 16) * (nI g) = nI (16 * g) from pk_mul _ _) ?_
                  refine gs (pc' := 154) (fun _ _ _ _ _ hl => lv_iload hx hb d_Mo_corner_152 (lv_at hl 0 rfl)) ?_
                  refine gs (pc' := 155) (fun _ _ _ _ _ hl => lv_iadd hx hb d_Mo_corner_154) ?_
                  refine g_eqi (show (nI (16 * g)) + (nI (S.rc g)) = nI (16 * g + S.rc g) from (nI_add _ _).trans (congrArg nI (show (16 * g) + (S.rc g) = 16 * g + S.rc g by omega))) ?_
                  refine gs (pc' := 156) (fun _ _ _ _ _ hl => lv_iload_n hx hb d_Mo_corner_155 rfl (lv_at hl 3 rfl)) ?_
                  obtain ⟨cor_258, pla_259, hei_260, f_261, f_262, f_263, ho_264⟩ := id v_256.2.1
                  refine g_iast hx hb hK 0 f_262 rfl (show vp_in (nI (16 * g + S.rc g)) 128 from vp_in_nI (by omega) (by omega)) d_Mo_corner_156 (fun G_265 f_266 o_267 => ?_)
                  rw [nI_clamp (by omega)] at f_266
                  have f_268 : G_265 hm = some (70, .inr (9, [.int (nI 0), .int (nI S.n), .ref (A 2), .ref (A 3), .ref (A 4), .ref (A 5), .int sg_243, .int sh_244, .ref (A 8), .ref (A 9), .int (nI S.rn), .ref (A 11), .ref (A 12), .ref (A 13), .int (nI S.wn), .ref (A 15), .ref (A 16), .ref (A 17), .ref (A 18), .int kt_245, .int kb_246, .int ks_247])) := (o_267 _ (gne f_257 f_262 (fun e => by cases e))).trans f_257
                  have f_269 : G_265 (A 18) = some (83, .inl (cA 0, 8600, .inl kf_249)) := (o_267 _ (gne v_252 f_262 (by simp))).trans v_252
                  have f_270 : G_265 (A 11) = some (77, .inl (cA 0, 8, .inl cor_258)) := (o_267 _ (gne f_261 f_262 (by simp))).trans f_261
                  have f_271 : G_265 (A 13) = some (79, .inl (cA 0, 128, .inl hei_260)) := (o_267 _ (gne f_263 f_262 (by simp))).trans f_263
                  have gf_272 : gfr mT G G_265 := gfr_put gf_240 f_262 (show mT 78 by decide) o_267
                  have gf_273 : gfr (fun x => x = 78) _ G_265 := gfr_put gfr_rf f_262 rfl o_267
                  have mr_274 : MR cA A Rr_248 G_265 := MR_fr v_251 gf_273 (show ¬ (75 : Nat) = 78 by decide) (show ¬ (76 : Nat) = 78 by decide)
                  have mb_276 : MV cA A S G_265 := MV_fr v_256.1 gf_273 (show ¬ (71 : Nat) = 78 by decide) (show ¬ (72 : Nat) = 78 by decide) (show ¬ (73 : Nat) = 78 by decide) (show ¬ (74 : Nat) = 78 by decide)
                  have mb_277 : ME cA A S G_265 := ME_fr v_256.2.2 gf_273 (show ¬ (80 : Nat) = 78 by decide) (show ¬ (81 : Nat) = 78 by decide) (show ¬ (82 : Nat) = 78 by decide)
                  refine gs (pc' := 158) (fun _ _ _ _ _ hl => lv_aload_n hx hb d_Mo_corner_157 rfl (lv_at hl 1 rfl)) ?_
                  refine g_get hx hb hts hin_Mo hown hK f_268 rfl 13 (by decide) (hts _ wm767) (fun _ h9 => h9) rfl d_Mo_corner_158 ?_
                  refine gs (pc' := 163) (fun _ _ _ _ _ hl => lv_bipush (v := nI 16) hx hb d_Mo_corner_161 (by decide)) ?_
                  refine gs (pc' := 164) (fun _ _ _ _ _ hl => lv_iload_n hx hb d_Mo_corner_163 rfl (lv_at hl 2 rfl)) ?_
                  refine gs (pc' := 165) (fun _ _ _ _ _ hl => lv_imul hx hb d_Mo_corner_164) ?_
                  refine g_eqi (show (nI 16) * (nI g) = nI (16 * g) from pk_mul _ _) ?_
                  refine gs (pc' := 167) (fun _ _ _ _ _ hl => lv_iload hx hb d_Mo_corner_165 (lv_at hl 0 rfl)) ?_
                  refine gs (pc' := 168) (fun _ _ _ _ _ hl => lv_iadd hx hb d_Mo_corner_167) ?_
                  refine g_eqi (show (nI (16 * g)) + (nI (S.rc g)) = nI (16 * g + S.rc g) from (nI_add _ _).trans (congrArg nI (show (16 * g) + (S.rc g) = 16 * g + S.rc g by omega))) ?_
                  refine gs (pc' := 169) (fun _ _ _ _ _ hl => lv_iload_n hx hb d_Mo_corner_168 rfl (lv_at hl 4 rfl)) ?_
                  refine g_iast hx hb hK 0 f_271 rfl (show vp_in (nI (16 * g + S.rc g)) 128 from vp_in_nI (by omega) (by omega)) d_Mo_corner_169 (fun G_278 f_279 o_280 => ?_)
                  rw [nI_clamp (by omega)] at f_279
                  have f_281 : G_278 hm = some (70, .inr (9, [.int (nI 0), .int (nI S.n), .ref (A 2), .ref (A 3), .ref (A 4), .ref (A 5), .int sg_243, .int sh_244, .ref (A 8), .ref (A 9), .int (nI S.rn), .ref (A 11), .ref (A 12), .ref (A 13), .int (nI S.wn), .ref (A 15), .ref (A 16), .ref (A 17), .ref (A 18), .int kt_245, .int kb_246, .int ks_247])) := (o_280 _ (gne f_268 f_271 (fun e => by cases e))).trans f_268
                  have f_282 : G_278 (A 18) = some (83, .inl (cA 0, 8600, .inl kf_249)) := (o_280 _ (gne f_269 f_271 (by simp))).trans f_269
                  have f_283 : G_278 (A 11) = some (77, .inl (cA 0, 8, .inl cor_258)) := (o_280 _ (gne f_270 f_271 (by simp))).trans f_270
                  have f_284 : G_278 (A 12) = some (78, .inl (cA 0, 128, .inl (upd pla_259 (16 * g + S.rc g) (nI i)))) := (o_280 _ (gne f_266 f_271 (by simp))).trans f_266
                  have gf_285 : gfr mT G G_278 := gfr_put gf_272 f_271 (show mT 79 by decide) o_280
                  have gf_286 : gfr (fun x => x = 79) _ G_278 := gfr_put gfr_rf f_271 rfl o_280
                  have mr_287 : MR cA A Rr_248 G_278 := MR_fr mr_274 gf_286 (show ¬ (75 : Nat) = 79 by decide) (show ¬ (76 : Nat) = 79 by decide)
                  have mb_289 : MV cA A S G_278 := MV_fr mb_276 gf_286 (show ¬ (71 : Nat) = 79 by decide) (show ¬ (72 : Nat) = 79 by decide) (show ¬ (73 : Nat) = 79 by decide) (show ¬ (74 : Nat) = 79 by decide)
                  have mb_290 : ME cA A S G_278 := ME_fr mb_277 gf_286 (show ¬ (80 : Nat) = 79 by decide) (show ¬ (81 : Nat) = 79 by decide) (show ¬ (82 : Nat) = 79 by decide)
                  refine gs (pc' := 171) (fun _ _ _ _ _ hl => lv_aload_n hx hb d_Mo_corner_170 rfl (lv_at hl 1 rfl)) ?_
                  refine g_get hx hb hts hin_Mo hown hK f_281 rfl 11 (by decide) (hts _ wm765) (fun _ h9 => h9) rfl d_Mo_corner_171 ?_
                  refine gs (pc' := 175) (fun _ _ _ _ _ hl => lv_iload_n hx hb d_Mo_corner_174 rfl (lv_at hl 2 rfl)) ?_
                  refine gs (pc' := 176) (fun _ _ _ _ _ hl => lv_dup2_11 hx hb d_Mo_corner_175 rfl rfl) ?_
                  refine g_iald hx hb hK 0 f_283 rfl (show vp_in (nI g) 8 from vp_in_nI (by omega) (by omega)) d_Mo_corner_176 ?_
                  refine g_eqi (show cor_258 (nI g).toNatClampNeg = cor_258 g from by rw [nI_clamp (by omega)]) ?_
                  refine g_eqi (show cor_258 g = nI (S.rc g) from (ho_264 g (by omega)).1) ?_
                  have rbq_291 := hW.rc g (by omega)
                  refine gs (pc' := 178) (fun _ _ _ _ _ hl => lv_iconst (v := nI 1) hx hb d_Mo_corner_177 (by decide)) ?_
                  refine gs (pc' := 179) (fun _ _ _ _ _ hl => lv_iadd hx hb d_Mo_corner_178) ?_
                  refine g_eqi (show (nI (S.rc g)) + (nI 1) = nI ((S.rc g) + 1) from nI_add _ _) ?_
                  refine g_iast hx hb hK 0 f_283 rfl (show vp_in (nI g) 8 from vp_in_nI (by omega) (by omega)) d_Mo_corner_179 (fun G_292 f_293 o_294 => ?_)
                  rw [nI_clamp (by omega)] at f_293
                  have f_295 : G_292 hm = some (70, .inr (9, [.int (nI 0), .int (nI S.n), .ref (A 2), .ref (A 3), .ref (A 4), .ref (A 5), .int sg_243, .int sh_244, .ref (A 8), .ref (A 9), .int (nI S.rn), .ref (A 11), .ref (A 12), .ref (A 13), .int (nI S.wn), .ref (A 15), .ref (A 16), .ref (A 17), .ref (A 18), .int kt_245, .int kb_246, .int ks_247])) := (o_294 _ (gne f_281 f_283 (fun e => by cases e))).trans f_281
                  have f_296 : G_292 (A 18) = some (83, .inl (cA 0, 8600, .inl kf_249)) := (o_294 _ (gne f_282 f_283 (by simp))).trans f_282
                  have f_297 : G_292 (A 12) = some (78, .inl (cA 0, 128, .inl (upd pla_259 (16 * g + S.rc g) (nI i)))) := (o_294 _ (gne f_284 f_283 (by simp))).trans f_284
                  have f_298 : G_292 (A 13) = some (79, .inl (cA 0, 128, .inl (upd hei_260 (16 * g + S.rc g) (nI j)))) := (o_294 _ (gne f_279 f_283 (by simp))).trans f_279
                  have gf_299 : gfr mT G G_292 := gfr_put gf_285 f_283 (show mT 77 by decide) o_294
                  have gf_300 : gfr (fun x => x = 77) _ G_292 := gfr_put gfr_rf f_283 rfl o_294
                  have mr_301 : MR cA A Rr_248 G_292 := MR_fr mr_287 gf_300 (show ¬ (75 : Nat) = 77 by decide) (show ¬ (76 : Nat) = 77 by decide)
                  have mb_303 : MV cA A S G_292 := MV_fr mb_289 gf_300 (show ¬ (71 : Nat) = 77 by decide) (show ¬ (72 : Nat) = 77 by decide) (show ¬ (73 : Nat) = 77 by decide) (show ¬ (74 : Nat) = 77 by decide)
                  have mb_304 : ME cA A S G_292 := ME_fr mb_290 gf_300 (show ¬ (80 : Nat) = 77 by decide) (show ¬ (81 : Nat) = 77 by decide) (show ¬ (82 : Nat) = 77 by decide)
                  refine gs (pc' := 182) (fun _ _ _ _ _ hl => lv_iload hx hb d_Mo_corner_180 (lv_at hl 0 rfl)) ?_
                  refine gs (pc' := 183) (fun _ _ _ _ _ hl => lv_iconst (v := nI 1) hx hb d_Mo_corner_182 (by decide)) ?_
                  refine gs (pc' := 184) (fun _ _ _ _ _ hl => lv_iadd hx hb d_Mo_corner_183) ?_
                  refine g_eqi (show (nI (S.rc g)) + (nI 1) = nI ((S.rc g) + 1) from nI_add _ _) ?_
                  have hmo9 : MO cA A (S.sr S.rn (fup S.rc g (S.rc g + 1)) (fup S.rp g (fup (S.rp g) (S.rc g) i)) (fup S.rh g (fup (S.rh g) (S.rc g) j))) G_292 := by
                    refine ⟨_, _, _, f_293, f_297, f_298, fun i9 h9 => ?_⟩
                    have h9 : i9 < S.rn := h9
                    show _ = nI (fup S.rc g (S.rc g + 1) i9) ∧ ∀ j9, j9 < fup S.rc g (S.rc g + 1) i9 → _ = nI (fup S.rp g (fup (S.rp g) (S.rc g) i) i9 j9) ∧ _ = nI (fup S.rh g (fup (S.rh g) (S.rc g) j) i9 j9)
                    have hrc8 := hW.rc i9 h9
                    obtain ⟨q1, q2⟩ := ho_264 i9 h9
                    by_cases e9 : i9 = g
                    · subst e9
                      rw [fup_s, fup_s, fup_s]
                      refine ⟨pk_us, fun j9 h8 => ?_⟩
                      by_cases e8 : j9 = S.rc i9
                      · subst e8; rw [fup_s, fup_s]; exact ⟨pk_us, pk_us⟩
                      · rw [fup_n e8, fup_n e8, pk_un (by omega), pk_un (by omega)]; exact q2 j9 (by omega)
                    · rw [fup_n e9, fup_n e9, fup_n e9]
                      refine ⟨(pk_un e9).trans q1, fun j9 h8 => ?_⟩
                      have h7 : 16 * i9 + j9 ≠ 16 * g + S.rc g := by omega
                      rw [pk_un h7, pk_un h7]; exact q2 j9 h8
                  have hV_305 : MW cA hm A (S.sr S.rn (fup S.rc g (S.rc g + 1)) (fup S.rp g (fup (S.rp g) (S.rc g) i)) (fup S.rh g (fup (S.rh g) (S.rc g) j))) 0 none none none G_292 := ⟨sg_243, sh_244, kt_245, kb_246, ks_247, Rr_248, _, f_295, mr_301, f_296, sn_, sn_, sn_, ⟨mb_303, hmo9, mb_304⟩⟩
                  rw [st_corner hrn hn hi_g hi_i hi_j, if_neg hc1, if_neg (by omega), if_neg hc3] at hret
                  exact hret 184 _ _ _ _ d_Mo_corner_184 hB1 hB2 ⟨rfl, fun _ => nI1_ _, hV_305, gf_299⟩
                · skip
                  have nc_242 : (rcmp (S.v i) (S.v (S.rp g (S.rc g - 1)))) ≤ 0 := (ii_gt (a := (rcmp (S.v i) (S.v (S.rp g (S.rc g - 1))))) (b := 0) (by omega) (by omega) (by omega) (by omega)).2 (by first | exact c_242 | (have z9 := c_242; simp only [nI_iI] at z9; exact z9))
                  have hc3 : 0 < S.rc g ∧ S.v i ≤ S.v (S.rp g (S.rc g - 1)) := ⟨by omega, rcmp_le.mp (by omega)⟩
                  refine gs (pc' := 143) (fun _ _ _ _ _ hl => lv_bipush (v := (-5)) hx hb d_Mo_corner_141 (by decide)) ?_
                  refine g_eqi (show (-5) = iI (-5) from by decide) ?_
                  have hV_306 := MW_un hV_237
                  rw [st_corner hrn hn hi_g hi_i hi_j, if_neg hc1, if_neg (by omega), if_pos hc3] at hret
                  exact hret 143 _ _ _ _ d_Mo_corner_143 hB1 hB2 ⟨rfl, fun _ => rfl, hV_306, gf_240⟩
            · skip
              have nc_187 : (S.rc g) = 16 := (nn_ne (a := (S.rc g)) (b := 16) (by omega) (by omega)).2 c_187
              refine gs (pc' := 113) (fun _ _ _ _ _ hl => lv_bipush (v := (-3)) hx hb d_Mo_corner_111 (by decide)) ?_
              refine g_eqi (show (-3) = iI (-3) from by decide) ?_
              have hV_307 : MW cA hm A S 0 none none none G_168 := ⟨sg_153, sh_154, kt_155, kb_156, ks_157, Rr_158, _, f_171, mr_175, f_172, sn_, sn_, sn_, mb_176⟩
              rw [st_corner hrn hn hi_g hi_i hi_j, if_neg hc1, if_pos (by omega)] at hret
              exact hret 113 _ _ _ _ d_Mo_corner_113 hB1 hB2 ⟨rfl, fun _ => rfl, hV_307, gf_173⟩
          · skip
            have nc_186 : (S.rc g) > 0 := (n0_le (a := (S.rc g)) (by omega)).2 c_186
            have hc0 : 0 < S.rc g := by omega
            refine gs (pc' := 56) (fun _ _ _ _ _ hl => lv_aload_n hx hb d_Mo_corner_55 rfl (lv_at hl 1 rfl)) ?_
            refine g_get hx hb hts hin_Mo hown hK f_171 rfl 3 (by decide) (hts _ wm757) (fun _ h9 => h9) rfl d_Mo_corner_56 ?_
            refine gs (pc' := 60) (fun _ _ _ _ _ hl => lv_iload_n hx hb d_Mo_corner_59 rfl (lv_at hl 3 rfl)) ?_
            obtain ⟨sgn_308, unt_309, sto_310, szs_311, f_312, f_313, f_314, f_315, hv_316⟩ := id mb_176.1
            refine g_iald hx hb hK 0 f_313 rfl (show vp_in (nI i) 200 from vp_in_nI (by omega) (by omega)) d_Mo_corner_60 ?_
            refine g_eqi (show unt_309 (nI i).toNatClampNeg = unt_309 i from by rw [nI_clamp (by omega)]) ?_
            refine g_eqi (show unt_309 i = iI (S.un i) from (hv_316 i (by omega)).2.1) ?_
            have ub_317 := (hW.v i (by omega)).2.1
            have ub_318 := (hW.v i (by omega)).2.2
            refine gs (pc' := 62) (fun _ _ _ _ _ hl => lv_aload_n hx hb d_Mo_corner_61 rfl (lv_at hl 1 rfl)) ?_
            refine g_get hx hb hts hin_Mo hown hK f_171 rfl 3 (by decide) (hts _ wm757) (fun _ h9 => h9) rfl d_Mo_corner_62 ?_
            refine gs (pc' := 66) (fun _ _ _ _ _ hl => lv_aload_n hx hb d_Mo_corner_65 rfl (lv_at hl 1 rfl)) ?_
            refine g_get hx hb hts hin_Mo hown hK f_171 rfl 12 (by decide) (hts _ wm766) (fun _ h9 => h9) rfl d_Mo_corner_66 ?_
            refine gs (pc' := 71) (fun _ _ _ _ _ hl => lv_bipush (v := nI 16) hx hb d_Mo_corner_69 (by decide)) ?_
            refine gs (pc' := 72) (fun _ _ _ _ _ hl => lv_iload_n hx hb d_Mo_corner_71 rfl (lv_at hl 2 rfl)) ?_
            refine gs (pc' := 73) (fun _ _ _ _ _ hl => lv_imul hx hb d_Mo_corner_72) ?_
            refine g_eqi (show (nI 16) * (nI g) = nI (16 * g + 0) from (pk_mul _ _).trans (congrArg nI (show 16 * g = 16 * g + 0 by omega))) ?_
            refine g_iald hx hb hK 0 f_182 rfl (show vp_in (nI (16 * g + 0)) 128 from vp_in_nI (by omega) (by omega)) d_Mo_corner_73 ?_
            refine g_eqi (show pla_179 (nI (16 * g + 0)).toNatClampNeg = pla_179 (16 * g + 0) from by rw [nI_clamp (by omega)]) ?_
            refine g_eqi (show pla_179 (16 * g + 0) = nI (S.rp g 0) from ((ho_184 g (by omega)).2 0 (by omega)).1) ?_
            have rbq_319 := (hW.rp g (by omega) 0 (by omega)).1
            refine g_iald hx hb hK 0 f_313 rfl (show vp_in (nI (S.rp g 0)) 200 from vp_in_nI (by omega) (by omega)) d_Mo_corner_74 ?_
            refine g_eqi (show unt_309 (nI (S.rp g 0)).toNatClampNeg = unt_309 (S.rp g 0) from by rw [nI_clamp (by omega)]) ?_
            refine g_eqi (show unt_309 (S.rp g 0) = iI (S.un (S.rp g 0)) from (hv_316 (S.rp g 0) (by omega)).2.1) ?_
            have ub_320 := (hW.v (S.rp g 0) (by omega)).2.1
            have ub_321 := (hW.v (S.rp g 0) (by omega)).2.2
            refine gsb (pc1 := 101) (pc2 := 78) (fun _ _ _ _ _ => lv_icmp_ne (tgt := 101) hx hb d_Mo_corner_75 (by decide)) (fun c_322 => ?_) (fun c_322 => ?_)
            · skip
              have nc_322 : (S.un i) ≠ (S.un (S.rp g 0)) := (ii_ne (a := (S.un i)) (b := (S.un (S.rp g 0))) (by omega) (by omega) (by omega) (by omega)).1 (by first | exact c_322 | (have z9 := c_322; simp only [nI_iI] at z9; exact z9))
              have hc1 : 0 < S.rc g ∧ (S.un i ≠ S.un (S.rp g 0) ∨ S.un j ≠ S.un (S.rh g 0)) := ⟨hc0, Or.inl (by omega)⟩
              refine gs (pc' := 103) (fun _ _ _ _ _ hl => lv_bipush (v := (-2)) hx hb d_Mo_corner_101 (by decide)) ?_
              refine g_eqi (show (-2) = iI (-2) from by decide) ?_
              have hV_323 : MW cA hm A S 0 none none none G_168 := ⟨sg_153, sh_154, kt_155, kb_156, ks_157, Rr_158, _, f_171, mr_175, f_172, sn_, sn_, sn_, mb_176⟩
              rw [st_corner hrn hn hi_g hi_i hi_j, if_pos hc1] at hret
              exact hret 103 _ _ _ _ d_Mo_corner_103 hB1 hB2 ⟨rfl, fun _ => rfl, hV_323, gf_173⟩
            · skip
              have nc_322 : (S.un i) = (S.un (S.rp g 0)) := (ii_ne (a := (S.un i)) (b := (S.un (S.rp g 0))) (by omega) (by omega) (by omega) (by omega)).2 (by first | exact c_322 | (have z9 := c_322; simp only [nI_iI] at z9; exact z9))
              refine gs (pc' := 79) (fun _ _ _ _ _ hl => lv_aload_n hx hb d_Mo_corner_78 rfl (lv_at hl 1 rfl)) ?_
              refine g_get hx hb hts hin_Mo hown hK f_171 rfl 3 (by decide) (hts _ wm757) (fun _ h9 => h9) rfl d_Mo_corner_79 ?_
              refine gs (pc' := 83) (fun _ _ _ _ _ hl => lv_iload_n hx hb d_Mo_corner_82 rfl (lv_at hl 4 rfl)) ?_
              refine g_iald hx hb hK 0 f_313 rfl (show vp_in (nI j) 200 from vp_in_nI (by omega) (by omega)) d_Mo_corner_83 ?_
              refine g_eqi (show unt_309 (nI j).toNatClampNeg = unt_309 j from by rw [nI_clamp (by omega)]) ?_
              refine g_eqi (show unt_309 j = iI (S.un j) from (hv_316 j (by omega)).2.1) ?_
              have ub_324 := (hW.v j (by omega)).2.1
              have ub_325 := (hW.v j (by omega)).2.2
              refine gs (pc' := 85) (fun _ _ _ _ _ hl => lv_aload_n hx hb d_Mo_corner_84 rfl (lv_at hl 1 rfl)) ?_
              refine g_get hx hb hts hin_Mo hown hK f_171 rfl 3 (by decide) (hts _ wm757) (fun _ h9 => h9) rfl d_Mo_corner_85 ?_
              refine gs (pc' := 89) (fun _ _ _ _ _ hl => lv_aload_n hx hb d_Mo_corner_88 rfl (lv_at hl 1 rfl)) ?_
              refine g_get hx hb hts hin_Mo hown hK f_171 rfl 13 (by decide) (hts _ wm767) (fun _ h9 => h9) rfl d_Mo_corner_89 ?_
              refine gs (pc' := 94) (fun _ _ _ _ _ hl => lv_bipush (v := nI 16) hx hb d_Mo_corner_92 (by decide)) ?_
              refine gs (pc' := 95) (fun _ _ _ _ _ hl => lv_iload_n hx hb d_Mo_corner_94 rfl (lv_at hl 2 rfl)) ?_
              refine gs (pc' := 96) (fun _ _ _ _ _ hl => lv_imul hx hb d_Mo_corner_95) ?_
              refine g_eqi (show (nI 16) * (nI g) = nI (16 * g + 0) from (pk_mul _ _).trans (congrArg nI (show 16 * g = 16 * g + 0 by omega))) ?_
              refine g_iald hx hb hK 0 f_183 rfl (show vp_in (nI (16 * g + 0)) 128 from vp_in_nI (by omega) (by omega)) d_Mo_corner_96 ?_
              refine g_eqi (show hei_180 (nI (16 * g + 0)).toNatClampNeg = hei_180 (16 * g + 0) from by rw [nI_clamp (by omega)]) ?_
              refine g_eqi (show hei_180 (16 * g + 0) = nI (S.rh g 0) from ((ho_184 g (by omega)).2 0 (by omega)).2) ?_
              have rbq_326 := (hW.rp g (by omega) 0 (by omega)).2.1
              refine g_iald hx hb hK 0 f_313 rfl (show vp_in (nI (S.rh g 0)) 200 from vp_in_nI (by omega) (by omega)) d_Mo_corner_97 ?_
              refine g_eqi (show unt_309 (nI (S.rh g 0)).toNatClampNeg = unt_309 (S.rh g 0) from by rw [nI_clamp (by omega)]) ?_
              refine g_eqi (show unt_309 (S.rh g 0) = iI (S.un (S.rh g 0)) from (hv_316 (S.rh g 0) (by omega)).2.1) ?_
              have ub_327 := (hW.v (S.rh g 0) (by omega)).2.1
              have ub_328 := (hW.v (S.rh g 0) (by omega)).2.2
              refine gsb (pc1 := 104) (pc2 := 101) (fun _ _ _ _ _ => lv_icmp_eq (tgt := 104) hx hb d_Mo_corner_98 (by decide)) (fun c_329 => ?_) (fun c_329 => ?_)
              · skip
                have nc_329 : (S.un j) = (S.un (S.rh g 0)) := (ii_eq (a := (S.un j)) (b := (S.un (S.rh g 0))) (by omega) (by omega) (by omega) (by omega)).1 (by first | exact c_329 | (have z9 := c_329; simp only [nI_iI] at z9; exact z9))
                have hc1 : ¬ (0 < S.rc g ∧ (S.un i ≠ S.un (S.rp g 0) ∨ S.un j ≠ S.un (S.rh g 0))) := fun q9 => by rcases q9.2 with q8 | q8 <;> (revert q8; omega)
                refine gs (pc' := 106) (fun _ _ _ _ _ hl => lv_iload hx hb d_Mo_corner_104 (lv_at hl 0 rfl)) ?_
                refine gs (pc' := 108) (fun _ _ _ _ _ hl => lv_bipush (v := nI 16) hx hb d_Mo_corner_106 (by decide)) ?_
                refine gsb (pc1 := 114) (pc2 := 111) (fun _ _ _ _ _ => lv_icmp_ne (tgt := 114) hx hb d_Mo_corner_108 (by decide)) (fun c_330 => ?_) (fun c_330 => ?_)
                · skip
                  have nc_330 : (S.rc g) ≠ 16 := (nn_ne (a := (S.rc g)) (b := 16) (by omega) (by omega)).1 c_330
                  refine gs (pc' := 116) (fun _ _ _ _ _ hl => lv_iload hx hb d_Mo_corner_114 (lv_at hl 0 rfl)) ?_
                  refine gsb (pc1 := 144) (pc2 := 119) (fun _ _ _ _ _ => lv_if_le (tgt := 144) hx hb d_Mo_corner_116 (by decide)) (fun c_331 => ?_) (fun c_331 => ?_)
                  · skip
                    have nc_331 : (S.rc g) ≤ 0 := (n0_le (a := (S.rc g)) (by omega)).1 c_331
                    have hc3 : ¬ (0 < S.rc g ∧ S.v i ≤ S.v (S.rp g (S.rc g - 1))) := fun q9 => absurd q9.1 (by omega)
                    refine gs (pc' := 145) (fun _ _ _ _ _ hl => lv_aload_n hx hb d_Mo_corner_144 rfl (lv_at hl 1 rfl)) ?_
                    refine g_get hx hb hts hin_Mo hown hK f_171 rfl 12 (by decide) (hts _ wm766) (fun _ h9 => h9) rfl d_Mo_corner_145 ?_
                    refine gs (pc' := 150) (fun _ _ _ _ _ hl => lv_bipush (v := nI 16) hx hb d_Mo_corner_148 (by decide)) ?_
                    refine gs (pc' := 151) (fun _ _ _ _ _ hl => lv_iload_n hx hb d_Mo_corner_150 rfl (lv_at hl 2 rfl)) ?_
                    refine gs (pc' := 152) (fun _ _ _ _ _ hl => lv_imul hx hb d_Mo_corner_151) ?_
                    refine g_eqi (show (nI 16) * (nI g) = nI (16 * g) from pk_mul _ _) ?_
                    refine gs (pc' := 154) (fun _ _ _ _ _ hl => lv_iload hx hb d_Mo_corner_152 (lv_at hl 0 rfl)) ?_
                    refine gs (pc' := 155) (fun _ _ _ _ _ hl => lv_iadd hx hb d_Mo_corner_154) ?_
                    refine g_eqi (show (nI (16 * g)) + (nI (S.rc g)) = nI (16 * g + S.rc g) from (nI_add _ _).trans (congrArg nI (show (16 * g) + (S.rc g) = 16 * g + S.rc g by omega))) ?_
                    refine gs (pc' := 156) (fun _ _ _ _ _ hl => lv_iload_n hx hb d_Mo_corner_155 rfl (lv_at hl 3 rfl)) ?_
                    refine g_iast hx hb hK 0 f_182 rfl (show vp_in (nI (16 * g + S.rc g)) 128 from vp_in_nI (by omega) (by omega)) d_Mo_corner_156 (fun G_332 f_333 o_334 => ?_)
                    rw [nI_clamp (by omega)] at f_333
                    have f_335 : G_332 (A 18) = some (83, .inl (cA 0, 8600, .inl kf_159)) := (o_334 _ (gne f_172 f_182 (by simp))).trans f_172
                    have f_336 : G_332 hm = some (70, .inr (9, [.int (nI 0), .int (nI S.n), .ref (A 2), .ref (A 3), .ref (A 4), .ref (A 5), .int sg_153, .int sh_154, .ref (A 8), .ref (A 9), .int (nI S.rn), .ref (A 11), .ref (A 12), .ref (A 13), .int (nI S.wn), .ref (A 15), .ref (A 16), .ref (A 17), .ref (A 18), .int kt_155, .int kb_156, .int ks_157])) := (o_334 _ (gne f_171 f_182 (fun e => by cases e))).trans f_171
                    have f_337 : G_332 (A 11) = some (77, .inl (cA 0, 8, .inl cor_178)) := (o_334 _ (gne f_181 f_182 (by simp))).trans f_181
                    have f_338 : G_332 (A 13) = some (79, .inl (cA 0, 128, .inl hei_180)) := (o_334 _ (gne f_183 f_182 (by simp))).trans f_183
                    have f_339 : G_332 (A 2) = some (71, .inl (cA 0, 200, .inl sgn_308)) := (o_334 _ (gne f_312 f_182 (by simp))).trans f_312
                    have f_340 : G_332 (A 3) = some (72, .inl (cA 0, 200, .inl unt_309)) := (o_334 _ (gne f_313 f_182 (by simp))).trans f_313
                    have f_341 : G_332 (A 4) = some (73, .inl (cA 0, 40400, .inl sto_310)) := (o_334 _ (gne f_314 f_182 (by simp))).trans f_314
                    have f_342 : G_332 (A 5) = some (74, .inl (cA 0, 400, .inl szs_311)) := (o_334 _ (gne f_315 f_182 (by simp))).trans f_315
                    have gf_343 : gfr mT G G_332 := gfr_put gf_173 f_182 (show mT 78 by decide) o_334
                    have gf_344 : gfr (fun x => x = 78) _ G_332 := gfr_put gfr_rf f_182 rfl o_334
                    have mr_345 : MR cA A Rr_158 G_332 := MR_fr mr_175 gf_344 (show ¬ (75 : Nat) = 78 by decide) (show ¬ (76 : Nat) = 78 by decide)
                    have mb_347 : MV cA A S G_332 := MV_fr mb_176.1 gf_344 (show ¬ (71 : Nat) = 78 by decide) (show ¬ (72 : Nat) = 78 by decide) (show ¬ (73 : Nat) = 78 by decide) (show ¬ (74 : Nat) = 78 by decide)
                    have mb_348 : ME cA A S G_332 := ME_fr mb_176.2.2 gf_344 (show ¬ (80 : Nat) = 78 by decide) (show ¬ (81 : Nat) = 78 by decide) (show ¬ (82 : Nat) = 78 by decide)
                    refine gs (pc' := 158) (fun _ _ _ _ _ hl => lv_aload_n hx hb d_Mo_corner_157 rfl (lv_at hl 1 rfl)) ?_
                    refine g_get hx hb hts hin_Mo hown hK f_336 rfl 13 (by decide) (hts _ wm767) (fun _ h9 => h9) rfl d_Mo_corner_158 ?_
                    refine gs (pc' := 163) (fun _ _ _ _ _ hl => lv_bipush (v := nI 16) hx hb d_Mo_corner_161 (by decide)) ?_
                    refine gs (pc' := 164) (fun _ _ _ _ _ hl => lv_iload_n hx hb d_Mo_corner_163 rfl (lv_at hl 2 rfl)) ?_
                    refine gs (pc' := 165) (fun _ _ _ _ _ hl => lv_imul hx hb d_Mo_corner_164) ?_
                    refine g_eqi (show (nI 16) * (nI g) = nI (16 * g) from pk_mul _ _) ?_
                    refine gs (pc' := 167) (fun _ _ _ _ _ hl => lv_iload hx hb d_Mo_corner_165 (lv_at hl 0 rfl)) ?_
                    refine gs (pc' := 168) (fun _ _ _ _ _ hl => lv_iadd hx hb d_Mo_corner_167) ?_
                    refine g_eqi (show (nI (16 * g)) + (nI (S.rc g)) = nI (16 * g + S.rc g) from (nI_add _ _).trans (congrArg nI (show (16 * g) + (S.rc g) = 16 * g + S.rc g by omega))) ?_
                    refine gs (pc' := 169) (fun _ _ _ _ _ hl => lv_iload_n hx hb d_Mo_corner_168 rfl (lv_at hl 4 rfl)) ?_
                    refine g_iast hx hb hK 0 f_338 rfl (show vp_in (nI (16 * g + S.rc g)) 128 from vp_in_nI (by omega) (by omega)) d_Mo_corner_169 (fun G_349 f_350 o_351 => ?_)
                    rw [nI_clamp (by omega)] at f_350
                    have f_352 : G_349 (A 18) = some (83, .inl (cA 0, 8600, .inl kf_159)) := (o_351 _ (gne f_335 f_338 (by simp))).trans f_335
                    have f_353 : G_349 hm = some (70, .inr (9, [.int (nI 0), .int (nI S.n), .ref (A 2), .ref (A 3), .ref (A 4), .ref (A 5), .int sg_153, .int sh_154, .ref (A 8), .ref (A 9), .int (nI S.rn), .ref (A 11), .ref (A 12), .ref (A 13), .int (nI S.wn), .ref (A 15), .ref (A 16), .ref (A 17), .ref (A 18), .int kt_155, .int kb_156, .int ks_157])) := (o_351 _ (gne f_336 f_338 (fun e => by cases e))).trans f_336
                    have f_354 : G_349 (A 11) = some (77, .inl (cA 0, 8, .inl cor_178)) := (o_351 _ (gne f_337 f_338 (by simp))).trans f_337
                    have f_355 : G_349 (A 2) = some (71, .inl (cA 0, 200, .inl sgn_308)) := (o_351 _ (gne f_339 f_338 (by simp))).trans f_339
                    have f_356 : G_349 (A 3) = some (72, .inl (cA 0, 200, .inl unt_309)) := (o_351 _ (gne f_340 f_338 (by simp))).trans f_340
                    have f_357 : G_349 (A 4) = some (73, .inl (cA 0, 40400, .inl sto_310)) := (o_351 _ (gne f_341 f_338 (by simp))).trans f_341
                    have f_358 : G_349 (A 5) = some (74, .inl (cA 0, 400, .inl szs_311)) := (o_351 _ (gne f_342 f_338 (by simp))).trans f_342
                    have f_359 : G_349 (A 12) = some (78, .inl (cA 0, 128, .inl (upd pla_179 (16 * g + S.rc g) (nI i)))) := (o_351 _ (gne f_333 f_338 (by simp))).trans f_333
                    have gf_360 : gfr mT G G_349 := gfr_put gf_343 f_338 (show mT 79 by decide) o_351
                    have gf_361 : gfr (fun x => x = 79) _ G_349 := gfr_put gfr_rf f_338 rfl o_351
                    have mr_362 : MR cA A Rr_158 G_349 := MR_fr mr_345 gf_361 (show ¬ (75 : Nat) = 79 by decide) (show ¬ (76 : Nat) = 79 by decide)
                    have mb_364 : MV cA A S G_349 := MV_fr mb_347 gf_361 (show ¬ (71 : Nat) = 79 by decide) (show ¬ (72 : Nat) = 79 by decide) (show ¬ (73 : Nat) = 79 by decide) (show ¬ (74 : Nat) = 79 by decide)
                    have mb_365 : ME cA A S G_349 := ME_fr mb_348 gf_361 (show ¬ (80 : Nat) = 79 by decide) (show ¬ (81 : Nat) = 79 by decide) (show ¬ (82 : Nat) = 79 by decide)
                    refine gs (pc' := 171) (fun _ _ _ _ _ hl => lv_aload_n hx hb d_Mo_corner_170 rfl (lv_at hl 1 rfl)) ?_
                    refine g_get hx hb hts hin_Mo hown hK f_353 rfl 11 (by decide) (hts _ wm765) (fun _ h9 => h9) rfl d_Mo_corner_171 ?_
                    refine gs (pc' := 175) (fun _ _ _ _ _ hl => lv_iload_n hx hb d_Mo_corner_174 rfl (lv_at hl 2 rfl)) ?_
                    refine gs (pc' := 176) (fun _ _ _ _ _ hl => lv_dup2_11 hx hb d_Mo_corner_175 rfl rfl) ?_
                    refine g_iald hx hb hK 0 f_354 rfl (show vp_in (nI g) 8 from vp_in_nI (by omega) (by omega)) d_Mo_corner_176 ?_
                    refine g_eqi (show cor_178 (nI g).toNatClampNeg = cor_178 g from by rw [nI_clamp (by omega)]) ?_
                    refine g_eqi (show cor_178 g = nI (S.rc g) from (ho_184 g (by omega)).1) ?_
                    have rbq_366 := hW.rc g (by omega)
                    refine gs (pc' := 178) (fun _ _ _ _ _ hl => lv_iconst (v := nI 1) hx hb d_Mo_corner_177 (by decide)) ?_
                    refine gs (pc' := 179) (fun _ _ _ _ _ hl => lv_iadd hx hb d_Mo_corner_178) ?_
                    refine g_eqi (show (nI (S.rc g)) + (nI 1) = nI ((S.rc g) + 1) from nI_add _ _) ?_
                    refine g_iast hx hb hK 0 f_354 rfl (show vp_in (nI g) 8 from vp_in_nI (by omega) (by omega)) d_Mo_corner_179 (fun G_367 f_368 o_369 => ?_)
                    rw [nI_clamp (by omega)] at f_368
                    have f_370 : G_367 (A 18) = some (83, .inl (cA 0, 8600, .inl kf_159)) := (o_369 _ (gne f_352 f_354 (by simp))).trans f_352
                    have f_371 : G_367 hm = some (70, .inr (9, [.int (nI 0), .int (nI S.n), .ref (A 2), .ref (A 3), .ref (A 4), .ref (A 5), .int sg_153, .int sh_154, .ref (A 8), .ref (A 9), .int (nI S.rn), .ref (A 11), .ref (A 12), .ref (A 13), .int (nI S.wn), .ref (A 15), .ref (A 16), .ref (A 17), .ref (A 18), .int kt_155, .int kb_156, .int ks_157])) := (o_369 _ (gne f_353 f_354 (fun e => by cases e))).trans f_353
                    have f_372 : G_367 (A 2) = some (71, .inl (cA 0, 200, .inl sgn_308)) := (o_369 _ (gne f_355 f_354 (by simp))).trans f_355
                    have f_373 : G_367 (A 3) = some (72, .inl (cA 0, 200, .inl unt_309)) := (o_369 _ (gne f_356 f_354 (by simp))).trans f_356
                    have f_374 : G_367 (A 4) = some (73, .inl (cA 0, 40400, .inl sto_310)) := (o_369 _ (gne f_357 f_354 (by simp))).trans f_357
                    have f_375 : G_367 (A 5) = some (74, .inl (cA 0, 400, .inl szs_311)) := (o_369 _ (gne f_358 f_354 (by simp))).trans f_358
                    have f_376 : G_367 (A 12) = some (78, .inl (cA 0, 128, .inl (upd pla_179 (16 * g + S.rc g) (nI i)))) := (o_369 _ (gne f_359 f_354 (by simp))).trans f_359
                    have f_377 : G_367 (A 13) = some (79, .inl (cA 0, 128, .inl (upd hei_180 (16 * g + S.rc g) (nI j)))) := (o_369 _ (gne f_350 f_354 (by simp))).trans f_350
                    have gf_378 : gfr mT G G_367 := gfr_put gf_360 f_354 (show mT 77 by decide) o_369
                    have gf_379 : gfr (fun x => x = 77) _ G_367 := gfr_put gfr_rf f_354 rfl o_369
                    have mr_380 : MR cA A Rr_158 G_367 := MR_fr mr_362 gf_379 (show ¬ (75 : Nat) = 77 by decide) (show ¬ (76 : Nat) = 77 by decide)
                    have mb_382 : MV cA A S G_367 := MV_fr mb_364 gf_379 (show ¬ (71 : Nat) = 77 by decide) (show ¬ (72 : Nat) = 77 by decide) (show ¬ (73 : Nat) = 77 by decide) (show ¬ (74 : Nat) = 77 by decide)
                    have mb_383 : ME cA A S G_367 := ME_fr mb_365 gf_379 (show ¬ (80 : Nat) = 77 by decide) (show ¬ (81 : Nat) = 77 by decide) (show ¬ (82 : Nat) = 77 by decide)
                    refine gs (pc' := 182) (fun _ _ _ _ _ hl => lv_iload hx hb d_Mo_corner_180 (lv_at hl 0 rfl)) ?_
                    refine gs (pc' := 183) (fun _ _ _ _ _ hl => lv_iconst (v := nI 1) hx hb d_Mo_corner_182 (by decide)) ?_
                    refine gs (pc' := 184) (fun _ _ _ _ _ hl => lv_iadd hx hb d_Mo_corner_183) ?_
                    refine g_eqi (show (nI (S.rc g)) + (nI 1) = nI ((S.rc g) + 1) from nI_add _ _) ?_
                    have hmo9 : MO cA A (S.sr S.rn (fup S.rc g (S.rc g + 1)) (fup S.rp g (fup (S.rp g) (S.rc g) i)) (fup S.rh g (fup (S.rh g) (S.rc g) j))) G_367 := by
                      refine ⟨_, _, _, f_368, f_376, f_377, fun i9 h9 => ?_⟩
                      have h9 : i9 < S.rn := h9
                      show _ = nI (fup S.rc g (S.rc g + 1) i9) ∧ ∀ j9, j9 < fup S.rc g (S.rc g + 1) i9 → _ = nI (fup S.rp g (fup (S.rp g) (S.rc g) i) i9 j9) ∧ _ = nI (fup S.rh g (fup (S.rh g) (S.rc g) j) i9 j9)
                      have hrc8 := hW.rc i9 h9
                      obtain ⟨q1, q2⟩ := ho_184 i9 h9
                      by_cases e9 : i9 = g
                      · subst e9
                        rw [fup_s, fup_s, fup_s]
                        refine ⟨pk_us, fun j9 h8 => ?_⟩
                        by_cases e8 : j9 = S.rc i9
                        · subst e8; rw [fup_s, fup_s]; exact ⟨pk_us, pk_us⟩
                        · rw [fup_n e8, fup_n e8, pk_un (by omega), pk_un (by omega)]; exact q2 j9 (by omega)
                      · rw [fup_n e9, fup_n e9, fup_n e9]
                        refine ⟨(pk_un e9).trans q1, fun j9 h8 => ?_⟩
                        have h7 : 16 * i9 + j9 ≠ 16 * g + S.rc g := by omega
                        rw [pk_un h7, pk_un h7]; exact q2 j9 h8
                    have hV_384 : MW cA hm A (S.sr S.rn (fup S.rc g (S.rc g + 1)) (fup S.rp g (fup (S.rp g) (S.rc g) i)) (fup S.rh g (fup (S.rh g) (S.rc g) j))) 0 none none none G_367 := ⟨sg_153, sh_154, kt_155, kb_156, ks_157, Rr_158, _, f_371, mr_380, f_370, sn_, sn_, sn_, ⟨mb_382, hmo9, mb_383⟩⟩
                    rw [st_corner hrn hn hi_g hi_i hi_j, if_neg hc1, if_neg (by omega), if_neg hc3] at hret
                    exact hret 184 _ _ _ _ d_Mo_corner_184 hB1 hB2 ⟨rfl, fun _ => nI1_ _, hV_384, gf_378⟩
                  · skip
                    have nc_331 : (S.rc g) > 0 := (n0_le (a := (S.rc g)) (by omega)).2 c_331
                    refine gs (pc' := 120) (fun _ _ _ _ _ hl => lv_aload_n hx hb d_Mo_corner_119 rfl (lv_at hl 1 rfl)) ?_
                    refine gs (pc' := 121) (fun _ _ _ _ _ hl => lv_iload_n hx hb d_Mo_corner_120 rfl (lv_at hl 3 rfl)) ?_
                    refine gs (pc' := 122) (fun _ _ _ _ _ hl => lv_aload_n hx hb d_Mo_corner_121 rfl (lv_at hl 1 rfl)) ?_
                    refine g_get hx hb hts hin_Mo hown hK f_171 rfl 12 (by decide) (hts _ wm766) (fun _ h9 => h9) rfl d_Mo_corner_122 ?_
                    refine gs (pc' := 127) (fun _ _ _ _ _ hl => lv_bipush (v := nI 16) hx hb d_Mo_corner_125 (by decide)) ?_
                    refine gs (pc' := 128) (fun _ _ _ _ _ hl => lv_iload_n hx hb d_Mo_corner_127 rfl (lv_at hl 2 rfl)) ?_
                    refine gs (pc' := 129) (fun _ _ _ _ _ hl => lv_imul hx hb d_Mo_corner_128) ?_
                    refine g_eqi (show (nI 16) * (nI g) = nI (16 * g) from pk_mul _ _) ?_
                    refine gs (pc' := 131) (fun _ _ _ _ _ hl => lv_iload hx hb d_Mo_corner_129 (lv_at hl 0 rfl)) ?_
                    refine gs (pc' := 132) (fun _ _ _ _ _ hl => lv_iadd hx hb d_Mo_corner_131) ?_
                    refine g_eqi (show (nI (16 * g)) + (nI (S.rc g)) = nI (16 * g + S.rc g) from (nI_add _ _).trans (congrArg nI (show (16 * g) + (S.rc g) = 16 * g + S.rc g by omega))) ?_
                    refine gs (pc' := 133) (fun _ _ _ _ _ hl => lv_iconst (v := nI 1) hx hb d_Mo_corner_132 (by decide)) ?_
                    refine gs (pc' := 134) (fun _ _ _ _ _ hl => lv_isub hx hb d_Mo_corner_133) ?_
                    refine g_eqi (show (nI (16 * g + S.rc g)) - (nI 1) = nI (16 * g + (S.rc g - 1)) from (pk_sub (by omega)).trans (congrArg nI (show (16 * g + S.rc g) - 1 = 16 * g + (S.rc g - 1) by omega))) ?_
                    refine g_iald hx hb hK 0 f_182 rfl (show vp_in (nI (16 * g + (S.rc g - 1))) 128 from vp_in_nI (by omega) (by omega)) d_Mo_corner_134 ?_
                    refine g_eqi (show pla_179 (nI (16 * g + (S.rc g - 1))).toNatClampNeg = pla_179 (16 * g + (S.rc g - 1)) from by rw [nI_clamp (by omega)]) ?_
                    refine g_eqi (show pla_179 (16 * g + (S.rc g - 1)) = nI (S.rp g (S.rc g - 1)) from ((ho_184 g (by omega)).2 (S.rc g - 1) (by omega)).1) ?_
                    have rbq_385 := (hW.rp g (by omega) (S.rc g - 1) (by omega)).1
                    have hV_386 : MW cA hm A S 0 qm qo qk G_168 := ⟨sg_153, sh_154, kt_155, kb_156, ks_157, Rr_158, _, f_171, mr_175, f_172, v_163, v_164, v_165, mb_176⟩
                    refine g_outi hlo (g_runV (As := [.int (nI i), .int (nI (S.rp g (S.rc g - 1)))]) (rest := []) ⟨hx, hb, hml, hown, hts⟩ hK hZ hRc hRs (c_Mo_compareValues l D cA lo MC MS G_168 B hm A S 0 qm qo qk hV_386 hW i (by omega) (S.rp g (S.rc g - 1)) (by omega) hB1 hB2) (fun _ _ => cwV 2 hts (tb_good (tb_cons wm949 (tb_cons wm951 (tb_cons ws44 (tb_cons wm12 k_Mo_compareValues))))) rfl rfl rfl (by decide +kernel) ⟨by rw [hRf]; exact Nat.le_of_ble_eq_true rfl, by rw [hRl]; exact Nat.le_of_ble_eq_true rfl⟩) f_171 rfl hB1 hB2 rfl (Nat.le_of_ble_eq_true rfl) d_Mo_corner_135) (fun r_390 G_387 B_388 p_389 => ?_)
                    obtain ⟨e_391, e_394, hV_392, gf_393⟩ := p_389
                    subst e_394
                    have e_391b : B = B_388 := e_391.symm
                    subst e_391b
                    have gf_395 : gfr mT G G_387 := mT_mT gf_173 gf_393
                    have bd_396 := rcmp_bd (S.v i) (S.v (S.rp g (S.rc g - 1)))
                    refine gsb (pc1 := 144) (pc2 := 141) (fun _ _ _ _ _ => lv_if_gt (tgt := 144) hx hb d_Mo_corner_138 (by decide)) (fun c_397 => ?_) (fun c_397 => ?_)
                    · skip
                      have nc_397 : (rcmp (S.v i) (S.v (S.rp g (S.rc g - 1)))) > 0 := (ii_gt (a := (rcmp (S.v i) (S.v (S.rp g (S.rc g - 1))))) (b := 0) (by omega) (by omega) (by omega) (by omega)).1 (by first | exact c_397 | (have z9 := c_397; simp only [nI_iI] at z9; exact z9))
                      have hc3 : ¬ (0 < S.rc g ∧ S.v i ≤ S.v (S.rp g (S.rc g - 1))) := fun q9 => absurd (rcmp_le.mpr q9.2) (by omega)
                      refine gs (pc' := 145) (fun _ _ _ _ _ hl => lv_aload_n hx hb d_Mo_corner_144 rfl (lv_at hl 1 rfl)) ?_
                      obtain ⟨sg_398, sh_399, kt_400, kb_401, ks_402, Rr_403, kf_404, v_405, v_406, v_407, v_408, v_409, v_410, v_411⟩ := id hV_392
                      have f_412 : G_387 hm = some (70, .inr (9, [.int (nI 0), .int (nI S.n), .ref (A 2), .ref (A 3), .ref (A 4), .ref (A 5), .int sg_398, .int sh_399, .ref (A 8), .ref (A 9), .int (nI S.rn), .ref (A 11), .ref (A 12), .ref (A 13), .int (nI S.wn), .ref (A 15), .ref (A 16), .ref (A 17), .ref (A 18), .int kt_400, .int kb_401, .int ks_402])) := v_405
                      refine g_get hx hb hts hin_Mo hown hK f_412 rfl 12 (by decide) (hts _ wm766) (fun _ h9 => h9) rfl d_Mo_corner_145 ?_
                      refine gs (pc' := 150) (fun _ _ _ _ _ hl => lv_bipush (v := nI 16) hx hb d_Mo_corner_148 (by decide)) ?_
                      refine gs (pc' := 151) (fun _ _ _ _ _ hl => lv_iload_n hx hb d_Mo_corner_150 rfl (lv_at hl 2 rfl)) ?_
                      refine gs (pc' := 152) (fun _ _ _ _ _ hl => lv_imul hx hb d_Mo_corner_151) ?_
                      refine g_eqi (show (nI 16) * (nI g) = nI (16 * g) from pk_mul _ _) ?_
                      refine gs (pc' := 154) (fun _ _ _ _ _ hl => lv_iload hx hb d_Mo_corner_152 (lv_at hl 0 rfl)) ?_
                      refine gs (pc' := 155) (fun _ _ _ _ _ hl => lv_iadd hx hb d_Mo_corner_154) ?_
                      refine g_eqi (show (nI (16 * g)) + (nI (S.rc g)) = nI (16 * g + S.rc g) from (nI_add _ _).trans (congrArg nI (show (16 * g) + (S.rc g) = 16 * g + S.rc g by omega))) ?_
                      refine gs (pc' := 156) (fun _ _ _ _ _ hl => lv_iload_n hx hb d_Mo_corner_155 rfl (lv_at hl 3 rfl)) ?_
                      obtain ⟨cor_413, pla_414, hei_415, f_416, f_417, f_418, ho_419⟩ := id v_411.2.1
                      refine g_iast hx hb hK 0 f_417 rfl (show vp_in (nI (16 * g + S.rc g)) 128 from vp_in_nI (by omega) (by omega)) d_Mo_corner_156 (fun G_420 f_421 o_422 => ?_)
                      rw [nI_clamp (by omega)] at f_421
                      have f_423 : G_420 hm = some (70, .inr (9, [.int (nI 0), .int (nI S.n), .ref (A 2), .ref (A 3), .ref (A 4), .ref (A 5), .int sg_398, .int sh_399, .ref (A 8), .ref (A 9), .int (nI S.rn), .ref (A 11), .ref (A 12), .ref (A 13), .int (nI S.wn), .ref (A 15), .ref (A 16), .ref (A 17), .ref (A 18), .int kt_400, .int kb_401, .int ks_402])) := (o_422 _ (gne f_412 f_417 (fun e => by cases e))).trans f_412
                      have f_424 : G_420 (A 18) = some (83, .inl (cA 0, 8600, .inl kf_404)) := (o_422 _ (gne v_407 f_417 (by simp))).trans v_407
                      have f_425 : G_420 (A 11) = some (77, .inl (cA 0, 8, .inl cor_413)) := (o_422 _ (gne f_416 f_417 (by simp))).trans f_416
                      have f_426 : G_420 (A 13) = some (79, .inl (cA 0, 128, .inl hei_415)) := (o_422 _ (gne f_418 f_417 (by simp))).trans f_418
                      have gf_427 : gfr mT G G_420 := gfr_put gf_395 f_417 (show mT 78 by decide) o_422
                      have gf_428 : gfr (fun x => x = 78) _ G_420 := gfr_put gfr_rf f_417 rfl o_422
                      have mr_429 : MR cA A Rr_403 G_420 := MR_fr v_406 gf_428 (show ¬ (75 : Nat) = 78 by decide) (show ¬ (76 : Nat) = 78 by decide)
                      have mb_431 : MV cA A S G_420 := MV_fr v_411.1 gf_428 (show ¬ (71 : Nat) = 78 by decide) (show ¬ (72 : Nat) = 78 by decide) (show ¬ (73 : Nat) = 78 by decide) (show ¬ (74 : Nat) = 78 by decide)
                      have mb_432 : ME cA A S G_420 := ME_fr v_411.2.2 gf_428 (show ¬ (80 : Nat) = 78 by decide) (show ¬ (81 : Nat) = 78 by decide) (show ¬ (82 : Nat) = 78 by decide)
                      refine gs (pc' := 158) (fun _ _ _ _ _ hl => lv_aload_n hx hb d_Mo_corner_157 rfl (lv_at hl 1 rfl)) ?_
                      refine g_get hx hb hts hin_Mo hown hK f_423 rfl 13 (by decide) (hts _ wm767) (fun _ h9 => h9) rfl d_Mo_corner_158 ?_
                      refine gs (pc' := 163) (fun _ _ _ _ _ hl => lv_bipush (v := nI 16) hx hb d_Mo_corner_161 (by decide)) ?_
                      refine gs (pc' := 164) (fun _ _ _ _ _ hl => lv_iload_n hx hb d_Mo_corner_163 rfl (lv_at hl 2 rfl)) ?_
                      refine gs (pc' := 165) (fun _ _ _ _ _ hl => lv_imul hx hb d_Mo_corner_164) ?_
                      refine g_eqi (show (nI 16) * (nI g) = nI (16 * g) from pk_mul _ _) ?_
                      refine gs (pc' := 167) (fun _ _ _ _ _ hl => lv_iload hx hb d_Mo_corner_165 (lv_at hl 0 rfl)) ?_
                      refine gs (pc' := 168) (fun _ _ _ _ _ hl => lv_iadd hx hb d_Mo_corner_167) ?_
                      refine g_eqi (show (nI (16 * g)) + (nI (S.rc g)) = nI (16 * g + S.rc g) from (nI_add _ _).trans (congrArg nI (show (16 * g) + (S.rc g) = 16 * g + S.rc g by omega))) ?_
                      refine gs (pc' := 169) (fun _ _ _ _ _ hl => lv_iload_n hx hb d_Mo_corner_168 rfl (lv_at hl 4 rfl)) ?_
                      refine g_iast hx hb hK 0 f_426 rfl (show vp_in (nI (16 * g + S.rc g)) 128 from vp_in_nI (by omega) (by omega)) d_Mo_corner_169 (fun G_433 f_434 o_435 => ?_)
                      rw [nI_clamp (by omega)] at f_434
                      have f_436 : G_433 hm = some (70, .inr (9, [.int (nI 0), .int (nI S.n), .ref (A 2), .ref (A 3), .ref (A 4), .ref (A 5), .int sg_398, .int sh_399, .ref (A 8), .ref (A 9), .int (nI S.rn), .ref (A 11), .ref (A 12), .ref (A 13), .int (nI S.wn), .ref (A 15), .ref (A 16), .ref (A 17), .ref (A 18), .int kt_400, .int kb_401, .int ks_402])) := (o_435 _ (gne f_423 f_426 (fun e => by cases e))).trans f_423
                      have f_437 : G_433 (A 18) = some (83, .inl (cA 0, 8600, .inl kf_404)) := (o_435 _ (gne f_424 f_426 (by simp))).trans f_424
                      have f_438 : G_433 (A 11) = some (77, .inl (cA 0, 8, .inl cor_413)) := (o_435 _ (gne f_425 f_426 (by simp))).trans f_425
                      have f_439 : G_433 (A 12) = some (78, .inl (cA 0, 128, .inl (upd pla_414 (16 * g + S.rc g) (nI i)))) := (o_435 _ (gne f_421 f_426 (by simp))).trans f_421
                      have gf_440 : gfr mT G G_433 := gfr_put gf_427 f_426 (show mT 79 by decide) o_435
                      have gf_441 : gfr (fun x => x = 79) _ G_433 := gfr_put gfr_rf f_426 rfl o_435
                      have mr_442 : MR cA A Rr_403 G_433 := MR_fr mr_429 gf_441 (show ¬ (75 : Nat) = 79 by decide) (show ¬ (76 : Nat) = 79 by decide)
                      have mb_444 : MV cA A S G_433 := MV_fr mb_431 gf_441 (show ¬ (71 : Nat) = 79 by decide) (show ¬ (72 : Nat) = 79 by decide) (show ¬ (73 : Nat) = 79 by decide) (show ¬ (74 : Nat) = 79 by decide)
                      have mb_445 : ME cA A S G_433 := ME_fr mb_432 gf_441 (show ¬ (80 : Nat) = 79 by decide) (show ¬ (81 : Nat) = 79 by decide) (show ¬ (82 : Nat) = 79 by decide)
                      refine gs (pc' := 171) (fun _ _ _ _ _ hl => lv_aload_n hx hb d_Mo_corner_170 rfl (lv_at hl 1 rfl)) ?_
                      refine g_get hx hb hts hin_Mo hown hK f_436 rfl 11 (by decide) (hts _ wm765) (fun _ h9 => h9) rfl d_Mo_corner_171 ?_
                      refine gs (pc' := 175) (fun _ _ _ _ _ hl => lv_iload_n hx hb d_Mo_corner_174 rfl (lv_at hl 2 rfl)) ?_
                      refine gs (pc' := 176) (fun _ _ _ _ _ hl => lv_dup2_11 hx hb d_Mo_corner_175 rfl rfl) ?_
                      refine g_iald hx hb hK 0 f_438 rfl (show vp_in (nI g) 8 from vp_in_nI (by omega) (by omega)) d_Mo_corner_176 ?_
                      refine g_eqi (show cor_413 (nI g).toNatClampNeg = cor_413 g from by rw [nI_clamp (by omega)]) ?_
                      refine g_eqi (show cor_413 g = nI (S.rc g) from (ho_419 g (by omega)).1) ?_
                      have rbq_446 := hW.rc g (by omega)
                      refine gs (pc' := 178) (fun _ _ _ _ _ hl => lv_iconst (v := nI 1) hx hb d_Mo_corner_177 (by decide)) ?_
                      refine gs (pc' := 179) (fun _ _ _ _ _ hl => lv_iadd hx hb d_Mo_corner_178) ?_
                      refine g_eqi (show (nI (S.rc g)) + (nI 1) = nI ((S.rc g) + 1) from nI_add _ _) ?_
                      refine g_iast hx hb hK 0 f_438 rfl (show vp_in (nI g) 8 from vp_in_nI (by omega) (by omega)) d_Mo_corner_179 (fun G_447 f_448 o_449 => ?_)
                      rw [nI_clamp (by omega)] at f_448
                      have f_450 : G_447 hm = some (70, .inr (9, [.int (nI 0), .int (nI S.n), .ref (A 2), .ref (A 3), .ref (A 4), .ref (A 5), .int sg_398, .int sh_399, .ref (A 8), .ref (A 9), .int (nI S.rn), .ref (A 11), .ref (A 12), .ref (A 13), .int (nI S.wn), .ref (A 15), .ref (A 16), .ref (A 17), .ref (A 18), .int kt_400, .int kb_401, .int ks_402])) := (o_449 _ (gne f_436 f_438 (fun e => by cases e))).trans f_436
                      have f_451 : G_447 (A 18) = some (83, .inl (cA 0, 8600, .inl kf_404)) := (o_449 _ (gne f_437 f_438 (by simp))).trans f_437
                      have f_452 : G_447 (A 12) = some (78, .inl (cA 0, 128, .inl (upd pla_414 (16 * g + S.rc g) (nI i)))) := (o_449 _ (gne f_439 f_438 (by simp))).trans f_439
                      have f_453 : G_447 (A 13) = some (79, .inl (cA 0, 128, .inl (upd hei_415 (16 * g + S.rc g) (nI j)))) := (o_449 _ (gne f_434 f_438 (by simp))).trans f_434
                      have gf_454 : gfr mT G G_447 := gfr_put gf_440 f_438 (show mT 77 by decide) o_449
                      have gf_455 : gfr (fun x => x = 77) _ G_447 := gfr_put gfr_rf f_438 rfl o_449
                      have mr_456 : MR cA A Rr_403 G_447 := MR_fr mr_442 gf_455 (show ¬ (75 : Nat) = 77 by decide) (show ¬ (76 : Nat) = 77 by decide)
                      have mb_458 : MV cA A S G_447 := MV_fr mb_444 gf_455 (show ¬ (71 : Nat) = 77 by decide) (show ¬ (72 : Nat) = 77 by decide) (show ¬ (73 : Nat) = 77 by decide) (show ¬ (74 : Nat) = 77 by decide)
                      have mb_459 : ME cA A S G_447 := ME_fr mb_445 gf_455 (show ¬ (80 : Nat) = 77 by decide) (show ¬ (81 : Nat) = 77 by decide) (show ¬ (82 : Nat) = 77 by decide)
                      refine gs (pc' := 182) (fun _ _ _ _ _ hl => lv_iload hx hb d_Mo_corner_180 (lv_at hl 0 rfl)) ?_
                      refine gs (pc' := 183) (fun _ _ _ _ _ hl => lv_iconst (v := nI 1) hx hb d_Mo_corner_182 (by decide)) ?_
                      refine gs (pc' := 184) (fun _ _ _ _ _ hl => lv_iadd hx hb d_Mo_corner_183) ?_
                      refine g_eqi (show (nI (S.rc g)) + (nI 1) = nI ((S.rc g) + 1) from nI_add _ _) ?_
                      have hmo9 : MO cA A (S.sr S.rn (fup S.rc g (S.rc g + 1)) (fup S.rp g (fup (S.rp g) (S.rc g) i)) (fup S.rh g (fup (S.rh g) (S.rc g) j))) G_447 := by
                        refine ⟨_, _, _, f_448, f_452, f_453, fun i9 h9 => ?_⟩
                        have h9 : i9 < S.rn := h9
                        show _ = nI (fup S.rc g (S.rc g + 1) i9) ∧ ∀ j9, j9 < fup S.rc g (S.rc g + 1) i9 → _ = nI (fup S.rp g (fup (S.rp g) (S.rc g) i) i9 j9) ∧ _ = nI (fup S.rh g (fup (S.rh g) (S.rc g) j) i9 j9)
                        have hrc8 := hW.rc i9 h9
                        obtain ⟨q1, q2⟩ := ho_419 i9 h9
                        by_cases e9 : i9 = g
                        · subst e9
                          rw [fup_s, fup_s, fup_s]
                          refine ⟨pk_us, fun j9 h8 => ?_⟩
                          by_cases e8 : j9 = S.rc i9
                          · subst e8; rw [fup_s, fup_s]; exact ⟨pk_us, pk_us⟩
                          · rw [fup_n e8, fup_n e8, pk_un (by omega), pk_un (by omega)]; exact q2 j9 (by omega)
                        · rw [fup_n e9, fup_n e9, fup_n e9]
                          refine ⟨(pk_un e9).trans q1, fun j9 h8 => ?_⟩
                          have h7 : 16 * i9 + j9 ≠ 16 * g + S.rc g := by omega
                          rw [pk_un h7, pk_un h7]; exact q2 j9 h8
                      have hV_460 : MW cA hm A (S.sr S.rn (fup S.rc g (S.rc g + 1)) (fup S.rp g (fup (S.rp g) (S.rc g) i)) (fup S.rh g (fup (S.rh g) (S.rc g) j))) 0 none none none G_447 := ⟨sg_398, sh_399, kt_400, kb_401, ks_402, Rr_403, _, f_450, mr_456, f_451, sn_, sn_, sn_, ⟨mb_458, hmo9, mb_459⟩⟩
                      rw [st_corner hrn hn hi_g hi_i hi_j, if_neg hc1, if_neg (by omega), if_neg hc3] at hret
                      exact hret 184 _ _ _ _ d_Mo_corner_184 hB1 hB2 ⟨rfl, fun _ => nI1_ _, hV_460, gf_454⟩
                    · skip
                      have nc_397 : (rcmp (S.v i) (S.v (S.rp g (S.rc g - 1)))) ≤ 0 := (ii_gt (a := (rcmp (S.v i) (S.v (S.rp g (S.rc g - 1))))) (b := 0) (by omega) (by omega) (by omega) (by omega)).2 (by first | exact c_397 | (have z9 := c_397; simp only [nI_iI] at z9; exact z9))
                      have hc3 : 0 < S.rc g ∧ S.v i ≤ S.v (S.rp g (S.rc g - 1)) := ⟨by omega, rcmp_le.mp (by omega)⟩
                      refine gs (pc' := 143) (fun _ _ _ _ _ hl => lv_bipush (v := (-5)) hx hb d_Mo_corner_141 (by decide)) ?_
                      refine g_eqi (show (-5) = iI (-5) from by decide) ?_
                      have hV_461 := MW_un hV_392
                      rw [st_corner hrn hn hi_g hi_i hi_j, if_neg hc1, if_neg (by omega), if_pos hc3] at hret
                      exact hret 143 _ _ _ _ d_Mo_corner_143 hB1 hB2 ⟨rfl, fun _ => rfl, hV_461, gf_395⟩
                · skip
                  have nc_330 : (S.rc g) = 16 := (nn_ne (a := (S.rc g)) (b := 16) (by omega) (by omega)).2 c_330
                  refine gs (pc' := 113) (fun _ _ _ _ _ hl => lv_bipush (v := (-3)) hx hb d_Mo_corner_111 (by decide)) ?_
                  refine g_eqi (show (-3) = iI (-3) from by decide) ?_
                  have hV_462 : MW cA hm A S 0 none none none G_168 := ⟨sg_153, sh_154, kt_155, kb_156, ks_157, Rr_158, _, f_171, mr_175, f_172, sn_, sn_, sn_, mb_176⟩
                  rw [st_corner hrn hn hi_g hi_i hi_j, if_neg hc1, if_pos (by omega)] at hret
                  exact hret 113 _ _ _ _ d_Mo_corner_113 hB1 hB2 ⟨rfl, fun _ => rfl, hV_462, gf_173⟩
              · skip
                have nc_329 : (S.un j) ≠ (S.un (S.rh g 0)) := (ii_eq (a := (S.un j)) (b := (S.un (S.rh g 0))) (by omega) (by omega) (by omega) (by omega)).2 (by first | exact c_329 | (have z9 := c_329; simp only [nI_iI] at z9; exact z9))
                have hc1 : 0 < S.rc g ∧ (S.un i ≠ S.un (S.rp g 0) ∨ S.un j ≠ S.un (S.rh g 0)) := ⟨hc0, Or.inr (by omega)⟩
                refine gs (pc' := 103) (fun _ _ _ _ _ hl => lv_bipush (v := (-2)) hx hb d_Mo_corner_101 (by decide)) ?_
                refine g_eqi (show (-2) = iI (-2) from by decide) ?_
                have hV_463 : MW cA hm A S 0 none none none G_168 := ⟨sg_153, sh_154, kt_155, kb_156, ks_157, Rr_158, _, f_171, mr_175, f_172, sn_, sn_, sn_, mb_176⟩
                rw [st_corner hrn hn hi_g hi_i hi_j, if_pos hc1] at hret
                exact hret 103 _ _ _ _ d_Mo_corner_103 hB1 hB2 ⟨rfl, fun _ => rfl, hV_463, gf_173⟩
        · skip
          have nc_177 : 0 > 0 := (n0_le (a := 0) (by omega)).2 c_177
          exact absurd nc_177 (by decide)
