set_option maxHeartbeats 4000000 in
set_option maxRecDepth 100000 in
theorem c_Mo_round (l : Launch) (D : va_G) (cA : Nat → ClassId) (lo MC MS : Nat) (G : gT) (B : Nat × Nat) (hm : Nat) (A : Nat → Nat) (S : St) (th : Nat) (qm qo qk : Option Rat) (hV : MW cA hm A S th qm qo qk G) (hW : WF S) (x : Int) (hx1 : -2147483648 ≤ x) (hx2 : x < 2147483648) (ru : Int) (hru1 : -2147483648 ≤ ru) (hru2 : ru < 2147483648) (sp : Int) (hsp1 : -2147483648 ≤ sp) (hsp2 : sp < 2147483648) (hB1 : B.1 ≤ MC) (hB2 : B.2 ≤ MS) : gMet l y_Mo_round w_Mo_round 4 109 D clS (gtys cA) lo MC MS [.ref hm, .int (iI x), .int (iI ru), .int (iI sp)] G B (gQi D clS lo (fun r9 u => u.2 = B ∧ ((sp_round S (iI x) (iI ru) (iI sp)).1 = 0 → r9 = iI (sp_round S (iI x) (iI ru) (iI sp)).2.1) ∧ MW cA hm A (sp_round S (iI x) (iI ru) (iI sp)).2.2 (sp_round S (iI x) (iI ru) (iI sp)).1 none none none u.1 ∧ gfr mT G u.1)) := by
  refine g_meti (cc := prog_11_method_34_code) (nL := 8) (L := [(0, .ref hm), (1, .int (iI x)), (2, .int (iI ru)), (3, .int (iI sp))]) (by decide +kernel) rfl (Nat.le_of_ble_eq_true rfl) rfl ?_
  intro p e R s m args below meth c Q hF hRc hRs hRf hRl hret
  obtain ⟨hx, hb, hr, hml, hts0, hown, hlocks, hin, hK, hlo, hZ⟩ := hF
  have hts : ∀ w ∈ tbg, w.before args s = true := fun w h => hts0 w (List.mem_cons_of_mem _ h)
  have hn := hW.n
  have hrn := hW.rn
  have hwn := hW.wn
  refine gs (pc' := 1) (fun _ _ _ _ _ hl => lv_aload_n hx hb d_Mo_round_0 rfl (lv_at hl 0 rfl)) ?_
  refine gs (pc' := 2) (fun _ _ _ _ _ hl => lv_aload_n hx hb d_Mo_round_1 rfl (lv_at hl 0 rfl)) ?_
  refine gs (pc' := 3) (fun _ _ _ _ _ hl => lv_iload_n hx hb d_Mo_round_2 rfl (lv_at hl 1 rfl)) ?_
  obtain ⟨sg_1, sh_2, kt_3, kb_4, ks_5, Rr_6, kf_7, v_8, v_9, v_10, v_11, v_12, v_13, v_14⟩ := id hV
  have f_15 : G hm = some (70, .inr (9, [.int (nI th), .int (nI S.n), .ref (A 2), .ref (A 3), .ref (A 4), .ref (A 5), .int sg_1, .int sh_2, .ref (A 8), .ref (A 9), .int (nI S.rn), .ref (A 11), .ref (A 12), .ref (A 13), .int (nI S.wn), .ref (A 15), .ref (A 16), .ref (A 17), .ref (A 18), .int kt_3, .int kb_4, .int ks_5])) := v_8
  have hV_16 : MW cA hm A S th qm qo qk G := ⟨sg_1, sh_2, kt_3, kb_4, ks_5, Rr_6, _, f_15, v_9, v_10, v_11, v_12, v_13, v_14⟩
  refine g_outi hlo (g_runV (As := [.int (iI x)]) (rest := [.ref hm]) ⟨hx, hb, hml, hown, hts⟩ hK hZ hRc hRs (c_Mo_isValue l D cA lo MC MS G B hm A S th qm qo qk hV_16 hW x (by omega) (by omega) hB1 hB2) (fun _ _ => cwV 1 hts (tb_good (tb_cons wm893 (tb_cons wm895 (tb_cons ws33 (tb_cons wm12 k_Mo_isValue))))) rfl rfl rfl (by decide +kernel) ⟨by rw [hRf]; exact Nat.le_of_ble_eq_true rfl, by rw [hRl]; exact Nat.le_of_ble_eq_true rfl⟩) f_15 rfl hB1 hB2 rfl (Nat.le_of_ble_eq_true rfl) d_Mo_round_3) (fun r_20 G_17 B_18 p_19 => ?_)
  obtain ⟨u_21, e_22⟩ := p_19
  cases u_21
  subst e_22
  have bd_23 := b01_le (decide (0 ≤ x ∧ x < S.n))
  refine gsb (pc1 := 13) (pc2 := 9) (fun _ _ _ _ _ => lv_if_ne (tgt := 13) hx hb d_Mo_round_6 (by decide)) (fun c_24 => ?_) (fun c_24 => ?_)
  · skip
    have nc_24 : (b01 (decide (0 ≤ x ∧ x < S.n))) ≠ 0 := (n0_ne (a := (b01 (decide (0 ≤ x ∧ x < S.n)))) (by omega)).1 c_24
    have hg_x : 0 ≤ x ∧ x < S.n := b01_1 nc_24
    have hg1_x := hg_x.1
    have hg2_x := hg_x.2
    obtain ⟨i, hxe_i⟩ : ∃ i : Nat, x = (i : Int) := ⟨x.toNat, by omega⟩
    subst hxe_i
    rw [← nI_iI i] at hret ⊢
    have hi_i : i < S.n := by omega
    have rbq_25 : rb (S.v i) 100 := rb_of (hW.v _ hi_i).1
    refine gs (pc' := 14) (fun _ _ _ _ _ hl => lv_iload_n hx hb d_Mo_round_13 rfl (lv_at hl 2 rfl)) ?_
    refine gsb (pc1 := 33) (pc2 := 17) (fun _ _ _ _ _ => lv_if_lt (tgt := 33) hx hb d_Mo_round_14 (by decide)) (fun c_26 => ?_) (fun c_26 => ?_)
    · skip
      have nc_26 : ru < 0 := (ii_lt (a := ru) (b := 0) (by omega) (by omega) (by omega) (by omega)).1 (by first | exact c_26 | (have z9 := c_26; simp only [nI_iI] at z9; exact z9))
      have hbad : ¬ (0 ≤ ru ∧ ru ≤ 3 ∧ 1 ≤ sp ∧ sp ≤ 1000000000) := by omega
      refine gs (pc' := 34) (fun _ _ _ _ _ hl => lv_iconst (v := nI 2) hx hb d_Mo_round_33 (by decide)) ?_
      refine gs (pc' := 38) (fun _ _ _ _ _ hl => lv_goto (tgt := 38) hx hb d_Mo_round_34 (by decide)) ?_
      obtain ⟨sg_27, sh_28, kt_29, kb_30, ks_31, Rr_32, kf_33, v_34, v_35, v_36, v_37, v_38, v_39, v_40⟩ := id hV_16
      have f_41 : G hm = some (70, .inr (9, [.int (nI th), .int (nI S.n), .ref (A 2), .ref (A 3), .ref (A 4), .ref (A 5), .int sg_27, .int sh_28, .ref (A 8), .ref (A 9), .int (nI S.rn), .ref (A 11), .ref (A 12), .ref (A 13), .int (nI S.wn), .ref (A 15), .ref (A 16), .ref (A 17), .ref (A 18), .int kt_29, .int kb_30, .int ks_31])) := v_34
      refine g_put (ty := .int) hx hb hts hin_Mo ty_Mo ty_Mo_ok nm_Mo hown hK f_41 rfl 0 (by decide) (hts _ wm754) (fun _ h9 => h9) rfl (by decide +kernel) rfl rfl (Nat.le_of_ble_eq_true rfl) d_Mo_round_38 (fun G_42 f_43 o_44 => ?_)
      have f_45 : G_42 hm = some (70, .inr (9, [.int (nI 2), .int (nI S.n), .ref (A 2), .ref (A 3), .ref (A 4), .ref (A 5), .int sg_27, .int sh_28, .ref (A 8), .ref (A 9), .int (nI S.rn), .ref (A 11), .ref (A 12), .ref (A 13), .int (nI S.wn), .ref (A 15), .ref (A 16), .ref (A 17), .ref (A 18), .int kt_29, .int kb_30, .int ks_31])) := f_43
      have f_46 : G_42 (A 18) = some (83, .inl (cA 0, 8600, .inl kf_33)) := (o_44 _ (gne v_36 f_41 (fun e => by cases e))).trans v_36
      have gf_47 : gfr mT G G_42 := gfr_put gfr_rf f_41 (show mT 70 by decide) o_44
      have gf_48 : gfr (fun x => x = 70) _ G_42 := gfr_put gfr_rf f_41 rfl o_44
      have mr_49 : MR cA A Rr_32 G_42 := MR_fr v_35 gf_48 (show ¬ (75 : Nat) = 70 by decide) (show ¬ (76 : Nat) = 70 by decide)
      have mb_50 : MB cA A S G_42 := MB_fr v_40 gf_48 (fun x h9 => by omega)
      refine gs (pc' := 42) (fun _ _ _ _ _ hl => lv_aload_n hx hb d_Mo_round_41 rfl (lv_at hl 0 rfl)) ?_
      refine g_get hx hb hts hin_Mo hown hK f_45 rfl 0 (by decide) (hts _ wm754) (fun _ h9 => h9) rfl d_Mo_round_42 ?_
      refine gsb (pc1 := 50) (pc2 := 48) (fun _ _ _ _ _ => lv_if_le (tgt := 50) hx hb d_Mo_round_45 (by decide)) (fun c_51 => ?_) (fun c_51 => ?_)
      · skip
        have nc_51 : 2 ≤ 0 := (n0_le (a := 2) (by omega)).1 c_51
        exact absurd nc_51 (by decide)
      · skip
        have nc_51 : 2 > 0 := (n0_le (a := 2) (by omega)).2 c_51
        refine gs (pc' := 49) (fun _ _ _ _ _ hl => lv_iconst (v := nI 0) hx hb d_Mo_round_48 (by decide)) ?_
        have hV_52 : MW cA hm A S 2 none none none G_42 := ⟨sg_27, sh_28, kt_29, kb_30, ks_31, Rr_32, _, f_45, mr_49, f_46, sn_, sn_, sn_, mb_50⟩
        rw [sv_round hn hi_i hru1 hru2 hsp1 hsp2 hbad] at hret
        exact hret 49 _ _ _ _ d_Mo_round_49 hB1 hB2 ⟨rfl, fun h9 => absurd (show (2 : Nat) = 0 from h9) (by decide), hV_52, gf_47⟩
    · skip
      have nc_26 : ru ≥ 0 := (ii_lt (a := ru) (b := 0) (by omega) (by omega) (by omega) (by omega)).2 (by first | exact c_26 | (have z9 := c_26; simp only [nI_iI] at z9; exact z9))
      refine gs (pc' := 18) (fun _ _ _ _ _ hl => lv_iload_n hx hb d_Mo_round_17 rfl (lv_at hl 2 rfl)) ?_
      refine gs (pc' := 19) (fun _ _ _ _ _ hl => lv_iconst (v := nI 3) hx hb d_Mo_round_18 (by decide)) ?_
      refine gsb (pc1 := 33) (pc2 := 22) (fun _ _ _ _ _ => lv_icmp_gt (tgt := 33) hx hb d_Mo_round_19 (by decide)) (fun c_53 => ?_) (fun c_53 => ?_)
      · skip
        have nc_53 : ru > ((3 : Nat) : Int) := (ii_gt (a := ru) (b := ((3 : Nat) : Int)) (by omega) (by omega) (by omega) (by omega)).1 (by first | exact c_53 | (have z9 := c_53; simp only [nI_iI] at z9; exact z9))
        have hbad : ¬ (0 ≤ ru ∧ ru ≤ 3 ∧ 1 ≤ sp ∧ sp ≤ 1000000000) := by omega
        refine gs (pc' := 34) (fun _ _ _ _ _ hl => lv_iconst (v := nI 2) hx hb d_Mo_round_33 (by decide)) ?_
        refine gs (pc' := 38) (fun _ _ _ _ _ hl => lv_goto (tgt := 38) hx hb d_Mo_round_34 (by decide)) ?_
        obtain ⟨sg_54, sh_55, kt_56, kb_57, ks_58, Rr_59, kf_60, v_61, v_62, v_63, v_64, v_65, v_66, v_67⟩ := id hV_16
        have f_68 : G hm = some (70, .inr (9, [.int (nI th), .int (nI S.n), .ref (A 2), .ref (A 3), .ref (A 4), .ref (A 5), .int sg_54, .int sh_55, .ref (A 8), .ref (A 9), .int (nI S.rn), .ref (A 11), .ref (A 12), .ref (A 13), .int (nI S.wn), .ref (A 15), .ref (A 16), .ref (A 17), .ref (A 18), .int kt_56, .int kb_57, .int ks_58])) := v_61
        refine g_put (ty := .int) hx hb hts hin_Mo ty_Mo ty_Mo_ok nm_Mo hown hK f_68 rfl 0 (by decide) (hts _ wm754) (fun _ h9 => h9) rfl (by decide +kernel) rfl rfl (Nat.le_of_ble_eq_true rfl) d_Mo_round_38 (fun G_69 f_70 o_71 => ?_)
        have f_72 : G_69 hm = some (70, .inr (9, [.int (nI 2), .int (nI S.n), .ref (A 2), .ref (A 3), .ref (A 4), .ref (A 5), .int sg_54, .int sh_55, .ref (A 8), .ref (A 9), .int (nI S.rn), .ref (A 11), .ref (A 12), .ref (A 13), .int (nI S.wn), .ref (A 15), .ref (A 16), .ref (A 17), .ref (A 18), .int kt_56, .int kb_57, .int ks_58])) := f_70
        have f_73 : G_69 (A 18) = some (83, .inl (cA 0, 8600, .inl kf_60)) := (o_71 _ (gne v_63 f_68 (fun e => by cases e))).trans v_63
        have gf_74 : gfr mT G G_69 := gfr_put gfr_rf f_68 (show mT 70 by decide) o_71
        have gf_75 : gfr (fun x => x = 70) _ G_69 := gfr_put gfr_rf f_68 rfl o_71
        have mr_76 : MR cA A Rr_59 G_69 := MR_fr v_62 gf_75 (show ¬ (75 : Nat) = 70 by decide) (show ¬ (76 : Nat) = 70 by decide)
        have mb_77 : MB cA A S G_69 := MB_fr v_67 gf_75 (fun x h9 => by omega)
        refine gs (pc' := 42) (fun _ _ _ _ _ hl => lv_aload_n hx hb d_Mo_round_41 rfl (lv_at hl 0 rfl)) ?_
        refine g_get hx hb hts hin_Mo hown hK f_72 rfl 0 (by decide) (hts _ wm754) (fun _ h9 => h9) rfl d_Mo_round_42 ?_
        refine gsb (pc1 := 50) (pc2 := 48) (fun _ _ _ _ _ => lv_if_le (tgt := 50) hx hb d_Mo_round_45 (by decide)) (fun c_78 => ?_) (fun c_78 => ?_)
        · skip
          have nc_78 : 2 ≤ 0 := (n0_le (a := 2) (by omega)).1 c_78
          exact absurd nc_78 (by decide)
        · skip
          have nc_78 : 2 > 0 := (n0_le (a := 2) (by omega)).2 c_78
          refine gs (pc' := 49) (fun _ _ _ _ _ hl => lv_iconst (v := nI 0) hx hb d_Mo_round_48 (by decide)) ?_
          have hV_79 : MW cA hm A S 2 none none none G_69 := ⟨sg_54, sh_55, kt_56, kb_57, ks_58, Rr_59, _, f_72, mr_76, f_73, sn_, sn_, sn_, mb_77⟩
          rw [sv_round hn hi_i hru1 hru2 hsp1 hsp2 hbad] at hret
          exact hret 49 _ _ _ _ d_Mo_round_49 hB1 hB2 ⟨rfl, fun h9 => absurd (show (2 : Nat) = 0 from h9) (by decide), hV_79, gf_74⟩
      · skip
        have nc_53 : ru ≤ ((3 : Nat) : Int) := (ii_gt (a := ru) (b := ((3 : Nat) : Int)) (by omega) (by omega) (by omega) (by omega)).2 (by first | exact c_53 | (have z9 := c_53; simp only [nI_iI] at z9; exact z9))
        refine gs (pc' := 23) (fun _ _ _ _ _ hl => lv_iload_n hx hb d_Mo_round_22 rfl (lv_at hl 3 rfl)) ?_
        refine gs (pc' := 24) (fun _ _ _ _ _ hl => lv_iconst (v := nI 1) hx hb d_Mo_round_23 (by decide)) ?_
        refine gsb (pc1 := 33) (pc2 := 27) (fun _ _ _ _ _ => lv_icmp_lt (tgt := 33) hx hb d_Mo_round_24 (by decide)) (fun c_80 => ?_) (fun c_80 => ?_)
        · skip
          have nc_80 : sp < ((1 : Nat) : Int) := (ii_lt (a := sp) (b := ((1 : Nat) : Int)) (by omega) (by omega) (by omega) (by omega)).1 (by first | exact c_80 | (have z9 := c_80; simp only [nI_iI] at z9; exact z9))
          have hbad : ¬ (0 ≤ ru ∧ ru ≤ 3 ∧ 1 ≤ sp ∧ sp ≤ 1000000000) := by omega
          refine gs (pc' := 34) (fun _ _ _ _ _ hl => lv_iconst (v := nI 2) hx hb d_Mo_round_33 (by decide)) ?_
          refine gs (pc' := 38) (fun _ _ _ _ _ hl => lv_goto (tgt := 38) hx hb d_Mo_round_34 (by decide)) ?_
          obtain ⟨sg_81, sh_82, kt_83, kb_84, ks_85, Rr_86, kf_87, v_88, v_89, v_90, v_91, v_92, v_93, v_94⟩ := id hV_16
          have f_95 : G hm = some (70, .inr (9, [.int (nI th), .int (nI S.n), .ref (A 2), .ref (A 3), .ref (A 4), .ref (A 5), .int sg_81, .int sh_82, .ref (A 8), .ref (A 9), .int (nI S.rn), .ref (A 11), .ref (A 12), .ref (A 13), .int (nI S.wn), .ref (A 15), .ref (A 16), .ref (A 17), .ref (A 18), .int kt_83, .int kb_84, .int ks_85])) := v_88
          refine g_put (ty := .int) hx hb hts hin_Mo ty_Mo ty_Mo_ok nm_Mo hown hK f_95 rfl 0 (by decide) (hts _ wm754) (fun _ h9 => h9) rfl (by decide +kernel) rfl rfl (Nat.le_of_ble_eq_true rfl) d_Mo_round_38 (fun G_96 f_97 o_98 => ?_)
          have f_99 : G_96 hm = some (70, .inr (9, [.int (nI 2), .int (nI S.n), .ref (A 2), .ref (A 3), .ref (A 4), .ref (A 5), .int sg_81, .int sh_82, .ref (A 8), .ref (A 9), .int (nI S.rn), .ref (A 11), .ref (A 12), .ref (A 13), .int (nI S.wn), .ref (A 15), .ref (A 16), .ref (A 17), .ref (A 18), .int kt_83, .int kb_84, .int ks_85])) := f_97
          have f_100 : G_96 (A 18) = some (83, .inl (cA 0, 8600, .inl kf_87)) := (o_98 _ (gne v_90 f_95 (fun e => by cases e))).trans v_90
          have gf_101 : gfr mT G G_96 := gfr_put gfr_rf f_95 (show mT 70 by decide) o_98
          have gf_102 : gfr (fun x => x = 70) _ G_96 := gfr_put gfr_rf f_95 rfl o_98
          have mr_103 : MR cA A Rr_86 G_96 := MR_fr v_89 gf_102 (show ¬ (75 : Nat) = 70 by decide) (show ¬ (76 : Nat) = 70 by decide)
          have mb_104 : MB cA A S G_96 := MB_fr v_94 gf_102 (fun x h9 => by omega)
          refine gs (pc' := 42) (fun _ _ _ _ _ hl => lv_aload_n hx hb d_Mo_round_41 rfl (lv_at hl 0 rfl)) ?_
          refine g_get hx hb hts hin_Mo hown hK f_99 rfl 0 (by decide) (hts _ wm754) (fun _ h9 => h9) rfl d_Mo_round_42 ?_
          refine gsb (pc1 := 50) (pc2 := 48) (fun _ _ _ _ _ => lv_if_le (tgt := 50) hx hb d_Mo_round_45 (by decide)) (fun c_105 => ?_) (fun c_105 => ?_)
          · skip
            have nc_105 : 2 ≤ 0 := (n0_le (a := 2) (by omega)).1 c_105
            exact absurd nc_105 (by decide)
          · skip
            have nc_105 : 2 > 0 := (n0_le (a := 2) (by omega)).2 c_105
            refine gs (pc' := 49) (fun _ _ _ _ _ hl => lv_iconst (v := nI 0) hx hb d_Mo_round_48 (by decide)) ?_
            have hV_106 : MW cA hm A S 2 none none none G_96 := ⟨sg_81, sh_82, kt_83, kb_84, ks_85, Rr_86, _, f_99, mr_103, f_100, sn_, sn_, sn_, mb_104⟩
            rw [sv_round hn hi_i hru1 hru2 hsp1 hsp2 hbad] at hret
            exact hret 49 _ _ _ _ d_Mo_round_49 hB1 hB2 ⟨rfl, fun h9 => absurd (show (2 : Nat) = 0 from h9) (by decide), hV_106, gf_101⟩
        · skip
          have nc_80 : sp ≥ ((1 : Nat) : Int) := (ii_lt (a := sp) (b := ((1 : Nat) : Int)) (by omega) (by omega) (by omega) (by omega)).2 (by first | exact c_80 | (have z9 := c_80; simp only [nI_iI] at z9; exact z9))
          refine gs (pc' := 28) (fun _ _ _ _ _ hl => lv_iload_n hx hb d_Mo_round_27 rfl (lv_at hl 3 rfl)) ?_
          refine gs (pc' := 30) (fun _ _ _ _ _ hl => lv_ldc (v := 1000000000) hx hb hown (hts _ wm867) d_Mo_round_28) ?_
          refine g_eqi (show 1000000000 = nI 1000000000 from rfl) ?_
          refine gsb (pc1 := 37) (pc2 := 33) (fun _ _ _ _ _ => lv_icmp_le (tgt := 37) hx hb d_Mo_round_30 (by decide)) (fun c_107 => ?_) (fun c_107 => ?_)
          · skip
            have nc_107 : sp ≤ ((1000000000 : Nat) : Int) := (ii_le (a := sp) (b := ((1000000000 : Nat) : Int)) (by omega) (by omega) (by omega) (by omega)).1 (by first | exact c_107 | (have z9 := c_107; simp only [nI_iI] at z9; exact z9))
            obtain ⟨rl, hxe_rl⟩ : ∃ rl : Nat, ru = (rl : Int) := ⟨ru.toNat, by omega⟩
            subst hxe_rl
            rw [← nI_iI rl] at hret ⊢
            obtain ⟨sn, hxe_sn⟩ : ∃ sn : Nat, sp = (sn : Int) := ⟨sp.toNat, by omega⟩
            subst hxe_sn
            rw [← nI_iI sn] at hret ⊢
            have hrl : rl ≤ 3 := by omega
            have hsn1 : 1 ≤ sn := by omega
            have hsn2 : sn ≤ 1000000000 := by omega
            refine gs (pc' := 38) (fun _ _ _ _ _ hl => lv_iconst (v := nI 0) hx hb d_Mo_round_37 (by decide)) ?_
            obtain ⟨sg_108, sh_109, kt_110, kb_111, ks_112, Rr_113, kf_114, v_115, v_116, v_117, v_118, v_119, v_120, v_121⟩ := id hV_16
            have f_122 : G hm = some (70, .inr (9, [.int (nI th), .int (nI S.n), .ref (A 2), .ref (A 3), .ref (A 4), .ref (A 5), .int sg_108, .int sh_109, .ref (A 8), .ref (A 9), .int (nI S.rn), .ref (A 11), .ref (A 12), .ref (A 13), .int (nI S.wn), .ref (A 15), .ref (A 16), .ref (A 17), .ref (A 18), .int kt_110, .int kb_111, .int ks_112])) := v_115
            refine g_put (ty := .int) hx hb hts hin_Mo ty_Mo ty_Mo_ok nm_Mo hown hK f_122 rfl 0 (by decide) (hts _ wm754) (fun _ h9 => h9) rfl (by decide +kernel) rfl rfl (Nat.le_of_ble_eq_true rfl) d_Mo_round_38 (fun G_123 f_124 o_125 => ?_)
            have f_126 : G_123 hm = some (70, .inr (9, [.int (nI 0), .int (nI S.n), .ref (A 2), .ref (A 3), .ref (A 4), .ref (A 5), .int sg_108, .int sh_109, .ref (A 8), .ref (A 9), .int (nI S.rn), .ref (A 11), .ref (A 12), .ref (A 13), .int (nI S.wn), .ref (A 15), .ref (A 16), .ref (A 17), .ref (A 18), .int kt_110, .int kb_111, .int ks_112])) := f_124
            have f_127 : G_123 (A 18) = some (83, .inl (cA 0, 8600, .inl kf_114)) := (o_125 _ (gne v_117 f_122 (fun e => by cases e))).trans v_117
            have gf_128 : gfr mT G G_123 := gfr_put gfr_rf f_122 (show mT 70 by decide) o_125
            have gf_129 : gfr (fun x => x = 70) _ G_123 := gfr_put gfr_rf f_122 rfl o_125
            have mr_130 : MR cA A Rr_113 G_123 := MR_fr v_116 gf_129 (show ¬ (75 : Nat) = 70 by decide) (show ¬ (76 : Nat) = 70 by decide)
            have mb_131 : MB cA A S G_123 := MB_fr v_121 gf_129 (fun x h9 => by omega)
            refine gs (pc' := 42) (fun _ _ _ _ _ hl => lv_aload_n hx hb d_Mo_round_41 rfl (lv_at hl 0 rfl)) ?_
            refine g_get hx hb hts hin_Mo hown hK f_126 rfl 0 (by decide) (hts _ wm754) (fun _ h9 => h9) rfl d_Mo_round_42 ?_
            refine gsb (pc1 := 50) (pc2 := 48) (fun _ _ _ _ _ => lv_if_le (tgt := 50) hx hb d_Mo_round_45 (by decide)) (fun c_132 => ?_) (fun c_132 => ?_)
            · skip
              have nc_132 : 0 ≤ 0 := (n0_le (a := 0) (by omega)).1 c_132
              refine gs (pc' := 51) (fun _ _ _ _ _ hl => lv_aload_n hx hb d_Mo_round_50 rfl (lv_at hl 0 rfl)) ?_
              refine g_get hx hb hts hin_Mo hown hK f_126 rfl 1 (by decide) (hts _ wm755) (fun _ h9 => h9) rfl d_Mo_round_51 ?_
              refine gs (pc' := 57) (fun _ _ _ _ _ hl => lv_sipush (v := nI 200) hx hb d_Mo_round_54 (by decide)) ?_
              refine gsb (pc1 := 63) (pc2 := 60) (fun _ _ _ _ _ => lv_icmp_ne (tgt := 63) hx hb d_Mo_round_57 (by decide)) (fun c_133 => ?_) (fun c_133 => ?_)
              · skip
                have nc_133 : S.n ≠ 200 := (nn_ne (a := S.n) (b := 200) (by omega) (by omega)).1 c_133
                refine gs (pc' := 64) (fun _ _ _ _ _ hl => lv_aload_n hx hb d_Mo_round_63 rfl (lv_at hl 0 rfl)) ?_
                refine gs (pc' := 65) (fun _ _ _ _ _ hl => lv_iload_n hx hb d_Mo_round_64 rfl (lv_at hl 1 rfl)) ?_
                have hV_134 : MW cA hm A S 0 qm qo qk G_123 := ⟨sg_108, sh_109, kt_110, kb_111, ks_112, Rr_113, _, f_126, mr_130, f_127, v_118, v_119, v_120, mb_131⟩
                refine g_outv hlo (g_runV (As := [.int (nI i)]) (rest := []) ⟨hx, hb, hml, hown, hts⟩ hK hZ hRc hRs (c_Mo_load l D cA lo MC MS G_123 B hm A S 0 qm qo qk hV_134 hW i (by omega) hB1 hB2) (fun _ _ => cwV 1 hts (tb_good (tb_cons wm897 (tb_cons wm899 (tb_cons ws34 (tb_cons wm12 k_Mo_load))))) rfl rfl rfl (by decide +kernel) ⟨by rw [hRf]; exact Nat.le_of_ble_eq_true rfl, by rw [hRl]; exact Nat.le_of_ble_eq_true rfl⟩) f_126 rfl hB1 hB2 rfl (Nat.le_of_ble_eq_true rfl) d_Mo_round_65) (fun G_135 B_136 p_137 => ?_)
                obtain ⟨e_138, hV_139, gf_140⟩ := p_137
                have e_138b : B = B_136 := e_138.symm
                subst e_138b
                have gf_141 : gfr mT G G_135 := mT_mT gf_128 gf_140
                obtain ⟨sg_142, sh_143, kt_144, kb_145, ks_146, Rr_147, kf_148, v_149, v_150, v_151, v_152, v_153, v_154, v_155⟩ := id hV_139
                have f_156 : G_135 hm = some (70, .inr (9, [.int (nI 0), .int (nI S.n), .ref (A 2), .ref (A 3), .ref (A 4), .ref (A 5), .int sg_142, .int sh_143, .ref (A 8), .ref (A 9), .int (nI S.rn), .ref (A 11), .ref (A 12), .ref (A 13), .int (nI S.wn), .ref (A 15), .ref (A 16), .ref (A 17), .ref (A 18), .int kt_144, .int kb_145, .int ks_146])) := v_149
                obtain ⟨e_157, e_158, e_159⟩ := v_152 _ rfl
                have f_160 : G_135 hm = some (70, .inr (9, [.int (nI 0), .int (nI S.n), .ref (A 2), .ref (A 3), .ref (A 4), .ref (A 5), .int (iI ((S.v i).num.sign)), .int sh_143, .ref (A 8), .ref (A 9), .int (nI S.rn), .ref (A 11), .ref (A 12), .ref (A 13), .int (nI S.wn), .ref (A 15), .ref (A 16), .ref (A 17), .ref (A 18), .int kt_144, .int kb_145, .int ks_146])) := by rw [← e_157]; exact f_156
                have fm_161 : ∀ r9, some (S.v i) = some r9 → fc (iI ((S.v i).num.sign)) (Rr_147 0) (Rr_147 1) r9 := by rw [← e_157]; exact v_152
                have s3_162 := sg3 (S.v i).num
                refine gs (pc' := 69) (fun _ _ _ _ _ hl => lv_aload_n hx hb d_Mo_round_68 rfl (lv_at hl 0 rfl)) ?_
                refine gs (pc' := 70) (fun _ _ _ _ _ hl => lv_iconst (v := nI 0) hx hb d_Mo_round_69 (by decide)) ?_
                refine gs (pc' := 71) (fun _ _ _ _ _ hl => lv_iload_n hx hb d_Mo_round_70 rfl (lv_at hl 3 rfl)) ?_
                refine gs (pc' := 72) (fun _ _ _ _ _ hl => lv_i2l (v := lN sn) hx hb d_Mo_round_71 (nI_l (by omega))) ?_
                refine g_outv hlo (g_runV (As := [.int (nI 0), .long (lN sn)]) (rest := []) ⟨hx, hb, hml, hown, hts⟩ hK hZ hRc hRs (c_Mo_scale l D cA lo MC MS G_135 B hm A (mi (nI 0) (nI S.n) (iI ((S.v i).num.sign)) sh_143 (nI S.rn) (nI S.wn) kt_144 kb_145 ks_146) f_160 Rr_147 v_150 0 (by decide) sn (by omega) (100) (by rw [e_158]; exact rbq_25.1) (by omega) hB1 hB2) (fun _ _ => cwV 2 hts (tb_good (tb_cons wm868 (tb_cons wm870 (tb_cons ws28 (tb_cons wm12 k_Mo_scale))))) rfl rfl rfl (by decide +kernel) ⟨by rw [hRf]; exact Nat.le_of_ble_eq_true rfl, by rw [hRl]; exact Nat.le_of_ble_eq_true rfl⟩) f_160 rfl hB1 hB2 rfl (Nat.le_of_ble_eq_true rfl) d_Mo_round_72) (fun G_163 B_164 p_165 => ?_)
                obtain ⟨e_166, mr_167, f_168, gf_169⟩ := p_165
                have e_166b : B = B_164 := e_166.symm
                subst e_166b
                have gf_170 : gfr mT G G_163 := mT_75 gf_141 gf_169
                have mb_171 : MB cA A S G_163 := MB_75 v_155 gf_169
                have f_172 : G_163 hm = some (70, .inr (9, [.int (nI 0), .int (nI S.n), .ref (A 2), .ref (A 3), .ref (A 4), .ref (A 5), .int (iI ((S.v i).num.sign)), .int sh_143, .ref (A 8), .ref (A 9), .int (nI S.rn), .ref (A 11), .ref (A 12), .ref (A 13), .int (nI S.wn), .ref (A 15), .ref (A 16), .ref (A 17), .ref (A 18), .int kt_144, .int kb_145, .int ks_146])) := f_168
                have f_173 : G_163 (A 18) = some (83, .inl (cA 0, 8600, .inl kf_148)) := gf_169 _ _ v_151 (show ¬ ((83 : Nat) = 75 ∨ (83 : Nat) = 76) by decide)
                obtain ⟨Rr_174, hR_175⟩ : ∃ y9, y9 = (fup Rr_147 0 (Rr_147 0 * sn)) := ⟨_, rfl⟩
                rw [← hR_175] at mr_167
                have e_176 : Rr_174 1 = (S.v i).den := (congrFun hR_175 1).trans e_159
                have e_177 : Rr_174 0 = ((S.v i).num.natAbs) * sn := (congrFun hR_175 0).trans (by rw [← e_158]; rfl)
                have bd_178 : ((S.v i).num.natAbs) * sn < 1000000000 ^ (100 + 1) := pw_sc rbq_25.1 (by omega)
                have fm_179 : ∀ r9, qo = some r9 → fc sh_143 (Rr_174 2) (Rr_174 3) r9 := by rw [show Rr_174 2 = Rr_147 2 from congrFun hR_175 2, show Rr_174 3 = Rr_147 3 from congrFun hR_175 3]; exact v_153
                refine gs (pc' := 76) (fun _ _ _ _ _ hl => lv_aload_n hx hb d_Mo_round_75 rfl (lv_at hl 0 rfl)) ?_
                refine gs (pc' := 77) (fun _ _ _ _ _ hl => lv_iconst (v := nI 0) hx hb d_Mo_round_76 (by decide)) ?_
                refine gs (pc' := 78) (fun _ _ _ _ _ hl => lv_iconst (v := nI 1) hx hb d_Mo_round_77 (by decide)) ?_
                obtain ⟨Qn, hQ⟩ : ∃ y9, y9 = (((S.v i).num.natAbs) * sn) / ((S.v i).den) := ⟨_, rfl⟩
                obtain ⟨Rm, hR⟩ : ∃ y9, y9 = (((S.v i).num.natAbs) * sn) % ((S.v i).den) := ⟨_, rfl⟩
                refine g_outv hlo (g_runV (As := [.int (nI 0), .int (nI 1)]) (rest := []) ⟨hx, hb, hml, hown, hts⟩ hK hZ hRc hRs (c_Mo_divide l D cA lo MC MS G_163 B hm A (mi (nI 0) (nI S.n) (iI ((S.v i).num.sign)) sh_143 (nI S.rn) (nI S.wn) kt_144 kb_145 ks_146) f_172 Rr_174 mr_167 0 (by decide) 1 (by decide) (by decide) (by decide) (by decide) (by rw [e_176]; exact (S.v i).den_pos) (100 + 1) (by rw [e_177]; exact bd_178) (by rw [e_176]; exact pw_up rbq_25.2 (by omega)) (by omega) hB1 hB2) (fun _ _ => cwV 2 hts (tb_good (tb_cons wm851 (tb_cons wm853 (tb_cons ws24 (tb_cons wm12 k_Mo_divide))))) rfl rfl rfl (by decide +kernel) ⟨by rw [hRf]; exact Nat.le_of_ble_eq_true rfl, by rw [hRl]; exact Nat.le_of_ble_eq_true rfl⟩) f_172 rfl hB1 hB2 rfl (Nat.le_of_ble_eq_true rfl) d_Mo_round_78) (fun G_180 B_181 p_182 => ?_)
                obtain ⟨e_183, mr_184, f_185, gf_186⟩ := p_182
                have e_183b : B = B_181 := e_183.symm
                subst e_183b
                have gf_187 : gfr mT G G_180 := mT_75 gf_170 gf_186
                have mb_188 : MB cA A S G_180 := MB_75 mb_171 gf_186
                have f_189 : G_180 hm = some (70, .inr (9, [.int (nI 0), .int (nI S.n), .ref (A 2), .ref (A 3), .ref (A 4), .ref (A 5), .int (iI ((S.v i).num.sign)), .int sh_143, .ref (A 8), .ref (A 9), .int (nI S.rn), .ref (A 11), .ref (A 12), .ref (A 13), .int (nI S.wn), .ref (A 15), .ref (A 16), .ref (A 17), .ref (A 18), .int kt_144, .int kb_145, .int ks_146])) := f_185
                have f_190 : G_180 (A 18) = some (83, .inl (cA 0, 8600, .inl kf_148)) := gf_186 _ _ f_173 (show ¬ ((83 : Nat) = 75 ∨ (83 : Nat) = 76) by decide)
                obtain ⟨Rr_191, hR_192⟩ : ∃ y9, y9 = (fup (fup Rr_174 8 (Rr_174 0 / Rr_174 1)) 0 (Rr_174 0 % Rr_174 1)) := ⟨_, rfl⟩
                rw [← hR_192] at mr_184
                have e_193 : Rr_191 1 = (S.v i).den := (congrFun hR_192 1).trans e_176
                have e_194 : Rr_191 8 = Qn := (congrFun hR_192 8).trans (by rw [hQ, ← e_177, ← e_176]; rfl)
                have bd_195 : Qn < 1000000000 ^ (100 + 1) := by rw [hQ]; exact Nat.lt_of_le_of_lt (Nat.div_le_self _ _) bd_178
                have e_196 : Rr_191 0 = Rm := (congrFun hR_192 0).trans (by rw [hR, ← e_177, ← e_176]; rfl)
                have bd_197 : Rm < 1000000000 ^ (100) := by rw [hR]; exact Nat.lt_trans (Nat.mod_lt _ (S.v i).den_pos) rbq_25.2
                have fm_198 : ∀ r9, qo = some r9 → fc sh_143 (Rr_191 2) (Rr_191 3) r9 := by rw [show Rr_191 2 = Rr_174 2 from congrFun hR_192 2, show Rr_191 3 = Rr_174 3 from congrFun hR_192 3]; exact fm_179
                refine gs (pc' := 82) (fun _ _ _ _ _ hl => lv_aload_n hx hb d_Mo_round_81 rfl (lv_at hl 0 rfl)) ?_
                refine g_get hx hb hts hin_Mo hown hK f_189 rfl 9 (by decide) (hts _ wm763) (fun _ h9 => h9) rfl d_Mo_round_82 ?_
                refine gs (pc' := 86) (fun _ _ _ _ _ hl => lv_iconst (v := nI 0) hx hb d_Mo_round_85 (by decide)) ?_
                obtain ⟨lm_199, sz_200, f_201, f_202, rg_203⟩ := id mr_184
                refine g_iald hx hb hK 0 f_202 rfl (show vp_in (nI 0) 9 from vp_in_nI (by omega) (by omega)) d_Mo_round_86 ?_
                refine g_eqi (show sz_200 (nI 0).toNatClampNeg = sz_200 0 from by rw [nI_clamp (by omega)]) ?_
                obtain ⟨zz_204, hg_205, hz_206, hD_207⟩ := rg_203 0 (by decide)
                refine g_eqi (show sz_200 0 = nI zz_204 from hg_205) ?_
                have j95 : ∀ e4 : Nat, (e4 = 1 ∧ Rm = 0 ∨ e4 = 0 ∧ Rm ≠ 0) → gV p l e R s m args below meth c D clS lo 8 Q 95 [(0, .ref hm), (1, .int (nI i)), (2, .int (nI rl)), (3, .int (nI sn))] [.int (nI e4)] G_180 B := by
                  intro e4 he4
                  refine gst (pc' := 97) (L' := [(4, .int (nI e4)), (0, .ref hm), (1, .int (nI i)), (2, .int (nI rl)), (3, .int (nI sn))]) (fun _ _ _ _ _ hl => lv_istore hx hb d_Mo_round_95 hl (by decide) rfl) ?_
                  refine gs (pc' := 98) (fun _ _ _ _ _ hl => lv_aload_n hx hb d_Mo_round_97 rfl (lv_at hl 1 rfl)) ?_
                  refine gs (pc' := 99) (fun _ _ _ _ _ hl => lv_iconst (v := nI 0) hx hb d_Mo_round_98 (by decide)) ?_
                  refine gs (pc' := 102) (fun _ _ _ _ _ hl => lv_ldc2 (v := 2) hx hb hown (hts _ wm957) d_Mo_round_99) ?_
                  refine g_eql (show 2 = lN 2 from rfl) ?_
                  refine g_outv hlo (g_runV (As := [.int (nI 0), .long (lN 2)]) (rest := []) ⟨hx, hb, hml, hown, hts⟩ hK hZ hRc hRs (c_Mo_scale l D cA lo MC MS G_180 B hm A (mi (nI 0) (nI S.n) (iI ((S.v i).num.sign)) sh_143 (nI S.rn) (nI S.wn) kt_144 kb_145 ks_146) f_189 Rr_191 mr_184 0 (by decide) 2 (by omega) (100) (by rw [e_196]; exact bd_197) (by omega) hB1 hB2) (fun _ _ => cwV 2 hts (tb_good (tb_cons wm868 (tb_cons wm870 (tb_cons ws28 (tb_cons wm12 k_Mo_scale))))) rfl rfl rfl (by decide +kernel) ⟨by rw [hRf]; exact Nat.le_of_ble_eq_true rfl, by rw [hRl]; exact Nat.le_of_ble_eq_true rfl⟩) f_189 rfl hB1 hB2 rfl (Nat.le_of_ble_eq_true rfl) d_Mo_round_102) (fun G_208 B_209 p_210 => ?_)
                  obtain ⟨e_211, mr_212, f_213, gf_214⟩ := p_210
                  have e_211b : B = B_209 := e_211.symm
                  subst e_211b
                  have gf_215 : gfr mT G G_208 := mT_75 gf_187 gf_214
                  have mb_216 : MB cA A S G_208 := MB_75 mb_188 gf_214
                  have f_217 : G_208 hm = some (70, .inr (9, [.int (nI 0), .int (nI S.n), .ref (A 2), .ref (A 3), .ref (A 4), .ref (A 5), .int (iI ((S.v i).num.sign)), .int sh_143, .ref (A 8), .ref (A 9), .int (nI S.rn), .ref (A 11), .ref (A 12), .ref (A 13), .int (nI S.wn), .ref (A 15), .ref (A 16), .ref (A 17), .ref (A 18), .int kt_144, .int kb_145, .int ks_146])) := f_213
                  have f_218 : G_208 (A 18) = some (83, .inl (cA 0, 8600, .inl kf_148)) := gf_214 _ _ f_190 (show ¬ ((83 : Nat) = 75 ∨ (83 : Nat) = 76) by decide)
                  obtain ⟨Rr_219, hR_220⟩ : ∃ y9, y9 = (fup Rr_191 0 (Rr_191 0 * 2)) := ⟨_, rfl⟩
                  rw [← hR_220] at mr_212
                  have e_221 : Rr_219 1 = (S.v i).den := (congrFun hR_220 1).trans e_193
                  have e_222 : Rr_219 8 = Qn := (congrFun hR_220 8).trans e_194
                  have e_223 : Rr_219 0 = Rm * 2 := (congrFun hR_220 0).trans (by rw [← e_196]; rfl)
                  have bd_224 : Rm * 2 < 1000000000 ^ (100 + 1) := pw_sc bd_197 (by omega)
                  have fm_225 : ∀ r9, qo = some r9 → fc sh_143 (Rr_219 2) (Rr_219 3) r9 := by rw [show Rr_219 2 = Rr_191 2 from congrFun hR_220 2, show Rr_219 3 = Rr_191 3 from congrFun hR_220 3]; exact fm_198
                  refine gs (pc' := 106) (fun _ _ _ _ _ hl => lv_aload_n hx hb d_Mo_round_105 rfl (lv_at hl 1 rfl)) ?_
                  refine gs (pc' := 107) (fun _ _ _ _ _ hl => lv_iconst (v := nI 0) hx hb d_Mo_round_106 (by decide)) ?_
                  refine gs (pc' := 108) (fun _ _ _ _ _ hl => lv_iconst (v := nI 1) hx hb d_Mo_round_107 (by decide)) ?_
                  refine g_outi hlo (g_runV (As := [.int (nI 0), .int (nI 1)]) (rest := []) ⟨hx, hb, hml, hown, hts⟩ hK hZ hRc hRs (c_Mo_compare l D cA lo MC MS G_208 B hm A (mi (nI 0) (nI S.n) (iI ((S.v i).num.sign)) sh_143 (nI S.rn) (nI S.wn) kt_144 kb_145 ks_146) f_217 Rr_219 mr_212 0 (by decide) 1 (by decide) hB1 hB2) (fun _ _ => cwV 2 hts (tb_good (tb_cons wm855 (tb_cons wm857 (tb_cons ws25 (tb_cons wm12 k_Mo_compare))))) rfl rfl rfl (by decide +kernel) ⟨by rw [hRf]; exact Nat.le_of_ble_eq_true rfl, by rw [hRl]; exact Nat.le_of_ble_eq_true rfl⟩) f_217 rfl hB1 hB2 rfl (Nat.le_of_ble_eq_true rfl) d_Mo_round_108) (fun r_229 G_226 B_227 p_228 => ?_)
                  obtain ⟨u_230, hcm⟩ := p_228
                  cases u_230
                  rw [e_223, e_221] at hcm
                  obtain ⟨x9, hx9, hx8⟩ := cmp_i hcm
                  subst hx9
                  have hx7 : -1 ≤ x9 ∧ x9 ≤ 1 := by omega
                  have hx71 := hx7.1
                  have hx72 := hx7.2
                  refine gst (pc' := 113) (L' := [(5, .int (iI x9)), (4, .int (nI e4)), (0, .ref hm), (1, .int (nI i)), (2, .int (nI rl)), (3, .int (nI sn))]) (fun _ _ _ _ _ hl => lv_istore hx hb d_Mo_round_111 hl (by decide) rfl) ?_
                  refine gs (pc' := 114) (fun _ _ _ _ _ hl => lv_aload_n hx hb d_Mo_round_113 rfl (lv_at hl 2 rfl)) ?_
                  refine g_get hx hb hts hin_Mo hown hK f_217 rfl 9 (by decide) (hts _ wm763) (fun _ h9 => h9) rfl d_Mo_round_114 ?_
                  refine gs (pc' := 119) (fun _ _ _ _ _ hl => lv_bipush (v := nI 8) hx hb d_Mo_round_117 (by decide)) ?_
                  obtain ⟨lm_231, sz_232, f_233, f_234, rg_235⟩ := id mr_212
                  refine g_iald hx hb hK 0 f_234 rfl (show vp_in (nI 8) 9 from vp_in_nI (by omega) (by omega)) d_Mo_round_119 ?_
                  refine g_eqi (show sz_232 (nI 8).toNatClampNeg = sz_232 8 from by rw [nI_clamp (by omega)]) ?_
                  obtain ⟨zz_236, hg_237, hz_238, hD_239⟩ := rg_235 8 (by decide)
                  refine g_eqi (show sz_232 8 = nI zz_236 from hg_237) ?_
                  have j141 : ∀ o6 : Nat, (o6 = 1 ∧ Qn % 2 = 1 ∨ o6 = 0 ∧ Qn % 2 ≠ 1) → gV p l e R s m args below meth c D clS lo 8 Q 141 [(5, .int (iI x9)), (4, .int (nI e4)), (0, .ref hm), (1, .int (nI i)), (2, .int (nI rl)), (3, .int (nI sn))] [.int (nI o6)] G_208 B := by
                    intro o6 ho6
                    refine gst (pc' := 143) (L' := [(6, .int (nI o6)), (5, .int (iI x9)), (4, .int (nI e4)), (0, .ref hm), (1, .int (nI i)), (2, .int (nI rl)), (3, .int (nI sn))]) (fun _ _ _ _ _ hl => lv_istore hx hb d_Mo_round_141 hl (by decide) rfl) ?_
                    have j232 : ∀ f7 : Nat, f7 ≤ 1 → (Rm ≠ 0 → f7 = b01 (gof (S.v i).num (S.v i).den Qn Rm rl)) → gV p l e R s m args below meth c D clS lo 8 Q 232 [(6, .int (nI o6)), (5, .int (iI x9)), (4, .int (nI e4)), (0, .ref hm), (1, .int (nI i)), (2, .int (nI rl)), (3, .int (nI sn))] [.int (nI f7)] G_208 B := by
                      intro f7 hf1 hf7
                      refine gst (pc' := 234) (L' := [(7, .int (nI f7)), (6, .int (nI o6)), (5, .int (iI x9)), (4, .int (nI e4)), (0, .ref hm), (1, .int (nI i)), (2, .int (nI rl)), (3, .int (nI sn))]) (fun _ _ _ _ _ hl => lv_istore hx hb d_Mo_round_232 hl (by decide) rfl) ?_
                      refine gs (pc' := 235) (fun _ _ _ _ _ hl => lv_aload_n hx hb d_Mo_round_234 rfl (lv_at hl 4 rfl)) ?_
                      refine gs (pc' := 236) (fun _ _ _ _ _ hl => lv_iconst (v := nI 0) hx hb d_Mo_round_235 (by decide)) ?_
                      refine gs (pc' := 238) (fun _ _ _ _ _ hl => lv_bipush (v := nI 8) hx hb d_Mo_round_236 (by decide)) ?_
                      refine g_outv hlo (g_runV (As := [.int (nI 0), .int (nI 8)]) (rest := []) ⟨hx, hb, hml, hown, hts⟩ hK hZ hRc hRs (c_Mo_copy l D cA lo MC MS G_208 B hm A (mi (nI 0) (nI S.n) (iI ((S.v i).num.sign)) sh_143 (nI S.rn) (nI S.wn) kt_144 kb_145 ks_146) f_217 Rr_219 mr_212 0 (by decide) 8 (by decide) (by decide) hB1 hB2) (fun _ _ => cwV 2 hts (tb_good (tb_cons wm847 (tb_cons wm849 (tb_cons ws23 (tb_cons wm12 k_Mo_copy))))) rfl rfl rfl (by decide +kernel) ⟨by rw [hRf]; exact Nat.le_of_ble_eq_true rfl, by rw [hRl]; exact Nat.le_of_ble_eq_true rfl⟩) f_217 rfl hB1 hB2 rfl (Nat.le_of_ble_eq_true rfl) d_Mo_round_238) (fun G_240 B_241 p_242 => ?_)
                      obtain ⟨e_243, mr_244, f_245, gf_246⟩ := p_242
                      have e_243b : B = B_241 := e_243.symm
                      subst e_243b
                      have gf_247 : gfr mT G G_240 := mT_75 gf_215 gf_246
                      have mb_248 : MB cA A S G_240 := MB_75 mb_216 gf_246
                      have f_249 : G_240 hm = some (70, .inr (9, [.int (nI 0), .int (nI S.n), .ref (A 2), .ref (A 3), .ref (A 4), .ref (A 5), .int (iI ((S.v i).num.sign)), .int sh_143, .ref (A 8), .ref (A 9), .int (nI S.rn), .ref (A 11), .ref (A 12), .ref (A 13), .int (nI S.wn), .ref (A 15), .ref (A 16), .ref (A 17), .ref (A 18), .int kt_144, .int kb_145, .int ks_146])) := f_245
                      have f_250 : G_240 (A 18) = some (83, .inl (cA 0, 8600, .inl kf_148)) := gf_246 _ _ f_218 (show ¬ ((83 : Nat) = 75 ∨ (83 : Nat) = 76) by decide)
                      obtain ⟨Rr_251, hR_252⟩ : ∃ y9, y9 = (fup Rr_219 0 (Rr_219 8)) := ⟨_, rfl⟩
                      rw [← hR_252] at mr_244
                      have e_253 : Rr_251 1 = (S.v i).den := (congrFun hR_252 1).trans e_221
                      have e_254 : Rr_251 8 = Qn := (congrFun hR_252 8).trans e_222
                      have e_255 : Rr_251 0 = Qn := (congrFun hR_252 0).trans (e_222)
                      have bd_256 : Qn < 1000000000 ^ (100 + 1) := bd_195
                      have fm_257 : ∀ r9, qo = some r9 → fc sh_143 (Rr_251 2) (Rr_251 3) r9 := by rw [show Rr_251 2 = Rr_219 2 from congrFun hR_252 2, show Rr_251 3 = Rr_219 3 from congrFun hR_252 3]; exact fm_225
                      refine gs (pc' := 243) (fun _ _ _ _ _ hl => lv_iload hx hb d_Mo_round_241 (lv_at hl 0 rfl)) ?_
                      refine gsb (pc1 := 263) (pc2 := 246) (fun _ _ _ _ _ => lv_if_eq (tgt := 263) hx hb d_Mo_round_243 (by decide)) (fun c_258 => ?_) (fun c_258 => ?_)
                      · skip
                        have nc_258 : f7 = 0 := (n0_eq (a := f7) (by omega)).1 c_258
                        have hn9 : Qn = Qn + b01 (gof (S.v i).num (S.v i).den Qn Rm rl) := by
                          rcases Nat.eq_zero_or_pos Rm with z9 | z9
                          · rw [gof_z z9]; rfl
                          · rw [← hf7 (by omega)]; omega
                        have rbq_259 : rb (rnd (S.v i) rl sn) 103 := rb_rnd (k := 100) rbq_25 (by omega) (by omega)
                        refine gs (pc' := 264) (fun _ _ _ _ _ hl => lv_aload_n hx hb d_Mo_round_263 rfl (lv_at hl 4 rfl)) ?_
                        refine gs (pc' := 265) (fun _ _ _ _ _ hl => lv_iconst (v := nI 1) hx hb d_Mo_round_264 (by decide)) ?_
                        refine gs (pc' := 266) (fun _ _ _ _ _ hl => lv_iload_n hx hb d_Mo_round_265 rfl (lv_at hl 7 rfl)) ?_
                        refine gs (pc' := 267) (fun _ _ _ _ _ hl => lv_i2l (v := lN sn) hx hb d_Mo_round_266 (nI_l (by omega))) ?_
                        refine g_outv hlo (g_runV (As := [.int (nI 1), .long (lN sn)]) (rest := []) ⟨hx, hb, hml, hown, hts⟩ hK hZ hRc hRs (c_Mo_set l D cA lo MC MS G_240 B hm A (mi (nI 0) (nI S.n) (iI ((S.v i).num.sign)) sh_143 (nI S.rn) (nI S.wn) kt_144 kb_145 ks_146) f_249 Rr_251 mr_244 1 (by decide) sn (by omega) hB1 hB2) (fun _ _ => cwV 2 hts (tb_good (tb_cons wm838 (tb_cons wm840 (tb_cons ws21 (tb_cons wm12 k_Mo_set))))) rfl rfl rfl (by decide +kernel) ⟨by rw [hRf]; exact Nat.le_of_ble_eq_true rfl, by rw [hRl]; exact Nat.le_of_ble_eq_true rfl⟩) f_249 rfl hB1 hB2 rfl (Nat.le_of_ble_eq_true rfl) d_Mo_round_267) (fun G_260 B_261 p_262 => ?_)
                        obtain ⟨e_263, mr_264, f_265, gf_266⟩ := p_262
                        have e_263b : B = B_261 := e_263.symm
                        subst e_263b
                        have gf_267 : gfr mT G G_260 := mT_75 gf_247 gf_266
                        have mb_268 : MB cA A S G_260 := MB_75 mb_248 gf_266
                        have f_269 : G_260 hm = some (70, .inr (9, [.int (nI 0), .int (nI S.n), .ref (A 2), .ref (A 3), .ref (A 4), .ref (A 5), .int (iI ((S.v i).num.sign)), .int sh_143, .ref (A 8), .ref (A 9), .int (nI S.rn), .ref (A 11), .ref (A 12), .ref (A 13), .int (nI S.wn), .ref (A 15), .ref (A 16), .ref (A 17), .ref (A 18), .int kt_144, .int kb_145, .int ks_146])) := f_265
                        have f_270 : G_260 (A 18) = some (83, .inl (cA 0, 8600, .inl kf_148)) := gf_266 _ _ f_250 (show ¬ ((83 : Nat) = 75 ∨ (83 : Nat) = 76) by decide)
                        obtain ⟨Rr_271, hR_272⟩ : ∃ y9, y9 = (fup Rr_251 1 sn) := ⟨_, rfl⟩
                        rw [← hR_272] at mr_264
                        have e_273 : Rr_271 8 = Qn := (congrFun hR_272 8).trans e_254
                        have e_274 : Rr_271 0 = Qn := (congrFun hR_272 0).trans e_255
                        have e_275 : Rr_271 1 = sn := (congrFun hR_272 1).trans (rfl)
                        have bd_276 : sn < 1000000000 ^ (2) := (Nat.lt_of_le_of_lt (show sn ≤ 1000000000 by omega) (by decide))
                        have fm_277 : ∀ r9, qo = some r9 → fc sh_143 (Rr_271 2) (Rr_271 3) r9 := by rw [show Rr_271 2 = Rr_251 2 from congrFun hR_272 2, show Rr_271 3 = Rr_251 3 from congrFun hR_272 3]; exact fm_257
                        refine gs (pc' := 271) (fun _ _ _ _ _ hl => lv_aload_n hx hb d_Mo_round_270 rfl (lv_at hl 4 rfl)) ?_
                        have fq_278 : fq (iI ((S.v i).num.sign)) (Qn) (sn) (rnd (S.v i) rl sn) := rn_fq hQ hR (by omega) hn9
                        refine g_outv hlo (g_runV (As := []) (rest := []) ⟨hx, hb, hml, hown, hts⟩ hK hZ hRc hRs (c_Mo_reduce l D cA lo MC MS G_260 B hm A (mi (nI 0) (nI S.n) (iI ((S.v i).num.sign)) sh_143 (nI S.rn) (nI S.wn) kt_144 kb_145 ks_146) f_269 Rr_271 mr_264 (by rw [e_275]; exact fq_278.1) (110) (by rw [e_274]; exact pw_up bd_256 (by omega)) (by rw [e_275]; exact pw_up bd_276 (by omega)) (by omega) hB1 hB2) (fun _ _ => cwV 0 hts (tb_good (tb_cons wm843 (tb_cons wm845 (tb_cons ws22 (tb_cons wm12 k_Mo_reduce))))) rfl rfl rfl (by decide +kernel) ⟨by rw [hRf]; exact Nat.le_of_ble_eq_true rfl, by rw [hRl]; exact Nat.le_of_ble_eq_true rfl⟩) f_269 rfl hB1 hB2 rfl (Nat.le_of_ble_eq_true rfl) d_Mo_round_271) (fun G_279 B_280 p_281 => ?_)
                        obtain ⟨e_282, ⟨Rr_283, mr_284, q_285, q_286, q_287, q_288⟩, f_289, gf_290⟩ := p_281
                        have e_282b : B = B_280 := e_282.symm
                        subst e_282b
                        obtain ⟨sg_291, e_292⟩ : ∃ y9 : Int32, y9 = if Rr_271 0 = 0 then nI 0 else (iI ((S.v i).num.sign)) := ⟨_, rfl⟩
                        have gf_293 : gfr mT G G_279 := mT_705 gf_267 gf_290
                        have mb_294 : MB cA A S G_279 := MB_705 mb_268 gf_290
                        have f_295 : G_279 hm = some (70, .inr (9, [.int (nI 0), .int (nI S.n), .ref (A 2), .ref (A 3), .ref (A 4), .ref (A 5), .int sg_291, .int sh_143, .ref (A 8), .ref (A 9), .int (nI S.rn), .ref (A 11), .ref (A 12), .ref (A 13), .int (nI S.wn), .ref (A 15), .ref (A 16), .ref (A 17), .ref (A 18), .int kt_144, .int kb_145, .int ks_146])) := f_289.trans (by rw [mi_if, ← e_292]; rfl)
                        have f_296 : G_279 (A 18) = some (83, .inl (cA 0, 8600, .inl kf_148)) := gf_290 _ _ f_270 (show ¬ ((83 : Nat) = 70 ∨ (83 : Nat) = 75 ∨ (83 : Nat) = 76) by decide)
                        have fc_297 : fc sg_291 (Rr_283 0) (Rr_283 1) (rnd (S.v i) rl sn) := by rw [q_285, q_286, e_292, e_274, e_275]; exact fq_fc fq_278
                        refine gs (pc' := 275) (fun _ _ _ _ _ hl => lv_aload_n hx hb d_Mo_round_274 rfl (lv_at hl 4 rfl)) ?_
                        refine gs (pc' := 276) (fun _ _ _ _ _ hl => lv_aload_n hx hb d_Mo_round_275 rfl (lv_at hl 4 rfl)) ?_
                        refine g_get hx hb hts hin_Mo hown hK f_295 rfl 3 (by decide) (hts _ wm757) (fun _ h9 => h9) rfl d_Mo_round_276 ?_
                        refine gs (pc' := 280) (fun _ _ _ _ _ hl => lv_iload_n hx hb d_Mo_round_279 rfl (lv_at hl 5 rfl)) ?_
                        obtain ⟨sgn_298, unt_299, sto_300, szs_301, f_302, f_303, f_304, f_305, hv_306⟩ := id mb_294.1
                        refine g_iald hx hb hK 0 f_303 rfl (show vp_in (nI i) 200 from vp_in_nI (by omega) (by omega)) d_Mo_round_280 ?_
                        refine g_eqi (show unt_299 (nI i).toNatClampNeg = unt_299 i from by rw [nI_clamp (by omega)]) ?_
                        refine g_eqi (show unt_299 i = iI (S.un i) from (hv_306 i (by omega)).2.1) ?_
                        have ub_307 := (hW.v i (by omega)).2.1
                        have ub_308 := (hW.v i (by omega)).2.2
                        have hV_309 : MW cA hm A S 0 (some (rnd (S.v i) rl sn)) none qk G_279 := ⟨sg_291, sh_143, kt_144, kb_145, ks_146, Rr_283, _, f_295, mr_284, f_296, (sm_ fc_297), sn_, v_154, mb_294⟩
                        refine g_outi hlo (g_runV (As := [.int (iI (S.un i))]) (rest := []) ⟨hx, hb, hml, hown, hts⟩ hK hZ hRc hRs (c_Mo_keep l D cA lo MC MS G_279 B hm A S 0 (some (rnd (S.v i) rl sn)) none qk hV_309 hW (rnd (S.v i) rl sn) rfl (103) rbq_259 (by omega) (S.un i) (hW.v i hi_i).2 (by omega) hB1 hB2) (fun _ _ => cwV 1 hts (tb_good (tb_cons wm881 (tb_cons wm883 (tb_cons ws31 (tb_cons wm12 k_Mo_keep))))) rfl rfl rfl (by decide +kernel) ⟨by rw [hRf]; exact Nat.le_of_ble_eq_true rfl, by rw [hRl]; exact Nat.le_of_ble_eq_true rfl⟩) f_295 rfl hB1 hB2 rfl (Nat.le_of_ble_eq_true rfl) d_Mo_round_281) (fun r_313 G_310 B_311 p_312 => ?_)
                        obtain ⟨e_314, e_317, hV_315, gf_316⟩ := p_312
                        subst e_317
                        have e_314b : B = B_311 := e_314.symm
                        subst e_314b
                        have gf_318 : gfr mT G G_310 := mT_mT gf_293 gf_316
                        rw [st_round hn hi_i hrl hsn1 hsn2, if_neg (by omega)] at hret
                        exact hret 284 _ _ _ _ d_Mo_round_284 hB1 hB2 ⟨rfl, fun _ => rfl, MW_k hV_315, gf_318⟩
                      · skip
                        have nc_258 : f7 ≠ 0 := (n0_eq (a := f7) (by omega)).2 c_258
                        refine gs (pc' := 248) (fun _ _ _ _ _ hl => lv_iload hx hb d_Mo_round_246 (lv_at hl 3 rfl)) ?_
                        refine gsb (pc1 := 263) (pc2 := 251) (fun _ _ _ _ _ => lv_if_ne (tgt := 263) hx hb d_Mo_round_248 (by decide)) (fun c_319 => ?_) (fun c_319 => ?_)
                        · skip
                          have nc_319 : e4 ≠ 0 := (n0_ne (a := e4) (by omega)).1 c_319
                          have hn9 : Qn = Qn + b01 (gof (S.v i).num (S.v i).den Qn Rm rl) := by rw [gof_z (show Rm = 0 by omega)]; rfl
                          have rbq_320 : rb (rnd (S.v i) rl sn) 103 := rb_rnd (k := 100) rbq_25 (by omega) (by omega)
                          refine gs (pc' := 264) (fun _ _ _ _ _ hl => lv_aload_n hx hb d_Mo_round_263 rfl (lv_at hl 4 rfl)) ?_
                          refine gs (pc' := 265) (fun _ _ _ _ _ hl => lv_iconst (v := nI 1) hx hb d_Mo_round_264 (by decide)) ?_
                          refine gs (pc' := 266) (fun _ _ _ _ _ hl => lv_iload_n hx hb d_Mo_round_265 rfl (lv_at hl 7 rfl)) ?_
                          refine gs (pc' := 267) (fun _ _ _ _ _ hl => lv_i2l (v := lN sn) hx hb d_Mo_round_266 (nI_l (by omega))) ?_
                          refine g_outv hlo (g_runV (As := [.int (nI 1), .long (lN sn)]) (rest := []) ⟨hx, hb, hml, hown, hts⟩ hK hZ hRc hRs (c_Mo_set l D cA lo MC MS G_240 B hm A (mi (nI 0) (nI S.n) (iI ((S.v i).num.sign)) sh_143 (nI S.rn) (nI S.wn) kt_144 kb_145 ks_146) f_249 Rr_251 mr_244 1 (by decide) sn (by omega) hB1 hB2) (fun _ _ => cwV 2 hts (tb_good (tb_cons wm838 (tb_cons wm840 (tb_cons ws21 (tb_cons wm12 k_Mo_set))))) rfl rfl rfl (by decide +kernel) ⟨by rw [hRf]; exact Nat.le_of_ble_eq_true rfl, by rw [hRl]; exact Nat.le_of_ble_eq_true rfl⟩) f_249 rfl hB1 hB2 rfl (Nat.le_of_ble_eq_true rfl) d_Mo_round_267) (fun G_321 B_322 p_323 => ?_)
                          obtain ⟨e_324, mr_325, f_326, gf_327⟩ := p_323
                          have e_324b : B = B_322 := e_324.symm
                          subst e_324b
                          have gf_328 : gfr mT G G_321 := mT_75 gf_247 gf_327
                          have mb_329 : MB cA A S G_321 := MB_75 mb_248 gf_327
                          have f_330 : G_321 hm = some (70, .inr (9, [.int (nI 0), .int (nI S.n), .ref (A 2), .ref (A 3), .ref (A 4), .ref (A 5), .int (iI ((S.v i).num.sign)), .int sh_143, .ref (A 8), .ref (A 9), .int (nI S.rn), .ref (A 11), .ref (A 12), .ref (A 13), .int (nI S.wn), .ref (A 15), .ref (A 16), .ref (A 17), .ref (A 18), .int kt_144, .int kb_145, .int ks_146])) := f_326
                          have f_331 : G_321 (A 18) = some (83, .inl (cA 0, 8600, .inl kf_148)) := gf_327 _ _ f_250 (show ¬ ((83 : Nat) = 75 ∨ (83 : Nat) = 76) by decide)
                          obtain ⟨Rr_332, hR_333⟩ : ∃ y9, y9 = (fup Rr_251 1 sn) := ⟨_, rfl⟩
                          rw [← hR_333] at mr_325
                          have e_334 : Rr_332 8 = Qn := (congrFun hR_333 8).trans e_254
                          have e_335 : Rr_332 0 = Qn := (congrFun hR_333 0).trans e_255
                          have e_336 : Rr_332 1 = sn := (congrFun hR_333 1).trans (rfl)
                          have bd_337 : sn < 1000000000 ^ (2) := (Nat.lt_of_le_of_lt (show sn ≤ 1000000000 by omega) (by decide))
                          have fm_338 : ∀ r9, qo = some r9 → fc sh_143 (Rr_332 2) (Rr_332 3) r9 := by rw [show Rr_332 2 = Rr_251 2 from congrFun hR_333 2, show Rr_332 3 = Rr_251 3 from congrFun hR_333 3]; exact fm_257
                          refine gs (pc' := 271) (fun _ _ _ _ _ hl => lv_aload_n hx hb d_Mo_round_270 rfl (lv_at hl 4 rfl)) ?_
                          have fq_339 : fq (iI ((S.v i).num.sign)) (Qn) (sn) (rnd (S.v i) rl sn) := rn_fq hQ hR (by omega) hn9
                          refine g_outv hlo (g_runV (As := []) (rest := []) ⟨hx, hb, hml, hown, hts⟩ hK hZ hRc hRs (c_Mo_reduce l D cA lo MC MS G_321 B hm A (mi (nI 0) (nI S.n) (iI ((S.v i).num.sign)) sh_143 (nI S.rn) (nI S.wn) kt_144 kb_145 ks_146) f_330 Rr_332 mr_325 (by rw [e_336]; exact fq_339.1) (110) (by rw [e_335]; exact pw_up bd_256 (by omega)) (by rw [e_336]; exact pw_up bd_337 (by omega)) (by omega) hB1 hB2) (fun _ _ => cwV 0 hts (tb_good (tb_cons wm843 (tb_cons wm845 (tb_cons ws22 (tb_cons wm12 k_Mo_reduce))))) rfl rfl rfl (by decide +kernel) ⟨by rw [hRf]; exact Nat.le_of_ble_eq_true rfl, by rw [hRl]; exact Nat.le_of_ble_eq_true rfl⟩) f_330 rfl hB1 hB2 rfl (Nat.le_of_ble_eq_true rfl) d_Mo_round_271) (fun G_340 B_341 p_342 => ?_)
                          obtain ⟨e_343, ⟨Rr_344, mr_345, q_346, q_347, q_348, q_349⟩, f_350, gf_351⟩ := p_342
                          have e_343b : B = B_341 := e_343.symm
                          subst e_343b
                          obtain ⟨sg_352, e_353⟩ : ∃ y9 : Int32, y9 = if Rr_332 0 = 0 then nI 0 else (iI ((S.v i).num.sign)) := ⟨_, rfl⟩
                          have gf_354 : gfr mT G G_340 := mT_705 gf_328 gf_351
                          have mb_355 : MB cA A S G_340 := MB_705 mb_329 gf_351
                          have f_356 : G_340 hm = some (70, .inr (9, [.int (nI 0), .int (nI S.n), .ref (A 2), .ref (A 3), .ref (A 4), .ref (A 5), .int sg_352, .int sh_143, .ref (A 8), .ref (A 9), .int (nI S.rn), .ref (A 11), .ref (A 12), .ref (A 13), .int (nI S.wn), .ref (A 15), .ref (A 16), .ref (A 17), .ref (A 18), .int kt_144, .int kb_145, .int ks_146])) := f_350.trans (by rw [mi_if, ← e_353]; rfl)
                          have f_357 : G_340 (A 18) = some (83, .inl (cA 0, 8600, .inl kf_148)) := gf_351 _ _ f_331 (show ¬ ((83 : Nat) = 70 ∨ (83 : Nat) = 75 ∨ (83 : Nat) = 76) by decide)
                          have fc_358 : fc sg_352 (Rr_344 0) (Rr_344 1) (rnd (S.v i) rl sn) := by rw [q_346, q_347, e_353, e_335, e_336]; exact fq_fc fq_339
                          refine gs (pc' := 275) (fun _ _ _ _ _ hl => lv_aload_n hx hb d_Mo_round_274 rfl (lv_at hl 4 rfl)) ?_
                          refine gs (pc' := 276) (fun _ _ _ _ _ hl => lv_aload_n hx hb d_Mo_round_275 rfl (lv_at hl 4 rfl)) ?_
                          refine g_get hx hb hts hin_Mo hown hK f_356 rfl 3 (by decide) (hts _ wm757) (fun _ h9 => h9) rfl d_Mo_round_276 ?_
                          refine gs (pc' := 280) (fun _ _ _ _ _ hl => lv_iload_n hx hb d_Mo_round_279 rfl (lv_at hl 5 rfl)) ?_
                          obtain ⟨sgn_359, unt_360, sto_361, szs_362, f_363, f_364, f_365, f_366, hv_367⟩ := id mb_355.1
                          refine g_iald hx hb hK 0 f_364 rfl (show vp_in (nI i) 200 from vp_in_nI (by omega) (by omega)) d_Mo_round_280 ?_
                          refine g_eqi (show unt_360 (nI i).toNatClampNeg = unt_360 i from by rw [nI_clamp (by omega)]) ?_
                          refine g_eqi (show unt_360 i = iI (S.un i) from (hv_367 i (by omega)).2.1) ?_
                          have ub_368 := (hW.v i (by omega)).2.1
                          have ub_369 := (hW.v i (by omega)).2.2
                          have hV_370 : MW cA hm A S 0 (some (rnd (S.v i) rl sn)) none qk G_340 := ⟨sg_352, sh_143, kt_144, kb_145, ks_146, Rr_344, _, f_356, mr_345, f_357, (sm_ fc_358), sn_, v_154, mb_355⟩
                          refine g_outi hlo (g_runV (As := [.int (iI (S.un i))]) (rest := []) ⟨hx, hb, hml, hown, hts⟩ hK hZ hRc hRs (c_Mo_keep l D cA lo MC MS G_340 B hm A S 0 (some (rnd (S.v i) rl sn)) none qk hV_370 hW (rnd (S.v i) rl sn) rfl (103) rbq_320 (by omega) (S.un i) (hW.v i hi_i).2 (by omega) hB1 hB2) (fun _ _ => cwV 1 hts (tb_good (tb_cons wm881 (tb_cons wm883 (tb_cons ws31 (tb_cons wm12 k_Mo_keep))))) rfl rfl rfl (by decide +kernel) ⟨by rw [hRf]; exact Nat.le_of_ble_eq_true rfl, by rw [hRl]; exact Nat.le_of_ble_eq_true rfl⟩) f_356 rfl hB1 hB2 rfl (Nat.le_of_ble_eq_true rfl) d_Mo_round_281) (fun r_374 G_371 B_372 p_373 => ?_)
                          obtain ⟨e_375, e_378, hV_376, gf_377⟩ := p_373
                          subst e_378
                          have e_375b : B = B_372 := e_375.symm
                          subst e_375b
                          have gf_379 : gfr mT G G_371 := mT_mT gf_354 gf_377
                          rw [st_round hn hi_i hrl hsn1 hsn2, if_neg (by omega)] at hret
                          exact hret 284 _ _ _ _ d_Mo_round_284 hB1 hB2 ⟨rfl, fun _ => rfl, MW_k hV_376, gf_379⟩
                        · skip
                          have nc_319 : e4 = 0 := (n0_ne (a := e4) (by omega)).2 c_319
                          have hn9 : Qn + 1 = Qn + b01 (gof (S.v i).num (S.v i).den Qn Rm rl) := by rw [← hf7 (by omega)]; omega
                          refine gs (pc' := 252) (fun _ _ _ _ _ hl => lv_aload_n hx hb d_Mo_round_251 rfl (lv_at hl 4 rfl)) ?_
                          refine gs (pc' := 253) (fun _ _ _ _ _ hl => lv_iconst (v := nI 4) hx hb d_Mo_round_252 (by decide)) ?_
                          refine gs (pc' := 254) (fun _ _ _ _ _ hl => lv_lconst (v := lN 1) hx hb d_Mo_round_253 (by decide)) ?_
                          refine g_outv hlo (g_runV (As := [.int (nI 4), .long (lN 1)]) (rest := []) ⟨hx, hb, hml, hown, hts⟩ hK hZ hRc hRs (c_Mo_set l D cA lo MC MS G_240 B hm A (mi (nI 0) (nI S.n) (iI ((S.v i).num.sign)) sh_143 (nI S.rn) (nI S.wn) kt_144 kb_145 ks_146) f_249 Rr_251 mr_244 4 (by decide) 1 (by omega) hB1 hB2) (fun _ _ => cwV 2 hts (tb_good (tb_cons wm838 (tb_cons wm840 (tb_cons ws21 (tb_cons wm12 k_Mo_set))))) rfl rfl rfl (by decide +kernel) ⟨by rw [hRf]; exact Nat.le_of_ble_eq_true rfl, by rw [hRl]; exact Nat.le_of_ble_eq_true rfl⟩) f_249 rfl hB1 hB2 rfl (Nat.le_of_ble_eq_true rfl) d_Mo_round_254) (fun G_380 B_381 p_382 => ?_)
                          obtain ⟨e_383, mr_384, f_385, gf_386⟩ := p_382
                          have e_383b : B = B_381 := e_383.symm
                          subst e_383b
                          have gf_387 : gfr mT G G_380 := mT_75 gf_247 gf_386
                          have mb_388 : MB cA A S G_380 := MB_75 mb_248 gf_386
                          have f_389 : G_380 hm = some (70, .inr (9, [.int (nI 0), .int (nI S.n), .ref (A 2), .ref (A 3), .ref (A 4), .ref (A 5), .int (iI ((S.v i).num.sign)), .int sh_143, .ref (A 8), .ref (A 9), .int (nI S.rn), .ref (A 11), .ref (A 12), .ref (A 13), .int (nI S.wn), .ref (A 15), .ref (A 16), .ref (A 17), .ref (A 18), .int kt_144, .int kb_145, .int ks_146])) := f_385
                          have f_390 : G_380 (A 18) = some (83, .inl (cA 0, 8600, .inl kf_148)) := gf_386 _ _ f_250 (show ¬ ((83 : Nat) = 75 ∨ (83 : Nat) = 76) by decide)
                          obtain ⟨Rr_391, hR_392⟩ : ∃ y9, y9 = (fup Rr_251 4 1) := ⟨_, rfl⟩
                          rw [← hR_392] at mr_384
                          have e_393 : Rr_391 1 = (S.v i).den := (congrFun hR_392 1).trans e_253
                          have e_394 : Rr_391 8 = Qn := (congrFun hR_392 8).trans e_254
                          have e_395 : Rr_391 0 = Qn := (congrFun hR_392 0).trans e_255
                          have e_396 : Rr_391 4 = 1 := (congrFun hR_392 4).trans (rfl)
                          have bd_397 : 1 < 1000000000 ^ (1) := (by decide)
                          have fm_398 : ∀ r9, qo = some r9 → fc sh_143 (Rr_391 2) (Rr_391 3) r9 := by rw [show Rr_391 2 = Rr_251 2 from congrFun hR_392 2, show Rr_391 3 = Rr_251 3 from congrFun hR_392 3]; exact fm_257
                          refine gs (pc' := 258) (fun _ _ _ _ _ hl => lv_aload_n hx hb d_Mo_round_257 rfl (lv_at hl 4 rfl)) ?_
                          refine gs (pc' := 259) (fun _ _ _ _ _ hl => lv_iconst (v := nI 0) hx hb d_Mo_round_258 (by decide)) ?_
                          refine gs (pc' := 260) (fun _ _ _ _ _ hl => lv_iconst (v := nI 4) hx hb d_Mo_round_259 (by decide)) ?_
                          refine g_outv hlo (g_runV (As := [.int (nI 0), .int (nI 4)]) (rest := []) ⟨hx, hb, hml, hown, hts⟩ hK hZ hRc hRs (c_Mo_plus l D cA lo MC MS G_380 B hm A (mi (nI 0) (nI S.n) (iI ((S.v i).num.sign)) sh_143 (nI S.rn) (nI S.wn) kt_144 kb_145 ks_146) f_389 Rr_391 mr_384 0 (by decide) 4 (by decide) (by decide) (100 + 1 + 1) (by rw [e_395]; exact pw_up bd_256 (by omega)) (by rw [e_396]; exact pw_up bd_397 (by omega)) (by omega) hB1 hB2) (fun _ _ => cwV 2 hts (tb_good (tb_cons wm917 (tb_cons wm919 (tb_cons ws39 (tb_cons wm12 k_Mo_plus))))) rfl rfl rfl (by decide +kernel) ⟨by rw [hRf]; exact Nat.le_of_ble_eq_true rfl, by rw [hRl]; exact Nat.le_of_ble_eq_true rfl⟩) f_389 rfl hB1 hB2 rfl (Nat.le_of_ble_eq_true rfl) d_Mo_round_260) (fun G_399 B_400 p_401 => ?_)
                          obtain ⟨e_402, mr_403, f_404, gf_405⟩ := p_401
                          have e_402b : B = B_400 := e_402.symm
                          subst e_402b
                          have gf_406 : gfr mT G G_399 := mT_75 gf_387 gf_405
                          have mb_407 : MB cA A S G_399 := MB_75 mb_388 gf_405
                          have f_408 : G_399 hm = some (70, .inr (9, [.int (nI 0), .int (nI S.n), .ref (A 2), .ref (A 3), .ref (A 4), .ref (A 5), .int (iI ((S.v i).num.sign)), .int sh_143, .ref (A 8), .ref (A 9), .int (nI S.rn), .ref (A 11), .ref (A 12), .ref (A 13), .int (nI S.wn), .ref (A 15), .ref (A 16), .ref (A 17), .ref (A 18), .int kt_144, .int kb_145, .int ks_146])) := f_404
                          have f_409 : G_399 (A 18) = some (83, .inl (cA 0, 8600, .inl kf_148)) := gf_405 _ _ f_390 (show ¬ ((83 : Nat) = 75 ∨ (83 : Nat) = 76) by decide)
                          obtain ⟨Rr_410, hR_411⟩ : ∃ y9, y9 = (fup Rr_391 0 (Rr_391 0 + Rr_391 4)) := ⟨_, rfl⟩
                          rw [← hR_411] at mr_403
                          have e_412 : Rr_410 1 = (S.v i).den := (congrFun hR_411 1).trans e_393
                          have e_413 : Rr_410 8 = Qn := (congrFun hR_411 8).trans e_394
                          have e_414 : Rr_410 4 = 1 := (congrFun hR_411 4).trans e_396
                          have e_415 : Rr_410 0 = Qn + 1 := (congrFun hR_411 0).trans (by rw [← e_395, ← e_396]; rfl)
                          have bd_416 : Qn + 1 < 1000000000 ^ (100 + 1 + 1 + 1) := pw_add (pw_up bd_256 (by omega)) (pw_up bd_397 (by omega))
                          have fm_417 : ∀ r9, qo = some r9 → fc sh_143 (Rr_410 2) (Rr_410 3) r9 := by rw [show Rr_410 2 = Rr_391 2 from congrFun hR_411 2, show Rr_410 3 = Rr_391 3 from congrFun hR_411 3]; exact fm_398
                          have rbq_418 : rb (rnd (S.v i) rl sn) 103 := rb_rnd (k := 100) rbq_25 (by omega) (by omega)
                          refine gs (pc' := 264) (fun _ _ _ _ _ hl => lv_aload_n hx hb d_Mo_round_263 rfl (lv_at hl 4 rfl)) ?_
                          refine gs (pc' := 265) (fun _ _ _ _ _ hl => lv_iconst (v := nI 1) hx hb d_Mo_round_264 (by decide)) ?_
                          refine gs (pc' := 266) (fun _ _ _ _ _ hl => lv_iload_n hx hb d_Mo_round_265 rfl (lv_at hl 7 rfl)) ?_
                          refine gs (pc' := 267) (fun _ _ _ _ _ hl => lv_i2l (v := lN sn) hx hb d_Mo_round_266 (nI_l (by omega))) ?_
                          refine g_outv hlo (g_runV (As := [.int (nI 1), .long (lN sn)]) (rest := []) ⟨hx, hb, hml, hown, hts⟩ hK hZ hRc hRs (c_Mo_set l D cA lo MC MS G_399 B hm A (mi (nI 0) (nI S.n) (iI ((S.v i).num.sign)) sh_143 (nI S.rn) (nI S.wn) kt_144 kb_145 ks_146) f_408 Rr_410 mr_403 1 (by decide) sn (by omega) hB1 hB2) (fun _ _ => cwV 2 hts (tb_good (tb_cons wm838 (tb_cons wm840 (tb_cons ws21 (tb_cons wm12 k_Mo_set))))) rfl rfl rfl (by decide +kernel) ⟨by rw [hRf]; exact Nat.le_of_ble_eq_true rfl, by rw [hRl]; exact Nat.le_of_ble_eq_true rfl⟩) f_408 rfl hB1 hB2 rfl (Nat.le_of_ble_eq_true rfl) d_Mo_round_267) (fun G_419 B_420 p_421 => ?_)
                          obtain ⟨e_422, mr_423, f_424, gf_425⟩ := p_421
                          have e_422b : B = B_420 := e_422.symm
                          subst e_422b
                          have gf_426 : gfr mT G G_419 := mT_75 gf_406 gf_425
                          have mb_427 : MB cA A S G_419 := MB_75 mb_407 gf_425
                          have f_428 : G_419 hm = some (70, .inr (9, [.int (nI 0), .int (nI S.n), .ref (A 2), .ref (A 3), .ref (A 4), .ref (A 5), .int (iI ((S.v i).num.sign)), .int sh_143, .ref (A 8), .ref (A 9), .int (nI S.rn), .ref (A 11), .ref (A 12), .ref (A 13), .int (nI S.wn), .ref (A 15), .ref (A 16), .ref (A 17), .ref (A 18), .int kt_144, .int kb_145, .int ks_146])) := f_424
                          have f_429 : G_419 (A 18) = some (83, .inl (cA 0, 8600, .inl kf_148)) := gf_425 _ _ f_409 (show ¬ ((83 : Nat) = 75 ∨ (83 : Nat) = 76) by decide)
                          obtain ⟨Rr_430, hR_431⟩ : ∃ y9, y9 = (fup Rr_410 1 sn) := ⟨_, rfl⟩
                          rw [← hR_431] at mr_423
                          have e_432 : Rr_430 8 = Qn := (congrFun hR_431 8).trans e_413
                          have e_433 : Rr_430 4 = 1 := (congrFun hR_431 4).trans e_414
                          have e_434 : Rr_430 0 = Qn + 1 := (congrFun hR_431 0).trans e_415
                          have e_435 : Rr_430 1 = sn := (congrFun hR_431 1).trans (rfl)
                          have bd_436 : sn < 1000000000 ^ (2) := (Nat.lt_of_le_of_lt (show sn ≤ 1000000000 by omega) (by decide))
                          have fm_437 : ∀ r9, qo = some r9 → fc sh_143 (Rr_430 2) (Rr_430 3) r9 := by rw [show Rr_430 2 = Rr_410 2 from congrFun hR_431 2, show Rr_430 3 = Rr_410 3 from congrFun hR_431 3]; exact fm_417
                          refine gs (pc' := 271) (fun _ _ _ _ _ hl => lv_aload_n hx hb d_Mo_round_270 rfl (lv_at hl 4 rfl)) ?_
                          have fq_438 : fq (iI ((S.v i).num.sign)) (Qn + 1) (sn) (rnd (S.v i) rl sn) := rn_fq hQ hR (by omega) hn9
                          refine g_outv hlo (g_runV (As := []) (rest := []) ⟨hx, hb, hml, hown, hts⟩ hK hZ hRc hRs (c_Mo_reduce l D cA lo MC MS G_419 B hm A (mi (nI 0) (nI S.n) (iI ((S.v i).num.sign)) sh_143 (nI S.rn) (nI S.wn) kt_144 kb_145 ks_146) f_428 Rr_430 mr_423 (by rw [e_435]; exact fq_438.1) (110) (by rw [e_434]; exact pw_up bd_416 (by omega)) (by rw [e_435]; exact pw_up bd_436 (by omega)) (by omega) hB1 hB2) (fun _ _ => cwV 0 hts (tb_good (tb_cons wm843 (tb_cons wm845 (tb_cons ws22 (tb_cons wm12 k_Mo_reduce))))) rfl rfl rfl (by decide +kernel) ⟨by rw [hRf]; exact Nat.le_of_ble_eq_true rfl, by rw [hRl]; exact Nat.le_of_ble_eq_true rfl⟩) f_428 rfl hB1 hB2 rfl (Nat.le_of_ble_eq_true rfl) d_Mo_round_271) (fun G_439 B_440 p_441 => ?_)
                          obtain ⟨e_442, ⟨Rr_443, mr_444, q_445, q_446, q_447, q_448⟩, f_449, gf_450⟩ := p_441
                          have e_442b : B = B_440 := e_442.symm
                          subst e_442b
                          obtain ⟨sg_451, e_452⟩ : ∃ y9 : Int32, y9 = if Rr_430 0 = 0 then nI 0 else (iI ((S.v i).num.sign)) := ⟨_, rfl⟩
                          have gf_453 : gfr mT G G_439 := mT_705 gf_426 gf_450
                          have mb_454 : MB cA A S G_439 := MB_705 mb_427 gf_450
                          have f_455 : G_439 hm = some (70, .inr (9, [.int (nI 0), .int (nI S.n), .ref (A 2), .ref (A 3), .ref (A 4), .ref (A 5), .int sg_451, .int sh_143, .ref (A 8), .ref (A 9), .int (nI S.rn), .ref (A 11), .ref (A 12), .ref (A 13), .int (nI S.wn), .ref (A 15), .ref (A 16), .ref (A 17), .ref (A 18), .int kt_144, .int kb_145, .int ks_146])) := f_449.trans (by rw [mi_if, ← e_452]; rfl)
                          have f_456 : G_439 (A 18) = some (83, .inl (cA 0, 8600, .inl kf_148)) := gf_450 _ _ f_429 (show ¬ ((83 : Nat) = 70 ∨ (83 : Nat) = 75 ∨ (83 : Nat) = 76) by decide)
                          have fc_457 : fc sg_451 (Rr_443 0) (Rr_443 1) (rnd (S.v i) rl sn) := by rw [q_445, q_446, e_452, e_434, e_435]; exact fq_fc fq_438
                          refine gs (pc' := 275) (fun _ _ _ _ _ hl => lv_aload_n hx hb d_Mo_round_274 rfl (lv_at hl 4 rfl)) ?_
                          refine gs (pc' := 276) (fun _ _ _ _ _ hl => lv_aload_n hx hb d_Mo_round_275 rfl (lv_at hl 4 rfl)) ?_
                          refine g_get hx hb hts hin_Mo hown hK f_455 rfl 3 (by decide) (hts _ wm757) (fun _ h9 => h9) rfl d_Mo_round_276 ?_
                          refine gs (pc' := 280) (fun _ _ _ _ _ hl => lv_iload_n hx hb d_Mo_round_279 rfl (lv_at hl 5 rfl)) ?_
                          obtain ⟨sgn_458, unt_459, sto_460, szs_461, f_462, f_463, f_464, f_465, hv_466⟩ := id mb_454.1
                          refine g_iald hx hb hK 0 f_463 rfl (show vp_in (nI i) 200 from vp_in_nI (by omega) (by omega)) d_Mo_round_280 ?_
                          refine g_eqi (show unt_459 (nI i).toNatClampNeg = unt_459 i from by rw [nI_clamp (by omega)]) ?_
                          refine g_eqi (show unt_459 i = iI (S.un i) from (hv_466 i (by omega)).2.1) ?_
                          have ub_467 := (hW.v i (by omega)).2.1
                          have ub_468 := (hW.v i (by omega)).2.2
                          have hV_469 : MW cA hm A S 0 (some (rnd (S.v i) rl sn)) none qk G_439 := ⟨sg_451, sh_143, kt_144, kb_145, ks_146, Rr_443, _, f_455, mr_444, f_456, (sm_ fc_457), sn_, v_154, mb_454⟩
                          refine g_outi hlo (g_runV (As := [.int (iI (S.un i))]) (rest := []) ⟨hx, hb, hml, hown, hts⟩ hK hZ hRc hRs (c_Mo_keep l D cA lo MC MS G_439 B hm A S 0 (some (rnd (S.v i) rl sn)) none qk hV_469 hW (rnd (S.v i) rl sn) rfl (103) rbq_418 (by omega) (S.un i) (hW.v i hi_i).2 (by omega) hB1 hB2) (fun _ _ => cwV 1 hts (tb_good (tb_cons wm881 (tb_cons wm883 (tb_cons ws31 (tb_cons wm12 k_Mo_keep))))) rfl rfl rfl (by decide +kernel) ⟨by rw [hRf]; exact Nat.le_of_ble_eq_true rfl, by rw [hRl]; exact Nat.le_of_ble_eq_true rfl⟩) f_455 rfl hB1 hB2 rfl (Nat.le_of_ble_eq_true rfl) d_Mo_round_281) (fun r_473 G_470 B_471 p_472 => ?_)
                          obtain ⟨e_474, e_477, hV_475, gf_476⟩ := p_472
                          subst e_477
                          have e_474b : B = B_471 := e_474.symm
                          subst e_474b
                          have gf_478 : gfr mT G G_470 := mT_mT gf_453 gf_476
                          rw [st_round hn hi_i hrl hsn1 hsn2, if_neg (by omega)] at hret
                          exact hret 284 _ _ _ _ d_Mo_round_284 hB1 hB2 ⟨rfl, fun _ => rfl, MW_k hV_475, gf_478⟩
                    refine gs (pc' := 144) (fun _ _ _ _ _ hl => lv_iload_n hx hb d_Mo_round_143 rfl (lv_at hl 5 rfl)) ?_
                    refine gsb (pc1 := 162) (pc2 := 147) (fun _ _ _ _ _ => lv_if_ne (tgt := 162) hx hb d_Mo_round_144 (by decide)) (fun c_479 => ?_) (fun c_479 => ?_)
                    · skip
                      have nc_479 : rl ≠ 0 := (n0_ne (a := rl) (by omega)).1 c_479
                      refine gs (pc' := 163) (fun _ _ _ _ _ hl => lv_iload_n hx hb d_Mo_round_162 rfl (lv_at hl 5 rfl)) ?_
                      refine gs (pc' := 164) (fun _ _ _ _ _ hl => lv_iconst (v := nI 1) hx hb d_Mo_round_163 (by decide)) ?_
                      refine gsb (pc1 := 182) (pc2 := 167) (fun _ _ _ _ _ => lv_icmp_ne (tgt := 182) hx hb d_Mo_round_164 (by decide)) (fun c_480 => ?_) (fun c_480 => ?_)
                      · skip
                        have nc_480 : rl ≠ 1 := (nn_ne (a := rl) (b := 1) (by omega) (by omega)).1 c_480
                        refine gs (pc' := 183) (fun _ _ _ _ _ hl => lv_iload_n hx hb d_Mo_round_182 rfl (lv_at hl 5 rfl)) ?_
                        refine gs (pc' := 184) (fun _ _ _ _ _ hl => lv_iconst (v := nI 2) hx hb d_Mo_round_183 (by decide)) ?_
                        refine gsb (pc1 := 212) (pc2 := 187) (fun _ _ _ _ _ => lv_icmp_ne (tgt := 212) hx hb d_Mo_round_184 (by decide)) (fun c_481 => ?_) (fun c_481 => ?_)
                        · skip
                          have nc_481 : rl ≠ 2 := (nn_ne (a := rl) (b := 2) (by omega) (by omega)).1 c_481
                          refine gs (pc' := 214) (fun _ _ _ _ _ hl => lv_iload hx hb d_Mo_round_212 (lv_at hl 1 rfl)) ?_
                          refine gsb (pc1 := 227) (pc2 := 217) (fun _ _ _ _ _ => lv_if_gt (tgt := 227) hx hb d_Mo_round_214 (by decide)) (fun c_482 => ?_) (fun c_482 => ?_)
                          · skip
                            have nc_482 : x9 > 0 := (ii_gt (a := x9) (b := 0) (by omega) (by omega) (by omega) (by omega)).1 (by first | exact c_482 | (have z9 := c_482; simp only [nI_iI] at z9; exact z9))
                            refine gs (pc' := 228) (fun _ _ _ _ _ hl => lv_iconst (v := nI 1) hx hb d_Mo_round_227 (by decide)) ?_
                            refine gs (pc' := 232) (fun _ _ _ _ _ hl => lv_goto (tgt := 232) hx hb d_Mo_round_228 (by decide)) ?_
                            exact j232 1 (by decide) (fun q9 => by rw [gof_t q9 (by omega)]; rfl)
                          · skip
                            have nc_482 : x9 ≤ 0 := (ii_gt (a := x9) (b := 0) (by omega) (by omega) (by omega) (by omega)).2 (by first | exact c_482 | (have z9 := c_482; simp only [nI_iI] at z9; exact z9))
                            refine gs (pc' := 219) (fun _ _ _ _ _ hl => lv_iload hx hb d_Mo_round_217 (lv_at hl 1 rfl)) ?_
                            refine gsb (pc1 := 231) (pc2 := 222) (fun _ _ _ _ _ => lv_if_ne (tgt := 231) hx hb d_Mo_round_219 (by decide)) (fun c_483 => ?_) (fun c_483 => ?_)
                            · skip
                              have nc_483 : x9 ≠ 0 := (ii_ne (a := x9) (b := 0) (by omega) (by omega) (by omega) (by omega)).1 (by first | exact c_483 | (have z9 := c_483; simp only [nI_iI] at z9; exact z9))
                              refine gs (pc' := 232) (fun _ _ _ _ _ hl => lv_iconst (v := nI 0) hx hb d_Mo_round_231 (by decide)) ?_
                              exact j232 0 (by decide) (fun q9 => by rw [gof_f q9 (by omega)]; rfl)
                            · skip
                              have nc_483 : x9 = 0 := (ii_ne (a := x9) (b := 0) (by omega) (by omega) (by omega) (by omega)).2 (by first | exact c_483 | (have z9 := c_483; simp only [nI_iI] at z9; exact z9))
                              refine gs (pc' := 224) (fun _ _ _ _ _ hl => lv_iload hx hb d_Mo_round_222 (lv_at hl 0 rfl)) ?_
                              refine gsb (pc1 := 231) (pc2 := 227) (fun _ _ _ _ _ => lv_if_eq (tgt := 231) hx hb d_Mo_round_224 (by decide)) (fun c_484 => ?_) (fun c_484 => ?_)
                              · skip
                                have nc_484 : o6 = 0 := (n0_eq (a := o6) (by omega)).1 c_484
                                refine gs (pc' := 232) (fun _ _ _ _ _ hl => lv_iconst (v := nI 0) hx hb d_Mo_round_231 (by decide)) ?_
                                exact j232 0 (by decide) (fun q9 => by rw [gof_f q9 (by omega)]; rfl)
                              · skip
                                have nc_484 : o6 ≠ 0 := (n0_eq (a := o6) (by omega)).2 c_484
                                refine gs (pc' := 228) (fun _ _ _ _ _ hl => lv_iconst (v := nI 1) hx hb d_Mo_round_227 (by decide)) ?_
                                refine gs (pc' := 232) (fun _ _ _ _ _ hl => lv_goto (tgt := 232) hx hb d_Mo_round_228 (by decide)) ?_
                                exact j232 1 (by decide) (fun q9 => by rw [gof_t q9 (by omega)]; rfl)
                        · skip
                          have nc_481 : rl = 2 := (nn_ne (a := rl) (b := 2) (by omega) (by omega)).2 c_481
                          refine gs (pc' := 189) (fun _ _ _ _ _ hl => lv_iload hx hb d_Mo_round_187 (lv_at hl 1 rfl)) ?_
                          refine gsb (pc1 := 204) (pc2 := 192) (fun _ _ _ _ _ => lv_if_gt (tgt := 204) hx hb d_Mo_round_189 (by decide)) (fun c_485 => ?_) (fun c_485 => ?_)
                          · skip
                            have nc_485 : x9 > 0 := (ii_gt (a := x9) (b := 0) (by omega) (by omega) (by omega) (by omega)).1 (by first | exact c_485 | (have z9 := c_485; simp only [nI_iI] at z9; exact z9))
                            refine gs (pc' := 205) (fun _ _ _ _ _ hl => lv_iconst (v := nI 1) hx hb d_Mo_round_204 (by decide)) ?_
                            refine gs (pc' := 232) (fun _ _ _ _ _ hl => lv_goto (tgt := 232) hx hb d_Mo_round_205 (by decide)) ?_
                            exact j232 1 (by decide) (fun q9 => by rw [gof_t q9 (by omega)]; rfl)
                          · skip
                            have nc_485 : x9 ≤ 0 := (ii_gt (a := x9) (b := 0) (by omega) (by omega) (by omega) (by omega)).2 (by first | exact c_485 | (have z9 := c_485; simp only [nI_iI] at z9; exact z9))
                            refine gs (pc' := 194) (fun _ _ _ _ _ hl => lv_iload hx hb d_Mo_round_192 (lv_at hl 1 rfl)) ?_
                            refine gsb (pc1 := 208) (pc2 := 197) (fun _ _ _ _ _ => lv_if_ne (tgt := 208) hx hb d_Mo_round_194 (by decide)) (fun c_486 => ?_) (fun c_486 => ?_)
                            · skip
                              have nc_486 : x9 ≠ 0 := (ii_ne (a := x9) (b := 0) (by omega) (by omega) (by omega) (by omega)).1 (by first | exact c_486 | (have z9 := c_486; simp only [nI_iI] at z9; exact z9))
                              refine gs (pc' := 209) (fun _ _ _ _ _ hl => lv_iconst (v := nI 0) hx hb d_Mo_round_208 (by decide)) ?_
                              refine gs (pc' := 232) (fun _ _ _ _ _ hl => lv_goto (tgt := 232) hx hb d_Mo_round_209 (by decide)) ?_
                              exact j232 0 (by decide) (fun q9 => by rw [gof_f q9 (by omega)]; rfl)
                            · skip
                              have nc_486 : x9 = 0 := (ii_ne (a := x9) (b := 0) (by omega) (by omega) (by omega) (by omega)).2 (by first | exact c_486 | (have z9 := c_486; simp only [nI_iI] at z9; exact z9))
                              refine gs (pc' := 198) (fun _ _ _ _ _ hl => lv_aload_n hx hb d_Mo_round_197 rfl (lv_at hl 3 rfl)) ?_
                              refine g_get hx hb hts hin_Mo hown hK f_217 rfl 6 (by decide) (hts _ wm760) (fun _ h9 => h9) rfl d_Mo_round_198 ?_
                              refine gsb (pc1 := 208) (pc2 := 204) (fun _ _ _ _ _ => lv_if_le (tgt := 208) hx hb d_Mo_round_201 (by decide)) (fun c_487 => ?_) (fun c_487 => ?_)
                              · skip
                                have nc_487 : ((S.v i).num.sign) ≤ 0 := (ii_le (a := ((S.v i).num.sign)) (b := 0) (by omega) (by omega) (by omega) (by omega)).1 (by first | exact c_487 | (have z9 := c_487; simp only [nI_iI] at z9; exact z9))
                                refine gs (pc' := 209) (fun _ _ _ _ _ hl => lv_iconst (v := nI 0) hx hb d_Mo_round_208 (by decide)) ?_
                                refine gs (pc' := 232) (fun _ _ _ _ _ hl => lv_goto (tgt := 232) hx hb d_Mo_round_209 (by decide)) ?_
                                exact j232 0 (by decide) (fun q9 => by rw [gof_f q9 (by omega)]; rfl)
                              · skip
                                have nc_487 : ((S.v i).num.sign) > 0 := (ii_le (a := ((S.v i).num.sign)) (b := 0) (by omega) (by omega) (by omega) (by omega)).2 (by first | exact c_487 | (have z9 := c_487; simp only [nI_iI] at z9; exact z9))
                                refine gs (pc' := 205) (fun _ _ _ _ _ hl => lv_iconst (v := nI 1) hx hb d_Mo_round_204 (by decide)) ?_
                                refine gs (pc' := 232) (fun _ _ _ _ _ hl => lv_goto (tgt := 232) hx hb d_Mo_round_205 (by decide)) ?_
                                exact j232 1 (by decide) (fun q9 => by rw [gof_t q9 (by omega)]; rfl)
                      · skip
                        have nc_480 : rl = 1 := (nn_ne (a := rl) (b := 1) (by omega) (by omega)).2 c_480
                        refine gs (pc' := 168) (fun _ _ _ _ _ hl => lv_aload_n hx hb d_Mo_round_167 rfl (lv_at hl 3 rfl)) ?_
                        refine g_get hx hb hts hin_Mo hown hK f_217 rfl 6 (by decide) (hts _ wm760) (fun _ h9 => h9) rfl d_Mo_round_168 ?_
                        refine gsb (pc1 := 178) (pc2 := 174) (fun _ _ _ _ _ => lv_if_le (tgt := 178) hx hb d_Mo_round_171 (by decide)) (fun c_488 => ?_) (fun c_488 => ?_)
                        · skip
                          have nc_488 : ((S.v i).num.sign) ≤ 0 := (ii_le (a := ((S.v i).num.sign)) (b := 0) (by omega) (by omega) (by omega) (by omega)).1 (by first | exact c_488 | (have z9 := c_488; simp only [nI_iI] at z9; exact z9))
                          refine gs (pc' := 179) (fun _ _ _ _ _ hl => lv_iconst (v := nI 0) hx hb d_Mo_round_178 (by decide)) ?_
                          refine gs (pc' := 232) (fun _ _ _ _ _ hl => lv_goto (tgt := 232) hx hb d_Mo_round_179 (by decide)) ?_
                          exact j232 0 (by decide) (fun q9 => by rw [gof_f q9 (by omega)]; rfl)
                        · skip
                          have nc_488 : ((S.v i).num.sign) > 0 := (ii_le (a := ((S.v i).num.sign)) (b := 0) (by omega) (by omega) (by omega) (by omega)).2 (by first | exact c_488 | (have z9 := c_488; simp only [nI_iI] at z9; exact z9))
                          refine gs (pc' := 175) (fun _ _ _ _ _ hl => lv_iconst (v := nI 1) hx hb d_Mo_round_174 (by decide)) ?_
                          refine gs (pc' := 232) (fun _ _ _ _ _ hl => lv_goto (tgt := 232) hx hb d_Mo_round_175 (by decide)) ?_
                          exact j232 1 (by decide) (fun q9 => by rw [gof_t q9 (by omega)]; rfl)
                    · skip
                      have nc_479 : rl = 0 := (n0_ne (a := rl) (by omega)).2 c_479
                      refine gs (pc' := 148) (fun _ _ _ _ _ hl => lv_aload_n hx hb d_Mo_round_147 rfl (lv_at hl 3 rfl)) ?_
                      refine g_get hx hb hts hin_Mo hown hK f_217 rfl 6 (by decide) (hts _ wm760) (fun _ h9 => h9) rfl d_Mo_round_148 ?_
                      refine gsb (pc1 := 158) (pc2 := 154) (fun _ _ _ _ _ => lv_if_ge (tgt := 158) hx hb d_Mo_round_151 (by decide)) (fun c_489 => ?_) (fun c_489 => ?_)
                      · skip
                        have nc_489 : ((S.v i).num.sign) ≥ 0 := (ii_ge (a := ((S.v i).num.sign)) (b := 0) (by omega) (by omega) (by omega) (by omega)).1 (by first | exact c_489 | (have z9 := c_489; simp only [nI_iI] at z9; exact z9))
                        refine gs (pc' := 159) (fun _ _ _ _ _ hl => lv_iconst (v := nI 0) hx hb d_Mo_round_158 (by decide)) ?_
                        refine gs (pc' := 232) (fun _ _ _ _ _ hl => lv_goto (tgt := 232) hx hb d_Mo_round_159 (by decide)) ?_
                        exact j232 0 (by decide) (fun q9 => by rw [gof_f q9 (by omega)]; rfl)
                      · skip
                        have nc_489 : ((S.v i).num.sign) < 0 := (ii_ge (a := ((S.v i).num.sign)) (b := 0) (by omega) (by omega) (by omega) (by omega)).2 (by first | exact c_489 | (have z9 := c_489; simp only [nI_iI] at z9; exact z9))
                        refine gs (pc' := 155) (fun _ _ _ _ _ hl => lv_iconst (v := nI 1) hx hb d_Mo_round_154 (by decide)) ?_
                        refine gs (pc' := 232) (fun _ _ _ _ _ hl => lv_goto (tgt := 232) hx hb d_Mo_round_155 (by decide)) ?_
                        exact j232 1 (by decide) (fun q9 => by rw [gof_t q9 (by omega)]; rfl)
                  refine gsb (pc1 := 140) (pc2 := 123) (fun _ _ _ _ _ => lv_if_le (tgt := 140) hx hb d_Mo_round_120 (by decide)) (fun c_490 => ?_) (fun c_490 => ?_)
                  · skip
                    have nc_490 : zz_236 ≤ 0 := (n0_le (a := zz_236) (by omega)).1 c_490
                    have hod : Qn % 2 ≠ 1 := by
                      have e9 : Qn = 0 := e_222.symm.trans ((isD_z0 hD_239).mp (by omega))
                      omega
                    refine gs (pc' := 141) (fun _ _ _ _ _ hl => lv_iconst (v := nI 0) hx hb d_Mo_round_140 (by decide)) ?_
                    exact j141 0 (Or.inr ⟨rfl, hod⟩)
                  · skip
                    have nc_490 : zz_236 > 0 := (n0_le (a := zz_236) (by omega)).2 c_490
                    have hz0 : 0 < zz_236 := nc_490
                    have hd0 := dv_low (lim_dok hD_239.1) hz0
                    rw [hD_239.2.2, e_222] at hd0
                    have hdb : df (sh lm_231 8) 0 < 1000000000 := (hD_239.1 0 hz0).2
                    refine gs (pc' := 124) (fun _ _ _ _ _ hl => lv_aload_n hx hb d_Mo_round_123 rfl (lv_at hl 2 rfl)) ?_
                    refine g_get hx hb hts hin_Mo hown hK f_217 rfl 8 (by decide) (hts _ wm762) (fun _ h9 => h9) rfl d_Mo_round_124 ?_
                    refine gs (pc' := 129) (fun _ _ _ _ _ hl => lv_ldc (v := 34400) hx hb hown (hts _ wm880) d_Mo_round_127) ?_
                    refine g_eqi (show 34400 = nI 34400 from rfl) ?_
                    refine g_iald hx hb hK 0 f_233 rfl (show vp_in (nI 34400) 38700 from vp_in_nI (by omega) (by omega)) d_Mo_round_129 ?_
                    refine g_eqi (show lm_231 (nI 34400).toNatClampNeg = lm_231 34400 from by rw [nI_clamp (by omega)]) ?_
                    refine g_eqi (show lm_231 34400 = nI (df (sh lm_231 8) 0) from (hD_239.1 0 hz0).1) ?_
                    refine gs (pc' := 131) (fun _ _ _ _ _ hl => lv_iconst (v := nI 2) hx hb d_Mo_round_130 (by decide)) ?_
                    refine gs (pc' := 132) (fun _ _ _ _ _ hl => lv_irem hx hb d_Mo_round_131 (by decide)) ?_
                    refine g_eqi (show (nI (df (sh lm_231 8) 0)) - (nI (df (sh lm_231 8) 0)) / (nI 2) * (nI 2) = nI ((df (sh lm_231 8) 0) % 2) from pk_rem (by omega) (by omega) (by omega)) ?_
                    refine gs (pc' := 133) (fun _ _ _ _ _ hl => lv_iconst (v := nI 1) hx hb d_Mo_round_132 (by decide)) ?_
                    refine gsb (pc1 := 140) (pc2 := 136) (fun _ _ _ _ _ => lv_icmp_ne (tgt := 140) hx hb d_Mo_round_133 (by decide)) (fun c_491 => ?_) (fun c_491 => ?_)
                    · skip
                      have nc_491 : ((df (sh lm_231 8) 0) % 2) ≠ 1 := (nn_ne (a := ((df (sh lm_231 8) 0) % 2)) (b := 1) (by omega) (by omega)).1 c_491
                      have hod : Qn % 2 ≠ 1 := by omega
                      refine gs (pc' := 141) (fun _ _ _ _ _ hl => lv_iconst (v := nI 0) hx hb d_Mo_round_140 (by decide)) ?_
                      exact j141 0 (Or.inr ⟨rfl, hod⟩)
                    · skip
                      have nc_491 : ((df (sh lm_231 8) 0) % 2) = 1 := (nn_ne (a := ((df (sh lm_231 8) 0) % 2)) (b := 1) (by omega) (by omega)).2 c_491
                      have hod : Qn % 2 = 1 := by omega
                      refine gs (pc' := 137) (fun _ _ _ _ _ hl => lv_iconst (v := nI 1) hx hb d_Mo_round_136 (by decide)) ?_
                      refine gs (pc' := 141) (fun _ _ _ _ _ hl => lv_goto (tgt := 141) hx hb d_Mo_round_137 (by decide)) ?_
                      exact j141 1 (Or.inl ⟨rfl, hod⟩)
                refine gsb (pc1 := 94) (pc2 := 90) (fun _ _ _ _ _ => lv_if_ne (tgt := 94) hx hb d_Mo_round_87 (by decide)) (fun c_492 => ?_) (fun c_492 => ?_)
                · skip
                  have nc_492 : zz_204 ≠ 0 := (n0_ne (a := zz_204) (by omega)).1 c_492
                  have hrm0 : Rm ≠ 0 := fun e9 => nc_492 ((isD_z0 hD_207).mpr (e_196.trans e9))
                  refine gs (pc' := 95) (fun _ _ _ _ _ hl => lv_iconst (v := nI 0) hx hb d_Mo_round_94 (by decide)) ?_
                  exact j95 0 (Or.inr ⟨rfl, hrm0⟩)
                · skip
                  have nc_492 : zz_204 = 0 := (n0_ne (a := zz_204) (by omega)).2 c_492
                  have hrm0 : Rm = 0 := e_196.symm.trans ((isD_z0 hD_207).mp nc_492)
                  refine gs (pc' := 91) (fun _ _ _ _ _ hl => lv_iconst (v := nI 1) hx hb d_Mo_round_90 (by decide)) ?_
                  refine gs (pc' := 95) (fun _ _ _ _ _ hl => lv_goto (tgt := 95) hx hb d_Mo_round_91 (by decide)) ?_
                  exact j95 1 (Or.inl ⟨rfl, hrm0⟩)
              · skip
                have nc_133 : S.n = 200 := (nn_ne (a := S.n) (b := 200) (by omega) (by omega)).2 c_133
                refine gs (pc' := 62) (fun _ _ _ _ _ hl => lv_bipush (v := (-3)) hx hb d_Mo_round_60 (by decide)) ?_
                refine g_eqi (show (-3) = iI (-3) from by decide) ?_
                have hV_493 : MW cA hm A S 0 none none none G_123 := ⟨sg_108, sh_109, kt_110, kb_111, ks_112, Rr_113, _, f_126, mr_130, f_127, sn_, sn_, sn_, mb_131⟩
                rw [st_round hn hi_i hrl hsn1 hsn2, if_pos (by omega)] at hret
                exact hret 62 _ _ _ _ d_Mo_round_62 hB1 hB2 ⟨rfl, fun _ => rfl, hV_493, gf_128⟩
            · skip
              have nc_132 : 0 > 0 := (n0_le (a := 0) (by omega)).2 c_132
              exact absurd nc_132 (by decide)
          · skip
            have nc_107 : sp > ((1000000000 : Nat) : Int) := (ii_le (a := sp) (b := ((1000000000 : Nat) : Int)) (by omega) (by omega) (by omega) (by omega)).2 (by first | exact c_107 | (have z9 := c_107; simp only [nI_iI] at z9; exact z9))
            have hbad : ¬ (0 ≤ ru ∧ ru ≤ 3 ∧ 1 ≤ sp ∧ sp ≤ 1000000000) := by omega
            refine gs (pc' := 34) (fun _ _ _ _ _ hl => lv_iconst (v := nI 2) hx hb d_Mo_round_33 (by decide)) ?_
            refine gs (pc' := 38) (fun _ _ _ _ _ hl => lv_goto (tgt := 38) hx hb d_Mo_round_34 (by decide)) ?_
            obtain ⟨sg_494, sh_495, kt_496, kb_497, ks_498, Rr_499, kf_500, v_501, v_502, v_503, v_504, v_505, v_506, v_507⟩ := id hV_16
            have f_508 : G hm = some (70, .inr (9, [.int (nI th), .int (nI S.n), .ref (A 2), .ref (A 3), .ref (A 4), .ref (A 5), .int sg_494, .int sh_495, .ref (A 8), .ref (A 9), .int (nI S.rn), .ref (A 11), .ref (A 12), .ref (A 13), .int (nI S.wn), .ref (A 15), .ref (A 16), .ref (A 17), .ref (A 18), .int kt_496, .int kb_497, .int ks_498])) := v_501
            refine g_put (ty := .int) hx hb hts hin_Mo ty_Mo ty_Mo_ok nm_Mo hown hK f_508 rfl 0 (by decide) (hts _ wm754) (fun _ h9 => h9) rfl (by decide +kernel) rfl rfl (Nat.le_of_ble_eq_true rfl) d_Mo_round_38 (fun G_509 f_510 o_511 => ?_)
            have f_512 : G_509 hm = some (70, .inr (9, [.int (nI 2), .int (nI S.n), .ref (A 2), .ref (A 3), .ref (A 4), .ref (A 5), .int sg_494, .int sh_495, .ref (A 8), .ref (A 9), .int (nI S.rn), .ref (A 11), .ref (A 12), .ref (A 13), .int (nI S.wn), .ref (A 15), .ref (A 16), .ref (A 17), .ref (A 18), .int kt_496, .int kb_497, .int ks_498])) := f_510
            have f_513 : G_509 (A 18) = some (83, .inl (cA 0, 8600, .inl kf_500)) := (o_511 _ (gne v_503 f_508 (fun e => by cases e))).trans v_503
            have gf_514 : gfr mT G G_509 := gfr_put gfr_rf f_508 (show mT 70 by decide) o_511
            have gf_515 : gfr (fun x => x = 70) _ G_509 := gfr_put gfr_rf f_508 rfl o_511
            have mr_516 : MR cA A Rr_499 G_509 := MR_fr v_502 gf_515 (show ¬ (75 : Nat) = 70 by decide) (show ¬ (76 : Nat) = 70 by decide)
            have mb_517 : MB cA A S G_509 := MB_fr v_507 gf_515 (fun x h9 => by omega)
            refine gs (pc' := 42) (fun _ _ _ _ _ hl => lv_aload_n hx hb d_Mo_round_41 rfl (lv_at hl 0 rfl)) ?_
            refine g_get hx hb hts hin_Mo hown hK f_512 rfl 0 (by decide) (hts _ wm754) (fun _ h9 => h9) rfl d_Mo_round_42 ?_
            refine gsb (pc1 := 50) (pc2 := 48) (fun _ _ _ _ _ => lv_if_le (tgt := 50) hx hb d_Mo_round_45 (by decide)) (fun c_518 => ?_) (fun c_518 => ?_)
            · skip
              have nc_518 : 2 ≤ 0 := (n0_le (a := 2) (by omega)).1 c_518
              exact absurd nc_518 (by decide)
            · skip
              have nc_518 : 2 > 0 := (n0_le (a := 2) (by omega)).2 c_518
              refine gs (pc' := 49) (fun _ _ _ _ _ hl => lv_iconst (v := nI 0) hx hb d_Mo_round_48 (by decide)) ?_
              have hV_519 : MW cA hm A S 2 none none none G_509 := ⟨sg_494, sh_495, kt_496, kb_497, ks_498, Rr_499, _, f_512, mr_516, f_513, sn_, sn_, sn_, mb_517⟩
              rw [sv_round hn hi_i hru1 hru2 hsp1 hsp2 hbad] at hret
              exact hret 49 _ _ _ _ d_Mo_round_49 hB1 hB2 ⟨rfl, fun h9 => absurd (show (2 : Nat) = 0 from h9) (by decide), hV_519, gf_514⟩
  · skip
    have nc_24 : (b01 (decide (0 ≤ x ∧ x < S.n))) = 0 := (n0_ne (a := (b01 (decide (0 ≤ x ∧ x < S.n)))) (by omega)).2 c_24
    have hb_x : ¬ (0 ≤ x ∧ x < S.n) := b01_0 nc_24
    refine gs (pc' := 10) (fun _ _ _ _ _ hl => lv_iconst (v := nI 1) hx hb d_Mo_round_9 (by decide)) ?_
    refine gs (pc' := 38) (fun _ _ _ _ _ hl => lv_goto (tgt := 38) hx hb d_Mo_round_10 (by decide)) ?_
    obtain ⟨sg_520, sh_521, kt_522, kb_523, ks_524, Rr_525, kf_526, v_527, v_528, v_529, v_530, v_531, v_532, v_533⟩ := id hV_16
    have f_534 : G hm = some (70, .inr (9, [.int (nI th), .int (nI S.n), .ref (A 2), .ref (A 3), .ref (A 4), .ref (A 5), .int sg_520, .int sh_521, .ref (A 8), .ref (A 9), .int (nI S.rn), .ref (A 11), .ref (A 12), .ref (A 13), .int (nI S.wn), .ref (A 15), .ref (A 16), .ref (A 17), .ref (A 18), .int kt_522, .int kb_523, .int ks_524])) := v_527
    refine g_put (ty := .int) hx hb hts hin_Mo ty_Mo ty_Mo_ok nm_Mo hown hK f_534 rfl 0 (by decide) (hts _ wm754) (fun _ h9 => h9) rfl (by decide +kernel) rfl rfl (Nat.le_of_ble_eq_true rfl) d_Mo_round_38 (fun G_535 f_536 o_537 => ?_)
    have f_538 : G_535 hm = some (70, .inr (9, [.int (nI 1), .int (nI S.n), .ref (A 2), .ref (A 3), .ref (A 4), .ref (A 5), .int sg_520, .int sh_521, .ref (A 8), .ref (A 9), .int (nI S.rn), .ref (A 11), .ref (A 12), .ref (A 13), .int (nI S.wn), .ref (A 15), .ref (A 16), .ref (A 17), .ref (A 18), .int kt_522, .int kb_523, .int ks_524])) := f_536
    have f_539 : G_535 (A 18) = some (83, .inl (cA 0, 8600, .inl kf_526)) := (o_537 _ (gne v_529 f_534 (fun e => by cases e))).trans v_529
    have gf_540 : gfr mT G G_535 := gfr_put gfr_rf f_534 (show mT 70 by decide) o_537
    have gf_541 : gfr (fun x => x = 70) _ G_535 := gfr_put gfr_rf f_534 rfl o_537
    have mr_542 : MR cA A Rr_525 G_535 := MR_fr v_528 gf_541 (show ¬ (75 : Nat) = 70 by decide) (show ¬ (76 : Nat) = 70 by decide)
    have mb_543 : MB cA A S G_535 := MB_fr v_533 gf_541 (fun x h9 => by omega)
    refine gs (pc' := 42) (fun _ _ _ _ _ hl => lv_aload_n hx hb d_Mo_round_41 rfl (lv_at hl 0 rfl)) ?_
    refine g_get hx hb hts hin_Mo hown hK f_538 rfl 0 (by decide) (hts _ wm754) (fun _ h9 => h9) rfl d_Mo_round_42 ?_
    refine gsb (pc1 := 50) (pc2 := 48) (fun _ _ _ _ _ => lv_if_le (tgt := 50) hx hb d_Mo_round_45 (by decide)) (fun c_544 => ?_) (fun c_544 => ?_)
    · skip
      have nc_544 : 1 ≤ 0 := (n0_le (a := 1) (by omega)).1 c_544
      exact absurd nc_544 (by decide)
    · skip
      have nc_544 : 1 > 0 := (n0_le (a := 1) (by omega)).2 c_544
      refine gs (pc' := 49) (fun _ _ _ _ _ hl => lv_iconst (v := nI 0) hx hb d_Mo_round_48 (by decide)) ?_
      have hV_545 : MW cA hm A S 1 none none none G_535 := ⟨sg_520, sh_521, kt_522, kb_523, ks_524, Rr_525, _, f_538, mr_542, f_539, sn_, sn_, sn_, mb_543⟩
      rw [su_round (vn_ hx1 hx2 hb_x)] at hret
      exact hret 49 _ _ _ _ d_Mo_round_49 hB1 hB2 ⟨rfl, fun h9 => absurd (show (1 : Nat) = 0 from h9) (by decide), hV_545, gf_540⟩
