set_option maxHeartbeats 4000000 in
set_option maxRecDepth 100000 in
theorem c_Mo_thrown (l : Launch) (D : va_G) (cA : Nat → ClassId) (lo MC MS : Nat) (G : gT) (B : Nat × Nat) (hm : Nat) (A : Nat → Nat) (S : St) (th : Nat) (qm qo qk : Option Rat) (hV : MW cA hm A S th qm qo qk G) (hW : WF S) (hB1 : B.1 ≤ MC) (hB2 : B.2 ≤ MS) : gMet l y_Mo_thrown w_Mo_thrown 0 0 D clS (gtys cA) lo MC MS [.ref hm] G B (gQi D clS lo (fun r9 u => u = (G, B) ∧ r9 = nI th)) := by
  refine g_meti (cc := prog_11_method_2_code) (nL := 1) (L := [(0, .ref hm)]) (by decide +kernel) rfl (Nat.le_of_ble_eq_true rfl) rfl ?_
  intro p e R s m args below meth c Q hF hRc hRs hRf hRl hret
  obtain ⟨hx, hb, hr, hml, hts0, hown, hlocks, hin, hK, hlo, hZ⟩ := hF
  have hts : ∀ w ∈ tbg, w.before args s = true := fun w h => hts0 w (List.mem_cons_of_mem _ h)
  have hn := hW.n
  have hrn := hW.rn
  have hwn := hW.wn
  refine gs (pc' := 1) (fun _ _ _ _ _ hl => lv_aload_n hx hb d_Mo_thrown_0 rfl (lv_at hl 0 rfl)) ?_
  obtain ⟨sg_1, sh_2, kt_3, kb_4, ks_5, Rr_6, kf_7, v_8, v_9, v_10, v_11, v_12, v_13, v_14⟩ := id hV
  have f_15 : G hm = some (70, .inr (9, [.int (nI th), .int (nI S.n), .ref (A 2), .ref (A 3), .ref (A 4), .ref (A 5), .int sg_1, .int sh_2, .ref (A 8), .ref (A 9), .int (nI S.rn), .ref (A 11), .ref (A 12), .ref (A 13), .int (nI S.wn), .ref (A 15), .ref (A 16), .ref (A 17), .ref (A 18), .int kt_3, .int kb_4, .int ks_5])) := v_8
  refine g_get hx hb hts hin_Mo hown hK f_15 rfl 0 (by decide) (hts _ wm754) (fun _ h9 => h9) rfl d_Mo_thrown_1 ?_
  exact hret 4 _ _ _ _ d_Mo_thrown_4 hB1 hB2 ⟨rfl, rfl⟩
set_option maxHeartbeats 4000000 in
set_option maxRecDepth 100000 in
theorem c_Mo_value (l : Launch) (D : va_G) (cA : Nat → ClassId) (lo MC MS : Nat) (G : gT) (B : Nat × Nat) (hm : Nat) (A : Nat → Nat) (S : St) (th : Nat) (qm qo qk : Option Rat) (hV : MW cA hm A S th qm qo qk G) (hW : WF S) (x : Int) (hx1 : -9223372036854775808 ≤ x) (hx2 : x < 9223372036854775808) (y : Int) (hy1 : -9223372036854775808 ≤ y) (hy2 : y < 9223372036854775808) (un : Int) (hun1 : -2147483648 ≤ un) (hun2 : un < 2147483648) (hB1 : B.1 ≤ MC) (hB2 : B.2 ≤ MS) : gMet l y_Mo_value w_Mo_value 4 109 D clS (gtys cA) lo MC MS [.ref hm, .long (lI x), .long (lI y), .int (iI un)] G B (gQi D clS lo (fun r9 u => u.2 = B ∧ ((sp_value S x y (iI un)).1 = 0 → r9 = iI (sp_value S x y (iI un)).2.1) ∧ MW cA hm A (sp_value S x y (iI un)).2.2 (sp_value S x y (iI un)).1 none none none u.1 ∧ gfr mT G u.1)) := by
  refine g_meti (cc := prog_11_method_28_code) (nL := 6) (L := [(0, .ref hm), (1, .long (lI x)), (3, .long (lI y)), (5, .int (iI un))]) (by decide +kernel) rfl (Nat.le_of_ble_eq_true rfl) rfl ?_
  intro p e R s m args below meth c Q hF hRc hRs hRf hRl hret
  obtain ⟨hx, hb, hr, hml, hts0, hown, hlocks, hin, hK, hlo, hZ⟩ := hF
  have hts : ∀ w ∈ tbg, w.before args s = true := fun w h => hts0 w (List.mem_cons_of_mem _ h)
  have hn := hW.n
  have hrn := hW.rn
  have hwn := hW.wn
  refine gs (pc' := 1) (fun _ _ _ _ _ hl => lv_aload_n hx hb d_Mo_value_0 rfl (lv_at hl 0 rfl)) ?_
  refine gs (pc' := 2) (fun _ _ _ _ _ hl => lv_lload_n hx hb d_Mo_value_1 rfl (lv_at hl 2 rfl)) ?_
  refine gs (pc' := 3) (fun _ _ _ _ _ hl => lv_lconst (v := lN 0) hx hb d_Mo_value_2 (by decide)) ?_
  refine gs (pc' := 4) (fun _ _ _ _ _ hl => W.lcmp hx hb d_Mo_value_3) ?_
  refine gsb (pc1 := 11) (pc2 := 7) (fun _ _ _ _ _ => lv_if_ne (tgt := 11) hx hb d_Mo_value_4 (by decide)) (fun c_1 => ?_) (fun c_1 => ?_)
  · skip
    have nc_1 : y ≠ ((0 : Nat) : Int) := (lcI_ne (a := y) (b := ((0 : Nat) : Int)) (by omega) (by omega) (by omega) (by omega)).1 (by rw [cmp_IN] at c_1; exact c_1)
    have hy0 : y ≠ 0 := by omega
    refine gs (pc' := 13) (fun _ _ _ _ _ hl => lv_iload hx hb d_Mo_value_11 (lv_at hl 3 rfl)) ?_
    refine g_outi hlo (g_runS (As := [.int (iI un)]) (rest := [.ref hm]) ⟨hx, hb, hml, hown, hts⟩ hK hZ hRc hRs (c_Mo_isUnit l D cA lo MC MS G B un (by omega) (by omega) hB1 hB2) (fun _ _ => va_cwS 1 hts (tb_good (tb_cons wm829 (tb_cons wm830 (tb_cons wm12 k_Mo_isUnit)))) rfl rfl rfl (by decide +kernel) ⟨by rw [hRf]; exact Nat.le_of_ble_eq_true rfl, by rw [hRl]; exact Nat.le_of_ble_eq_true rfl⟩) hB1 hB2 rfl (Nat.le_of_ble_eq_true rfl) d_Mo_value_13) (fun r_5 G_2 B_3 p_4 => ?_)
    obtain ⟨u_6, e_7⟩ := p_4
    cases u_6
    subst e_7
    have bd_8 := b01_le (decide (uok un))
    refine gsb (pc1 := 23) (pc2 := 19) (fun _ _ _ _ _ => lv_if_ne (tgt := 23) hx hb d_Mo_value_16 (by decide)) (fun c_9 => ?_) (fun c_9 => ?_)
    · skip
      have nc_9 : (b01 (decide (uok un))) ≠ 0 := (n0_ne (a := (b01 (decide (uok un)))) (by omega)).1 c_9
      have huk : uok un := b01_1 nc_9
      have huk1 := huk.1
      have huk2 := huk.2
      refine gs (pc' := 24) (fun _ _ _ _ _ hl => lv_iconst (v := nI 0) hx hb d_Mo_value_23 (by decide)) ?_
      obtain ⟨sg_10, sh_11, kt_12, kb_13, ks_14, Rr_15, kf_16, v_17, v_18, v_19, v_20, v_21, v_22, v_23⟩ := id hV
      have f_24 : G hm = some (70, .inr (9, [.int (nI th), .int (nI S.n), .ref (A 2), .ref (A 3), .ref (A 4), .ref (A 5), .int sg_10, .int sh_11, .ref (A 8), .ref (A 9), .int (nI S.rn), .ref (A 11), .ref (A 12), .ref (A 13), .int (nI S.wn), .ref (A 15), .ref (A 16), .ref (A 17), .ref (A 18), .int kt_12, .int kb_13, .int ks_14])) := v_17
      refine g_put (ty := .int) hx hb hts hin_Mo ty_Mo ty_Mo_ok nm_Mo hown hK f_24 rfl 0 (by decide) (hts _ wm754) (fun _ h9 => h9) rfl (by decide +kernel) rfl rfl (Nat.le_of_ble_eq_true rfl) d_Mo_value_24 (fun G_25 f_26 o_27 => ?_)
      have f_28 : G_25 hm = some (70, .inr (9, [.int (nI 0), .int (nI S.n), .ref (A 2), .ref (A 3), .ref (A 4), .ref (A 5), .int sg_10, .int sh_11, .ref (A 8), .ref (A 9), .int (nI S.rn), .ref (A 11), .ref (A 12), .ref (A 13), .int (nI S.wn), .ref (A 15), .ref (A 16), .ref (A 17), .ref (A 18), .int kt_12, .int kb_13, .int ks_14])) := f_26
      have f_29 : G_25 (A 18) = some (83, .inl (cA 0, 8600, .inl kf_16)) := (o_27 _ (gne v_19 f_24 (fun e => by cases e))).trans v_19
      have gf_30 : gfr mT G G_25 := gfr_put gfr_rf f_24 (show mT 70 by decide) o_27
      have gf_31 : gfr (fun x => x = 70) _ G_25 := gfr_put gfr_rf f_24 rfl o_27
      have mr_32 : MR cA A Rr_15 G_25 := MR_fr v_18 gf_31 (show ¬ (75 : Nat) = 70 by decide) (show ¬ (76 : Nat) = 70 by decide)
      have mb_33 : MB cA A S G_25 := MB_fr v_23 gf_31 (fun x h9 => by omega)
      refine gs (pc' := 28) (fun _ _ _ _ _ hl => lv_aload_n hx hb d_Mo_value_27 rfl (lv_at hl 0 rfl)) ?_
      refine g_get hx hb hts hin_Mo hown hK f_28 rfl 0 (by decide) (hts _ wm754) (fun _ h9 => h9) rfl d_Mo_value_28 ?_
      refine gsb (pc1 := 36) (pc2 := 34) (fun _ _ _ _ _ => lv_if_le (tgt := 36) hx hb d_Mo_value_31 (by decide)) (fun c_34 => ?_) (fun c_34 => ?_)
      · skip
        have nc_34 : 0 ≤ 0 := (n0_le (a := 0) (by omega)).1 c_34
        refine gs (pc' := 37) (fun _ _ _ _ _ hl => lv_aload_n hx hb d_Mo_value_36 rfl (lv_at hl 0 rfl)) ?_
        refine g_get hx hb hts hin_Mo hown hK f_28 rfl 1 (by decide) (hts _ wm755) (fun _ h9 => h9) rfl d_Mo_value_37 ?_
        refine gs (pc' := 43) (fun _ _ _ _ _ hl => lv_sipush (v := nI 200) hx hb d_Mo_value_40 (by decide)) ?_
        refine gsb (pc1 := 49) (pc2 := 46) (fun _ _ _ _ _ => lv_icmp_ne (tgt := 49) hx hb d_Mo_value_43 (by decide)) (fun c_35 => ?_) (fun c_35 => ?_)
        · skip
          have nc_35 : S.n ≠ 200 := (nn_ne (a := S.n) (b := 200) (by omega) (by omega)).1 c_35
          refine gs (pc' := 50) (fun _ _ _ _ _ hl => lv_aload_n hx hb d_Mo_value_49 rfl (lv_at hl 0 rfl)) ?_
          refine gs (pc' := 51) (fun _ _ _ _ _ hl => lv_iconst (v := nI 0) hx hb d_Mo_value_50 (by decide)) ?_
          refine gs (pc' := 52) (fun _ _ _ _ _ hl => lv_lload_n hx hb d_Mo_value_51 rfl (lv_at hl 1 rfl)) ?_
          refine g_outv hlo (g_runV (As := [.int (nI 0), .long (lI x)]) (rest := []) ⟨hx, hb, hml, hown, hts⟩ hK hZ hRc hRs (c_Mo_setSize l D cA lo MC MS G_25 B hm A (mi (nI 0) (nI S.n) sg_10 sh_11 (nI S.rn) (nI S.wn) kt_12 kb_13 ks_14) f_28 Rr_15 mr_32 0 (by decide) x (by omega) (by omega) hB1 hB2) (fun _ _ => cwV 2 hts (tb_good (tb_cons wm832 (tb_cons wm834 (tb_cons ws20 (tb_cons wm12 k_Mo_setSize))))) rfl rfl rfl (by decide +kernel) ⟨by rw [hRf]; exact Nat.le_of_ble_eq_true rfl, by rw [hRl]; exact Nat.le_of_ble_eq_true rfl⟩) f_28 rfl hB1 hB2 rfl (Nat.le_of_ble_eq_true rfl) d_Mo_value_52) (fun G_36 B_37 p_38 => ?_)
          obtain ⟨e_39, mr_40, f_41, gf_42⟩ := p_38
          have e_39b : B = B_37 := e_39.symm
          subst e_39b
          have gf_43 : gfr mT G G_36 := mT_75 gf_30 gf_42
          have mb_44 : MB cA A S G_36 := MB_75 mb_33 gf_42
          have f_45 : G_36 hm = some (70, .inr (9, [.int (nI 0), .int (nI S.n), .ref (A 2), .ref (A 3), .ref (A 4), .ref (A 5), .int sg_10, .int sh_11, .ref (A 8), .ref (A 9), .int (nI S.rn), .ref (A 11), .ref (A 12), .ref (A 13), .int (nI S.wn), .ref (A 15), .ref (A 16), .ref (A 17), .ref (A 18), .int kt_12, .int kb_13, .int ks_14])) := f_41
          have f_46 : G_36 (A 18) = some (83, .inl (cA 0, 8600, .inl kf_16)) := gf_42 _ _ f_29 (show ¬ ((83 : Nat) = 75 ∨ (83 : Nat) = 76) by decide)
          obtain ⟨Rr_47, hR_48⟩ : ∃ y9, y9 = (fup Rr_15 0 x.natAbs) := ⟨_, rfl⟩
          rw [← hR_48] at mr_40
          have e_49 : Rr_47 0 = x.natAbs := (congrFun hR_48 0).trans (rfl)
          have bd_50 : x.natAbs < 1000000000 ^ (3) := Nat.lt_of_le_of_lt (show x.natAbs ≤ 9223372036854775808 by omega) (by decide)
          have fm_51 : ∀ r9, qo = some r9 → fc sh_11 (Rr_47 2) (Rr_47 3) r9 := by rw [show Rr_47 2 = Rr_15 2 from congrFun hR_48 2, show Rr_47 3 = Rr_15 3 from congrFun hR_48 3]; exact v_21
          refine gs (pc' := 56) (fun _ _ _ _ _ hl => lv_aload_n hx hb d_Mo_value_55 rfl (lv_at hl 0 rfl)) ?_
          refine gs (pc' := 57) (fun _ _ _ _ _ hl => lv_iconst (v := nI 1) hx hb d_Mo_value_56 (by decide)) ?_
          refine gs (pc' := 58) (fun _ _ _ _ _ hl => lv_lload_n hx hb d_Mo_value_57 rfl (lv_at hl 2 rfl)) ?_
          refine g_outv hlo (g_runV (As := [.int (nI 1), .long (lI y)]) (rest := []) ⟨hx, hb, hml, hown, hts⟩ hK hZ hRc hRs (c_Mo_setSize l D cA lo MC MS G_36 B hm A (mi (nI 0) (nI S.n) sg_10 sh_11 (nI S.rn) (nI S.wn) kt_12 kb_13 ks_14) f_45 Rr_47 mr_40 1 (by decide) y (by omega) (by omega) hB1 hB2) (fun _ _ => cwV 2 hts (tb_good (tb_cons wm832 (tb_cons wm834 (tb_cons ws20 (tb_cons wm12 k_Mo_setSize))))) rfl rfl rfl (by decide +kernel) ⟨by rw [hRf]; exact Nat.le_of_ble_eq_true rfl, by rw [hRl]; exact Nat.le_of_ble_eq_true rfl⟩) f_45 rfl hB1 hB2 rfl (Nat.le_of_ble_eq_true rfl) d_Mo_value_58) (fun G_52 B_53 p_54 => ?_)
          obtain ⟨e_55, mr_56, f_57, gf_58⟩ := p_54
          have e_55b : B = B_53 := e_55.symm
          subst e_55b
          have gf_59 : gfr mT G G_52 := mT_75 gf_43 gf_58
          have mb_60 : MB cA A S G_52 := MB_75 mb_44 gf_58
          have f_61 : G_52 hm = some (70, .inr (9, [.int (nI 0), .int (nI S.n), .ref (A 2), .ref (A 3), .ref (A 4), .ref (A 5), .int sg_10, .int sh_11, .ref (A 8), .ref (A 9), .int (nI S.rn), .ref (A 11), .ref (A 12), .ref (A 13), .int (nI S.wn), .ref (A 15), .ref (A 16), .ref (A 17), .ref (A 18), .int kt_12, .int kb_13, .int ks_14])) := f_57
          have f_62 : G_52 (A 18) = some (83, .inl (cA 0, 8600, .inl kf_16)) := gf_58 _ _ f_46 (show ¬ ((83 : Nat) = 75 ∨ (83 : Nat) = 76) by decide)
          obtain ⟨Rr_63, hR_64⟩ : ∃ y9, y9 = (fup Rr_47 1 y.natAbs) := ⟨_, rfl⟩
          rw [← hR_64] at mr_56
          have e_65 : Rr_63 0 = x.natAbs := (congrFun hR_64 0).trans e_49
          have e_66 : Rr_63 1 = y.natAbs := (congrFun hR_64 1).trans (rfl)
          have bd_67 : y.natAbs < 1000000000 ^ (3) := Nat.lt_of_le_of_lt (show y.natAbs ≤ 9223372036854775808 by omega) (by decide)
          have fm_68 : ∀ r9, qo = some r9 → fc sh_11 (Rr_63 2) (Rr_63 3) r9 := by rw [show Rr_63 2 = Rr_47 2 from congrFun hR_64 2, show Rr_63 3 = Rr_47 3 from congrFun hR_64 3]; exact fm_51
          refine gs (pc' := 62) (fun _ _ _ _ _ hl => lv_aload_n hx hb d_Mo_value_61 rfl (lv_at hl 0 rfl)) ?_
          refine gs (pc' := 63) (fun _ _ _ _ _ hl => lv_lload_n hx hb d_Mo_value_62 rfl (lv_at hl 1 rfl)) ?_
          refine gs (pc' := 64) (fun _ _ _ _ _ hl => lv_lconst (v := lN 0) hx hb d_Mo_value_63 (by decide)) ?_
          refine gs (pc' := 65) (fun _ _ _ _ _ hl => W.lcmp hx hb d_Mo_value_64) ?_
          refine gsb (pc1 := 72) (pc2 := 68) (fun _ _ _ _ _ => lv_if_ne (tgt := 72) hx hb d_Mo_value_65 (by decide)) (fun c_69 => ?_) (fun c_69 => ?_)
          · skip
            have nc_69 : x ≠ ((0 : Nat) : Int) := (lcI_ne (a := x) (b := ((0 : Nat) : Int)) (by omega) (by omega) (by omega) (by omega)).1 (by rw [cmp_IN] at c_69; exact c_69)
            have hx0 : x ≠ 0 := by omega
            have hsgn := sg_01 hx0 hy0
            refine gs (pc' := 73) (fun _ _ _ _ _ hl => lv_lload_n hx hb d_Mo_value_72 rfl (lv_at hl 1 rfl)) ?_
            refine gs (pc' := 74) (fun _ _ _ _ _ hl => lv_lconst (v := lN 0) hx hb d_Mo_value_73 (by decide)) ?_
            refine gs (pc' := 75) (fun _ _ _ _ _ hl => W.lcmp hx hb d_Mo_value_74) ?_
            refine gsb (pc1 := 82) (pc2 := 78) (fun _ _ _ _ _ => lv_if_ge (tgt := 82) hx hb d_Mo_value_75 (by decide)) (fun c_70 => ?_) (fun c_70 => ?_)
            · skip
              have nc_70 : x ≥ ((0 : Nat) : Int) := (lcI_ge (a := x) (b := ((0 : Nat) : Int)) (by omega) (by omega) (by omega) (by omega)).1 (by rw [cmp_IN] at c_70; exact c_70)
              refine gs (pc' := 83) (fun _ _ _ _ _ hl => lv_iconst (v := nI 0) hx hb d_Mo_value_82 (by decide)) ?_
              refine gs (pc' := 84) (fun _ _ _ _ _ hl => lv_lload_n hx hb d_Mo_value_83 rfl (lv_at hl 2 rfl)) ?_
              refine gs (pc' := 85) (fun _ _ _ _ _ hl => lv_lconst (v := lN 0) hx hb d_Mo_value_84 (by decide)) ?_
              refine gs (pc' := 86) (fun _ _ _ _ _ hl => W.lcmp hx hb d_Mo_value_85) ?_
              refine gsb (pc1 := 93) (pc2 := 89) (fun _ _ _ _ _ => lv_if_ge (tgt := 93) hx hb d_Mo_value_86 (by decide)) (fun c_71 => ?_) (fun c_71 => ?_)
              · skip
                have nc_71 : y ≥ ((0 : Nat) : Int) := (lcI_ge (a := y) (b := ((0 : Nat) : Int)) (by omega) (by omega) (by omega) (by omega)).1 (by rw [cmp_IN] at c_71; exact c_71)
                refine gs (pc' := 94) (fun _ _ _ _ _ hl => lv_iconst (v := nI 0) hx hb d_Mo_value_93 (by decide)) ?_
                refine gsb (pc1 := 101) (pc2 := 97) (fun _ _ _ _ _ => lv_icmp_ne (tgt := 101) hx hb d_Mo_value_94 (by decide)) (fun c_72 => ?_) (fun c_72 => ?_)
                · skip
                  have nc_72 : 0 ≠ 0 := (nn_ne (a := 0) (b := 0) (by omega) (by omega)).1 c_72
                  exact absurd nc_72 (by decide)
                · skip
                  have nc_72 : 0 = 0 := (nn_ne (a := 0) (b := 0) (by omega) (by omega)).2 c_72
                  refine gs (pc' := 98) (fun _ _ _ _ _ hl => lv_iconst (v := nI 1) hx hb d_Mo_value_97 (by decide)) ?_
                  refine gs (pc' := 102) (fun _ _ _ _ _ hl => lv_goto (tgt := 102) hx hb d_Mo_value_98 (by decide)) ?_
                  refine g_put (ty := .int) hx hb hts hin_Mo ty_Mo ty_Mo_ok nm_Mo hown hK f_61 rfl 6 (by decide) (hts _ wm760) (fun _ h9 => h9) rfl (by decide +kernel) rfl rfl (Nat.le_of_ble_eq_true rfl) d_Mo_value_102 (fun G_73 f_74 o_75 => ?_)
                  have f_76 : G_73 hm = some (70, .inr (9, [.int (nI 0), .int (nI S.n), .ref (A 2), .ref (A 3), .ref (A 4), .ref (A 5), .int (nI 1), .int sh_11, .ref (A 8), .ref (A 9), .int (nI S.rn), .ref (A 11), .ref (A 12), .ref (A 13), .int (nI S.wn), .ref (A 15), .ref (A 16), .ref (A 17), .ref (A 18), .int kt_12, .int kb_13, .int ks_14])) := f_74
                  have f_77 : G_73 (A 18) = some (83, .inl (cA 0, 8600, .inl kf_16)) := (o_75 _ (gne f_62 f_61 (fun e => by cases e))).trans f_62
                  have gf_78 : gfr mT G G_73 := gfr_put gf_59 f_61 (show mT 70 by decide) o_75
                  have gf_79 : gfr (fun x => x = 70) _ G_73 := gfr_put gfr_rf f_61 rfl o_75
                  have mr_80 : MR cA A Rr_63 G_73 := MR_fr mr_56 gf_79 (show ¬ (75 : Nat) = 70 by decide) (show ¬ (76 : Nat) = 70 by decide)
                  have mb_81 : MB cA A S G_73 := MB_fr mb_60 gf_79 (fun x h9 => by omega)
                  refine gs (pc' := 106) (fun _ _ _ _ _ hl => lv_aload_n hx hb d_Mo_value_105 rfl (lv_at hl 0 rfl)) ?_
                  have fq_82 : fq (nI 1) (x.natAbs) (y.natAbs) (mkRat (x * y.sign) y.natAbs) := vl_fq hy0 (x := 1) (by decide) (Or.inr ⟨hx0, by first | exact (hsgn.1 (by omega) (by omega)).symm | exact (hsgn.2.2.2 (by omega) (by omega)).symm⟩)
                  refine g_outv hlo (g_runV (As := []) (rest := []) ⟨hx, hb, hml, hown, hts⟩ hK hZ hRc hRs (c_Mo_reduce l D cA lo MC MS G_73 B hm A (mi (nI 0) (nI S.n) (nI 1) sh_11 (nI S.rn) (nI S.wn) kt_12 kb_13 ks_14) f_76 Rr_63 mr_80 (by rw [e_66]; exact fq_82.1) (3) (by rw [e_65]; exact pw_up bd_50 (by omega)) (by rw [e_66]; exact pw_up bd_67 (by omega)) (by omega) hB1 hB2) (fun _ _ => cwV 0 hts (tb_good (tb_cons wm843 (tb_cons wm845 (tb_cons ws22 (tb_cons wm12 k_Mo_reduce))))) rfl rfl rfl (by decide +kernel) ⟨by rw [hRf]; exact Nat.le_of_ble_eq_true rfl, by rw [hRl]; exact Nat.le_of_ble_eq_true rfl⟩) f_76 rfl hB1 hB2 rfl (Nat.le_of_ble_eq_true rfl) d_Mo_value_106) (fun G_83 B_84 p_85 => ?_)
                  obtain ⟨e_86, ⟨Rr_87, mr_88, q_89, q_90, q_91, q_92⟩, f_93, gf_94⟩ := p_85
                  have e_86b : B = B_84 := e_86.symm
                  subst e_86b
                  obtain ⟨sg_95, e_96⟩ : ∃ y9 : Int32, y9 = if Rr_63 0 = 0 then nI 0 else (nI 1) := ⟨_, rfl⟩
                  have gf_97 : gfr mT G G_83 := mT_705 gf_78 gf_94
                  have mb_98 : MB cA A S G_83 := MB_705 mb_81 gf_94
                  have f_99 : G_83 hm = some (70, .inr (9, [.int (nI 0), .int (nI S.n), .ref (A 2), .ref (A 3), .ref (A 4), .ref (A 5), .int sg_95, .int sh_11, .ref (A 8), .ref (A 9), .int (nI S.rn), .ref (A 11), .ref (A 12), .ref (A 13), .int (nI S.wn), .ref (A 15), .ref (A 16), .ref (A 17), .ref (A 18), .int kt_12, .int kb_13, .int ks_14])) := f_93.trans (by rw [mi_if, ← e_96]; rfl)
                  have f_100 : G_83 (A 18) = some (83, .inl (cA 0, 8600, .inl kf_16)) := gf_94 _ _ f_77 (show ¬ ((83 : Nat) = 70 ∨ (83 : Nat) = 75 ∨ (83 : Nat) = 76) by decide)
                  have fc_101 : fc sg_95 (Rr_87 0) (Rr_87 1) (mkRat (x * y.sign) y.natAbs) := by rw [q_89, q_90, e_96, e_65, e_66]; exact fq_fc fq_82
                  have hrb9 := rb_ratio hx1 hx2 hy1 hy2 hy0
                  refine gs (pc' := 110) (fun _ _ _ _ _ hl => lv_aload_n hx hb d_Mo_value_109 rfl (lv_at hl 0 rfl)) ?_
                  refine gs (pc' := 112) (fun _ _ _ _ _ hl => lv_iload hx hb d_Mo_value_110 (lv_at hl 3 rfl)) ?_
                  have hV_102 : MW cA hm A S 0 (some (mkRat (x * y.sign) y.natAbs)) none qk G_83 := ⟨sg_95, sh_11, kt_12, kb_13, ks_14, Rr_87, _, f_99, mr_88, f_100, (sm_ fc_101), sn_, v_22, mb_98⟩
                  refine g_outi hlo (g_runV (As := [.int (iI un)]) (rest := []) ⟨hx, hb, hml, hown, hts⟩ hK hZ hRc hRs (c_Mo_keep l D cA lo MC MS G_83 B hm A S 0 (some (mkRat (x * y.sign) y.natAbs)) none qk hV_102 hW (mkRat (x * y.sign) y.natAbs) rfl (3) hrb9 (by omega) un huk (by omega) hB1 hB2) (fun _ _ => cwV 1 hts (tb_good (tb_cons wm881 (tb_cons wm883 (tb_cons ws31 (tb_cons wm12 k_Mo_keep))))) rfl rfl rfl (by decide +kernel) ⟨by rw [hRf]; exact Nat.le_of_ble_eq_true rfl, by rw [hRl]; exact Nat.le_of_ble_eq_true rfl⟩) f_99 rfl hB1 hB2 rfl (Nat.le_of_ble_eq_true rfl) d_Mo_value_112) (fun r_106 G_103 B_104 p_105 => ?_)
                  obtain ⟨e_107, e_110, hV_108, gf_109⟩ := p_105
                  subst e_110
                  have e_107b : B = B_104 := e_107.symm
                  subst e_107b
                  have gf_111 : gfr mT G G_103 := mT_mT gf_97 gf_109
                  rw [st_value hun1 hun2, if_neg hy0, if_neg (Decidable.not_not.mpr huk), if_neg (by omega)] at hret
                  exact hret 115 _ _ _ _ d_Mo_value_115 hB1 hB2 ⟨rfl, fun _ => rfl, MW_k hV_108, gf_111⟩
              · skip
                have nc_71 : y < ((0 : Nat) : Int) := (lcI_ge (a := y) (b := ((0 : Nat) : Int)) (by omega) (by omega) (by omega) (by omega)).2 (by rw [cmp_IN] at c_71; exact c_71)
                refine gs (pc' := 90) (fun _ _ _ _ _ hl => lv_iconst (v := nI 1) hx hb d_Mo_value_89 (by decide)) ?_
                refine gs (pc' := 94) (fun _ _ _ _ _ hl => lv_goto (tgt := 94) hx hb d_Mo_value_90 (by decide)) ?_
                refine gsb (pc1 := 101) (pc2 := 97) (fun _ _ _ _ _ => lv_icmp_ne (tgt := 101) hx hb d_Mo_value_94 (by decide)) (fun c_112 => ?_) (fun c_112 => ?_)
                · skip
                  have nc_112 : 0 ≠ 1 := (nn_ne (a := 0) (b := 1) (by omega) (by omega)).1 c_112
                  refine gs (pc' := 102) (fun _ _ _ _ _ hl => lv_iconst (v := (-1)) hx hb d_Mo_value_101 (by decide)) ?_
                  refine g_eqi (show (-1) = iI (-1) from by decide) ?_
                  refine g_put (ty := .int) hx hb hts hin_Mo ty_Mo ty_Mo_ok nm_Mo hown hK f_61 rfl 6 (by decide) (hts _ wm760) (fun _ h9 => h9) rfl (by decide +kernel) rfl rfl (Nat.le_of_ble_eq_true rfl) d_Mo_value_102 (fun G_113 f_114 o_115 => ?_)
                  have f_116 : G_113 hm = some (70, .inr (9, [.int (nI 0), .int (nI S.n), .ref (A 2), .ref (A 3), .ref (A 4), .ref (A 5), .int (iI (-1)), .int sh_11, .ref (A 8), .ref (A 9), .int (nI S.rn), .ref (A 11), .ref (A 12), .ref (A 13), .int (nI S.wn), .ref (A 15), .ref (A 16), .ref (A 17), .ref (A 18), .int kt_12, .int kb_13, .int ks_14])) := f_114
                  have f_117 : G_113 (A 18) = some (83, .inl (cA 0, 8600, .inl kf_16)) := (o_115 _ (gne f_62 f_61 (fun e => by cases e))).trans f_62
                  have gf_118 : gfr mT G G_113 := gfr_put gf_59 f_61 (show mT 70 by decide) o_115
                  have gf_119 : gfr (fun x => x = 70) _ G_113 := gfr_put gfr_rf f_61 rfl o_115
                  have mr_120 : MR cA A Rr_63 G_113 := MR_fr mr_56 gf_119 (show ¬ (75 : Nat) = 70 by decide) (show ¬ (76 : Nat) = 70 by decide)
                  have mb_121 : MB cA A S G_113 := MB_fr mb_60 gf_119 (fun x h9 => by omega)
                  refine gs (pc' := 106) (fun _ _ _ _ _ hl => lv_aload_n hx hb d_Mo_value_105 rfl (lv_at hl 0 rfl)) ?_
                  have fq_122 : fq (iI (-1)) (x.natAbs) (y.natAbs) (mkRat (x * y.sign) y.natAbs) := vl_fq hy0 (x := -1) (by decide) (Or.inr ⟨hx0, by first | exact (hsgn.2.1 (by omega) (by omega)).symm | exact (hsgn.2.2.1 (by omega) (by omega)).symm⟩)
                  refine g_outv hlo (g_runV (As := []) (rest := []) ⟨hx, hb, hml, hown, hts⟩ hK hZ hRc hRs (c_Mo_reduce l D cA lo MC MS G_113 B hm A (mi (nI 0) (nI S.n) (iI (-1)) sh_11 (nI S.rn) (nI S.wn) kt_12 kb_13 ks_14) f_116 Rr_63 mr_120 (by rw [e_66]; exact fq_122.1) (3) (by rw [e_65]; exact pw_up bd_50 (by omega)) (by rw [e_66]; exact pw_up bd_67 (by omega)) (by omega) hB1 hB2) (fun _ _ => cwV 0 hts (tb_good (tb_cons wm843 (tb_cons wm845 (tb_cons ws22 (tb_cons wm12 k_Mo_reduce))))) rfl rfl rfl (by decide +kernel) ⟨by rw [hRf]; exact Nat.le_of_ble_eq_true rfl, by rw [hRl]; exact Nat.le_of_ble_eq_true rfl⟩) f_116 rfl hB1 hB2 rfl (Nat.le_of_ble_eq_true rfl) d_Mo_value_106) (fun G_123 B_124 p_125 => ?_)
                  obtain ⟨e_126, ⟨Rr_127, mr_128, q_129, q_130, q_131, q_132⟩, f_133, gf_134⟩ := p_125
                  have e_126b : B = B_124 := e_126.symm
                  subst e_126b
                  obtain ⟨sg_135, e_136⟩ : ∃ y9 : Int32, y9 = if Rr_63 0 = 0 then nI 0 else (iI (-1)) := ⟨_, rfl⟩
                  have gf_137 : gfr mT G G_123 := mT_705 gf_118 gf_134
                  have mb_138 : MB cA A S G_123 := MB_705 mb_121 gf_134
                  have f_139 : G_123 hm = some (70, .inr (9, [.int (nI 0), .int (nI S.n), .ref (A 2), .ref (A 3), .ref (A 4), .ref (A 5), .int sg_135, .int sh_11, .ref (A 8), .ref (A 9), .int (nI S.rn), .ref (A 11), .ref (A 12), .ref (A 13), .int (nI S.wn), .ref (A 15), .ref (A 16), .ref (A 17), .ref (A 18), .int kt_12, .int kb_13, .int ks_14])) := f_133.trans (by rw [mi_if, ← e_136]; rfl)
                  have f_140 : G_123 (A 18) = some (83, .inl (cA 0, 8600, .inl kf_16)) := gf_134 _ _ f_117 (show ¬ ((83 : Nat) = 70 ∨ (83 : Nat) = 75 ∨ (83 : Nat) = 76) by decide)
                  have fc_141 : fc sg_135 (Rr_127 0) (Rr_127 1) (mkRat (x * y.sign) y.natAbs) := by rw [q_129, q_130, e_136, e_65, e_66]; exact fq_fc fq_122
                  have hrb9 := rb_ratio hx1 hx2 hy1 hy2 hy0
                  refine gs (pc' := 110) (fun _ _ _ _ _ hl => lv_aload_n hx hb d_Mo_value_109 rfl (lv_at hl 0 rfl)) ?_
                  refine gs (pc' := 112) (fun _ _ _ _ _ hl => lv_iload hx hb d_Mo_value_110 (lv_at hl 3 rfl)) ?_
                  have hV_142 : MW cA hm A S 0 (some (mkRat (x * y.sign) y.natAbs)) none qk G_123 := ⟨sg_135, sh_11, kt_12, kb_13, ks_14, Rr_127, _, f_139, mr_128, f_140, (sm_ fc_141), sn_, v_22, mb_138⟩
                  refine g_outi hlo (g_runV (As := [.int (iI un)]) (rest := []) ⟨hx, hb, hml, hown, hts⟩ hK hZ hRc hRs (c_Mo_keep l D cA lo MC MS G_123 B hm A S 0 (some (mkRat (x * y.sign) y.natAbs)) none qk hV_142 hW (mkRat (x * y.sign) y.natAbs) rfl (3) hrb9 (by omega) un huk (by omega) hB1 hB2) (fun _ _ => cwV 1 hts (tb_good (tb_cons wm881 (tb_cons wm883 (tb_cons ws31 (tb_cons wm12 k_Mo_keep))))) rfl rfl rfl (by decide +kernel) ⟨by rw [hRf]; exact Nat.le_of_ble_eq_true rfl, by rw [hRl]; exact Nat.le_of_ble_eq_true rfl⟩) f_139 rfl hB1 hB2 rfl (Nat.le_of_ble_eq_true rfl) d_Mo_value_112) (fun r_146 G_143 B_144 p_145 => ?_)
                  obtain ⟨e_147, e_150, hV_148, gf_149⟩ := p_145
                  subst e_150
                  have e_147b : B = B_144 := e_147.symm
                  subst e_147b
                  have gf_151 : gfr mT G G_143 := mT_mT gf_137 gf_149
                  rw [st_value hun1 hun2, if_neg hy0, if_neg (Decidable.not_not.mpr huk), if_neg (by omega)] at hret
                  exact hret 115 _ _ _ _ d_Mo_value_115 hB1 hB2 ⟨rfl, fun _ => rfl, MW_k hV_148, gf_151⟩
                · skip
                  have nc_112 : 0 = 1 := (nn_ne (a := 0) (b := 1) (by omega) (by omega)).2 c_112
                  exact absurd nc_112 (by decide)
            · skip
              have nc_70 : x < ((0 : Nat) : Int) := (lcI_ge (a := x) (b := ((0 : Nat) : Int)) (by omega) (by omega) (by omega) (by omega)).2 (by rw [cmp_IN] at c_70; exact c_70)
              refine gs (pc' := 79) (fun _ _ _ _ _ hl => lv_iconst (v := nI 1) hx hb d_Mo_value_78 (by decide)) ?_
              refine gs (pc' := 83) (fun _ _ _ _ _ hl => lv_goto (tgt := 83) hx hb d_Mo_value_79 (by decide)) ?_
              refine gs (pc' := 84) (fun _ _ _ _ _ hl => lv_lload_n hx hb d_Mo_value_83 rfl (lv_at hl 2 rfl)) ?_
              refine gs (pc' := 85) (fun _ _ _ _ _ hl => lv_lconst (v := lN 0) hx hb d_Mo_value_84 (by decide)) ?_
              refine gs (pc' := 86) (fun _ _ _ _ _ hl => W.lcmp hx hb d_Mo_value_85) ?_
              refine gsb (pc1 := 93) (pc2 := 89) (fun _ _ _ _ _ => lv_if_ge (tgt := 93) hx hb d_Mo_value_86 (by decide)) (fun c_152 => ?_) (fun c_152 => ?_)
              · skip
                have nc_152 : y ≥ ((0 : Nat) : Int) := (lcI_ge (a := y) (b := ((0 : Nat) : Int)) (by omega) (by omega) (by omega) (by omega)).1 (by rw [cmp_IN] at c_152; exact c_152)
                refine gs (pc' := 94) (fun _ _ _ _ _ hl => lv_iconst (v := nI 0) hx hb d_Mo_value_93 (by decide)) ?_
                refine gsb (pc1 := 101) (pc2 := 97) (fun _ _ _ _ _ => lv_icmp_ne (tgt := 101) hx hb d_Mo_value_94 (by decide)) (fun c_153 => ?_) (fun c_153 => ?_)
                · skip
                  have nc_153 : 1 ≠ 0 := (nn_ne (a := 1) (b := 0) (by omega) (by omega)).1 c_153
                  refine gs (pc' := 102) (fun _ _ _ _ _ hl => lv_iconst (v := (-1)) hx hb d_Mo_value_101 (by decide)) ?_
                  refine g_eqi (show (-1) = iI (-1) from by decide) ?_
                  refine g_put (ty := .int) hx hb hts hin_Mo ty_Mo ty_Mo_ok nm_Mo hown hK f_61 rfl 6 (by decide) (hts _ wm760) (fun _ h9 => h9) rfl (by decide +kernel) rfl rfl (Nat.le_of_ble_eq_true rfl) d_Mo_value_102 (fun G_154 f_155 o_156 => ?_)
                  have f_157 : G_154 hm = some (70, .inr (9, [.int (nI 0), .int (nI S.n), .ref (A 2), .ref (A 3), .ref (A 4), .ref (A 5), .int (iI (-1)), .int sh_11, .ref (A 8), .ref (A 9), .int (nI S.rn), .ref (A 11), .ref (A 12), .ref (A 13), .int (nI S.wn), .ref (A 15), .ref (A 16), .ref (A 17), .ref (A 18), .int kt_12, .int kb_13, .int ks_14])) := f_155
                  have f_158 : G_154 (A 18) = some (83, .inl (cA 0, 8600, .inl kf_16)) := (o_156 _ (gne f_62 f_61 (fun e => by cases e))).trans f_62
                  have gf_159 : gfr mT G G_154 := gfr_put gf_59 f_61 (show mT 70 by decide) o_156
                  have gf_160 : gfr (fun x => x = 70) _ G_154 := gfr_put gfr_rf f_61 rfl o_156
                  have mr_161 : MR cA A Rr_63 G_154 := MR_fr mr_56 gf_160 (show ¬ (75 : Nat) = 70 by decide) (show ¬ (76 : Nat) = 70 by decide)
                  have mb_162 : MB cA A S G_154 := MB_fr mb_60 gf_160 (fun x h9 => by omega)
                  refine gs (pc' := 106) (fun _ _ _ _ _ hl => lv_aload_n hx hb d_Mo_value_105 rfl (lv_at hl 0 rfl)) ?_
                  have fq_163 : fq (iI (-1)) (x.natAbs) (y.natAbs) (mkRat (x * y.sign) y.natAbs) := vl_fq hy0 (x := -1) (by decide) (Or.inr ⟨hx0, by first | exact (hsgn.2.1 (by omega) (by omega)).symm | exact (hsgn.2.2.1 (by omega) (by omega)).symm⟩)
                  refine g_outv hlo (g_runV (As := []) (rest := []) ⟨hx, hb, hml, hown, hts⟩ hK hZ hRc hRs (c_Mo_reduce l D cA lo MC MS G_154 B hm A (mi (nI 0) (nI S.n) (iI (-1)) sh_11 (nI S.rn) (nI S.wn) kt_12 kb_13 ks_14) f_157 Rr_63 mr_161 (by rw [e_66]; exact fq_163.1) (3) (by rw [e_65]; exact pw_up bd_50 (by omega)) (by rw [e_66]; exact pw_up bd_67 (by omega)) (by omega) hB1 hB2) (fun _ _ => cwV 0 hts (tb_good (tb_cons wm843 (tb_cons wm845 (tb_cons ws22 (tb_cons wm12 k_Mo_reduce))))) rfl rfl rfl (by decide +kernel) ⟨by rw [hRf]; exact Nat.le_of_ble_eq_true rfl, by rw [hRl]; exact Nat.le_of_ble_eq_true rfl⟩) f_157 rfl hB1 hB2 rfl (Nat.le_of_ble_eq_true rfl) d_Mo_value_106) (fun G_164 B_165 p_166 => ?_)
                  obtain ⟨e_167, ⟨Rr_168, mr_169, q_170, q_171, q_172, q_173⟩, f_174, gf_175⟩ := p_166
                  have e_167b : B = B_165 := e_167.symm
                  subst e_167b
                  obtain ⟨sg_176, e_177⟩ : ∃ y9 : Int32, y9 = if Rr_63 0 = 0 then nI 0 else (iI (-1)) := ⟨_, rfl⟩
                  have gf_178 : gfr mT G G_164 := mT_705 gf_159 gf_175
                  have mb_179 : MB cA A S G_164 := MB_705 mb_162 gf_175
                  have f_180 : G_164 hm = some (70, .inr (9, [.int (nI 0), .int (nI S.n), .ref (A 2), .ref (A 3), .ref (A 4), .ref (A 5), .int sg_176, .int sh_11, .ref (A 8), .ref (A 9), .int (nI S.rn), .ref (A 11), .ref (A 12), .ref (A 13), .int (nI S.wn), .ref (A 15), .ref (A 16), .ref (A 17), .ref (A 18), .int kt_12, .int kb_13, .int ks_14])) := f_174.trans (by rw [mi_if, ← e_177]; rfl)
                  have f_181 : G_164 (A 18) = some (83, .inl (cA 0, 8600, .inl kf_16)) := gf_175 _ _ f_158 (show ¬ ((83 : Nat) = 70 ∨ (83 : Nat) = 75 ∨ (83 : Nat) = 76) by decide)
                  have fc_182 : fc sg_176 (Rr_168 0) (Rr_168 1) (mkRat (x * y.sign) y.natAbs) := by rw [q_170, q_171, e_177, e_65, e_66]; exact fq_fc fq_163
                  have hrb9 := rb_ratio hx1 hx2 hy1 hy2 hy0
                  refine gs (pc' := 110) (fun _ _ _ _ _ hl => lv_aload_n hx hb d_Mo_value_109 rfl (lv_at hl 0 rfl)) ?_
                  refine gs (pc' := 112) (fun _ _ _ _ _ hl => lv_iload hx hb d_Mo_value_110 (lv_at hl 3 rfl)) ?_
                  have hV_183 : MW cA hm A S 0 (some (mkRat (x * y.sign) y.natAbs)) none qk G_164 := ⟨sg_176, sh_11, kt_12, kb_13, ks_14, Rr_168, _, f_180, mr_169, f_181, (sm_ fc_182), sn_, v_22, mb_179⟩
                  refine g_outi hlo (g_runV (As := [.int (iI un)]) (rest := []) ⟨hx, hb, hml, hown, hts⟩ hK hZ hRc hRs (c_Mo_keep l D cA lo MC MS G_164 B hm A S 0 (some (mkRat (x * y.sign) y.natAbs)) none qk hV_183 hW (mkRat (x * y.sign) y.natAbs) rfl (3) hrb9 (by omega) un huk (by omega) hB1 hB2) (fun _ _ => cwV 1 hts (tb_good (tb_cons wm881 (tb_cons wm883 (tb_cons ws31 (tb_cons wm12 k_Mo_keep))))) rfl rfl rfl (by decide +kernel) ⟨by rw [hRf]; exact Nat.le_of_ble_eq_true rfl, by rw [hRl]; exact Nat.le_of_ble_eq_true rfl⟩) f_180 rfl hB1 hB2 rfl (Nat.le_of_ble_eq_true rfl) d_Mo_value_112) (fun r_187 G_184 B_185 p_186 => ?_)
                  obtain ⟨e_188, e_191, hV_189, gf_190⟩ := p_186
                  subst e_191
                  have e_188b : B = B_185 := e_188.symm
                  subst e_188b
                  have gf_192 : gfr mT G G_184 := mT_mT gf_178 gf_190
                  rw [st_value hun1 hun2, if_neg hy0, if_neg (Decidable.not_not.mpr huk), if_neg (by omega)] at hret
                  exact hret 115 _ _ _ _ d_Mo_value_115 hB1 hB2 ⟨rfl, fun _ => rfl, MW_k hV_189, gf_192⟩
                · skip
                  have nc_153 : 1 = 0 := (nn_ne (a := 1) (b := 0) (by omega) (by omega)).2 c_153
                  exact absurd nc_153 (by decide)
              · skip
                have nc_152 : y < ((0 : Nat) : Int) := (lcI_ge (a := y) (b := ((0 : Nat) : Int)) (by omega) (by omega) (by omega) (by omega)).2 (by rw [cmp_IN] at c_152; exact c_152)
                refine gs (pc' := 90) (fun _ _ _ _ _ hl => lv_iconst (v := nI 1) hx hb d_Mo_value_89 (by decide)) ?_
                refine gs (pc' := 94) (fun _ _ _ _ _ hl => lv_goto (tgt := 94) hx hb d_Mo_value_90 (by decide)) ?_
                refine gsb (pc1 := 101) (pc2 := 97) (fun _ _ _ _ _ => lv_icmp_ne (tgt := 101) hx hb d_Mo_value_94 (by decide)) (fun c_193 => ?_) (fun c_193 => ?_)
                · skip
                  have nc_193 : 1 ≠ 1 := (nn_ne (a := 1) (b := 1) (by omega) (by omega)).1 c_193
                  exact absurd nc_193 (by decide)
                · skip
                  have nc_193 : 1 = 1 := (nn_ne (a := 1) (b := 1) (by omega) (by omega)).2 c_193
                  refine gs (pc' := 98) (fun _ _ _ _ _ hl => lv_iconst (v := nI 1) hx hb d_Mo_value_97 (by decide)) ?_
                  refine gs (pc' := 102) (fun _ _ _ _ _ hl => lv_goto (tgt := 102) hx hb d_Mo_value_98 (by decide)) ?_
                  refine g_put (ty := .int) hx hb hts hin_Mo ty_Mo ty_Mo_ok nm_Mo hown hK f_61 rfl 6 (by decide) (hts _ wm760) (fun _ h9 => h9) rfl (by decide +kernel) rfl rfl (Nat.le_of_ble_eq_true rfl) d_Mo_value_102 (fun G_194 f_195 o_196 => ?_)
                  have f_197 : G_194 hm = some (70, .inr (9, [.int (nI 0), .int (nI S.n), .ref (A 2), .ref (A 3), .ref (A 4), .ref (A 5), .int (nI 1), .int sh_11, .ref (A 8), .ref (A 9), .int (nI S.rn), .ref (A 11), .ref (A 12), .ref (A 13), .int (nI S.wn), .ref (A 15), .ref (A 16), .ref (A 17), .ref (A 18), .int kt_12, .int kb_13, .int ks_14])) := f_195
                  have f_198 : G_194 (A 18) = some (83, .inl (cA 0, 8600, .inl kf_16)) := (o_196 _ (gne f_62 f_61 (fun e => by cases e))).trans f_62
                  have gf_199 : gfr mT G G_194 := gfr_put gf_59 f_61 (show mT 70 by decide) o_196
                  have gf_200 : gfr (fun x => x = 70) _ G_194 := gfr_put gfr_rf f_61 rfl o_196
                  have mr_201 : MR cA A Rr_63 G_194 := MR_fr mr_56 gf_200 (show ¬ (75 : Nat) = 70 by decide) (show ¬ (76 : Nat) = 70 by decide)
                  have mb_202 : MB cA A S G_194 := MB_fr mb_60 gf_200 (fun x h9 => by omega)
                  refine gs (pc' := 106) (fun _ _ _ _ _ hl => lv_aload_n hx hb d_Mo_value_105 rfl (lv_at hl 0 rfl)) ?_
                  have fq_203 : fq (nI 1) (x.natAbs) (y.natAbs) (mkRat (x * y.sign) y.natAbs) := vl_fq hy0 (x := 1) (by decide) (Or.inr ⟨hx0, by first | exact (hsgn.1 (by omega) (by omega)).symm | exact (hsgn.2.2.2 (by omega) (by omega)).symm⟩)
                  refine g_outv hlo (g_runV (As := []) (rest := []) ⟨hx, hb, hml, hown, hts⟩ hK hZ hRc hRs (c_Mo_reduce l D cA lo MC MS G_194 B hm A (mi (nI 0) (nI S.n) (nI 1) sh_11 (nI S.rn) (nI S.wn) kt_12 kb_13 ks_14) f_197 Rr_63 mr_201 (by rw [e_66]; exact fq_203.1) (3) (by rw [e_65]; exact pw_up bd_50 (by omega)) (by rw [e_66]; exact pw_up bd_67 (by omega)) (by omega) hB1 hB2) (fun _ _ => cwV 0 hts (tb_good (tb_cons wm843 (tb_cons wm845 (tb_cons ws22 (tb_cons wm12 k_Mo_reduce))))) rfl rfl rfl (by decide +kernel) ⟨by rw [hRf]; exact Nat.le_of_ble_eq_true rfl, by rw [hRl]; exact Nat.le_of_ble_eq_true rfl⟩) f_197 rfl hB1 hB2 rfl (Nat.le_of_ble_eq_true rfl) d_Mo_value_106) (fun G_204 B_205 p_206 => ?_)
                  obtain ⟨e_207, ⟨Rr_208, mr_209, q_210, q_211, q_212, q_213⟩, f_214, gf_215⟩ := p_206
                  have e_207b : B = B_205 := e_207.symm
                  subst e_207b
                  obtain ⟨sg_216, e_217⟩ : ∃ y9 : Int32, y9 = if Rr_63 0 = 0 then nI 0 else (nI 1) := ⟨_, rfl⟩
                  have gf_218 : gfr mT G G_204 := mT_705 gf_199 gf_215
                  have mb_219 : MB cA A S G_204 := MB_705 mb_202 gf_215
                  have f_220 : G_204 hm = some (70, .inr (9, [.int (nI 0), .int (nI S.n), .ref (A 2), .ref (A 3), .ref (A 4), .ref (A 5), .int sg_216, .int sh_11, .ref (A 8), .ref (A 9), .int (nI S.rn), .ref (A 11), .ref (A 12), .ref (A 13), .int (nI S.wn), .ref (A 15), .ref (A 16), .ref (A 17), .ref (A 18), .int kt_12, .int kb_13, .int ks_14])) := f_214.trans (by rw [mi_if, ← e_217]; rfl)
                  have f_221 : G_204 (A 18) = some (83, .inl (cA 0, 8600, .inl kf_16)) := gf_215 _ _ f_198 (show ¬ ((83 : Nat) = 70 ∨ (83 : Nat) = 75 ∨ (83 : Nat) = 76) by decide)
                  have fc_222 : fc sg_216 (Rr_208 0) (Rr_208 1) (mkRat (x * y.sign) y.natAbs) := by rw [q_210, q_211, e_217, e_65, e_66]; exact fq_fc fq_203
                  have hrb9 := rb_ratio hx1 hx2 hy1 hy2 hy0
                  refine gs (pc' := 110) (fun _ _ _ _ _ hl => lv_aload_n hx hb d_Mo_value_109 rfl (lv_at hl 0 rfl)) ?_
                  refine gs (pc' := 112) (fun _ _ _ _ _ hl => lv_iload hx hb d_Mo_value_110 (lv_at hl 3 rfl)) ?_
                  have hV_223 : MW cA hm A S 0 (some (mkRat (x * y.sign) y.natAbs)) none qk G_204 := ⟨sg_216, sh_11, kt_12, kb_13, ks_14, Rr_208, _, f_220, mr_209, f_221, (sm_ fc_222), sn_, v_22, mb_219⟩
                  refine g_outi hlo (g_runV (As := [.int (iI un)]) (rest := []) ⟨hx, hb, hml, hown, hts⟩ hK hZ hRc hRs (c_Mo_keep l D cA lo MC MS G_204 B hm A S 0 (some (mkRat (x * y.sign) y.natAbs)) none qk hV_223 hW (mkRat (x * y.sign) y.natAbs) rfl (3) hrb9 (by omega) un huk (by omega) hB1 hB2) (fun _ _ => cwV 1 hts (tb_good (tb_cons wm881 (tb_cons wm883 (tb_cons ws31 (tb_cons wm12 k_Mo_keep))))) rfl rfl rfl (by decide +kernel) ⟨by rw [hRf]; exact Nat.le_of_ble_eq_true rfl, by rw [hRl]; exact Nat.le_of_ble_eq_true rfl⟩) f_220 rfl hB1 hB2 rfl (Nat.le_of_ble_eq_true rfl) d_Mo_value_112) (fun r_227 G_224 B_225 p_226 => ?_)
                  obtain ⟨e_228, e_231, hV_229, gf_230⟩ := p_226
                  subst e_231
                  have e_228b : B = B_225 := e_228.symm
                  subst e_228b
                  have gf_232 : gfr mT G G_224 := mT_mT gf_218 gf_230
                  rw [st_value hun1 hun2, if_neg hy0, if_neg (Decidable.not_not.mpr huk), if_neg (by omega)] at hret
                  exact hret 115 _ _ _ _ d_Mo_value_115 hB1 hB2 ⟨rfl, fun _ => rfl, MW_k hV_229, gf_232⟩
          · skip
            have nc_69 : x = ((0 : Nat) : Int) := (lcI_ne (a := x) (b := ((0 : Nat) : Int)) (by omega) (by omega) (by omega) (by omega)).2 (by rw [cmp_IN] at c_69; exact c_69)
            have hx0 : x = 0 := by omega
            refine gs (pc' := 69) (fun _ _ _ _ _ hl => lv_iconst (v := nI 0) hx hb d_Mo_value_68 (by decide)) ?_
            refine gs (pc' := 102) (fun _ _ _ _ _ hl => lv_goto (tgt := 102) hx hb d_Mo_value_69 (by decide)) ?_
            refine g_put (ty := .int) hx hb hts hin_Mo ty_Mo ty_Mo_ok nm_Mo hown hK f_61 rfl 6 (by decide) (hts _ wm760) (fun _ h9 => h9) rfl (by decide +kernel) rfl rfl (Nat.le_of_ble_eq_true rfl) d_Mo_value_102 (fun G_233 f_234 o_235 => ?_)
            have f_236 : G_233 hm = some (70, .inr (9, [.int (nI 0), .int (nI S.n), .ref (A 2), .ref (A 3), .ref (A 4), .ref (A 5), .int (nI 0), .int sh_11, .ref (A 8), .ref (A 9), .int (nI S.rn), .ref (A 11), .ref (A 12), .ref (A 13), .int (nI S.wn), .ref (A 15), .ref (A 16), .ref (A 17), .ref (A 18), .int kt_12, .int kb_13, .int ks_14])) := f_234
            have f_237 : G_233 (A 18) = some (83, .inl (cA 0, 8600, .inl kf_16)) := (o_235 _ (gne f_62 f_61 (fun e => by cases e))).trans f_62
            have gf_238 : gfr mT G G_233 := gfr_put gf_59 f_61 (show mT 70 by decide) o_235
            have gf_239 : gfr (fun x => x = 70) _ G_233 := gfr_put gfr_rf f_61 rfl o_235
            have mr_240 : MR cA A Rr_63 G_233 := MR_fr mr_56 gf_239 (show ¬ (75 : Nat) = 70 by decide) (show ¬ (76 : Nat) = 70 by decide)
            have mb_241 : MB cA A S G_233 := MB_fr mb_60 gf_239 (fun x h9 => by omega)
            refine gs (pc' := 106) (fun _ _ _ _ _ hl => lv_aload_n hx hb d_Mo_value_105 rfl (lv_at hl 0 rfl)) ?_
            have fq_242 : fq (nI 0) (x.natAbs) (y.natAbs) (mkRat (x * y.sign) y.natAbs) := vl_fq hy0 (x := 0) (by decide) (Or.inl ⟨hx0, rfl⟩)
            refine g_outv hlo (g_runV (As := []) (rest := []) ⟨hx, hb, hml, hown, hts⟩ hK hZ hRc hRs (c_Mo_reduce l D cA lo MC MS G_233 B hm A (mi (nI 0) (nI S.n) (nI 0) sh_11 (nI S.rn) (nI S.wn) kt_12 kb_13 ks_14) f_236 Rr_63 mr_240 (by rw [e_66]; exact fq_242.1) (3) (by rw [e_65]; exact pw_up bd_50 (by omega)) (by rw [e_66]; exact pw_up bd_67 (by omega)) (by omega) hB1 hB2) (fun _ _ => cwV 0 hts (tb_good (tb_cons wm843 (tb_cons wm845 (tb_cons ws22 (tb_cons wm12 k_Mo_reduce))))) rfl rfl rfl (by decide +kernel) ⟨by rw [hRf]; exact Nat.le_of_ble_eq_true rfl, by rw [hRl]; exact Nat.le_of_ble_eq_true rfl⟩) f_236 rfl hB1 hB2 rfl (Nat.le_of_ble_eq_true rfl) d_Mo_value_106) (fun G_243 B_244 p_245 => ?_)
            obtain ⟨e_246, ⟨Rr_247, mr_248, q_249, q_250, q_251, q_252⟩, f_253, gf_254⟩ := p_245
            have e_246b : B = B_244 := e_246.symm
            subst e_246b
            obtain ⟨sg_255, e_256⟩ : ∃ y9 : Int32, y9 = if Rr_63 0 = 0 then nI 0 else (nI 0) := ⟨_, rfl⟩
            have gf_257 : gfr mT G G_243 := mT_705 gf_238 gf_254
            have mb_258 : MB cA A S G_243 := MB_705 mb_241 gf_254
            have f_259 : G_243 hm = some (70, .inr (9, [.int (nI 0), .int (nI S.n), .ref (A 2), .ref (A 3), .ref (A 4), .ref (A 5), .int sg_255, .int sh_11, .ref (A 8), .ref (A 9), .int (nI S.rn), .ref (A 11), .ref (A 12), .ref (A 13), .int (nI S.wn), .ref (A 15), .ref (A 16), .ref (A 17), .ref (A 18), .int kt_12, .int kb_13, .int ks_14])) := f_253.trans (by rw [mi_if, ← e_256]; rfl)
            have f_260 : G_243 (A 18) = some (83, .inl (cA 0, 8600, .inl kf_16)) := gf_254 _ _ f_237 (show ¬ ((83 : Nat) = 70 ∨ (83 : Nat) = 75 ∨ (83 : Nat) = 76) by decide)
            have fc_261 : fc sg_255 (Rr_247 0) (Rr_247 1) (mkRat (x * y.sign) y.natAbs) := by rw [q_249, q_250, e_256, e_65, e_66]; exact fq_fc fq_242
            have hrb9 := rb_ratio hx1 hx2 hy1 hy2 hy0
            refine gs (pc' := 110) (fun _ _ _ _ _ hl => lv_aload_n hx hb d_Mo_value_109 rfl (lv_at hl 0 rfl)) ?_
            refine gs (pc' := 112) (fun _ _ _ _ _ hl => lv_iload hx hb d_Mo_value_110 (lv_at hl 3 rfl)) ?_
            have hV_262 : MW cA hm A S 0 (some (mkRat (x * y.sign) y.natAbs)) none qk G_243 := ⟨sg_255, sh_11, kt_12, kb_13, ks_14, Rr_247, _, f_259, mr_248, f_260, (sm_ fc_261), sn_, v_22, mb_258⟩
            refine g_outi hlo (g_runV (As := [.int (iI un)]) (rest := []) ⟨hx, hb, hml, hown, hts⟩ hK hZ hRc hRs (c_Mo_keep l D cA lo MC MS G_243 B hm A S 0 (some (mkRat (x * y.sign) y.natAbs)) none qk hV_262 hW (mkRat (x * y.sign) y.natAbs) rfl (3) hrb9 (by omega) un huk (by omega) hB1 hB2) (fun _ _ => cwV 1 hts (tb_good (tb_cons wm881 (tb_cons wm883 (tb_cons ws31 (tb_cons wm12 k_Mo_keep))))) rfl rfl rfl (by decide +kernel) ⟨by rw [hRf]; exact Nat.le_of_ble_eq_true rfl, by rw [hRl]; exact Nat.le_of_ble_eq_true rfl⟩) f_259 rfl hB1 hB2 rfl (Nat.le_of_ble_eq_true rfl) d_Mo_value_112) (fun r_266 G_263 B_264 p_265 => ?_)
            obtain ⟨e_267, e_270, hV_268, gf_269⟩ := p_265
            subst e_270
            have e_267b : B = B_264 := e_267.symm
            subst e_267b
            have gf_271 : gfr mT G G_263 := mT_mT gf_257 gf_269
            rw [st_value hun1 hun2, if_neg hy0, if_neg (Decidable.not_not.mpr huk), if_neg (by omega)] at hret
            exact hret 115 _ _ _ _ d_Mo_value_115 hB1 hB2 ⟨rfl, fun _ => rfl, MW_k hV_268, gf_271⟩
        · skip
          have nc_35 : S.n = 200 := (nn_ne (a := S.n) (b := 200) (by omega) (by omega)).2 c_35
          refine gs (pc' := 48) (fun _ _ _ _ _ hl => lv_bipush (v := (-3)) hx hb d_Mo_value_46 (by decide)) ?_
          refine g_eqi (show (-3) = iI (-3) from by decide) ?_
          have hV_272 : MW cA hm A S 0 none none none G_25 := ⟨sg_10, sh_11, kt_12, kb_13, ks_14, Rr_15, _, f_28, mr_32, f_29, sn_, sn_, sn_, mb_33⟩
          rw [st_value hun1 hun2, if_neg hy0, if_neg (Decidable.not_not.mpr huk), if_pos (by omega)] at hret
          exact hret 48 _ _ _ _ d_Mo_value_48 hB1 hB2 ⟨rfl, fun _ => rfl, hV_272, gf_30⟩
      · skip
        have nc_34 : 0 > 0 := (n0_le (a := 0) (by omega)).2 c_34
        exact absurd nc_34 (by decide)
    · skip
      have nc_9 : (b01 (decide (uok un))) = 0 := (n0_ne (a := (b01 (decide (uok un)))) (by omega)).2 c_9
      have huk : ¬ uok un := b01_0 nc_9
      refine gs (pc' := 20) (fun _ _ _ _ _ hl => lv_iconst (v := nI 2) hx hb d_Mo_value_19 (by decide)) ?_
      refine gs (pc' := 24) (fun _ _ _ _ _ hl => lv_goto (tgt := 24) hx hb d_Mo_value_20 (by decide)) ?_
      obtain ⟨sg_273, sh_274, kt_275, kb_276, ks_277, Rr_278, kf_279, v_280, v_281, v_282, v_283, v_284, v_285, v_286⟩ := id hV
      have f_287 : G hm = some (70, .inr (9, [.int (nI th), .int (nI S.n), .ref (A 2), .ref (A 3), .ref (A 4), .ref (A 5), .int sg_273, .int sh_274, .ref (A 8), .ref (A 9), .int (nI S.rn), .ref (A 11), .ref (A 12), .ref (A 13), .int (nI S.wn), .ref (A 15), .ref (A 16), .ref (A 17), .ref (A 18), .int kt_275, .int kb_276, .int ks_277])) := v_280
      refine g_put (ty := .int) hx hb hts hin_Mo ty_Mo ty_Mo_ok nm_Mo hown hK f_287 rfl 0 (by decide) (hts _ wm754) (fun _ h9 => h9) rfl (by decide +kernel) rfl rfl (Nat.le_of_ble_eq_true rfl) d_Mo_value_24 (fun G_288 f_289 o_290 => ?_)
      have f_291 : G_288 hm = some (70, .inr (9, [.int (nI 2), .int (nI S.n), .ref (A 2), .ref (A 3), .ref (A 4), .ref (A 5), .int sg_273, .int sh_274, .ref (A 8), .ref (A 9), .int (nI S.rn), .ref (A 11), .ref (A 12), .ref (A 13), .int (nI S.wn), .ref (A 15), .ref (A 16), .ref (A 17), .ref (A 18), .int kt_275, .int kb_276, .int ks_277])) := f_289
      have f_292 : G_288 (A 18) = some (83, .inl (cA 0, 8600, .inl kf_279)) := (o_290 _ (gne v_282 f_287 (fun e => by cases e))).trans v_282
      have gf_293 : gfr mT G G_288 := gfr_put gfr_rf f_287 (show mT 70 by decide) o_290
      have gf_294 : gfr (fun x => x = 70) _ G_288 := gfr_put gfr_rf f_287 rfl o_290
      have mr_295 : MR cA A Rr_278 G_288 := MR_fr v_281 gf_294 (show ¬ (75 : Nat) = 70 by decide) (show ¬ (76 : Nat) = 70 by decide)
      have mb_296 : MB cA A S G_288 := MB_fr v_286 gf_294 (fun x h9 => by omega)
      refine gs (pc' := 28) (fun _ _ _ _ _ hl => lv_aload_n hx hb d_Mo_value_27 rfl (lv_at hl 0 rfl)) ?_
      refine g_get hx hb hts hin_Mo hown hK f_291 rfl 0 (by decide) (hts _ wm754) (fun _ h9 => h9) rfl d_Mo_value_28 ?_
      refine gsb (pc1 := 36) (pc2 := 34) (fun _ _ _ _ _ => lv_if_le (tgt := 36) hx hb d_Mo_value_31 (by decide)) (fun c_297 => ?_) (fun c_297 => ?_)
      · skip
        have nc_297 : 2 ≤ 0 := (n0_le (a := 2) (by omega)).1 c_297
        exact absurd nc_297 (by decide)
      · skip
        have nc_297 : 2 > 0 := (n0_le (a := 2) (by omega)).2 c_297
        refine gs (pc' := 35) (fun _ _ _ _ _ hl => lv_iconst (v := nI 0) hx hb d_Mo_value_34 (by decide)) ?_
        have hV_298 : MW cA hm A S 2 none none none G_288 := ⟨sg_273, sh_274, kt_275, kb_276, ks_277, Rr_278, _, f_291, mr_295, f_292, sn_, sn_, sn_, mb_296⟩
        rw [st_value hun1 hun2, if_neg hy0, if_pos huk] at hret
        exact hret 35 _ _ _ _ d_Mo_value_35 hB1 hB2 ⟨rfl, fun h9 => absurd (show (2 : Nat) = 0 from h9) (by decide), hV_298, gf_293⟩
  · skip
    have nc_1 : y = ((0 : Nat) : Int) := (lcI_ne (a := y) (b := ((0 : Nat) : Int)) (by omega) (by omega) (by omega) (by omega)).2 (by rw [cmp_IN] at c_1; exact c_1)
    have hy0 : y = 0 := by omega
    refine gs (pc' := 8) (fun _ _ _ _ _ hl => lv_iconst (v := nI 1) hx hb d_Mo_value_7 (by decide)) ?_
    refine gs (pc' := 24) (fun _ _ _ _ _ hl => lv_goto (tgt := 24) hx hb d_Mo_value_8 (by decide)) ?_
    obtain ⟨sg_299, sh_300, kt_301, kb_302, ks_303, Rr_304, kf_305, v_306, v_307, v_308, v_309, v_310, v_311, v_312⟩ := id hV
    have f_313 : G hm = some (70, .inr (9, [.int (nI th), .int (nI S.n), .ref (A 2), .ref (A 3), .ref (A 4), .ref (A 5), .int sg_299, .int sh_300, .ref (A 8), .ref (A 9), .int (nI S.rn), .ref (A 11), .ref (A 12), .ref (A 13), .int (nI S.wn), .ref (A 15), .ref (A 16), .ref (A 17), .ref (A 18), .int kt_301, .int kb_302, .int ks_303])) := v_306
    refine g_put (ty := .int) hx hb hts hin_Mo ty_Mo ty_Mo_ok nm_Mo hown hK f_313 rfl 0 (by decide) (hts _ wm754) (fun _ h9 => h9) rfl (by decide +kernel) rfl rfl (Nat.le_of_ble_eq_true rfl) d_Mo_value_24 (fun G_314 f_315 o_316 => ?_)
    have f_317 : G_314 hm = some (70, .inr (9, [.int (nI 1), .int (nI S.n), .ref (A 2), .ref (A 3), .ref (A 4), .ref (A 5), .int sg_299, .int sh_300, .ref (A 8), .ref (A 9), .int (nI S.rn), .ref (A 11), .ref (A 12), .ref (A 13), .int (nI S.wn), .ref (A 15), .ref (A 16), .ref (A 17), .ref (A 18), .int kt_301, .int kb_302, .int ks_303])) := f_315
    have f_318 : G_314 (A 18) = some (83, .inl (cA 0, 8600, .inl kf_305)) := (o_316 _ (gne v_308 f_313 (fun e => by cases e))).trans v_308
    have gf_319 : gfr mT G G_314 := gfr_put gfr_rf f_313 (show mT 70 by decide) o_316
    have gf_320 : gfr (fun x => x = 70) _ G_314 := gfr_put gfr_rf f_313 rfl o_316
    have mr_321 : MR cA A Rr_304 G_314 := MR_fr v_307 gf_320 (show ¬ (75 : Nat) = 70 by decide) (show ¬ (76 : Nat) = 70 by decide)
    have mb_322 : MB cA A S G_314 := MB_fr v_312 gf_320 (fun x h9 => by omega)
    refine gs (pc' := 28) (fun _ _ _ _ _ hl => lv_aload_n hx hb d_Mo_value_27 rfl (lv_at hl 0 rfl)) ?_
    refine g_get hx hb hts hin_Mo hown hK f_317 rfl 0 (by decide) (hts _ wm754) (fun _ h9 => h9) rfl d_Mo_value_28 ?_
    refine gsb (pc1 := 36) (pc2 := 34) (fun _ _ _ _ _ => lv_if_le (tgt := 36) hx hb d_Mo_value_31 (by decide)) (fun c_323 => ?_) (fun c_323 => ?_)
    · skip
      have nc_323 : 1 ≤ 0 := (n0_le (a := 1) (by omega)).1 c_323
      exact absurd nc_323 (by decide)
    · skip
      have nc_323 : 1 > 0 := (n0_le (a := 1) (by omega)).2 c_323
      refine gs (pc' := 35) (fun _ _ _ _ _ hl => lv_iconst (v := nI 0) hx hb d_Mo_value_34 (by decide)) ?_
      have hV_324 : MW cA hm A S 1 none none none G_314 := ⟨sg_299, sh_300, kt_301, kb_302, ks_303, Rr_304, _, f_317, mr_321, f_318, sn_, sn_, sn_, mb_322⟩
      rw [st_value hun1 hun2, if_pos hy0] at hret
      exact hret 35 _ _ _ _ d_Mo_value_35 hB1 hB2 ⟨rfl, fun h9 => absurd (show (1 : Nat) = 0 from h9) (by decide), hV_324, gf_319⟩
set_option maxHeartbeats 4000000 in
set_option maxRecDepth 100000 in
theorem c_Mo_add (l : Launch) (D : va_G) (cA : Nat → ClassId) (lo MC MS : Nat) (G : gT) (B : Nat × Nat) (hm : Nat) (A : Nat → Nat) (S : St) (th : Nat) (qm qo qk : Option Rat) (hV : MW cA hm A S th qm qo qk G) (hW : WF S) (x : Int) (hx1 : -2147483648 ≤ x) (hx2 : x < 2147483648) (y : Int) (hy1 : -2147483648 ≤ y) (hy2 : y < 2147483648) (le : Int32) (hB1 : B.1 ≤ MC) (hB2 : B.2 ≤ MS) : gMet l y_Mo_add w_Mo_add 5 131 D clS (gtys cA) lo MC MS [.ref hm, .int (iI x), .int (iI y), .int le] G B (gQi D clS lo (fun r9 u => u.2 = B ∧ ((sp_add S (iI x) (iI y) (decide (le ≠ 0))).1 = 0 → r9 = iI (sp_add S (iI x) (iI y) (decide (le ≠ 0))).2.1) ∧ MW cA hm A (sp_add S (iI x) (iI y) (decide (le ≠ 0))).2.2 (sp_add S (iI x) (iI y) (decide (le ≠ 0))).1 none none none u.1 ∧ gfr mT G u.1)) := by
  refine g_meti (cc := prog_11_method_29_code) (nL := 4) (L := [(0, .ref hm), (1, .int (iI x)), (2, .int (iI y)), (3, .int le)]) (by decide +kernel) rfl (Nat.le_of_ble_eq_true rfl) rfl ?_
  intro p e R s m args below meth c Q hF hRc hRs hRf hRl hret
  obtain ⟨hx, hb, hr, hml, hts0, hown, hlocks, hin, hK, hlo, hZ⟩ := hF
  have hts : ∀ w ∈ tbg, w.before args s = true := fun w h => hts0 w (List.mem_cons_of_mem _ h)
  have hn := hW.n
  have hrn := hW.rn
  have hwn := hW.wn
  refine gs (pc' := 1) (fun _ _ _ _ _ hl => lv_aload_n hx hb d_Mo_add_0 rfl (lv_at hl 0 rfl)) ?_
  refine gs (pc' := 2) (fun _ _ _ _ _ hl => lv_aload_n hx hb d_Mo_add_1 rfl (lv_at hl 0 rfl)) ?_
  refine gs (pc' := 3) (fun _ _ _ _ _ hl => lv_iload_n hx hb d_Mo_add_2 rfl (lv_at hl 1 rfl)) ?_
  obtain ⟨sg_1, sh_2, kt_3, kb_4, ks_5, Rr_6, kf_7, v_8, v_9, v_10, v_11, v_12, v_13, v_14⟩ := id hV
  have f_15 : G hm = some (70, .inr (9, [.int (nI th), .int (nI S.n), .ref (A 2), .ref (A 3), .ref (A 4), .ref (A 5), .int sg_1, .int sh_2, .ref (A 8), .ref (A 9), .int (nI S.rn), .ref (A 11), .ref (A 12), .ref (A 13), .int (nI S.wn), .ref (A 15), .ref (A 16), .ref (A 17), .ref (A 18), .int kt_3, .int kb_4, .int ks_5])) := v_8
  have hV_16 : MW cA hm A S th qm qo qk G := ⟨sg_1, sh_2, kt_3, kb_4, ks_5, Rr_6, _, f_15, v_9, v_10, v_11, v_12, v_13, v_14⟩
  refine g_outi hlo (g_runV (As := [.int (iI x)]) (rest := [.ref hm]) ⟨hx, hb, hml, hown, hts⟩ hK hZ hRc hRs (c_Mo_isValue l D cA lo MC MS G B hm A S th qm qo qk hV_16 hW x (by omega) (by omega) hB1 hB2) (fun _ _ => cwV 1 hts (tb_good (tb_cons wm893 (tb_cons wm895 (tb_cons ws33 (tb_cons wm12 k_Mo_isValue))))) rfl rfl rfl (by decide +kernel) ⟨by rw [hRf]; exact Nat.le_of_ble_eq_true rfl, by rw [hRl]; exact Nat.le_of_ble_eq_true rfl⟩) f_15 rfl hB1 hB2 rfl (Nat.le_of_ble_eq_true rfl) d_Mo_add_3) (fun r_20 G_17 B_18 p_19 => ?_)
  obtain ⟨u_21, e_22⟩ := p_19
  cases u_21
  subst e_22
  have bd_23 := b01_le (decide (0 ≤ x ∧ x < S.n))
  refine gsb (pc1 := 21) (pc2 := 9) (fun _ _ _ _ _ => lv_if_eq (tgt := 21) hx hb d_Mo_add_6 (by decide)) (fun c_24 => ?_) (fun c_24 => ?_)
  · skip
    have nc_24 : (b01 (decide (0 ≤ x ∧ x < S.n))) = 0 := (n0_eq (a := (b01 (decide (0 ≤ x ∧ x < S.n)))) (by omega)).1 c_24
    have hb_x : ¬ (0 ≤ x ∧ x < S.n) := b01_0 nc_24
    refine gs (pc' := 22) (fun _ _ _ _ _ hl => lv_iconst (v := nI 1) hx hb d_Mo_add_21 (by decide)) ?_
    obtain ⟨sg_25, sh_26, kt_27, kb_28, ks_29, Rr_30, kf_31, v_32, v_33, v_34, v_35, v_36, v_37, v_38⟩ := id hV_16
    have f_39 : G hm = some (70, .inr (9, [.int (nI th), .int (nI S.n), .ref (A 2), .ref (A 3), .ref (A 4), .ref (A 5), .int sg_25, .int sh_26, .ref (A 8), .ref (A 9), .int (nI S.rn), .ref (A 11), .ref (A 12), .ref (A 13), .int (nI S.wn), .ref (A 15), .ref (A 16), .ref (A 17), .ref (A 18), .int kt_27, .int kb_28, .int ks_29])) := v_32
    refine g_put (ty := .int) hx hb hts hin_Mo ty_Mo ty_Mo_ok nm_Mo hown hK f_39 rfl 0 (by decide) (hts _ wm754) (fun _ h9 => h9) rfl (by decide +kernel) rfl rfl (Nat.le_of_ble_eq_true rfl) d_Mo_add_22 (fun G_40 f_41 o_42 => ?_)
    have f_43 : G_40 hm = some (70, .inr (9, [.int (nI 1), .int (nI S.n), .ref (A 2), .ref (A 3), .ref (A 4), .ref (A 5), .int sg_25, .int sh_26, .ref (A 8), .ref (A 9), .int (nI S.rn), .ref (A 11), .ref (A 12), .ref (A 13), .int (nI S.wn), .ref (A 15), .ref (A 16), .ref (A 17), .ref (A 18), .int kt_27, .int kb_28, .int ks_29])) := f_41
    have f_44 : G_40 (A 18) = some (83, .inl (cA 0, 8600, .inl kf_31)) := (o_42 _ (gne v_34 f_39 (fun e => by cases e))).trans v_34
    have gf_45 : gfr mT G G_40 := gfr_put gfr_rf f_39 (show mT 70 by decide) o_42
    have gf_46 : gfr (fun x => x = 70) _ G_40 := gfr_put gfr_rf f_39 rfl o_42
    have mr_47 : MR cA A Rr_30 G_40 := MR_fr v_33 gf_46 (show ¬ (75 : Nat) = 70 by decide) (show ¬ (76 : Nat) = 70 by decide)
    have mb_48 : MB cA A S G_40 := MB_fr v_38 gf_46 (fun x h9 => by omega)
    refine gs (pc' := 26) (fun _ _ _ _ _ hl => lv_aload_n hx hb d_Mo_add_25 rfl (lv_at hl 0 rfl)) ?_
    refine g_get hx hb hts hin_Mo hown hK f_43 rfl 0 (by decide) (hts _ wm754) (fun _ h9 => h9) rfl d_Mo_add_26 ?_
    refine gsb (pc1 := 34) (pc2 := 32) (fun _ _ _ _ _ => lv_if_le (tgt := 34) hx hb d_Mo_add_29 (by decide)) (fun c_49 => ?_) (fun c_49 => ?_)
    · skip
      have nc_49 : 1 ≤ 0 := (n0_le (a := 1) (by omega)).1 c_49
      exact absurd nc_49 (by decide)
    · skip
      have nc_49 : 1 > 0 := (n0_le (a := 1) (by omega)).2 c_49
      refine gs (pc' := 33) (fun _ _ _ _ _ hl => lv_iconst (v := nI 0) hx hb d_Mo_add_32 (by decide)) ?_
      have hV_50 : MW cA hm A S 1 none none none G_40 := ⟨sg_25, sh_26, kt_27, kb_28, ks_29, Rr_30, _, f_43, mr_47, f_44, sn_, sn_, sn_, mb_48⟩
      rw [su_add (fun q9 => vn_ hx1 hx2 hb_x q9.1)] at hret
      exact hret 33 _ _ _ _ d_Mo_add_33 hB1 hB2 ⟨rfl, fun h9 => absurd (show (1 : Nat) = 0 from h9) (by decide), hV_50, gf_45⟩
  · skip
    have nc_24 : (b01 (decide (0 ≤ x ∧ x < S.n))) ≠ 0 := (n0_eq (a := (b01 (decide (0 ≤ x ∧ x < S.n)))) (by omega)).2 c_24
    have hg_x : 0 ≤ x ∧ x < S.n := b01_1 nc_24
    have hg1_x := hg_x.1
    have hg2_x := hg_x.2
    obtain ⟨i, hxe_i⟩ : ∃ i : Nat, x = (i : Int) := ⟨x.toNat, by omega⟩
    subst hxe_i
    rw [← nI_iI i] at hret ⊢
    have hi_i : i < S.n := by omega
    have rbq_51 : rb (S.v i) 100 := rb_of (hW.v _ hi_i).1
    refine gs (pc' := 10) (fun _ _ _ _ _ hl => lv_aload_n hx hb d_Mo_add_9 rfl (lv_at hl 0 rfl)) ?_
    refine gs (pc' := 11) (fun _ _ _ _ _ hl => lv_iload_n hx hb d_Mo_add_10 rfl (lv_at hl 2 rfl)) ?_
    obtain ⟨sg_52, sh_53, kt_54, kb_55, ks_56, Rr_57, kf_58, v_59, v_60, v_61, v_62, v_63, v_64, v_65⟩ := id hV_16
    have f_66 : G hm = some (70, .inr (9, [.int (nI th), .int (nI S.n), .ref (A 2), .ref (A 3), .ref (A 4), .ref (A 5), .int sg_52, .int sh_53, .ref (A 8), .ref (A 9), .int (nI S.rn), .ref (A 11), .ref (A 12), .ref (A 13), .int (nI S.wn), .ref (A 15), .ref (A 16), .ref (A 17), .ref (A 18), .int kt_54, .int kb_55, .int ks_56])) := v_59
    have hV_67 : MW cA hm A S th qm qo qk G := ⟨sg_52, sh_53, kt_54, kb_55, ks_56, Rr_57, _, f_66, v_60, v_61, v_62, v_63, v_64, v_65⟩
    refine g_outi hlo (g_runV (As := [.int (iI y)]) (rest := [.ref hm]) ⟨hx, hb, hml, hown, hts⟩ hK hZ hRc hRs (c_Mo_isValue l D cA lo MC MS G B hm A S th qm qo qk hV_67 hW y (by omega) (by omega) hB1 hB2) (fun _ _ => cwV 1 hts (tb_good (tb_cons wm893 (tb_cons wm895 (tb_cons ws33 (tb_cons wm12 k_Mo_isValue))))) rfl rfl rfl (by decide +kernel) ⟨by rw [hRf]; exact Nat.le_of_ble_eq_true rfl, by rw [hRl]; exact Nat.le_of_ble_eq_true rfl⟩) f_66 rfl hB1 hB2 rfl (Nat.le_of_ble_eq_true rfl) d_Mo_add_11) (fun r_71 G_68 B_69 p_70 => ?_)
    obtain ⟨u_72, e_73⟩ := p_70
    cases u_72
    subst e_73
    have bd_74 := b01_le (decide (0 ≤ y ∧ y < S.n))
    refine gsb (pc1 := 21) (pc2 := 17) (fun _ _ _ _ _ => lv_if_eq (tgt := 21) hx hb d_Mo_add_14 (by decide)) (fun c_75 => ?_) (fun c_75 => ?_)
    · skip
      have nc_75 : (b01 (decide (0 ≤ y ∧ y < S.n))) = 0 := (n0_eq (a := (b01 (decide (0 ≤ y ∧ y < S.n)))) (by omega)).1 c_75
      have hb_y : ¬ (0 ≤ y ∧ y < S.n) := b01_0 nc_75
      refine gs (pc' := 22) (fun _ _ _ _ _ hl => lv_iconst (v := nI 1) hx hb d_Mo_add_21 (by decide)) ?_
      obtain ⟨sg_76, sh_77, kt_78, kb_79, ks_80, Rr_81, kf_82, v_83, v_84, v_85, v_86, v_87, v_88, v_89⟩ := id hV_67
      have f_90 : G hm = some (70, .inr (9, [.int (nI th), .int (nI S.n), .ref (A 2), .ref (A 3), .ref (A 4), .ref (A 5), .int sg_76, .int sh_77, .ref (A 8), .ref (A 9), .int (nI S.rn), .ref (A 11), .ref (A 12), .ref (A 13), .int (nI S.wn), .ref (A 15), .ref (A 16), .ref (A 17), .ref (A 18), .int kt_78, .int kb_79, .int ks_80])) := v_83
      refine g_put (ty := .int) hx hb hts hin_Mo ty_Mo ty_Mo_ok nm_Mo hown hK f_90 rfl 0 (by decide) (hts _ wm754) (fun _ h9 => h9) rfl (by decide +kernel) rfl rfl (Nat.le_of_ble_eq_true rfl) d_Mo_add_22 (fun G_91 f_92 o_93 => ?_)
      have f_94 : G_91 hm = some (70, .inr (9, [.int (nI 1), .int (nI S.n), .ref (A 2), .ref (A 3), .ref (A 4), .ref (A 5), .int sg_76, .int sh_77, .ref (A 8), .ref (A 9), .int (nI S.rn), .ref (A 11), .ref (A 12), .ref (A 13), .int (nI S.wn), .ref (A 15), .ref (A 16), .ref (A 17), .ref (A 18), .int kt_78, .int kb_79, .int ks_80])) := f_92
      have f_95 : G_91 (A 18) = some (83, .inl (cA 0, 8600, .inl kf_82)) := (o_93 _ (gne v_85 f_90 (fun e => by cases e))).trans v_85
      have gf_96 : gfr mT G G_91 := gfr_put gfr_rf f_90 (show mT 70 by decide) o_93
      have gf_97 : gfr (fun x => x = 70) _ G_91 := gfr_put gfr_rf f_90 rfl o_93
      have mr_98 : MR cA A Rr_81 G_91 := MR_fr v_84 gf_97 (show ¬ (75 : Nat) = 70 by decide) (show ¬ (76 : Nat) = 70 by decide)
      have mb_99 : MB cA A S G_91 := MB_fr v_89 gf_97 (fun x h9 => by omega)
      refine gs (pc' := 26) (fun _ _ _ _ _ hl => lv_aload_n hx hb d_Mo_add_25 rfl (lv_at hl 0 rfl)) ?_
      refine g_get hx hb hts hin_Mo hown hK f_94 rfl 0 (by decide) (hts _ wm754) (fun _ h9 => h9) rfl d_Mo_add_26 ?_
      refine gsb (pc1 := 34) (pc2 := 32) (fun _ _ _ _ _ => lv_if_le (tgt := 34) hx hb d_Mo_add_29 (by decide)) (fun c_100 => ?_) (fun c_100 => ?_)
      · skip
        have nc_100 : 1 ≤ 0 := (n0_le (a := 1) (by omega)).1 c_100
        exact absurd nc_100 (by decide)
      · skip
        have nc_100 : 1 > 0 := (n0_le (a := 1) (by omega)).2 c_100
        refine gs (pc' := 33) (fun _ _ _ _ _ hl => lv_iconst (v := nI 0) hx hb d_Mo_add_32 (by decide)) ?_
        have hV_101 : MW cA hm A S 1 none none none G_91 := ⟨sg_76, sh_77, kt_78, kb_79, ks_80, Rr_81, _, f_94, mr_98, f_95, sn_, sn_, sn_, mb_99⟩
        rw [su_add (fun q9 => vn_ hy1 hy2 hb_y q9.2)] at hret
        exact hret 33 _ _ _ _ d_Mo_add_33 hB1 hB2 ⟨rfl, fun h9 => absurd (show (1 : Nat) = 0 from h9) (by decide), hV_101, gf_96⟩
    · skip
      have nc_75 : (b01 (decide (0 ≤ y ∧ y < S.n))) ≠ 0 := (n0_eq (a := (b01 (decide (0 ≤ y ∧ y < S.n)))) (by omega)).2 c_75
      have hg_y : 0 ≤ y ∧ y < S.n := b01_1 nc_75
      have hg1_y := hg_y.1
      have hg2_y := hg_y.2
      obtain ⟨j, hxe_j⟩ : ∃ j : Nat, y = (j : Int) := ⟨y.toNat, by omega⟩
      subst hxe_j
      rw [← nI_iI j] at hret ⊢
      have hi_j : j < S.n := by omega
      have rbq_102 : rb (S.v j) 100 := rb_of (hW.v _ hi_j).1
      refine gs (pc' := 18) (fun _ _ _ _ _ hl => lv_iconst (v := nI 0) hx hb d_Mo_add_17 (by decide)) ?_
      refine gs (pc' := 22) (fun _ _ _ _ _ hl => lv_goto (tgt := 22) hx hb d_Mo_add_18 (by decide)) ?_
      obtain ⟨sg_103, sh_104, kt_105, kb_106, ks_107, Rr_108, kf_109, v_110, v_111, v_112, v_113, v_114, v_115, v_116⟩ := id hV_67
      have f_117 : G hm = some (70, .inr (9, [.int (nI th), .int (nI S.n), .ref (A 2), .ref (A 3), .ref (A 4), .ref (A 5), .int sg_103, .int sh_104, .ref (A 8), .ref (A 9), .int (nI S.rn), .ref (A 11), .ref (A 12), .ref (A 13), .int (nI S.wn), .ref (A 15), .ref (A 16), .ref (A 17), .ref (A 18), .int kt_105, .int kb_106, .int ks_107])) := v_110
      refine g_put (ty := .int) hx hb hts hin_Mo ty_Mo ty_Mo_ok nm_Mo hown hK f_117 rfl 0 (by decide) (hts _ wm754) (fun _ h9 => h9) rfl (by decide +kernel) rfl rfl (Nat.le_of_ble_eq_true rfl) d_Mo_add_22 (fun G_118 f_119 o_120 => ?_)
      have f_121 : G_118 hm = some (70, .inr (9, [.int (nI 0), .int (nI S.n), .ref (A 2), .ref (A 3), .ref (A 4), .ref (A 5), .int sg_103, .int sh_104, .ref (A 8), .ref (A 9), .int (nI S.rn), .ref (A 11), .ref (A 12), .ref (A 13), .int (nI S.wn), .ref (A 15), .ref (A 16), .ref (A 17), .ref (A 18), .int kt_105, .int kb_106, .int ks_107])) := f_119
      have f_122 : G_118 (A 18) = some (83, .inl (cA 0, 8600, .inl kf_109)) := (o_120 _ (gne v_112 f_117 (fun e => by cases e))).trans v_112
      have gf_123 : gfr mT G G_118 := gfr_put gfr_rf f_117 (show mT 70 by decide) o_120
      have gf_124 : gfr (fun x => x = 70) _ G_118 := gfr_put gfr_rf f_117 rfl o_120
      have mr_125 : MR cA A Rr_108 G_118 := MR_fr v_111 gf_124 (show ¬ (75 : Nat) = 70 by decide) (show ¬ (76 : Nat) = 70 by decide)
      have mb_126 : MB cA A S G_118 := MB_fr v_116 gf_124 (fun x h9 => by omega)
      refine gs (pc' := 26) (fun _ _ _ _ _ hl => lv_aload_n hx hb d_Mo_add_25 rfl (lv_at hl 0 rfl)) ?_
      refine g_get hx hb hts hin_Mo hown hK f_121 rfl 0 (by decide) (hts _ wm754) (fun _ h9 => h9) rfl d_Mo_add_26 ?_
      refine gsb (pc1 := 34) (pc2 := 32) (fun _ _ _ _ _ => lv_if_le (tgt := 34) hx hb d_Mo_add_29 (by decide)) (fun c_127 => ?_) (fun c_127 => ?_)
      · skip
        have nc_127 : 0 ≤ 0 := (n0_le (a := 0) (by omega)).1 c_127
        refine gs (pc' := 35) (fun _ _ _ _ _ hl => lv_aload_n hx hb d_Mo_add_34 rfl (lv_at hl 0 rfl)) ?_
        refine g_get hx hb hts hin_Mo hown hK f_121 rfl 3 (by decide) (hts _ wm757) (fun _ h9 => h9) rfl d_Mo_add_35 ?_
        refine gs (pc' := 39) (fun _ _ _ _ _ hl => lv_iload_n hx hb d_Mo_add_38 rfl (lv_at hl 1 rfl)) ?_
        obtain ⟨sgn_128, unt_129, sto_130, szs_131, f_132, f_133, f_134, f_135, hv_136⟩ := id mb_126.1
        refine g_iald hx hb hK 0 f_133 rfl (show vp_in (nI i) 200 from vp_in_nI (by omega) (by omega)) d_Mo_add_39 ?_
        refine g_eqi (show unt_129 (nI i).toNatClampNeg = unt_129 i from by rw [nI_clamp (by omega)]) ?_
        refine g_eqi (show unt_129 i = iI (S.un i) from (hv_136 i (by omega)).2.1) ?_
        have ub_137 := (hW.v i (by omega)).2.1
        have ub_138 := (hW.v i (by omega)).2.2
        refine gs (pc' := 41) (fun _ _ _ _ _ hl => lv_aload_n hx hb d_Mo_add_40 rfl (lv_at hl 0 rfl)) ?_
        refine g_get hx hb hts hin_Mo hown hK f_121 rfl 3 (by decide) (hts _ wm757) (fun _ h9 => h9) rfl d_Mo_add_41 ?_
        refine gs (pc' := 45) (fun _ _ _ _ _ hl => lv_iload_n hx hb d_Mo_add_44 rfl (lv_at hl 2 rfl)) ?_
        refine g_iald hx hb hK 0 f_133 rfl (show vp_in (nI j) 200 from vp_in_nI (by omega) (by omega)) d_Mo_add_45 ?_
        refine g_eqi (show unt_129 (nI j).toNatClampNeg = unt_129 j from by rw [nI_clamp (by omega)]) ?_
        refine g_eqi (show unt_129 j = iI (S.un j) from (hv_136 j (by omega)).2.1) ?_
        have ub_139 := (hW.v j (by omega)).2.1
        have ub_140 := (hW.v j (by omega)).2.2
        refine gsb (pc1 := 59) (pc2 := 49) (fun _ _ _ _ _ => lv_icmp_ne (tgt := 59) hx hb d_Mo_add_46 (by decide)) (fun c_141 => ?_) (fun c_141 => ?_)
        · skip
          have nc_141 : (S.un i) ≠ (S.un j) := (ii_ne (a := (S.un i)) (b := (S.un j)) (by omega) (by omega) (by omega) (by omega)).1 (by first | exact c_141 | (have z9 := c_141; simp only [nI_iI] at z9; exact z9))
          have hun9 : S.un i ≠ S.un j := by omega
          refine gs (pc' := 60) (fun _ _ _ _ _ hl => lv_aload_n hx hb d_Mo_add_59 rfl (lv_at hl 0 rfl)) ?_
          refine g_get hx hb hts hin_Mo hown hK f_121 rfl 3 (by decide) (hts _ wm757) (fun _ h9 => h9) rfl d_Mo_add_60 ?_
          refine gs (pc' := 64) (fun _ _ _ _ _ hl => lv_iload_n hx hb d_Mo_add_63 rfl (lv_at hl 1 rfl)) ?_
          refine g_iald hx hb hK 0 f_133 rfl (show vp_in (nI i) 200 from vp_in_nI (by omega) (by omega)) d_Mo_add_64 ?_
          refine g_eqi (show unt_129 (nI i).toNatClampNeg = unt_129 i from by rw [nI_clamp (by omega)]) ?_
          refine g_eqi (show unt_129 i = iI (S.un i) from (hv_136 i (by omega)).2.1) ?_
          have ub_142 := (hW.v i (by omega)).2.1
          have ub_143 := (hW.v i (by omega)).2.2
          refine gs (pc' := 66) (fun _ _ _ _ _ hl => lv_aload_n hx hb d_Mo_add_65 rfl (lv_at hl 0 rfl)) ?_
          refine g_get hx hb hts hin_Mo hown hK f_121 rfl 3 (by decide) (hts _ wm757) (fun _ h9 => h9) rfl d_Mo_add_66 ?_
          refine gs (pc' := 70) (fun _ _ _ _ _ hl => lv_iload_n hx hb d_Mo_add_69 rfl (lv_at hl 2 rfl)) ?_
          refine g_iald hx hb hK 0 f_133 rfl (show vp_in (nI j) 200 from vp_in_nI (by omega) (by omega)) d_Mo_add_70 ?_
          refine g_eqi (show unt_129 (nI j).toNatClampNeg = unt_129 j from by rw [nI_clamp (by omega)]) ?_
          refine g_eqi (show unt_129 j = iI (S.un j) from (hv_136 j (by omega)).2.1) ?_
          have ub_144 := (hW.v j (by omega)).2.1
          have ub_145 := (hW.v j (by omega)).2.2
          refine gsb (pc1 := 79) (pc2 := 74) (fun _ _ _ _ _ => lv_icmp_eq (tgt := 79) hx hb d_Mo_add_71 (by decide)) (fun c_146 => ?_) (fun c_146 => ?_)
          · skip
            have nc_146 : (S.un i) = (S.un j) := (ii_eq (a := (S.un i)) (b := (S.un j)) (by omega) (by omega) (by omega) (by omega)).1 (by first | exact c_146 | (have z9 := c_146; simp only [nI_iI] at z9; exact z9))
            refine gs (pc' := 81) (fun _ _ _ _ _ hl => lv_bipush (v := (-3)) hx hb d_Mo_add_79 (by decide)) ?_
            refine g_eqi (show (-3) = iI (-3) from by decide) ?_
            have hV_147 : MW cA hm A S 0 none none none G_118 := ⟨sg_103, sh_104, kt_105, kb_106, ks_107, Rr_108, _, f_121, mr_125, f_122, sn_, sn_, sn_, mb_126⟩
            rw [st_add hn hi_i hi_j, if_neg (show ¬ S.un i ≠ S.un j by omega), if_pos (show S.n = 200 by omega)] at hret
            exact hret 81 _ _ _ _ d_Mo_add_81 hB1 hB2 ⟨rfl, fun _ => rfl, hV_147, gf_123⟩
          · skip
            have nc_146 : (S.un i) ≠ (S.un j) := (ii_eq (a := (S.un i)) (b := (S.un j)) (by omega) (by omega) (by omega) (by omega)).2 (by first | exact c_146 | (have z9 := c_146; simp only [nI_iI] at z9; exact z9))
            refine gs (pc' := 76) (fun _ _ _ _ _ hl => lv_bipush (v := (-2)) hx hb d_Mo_add_74 (by decide)) ?_
            refine g_eqi (show (-2) = iI (-2) from by decide) ?_
            refine gs (pc' := 81) (fun _ _ _ _ _ hl => lv_goto (tgt := 81) hx hb d_Mo_add_76 (by decide)) ?_
            have hV_148 : MW cA hm A S 0 none none none G_118 := ⟨sg_103, sh_104, kt_105, kb_106, ks_107, Rr_108, _, f_121, mr_125, f_122, sn_, sn_, sn_, mb_126⟩
            rw [st_add hn hi_i hi_j, if_pos (show S.un i ≠ S.un j by omega)] at hret
            exact hret 81 _ _ _ _ d_Mo_add_81 hB1 hB2 ⟨rfl, fun _ => rfl, hV_148, gf_123⟩
        · skip
          have nc_141 : (S.un i) = (S.un j) := (ii_ne (a := (S.un i)) (b := (S.un j)) (by omega) (by omega) (by omega) (by omega)).2 (by first | exact c_141 | (have z9 := c_141; simp only [nI_iI] at z9; exact z9))
          have hun9 : ¬ S.un i ≠ S.un j := by omega
          refine gs (pc' := 50) (fun _ _ _ _ _ hl => lv_aload_n hx hb d_Mo_add_49 rfl (lv_at hl 0 rfl)) ?_
          refine g_get hx hb hts hin_Mo hown hK f_121 rfl 1 (by decide) (hts _ wm755) (fun _ h9 => h9) rfl d_Mo_add_50 ?_
          refine gs (pc' := 56) (fun _ _ _ _ _ hl => lv_sipush (v := nI 200) hx hb d_Mo_add_53 (by decide)) ?_
          refine gsb (pc1 := 82) (pc2 := 59) (fun _ _ _ _ _ => lv_icmp_ne (tgt := 82) hx hb d_Mo_add_56 (by decide)) (fun c_149 => ?_) (fun c_149 => ?_)
          · skip
            have nc_149 : S.n ≠ 200 := (nn_ne (a := S.n) (b := 200) (by omega) (by omega)).1 c_149
            refine gs (pc' := 83) (fun _ _ _ _ _ hl => lv_aload_n hx hb d_Mo_add_82 rfl (lv_at hl 0 rfl)) ?_
            refine gs (pc' := 84) (fun _ _ _ _ _ hl => lv_iload_n hx hb d_Mo_add_83 rfl (lv_at hl 1 rfl)) ?_
            have hV_150 : MW cA hm A S 0 qm qo qk G_118 := ⟨sg_103, sh_104, kt_105, kb_106, ks_107, Rr_108, _, f_121, mr_125, f_122, v_113, v_114, v_115, mb_126⟩
            refine g_outv hlo (g_runV (As := [.int (nI i)]) (rest := []) ⟨hx, hb, hml, hown, hts⟩ hK hZ hRc hRs (c_Mo_load l D cA lo MC MS G_118 B hm A S 0 qm qo qk hV_150 hW i (by omega) hB1 hB2) (fun _ _ => cwV 1 hts (tb_good (tb_cons wm897 (tb_cons wm899 (tb_cons ws34 (tb_cons wm12 k_Mo_load))))) rfl rfl rfl (by decide +kernel) ⟨by rw [hRf]; exact Nat.le_of_ble_eq_true rfl, by rw [hRl]; exact Nat.le_of_ble_eq_true rfl⟩) f_121 rfl hB1 hB2 rfl (Nat.le_of_ble_eq_true rfl) d_Mo_add_84) (fun G_151 B_152 p_153 => ?_)
            obtain ⟨e_154, hV_155, gf_156⟩ := p_153
            have e_154b : B = B_152 := e_154.symm
            subst e_154b
            have gf_157 : gfr mT G G_151 := mT_mT gf_123 gf_156
            refine gs (pc' := 88) (fun _ _ _ _ _ hl => lv_aload_n hx hb d_Mo_add_87 rfl (lv_at hl 0 rfl)) ?_
            refine gs (pc' := 89) (fun _ _ _ _ _ hl => lv_iload_n hx hb d_Mo_add_88 rfl (lv_at hl 2 rfl)) ?_
            obtain ⟨sg_158, sh_159, kt_160, kb_161, ks_162, Rr_163, kf_164, v_165, v_166, v_167, v_168, v_169, v_170, v_171⟩ := id hV_155
            have f_172 : G_151 hm = some (70, .inr (9, [.int (nI 0), .int (nI S.n), .ref (A 2), .ref (A 3), .ref (A 4), .ref (A 5), .int sg_158, .int sh_159, .ref (A 8), .ref (A 9), .int (nI S.rn), .ref (A 11), .ref (A 12), .ref (A 13), .int (nI S.wn), .ref (A 15), .ref (A 16), .ref (A 17), .ref (A 18), .int kt_160, .int kb_161, .int ks_162])) := v_165
            have hV_173 : MW cA hm A S 0 (some (S.v i)) qo qk G_151 := ⟨sg_158, sh_159, kt_160, kb_161, ks_162, Rr_163, _, f_172, v_166, v_167, v_168, v_169, v_170, v_171⟩
            refine g_outv hlo (g_runV (As := [.int (nI j)]) (rest := []) ⟨hx, hb, hml, hown, hts⟩ hK hZ hRc hRs (c_Mo_loadOther l D cA lo MC MS G_151 B hm A S 0 (some (S.v i)) qo qk hV_173 hW j (by omega) hB1 hB2) (fun _ _ => cwV 1 hts (tb_good (tb_cons wm905 (tb_cons wm907 (tb_cons ws36 (tb_cons wm12 k_Mo_loadOther))))) rfl rfl rfl (by decide +kernel) ⟨by rw [hRf]; exact Nat.le_of_ble_eq_true rfl, by rw [hRl]; exact Nat.le_of_ble_eq_true rfl⟩) f_172 rfl hB1 hB2 rfl (Nat.le_of_ble_eq_true rfl) d_Mo_add_89) (fun G_174 B_175 p_176 => ?_)
            obtain ⟨e_177, hV_178, gf_179⟩ := p_176
            have e_177b : B = B_175 := e_177.symm
            subst e_177b
            have gf_180 : gfr mT G G_174 := mT_mT gf_157 gf_179
            refine gs (pc' := 93) (fun _ _ _ _ _ hl => lv_aload_n hx hb d_Mo_add_92 rfl (lv_at hl 0 rfl)) ?_
            refine gs (pc' := 94) (fun _ _ _ _ _ hl => lv_iload_n hx hb d_Mo_add_93 rfl (lv_at hl 3 rfl)) ?_
            refine gsb (pc1 := 101) (pc2 := 97) (fun _ _ _ _ _ => lv_if_eq (tgt := 101) hx hb d_Mo_add_94 (by decide)) (fun c_181 => ?_) (fun c_181 => ?_)
            · skip
              have hle9 : decide (le ≠ 0) = false := decide_eq_false (fun h9 => h9 c_181)
              refine gs (pc' := 102) (fun _ _ _ _ _ hl => lv_iconst (v := nI 1) hx hb d_Mo_add_101 (by decide)) ?_
              have rbq_182 : rb ((S.v i) + (S.v j)) (100 + 100 + 1) := rb_add (j := 100) (k := 100) rbq_51 rbq_102
              obtain ⟨sg_183, sh_184, kt_185, kb_186, ks_187, Rr_188, kf_189, v_190, v_191, v_192, v_193, v_194, v_195, v_196⟩ := id hV_178
              have f_197 : G_174 hm = some (70, .inr (9, [.int (nI 0), .int (nI S.n), .ref (A 2), .ref (A 3), .ref (A 4), .ref (A 5), .int sg_183, .int sh_184, .ref (A 8), .ref (A 9), .int (nI S.rn), .ref (A 11), .ref (A 12), .ref (A 13), .int (nI S.wn), .ref (A 15), .ref (A 16), .ref (A 17), .ref (A 18), .int kt_185, .int kb_186, .int ks_187])) := v_190
              have hV_198 : MW cA hm A S 0 (some (S.v i)) (some (S.v j)) qk G_174 := ⟨sg_183, sh_184, kt_185, kb_186, ks_187, Rr_188, _, f_197, v_191, v_192, v_193, v_194, v_195, v_196⟩
              refine g_outv hlo (g_runV (As := [.int (nI 1)]) (rest := []) ⟨hx, hb, hml, hown, hts⟩ hK hZ hRc hRs (c_Mo_addOther l D cA lo MC MS G_174 B hm A S 0 (some (S.v i)) (some (S.v j)) qk hV_198 hW (S.v i) (S.v j) rfl rfl (100) rbq_51 (100) rbq_102 (by omega) 1 ((S.v i) + (S.v j)) (Or.inl ⟨rfl, rfl⟩) hB1 hB2) (fun _ _ => cwV 1 hts (tb_good (tb_cons wm909 (tb_cons wm911 (tb_cons ws37 (tb_cons wm12 k_Mo_addOther))))) rfl rfl rfl (by decide +kernel) ⟨by rw [hRf]; exact Nat.le_of_ble_eq_true rfl, by rw [hRl]; exact Nat.le_of_ble_eq_true rfl⟩) f_197 rfl hB1 hB2 rfl (Nat.le_of_ble_eq_true rfl) d_Mo_add_102) (fun G_199 B_200 p_201 => ?_)
              obtain ⟨e_202, hV_203, gf_204⟩ := p_201
              have e_202b : B = B_200 := e_202.symm
              subst e_202b
              have gf_205 : gfr mT G G_199 := mT_mT gf_180 gf_204
              refine gs (pc' := 106) (fun _ _ _ _ _ hl => lv_aload_n hx hb d_Mo_add_105 rfl (lv_at hl 0 rfl)) ?_
              refine gs (pc' := 107) (fun _ _ _ _ _ hl => lv_aload_n hx hb d_Mo_add_106 rfl (lv_at hl 0 rfl)) ?_
              obtain ⟨sg_206, sh_207, kt_208, kb_209, ks_210, Rr_211, kf_212, v_213, v_214, v_215, v_216, v_217, v_218, v_219⟩ := id hV_203
              have f_220 : G_199 hm = some (70, .inr (9, [.int (nI 0), .int (nI S.n), .ref (A 2), .ref (A 3), .ref (A 4), .ref (A 5), .int sg_206, .int sh_207, .ref (A 8), .ref (A 9), .int (nI S.rn), .ref (A 11), .ref (A 12), .ref (A 13), .int (nI S.wn), .ref (A 15), .ref (A 16), .ref (A 17), .ref (A 18), .int kt_208, .int kb_209, .int ks_210])) := v_213
              refine g_get hx hb hts hin_Mo hown hK f_220 rfl 3 (by decide) (hts _ wm757) (fun _ h9 => h9) rfl d_Mo_add_107 ?_
              refine gs (pc' := 111) (fun _ _ _ _ _ hl => lv_iload_n hx hb d_Mo_add_110 rfl (lv_at hl 1 rfl)) ?_
              obtain ⟨sgn_221, unt_222, sto_223, szs_224, f_225, f_226, f_227, f_228, hv_229⟩ := id v_219.1
              refine g_iald hx hb hK 0 f_226 rfl (show vp_in (nI i) 200 from vp_in_nI (by omega) (by omega)) d_Mo_add_111 ?_
              refine g_eqi (show unt_222 (nI i).toNatClampNeg = unt_222 i from by rw [nI_clamp (by omega)]) ?_
              refine g_eqi (show unt_222 i = iI (S.un i) from (hv_229 i (by omega)).2.1) ?_
              have ub_230 := (hW.v i (by omega)).2.1
              have ub_231 := (hW.v i (by omega)).2.2
              have hV_232 : MW cA hm A S 0 (some ((S.v i) + (S.v j))) none qk G_199 := ⟨sg_206, sh_207, kt_208, kb_209, ks_210, Rr_211, _, f_220, v_214, v_215, v_216, v_217, v_218, v_219⟩
              refine g_outi hlo (g_runV (As := [.int (iI (S.un i))]) (rest := []) ⟨hx, hb, hml, hown, hts⟩ hK hZ hRc hRs (c_Mo_keep l D cA lo MC MS G_199 B hm A S 0 (some ((S.v i) + (S.v j))) none qk hV_232 hW ((S.v i) + (S.v j)) rfl (100 + 100 + 1) rbq_182 (by omega) (S.un i) (hW.v i hi_i).2 (by omega) hB1 hB2) (fun _ _ => cwV 1 hts (tb_good (tb_cons wm881 (tb_cons wm883 (tb_cons ws31 (tb_cons wm12 k_Mo_keep))))) rfl rfl rfl (by decide +kernel) ⟨by rw [hRf]; exact Nat.le_of_ble_eq_true rfl, by rw [hRl]; exact Nat.le_of_ble_eq_true rfl⟩) f_220 rfl hB1 hB2 rfl (Nat.le_of_ble_eq_true rfl) d_Mo_add_112) (fun r_236 G_233 B_234 p_235 => ?_)
              obtain ⟨e_237, e_240, hV_238, gf_239⟩ := p_235
              subst e_240
              have e_237b : B = B_234 := e_237.symm
              subst e_237b
              have gf_241 : gfr mT G G_233 := mT_mT gf_205 gf_239
              rw [st_add hn hi_i hi_j, if_neg (show ¬ S.un i ≠ S.un j by omega), if_neg (show ¬ S.n = 200 by omega), hle9, if_neg (by decide)] at hret
              exact hret 115 _ _ _ _ d_Mo_add_115 hB1 hB2 ⟨rfl, fun _ => rfl, MW_k hV_238, gf_241⟩
            · skip
              have hle9 : decide (le ≠ 0) = true := decide_eq_true c_181
              refine gs (pc' := 98) (fun _ _ _ _ _ hl => lv_iconst (v := (-1)) hx hb d_Mo_add_97 (by decide)) ?_
              refine g_eqi (show (-1) = iI (-1) from by decide) ?_
              refine gs (pc' := 102) (fun _ _ _ _ _ hl => lv_goto (tgt := 102) hx hb d_Mo_add_98 (by decide)) ?_
              have rbq_242 : rb ((S.v i) - (S.v j)) (100 + 100 + 1) := rb_sub (j := 100) (k := 100) rbq_51 rbq_102
              obtain ⟨sg_243, sh_244, kt_245, kb_246, ks_247, Rr_248, kf_249, v_250, v_251, v_252, v_253, v_254, v_255, v_256⟩ := id hV_178
              have f_257 : G_174 hm = some (70, .inr (9, [.int (nI 0), .int (nI S.n), .ref (A 2), .ref (A 3), .ref (A 4), .ref (A 5), .int sg_243, .int sh_244, .ref (A 8), .ref (A 9), .int (nI S.rn), .ref (A 11), .ref (A 12), .ref (A 13), .int (nI S.wn), .ref (A 15), .ref (A 16), .ref (A 17), .ref (A 18), .int kt_245, .int kb_246, .int ks_247])) := v_250
              have hV_258 : MW cA hm A S 0 (some (S.v i)) (some (S.v j)) qk G_174 := ⟨sg_243, sh_244, kt_245, kb_246, ks_247, Rr_248, _, f_257, v_251, v_252, v_253, v_254, v_255, v_256⟩
              refine g_outv hlo (g_runV (As := [.int (iI (-1))]) (rest := []) ⟨hx, hb, hml, hown, hts⟩ hK hZ hRc hRs (c_Mo_addOther l D cA lo MC MS G_174 B hm A S 0 (some (S.v i)) (some (S.v j)) qk hV_258 hW (S.v i) (S.v j) rfl rfl (100) rbq_51 (100) rbq_102 (by omega) (-1) ((S.v i) - (S.v j)) (Or.inr ⟨rfl, rfl⟩) hB1 hB2) (fun _ _ => cwV 1 hts (tb_good (tb_cons wm909 (tb_cons wm911 (tb_cons ws37 (tb_cons wm12 k_Mo_addOther))))) rfl rfl rfl (by decide +kernel) ⟨by rw [hRf]; exact Nat.le_of_ble_eq_true rfl, by rw [hRl]; exact Nat.le_of_ble_eq_true rfl⟩) f_257 rfl hB1 hB2 rfl (Nat.le_of_ble_eq_true rfl) d_Mo_add_102) (fun G_259 B_260 p_261 => ?_)
              obtain ⟨e_262, hV_263, gf_264⟩ := p_261
              have e_262b : B = B_260 := e_262.symm
              subst e_262b
              have gf_265 : gfr mT G G_259 := mT_mT gf_180 gf_264
              refine gs (pc' := 106) (fun _ _ _ _ _ hl => lv_aload_n hx hb d_Mo_add_105 rfl (lv_at hl 0 rfl)) ?_
              refine gs (pc' := 107) (fun _ _ _ _ _ hl => lv_aload_n hx hb d_Mo_add_106 rfl (lv_at hl 0 rfl)) ?_
              obtain ⟨sg_266, sh_267, kt_268, kb_269, ks_270, Rr_271, kf_272, v_273, v_274, v_275, v_276, v_277, v_278, v_279⟩ := id hV_263
              have f_280 : G_259 hm = some (70, .inr (9, [.int (nI 0), .int (nI S.n), .ref (A 2), .ref (A 3), .ref (A 4), .ref (A 5), .int sg_266, .int sh_267, .ref (A 8), .ref (A 9), .int (nI S.rn), .ref (A 11), .ref (A 12), .ref (A 13), .int (nI S.wn), .ref (A 15), .ref (A 16), .ref (A 17), .ref (A 18), .int kt_268, .int kb_269, .int ks_270])) := v_273
              refine g_get hx hb hts hin_Mo hown hK f_280 rfl 3 (by decide) (hts _ wm757) (fun _ h9 => h9) rfl d_Mo_add_107 ?_
              refine gs (pc' := 111) (fun _ _ _ _ _ hl => lv_iload_n hx hb d_Mo_add_110 rfl (lv_at hl 1 rfl)) ?_
              obtain ⟨sgn_281, unt_282, sto_283, szs_284, f_285, f_286, f_287, f_288, hv_289⟩ := id v_279.1
              refine g_iald hx hb hK 0 f_286 rfl (show vp_in (nI i) 200 from vp_in_nI (by omega) (by omega)) d_Mo_add_111 ?_
              refine g_eqi (show unt_282 (nI i).toNatClampNeg = unt_282 i from by rw [nI_clamp (by omega)]) ?_
              refine g_eqi (show unt_282 i = iI (S.un i) from (hv_289 i (by omega)).2.1) ?_
              have ub_290 := (hW.v i (by omega)).2.1
              have ub_291 := (hW.v i (by omega)).2.2
              have hV_292 : MW cA hm A S 0 (some ((S.v i) - (S.v j))) none qk G_259 := ⟨sg_266, sh_267, kt_268, kb_269, ks_270, Rr_271, _, f_280, v_274, v_275, v_276, v_277, v_278, v_279⟩
              refine g_outi hlo (g_runV (As := [.int (iI (S.un i))]) (rest := []) ⟨hx, hb, hml, hown, hts⟩ hK hZ hRc hRs (c_Mo_keep l D cA lo MC MS G_259 B hm A S 0 (some ((S.v i) - (S.v j))) none qk hV_292 hW ((S.v i) - (S.v j)) rfl (100 + 100 + 1) rbq_242 (by omega) (S.un i) (hW.v i hi_i).2 (by omega) hB1 hB2) (fun _ _ => cwV 1 hts (tb_good (tb_cons wm881 (tb_cons wm883 (tb_cons ws31 (tb_cons wm12 k_Mo_keep))))) rfl rfl rfl (by decide +kernel) ⟨by rw [hRf]; exact Nat.le_of_ble_eq_true rfl, by rw [hRl]; exact Nat.le_of_ble_eq_true rfl⟩) f_280 rfl hB1 hB2 rfl (Nat.le_of_ble_eq_true rfl) d_Mo_add_112) (fun r_296 G_293 B_294 p_295 => ?_)
              obtain ⟨e_297, e_300, hV_298, gf_299⟩ := p_295
              subst e_300
              have e_297b : B = B_294 := e_297.symm
              subst e_297b
              have gf_301 : gfr mT G G_293 := mT_mT gf_265 gf_299
              rw [st_add hn hi_i hi_j, if_neg (show ¬ S.un i ≠ S.un j by omega), if_neg (show ¬ S.n = 200 by omega), hle9, if_pos rfl] at hret
              exact hret 115 _ _ _ _ d_Mo_add_115 hB1 hB2 ⟨rfl, fun _ => rfl, MW_k hV_298, gf_301⟩
          · skip
            have nc_149 : S.n = 200 := (nn_ne (a := S.n) (b := 200) (by omega) (by omega)).2 c_149
            refine gs (pc' := 60) (fun _ _ _ _ _ hl => lv_aload_n hx hb d_Mo_add_59 rfl (lv_at hl 0 rfl)) ?_
            refine g_get hx hb hts hin_Mo hown hK f_121 rfl 3 (by decide) (hts _ wm757) (fun _ h9 => h9) rfl d_Mo_add_60 ?_
            refine gs (pc' := 64) (fun _ _ _ _ _ hl => lv_iload_n hx hb d_Mo_add_63 rfl (lv_at hl 1 rfl)) ?_
            refine g_iald hx hb hK 0 f_133 rfl (show vp_in (nI i) 200 from vp_in_nI (by omega) (by omega)) d_Mo_add_64 ?_
            refine g_eqi (show unt_129 (nI i).toNatClampNeg = unt_129 i from by rw [nI_clamp (by omega)]) ?_
            refine g_eqi (show unt_129 i = iI (S.un i) from (hv_136 i (by omega)).2.1) ?_
            have ub_302 := (hW.v i (by omega)).2.1
            have ub_303 := (hW.v i (by omega)).2.2
            refine gs (pc' := 66) (fun _ _ _ _ _ hl => lv_aload_n hx hb d_Mo_add_65 rfl (lv_at hl 0 rfl)) ?_
            refine g_get hx hb hts hin_Mo hown hK f_121 rfl 3 (by decide) (hts _ wm757) (fun _ h9 => h9) rfl d_Mo_add_66 ?_
            refine gs (pc' := 70) (fun _ _ _ _ _ hl => lv_iload_n hx hb d_Mo_add_69 rfl (lv_at hl 2 rfl)) ?_
            refine g_iald hx hb hK 0 f_133 rfl (show vp_in (nI j) 200 from vp_in_nI (by omega) (by omega)) d_Mo_add_70 ?_
            refine g_eqi (show unt_129 (nI j).toNatClampNeg = unt_129 j from by rw [nI_clamp (by omega)]) ?_
            refine g_eqi (show unt_129 j = iI (S.un j) from (hv_136 j (by omega)).2.1) ?_
            have ub_304 := (hW.v j (by omega)).2.1
            have ub_305 := (hW.v j (by omega)).2.2
            refine gsb (pc1 := 79) (pc2 := 74) (fun _ _ _ _ _ => lv_icmp_eq (tgt := 79) hx hb d_Mo_add_71 (by decide)) (fun c_306 => ?_) (fun c_306 => ?_)
            · skip
              have nc_306 : (S.un i) = (S.un j) := (ii_eq (a := (S.un i)) (b := (S.un j)) (by omega) (by omega) (by omega) (by omega)).1 (by first | exact c_306 | (have z9 := c_306; simp only [nI_iI] at z9; exact z9))
              refine gs (pc' := 81) (fun _ _ _ _ _ hl => lv_bipush (v := (-3)) hx hb d_Mo_add_79 (by decide)) ?_
              refine g_eqi (show (-3) = iI (-3) from by decide) ?_
              have hV_307 : MW cA hm A S 0 none none none G_118 := ⟨sg_103, sh_104, kt_105, kb_106, ks_107, Rr_108, _, f_121, mr_125, f_122, sn_, sn_, sn_, mb_126⟩
              rw [st_add hn hi_i hi_j, if_neg (show ¬ S.un i ≠ S.un j by omega), if_pos (show S.n = 200 by omega)] at hret
              exact hret 81 _ _ _ _ d_Mo_add_81 hB1 hB2 ⟨rfl, fun _ => rfl, hV_307, gf_123⟩
            · skip
              have nc_306 : (S.un i) ≠ (S.un j) := (ii_eq (a := (S.un i)) (b := (S.un j)) (by omega) (by omega) (by omega) (by omega)).2 (by first | exact c_306 | (have z9 := c_306; simp only [nI_iI] at z9; exact z9))
              refine gs (pc' := 76) (fun _ _ _ _ _ hl => lv_bipush (v := (-2)) hx hb d_Mo_add_74 (by decide)) ?_
              refine g_eqi (show (-2) = iI (-2) from by decide) ?_
              refine gs (pc' := 81) (fun _ _ _ _ _ hl => lv_goto (tgt := 81) hx hb d_Mo_add_76 (by decide)) ?_
              have hV_308 : MW cA hm A S 0 none none none G_118 := ⟨sg_103, sh_104, kt_105, kb_106, ks_107, Rr_108, _, f_121, mr_125, f_122, sn_, sn_, sn_, mb_126⟩
              rw [st_add hn hi_i hi_j, if_pos (show S.un i ≠ S.un j by omega)] at hret
              exact hret 81 _ _ _ _ d_Mo_add_81 hB1 hB2 ⟨rfl, fun _ => rfl, hV_308, gf_123⟩
      · skip
        have nc_127 : 0 > 0 := (n0_le (a := 0) (by omega)).2 c_127
        exact absurd nc_127 (by decide)
set_option maxHeartbeats 4000000 in
set_option maxRecDepth 100000 in
theorem c_Mo_times (l : Launch) (D : va_G) (cA : Nat → ClassId) (lo MC MS : Nat) (G : gT) (B : Nat × Nat) (hm : Nat) (A : Nat → Nat) (S : St) (th : Nat) (qm qo qk : Option Rat) (hV : MW cA hm A S th qm qo qk G) (hW : WF S) (x : Int) (hx1 : -2147483648 ≤ x) (hx2 : x < 2147483648) (y : Int) (hy1 : -2147483648 ≤ y) (hy2 : y < 2147483648) (hB1 : B.1 ≤ MC) (hB2 : B.2 ≤ MS) : gMet l y_Mo_times w_Mo_times 5 129 D clS (gtys cA) lo MC MS [.ref hm, .int (iI x), .int (iI y)] G B (gQi D clS lo (fun r9 u => u.2 = B ∧ ((sp_times S (iI x) (iI y)).1 = 0 → r9 = iI (sp_times S (iI x) (iI y)).2.1) ∧ MW cA hm A (sp_times S (iI x) (iI y)).2.2 (sp_times S (iI x) (iI y)).1 none none none u.1 ∧ gfr mT G u.1)) := by
  refine g_meti (cc := prog_11_method_30_code) (nL := 4) (L := [(0, .ref hm), (1, .int (iI x)), (2, .int (iI y))]) (by decide +kernel) rfl (Nat.le_of_ble_eq_true rfl) rfl ?_
  intro p e R s m args below meth c Q hF hRc hRs hRf hRl hret
  obtain ⟨hx, hb, hr, hml, hts0, hown, hlocks, hin, hK, hlo, hZ⟩ := hF
  have hts : ∀ w ∈ tbg, w.before args s = true := fun w h => hts0 w (List.mem_cons_of_mem _ h)
  have hn := hW.n
  have hrn := hW.rn
  have hwn := hW.wn
  refine gs (pc' := 1) (fun _ _ _ _ _ hl => lv_aload_n hx hb d_Mo_times_0 rfl (lv_at hl 0 rfl)) ?_
  refine gs (pc' := 2) (fun _ _ _ _ _ hl => lv_aload_n hx hb d_Mo_times_1 rfl (lv_at hl 0 rfl)) ?_
  refine gs (pc' := 3) (fun _ _ _ _ _ hl => lv_iload_n hx hb d_Mo_times_2 rfl (lv_at hl 1 rfl)) ?_
  obtain ⟨sg_1, sh_2, kt_3, kb_4, ks_5, Rr_6, kf_7, v_8, v_9, v_10, v_11, v_12, v_13, v_14⟩ := id hV
  have f_15 : G hm = some (70, .inr (9, [.int (nI th), .int (nI S.n), .ref (A 2), .ref (A 3), .ref (A 4), .ref (A 5), .int sg_1, .int sh_2, .ref (A 8), .ref (A 9), .int (nI S.rn), .ref (A 11), .ref (A 12), .ref (A 13), .int (nI S.wn), .ref (A 15), .ref (A 16), .ref (A 17), .ref (A 18), .int kt_3, .int kb_4, .int ks_5])) := v_8
  have hV_16 : MW cA hm A S th qm qo qk G := ⟨sg_1, sh_2, kt_3, kb_4, ks_5, Rr_6, _, f_15, v_9, v_10, v_11, v_12, v_13, v_14⟩
  refine g_outi hlo (g_runV (As := [.int (iI x)]) (rest := [.ref hm]) ⟨hx, hb, hml, hown, hts⟩ hK hZ hRc hRs (c_Mo_isValue l D cA lo MC MS G B hm A S th qm qo qk hV_16 hW x (by omega) (by omega) hB1 hB2) (fun _ _ => cwV 1 hts (tb_good (tb_cons wm893 (tb_cons wm895 (tb_cons ws33 (tb_cons wm12 k_Mo_isValue))))) rfl rfl rfl (by decide +kernel) ⟨by rw [hRf]; exact Nat.le_of_ble_eq_true rfl, by rw [hRl]; exact Nat.le_of_ble_eq_true rfl⟩) f_15 rfl hB1 hB2 rfl (Nat.le_of_ble_eq_true rfl) d_Mo_times_3) (fun r_20 G_17 B_18 p_19 => ?_)
  obtain ⟨u_21, e_22⟩ := p_19
  cases u_21
  subst e_22
  have bd_23 := b01_le (decide (0 ≤ x ∧ x < S.n))
  refine gsb (pc1 := 21) (pc2 := 9) (fun _ _ _ _ _ => lv_if_eq (tgt := 21) hx hb d_Mo_times_6 (by decide)) (fun c_24 => ?_) (fun c_24 => ?_)
  · skip
    have nc_24 : (b01 (decide (0 ≤ x ∧ x < S.n))) = 0 := (n0_eq (a := (b01 (decide (0 ≤ x ∧ x < S.n)))) (by omega)).1 c_24
    have hb_x : ¬ (0 ≤ x ∧ x < S.n) := b01_0 nc_24
    refine gs (pc' := 22) (fun _ _ _ _ _ hl => lv_iconst (v := nI 1) hx hb d_Mo_times_21 (by decide)) ?_
    obtain ⟨sg_25, sh_26, kt_27, kb_28, ks_29, Rr_30, kf_31, v_32, v_33, v_34, v_35, v_36, v_37, v_38⟩ := id hV_16
    have f_39 : G hm = some (70, .inr (9, [.int (nI th), .int (nI S.n), .ref (A 2), .ref (A 3), .ref (A 4), .ref (A 5), .int sg_25, .int sh_26, .ref (A 8), .ref (A 9), .int (nI S.rn), .ref (A 11), .ref (A 12), .ref (A 13), .int (nI S.wn), .ref (A 15), .ref (A 16), .ref (A 17), .ref (A 18), .int kt_27, .int kb_28, .int ks_29])) := v_32
    refine g_put (ty := .int) hx hb hts hin_Mo ty_Mo ty_Mo_ok nm_Mo hown hK f_39 rfl 0 (by decide) (hts _ wm754) (fun _ h9 => h9) rfl (by decide +kernel) rfl rfl (Nat.le_of_ble_eq_true rfl) d_Mo_times_22 (fun G_40 f_41 o_42 => ?_)
    have f_43 : G_40 hm = some (70, .inr (9, [.int (nI 1), .int (nI S.n), .ref (A 2), .ref (A 3), .ref (A 4), .ref (A 5), .int sg_25, .int sh_26, .ref (A 8), .ref (A 9), .int (nI S.rn), .ref (A 11), .ref (A 12), .ref (A 13), .int (nI S.wn), .ref (A 15), .ref (A 16), .ref (A 17), .ref (A 18), .int kt_27, .int kb_28, .int ks_29])) := f_41
    have f_44 : G_40 (A 18) = some (83, .inl (cA 0, 8600, .inl kf_31)) := (o_42 _ (gne v_34 f_39 (fun e => by cases e))).trans v_34
    have gf_45 : gfr mT G G_40 := gfr_put gfr_rf f_39 (show mT 70 by decide) o_42
    have gf_46 : gfr (fun x => x = 70) _ G_40 := gfr_put gfr_rf f_39 rfl o_42
    have mr_47 : MR cA A Rr_30 G_40 := MR_fr v_33 gf_46 (show ¬ (75 : Nat) = 70 by decide) (show ¬ (76 : Nat) = 70 by decide)
    have mb_48 : MB cA A S G_40 := MB_fr v_38 gf_46 (fun x h9 => by omega)
    refine gs (pc' := 26) (fun _ _ _ _ _ hl => lv_aload_n hx hb d_Mo_times_25 rfl (lv_at hl 0 rfl)) ?_
    refine g_get hx hb hts hin_Mo hown hK f_43 rfl 0 (by decide) (hts _ wm754) (fun _ h9 => h9) rfl d_Mo_times_26 ?_
    refine gsb (pc1 := 34) (pc2 := 32) (fun _ _ _ _ _ => lv_if_le (tgt := 34) hx hb d_Mo_times_29 (by decide)) (fun c_49 => ?_) (fun c_49 => ?_)
    · skip
      have nc_49 : 1 ≤ 0 := (n0_le (a := 1) (by omega)).1 c_49
      exact absurd nc_49 (by decide)
    · skip
      have nc_49 : 1 > 0 := (n0_le (a := 1) (by omega)).2 c_49
      refine gs (pc' := 33) (fun _ _ _ _ _ hl => lv_iconst (v := nI 0) hx hb d_Mo_times_32 (by decide)) ?_
      have hV_50 : MW cA hm A S 1 none none none G_40 := ⟨sg_25, sh_26, kt_27, kb_28, ks_29, Rr_30, _, f_43, mr_47, f_44, sn_, sn_, sn_, mb_48⟩
      rw [su_times (fun q9 => vn_ hx1 hx2 hb_x q9.1)] at hret
      exact hret 33 _ _ _ _ d_Mo_times_33 hB1 hB2 ⟨rfl, fun h9 => absurd (show (1 : Nat) = 0 from h9) (by decide), hV_50, gf_45⟩
  · skip
    have nc_24 : (b01 (decide (0 ≤ x ∧ x < S.n))) ≠ 0 := (n0_eq (a := (b01 (decide (0 ≤ x ∧ x < S.n)))) (by omega)).2 c_24
    have hg_x : 0 ≤ x ∧ x < S.n := b01_1 nc_24
    have hg1_x := hg_x.1
    have hg2_x := hg_x.2
    obtain ⟨i, hxe_i⟩ : ∃ i : Nat, x = (i : Int) := ⟨x.toNat, by omega⟩
    subst hxe_i
    rw [← nI_iI i] at hret ⊢
    have hi_i : i < S.n := by omega
    have rbq_51 : rb (S.v i) 100 := rb_of (hW.v _ hi_i).1
    refine gs (pc' := 10) (fun _ _ _ _ _ hl => lv_aload_n hx hb d_Mo_times_9 rfl (lv_at hl 0 rfl)) ?_
    refine gs (pc' := 11) (fun _ _ _ _ _ hl => lv_iload_n hx hb d_Mo_times_10 rfl (lv_at hl 2 rfl)) ?_
    obtain ⟨sg_52, sh_53, kt_54, kb_55, ks_56, Rr_57, kf_58, v_59, v_60, v_61, v_62, v_63, v_64, v_65⟩ := id hV_16
    have f_66 : G hm = some (70, .inr (9, [.int (nI th), .int (nI S.n), .ref (A 2), .ref (A 3), .ref (A 4), .ref (A 5), .int sg_52, .int sh_53, .ref (A 8), .ref (A 9), .int (nI S.rn), .ref (A 11), .ref (A 12), .ref (A 13), .int (nI S.wn), .ref (A 15), .ref (A 16), .ref (A 17), .ref (A 18), .int kt_54, .int kb_55, .int ks_56])) := v_59
    have hV_67 : MW cA hm A S th qm qo qk G := ⟨sg_52, sh_53, kt_54, kb_55, ks_56, Rr_57, _, f_66, v_60, v_61, v_62, v_63, v_64, v_65⟩
    refine g_outi hlo (g_runV (As := [.int (iI y)]) (rest := [.ref hm]) ⟨hx, hb, hml, hown, hts⟩ hK hZ hRc hRs (c_Mo_isValue l D cA lo MC MS G B hm A S th qm qo qk hV_67 hW y (by omega) (by omega) hB1 hB2) (fun _ _ => cwV 1 hts (tb_good (tb_cons wm893 (tb_cons wm895 (tb_cons ws33 (tb_cons wm12 k_Mo_isValue))))) rfl rfl rfl (by decide +kernel) ⟨by rw [hRf]; exact Nat.le_of_ble_eq_true rfl, by rw [hRl]; exact Nat.le_of_ble_eq_true rfl⟩) f_66 rfl hB1 hB2 rfl (Nat.le_of_ble_eq_true rfl) d_Mo_times_11) (fun r_71 G_68 B_69 p_70 => ?_)
    obtain ⟨u_72, e_73⟩ := p_70
    cases u_72
    subst e_73
    have bd_74 := b01_le (decide (0 ≤ y ∧ y < S.n))
    refine gsb (pc1 := 21) (pc2 := 17) (fun _ _ _ _ _ => lv_if_eq (tgt := 21) hx hb d_Mo_times_14 (by decide)) (fun c_75 => ?_) (fun c_75 => ?_)
    · skip
      have nc_75 : (b01 (decide (0 ≤ y ∧ y < S.n))) = 0 := (n0_eq (a := (b01 (decide (0 ≤ y ∧ y < S.n)))) (by omega)).1 c_75
      have hb_y : ¬ (0 ≤ y ∧ y < S.n) := b01_0 nc_75
      refine gs (pc' := 22) (fun _ _ _ _ _ hl => lv_iconst (v := nI 1) hx hb d_Mo_times_21 (by decide)) ?_
      obtain ⟨sg_76, sh_77, kt_78, kb_79, ks_80, Rr_81, kf_82, v_83, v_84, v_85, v_86, v_87, v_88, v_89⟩ := id hV_67
      have f_90 : G hm = some (70, .inr (9, [.int (nI th), .int (nI S.n), .ref (A 2), .ref (A 3), .ref (A 4), .ref (A 5), .int sg_76, .int sh_77, .ref (A 8), .ref (A 9), .int (nI S.rn), .ref (A 11), .ref (A 12), .ref (A 13), .int (nI S.wn), .ref (A 15), .ref (A 16), .ref (A 17), .ref (A 18), .int kt_78, .int kb_79, .int ks_80])) := v_83
      refine g_put (ty := .int) hx hb hts hin_Mo ty_Mo ty_Mo_ok nm_Mo hown hK f_90 rfl 0 (by decide) (hts _ wm754) (fun _ h9 => h9) rfl (by decide +kernel) rfl rfl (Nat.le_of_ble_eq_true rfl) d_Mo_times_22 (fun G_91 f_92 o_93 => ?_)
      have f_94 : G_91 hm = some (70, .inr (9, [.int (nI 1), .int (nI S.n), .ref (A 2), .ref (A 3), .ref (A 4), .ref (A 5), .int sg_76, .int sh_77, .ref (A 8), .ref (A 9), .int (nI S.rn), .ref (A 11), .ref (A 12), .ref (A 13), .int (nI S.wn), .ref (A 15), .ref (A 16), .ref (A 17), .ref (A 18), .int kt_78, .int kb_79, .int ks_80])) := f_92
      have f_95 : G_91 (A 18) = some (83, .inl (cA 0, 8600, .inl kf_82)) := (o_93 _ (gne v_85 f_90 (fun e => by cases e))).trans v_85
      have gf_96 : gfr mT G G_91 := gfr_put gfr_rf f_90 (show mT 70 by decide) o_93
      have gf_97 : gfr (fun x => x = 70) _ G_91 := gfr_put gfr_rf f_90 rfl o_93
      have mr_98 : MR cA A Rr_81 G_91 := MR_fr v_84 gf_97 (show ¬ (75 : Nat) = 70 by decide) (show ¬ (76 : Nat) = 70 by decide)
      have mb_99 : MB cA A S G_91 := MB_fr v_89 gf_97 (fun x h9 => by omega)
      refine gs (pc' := 26) (fun _ _ _ _ _ hl => lv_aload_n hx hb d_Mo_times_25 rfl (lv_at hl 0 rfl)) ?_
      refine g_get hx hb hts hin_Mo hown hK f_94 rfl 0 (by decide) (hts _ wm754) (fun _ h9 => h9) rfl d_Mo_times_26 ?_
      refine gsb (pc1 := 34) (pc2 := 32) (fun _ _ _ _ _ => lv_if_le (tgt := 34) hx hb d_Mo_times_29 (by decide)) (fun c_100 => ?_) (fun c_100 => ?_)
      · skip
        have nc_100 : 1 ≤ 0 := (n0_le (a := 1) (by omega)).1 c_100
        exact absurd nc_100 (by decide)
      · skip
        have nc_100 : 1 > 0 := (n0_le (a := 1) (by omega)).2 c_100
        refine gs (pc' := 33) (fun _ _ _ _ _ hl => lv_iconst (v := nI 0) hx hb d_Mo_times_32 (by decide)) ?_
        have hV_101 : MW cA hm A S 1 none none none G_91 := ⟨sg_76, sh_77, kt_78, kb_79, ks_80, Rr_81, _, f_94, mr_98, f_95, sn_, sn_, sn_, mb_99⟩
        rw [su_times (fun q9 => vn_ hy1 hy2 hb_y q9.2)] at hret
        exact hret 33 _ _ _ _ d_Mo_times_33 hB1 hB2 ⟨rfl, fun h9 => absurd (show (1 : Nat) = 0 from h9) (by decide), hV_101, gf_96⟩
    · skip
      have nc_75 : (b01 (decide (0 ≤ y ∧ y < S.n))) ≠ 0 := (n0_eq (a := (b01 (decide (0 ≤ y ∧ y < S.n)))) (by omega)).2 c_75
      have hg_y : 0 ≤ y ∧ y < S.n := b01_1 nc_75
      have hg1_y := hg_y.1
      have hg2_y := hg_y.2
      obtain ⟨j, hxe_j⟩ : ∃ j : Nat, y = (j : Int) := ⟨y.toNat, by omega⟩
      subst hxe_j
      rw [← nI_iI j] at hret ⊢
      have hi_j : j < S.n := by omega
      have rbq_102 : rb (S.v j) 100 := rb_of (hW.v _ hi_j).1
      refine gs (pc' := 18) (fun _ _ _ _ _ hl => lv_iconst (v := nI 0) hx hb d_Mo_times_17 (by decide)) ?_
      refine gs (pc' := 22) (fun _ _ _ _ _ hl => lv_goto (tgt := 22) hx hb d_Mo_times_18 (by decide)) ?_
      obtain ⟨sg_103, sh_104, kt_105, kb_106, ks_107, Rr_108, kf_109, v_110, v_111, v_112, v_113, v_114, v_115, v_116⟩ := id hV_67
      have f_117 : G hm = some (70, .inr (9, [.int (nI th), .int (nI S.n), .ref (A 2), .ref (A 3), .ref (A 4), .ref (A 5), .int sg_103, .int sh_104, .ref (A 8), .ref (A 9), .int (nI S.rn), .ref (A 11), .ref (A 12), .ref (A 13), .int (nI S.wn), .ref (A 15), .ref (A 16), .ref (A 17), .ref (A 18), .int kt_105, .int kb_106, .int ks_107])) := v_110
      refine g_put (ty := .int) hx hb hts hin_Mo ty_Mo ty_Mo_ok nm_Mo hown hK f_117 rfl 0 (by decide) (hts _ wm754) (fun _ h9 => h9) rfl (by decide +kernel) rfl rfl (Nat.le_of_ble_eq_true rfl) d_Mo_times_22 (fun G_118 f_119 o_120 => ?_)
      have f_121 : G_118 hm = some (70, .inr (9, [.int (nI 0), .int (nI S.n), .ref (A 2), .ref (A 3), .ref (A 4), .ref (A 5), .int sg_103, .int sh_104, .ref (A 8), .ref (A 9), .int (nI S.rn), .ref (A 11), .ref (A 12), .ref (A 13), .int (nI S.wn), .ref (A 15), .ref (A 16), .ref (A 17), .ref (A 18), .int kt_105, .int kb_106, .int ks_107])) := f_119
      have f_122 : G_118 (A 18) = some (83, .inl (cA 0, 8600, .inl kf_109)) := (o_120 _ (gne v_112 f_117 (fun e => by cases e))).trans v_112
      have gf_123 : gfr mT G G_118 := gfr_put gfr_rf f_117 (show mT 70 by decide) o_120
      have gf_124 : gfr (fun x => x = 70) _ G_118 := gfr_put gfr_rf f_117 rfl o_120
      have mr_125 : MR cA A Rr_108 G_118 := MR_fr v_111 gf_124 (show ¬ (75 : Nat) = 70 by decide) (show ¬ (76 : Nat) = 70 by decide)
      have mb_126 : MB cA A S G_118 := MB_fr v_116 gf_124 (fun x h9 => by omega)
      refine gs (pc' := 26) (fun _ _ _ _ _ hl => lv_aload_n hx hb d_Mo_times_25 rfl (lv_at hl 0 rfl)) ?_
      refine g_get hx hb hts hin_Mo hown hK f_121 rfl 0 (by decide) (hts _ wm754) (fun _ h9 => h9) rfl d_Mo_times_26 ?_
      refine gsb (pc1 := 34) (pc2 := 32) (fun _ _ _ _ _ => lv_if_le (tgt := 34) hx hb d_Mo_times_29 (by decide)) (fun c_127 => ?_) (fun c_127 => ?_)
      · skip
        have nc_127 : 0 ≤ 0 := (n0_le (a := 0) (by omega)).1 c_127
        refine gs (pc' := 35) (fun _ _ _ _ _ hl => lv_aload_n hx hb d_Mo_times_34 rfl (lv_at hl 0 rfl)) ?_
        refine g_get hx hb hts hin_Mo hown hK f_121 rfl 3 (by decide) (hts _ wm757) (fun _ h9 => h9) rfl d_Mo_times_35 ?_
        refine gs (pc' := 39) (fun _ _ _ _ _ hl => lv_iload_n hx hb d_Mo_times_38 rfl (lv_at hl 1 rfl)) ?_
        obtain ⟨sgn_128, unt_129, sto_130, szs_131, f_132, f_133, f_134, f_135, hv_136⟩ := id mb_126.1
        refine g_iald hx hb hK 0 f_133 rfl (show vp_in (nI i) 200 from vp_in_nI (by omega) (by omega)) d_Mo_times_39 ?_
        refine g_eqi (show unt_129 (nI i).toNatClampNeg = unt_129 i from by rw [nI_clamp (by omega)]) ?_
        refine g_eqi (show unt_129 i = iI (S.un i) from (hv_136 i (by omega)).2.1) ?_
        have ub_137 := (hW.v i (by omega)).2.1
        have ub_138 := (hW.v i (by omega)).2.2
        refine gs (pc' := 41) (fun _ _ _ _ _ hl => lv_aload_n hx hb d_Mo_times_40 rfl (lv_at hl 0 rfl)) ?_
        refine g_get hx hb hts hin_Mo hown hK f_121 rfl 3 (by decide) (hts _ wm757) (fun _ h9 => h9) rfl d_Mo_times_41 ?_
        refine gs (pc' := 45) (fun _ _ _ _ _ hl => lv_iload_n hx hb d_Mo_times_44 rfl (lv_at hl 2 rfl)) ?_
        refine g_iald hx hb hK 0 f_133 rfl (show vp_in (nI j) 200 from vp_in_nI (by omega) (by omega)) d_Mo_times_45 ?_
        refine g_eqi (show unt_129 (nI j).toNatClampNeg = unt_129 j from by rw [nI_clamp (by omega)]) ?_
        refine g_eqi (show unt_129 j = iI (S.un j) from (hv_136 j (by omega)).2.1) ?_
        have ub_139 := (hW.v j (by omega)).2.1
        have ub_140 := (hW.v j (by omega)).2.2
        refine gs (pc' := 47) (fun _ _ _ _ _ hl => lv_iadd hx hb d_Mo_times_46) ?_
        refine g_eqi (show (iI (S.un i)) + (iI (S.un j)) = iI ((S.un i) + (S.un j)) from by exact iI_add _ _) ?_
        refine gst (pc' := 48) (L' := [(3, .int (iI ((S.un i) + (S.un j)))), (0, .ref hm), (1, .int (nI i)), (2, .int (nI j))]) (fun _ _ _ _ _ hl => lv_istore_n hx hb d_Mo_times_47 rfl hl (by decide) rfl) ?_
        refine gs (pc' := 49) (fun _ _ _ _ _ hl => lv_iload_n hx hb d_Mo_times_48 rfl (lv_at hl 0 rfl)) ?_
        refine g_outi hlo (g_runS (As := [.int (iI ((S.un i) + (S.un j)))]) (rest := []) ⟨hx, hb, hml, hown, hts⟩ hK hZ hRc hRs (c_Mo_isUnit l D cA lo MC MS G_118 B ((S.un i) + (S.un j)) (by omega) (by omega) hB1 hB2) (fun _ _ => va_cwS 1 hts (tb_good (tb_cons wm829 (tb_cons wm830 (tb_cons wm12 k_Mo_isUnit)))) rfl rfl rfl (by decide +kernel) ⟨by rw [hRf]; exact Nat.le_of_ble_eq_true rfl, by rw [hRl]; exact Nat.le_of_ble_eq_true rfl⟩) hB1 hB2 rfl (Nat.le_of_ble_eq_true rfl) d_Mo_times_49) (fun r_144 G_141 B_142 p_143 => ?_)
        obtain ⟨u_145, e_146⟩ := p_143
        cases u_145
        subst e_146
        have bd_147 := b01_le (decide (uok ((S.un i) + (S.un j))))
        refine gsb (pc1 := 65) (pc2 := 55) (fun _ _ _ _ _ => lv_if_eq (tgt := 65) hx hb d_Mo_times_52 (by decide)) (fun c_148 => ?_) (fun c_148 => ?_)
        · skip
          have nc_148 : (b01 (decide (uok ((S.un i) + (S.un j))))) = 0 := (n0_eq (a := (b01 (decide (uok ((S.un i) + (S.un j)))))) (by omega)).1 c_148
          have huk : ¬ uok (S.un i + S.un j) := b01_0 nc_148
          refine gs (pc' := 66) (fun _ _ _ _ _ hl => lv_iload_n hx hb d_Mo_times_65 rfl (lv_at hl 0 rfl)) ?_
          refine g_outi hlo (g_runS (As := [.int (iI ((S.un i) + (S.un j)))]) (rest := []) ⟨hx, hb, hml, hown, hts⟩ hK hZ hRc hRs (c_Mo_isUnit l D cA lo MC MS G_118 B ((S.un i) + (S.un j)) (by omega) (by omega) hB1 hB2) (fun _ _ => va_cwS 1 hts (tb_good (tb_cons wm829 (tb_cons wm830 (tb_cons wm12 k_Mo_isUnit)))) rfl rfl rfl (by decide +kernel) ⟨by rw [hRf]; exact Nat.le_of_ble_eq_true rfl, by rw [hRl]; exact Nat.le_of_ble_eq_true rfl⟩) hB1 hB2 rfl (Nat.le_of_ble_eq_true rfl) d_Mo_times_66) (fun r_152 G_149 B_150 p_151 => ?_)
          obtain ⟨u_153, e_154⟩ := p_151
          cases u_153
          subst e_154
          have bd_155 := b01_le (decide (uok ((S.un i) + (S.un j))))
          refine gsb (pc1 := 77) (pc2 := 72) (fun _ _ _ _ _ => lv_if_ne (tgt := 77) hx hb d_Mo_times_69 (by decide)) (fun c_156 => ?_) (fun c_156 => ?_)
          · skip
            have nc_156 : (b01 (decide (uok ((S.un i) + (S.un j))))) ≠ 0 := (n0_ne (a := (b01 (decide (uok ((S.un i) + (S.un j)))))) (by omega)).1 c_156
            have huk9 : uok (S.un i + S.un j) := b01_1 nc_156
            refine gs (pc' := 79) (fun _ _ _ _ _ hl => lv_bipush (v := (-3)) hx hb d_Mo_times_77 (by decide)) ?_
            refine g_eqi (show (-3) = iI (-3) from by decide) ?_
            have hn2 : S.n = 200 := by first | omega | exact absurd huk9 huk
            have hV_157 : MW cA hm A S 0 none none none G_118 := ⟨sg_103, sh_104, kt_105, kb_106, ks_107, Rr_108, _, f_121, mr_125, f_122, sn_, sn_, sn_, mb_126⟩
            rw [st_times hn hi_i hi_j, if_neg (Decidable.not_not.mpr huk9), if_pos hn2] at hret
            exact hret 79 _ _ _ _ d_Mo_times_79 hB1 hB2 ⟨rfl, fun _ => rfl, hV_157, gf_123⟩
          · skip
            have nc_156 : (b01 (decide (uok ((S.un i) + (S.un j))))) = 0 := (n0_ne (a := (b01 (decide (uok ((S.un i) + (S.un j)))))) (by omega)).2 c_156
            have huk9 : ¬ uok (S.un i + S.un j) := b01_0 nc_156
            refine gs (pc' := 74) (fun _ _ _ _ _ hl => lv_bipush (v := (-2)) hx hb d_Mo_times_72 (by decide)) ?_
            refine g_eqi (show (-2) = iI (-2) from by decide) ?_
            refine gs (pc' := 79) (fun _ _ _ _ _ hl => lv_goto (tgt := 79) hx hb d_Mo_times_74 (by decide)) ?_
            have hV_158 : MW cA hm A S 0 none none none G_118 := ⟨sg_103, sh_104, kt_105, kb_106, ks_107, Rr_108, _, f_121, mr_125, f_122, sn_, sn_, sn_, mb_126⟩
            rw [st_times hn hi_i hi_j, if_pos huk9] at hret
            exact hret 79 _ _ _ _ d_Mo_times_79 hB1 hB2 ⟨rfl, fun _ => rfl, hV_158, gf_123⟩
        · skip
          have nc_148 : (b01 (decide (uok ((S.un i) + (S.un j))))) ≠ 0 := (n0_eq (a := (b01 (decide (uok ((S.un i) + (S.un j)))))) (by omega)).2 c_148
          have huk : uok (S.un i + S.un j) := b01_1 nc_148
          refine gs (pc' := 56) (fun _ _ _ _ _ hl => lv_aload_n hx hb d_Mo_times_55 rfl (lv_at hl 1 rfl)) ?_
          refine g_get hx hb hts hin_Mo hown hK f_121 rfl 1 (by decide) (hts _ wm755) (fun _ h9 => h9) rfl d_Mo_times_56 ?_
          refine gs (pc' := 62) (fun _ _ _ _ _ hl => lv_sipush (v := nI 200) hx hb d_Mo_times_59 (by decide)) ?_
          refine gsb (pc1 := 80) (pc2 := 65) (fun _ _ _ _ _ => lv_icmp_ne (tgt := 80) hx hb d_Mo_times_62 (by decide)) (fun c_159 => ?_) (fun c_159 => ?_)
          · skip
            have nc_159 : S.n ≠ 200 := (nn_ne (a := S.n) (b := 200) (by omega) (by omega)).1 c_159
            refine gs (pc' := 81) (fun _ _ _ _ _ hl => lv_aload_n hx hb d_Mo_times_80 rfl (lv_at hl 1 rfl)) ?_
            refine gs (pc' := 82) (fun _ _ _ _ _ hl => lv_iload_n hx hb d_Mo_times_81 rfl (lv_at hl 2 rfl)) ?_
            have hV_160 : MW cA hm A S 0 qm qo qk G_118 := ⟨sg_103, sh_104, kt_105, kb_106, ks_107, Rr_108, _, f_121, mr_125, f_122, v_113, v_114, v_115, mb_126⟩
            refine g_outv hlo (g_runV (As := [.int (nI i)]) (rest := []) ⟨hx, hb, hml, hown, hts⟩ hK hZ hRc hRs (c_Mo_load l D cA lo MC MS G_118 B hm A S 0 qm qo qk hV_160 hW i (by omega) hB1 hB2) (fun _ _ => cwV 1 hts (tb_good (tb_cons wm897 (tb_cons wm899 (tb_cons ws34 (tb_cons wm12 k_Mo_load))))) rfl rfl rfl (by decide +kernel) ⟨by rw [hRf]; exact Nat.le_of_ble_eq_true rfl, by rw [hRl]; exact Nat.le_of_ble_eq_true rfl⟩) f_121 rfl hB1 hB2 rfl (Nat.le_of_ble_eq_true rfl) d_Mo_times_82) (fun G_161 B_162 p_163 => ?_)
            obtain ⟨e_164, hV_165, gf_166⟩ := p_163
            have e_164b : B = B_162 := e_164.symm
            subst e_164b
            have gf_167 : gfr mT G G_161 := mT_mT gf_123 gf_166
            refine gs (pc' := 86) (fun _ _ _ _ _ hl => lv_aload_n hx hb d_Mo_times_85 rfl (lv_at hl 1 rfl)) ?_
            refine gs (pc' := 87) (fun _ _ _ _ _ hl => lv_iload_n hx hb d_Mo_times_86 rfl (lv_at hl 3 rfl)) ?_
            obtain ⟨sg_168, sh_169, kt_170, kb_171, ks_172, Rr_173, kf_174, v_175, v_176, v_177, v_178, v_179, v_180, v_181⟩ := id hV_165
            have f_182 : G_161 hm = some (70, .inr (9, [.int (nI 0), .int (nI S.n), .ref (A 2), .ref (A 3), .ref (A 4), .ref (A 5), .int sg_168, .int sh_169, .ref (A 8), .ref (A 9), .int (nI S.rn), .ref (A 11), .ref (A 12), .ref (A 13), .int (nI S.wn), .ref (A 15), .ref (A 16), .ref (A 17), .ref (A 18), .int kt_170, .int kb_171, .int ks_172])) := v_175
            have hV_183 : MW cA hm A S 0 (some (S.v i)) qo qk G_161 := ⟨sg_168, sh_169, kt_170, kb_171, ks_172, Rr_173, _, f_182, v_176, v_177, v_178, v_179, v_180, v_181⟩
            refine g_outv hlo (g_runV (As := [.int (nI j)]) (rest := []) ⟨hx, hb, hml, hown, hts⟩ hK hZ hRc hRs (c_Mo_loadOther l D cA lo MC MS G_161 B hm A S 0 (some (S.v i)) qo qk hV_183 hW j (by omega) hB1 hB2) (fun _ _ => cwV 1 hts (tb_good (tb_cons wm905 (tb_cons wm907 (tb_cons ws36 (tb_cons wm12 k_Mo_loadOther))))) rfl rfl rfl (by decide +kernel) ⟨by rw [hRf]; exact Nat.le_of_ble_eq_true rfl, by rw [hRl]; exact Nat.le_of_ble_eq_true rfl⟩) f_182 rfl hB1 hB2 rfl (Nat.le_of_ble_eq_true rfl) d_Mo_times_87) (fun G_184 B_185 p_186 => ?_)
            obtain ⟨e_187, hV_188, gf_189⟩ := p_186
            have e_187b : B = B_185 := e_187.symm
            subst e_187b
            have gf_190 : gfr mT G G_184 := mT_mT gf_167 gf_189
            refine gs (pc' := 91) (fun _ _ _ _ _ hl => lv_aload_n hx hb d_Mo_times_90 rfl (lv_at hl 1 rfl)) ?_
            have rbq_191 : rb ((S.v i) * (S.v j)) (100 + 100) := rb_mul (j := 100) (k := 100) rbq_51 rbq_102
            obtain ⟨sg_192, sh_193, kt_194, kb_195, ks_196, Rr_197, kf_198, v_199, v_200, v_201, v_202, v_203, v_204, v_205⟩ := id hV_188
            have f_206 : G_184 hm = some (70, .inr (9, [.int (nI 0), .int (nI S.n), .ref (A 2), .ref (A 3), .ref (A 4), .ref (A 5), .int sg_192, .int sh_193, .ref (A 8), .ref (A 9), .int (nI S.rn), .ref (A 11), .ref (A 12), .ref (A 13), .int (nI S.wn), .ref (A 15), .ref (A 16), .ref (A 17), .ref (A 18), .int kt_194, .int kb_195, .int ks_196])) := v_199
            have hV_207 : MW cA hm A S 0 (some (S.v i)) (some (S.v j)) qk G_184 := ⟨sg_192, sh_193, kt_194, kb_195, ks_196, Rr_197, _, f_206, v_200, v_201, v_202, v_203, v_204, v_205⟩
            refine g_outv hlo (g_runV (As := []) (rest := []) ⟨hx, hb, hml, hown, hts⟩ hK hZ hRc hRs (c_Mo_timesOther l D cA lo MC MS G_184 B hm A S 0 (some (S.v i)) (some (S.v j)) qk hV_207 hW (S.v i) (S.v j) rfl rfl (100) rbq_51 (100) rbq_102 (by omega) hB1 hB2) (fun _ _ => cwV 0 hts (tb_good (tb_cons wm933 (tb_cons wm935 (tb_cons ws42 (tb_cons wm12 k_Mo_timesOther))))) rfl rfl rfl (by decide +kernel) ⟨by rw [hRf]; exact Nat.le_of_ble_eq_true rfl, by rw [hRl]; exact Nat.le_of_ble_eq_true rfl⟩) f_206 rfl hB1 hB2 rfl (Nat.le_of_ble_eq_true rfl) d_Mo_times_91) (fun G_208 B_209 p_210 => ?_)
            obtain ⟨e_211, hV_212, gf_213⟩ := p_210
            have e_211b : B = B_209 := e_211.symm
            subst e_211b
            have gf_214 : gfr mT G G_208 := mT_mT gf_190 gf_213
            refine gs (pc' := 95) (fun _ _ _ _ _ hl => lv_aload_n hx hb d_Mo_times_94 rfl (lv_at hl 1 rfl)) ?_
            refine gs (pc' := 96) (fun _ _ _ _ _ hl => lv_iload_n hx hb d_Mo_times_95 rfl (lv_at hl 0 rfl)) ?_
            obtain ⟨sg_215, sh_216, kt_217, kb_218, ks_219, Rr_220, kf_221, v_222, v_223, v_224, v_225, v_226, v_227, v_228⟩ := id hV_212
            have f_229 : G_208 hm = some (70, .inr (9, [.int (nI 0), .int (nI S.n), .ref (A 2), .ref (A 3), .ref (A 4), .ref (A 5), .int sg_215, .int sh_216, .ref (A 8), .ref (A 9), .int (nI S.rn), .ref (A 11), .ref (A 12), .ref (A 13), .int (nI S.wn), .ref (A 15), .ref (A 16), .ref (A 17), .ref (A 18), .int kt_217, .int kb_218, .int ks_219])) := v_222
            have hV_230 : MW cA hm A S 0 (some ((S.v i) * (S.v j))) none qk G_208 := ⟨sg_215, sh_216, kt_217, kb_218, ks_219, Rr_220, _, f_229, v_223, v_224, v_225, v_226, v_227, v_228⟩
            refine g_outi hlo (g_runV (As := [.int (iI ((S.un i) + (S.un j)))]) (rest := []) ⟨hx, hb, hml, hown, hts⟩ hK hZ hRc hRs (c_Mo_keep l D cA lo MC MS G_208 B hm A S 0 (some ((S.v i) * (S.v j))) none qk hV_230 hW ((S.v i) * (S.v j)) rfl (100 + 100) rbq_191 (by omega) ((S.un i) + (S.un j)) huk (by omega) hB1 hB2) (fun _ _ => cwV 1 hts (tb_good (tb_cons wm881 (tb_cons wm883 (tb_cons ws31 (tb_cons wm12 k_Mo_keep))))) rfl rfl rfl (by decide +kernel) ⟨by rw [hRf]; exact Nat.le_of_ble_eq_true rfl, by rw [hRl]; exact Nat.le_of_ble_eq_true rfl⟩) f_229 rfl hB1 hB2 rfl (Nat.le_of_ble_eq_true rfl) d_Mo_times_96) (fun r_234 G_231 B_232 p_233 => ?_)
            obtain ⟨e_235, e_238, hV_236, gf_237⟩ := p_233
            subst e_238
            have e_235b : B = B_232 := e_235.symm
            subst e_235b
            have gf_239 : gfr mT G G_231 := mT_mT gf_214 gf_237
            rw [st_times hn hi_i hi_j, if_neg (Decidable.not_not.mpr huk), if_neg (by omega)] at hret
            exact hret 99 _ _ _ _ d_Mo_times_99 hB1 hB2 ⟨rfl, fun _ => rfl, MW_k hV_236, gf_239⟩
          · skip
            have nc_159 : S.n = 200 := (nn_ne (a := S.n) (b := 200) (by omega) (by omega)).2 c_159
            refine gs (pc' := 66) (fun _ _ _ _ _ hl => lv_iload_n hx hb d_Mo_times_65 rfl (lv_at hl 0 rfl)) ?_
            refine g_outi hlo (g_runS (As := [.int (iI ((S.un i) + (S.un j)))]) (rest := []) ⟨hx, hb, hml, hown, hts⟩ hK hZ hRc hRs (c_Mo_isUnit l D cA lo MC MS G_118 B ((S.un i) + (S.un j)) (by omega) (by omega) hB1 hB2) (fun _ _ => va_cwS 1 hts (tb_good (tb_cons wm829 (tb_cons wm830 (tb_cons wm12 k_Mo_isUnit)))) rfl rfl rfl (by decide +kernel) ⟨by rw [hRf]; exact Nat.le_of_ble_eq_true rfl, by rw [hRl]; exact Nat.le_of_ble_eq_true rfl⟩) hB1 hB2 rfl (Nat.le_of_ble_eq_true rfl) d_Mo_times_66) (fun r_243 G_240 B_241 p_242 => ?_)
            obtain ⟨u_244, e_245⟩ := p_242
            cases u_244
            subst e_245
            have bd_246 := b01_le (decide (uok ((S.un i) + (S.un j))))
            refine gsb (pc1 := 77) (pc2 := 72) (fun _ _ _ _ _ => lv_if_ne (tgt := 77) hx hb d_Mo_times_69 (by decide)) (fun c_247 => ?_) (fun c_247 => ?_)
            · skip
              have nc_247 : (b01 (decide (uok ((S.un i) + (S.un j))))) ≠ 0 := (n0_ne (a := (b01 (decide (uok ((S.un i) + (S.un j)))))) (by omega)).1 c_247
              have huk9 : uok (S.un i + S.un j) := b01_1 nc_247
              refine gs (pc' := 79) (fun _ _ _ _ _ hl => lv_bipush (v := (-3)) hx hb d_Mo_times_77 (by decide)) ?_
              refine g_eqi (show (-3) = iI (-3) from by decide) ?_
              have hn2 : S.n = 200 := by first | omega | exact absurd huk9 huk
              have hV_248 : MW cA hm A S 0 none none none G_118 := ⟨sg_103, sh_104, kt_105, kb_106, ks_107, Rr_108, _, f_121, mr_125, f_122, sn_, sn_, sn_, mb_126⟩
              rw [st_times hn hi_i hi_j, if_neg (Decidable.not_not.mpr huk9), if_pos hn2] at hret
              exact hret 79 _ _ _ _ d_Mo_times_79 hB1 hB2 ⟨rfl, fun _ => rfl, hV_248, gf_123⟩
            · skip
              have nc_247 : (b01 (decide (uok ((S.un i) + (S.un j))))) = 0 := (n0_ne (a := (b01 (decide (uok ((S.un i) + (S.un j)))))) (by omega)).2 c_247
              have huk9 : ¬ uok (S.un i + S.un j) := b01_0 nc_247
              refine gs (pc' := 74) (fun _ _ _ _ _ hl => lv_bipush (v := (-2)) hx hb d_Mo_times_72 (by decide)) ?_
              refine g_eqi (show (-2) = iI (-2) from by decide) ?_
              refine gs (pc' := 79) (fun _ _ _ _ _ hl => lv_goto (tgt := 79) hx hb d_Mo_times_74 (by decide)) ?_
              have hV_249 : MW cA hm A S 0 none none none G_118 := ⟨sg_103, sh_104, kt_105, kb_106, ks_107, Rr_108, _, f_121, mr_125, f_122, sn_, sn_, sn_, mb_126⟩
              rw [st_times hn hi_i hi_j, if_pos huk9] at hret
              exact hret 79 _ _ _ _ d_Mo_times_79 hB1 hB2 ⟨rfl, fun _ => rfl, hV_249, gf_123⟩
      · skip
        have nc_127 : 0 > 0 := (n0_le (a := 0) (by omega)).2 c_127
        exact absurd nc_127 (by decide)
set_option maxHeartbeats 4000000 in
set_option maxRecDepth 100000 in
theorem c_Mo_over (l : Launch) (D : va_G) (cA : Nat → ClassId) (lo MC MS : Nat) (G : gT) (B : Nat × Nat) (hm : Nat) (A : Nat → Nat) (S : St) (th : Nat) (qm qo qk : Option Rat) (hV : MW cA hm A S th qm qo qk G) (hW : WF S) (x : Int) (hx1 : -2147483648 ≤ x) (hx2 : x < 2147483648) (y : Int) (hy1 : -2147483648 ≤ y) (hy2 : y < 2147483648) (hB1 : B.1 ≤ MC) (hB2 : B.2 ≤ MS) : gMet l y_Mo_over w_Mo_over 5 129 D clS (gtys cA) lo MC MS [.ref hm, .int (iI x), .int (iI y)] G B (gQi D clS lo (fun r9 u => u.2 = B ∧ ((sp_over S (iI x) (iI y)).1 = 0 → r9 = iI (sp_over S (iI x) (iI y)).2.1) ∧ MW cA hm A (sp_over S (iI x) (iI y)).2.2 (sp_over S (iI x) (iI y)).1 none none none u.1 ∧ gfr mT G u.1)) := by
  refine g_meti (cc := prog_11_method_31_code) (nL := 4) (L := [(0, .ref hm), (1, .int (iI x)), (2, .int (iI y))]) (by decide +kernel) rfl (Nat.le_of_ble_eq_true rfl) rfl ?_
  intro p e R s m args below meth c Q hF hRc hRs hRf hRl hret
  obtain ⟨hx, hb, hr, hml, hts0, hown, hlocks, hin, hK, hlo, hZ⟩ := hF
  have hts : ∀ w ∈ tbg, w.before args s = true := fun w h => hts0 w (List.mem_cons_of_mem _ h)
  have hn := hW.n
  have hrn := hW.rn
  have hwn := hW.wn
  refine gs (pc' := 1) (fun _ _ _ _ _ hl => lv_aload_n hx hb d_Mo_over_0 rfl (lv_at hl 0 rfl)) ?_
  refine gs (pc' := 2) (fun _ _ _ _ _ hl => lv_aload_n hx hb d_Mo_over_1 rfl (lv_at hl 0 rfl)) ?_
  refine gs (pc' := 3) (fun _ _ _ _ _ hl => lv_iload_n hx hb d_Mo_over_2 rfl (lv_at hl 1 rfl)) ?_
  obtain ⟨sg_1, sh_2, kt_3, kb_4, ks_5, Rr_6, kf_7, v_8, v_9, v_10, v_11, v_12, v_13, v_14⟩ := id hV
  have f_15 : G hm = some (70, .inr (9, [.int (nI th), .int (nI S.n), .ref (A 2), .ref (A 3), .ref (A 4), .ref (A 5), .int sg_1, .int sh_2, .ref (A 8), .ref (A 9), .int (nI S.rn), .ref (A 11), .ref (A 12), .ref (A 13), .int (nI S.wn), .ref (A 15), .ref (A 16), .ref (A 17), .ref (A 18), .int kt_3, .int kb_4, .int ks_5])) := v_8
  have hV_16 : MW cA hm A S th qm qo qk G := ⟨sg_1, sh_2, kt_3, kb_4, ks_5, Rr_6, _, f_15, v_9, v_10, v_11, v_12, v_13, v_14⟩
  refine g_outi hlo (g_runV (As := [.int (iI x)]) (rest := [.ref hm]) ⟨hx, hb, hml, hown, hts⟩ hK hZ hRc hRs (c_Mo_isValue l D cA lo MC MS G B hm A S th qm qo qk hV_16 hW x (by omega) (by omega) hB1 hB2) (fun _ _ => cwV 1 hts (tb_good (tb_cons wm893 (tb_cons wm895 (tb_cons ws33 (tb_cons wm12 k_Mo_isValue))))) rfl rfl rfl (by decide +kernel) ⟨by rw [hRf]; exact Nat.le_of_ble_eq_true rfl, by rw [hRl]; exact Nat.le_of_ble_eq_true rfl⟩) f_15 rfl hB1 hB2 rfl (Nat.le_of_ble_eq_true rfl) d_Mo_over_3) (fun r_20 G_17 B_18 p_19 => ?_)
  obtain ⟨u_21, e_22⟩ := p_19
  cases u_21
  subst e_22
  have bd_23 := b01_le (decide (0 ≤ x ∧ x < S.n))
  refine gsb (pc1 := 17) (pc2 := 9) (fun _ _ _ _ _ => lv_if_eq (tgt := 17) hx hb d_Mo_over_6 (by decide)) (fun c_24 => ?_) (fun c_24 => ?_)
  · skip
    have nc_24 : (b01 (decide (0 ≤ x ∧ x < S.n))) = 0 := (n0_eq (a := (b01 (decide (0 ≤ x ∧ x < S.n)))) (by omega)).1 c_24
    have hb_x : ¬ (0 ≤ x ∧ x < S.n) := b01_0 nc_24
    refine gs (pc' := 18) (fun _ _ _ _ _ hl => lv_iconst (v := nI 1) hx hb d_Mo_over_17 (by decide)) ?_
    refine gs (pc' := 35) (fun _ _ _ _ _ hl => lv_goto (tgt := 35) hx hb d_Mo_over_18 (by decide)) ?_
    obtain ⟨sg_25, sh_26, kt_27, kb_28, ks_29, Rr_30, kf_31, v_32, v_33, v_34, v_35, v_36, v_37, v_38⟩ := id hV_16
    have f_39 : G hm = some (70, .inr (9, [.int (nI th), .int (nI S.n), .ref (A 2), .ref (A 3), .ref (A 4), .ref (A 5), .int sg_25, .int sh_26, .ref (A 8), .ref (A 9), .int (nI S.rn), .ref (A 11), .ref (A 12), .ref (A 13), .int (nI S.wn), .ref (A 15), .ref (A 16), .ref (A 17), .ref (A 18), .int kt_27, .int kb_28, .int ks_29])) := v_32
    refine g_put (ty := .int) hx hb hts hin_Mo ty_Mo ty_Mo_ok nm_Mo hown hK f_39 rfl 0 (by decide) (hts _ wm754) (fun _ h9 => h9) rfl (by decide +kernel) rfl rfl (Nat.le_of_ble_eq_true rfl) d_Mo_over_35 (fun G_40 f_41 o_42 => ?_)
    have f_43 : G_40 hm = some (70, .inr (9, [.int (nI 1), .int (nI S.n), .ref (A 2), .ref (A 3), .ref (A 4), .ref (A 5), .int sg_25, .int sh_26, .ref (A 8), .ref (A 9), .int (nI S.rn), .ref (A 11), .ref (A 12), .ref (A 13), .int (nI S.wn), .ref (A 15), .ref (A 16), .ref (A 17), .ref (A 18), .int kt_27, .int kb_28, .int ks_29])) := f_41
    have f_44 : G_40 (A 18) = some (83, .inl (cA 0, 8600, .inl kf_31)) := (o_42 _ (gne v_34 f_39 (fun e => by cases e))).trans v_34
    have gf_45 : gfr mT G G_40 := gfr_put gfr_rf f_39 (show mT 70 by decide) o_42
    have gf_46 : gfr (fun x => x = 70) _ G_40 := gfr_put gfr_rf f_39 rfl o_42
    have mr_47 : MR cA A Rr_30 G_40 := MR_fr v_33 gf_46 (show ¬ (75 : Nat) = 70 by decide) (show ¬ (76 : Nat) = 70 by decide)
    have mb_48 : MB cA A S G_40 := MB_fr v_38 gf_46 (fun x h9 => by omega)
    refine gs (pc' := 39) (fun _ _ _ _ _ hl => lv_aload_n hx hb d_Mo_over_38 rfl (lv_at hl 0 rfl)) ?_
    refine g_get hx hb hts hin_Mo hown hK f_43 rfl 0 (by decide) (hts _ wm754) (fun _ h9 => h9) rfl d_Mo_over_39 ?_
    refine gsb (pc1 := 47) (pc2 := 45) (fun _ _ _ _ _ => lv_if_le (tgt := 47) hx hb d_Mo_over_42 (by decide)) (fun c_49 => ?_) (fun c_49 => ?_)
    · skip
      have nc_49 : 1 ≤ 0 := (n0_le (a := 1) (by omega)).1 c_49
      exact absurd nc_49 (by decide)
    · skip
      have nc_49 : 1 > 0 := (n0_le (a := 1) (by omega)).2 c_49
      refine gs (pc' := 46) (fun _ _ _ _ _ hl => lv_iconst (v := nI 0) hx hb d_Mo_over_45 (by decide)) ?_
      have hV_50 : MW cA hm A S 1 none none none G_40 := ⟨sg_25, sh_26, kt_27, kb_28, ks_29, Rr_30, _, f_43, mr_47, f_44, sn_, sn_, sn_, mb_48⟩
      rw [su_over (fun q9 => vn_ hx1 hx2 hb_x q9.1)] at hret
      exact hret 46 _ _ _ _ d_Mo_over_46 hB1 hB2 ⟨rfl, fun h9 => absurd (show (1 : Nat) = 0 from h9) (by decide), hV_50, gf_45⟩
  · skip
    have nc_24 : (b01 (decide (0 ≤ x ∧ x < S.n))) ≠ 0 := (n0_eq (a := (b01 (decide (0 ≤ x ∧ x < S.n)))) (by omega)).2 c_24
    have hg_x : 0 ≤ x ∧ x < S.n := b01_1 nc_24
    have hg1_x := hg_x.1
    have hg2_x := hg_x.2
    obtain ⟨i, hxe_i⟩ : ∃ i : Nat, x = (i : Int) := ⟨x.toNat, by omega⟩
    subst hxe_i
    rw [← nI_iI i] at hret ⊢
    have hi_i : i < S.n := by omega
    have rbq_51 : rb (S.v i) 100 := rb_of (hW.v _ hi_i).1
    refine gs (pc' := 10) (fun _ _ _ _ _ hl => lv_aload_n hx hb d_Mo_over_9 rfl (lv_at hl 0 rfl)) ?_
    refine gs (pc' := 11) (fun _ _ _ _ _ hl => lv_iload_n hx hb d_Mo_over_10 rfl (lv_at hl 2 rfl)) ?_
    obtain ⟨sg_52, sh_53, kt_54, kb_55, ks_56, Rr_57, kf_58, v_59, v_60, v_61, v_62, v_63, v_64, v_65⟩ := id hV_16
    have f_66 : G hm = some (70, .inr (9, [.int (nI th), .int (nI S.n), .ref (A 2), .ref (A 3), .ref (A 4), .ref (A 5), .int sg_52, .int sh_53, .ref (A 8), .ref (A 9), .int (nI S.rn), .ref (A 11), .ref (A 12), .ref (A 13), .int (nI S.wn), .ref (A 15), .ref (A 16), .ref (A 17), .ref (A 18), .int kt_54, .int kb_55, .int ks_56])) := v_59
    have hV_67 : MW cA hm A S th qm qo qk G := ⟨sg_52, sh_53, kt_54, kb_55, ks_56, Rr_57, _, f_66, v_60, v_61, v_62, v_63, v_64, v_65⟩
    refine g_outi hlo (g_runV (As := [.int (iI y)]) (rest := [.ref hm]) ⟨hx, hb, hml, hown, hts⟩ hK hZ hRc hRs (c_Mo_isValue l D cA lo MC MS G B hm A S th qm qo qk hV_67 hW y (by omega) (by omega) hB1 hB2) (fun _ _ => cwV 1 hts (tb_good (tb_cons wm893 (tb_cons wm895 (tb_cons ws33 (tb_cons wm12 k_Mo_isValue))))) rfl rfl rfl (by decide +kernel) ⟨by rw [hRf]; exact Nat.le_of_ble_eq_true rfl, by rw [hRl]; exact Nat.le_of_ble_eq_true rfl⟩) f_66 rfl hB1 hB2 rfl (Nat.le_of_ble_eq_true rfl) d_Mo_over_11) (fun r_71 G_68 B_69 p_70 => ?_)
    obtain ⟨u_72, e_73⟩ := p_70
    cases u_72
    subst e_73
    have bd_74 := b01_le (decide (0 ≤ y ∧ y < S.n))
    refine gsb (pc1 := 21) (pc2 := 17) (fun _ _ _ _ _ => lv_if_ne (tgt := 21) hx hb d_Mo_over_14 (by decide)) (fun c_75 => ?_) (fun c_75 => ?_)
    · skip
      have nc_75 : (b01 (decide (0 ≤ y ∧ y < S.n))) ≠ 0 := (n0_ne (a := (b01 (decide (0 ≤ y ∧ y < S.n)))) (by omega)).1 c_75
      have hg_y : 0 ≤ y ∧ y < S.n := b01_1 nc_75
      have hg1_y := hg_y.1
      have hg2_y := hg_y.2
      obtain ⟨j, hxe_j⟩ : ∃ j : Nat, y = (j : Int) := ⟨y.toNat, by omega⟩
      subst hxe_j
      rw [← nI_iI j] at hret ⊢
      have hi_j : j < S.n := by omega
      have rbq_76 : rb (S.v j) 100 := rb_of (hW.v _ hi_j).1
      refine gs (pc' := 22) (fun _ _ _ _ _ hl => lv_aload_n hx hb d_Mo_over_21 rfl (lv_at hl 0 rfl)) ?_
      obtain ⟨sg_77, sh_78, kt_79, kb_80, ks_81, Rr_82, kf_83, v_84, v_85, v_86, v_87, v_88, v_89, v_90⟩ := id hV_67
      have f_91 : G hm = some (70, .inr (9, [.int (nI th), .int (nI S.n), .ref (A 2), .ref (A 3), .ref (A 4), .ref (A 5), .int sg_77, .int sh_78, .ref (A 8), .ref (A 9), .int (nI S.rn), .ref (A 11), .ref (A 12), .ref (A 13), .int (nI S.wn), .ref (A 15), .ref (A 16), .ref (A 17), .ref (A 18), .int kt_79, .int kb_80, .int ks_81])) := v_84
      refine g_get hx hb hts hin_Mo hown hK f_91 rfl 2 (by decide) (hts _ wm756) (fun _ h9 => h9) rfl d_Mo_over_22 ?_
      refine gs (pc' := 26) (fun _ _ _ _ _ hl => lv_iload_n hx hb d_Mo_over_25 rfl (lv_at hl 2 rfl)) ?_
      obtain ⟨sgn_92, unt_93, sto_94, szs_95, f_96, f_97, f_98, f_99, hv_100⟩ := id v_90.1
      refine g_iald hx hb hK 0 f_96 rfl (show vp_in (nI j) 200 from vp_in_nI (by omega) (by omega)) d_Mo_over_26 ?_
      refine g_eqi (show sgn_92 (nI j).toNatClampNeg = sgn_92 j from by rw [nI_clamp (by omega)]) ?_
      refine g_eqi (show sgn_92 j = iI ((S.v j).num.sign) from (hv_100 j (by omega)).1) ?_
      have hs3 := sg3 (S.v j).num
      refine gsb (pc1 := 34) (pc2 := 30) (fun _ _ _ _ _ => lv_if_ne (tgt := 34) hx hb d_Mo_over_27 (by decide)) (fun c_101 => ?_) (fun c_101 => ?_)
      · skip
        have nc_101 : ((S.v j).num.sign) ≠ 0 := (ii_ne (a := ((S.v j).num.sign)) (b := 0) (by omega) (by omega) (by omega) (by omega)).1 (by first | exact c_101 | (have z9 := c_101; simp only [nI_iI] at z9; exact z9))
        have hz9 : ¬ S.v j = 0 := fun e9 => by have := sg0_v.mpr e9; omega
        have hnz9 : (S.v j).num ≠ 0 := fun e9 => by have := Int.sign_eq_zero_iff_zero.mpr e9; omega
        refine gs (pc' := 35) (fun _ _ _ _ _ hl => lv_iconst (v := nI 0) hx hb d_Mo_over_34 (by decide)) ?_
        refine g_put (ty := .int) hx hb hts hin_Mo ty_Mo ty_Mo_ok nm_Mo hown hK f_91 rfl 0 (by decide) (hts _ wm754) (fun _ h9 => h9) rfl (by decide +kernel) rfl rfl (Nat.le_of_ble_eq_true rfl) d_Mo_over_35 (fun G_102 f_103 o_104 => ?_)
        have f_105 : G_102 hm = some (70, .inr (9, [.int (nI 0), .int (nI S.n), .ref (A 2), .ref (A 3), .ref (A 4), .ref (A 5), .int sg_77, .int sh_78, .ref (A 8), .ref (A 9), .int (nI S.rn), .ref (A 11), .ref (A 12), .ref (A 13), .int (nI S.wn), .ref (A 15), .ref (A 16), .ref (A 17), .ref (A 18), .int kt_79, .int kb_80, .int ks_81])) := f_103
        have f_106 : G_102 (A 18) = some (83, .inl (cA 0, 8600, .inl kf_83)) := (o_104 _ (gne v_86 f_91 (fun e => by cases e))).trans v_86
        have f_107 : G_102 (A 2) = some (71, .inl (cA 0, 200, .inl sgn_92)) := (o_104 _ (gne f_96 f_91 (fun e => by cases e))).trans f_96
        have f_108 : G_102 (A 3) = some (72, .inl (cA 0, 200, .inl unt_93)) := (o_104 _ (gne f_97 f_91 (fun e => by cases e))).trans f_97
        have f_109 : G_102 (A 4) = some (73, .inl (cA 0, 40400, .inl sto_94)) := (o_104 _ (gne f_98 f_91 (fun e => by cases e))).trans f_98
        have f_110 : G_102 (A 5) = some (74, .inl (cA 0, 400, .inl szs_95)) := (o_104 _ (gne f_99 f_91 (fun e => by cases e))).trans f_99
        have gf_111 : gfr mT G G_102 := gfr_put gfr_rf f_91 (show mT 70 by decide) o_104
        have gf_112 : gfr (fun x => x = 70) _ G_102 := gfr_put gfr_rf f_91 rfl o_104
        have mr_113 : MR cA A Rr_82 G_102 := MR_fr v_85 gf_112 (show ¬ (75 : Nat) = 70 by decide) (show ¬ (76 : Nat) = 70 by decide)
        have mb_114 : MB cA A S G_102 := MB_fr v_90 gf_112 (fun x h9 => by omega)
        refine gs (pc' := 39) (fun _ _ _ _ _ hl => lv_aload_n hx hb d_Mo_over_38 rfl (lv_at hl 0 rfl)) ?_
        refine g_get hx hb hts hin_Mo hown hK f_105 rfl 0 (by decide) (hts _ wm754) (fun _ h9 => h9) rfl d_Mo_over_39 ?_
        refine gsb (pc1 := 47) (pc2 := 45) (fun _ _ _ _ _ => lv_if_le (tgt := 47) hx hb d_Mo_over_42 (by decide)) (fun c_115 => ?_) (fun c_115 => ?_)
        · skip
          have nc_115 : 0 ≤ 0 := (n0_le (a := 0) (by omega)).1 c_115
          refine gs (pc' := 48) (fun _ _ _ _ _ hl => lv_aload_n hx hb d_Mo_over_47 rfl (lv_at hl 0 rfl)) ?_
          refine g_get hx hb hts hin_Mo hown hK f_105 rfl 3 (by decide) (hts _ wm757) (fun _ h9 => h9) rfl d_Mo_over_48 ?_
          refine gs (pc' := 52) (fun _ _ _ _ _ hl => lv_iload_n hx hb d_Mo_over_51 rfl (lv_at hl 1 rfl)) ?_
          refine g_iald hx hb hK 0 f_108 rfl (show vp_in (nI i) 200 from vp_in_nI (by omega) (by omega)) d_Mo_over_52 ?_
          refine g_eqi (show unt_93 (nI i).toNatClampNeg = unt_93 i from by rw [nI_clamp (by omega)]) ?_
          refine g_eqi (show unt_93 i = iI (S.un i) from (hv_100 i (by omega)).2.1) ?_
          have ub_116 := (hW.v i (by omega)).2.1
          have ub_117 := (hW.v i (by omega)).2.2
          refine gs (pc' := 54) (fun _ _ _ _ _ hl => lv_aload_n hx hb d_Mo_over_53 rfl (lv_at hl 0 rfl)) ?_
          refine g_get hx hb hts hin_Mo hown hK f_105 rfl 3 (by decide) (hts _ wm757) (fun _ h9 => h9) rfl d_Mo_over_54 ?_
          refine gs (pc' := 58) (fun _ _ _ _ _ hl => lv_iload_n hx hb d_Mo_over_57 rfl (lv_at hl 2 rfl)) ?_
          refine g_iald hx hb hK 0 f_108 rfl (show vp_in (nI j) 200 from vp_in_nI (by omega) (by omega)) d_Mo_over_58 ?_
          refine g_eqi (show unt_93 (nI j).toNatClampNeg = unt_93 j from by rw [nI_clamp (by omega)]) ?_
          refine g_eqi (show unt_93 j = iI (S.un j) from (hv_100 j (by omega)).2.1) ?_
          have ub_118 := (hW.v j (by omega)).2.1
          have ub_119 := (hW.v j (by omega)).2.2
          refine gs (pc' := 60) (fun _ _ _ _ _ hl => lv_isub hx hb d_Mo_over_59) ?_
          refine g_eqi (show (iI (S.un i)) - (iI (S.un j)) = iI ((S.un i) - (S.un j)) from by exact iI_sub _ _) ?_
          refine gst (pc' := 61) (L' := [(3, .int (iI ((S.un i) - (S.un j)))), (0, .ref hm), (1, .int (nI i)), (2, .int (nI j))]) (fun _ _ _ _ _ hl => lv_istore_n hx hb d_Mo_over_60 rfl hl (by decide) rfl) ?_
          refine gs (pc' := 62) (fun _ _ _ _ _ hl => lv_iload_n hx hb d_Mo_over_61 rfl (lv_at hl 0 rfl)) ?_
          refine g_outi hlo (g_runS (As := [.int (iI ((S.un i) - (S.un j)))]) (rest := []) ⟨hx, hb, hml, hown, hts⟩ hK hZ hRc hRs (c_Mo_isUnit l D cA lo MC MS G_102 B ((S.un i) - (S.un j)) (by omega) (by omega) hB1 hB2) (fun _ _ => va_cwS 1 hts (tb_good (tb_cons wm829 (tb_cons wm830 (tb_cons wm12 k_Mo_isUnit)))) rfl rfl rfl (by decide +kernel) ⟨by rw [hRf]; exact Nat.le_of_ble_eq_true rfl, by rw [hRl]; exact Nat.le_of_ble_eq_true rfl⟩) hB1 hB2 rfl (Nat.le_of_ble_eq_true rfl) d_Mo_over_62) (fun r_123 G_120 B_121 p_122 => ?_)
          obtain ⟨u_124, e_125⟩ := p_122
          cases u_124
          subst e_125
          have bd_126 := b01_le (decide (uok ((S.un i) - (S.un j))))
          refine gsb (pc1 := 78) (pc2 := 68) (fun _ _ _ _ _ => lv_if_eq (tgt := 78) hx hb d_Mo_over_65 (by decide)) (fun c_127 => ?_) (fun c_127 => ?_)
          · skip
            have nc_127 : (b01 (decide (uok ((S.un i) - (S.un j))))) = 0 := (n0_eq (a := (b01 (decide (uok ((S.un i) - (S.un j)))))) (by omega)).1 c_127
            have huk : ¬ uok (S.un i - S.un j) := b01_0 nc_127
            refine gs (pc' := 79) (fun _ _ _ _ _ hl => lv_iload_n hx hb d_Mo_over_78 rfl (lv_at hl 0 rfl)) ?_
            refine g_outi hlo (g_runS (As := [.int (iI ((S.un i) - (S.un j)))]) (rest := []) ⟨hx, hb, hml, hown, hts⟩ hK hZ hRc hRs (c_Mo_isUnit l D cA lo MC MS G_102 B ((S.un i) - (S.un j)) (by omega) (by omega) hB1 hB2) (fun _ _ => va_cwS 1 hts (tb_good (tb_cons wm829 (tb_cons wm830 (tb_cons wm12 k_Mo_isUnit)))) rfl rfl rfl (by decide +kernel) ⟨by rw [hRf]; exact Nat.le_of_ble_eq_true rfl, by rw [hRl]; exact Nat.le_of_ble_eq_true rfl⟩) hB1 hB2 rfl (Nat.le_of_ble_eq_true rfl) d_Mo_over_79) (fun r_131 G_128 B_129 p_130 => ?_)
            obtain ⟨u_132, e_133⟩ := p_130
            cases u_132
            subst e_133
            have bd_134 := b01_le (decide (uok ((S.un i) - (S.un j))))
            refine gsb (pc1 := 90) (pc2 := 85) (fun _ _ _ _ _ => lv_if_ne (tgt := 90) hx hb d_Mo_over_82 (by decide)) (fun c_135 => ?_) (fun c_135 => ?_)
            · skip
              have nc_135 : (b01 (decide (uok ((S.un i) - (S.un j))))) ≠ 0 := (n0_ne (a := (b01 (decide (uok ((S.un i) - (S.un j)))))) (by omega)).1 c_135
              have huk9 : uok (S.un i - S.un j) := b01_1 nc_135
              refine gs (pc' := 92) (fun _ _ _ _ _ hl => lv_bipush (v := (-3)) hx hb d_Mo_over_90 (by decide)) ?_
              refine g_eqi (show (-3) = iI (-3) from by decide) ?_
              have hn2 : S.n = 200 := by first | omega | exact absurd huk9 huk
              have hV_136 : MW cA hm A S 0 none none none G_102 := ⟨sg_77, sh_78, kt_79, kb_80, ks_81, Rr_82, _, f_105, mr_113, f_106, sn_, sn_, sn_, mb_114⟩
              rw [st_over hn hi_i hi_j, if_neg hz9, if_neg (Decidable.not_not.mpr huk9), if_pos hn2] at hret
              exact hret 92 _ _ _ _ d_Mo_over_92 hB1 hB2 ⟨rfl, fun _ => rfl, hV_136, gf_111⟩
            · skip
              have nc_135 : (b01 (decide (uok ((S.un i) - (S.un j))))) = 0 := (n0_ne (a := (b01 (decide (uok ((S.un i) - (S.un j)))))) (by omega)).2 c_135
              have huk9 : ¬ uok (S.un i - S.un j) := b01_0 nc_135
              refine gs (pc' := 87) (fun _ _ _ _ _ hl => lv_bipush (v := (-2)) hx hb d_Mo_over_85 (by decide)) ?_
              refine g_eqi (show (-2) = iI (-2) from by decide) ?_
              refine gs (pc' := 92) (fun _ _ _ _ _ hl => lv_goto (tgt := 92) hx hb d_Mo_over_87 (by decide)) ?_
              have hV_137 : MW cA hm A S 0 none none none G_102 := ⟨sg_77, sh_78, kt_79, kb_80, ks_81, Rr_82, _, f_105, mr_113, f_106, sn_, sn_, sn_, mb_114⟩
              rw [st_over hn hi_i hi_j, if_neg hz9, if_pos huk9] at hret
              exact hret 92 _ _ _ _ d_Mo_over_92 hB1 hB2 ⟨rfl, fun _ => rfl, hV_137, gf_111⟩
          · skip
            have nc_127 : (b01 (decide (uok ((S.un i) - (S.un j))))) ≠ 0 := (n0_eq (a := (b01 (decide (uok ((S.un i) - (S.un j)))))) (by omega)).2 c_127
            have huk : uok (S.un i - S.un j) := b01_1 nc_127
            refine gs (pc' := 69) (fun _ _ _ _ _ hl => lv_aload_n hx hb d_Mo_over_68 rfl (lv_at hl 1 rfl)) ?_
            refine g_get hx hb hts hin_Mo hown hK f_105 rfl 1 (by decide) (hts _ wm755) (fun _ h9 => h9) rfl d_Mo_over_69 ?_
            refine gs (pc' := 75) (fun _ _ _ _ _ hl => lv_sipush (v := nI 200) hx hb d_Mo_over_72 (by decide)) ?_
            refine gsb (pc1 := 93) (pc2 := 78) (fun _ _ _ _ _ => lv_icmp_ne (tgt := 93) hx hb d_Mo_over_75 (by decide)) (fun c_138 => ?_) (fun c_138 => ?_)
            · skip
              have nc_138 : S.n ≠ 200 := (nn_ne (a := S.n) (b := 200) (by omega) (by omega)).1 c_138
              refine gs (pc' := 94) (fun _ _ _ _ _ hl => lv_aload_n hx hb d_Mo_over_93 rfl (lv_at hl 1 rfl)) ?_
              refine gs (pc' := 95) (fun _ _ _ _ _ hl => lv_iload_n hx hb d_Mo_over_94 rfl (lv_at hl 2 rfl)) ?_
              have hV_139 : MW cA hm A S 0 qm qo qk G_102 := ⟨sg_77, sh_78, kt_79, kb_80, ks_81, Rr_82, _, f_105, mr_113, f_106, v_87, v_88, v_89, mb_114⟩
              refine g_outv hlo (g_runV (As := [.int (nI i)]) (rest := []) ⟨hx, hb, hml, hown, hts⟩ hK hZ hRc hRs (c_Mo_load l D cA lo MC MS G_102 B hm A S 0 qm qo qk hV_139 hW i (by omega) hB1 hB2) (fun _ _ => cwV 1 hts (tb_good (tb_cons wm897 (tb_cons wm899 (tb_cons ws34 (tb_cons wm12 k_Mo_load))))) rfl rfl rfl (by decide +kernel) ⟨by rw [hRf]; exact Nat.le_of_ble_eq_true rfl, by rw [hRl]; exact Nat.le_of_ble_eq_true rfl⟩) f_105 rfl hB1 hB2 rfl (Nat.le_of_ble_eq_true rfl) d_Mo_over_95) (fun G_140 B_141 p_142 => ?_)
              obtain ⟨e_143, hV_144, gf_145⟩ := p_142
              have e_143b : B = B_141 := e_143.symm
              subst e_143b
              have gf_146 : gfr mT G G_140 := mT_mT gf_111 gf_145
              refine gs (pc' := 99) (fun _ _ _ _ _ hl => lv_aload_n hx hb d_Mo_over_98 rfl (lv_at hl 1 rfl)) ?_
              refine gs (pc' := 100) (fun _ _ _ _ _ hl => lv_iload_n hx hb d_Mo_over_99 rfl (lv_at hl 3 rfl)) ?_
              obtain ⟨sg_147, sh_148, kt_149, kb_150, ks_151, Rr_152, kf_153, v_154, v_155, v_156, v_157, v_158, v_159, v_160⟩ := id hV_144
              have f_161 : G_140 hm = some (70, .inr (9, [.int (nI 0), .int (nI S.n), .ref (A 2), .ref (A 3), .ref (A 4), .ref (A 5), .int sg_147, .int sh_148, .ref (A 8), .ref (A 9), .int (nI S.rn), .ref (A 11), .ref (A 12), .ref (A 13), .int (nI S.wn), .ref (A 15), .ref (A 16), .ref (A 17), .ref (A 18), .int kt_149, .int kb_150, .int ks_151])) := v_154
              have hV_162 : MW cA hm A S 0 (some (S.v i)) qo qk G_140 := ⟨sg_147, sh_148, kt_149, kb_150, ks_151, Rr_152, _, f_161, v_155, v_156, v_157, v_158, v_159, v_160⟩
              refine g_outv hlo (g_runV (As := [.int (nI j)]) (rest := []) ⟨hx, hb, hml, hown, hts⟩ hK hZ hRc hRs (c_Mo_loadOther l D cA lo MC MS G_140 B hm A S 0 (some (S.v i)) qo qk hV_162 hW j (by omega) hB1 hB2) (fun _ _ => cwV 1 hts (tb_good (tb_cons wm905 (tb_cons wm907 (tb_cons ws36 (tb_cons wm12 k_Mo_loadOther))))) rfl rfl rfl (by decide +kernel) ⟨by rw [hRf]; exact Nat.le_of_ble_eq_true rfl, by rw [hRl]; exact Nat.le_of_ble_eq_true rfl⟩) f_161 rfl hB1 hB2 rfl (Nat.le_of_ble_eq_true rfl) d_Mo_over_100) (fun G_163 B_164 p_165 => ?_)
              obtain ⟨e_166, hV_167, gf_168⟩ := p_165
              have e_166b : B = B_164 := e_166.symm
              subst e_166b
              have gf_169 : gfr mT G G_163 := mT_mT gf_146 gf_168
              refine gs (pc' := 104) (fun _ _ _ _ _ hl => lv_aload_n hx hb d_Mo_over_103 rfl (lv_at hl 1 rfl)) ?_
              have rbq_170 : rb ((S.v i) / (S.v j)) (100 + 100) := rb_div (j := 100) (k := 100) rbq_51 rbq_76 hnz9
              obtain ⟨sg_171, sh_172, kt_173, kb_174, ks_175, Rr_176, kf_177, v_178, v_179, v_180, v_181, v_182, v_183, v_184⟩ := id hV_167
              have f_185 : G_163 hm = some (70, .inr (9, [.int (nI 0), .int (nI S.n), .ref (A 2), .ref (A 3), .ref (A 4), .ref (A 5), .int sg_171, .int sh_172, .ref (A 8), .ref (A 9), .int (nI S.rn), .ref (A 11), .ref (A 12), .ref (A 13), .int (nI S.wn), .ref (A 15), .ref (A 16), .ref (A 17), .ref (A 18), .int kt_173, .int kb_174, .int ks_175])) := v_178
              have hV_186 : MW cA hm A S 0 (some (S.v i)) (some (S.v j)) qk G_163 := ⟨sg_171, sh_172, kt_173, kb_174, ks_175, Rr_176, _, f_185, v_179, v_180, v_181, v_182, v_183, v_184⟩
              refine g_outv hlo (g_runV (As := []) (rest := []) ⟨hx, hb, hml, hown, hts⟩ hK hZ hRc hRs (c_Mo_overOther l D cA lo MC MS G_163 B hm A S 0 (some (S.v i)) (some (S.v j)) qk hV_186 hW (S.v i) (S.v j) rfl rfl (100) rbq_51 (100) rbq_76 (by omega) hnz9 hB1 hB2) (fun _ _ => cwV 0 hts (tb_good (tb_cons wm941 (tb_cons wm943 (tb_cons ws43 (tb_cons wm12 k_Mo_overOther))))) rfl rfl rfl (by decide +kernel) ⟨by rw [hRf]; exact Nat.le_of_ble_eq_true rfl, by rw [hRl]; exact Nat.le_of_ble_eq_true rfl⟩) f_185 rfl hB1 hB2 rfl (Nat.le_of_ble_eq_true rfl) d_Mo_over_104) (fun G_187 B_188 p_189 => ?_)
              obtain ⟨e_190, hV_191, gf_192⟩ := p_189
              have e_190b : B = B_188 := e_190.symm
              subst e_190b
              have gf_193 : gfr mT G G_187 := mT_mT gf_169 gf_192
              refine gs (pc' := 108) (fun _ _ _ _ _ hl => lv_aload_n hx hb d_Mo_over_107 rfl (lv_at hl 1 rfl)) ?_
              refine gs (pc' := 109) (fun _ _ _ _ _ hl => lv_iload_n hx hb d_Mo_over_108 rfl (lv_at hl 0 rfl)) ?_
              obtain ⟨sg_194, sh_195, kt_196, kb_197, ks_198, Rr_199, kf_200, v_201, v_202, v_203, v_204, v_205, v_206, v_207⟩ := id hV_191
              have f_208 : G_187 hm = some (70, .inr (9, [.int (nI 0), .int (nI S.n), .ref (A 2), .ref (A 3), .ref (A 4), .ref (A 5), .int sg_194, .int sh_195, .ref (A 8), .ref (A 9), .int (nI S.rn), .ref (A 11), .ref (A 12), .ref (A 13), .int (nI S.wn), .ref (A 15), .ref (A 16), .ref (A 17), .ref (A 18), .int kt_196, .int kb_197, .int ks_198])) := v_201
              have hV_209 : MW cA hm A S 0 (some ((S.v i) / (S.v j))) none qk G_187 := ⟨sg_194, sh_195, kt_196, kb_197, ks_198, Rr_199, _, f_208, v_202, v_203, v_204, v_205, v_206, v_207⟩
              refine g_outi hlo (g_runV (As := [.int (iI ((S.un i) - (S.un j)))]) (rest := []) ⟨hx, hb, hml, hown, hts⟩ hK hZ hRc hRs (c_Mo_keep l D cA lo MC MS G_187 B hm A S 0 (some ((S.v i) / (S.v j))) none qk hV_209 hW ((S.v i) / (S.v j)) rfl (100 + 100) rbq_170 (by omega) ((S.un i) - (S.un j)) huk (by omega) hB1 hB2) (fun _ _ => cwV 1 hts (tb_good (tb_cons wm881 (tb_cons wm883 (tb_cons ws31 (tb_cons wm12 k_Mo_keep))))) rfl rfl rfl (by decide +kernel) ⟨by rw [hRf]; exact Nat.le_of_ble_eq_true rfl, by rw [hRl]; exact Nat.le_of_ble_eq_true rfl⟩) f_208 rfl hB1 hB2 rfl (Nat.le_of_ble_eq_true rfl) d_Mo_over_109) (fun r_213 G_210 B_211 p_212 => ?_)
              obtain ⟨e_214, e_217, hV_215, gf_216⟩ := p_212
              subst e_217
              have e_214b : B = B_211 := e_214.symm
              subst e_214b
              have gf_218 : gfr mT G G_210 := mT_mT gf_193 gf_216
              rw [st_over hn hi_i hi_j, if_neg hz9, if_neg (Decidable.not_not.mpr huk), if_neg (by omega)] at hret
              exact hret 112 _ _ _ _ d_Mo_over_112 hB1 hB2 ⟨rfl, fun _ => rfl, MW_k hV_215, gf_218⟩
            · skip
              have nc_138 : S.n = 200 := (nn_ne (a := S.n) (b := 200) (by omega) (by omega)).2 c_138
              refine gs (pc' := 79) (fun _ _ _ _ _ hl => lv_iload_n hx hb d_Mo_over_78 rfl (lv_at hl 0 rfl)) ?_
              refine g_outi hlo (g_runS (As := [.int (iI ((S.un i) - (S.un j)))]) (rest := []) ⟨hx, hb, hml, hown, hts⟩ hK hZ hRc hRs (c_Mo_isUnit l D cA lo MC MS G_102 B ((S.un i) - (S.un j)) (by omega) (by omega) hB1 hB2) (fun _ _ => va_cwS 1 hts (tb_good (tb_cons wm829 (tb_cons wm830 (tb_cons wm12 k_Mo_isUnit)))) rfl rfl rfl (by decide +kernel) ⟨by rw [hRf]; exact Nat.le_of_ble_eq_true rfl, by rw [hRl]; exact Nat.le_of_ble_eq_true rfl⟩) hB1 hB2 rfl (Nat.le_of_ble_eq_true rfl) d_Mo_over_79) (fun r_222 G_219 B_220 p_221 => ?_)
              obtain ⟨u_223, e_224⟩ := p_221
              cases u_223
              subst e_224
              have bd_225 := b01_le (decide (uok ((S.un i) - (S.un j))))
              refine gsb (pc1 := 90) (pc2 := 85) (fun _ _ _ _ _ => lv_if_ne (tgt := 90) hx hb d_Mo_over_82 (by decide)) (fun c_226 => ?_) (fun c_226 => ?_)
              · skip
                have nc_226 : (b01 (decide (uok ((S.un i) - (S.un j))))) ≠ 0 := (n0_ne (a := (b01 (decide (uok ((S.un i) - (S.un j)))))) (by omega)).1 c_226
                have huk9 : uok (S.un i - S.un j) := b01_1 nc_226
                refine gs (pc' := 92) (fun _ _ _ _ _ hl => lv_bipush (v := (-3)) hx hb d_Mo_over_90 (by decide)) ?_
                refine g_eqi (show (-3) = iI (-3) from by decide) ?_
                have hn2 : S.n = 200 := by first | omega | exact absurd huk9 huk
                have hV_227 : MW cA hm A S 0 none none none G_102 := ⟨sg_77, sh_78, kt_79, kb_80, ks_81, Rr_82, _, f_105, mr_113, f_106, sn_, sn_, sn_, mb_114⟩
                rw [st_over hn hi_i hi_j, if_neg hz9, if_neg (Decidable.not_not.mpr huk9), if_pos hn2] at hret
                exact hret 92 _ _ _ _ d_Mo_over_92 hB1 hB2 ⟨rfl, fun _ => rfl, hV_227, gf_111⟩
              · skip
                have nc_226 : (b01 (decide (uok ((S.un i) - (S.un j))))) = 0 := (n0_ne (a := (b01 (decide (uok ((S.un i) - (S.un j)))))) (by omega)).2 c_226
                have huk9 : ¬ uok (S.un i - S.un j) := b01_0 nc_226
                refine gs (pc' := 87) (fun _ _ _ _ _ hl => lv_bipush (v := (-2)) hx hb d_Mo_over_85 (by decide)) ?_
                refine g_eqi (show (-2) = iI (-2) from by decide) ?_
                refine gs (pc' := 92) (fun _ _ _ _ _ hl => lv_goto (tgt := 92) hx hb d_Mo_over_87 (by decide)) ?_
                have hV_228 : MW cA hm A S 0 none none none G_102 := ⟨sg_77, sh_78, kt_79, kb_80, ks_81, Rr_82, _, f_105, mr_113, f_106, sn_, sn_, sn_, mb_114⟩
                rw [st_over hn hi_i hi_j, if_neg hz9, if_pos huk9] at hret
                exact hret 92 _ _ _ _ d_Mo_over_92 hB1 hB2 ⟨rfl, fun _ => rfl, hV_228, gf_111⟩
        · skip
          have nc_115 : 0 > 0 := (n0_le (a := 0) (by omega)).2 c_115
          exact absurd nc_115 (by decide)
      · skip
        have nc_101 : ((S.v j).num.sign) = 0 := (ii_ne (a := ((S.v j).num.sign)) (b := 0) (by omega) (by omega) (by omega) (by omega)).2 (by first | exact c_101 | (have z9 := c_101; simp only [nI_iI] at z9; exact z9))
        have hz9 : S.v j = 0 := sg0_v.mp (by omega)
        refine gs (pc' := 31) (fun _ _ _ _ _ hl => lv_iconst (v := nI 2) hx hb d_Mo_over_30 (by decide)) ?_
        refine gs (pc' := 35) (fun _ _ _ _ _ hl => lv_goto (tgt := 35) hx hb d_Mo_over_31 (by decide)) ?_
        refine g_put (ty := .int) hx hb hts hin_Mo ty_Mo ty_Mo_ok nm_Mo hown hK f_91 rfl 0 (by decide) (hts _ wm754) (fun _ h9 => h9) rfl (by decide +kernel) rfl rfl (Nat.le_of_ble_eq_true rfl) d_Mo_over_35 (fun G_229 f_230 o_231 => ?_)
        have f_232 : G_229 hm = some (70, .inr (9, [.int (nI 2), .int (nI S.n), .ref (A 2), .ref (A 3), .ref (A 4), .ref (A 5), .int sg_77, .int sh_78, .ref (A 8), .ref (A 9), .int (nI S.rn), .ref (A 11), .ref (A 12), .ref (A 13), .int (nI S.wn), .ref (A 15), .ref (A 16), .ref (A 17), .ref (A 18), .int kt_79, .int kb_80, .int ks_81])) := f_230
        have f_233 : G_229 (A 18) = some (83, .inl (cA 0, 8600, .inl kf_83)) := (o_231 _ (gne v_86 f_91 (fun e => by cases e))).trans v_86
        have f_234 : G_229 (A 2) = some (71, .inl (cA 0, 200, .inl sgn_92)) := (o_231 _ (gne f_96 f_91 (fun e => by cases e))).trans f_96
        have f_235 : G_229 (A 3) = some (72, .inl (cA 0, 200, .inl unt_93)) := (o_231 _ (gne f_97 f_91 (fun e => by cases e))).trans f_97
        have f_236 : G_229 (A 4) = some (73, .inl (cA 0, 40400, .inl sto_94)) := (o_231 _ (gne f_98 f_91 (fun e => by cases e))).trans f_98
        have f_237 : G_229 (A 5) = some (74, .inl (cA 0, 400, .inl szs_95)) := (o_231 _ (gne f_99 f_91 (fun e => by cases e))).trans f_99
        have gf_238 : gfr mT G G_229 := gfr_put gfr_rf f_91 (show mT 70 by decide) o_231
        have gf_239 : gfr (fun x => x = 70) _ G_229 := gfr_put gfr_rf f_91 rfl o_231
        have mr_240 : MR cA A Rr_82 G_229 := MR_fr v_85 gf_239 (show ¬ (75 : Nat) = 70 by decide) (show ¬ (76 : Nat) = 70 by decide)
        have mb_241 : MB cA A S G_229 := MB_fr v_90 gf_239 (fun x h9 => by omega)
        refine gs (pc' := 39) (fun _ _ _ _ _ hl => lv_aload_n hx hb d_Mo_over_38 rfl (lv_at hl 0 rfl)) ?_
        refine g_get hx hb hts hin_Mo hown hK f_232 rfl 0 (by decide) (hts _ wm754) (fun _ h9 => h9) rfl d_Mo_over_39 ?_
        refine gsb (pc1 := 47) (pc2 := 45) (fun _ _ _ _ _ => lv_if_le (tgt := 47) hx hb d_Mo_over_42 (by decide)) (fun c_242 => ?_) (fun c_242 => ?_)
        · skip
          have nc_242 : 2 ≤ 0 := (n0_le (a := 2) (by omega)).1 c_242
          exact absurd nc_242 (by decide)
        · skip
          have nc_242 : 2 > 0 := (n0_le (a := 2) (by omega)).2 c_242
          refine gs (pc' := 46) (fun _ _ _ _ _ hl => lv_iconst (v := nI 0) hx hb d_Mo_over_45 (by decide)) ?_
          have hV_243 : MW cA hm A S 2 none none none G_229 := ⟨sg_77, sh_78, kt_79, kb_80, ks_81, Rr_82, _, f_232, mr_240, f_233, sn_, sn_, sn_, mb_241⟩
          rw [st_over hn hi_i hi_j, if_pos hz9] at hret
          exact hret 46 _ _ _ _ d_Mo_over_46 hB1 hB2 ⟨rfl, fun h9 => absurd (show (2 : Nat) = 0 from h9) (by decide), hV_243, gf_238⟩
    · skip
      have nc_75 : (b01 (decide (0 ≤ y ∧ y < S.n))) = 0 := (n0_ne (a := (b01 (decide (0 ≤ y ∧ y < S.n)))) (by omega)).2 c_75
      have hb_y : ¬ (0 ≤ y ∧ y < S.n) := b01_0 nc_75
      refine gs (pc' := 18) (fun _ _ _ _ _ hl => lv_iconst (v := nI 1) hx hb d_Mo_over_17 (by decide)) ?_
      refine gs (pc' := 35) (fun _ _ _ _ _ hl => lv_goto (tgt := 35) hx hb d_Mo_over_18 (by decide)) ?_
      obtain ⟨sg_244, sh_245, kt_246, kb_247, ks_248, Rr_249, kf_250, v_251, v_252, v_253, v_254, v_255, v_256, v_257⟩ := id hV_67
      have f_258 : G hm = some (70, .inr (9, [.int (nI th), .int (nI S.n), .ref (A 2), .ref (A 3), .ref (A 4), .ref (A 5), .int sg_244, .int sh_245, .ref (A 8), .ref (A 9), .int (nI S.rn), .ref (A 11), .ref (A 12), .ref (A 13), .int (nI S.wn), .ref (A 15), .ref (A 16), .ref (A 17), .ref (A 18), .int kt_246, .int kb_247, .int ks_248])) := v_251
      refine g_put (ty := .int) hx hb hts hin_Mo ty_Mo ty_Mo_ok nm_Mo hown hK f_258 rfl 0 (by decide) (hts _ wm754) (fun _ h9 => h9) rfl (by decide +kernel) rfl rfl (Nat.le_of_ble_eq_true rfl) d_Mo_over_35 (fun G_259 f_260 o_261 => ?_)
      have f_262 : G_259 hm = some (70, .inr (9, [.int (nI 1), .int (nI S.n), .ref (A 2), .ref (A 3), .ref (A 4), .ref (A 5), .int sg_244, .int sh_245, .ref (A 8), .ref (A 9), .int (nI S.rn), .ref (A 11), .ref (A 12), .ref (A 13), .int (nI S.wn), .ref (A 15), .ref (A 16), .ref (A 17), .ref (A 18), .int kt_246, .int kb_247, .int ks_248])) := f_260
      have f_263 : G_259 (A 18) = some (83, .inl (cA 0, 8600, .inl kf_250)) := (o_261 _ (gne v_253 f_258 (fun e => by cases e))).trans v_253
      have gf_264 : gfr mT G G_259 := gfr_put gfr_rf f_258 (show mT 70 by decide) o_261
      have gf_265 : gfr (fun x => x = 70) _ G_259 := gfr_put gfr_rf f_258 rfl o_261
      have mr_266 : MR cA A Rr_249 G_259 := MR_fr v_252 gf_265 (show ¬ (75 : Nat) = 70 by decide) (show ¬ (76 : Nat) = 70 by decide)
      have mb_267 : MB cA A S G_259 := MB_fr v_257 gf_265 (fun x h9 => by omega)
      refine gs (pc' := 39) (fun _ _ _ _ _ hl => lv_aload_n hx hb d_Mo_over_38 rfl (lv_at hl 0 rfl)) ?_
      refine g_get hx hb hts hin_Mo hown hK f_262 rfl 0 (by decide) (hts _ wm754) (fun _ h9 => h9) rfl d_Mo_over_39 ?_
      refine gsb (pc1 := 47) (pc2 := 45) (fun _ _ _ _ _ => lv_if_le (tgt := 47) hx hb d_Mo_over_42 (by decide)) (fun c_268 => ?_) (fun c_268 => ?_)
      · skip
        have nc_268 : 1 ≤ 0 := (n0_le (a := 1) (by omega)).1 c_268
        exact absurd nc_268 (by decide)
      · skip
        have nc_268 : 1 > 0 := (n0_le (a := 1) (by omega)).2 c_268
        refine gs (pc' := 46) (fun _ _ _ _ _ hl => lv_iconst (v := nI 0) hx hb d_Mo_over_45 (by decide)) ?_
        have hV_269 : MW cA hm A S 1 none none none G_259 := ⟨sg_244, sh_245, kt_246, kb_247, ks_248, Rr_249, _, f_262, mr_266, f_263, sn_, sn_, sn_, mb_267⟩
        rw [su_over (fun q9 => vn_ hy1 hy2 hb_y q9.2)] at hret
        exact hret 46 _ _ _ _ d_Mo_over_46 hB1 hB2 ⟨rfl, fun h9 => absurd (show (1 : Nat) = 0 from h9) (by decide), hV_269, gf_264⟩
set_option maxHeartbeats 4000000 in
set_option maxRecDepth 100000 in
theorem c_Mo_order (l : Launch) (D : va_G) (cA : Nat → ClassId) (lo MC MS : Nat) (G : gT) (B : Nat × Nat) (hm : Nat) (A : Nat → Nat) (S : St) (th : Nat) (qm qo qk : Option Rat) (hV : MW cA hm A S th qm qo qk G) (hW : WF S) (x : Int) (hx1 : -2147483648 ≤ x) (hx2 : x < 2147483648) (y : Int) (hy1 : -2147483648 ≤ y) (hy2 : y < 2147483648) (hB1 : B.1 ≤ MC) (hB2 : B.2 ≤ MS) : gMet l y_Mo_order w_Mo_order 3 75 D clS (gtys cA) lo MC MS [.ref hm, .int (iI x), .int (iI y)] G B (gQi D clS lo (fun r9 u => u.2 = B ∧ ((sp_order S (iI x) (iI y)).1 = 0 → r9 = iI (sp_order S (iI x) (iI y)).2.1) ∧ MW cA hm A (sp_order S (iI x) (iI y)).2.2 (sp_order S (iI x) (iI y)).1 none none none u.1 ∧ gfr mT G u.1)) := by
  refine g_meti (cc := prog_11_method_33_code) (nL := 3) (L := [(0, .ref hm), (1, .int (iI x)), (2, .int (iI y))]) (by decide +kernel) rfl (Nat.le_of_ble_eq_true rfl) rfl ?_
  intro p e R s m args below meth c Q hF hRc hRs hRf hRl hret
  obtain ⟨hx, hb, hr, hml, hts0, hown, hlocks, hin, hK, hlo, hZ⟩ := hF
  have hts : ∀ w ∈ tbg, w.before args s = true := fun w h => hts0 w (List.mem_cons_of_mem _ h)
  have hn := hW.n
  have hrn := hW.rn
  have hwn := hW.wn
  refine gs (pc' := 1) (fun _ _ _ _ _ hl => lv_aload_n hx hb d_Mo_order_0 rfl (lv_at hl 0 rfl)) ?_
  refine gs (pc' := 2) (fun _ _ _ _ _ hl => lv_aload_n hx hb d_Mo_order_1 rfl (lv_at hl 0 rfl)) ?_
  refine gs (pc' := 3) (fun _ _ _ _ _ hl => lv_iload_n hx hb d_Mo_order_2 rfl (lv_at hl 1 rfl)) ?_
  obtain ⟨sg_1, sh_2, kt_3, kb_4, ks_5, Rr_6, kf_7, v_8, v_9, v_10, v_11, v_12, v_13, v_14⟩ := id hV
  have f_15 : G hm = some (70, .inr (9, [.int (nI th), .int (nI S.n), .ref (A 2), .ref (A 3), .ref (A 4), .ref (A 5), .int sg_1, .int sh_2, .ref (A 8), .ref (A 9), .int (nI S.rn), .ref (A 11), .ref (A 12), .ref (A 13), .int (nI S.wn), .ref (A 15), .ref (A 16), .ref (A 17), .ref (A 18), .int kt_3, .int kb_4, .int ks_5])) := v_8
  have hV_16 : MW cA hm A S th qm qo qk G := ⟨sg_1, sh_2, kt_3, kb_4, ks_5, Rr_6, _, f_15, v_9, v_10, v_11, v_12, v_13, v_14⟩
  refine g_outi hlo (g_runV (As := [.int (iI x)]) (rest := [.ref hm]) ⟨hx, hb, hml, hown, hts⟩ hK hZ hRc hRs (c_Mo_isValue l D cA lo MC MS G B hm A S th qm qo qk hV_16 hW x (by omega) (by omega) hB1 hB2) (fun _ _ => cwV 1 hts (tb_good (tb_cons wm893 (tb_cons wm895 (tb_cons ws33 (tb_cons wm12 k_Mo_isValue))))) rfl rfl rfl (by decide +kernel) ⟨by rw [hRf]; exact Nat.le_of_ble_eq_true rfl, by rw [hRl]; exact Nat.le_of_ble_eq_true rfl⟩) f_15 rfl hB1 hB2 rfl (Nat.le_of_ble_eq_true rfl) d_Mo_order_3) (fun r_20 G_17 B_18 p_19 => ?_)
  obtain ⟨u_21, e_22⟩ := p_19
  cases u_21
  subst e_22
  have bd_23 := b01_le (decide (0 ≤ x ∧ x < S.n))
  refine gsb (pc1 := 21) (pc2 := 9) (fun _ _ _ _ _ => lv_if_eq (tgt := 21) hx hb d_Mo_order_6 (by decide)) (fun c_24 => ?_) (fun c_24 => ?_)
  · skip
    have nc_24 : (b01 (decide (0 ≤ x ∧ x < S.n))) = 0 := (n0_eq (a := (b01 (decide (0 ≤ x ∧ x < S.n)))) (by omega)).1 c_24
    have hb_x : ¬ (0 ≤ x ∧ x < S.n) := b01_0 nc_24
    refine gs (pc' := 22) (fun _ _ _ _ _ hl => lv_iconst (v := nI 1) hx hb d_Mo_order_21 (by decide)) ?_
    obtain ⟨sg_25, sh_26, kt_27, kb_28, ks_29, Rr_30, kf_31, v_32, v_33, v_34, v_35, v_36, v_37, v_38⟩ := id hV_16
    have f_39 : G hm = some (70, .inr (9, [.int (nI th), .int (nI S.n), .ref (A 2), .ref (A 3), .ref (A 4), .ref (A 5), .int sg_25, .int sh_26, .ref (A 8), .ref (A 9), .int (nI S.rn), .ref (A 11), .ref (A 12), .ref (A 13), .int (nI S.wn), .ref (A 15), .ref (A 16), .ref (A 17), .ref (A 18), .int kt_27, .int kb_28, .int ks_29])) := v_32
    refine g_put (ty := .int) hx hb hts hin_Mo ty_Mo ty_Mo_ok nm_Mo hown hK f_39 rfl 0 (by decide) (hts _ wm754) (fun _ h9 => h9) rfl (by decide +kernel) rfl rfl (Nat.le_of_ble_eq_true rfl) d_Mo_order_22 (fun G_40 f_41 o_42 => ?_)
    have f_43 : G_40 hm = some (70, .inr (9, [.int (nI 1), .int (nI S.n), .ref (A 2), .ref (A 3), .ref (A 4), .ref (A 5), .int sg_25, .int sh_26, .ref (A 8), .ref (A 9), .int (nI S.rn), .ref (A 11), .ref (A 12), .ref (A 13), .int (nI S.wn), .ref (A 15), .ref (A 16), .ref (A 17), .ref (A 18), .int kt_27, .int kb_28, .int ks_29])) := f_41
    have f_44 : G_40 (A 18) = some (83, .inl (cA 0, 8600, .inl kf_31)) := (o_42 _ (gne v_34 f_39 (fun e => by cases e))).trans v_34
    have gf_45 : gfr mT G G_40 := gfr_put gfr_rf f_39 (show mT 70 by decide) o_42
    have gf_46 : gfr (fun x => x = 70) _ G_40 := gfr_put gfr_rf f_39 rfl o_42
    have mr_47 : MR cA A Rr_30 G_40 := MR_fr v_33 gf_46 (show ¬ (75 : Nat) = 70 by decide) (show ¬ (76 : Nat) = 70 by decide)
    have mb_48 : MB cA A S G_40 := MB_fr v_38 gf_46 (fun x h9 => by omega)
    refine gs (pc' := 26) (fun _ _ _ _ _ hl => lv_aload_n hx hb d_Mo_order_25 rfl (lv_at hl 0 rfl)) ?_
    refine g_get hx hb hts hin_Mo hown hK f_43 rfl 0 (by decide) (hts _ wm754) (fun _ h9 => h9) rfl d_Mo_order_26 ?_
    refine gsb (pc1 := 34) (pc2 := 32) (fun _ _ _ _ _ => lv_if_le (tgt := 34) hx hb d_Mo_order_29 (by decide)) (fun c_49 => ?_) (fun c_49 => ?_)
    · skip
      have nc_49 : 1 ≤ 0 := (n0_le (a := 1) (by omega)).1 c_49
      exact absurd nc_49 (by decide)
    · skip
      have nc_49 : 1 > 0 := (n0_le (a := 1) (by omega)).2 c_49
      refine gs (pc' := 33) (fun _ _ _ _ _ hl => lv_iconst (v := nI 0) hx hb d_Mo_order_32 (by decide)) ?_
      have hV_50 : MW cA hm A S 1 none none none G_40 := ⟨sg_25, sh_26, kt_27, kb_28, ks_29, Rr_30, _, f_43, mr_47, f_44, sn_, sn_, sn_, mb_48⟩
      rw [su_order (fun q9 => vn_ hx1 hx2 hb_x q9.1)] at hret
      exact hret 33 _ _ _ _ d_Mo_order_33 hB1 hB2 ⟨rfl, fun h9 => absurd (show (1 : Nat) = 0 from h9) (by decide), hV_50, gf_45⟩
  · skip
    have nc_24 : (b01 (decide (0 ≤ x ∧ x < S.n))) ≠ 0 := (n0_eq (a := (b01 (decide (0 ≤ x ∧ x < S.n)))) (by omega)).2 c_24
    have hg_x : 0 ≤ x ∧ x < S.n := b01_1 nc_24
    have hg1_x := hg_x.1
    have hg2_x := hg_x.2
    obtain ⟨i, hxe_i⟩ : ∃ i : Nat, x = (i : Int) := ⟨x.toNat, by omega⟩
    subst hxe_i
    rw [← nI_iI i] at hret ⊢
    have hi_i : i < S.n := by omega
    have rbq_51 : rb (S.v i) 100 := rb_of (hW.v _ hi_i).1
    refine gs (pc' := 10) (fun _ _ _ _ _ hl => lv_aload_n hx hb d_Mo_order_9 rfl (lv_at hl 0 rfl)) ?_
    refine gs (pc' := 11) (fun _ _ _ _ _ hl => lv_iload_n hx hb d_Mo_order_10 rfl (lv_at hl 2 rfl)) ?_
    obtain ⟨sg_52, sh_53, kt_54, kb_55, ks_56, Rr_57, kf_58, v_59, v_60, v_61, v_62, v_63, v_64, v_65⟩ := id hV_16
    have f_66 : G hm = some (70, .inr (9, [.int (nI th), .int (nI S.n), .ref (A 2), .ref (A 3), .ref (A 4), .ref (A 5), .int sg_52, .int sh_53, .ref (A 8), .ref (A 9), .int (nI S.rn), .ref (A 11), .ref (A 12), .ref (A 13), .int (nI S.wn), .ref (A 15), .ref (A 16), .ref (A 17), .ref (A 18), .int kt_54, .int kb_55, .int ks_56])) := v_59
    have hV_67 : MW cA hm A S th qm qo qk G := ⟨sg_52, sh_53, kt_54, kb_55, ks_56, Rr_57, _, f_66, v_60, v_61, v_62, v_63, v_64, v_65⟩
    refine g_outi hlo (g_runV (As := [.int (iI y)]) (rest := [.ref hm]) ⟨hx, hb, hml, hown, hts⟩ hK hZ hRc hRs (c_Mo_isValue l D cA lo MC MS G B hm A S th qm qo qk hV_67 hW y (by omega) (by omega) hB1 hB2) (fun _ _ => cwV 1 hts (tb_good (tb_cons wm893 (tb_cons wm895 (tb_cons ws33 (tb_cons wm12 k_Mo_isValue))))) rfl rfl rfl (by decide +kernel) ⟨by rw [hRf]; exact Nat.le_of_ble_eq_true rfl, by rw [hRl]; exact Nat.le_of_ble_eq_true rfl⟩) f_66 rfl hB1 hB2 rfl (Nat.le_of_ble_eq_true rfl) d_Mo_order_11) (fun r_71 G_68 B_69 p_70 => ?_)
    obtain ⟨u_72, e_73⟩ := p_70
    cases u_72
    subst e_73
    have bd_74 := b01_le (decide (0 ≤ y ∧ y < S.n))
    refine gsb (pc1 := 21) (pc2 := 17) (fun _ _ _ _ _ => lv_if_eq (tgt := 21) hx hb d_Mo_order_14 (by decide)) (fun c_75 => ?_) (fun c_75 => ?_)
    · skip
      have nc_75 : (b01 (decide (0 ≤ y ∧ y < S.n))) = 0 := (n0_eq (a := (b01 (decide (0 ≤ y ∧ y < S.n)))) (by omega)).1 c_75
      have hb_y : ¬ (0 ≤ y ∧ y < S.n) := b01_0 nc_75
      refine gs (pc' := 22) (fun _ _ _ _ _ hl => lv_iconst (v := nI 1) hx hb d_Mo_order_21 (by decide)) ?_
      obtain ⟨sg_76, sh_77, kt_78, kb_79, ks_80, Rr_81, kf_82, v_83, v_84, v_85, v_86, v_87, v_88, v_89⟩ := id hV_67
      have f_90 : G hm = some (70, .inr (9, [.int (nI th), .int (nI S.n), .ref (A 2), .ref (A 3), .ref (A 4), .ref (A 5), .int sg_76, .int sh_77, .ref (A 8), .ref (A 9), .int (nI S.rn), .ref (A 11), .ref (A 12), .ref (A 13), .int (nI S.wn), .ref (A 15), .ref (A 16), .ref (A 17), .ref (A 18), .int kt_78, .int kb_79, .int ks_80])) := v_83
      refine g_put (ty := .int) hx hb hts hin_Mo ty_Mo ty_Mo_ok nm_Mo hown hK f_90 rfl 0 (by decide) (hts _ wm754) (fun _ h9 => h9) rfl (by decide +kernel) rfl rfl (Nat.le_of_ble_eq_true rfl) d_Mo_order_22 (fun G_91 f_92 o_93 => ?_)
      have f_94 : G_91 hm = some (70, .inr (9, [.int (nI 1), .int (nI S.n), .ref (A 2), .ref (A 3), .ref (A 4), .ref (A 5), .int sg_76, .int sh_77, .ref (A 8), .ref (A 9), .int (nI S.rn), .ref (A 11), .ref (A 12), .ref (A 13), .int (nI S.wn), .ref (A 15), .ref (A 16), .ref (A 17), .ref (A 18), .int kt_78, .int kb_79, .int ks_80])) := f_92
      have f_95 : G_91 (A 18) = some (83, .inl (cA 0, 8600, .inl kf_82)) := (o_93 _ (gne v_85 f_90 (fun e => by cases e))).trans v_85
      have gf_96 : gfr mT G G_91 := gfr_put gfr_rf f_90 (show mT 70 by decide) o_93
      have gf_97 : gfr (fun x => x = 70) _ G_91 := gfr_put gfr_rf f_90 rfl o_93
      have mr_98 : MR cA A Rr_81 G_91 := MR_fr v_84 gf_97 (show ¬ (75 : Nat) = 70 by decide) (show ¬ (76 : Nat) = 70 by decide)
      have mb_99 : MB cA A S G_91 := MB_fr v_89 gf_97 (fun x h9 => by omega)
      refine gs (pc' := 26) (fun _ _ _ _ _ hl => lv_aload_n hx hb d_Mo_order_25 rfl (lv_at hl 0 rfl)) ?_
      refine g_get hx hb hts hin_Mo hown hK f_94 rfl 0 (by decide) (hts _ wm754) (fun _ h9 => h9) rfl d_Mo_order_26 ?_
      refine gsb (pc1 := 34) (pc2 := 32) (fun _ _ _ _ _ => lv_if_le (tgt := 34) hx hb d_Mo_order_29 (by decide)) (fun c_100 => ?_) (fun c_100 => ?_)
      · skip
        have nc_100 : 1 ≤ 0 := (n0_le (a := 1) (by omega)).1 c_100
        exact absurd nc_100 (by decide)
      · skip
        have nc_100 : 1 > 0 := (n0_le (a := 1) (by omega)).2 c_100
        refine gs (pc' := 33) (fun _ _ _ _ _ hl => lv_iconst (v := nI 0) hx hb d_Mo_order_32 (by decide)) ?_
        have hV_101 : MW cA hm A S 1 none none none G_91 := ⟨sg_76, sh_77, kt_78, kb_79, ks_80, Rr_81, _, f_94, mr_98, f_95, sn_, sn_, sn_, mb_99⟩
        rw [su_order (fun q9 => vn_ hy1 hy2 hb_y q9.2)] at hret
        exact hret 33 _ _ _ _ d_Mo_order_33 hB1 hB2 ⟨rfl, fun h9 => absurd (show (1 : Nat) = 0 from h9) (by decide), hV_101, gf_96⟩
    · skip
      have nc_75 : (b01 (decide (0 ≤ y ∧ y < S.n))) ≠ 0 := (n0_eq (a := (b01 (decide (0 ≤ y ∧ y < S.n)))) (by omega)).2 c_75
      have hg_y : 0 ≤ y ∧ y < S.n := b01_1 nc_75
      have hg1_y := hg_y.1
      have hg2_y := hg_y.2
      obtain ⟨j, hxe_j⟩ : ∃ j : Nat, y = (j : Int) := ⟨y.toNat, by omega⟩
      subst hxe_j
      rw [← nI_iI j] at hret ⊢
      have hi_j : j < S.n := by omega
      have rbq_102 : rb (S.v j) 100 := rb_of (hW.v _ hi_j).1
      refine gs (pc' := 18) (fun _ _ _ _ _ hl => lv_iconst (v := nI 0) hx hb d_Mo_order_17 (by decide)) ?_
      refine gs (pc' := 22) (fun _ _ _ _ _ hl => lv_goto (tgt := 22) hx hb d_Mo_order_18 (by decide)) ?_
      obtain ⟨sg_103, sh_104, kt_105, kb_106, ks_107, Rr_108, kf_109, v_110, v_111, v_112, v_113, v_114, v_115, v_116⟩ := id hV_67
      have f_117 : G hm = some (70, .inr (9, [.int (nI th), .int (nI S.n), .ref (A 2), .ref (A 3), .ref (A 4), .ref (A 5), .int sg_103, .int sh_104, .ref (A 8), .ref (A 9), .int (nI S.rn), .ref (A 11), .ref (A 12), .ref (A 13), .int (nI S.wn), .ref (A 15), .ref (A 16), .ref (A 17), .ref (A 18), .int kt_105, .int kb_106, .int ks_107])) := v_110
      refine g_put (ty := .int) hx hb hts hin_Mo ty_Mo ty_Mo_ok nm_Mo hown hK f_117 rfl 0 (by decide) (hts _ wm754) (fun _ h9 => h9) rfl (by decide +kernel) rfl rfl (Nat.le_of_ble_eq_true rfl) d_Mo_order_22 (fun G_118 f_119 o_120 => ?_)
      have f_121 : G_118 hm = some (70, .inr (9, [.int (nI 0), .int (nI S.n), .ref (A 2), .ref (A 3), .ref (A 4), .ref (A 5), .int sg_103, .int sh_104, .ref (A 8), .ref (A 9), .int (nI S.rn), .ref (A 11), .ref (A 12), .ref (A 13), .int (nI S.wn), .ref (A 15), .ref (A 16), .ref (A 17), .ref (A 18), .int kt_105, .int kb_106, .int ks_107])) := f_119
      have f_122 : G_118 (A 18) = some (83, .inl (cA 0, 8600, .inl kf_109)) := (o_120 _ (gne v_112 f_117 (fun e => by cases e))).trans v_112
      have gf_123 : gfr mT G G_118 := gfr_put gfr_rf f_117 (show mT 70 by decide) o_120
      have gf_124 : gfr (fun x => x = 70) _ G_118 := gfr_put gfr_rf f_117 rfl o_120
      have mr_125 : MR cA A Rr_108 G_118 := MR_fr v_111 gf_124 (show ¬ (75 : Nat) = 70 by decide) (show ¬ (76 : Nat) = 70 by decide)
      have mb_126 : MB cA A S G_118 := MB_fr v_116 gf_124 (fun x h9 => by omega)
      refine gs (pc' := 26) (fun _ _ _ _ _ hl => lv_aload_n hx hb d_Mo_order_25 rfl (lv_at hl 0 rfl)) ?_
      refine g_get hx hb hts hin_Mo hown hK f_121 rfl 0 (by decide) (hts _ wm754) (fun _ h9 => h9) rfl d_Mo_order_26 ?_
      refine gsb (pc1 := 34) (pc2 := 32) (fun _ _ _ _ _ => lv_if_le (tgt := 34) hx hb d_Mo_order_29 (by decide)) (fun c_127 => ?_) (fun c_127 => ?_)
      · skip
        have nc_127 : 0 ≤ 0 := (n0_le (a := 0) (by omega)).1 c_127
        refine gs (pc' := 35) (fun _ _ _ _ _ hl => lv_aload_n hx hb d_Mo_order_34 rfl (lv_at hl 0 rfl)) ?_
        refine g_get hx hb hts hin_Mo hown hK f_121 rfl 3 (by decide) (hts _ wm757) (fun _ h9 => h9) rfl d_Mo_order_35 ?_
        refine gs (pc' := 39) (fun _ _ _ _ _ hl => lv_iload_n hx hb d_Mo_order_38 rfl (lv_at hl 1 rfl)) ?_
        obtain ⟨sgn_128, unt_129, sto_130, szs_131, f_132, f_133, f_134, f_135, hv_136⟩ := id mb_126.1
        refine g_iald hx hb hK 0 f_133 rfl (show vp_in (nI i) 200 from vp_in_nI (by omega) (by omega)) d_Mo_order_39 ?_
        refine g_eqi (show unt_129 (nI i).toNatClampNeg = unt_129 i from by rw [nI_clamp (by omega)]) ?_
        refine g_eqi (show unt_129 i = iI (S.un i) from (hv_136 i (by omega)).2.1) ?_
        have ub_137 := (hW.v i (by omega)).2.1
        have ub_138 := (hW.v i (by omega)).2.2
        refine gs (pc' := 41) (fun _ _ _ _ _ hl => lv_aload_n hx hb d_Mo_order_40 rfl (lv_at hl 0 rfl)) ?_
        refine g_get hx hb hts hin_Mo hown hK f_121 rfl 3 (by decide) (hts _ wm757) (fun _ h9 => h9) rfl d_Mo_order_41 ?_
        refine gs (pc' := 45) (fun _ _ _ _ _ hl => lv_iload_n hx hb d_Mo_order_44 rfl (lv_at hl 2 rfl)) ?_
        refine g_iald hx hb hK 0 f_133 rfl (show vp_in (nI j) 200 from vp_in_nI (by omega) (by omega)) d_Mo_order_45 ?_
        refine g_eqi (show unt_129 (nI j).toNatClampNeg = unt_129 j from by rw [nI_clamp (by omega)]) ?_
        refine g_eqi (show unt_129 j = iI (S.un j) from (hv_136 j (by omega)).2.1) ?_
        have ub_139 := (hW.v j (by omega)).2.1
        have ub_140 := (hW.v j (by omega)).2.2
        refine gsb (pc1 := 54) (pc2 := 49) (fun _ _ _ _ _ => lv_icmp_eq (tgt := 54) hx hb d_Mo_order_46 (by decide)) (fun c_141 => ?_) (fun c_141 => ?_)
        · skip
          have nc_141 : (S.un i) = (S.un j) := (ii_eq (a := (S.un i)) (b := (S.un j)) (by omega) (by omega) (by omega) (by omega)).1 (by first | exact c_141 | (have z9 := c_141; simp only [nI_iI] at z9; exact z9))
          refine gs (pc' := 55) (fun _ _ _ _ _ hl => lv_aload_n hx hb d_Mo_order_54 rfl (lv_at hl 0 rfl)) ?_
          refine gs (pc' := 56) (fun _ _ _ _ _ hl => lv_iload_n hx hb d_Mo_order_55 rfl (lv_at hl 1 rfl)) ?_
          refine gs (pc' := 57) (fun _ _ _ _ _ hl => lv_iload_n hx hb d_Mo_order_56 rfl (lv_at hl 2 rfl)) ?_
          have hV_142 : MW cA hm A S 0 qm qo qk G_118 := ⟨sg_103, sh_104, kt_105, kb_106, ks_107, Rr_108, _, f_121, mr_125, f_122, v_113, v_114, v_115, mb_126⟩
          refine g_outi hlo (g_runV (As := [.int (nI i), .int (nI j)]) (rest := []) ⟨hx, hb, hml, hown, hts⟩ hK hZ hRc hRs (c_Mo_compareValues l D cA lo MC MS G_118 B hm A S 0 qm qo qk hV_142 hW i (by omega) j (by omega) hB1 hB2) (fun _ _ => cwV 2 hts (tb_good (tb_cons wm949 (tb_cons wm951 (tb_cons ws44 (tb_cons wm12 k_Mo_compareValues))))) rfl rfl rfl (by decide +kernel) ⟨by rw [hRf]; exact Nat.le_of_ble_eq_true rfl, by rw [hRl]; exact Nat.le_of_ble_eq_true rfl⟩) f_121 rfl hB1 hB2 rfl (Nat.le_of_ble_eq_true rfl) d_Mo_order_57) (fun r_146 G_143 B_144 p_145 => ?_)
          obtain ⟨e_147, e_150, hV_148, gf_149⟩ := p_145
          subst e_150
          have e_147b : B = B_144 := e_147.symm
          subst e_147b
          have gf_151 : gfr mT G G_143 := mT_mT gf_123 gf_149
          have bd_152 := rcmp_bd (S.v i) (S.v j)
          have hV_153 := MW_un hV_148
          rw [st_order hn hi_i hi_j, if_neg (show ¬ S.un i ≠ S.un j by omega)] at hret
          exact hret 60 _ _ _ _ d_Mo_order_60 hB1 hB2 ⟨rfl, fun _ => rfl, hV_153, gf_151⟩
        · skip
          have nc_141 : (S.un i) ≠ (S.un j) := (ii_eq (a := (S.un i)) (b := (S.un j)) (by omega) (by omega) (by omega) (by omega)).2 (by first | exact c_141 | (have z9 := c_141; simp only [nI_iI] at z9; exact z9))
          refine gs (pc' := 51) (fun _ _ _ _ _ hl => lv_bipush (v := (-2)) hx hb d_Mo_order_49 (by decide)) ?_
          refine g_eqi (show (-2) = iI (-2) from by decide) ?_
          refine gs (pc' := 60) (fun _ _ _ _ _ hl => lv_goto (tgt := 60) hx hb d_Mo_order_51 (by decide)) ?_
          have hV_154 : MW cA hm A S 0 none none none G_118 := ⟨sg_103, sh_104, kt_105, kb_106, ks_107, Rr_108, _, f_121, mr_125, f_122, sn_, sn_, sn_, mb_126⟩
          rw [st_order hn hi_i hi_j, if_pos (show S.un i ≠ S.un j by omega)] at hret
          exact hret 60 _ _ _ _ d_Mo_order_60 hB1 hB2 ⟨rfl, fun _ => rfl, hV_154, gf_123⟩
      · skip
        have nc_127 : 0 > 0 := (n0_le (a := 0) (by omega)).2 c_127
        exact absurd nc_127 (by decide)
set_option maxHeartbeats 4000000 in
set_option maxRecDepth 100000 in
theorem c_Mo_told (l : Launch) (D : va_G) (cA : Nat → ClassId) (lo MC MS : Nat) (G : gT) (B : Nat × Nat) (hm : Nat) (A : Nat → Nat) (S : St) (th : Nat) (qm qo qk : Option Rat) (hV : MW cA hm A S th qm qo qk G) (hW : WF S) (x : Int) (hx1 : -2147483648 ≤ x) (hx2 : x < 2147483648) (y : Int) (hy1 : -2147483648 ≤ y) (hy2 : y < 2147483648) (hB1 : B.1 ≤ MC) (hB2 : B.2 ≤ MS) : gMet l y_Mo_told w_Mo_told 2 45 D clS (gtys cA) lo MC MS [.ref hm, .int (iI x), .int (iI y)] G B (gQi D clS lo (fun r9 u => u.2 = B ∧ ((sp_told S (iI x) (iI y)).1 = 0 → r9 = iI (sp_told S (iI x) (iI y)).2.1) ∧ MW cA hm A (sp_told S (iI x) (iI y)).2.2 (sp_told S (iI x) (iI y)).1 none none none u.1 ∧ gfr mT G u.1)) := by
  refine g_meti (cc := prog_11_method_36_code) (nL := 3) (L := [(0, .ref hm), (1, .int (iI x)), (2, .int (iI y))]) (by decide +kernel) rfl (Nat.le_of_ble_eq_true rfl) rfl ?_
  intro p e R s m args below meth c Q hF hRc hRs hRf hRl hret
  obtain ⟨hx, hb, hr, hml, hts0, hown, hlocks, hin, hK, hlo, hZ⟩ := hF
  have hts : ∀ w ∈ tbg, w.before args s = true := fun w h => hts0 w (List.mem_cons_of_mem _ h)
  have hn := hW.n
  have hrn := hW.rn
  have hwn := hW.wn
  refine gs (pc' := 1) (fun _ _ _ _ _ hl => lv_aload_n hx hb d_Mo_told_0 rfl (lv_at hl 0 rfl)) ?_
  refine gs (pc' := 2) (fun _ _ _ _ _ hl => lv_aload_n hx hb d_Mo_told_1 rfl (lv_at hl 0 rfl)) ?_
  refine gs (pc' := 3) (fun _ _ _ _ _ hl => lv_iload_n hx hb d_Mo_told_2 rfl (lv_at hl 1 rfl)) ?_
  obtain ⟨sg_1, sh_2, kt_3, kb_4, ks_5, Rr_6, kf_7, v_8, v_9, v_10, v_11, v_12, v_13, v_14⟩ := id hV
  have f_15 : G hm = some (70, .inr (9, [.int (nI th), .int (nI S.n), .ref (A 2), .ref (A 3), .ref (A 4), .ref (A 5), .int sg_1, .int sh_2, .ref (A 8), .ref (A 9), .int (nI S.rn), .ref (A 11), .ref (A 12), .ref (A 13), .int (nI S.wn), .ref (A 15), .ref (A 16), .ref (A 17), .ref (A 18), .int kt_3, .int kb_4, .int ks_5])) := v_8
  have hV_16 : MW cA hm A S th qm qo qk G := ⟨sg_1, sh_2, kt_3, kb_4, ks_5, Rr_6, _, f_15, v_9, v_10, v_11, v_12, v_13, v_14⟩
  refine g_outi hlo (g_runV (As := [.int (iI x)]) (rest := [.ref hm]) ⟨hx, hb, hml, hown, hts⟩ hK hZ hRc hRs (c_Mo_isValue l D cA lo MC MS G B hm A S th qm qo qk hV_16 hW x (by omega) (by omega) hB1 hB2) (fun _ _ => cwV 1 hts (tb_good (tb_cons wm893 (tb_cons wm895 (tb_cons ws33 (tb_cons wm12 k_Mo_isValue))))) rfl rfl rfl (by decide +kernel) ⟨by rw [hRf]; exact Nat.le_of_ble_eq_true rfl, by rw [hRl]; exact Nat.le_of_ble_eq_true rfl⟩) f_15 rfl hB1 hB2 rfl (Nat.le_of_ble_eq_true rfl) d_Mo_told_3) (fun r_20 G_17 B_18 p_19 => ?_)
  obtain ⟨u_21, e_22⟩ := p_19
  cases u_21
  subst e_22
  have bd_23 := b01_le (decide (0 ≤ x ∧ x < S.n))
  refine gsb (pc1 := 13) (pc2 := 9) (fun _ _ _ _ _ => lv_if_ne (tgt := 13) hx hb d_Mo_told_6 (by decide)) (fun c_24 => ?_) (fun c_24 => ?_)
  · skip
    have nc_24 : (b01 (decide (0 ≤ x ∧ x < S.n))) ≠ 0 := (n0_ne (a := (b01 (decide (0 ≤ x ∧ x < S.n)))) (by omega)).1 c_24
    have hg_x : 0 ≤ x ∧ x < S.n := b01_1 nc_24
    have hg1_x := hg_x.1
    have hg2_x := hg_x.2
    obtain ⟨i, hxe_i⟩ : ∃ i : Nat, x = (i : Int) := ⟨x.toNat, by omega⟩
    subst hxe_i
    rw [← nI_iI i] at hret ⊢
    have hi_i : i < S.n := by omega
    have rbq_25 : rb (S.v i) 100 := rb_of (hW.v _ hi_i).1
    refine gs (pc' := 14) (fun _ _ _ _ _ hl => lv_iload_n hx hb d_Mo_told_13 rfl (lv_at hl 2 rfl)) ?_
    refine gsb (pc1 := 22) (pc2 := 17) (fun _ _ _ _ _ => lv_if_lt (tgt := 22) hx hb d_Mo_told_14 (by decide)) (fun c_26 => ?_) (fun c_26 => ?_)
    · skip
      have nc_26 : y < 0 := (ii_lt (a := y) (b := 0) (by omega) (by omega) (by omega) (by omega)).1 (by first | exact c_26 | (have z9 := c_26; simp only [nI_iI] at z9; exact z9))
      refine gs (pc' := 23) (fun _ _ _ _ _ hl => lv_iconst (v := nI 2) hx hb d_Mo_told_22 (by decide)) ?_
      refine gs (pc' := 27) (fun _ _ _ _ _ hl => lv_goto (tgt := 27) hx hb d_Mo_told_23 (by decide)) ?_
      obtain ⟨sg_27, sh_28, kt_29, kb_30, ks_31, Rr_32, kf_33, v_34, v_35, v_36, v_37, v_38, v_39, v_40⟩ := id hV_16
      have f_41 : G hm = some (70, .inr (9, [.int (nI th), .int (nI S.n), .ref (A 2), .ref (A 3), .ref (A 4), .ref (A 5), .int sg_27, .int sh_28, .ref (A 8), .ref (A 9), .int (nI S.rn), .ref (A 11), .ref (A 12), .ref (A 13), .int (nI S.wn), .ref (A 15), .ref (A 16), .ref (A 17), .ref (A 18), .int kt_29, .int kb_30, .int ks_31])) := v_34
      refine g_put (ty := .int) hx hb hts hin_Mo ty_Mo ty_Mo_ok nm_Mo hown hK f_41 rfl 0 (by decide) (hts _ wm754) (fun _ h9 => h9) rfl (by decide +kernel) rfl rfl (Nat.le_of_ble_eq_true rfl) d_Mo_told_27 (fun G_42 f_43 o_44 => ?_)
      have f_45 : G_42 hm = some (70, .inr (9, [.int (nI 2), .int (nI S.n), .ref (A 2), .ref (A 3), .ref (A 4), .ref (A 5), .int sg_27, .int sh_28, .ref (A 8), .ref (A 9), .int (nI S.rn), .ref (A 11), .ref (A 12), .ref (A 13), .int (nI S.wn), .ref (A 15), .ref (A 16), .ref (A 17), .ref (A 18), .int kt_29, .int kb_30, .int ks_31])) := f_43
      have f_46 : G_42 (A 18) = some (83, .inl (cA 0, 8600, .inl kf_33)) := (o_44 _ (gne v_36 f_41 (fun e => by cases e))).trans v_36
      have gf_47 : gfr mT G G_42 := gfr_put gfr_rf f_41 (show mT 70 by decide) o_44
      have gf_48 : gfr (fun x => x = 70) _ G_42 := gfr_put gfr_rf f_41 rfl o_44
      have mr_49 : MR cA A Rr_32 G_42 := MR_fr v_35 gf_48 (show ¬ (75 : Nat) = 70 by decide) (show ¬ (76 : Nat) = 70 by decide)
      have mb_50 : MB cA A S G_42 := MB_fr v_40 gf_48 (fun x h9 => by omega)
      refine gs (pc' := 31) (fun _ _ _ _ _ hl => lv_aload_n hx hb d_Mo_told_30 rfl (lv_at hl 0 rfl)) ?_
      refine g_get hx hb hts hin_Mo hown hK f_45 rfl 0 (by decide) (hts _ wm754) (fun _ h9 => h9) rfl d_Mo_told_31 ?_
      refine gsb (pc1 := 39) (pc2 := 37) (fun _ _ _ _ _ => lv_if_le (tgt := 39) hx hb d_Mo_told_34 (by decide)) (fun c_51 => ?_) (fun c_51 => ?_)
      · skip
        have nc_51 : 2 ≤ 0 := (n0_le (a := 2) (by omega)).1 c_51
        exact absurd nc_51 (by decide)
      · skip
        have nc_51 : 2 > 0 := (n0_le (a := 2) (by omega)).2 c_51
        refine gs (pc' := 38) (fun _ _ _ _ _ hl => lv_iconst (v := nI 0) hx hb d_Mo_told_37 (by decide)) ?_
        have hV_52 : MW cA hm A S 2 none none none G_42 := ⟨sg_27, sh_28, kt_29, kb_30, ks_31, Rr_32, _, f_45, mr_49, f_46, sn_, sn_, sn_, mb_50⟩
        rw [st_told hn hi_i hy1 hy2, if_pos (show ¬ (0 ≤ y ∧ y ≤ 3) by omega)] at hret
        exact hret 38 _ _ _ _ d_Mo_told_38 hB1 hB2 ⟨rfl, fun h9 => absurd (show (2 : Nat) = 0 from h9) (by decide), hV_52, gf_47⟩
    · skip
      have nc_26 : y ≥ 0 := (ii_lt (a := y) (b := 0) (by omega) (by omega) (by omega) (by omega)).2 (by first | exact c_26 | (have z9 := c_26; simp only [nI_iI] at z9; exact z9))
      refine gs (pc' := 18) (fun _ _ _ _ _ hl => lv_iload_n hx hb d_Mo_told_17 rfl (lv_at hl 2 rfl)) ?_
      refine gs (pc' := 19) (fun _ _ _ _ _ hl => lv_iconst (v := nI 3) hx hb d_Mo_told_18 (by decide)) ?_
      refine gsb (pc1 := 26) (pc2 := 22) (fun _ _ _ _ _ => lv_icmp_le (tgt := 26) hx hb d_Mo_told_19 (by decide)) (fun c_53 => ?_) (fun c_53 => ?_)
      · skip
        have nc_53 : y ≤ ((3 : Nat) : Int) := (ii_le (a := y) (b := ((3 : Nat) : Int)) (by omega) (by omega) (by omega) (by omega)).1 (by first | exact c_53 | (have z9 := c_53; simp only [nI_iI] at z9; exact z9))
        refine gs (pc' := 27) (fun _ _ _ _ _ hl => lv_iconst (v := nI 0) hx hb d_Mo_told_26 (by decide)) ?_
        obtain ⟨sg_54, sh_55, kt_56, kb_57, ks_58, Rr_59, kf_60, v_61, v_62, v_63, v_64, v_65, v_66, v_67⟩ := id hV_16
        have f_68 : G hm = some (70, .inr (9, [.int (nI th), .int (nI S.n), .ref (A 2), .ref (A 3), .ref (A 4), .ref (A 5), .int sg_54, .int sh_55, .ref (A 8), .ref (A 9), .int (nI S.rn), .ref (A 11), .ref (A 12), .ref (A 13), .int (nI S.wn), .ref (A 15), .ref (A 16), .ref (A 17), .ref (A 18), .int kt_56, .int kb_57, .int ks_58])) := v_61
        refine g_put (ty := .int) hx hb hts hin_Mo ty_Mo ty_Mo_ok nm_Mo hown hK f_68 rfl 0 (by decide) (hts _ wm754) (fun _ h9 => h9) rfl (by decide +kernel) rfl rfl (Nat.le_of_ble_eq_true rfl) d_Mo_told_27 (fun G_69 f_70 o_71 => ?_)
        have f_72 : G_69 hm = some (70, .inr (9, [.int (nI 0), .int (nI S.n), .ref (A 2), .ref (A 3), .ref (A 4), .ref (A 5), .int sg_54, .int sh_55, .ref (A 8), .ref (A 9), .int (nI S.rn), .ref (A 11), .ref (A 12), .ref (A 13), .int (nI S.wn), .ref (A 15), .ref (A 16), .ref (A 17), .ref (A 18), .int kt_56, .int kb_57, .int ks_58])) := f_70
        have f_73 : G_69 (A 18) = some (83, .inl (cA 0, 8600, .inl kf_60)) := (o_71 _ (gne v_63 f_68 (fun e => by cases e))).trans v_63
        have gf_74 : gfr mT G G_69 := gfr_put gfr_rf f_68 (show mT 70 by decide) o_71
        have gf_75 : gfr (fun x => x = 70) _ G_69 := gfr_put gfr_rf f_68 rfl o_71
        have mr_76 : MR cA A Rr_59 G_69 := MR_fr v_62 gf_75 (show ¬ (75 : Nat) = 70 by decide) (show ¬ (76 : Nat) = 70 by decide)
        have mb_77 : MB cA A S G_69 := MB_fr v_67 gf_75 (fun x h9 => by omega)
        refine gs (pc' := 31) (fun _ _ _ _ _ hl => lv_aload_n hx hb d_Mo_told_30 rfl (lv_at hl 0 rfl)) ?_
        refine g_get hx hb hts hin_Mo hown hK f_72 rfl 0 (by decide) (hts _ wm754) (fun _ h9 => h9) rfl d_Mo_told_31 ?_
        refine gsb (pc1 := 39) (pc2 := 37) (fun _ _ _ _ _ => lv_if_le (tgt := 39) hx hb d_Mo_told_34 (by decide)) (fun c_78 => ?_) (fun c_78 => ?_)
        · skip
          have nc_78 : 0 ≤ 0 := (n0_le (a := 0) (by omega)).1 c_78
          refine gs (pc' := 40) (fun _ _ _ _ _ hl => lv_aload_n hx hb d_Mo_told_39 rfl (lv_at hl 0 rfl)) ?_
          refine gs (pc' := 41) (fun _ _ _ _ _ hl => lv_iload_n hx hb d_Mo_told_40 rfl (lv_at hl 1 rfl)) ?_
          have hV_79 : MW cA hm A S 0 qm qo qk G_69 := ⟨sg_54, sh_55, kt_56, kb_57, ks_58, Rr_59, _, f_72, mr_76, f_73, v_64, v_65, v_66, mb_77⟩
          refine g_outv hlo (g_runV (As := [.int (nI i)]) (rest := []) ⟨hx, hb, hml, hown, hts⟩ hK hZ hRc hRs (c_Mo_load l D cA lo MC MS G_69 B hm A S 0 qm qo qk hV_79 hW i (by omega) hB1 hB2) (fun _ _ => cwV 1 hts (tb_good (tb_cons wm897 (tb_cons wm899 (tb_cons ws34 (tb_cons wm12 k_Mo_load))))) rfl rfl rfl (by decide +kernel) ⟨by rw [hRf]; exact Nat.le_of_ble_eq_true rfl, by rw [hRl]; exact Nat.le_of_ble_eq_true rfl⟩) f_72 rfl hB1 hB2 rfl (Nat.le_of_ble_eq_true rfl) d_Mo_told_41) (fun G_80 B_81 p_82 => ?_)
          obtain ⟨e_83, hV_84, gf_85⟩ := p_82
          have e_83b : B = B_81 := e_83.symm
          subst e_83b
          have gf_86 : gfr mT G G_80 := mT_mT gf_74 gf_85
          obtain ⟨sg_87, sh_88, kt_89, kb_90, ks_91, Rr_92, kf_93, v_94, v_95, v_96, v_97, v_98, v_99, v_100⟩ := id hV_84
          have f_101 : G_80 hm = some (70, .inr (9, [.int (nI 0), .int (nI S.n), .ref (A 2), .ref (A 3), .ref (A 4), .ref (A 5), .int sg_87, .int sh_88, .ref (A 8), .ref (A 9), .int (nI S.rn), .ref (A 11), .ref (A 12), .ref (A 13), .int (nI S.wn), .ref (A 15), .ref (A 16), .ref (A 17), .ref (A 18), .int kt_89, .int kb_90, .int ks_91])) := v_94
          obtain ⟨e_102, e_103, e_104⟩ := v_97 _ rfl
          have f_105 : G_80 hm = some (70, .inr (9, [.int (nI 0), .int (nI S.n), .ref (A 2), .ref (A 3), .ref (A 4), .ref (A 5), .int (iI ((S.v i).num.sign)), .int sh_88, .ref (A 8), .ref (A 9), .int (nI S.rn), .ref (A 11), .ref (A 12), .ref (A 13), .int (nI S.wn), .ref (A 15), .ref (A 16), .ref (A 17), .ref (A 18), .int kt_89, .int kb_90, .int ks_91])) := by rw [← e_102]; exact f_101
          have fm_106 : ∀ r9, some (S.v i) = some r9 → fc (iI ((S.v i).num.sign)) (Rr_92 0) (Rr_92 1) r9 := by rw [← e_102]; exact v_97
          have s3_107 := sg3 (S.v i).num
          refine gs (pc' := 45) (fun _ _ _ _ _ hl => lv_iload_n hx hb d_Mo_told_44 rfl (lv_at hl 2 rfl)) ?_
          refine gsb (pc1 := 55) (pc2 := 48) (fun _ _ _ _ _ => lv_if_ne (tgt := 55) hx hb d_Mo_told_45 (by decide)) (fun c_108 => ?_) (fun c_108 => ?_)
          · skip
            have nc_108 : y ≠ 0 := (ii_ne (a := y) (b := 0) (by omega) (by omega) (by omega) (by omega)).1 (by first | exact c_108 | (have z9 := c_108; simp only [nI_iI] at z9; exact z9))
            refine gs (pc' := 56) (fun _ _ _ _ _ hl => lv_iload_n hx hb d_Mo_told_55 rfl (lv_at hl 2 rfl)) ?_
            refine gs (pc' := 57) (fun _ _ _ _ _ hl => lv_iconst (v := nI 1) hx hb d_Mo_told_56 (by decide)) ?_
            refine gsb (pc1 := 68) (pc2 := 60) (fun _ _ _ _ _ => lv_icmp_ne (tgt := 68) hx hb d_Mo_told_57 (by decide)) (fun c_109 => ?_) (fun c_109 => ?_)
            · skip
              have nc_109 : y ≠ ((1 : Nat) : Int) := (ii_ne (a := y) (b := ((1 : Nat) : Int)) (by omega) (by omega) (by omega) (by omega)).1 (by first | exact c_109 | (have z9 := c_109; simp only [nI_iI] at z9; exact z9))
              refine gs (pc' := 69) (fun _ _ _ _ _ hl => lv_iload_n hx hb d_Mo_told_68 rfl (lv_at hl 2 rfl)) ?_
              refine gs (pc' := 70) (fun _ _ _ _ _ hl => lv_iconst (v := nI 2) hx hb d_Mo_told_69 (by decide)) ?_
              refine gsb (pc1 := 81) (pc2 := 73) (fun _ _ _ _ _ => lv_icmp_ne (tgt := 81) hx hb d_Mo_told_70 (by decide)) (fun c_110 => ?_) (fun c_110 => ?_)
              · skip
                have nc_110 : y ≠ ((2 : Nat) : Int) := (ii_ne (a := y) (b := ((2 : Nat) : Int)) (by omega) (by omega) (by omega) (by omega)).1 (by first | exact c_110 | (have z9 := c_110; simp only [nI_iI] at z9; exact z9))
                refine gs (pc' := 82) (fun _ _ _ _ _ hl => lv_aload_n hx hb d_Mo_told_81 rfl (lv_at hl 0 rfl)) ?_
                refine g_get hx hb hts hin_Mo hown hK f_105 rfl 3 (by decide) (hts _ wm757) (fun _ h9 => h9) rfl d_Mo_told_82 ?_
                refine gs (pc' := 86) (fun _ _ _ _ _ hl => lv_iload_n hx hb d_Mo_told_85 rfl (lv_at hl 1 rfl)) ?_
                obtain ⟨sgn_111, unt_112, sto_113, szs_114, f_115, f_116, f_117, f_118, hv_119⟩ := id v_100.1
                refine g_iald hx hb hK 0 f_116 rfl (show vp_in (nI i) 200 from vp_in_nI (by omega) (by omega)) d_Mo_told_86 ?_
                refine g_eqi (show unt_112 (nI i).toNatClampNeg = unt_112 i from by rw [nI_clamp (by omega)]) ?_
                refine g_eqi (show unt_112 i = iI (S.un i) from (hv_119 i (by omega)).2.1) ?_
                have ub_120 := (hW.v i (by omega)).2.1
                have ub_121 := (hW.v i (by omega)).2.2
                have hV_122 : MW cA hm A S 0 none none none G_80 := ⟨(iI ((S.v i).num.sign)), sh_88, kt_89, kb_90, ks_91, Rr_92, _, f_105, v_95, v_96, sn_, sn_, sn_, v_100⟩
                rw [st_told hn hi_i hy1 hy2, if_neg (show ¬ ¬ (0 ≤ y ∧ y ≤ 3) by omega), if_neg (show ¬ y = 0 by omega), if_neg (show ¬ y = 1 by omega), if_neg (show ¬ y = 2 by omega)] at hret
                exact hret 87 _ _ _ _ d_Mo_told_87 hB1 hB2 ⟨rfl, fun _ => rfl, hV_122, gf_86⟩
              · skip
                have nc_110 : y = ((2 : Nat) : Int) := (ii_ne (a := y) (b := ((2 : Nat) : Int)) (by omega) (by omega) (by omega) (by omega)).2 (by first | exact c_110 | (have z9 := c_110; simp only [nI_iI] at z9; exact z9))
                refine gs (pc' := 74) (fun _ _ _ _ _ hl => lv_aload_n hx hb d_Mo_told_73 rfl (lv_at hl 0 rfl)) ?_
                refine gs (pc' := 75) (fun _ _ _ _ _ hl => lv_iconst (v := nI 1) hx hb d_Mo_told_74 (by decide)) ?_
                refine g_outi hlo (g_runV (As := [.int (nI 1)]) (rest := []) ⟨hx, hb, hml, hown, hts⟩ hK hZ hRc hRs (c_Mo_digits l D cA lo MC MS G_80 B hm A (mi (nI 0) (nI S.n) (iI ((S.v i).num.sign)) sh_88 (nI S.rn) (nI S.wn) kt_89 kb_90 ks_91) f_105 Rr_92 v_95 1 (by decide) hB1 hB2) (fun _ _ => cwV 1 hts (tb_good (tb_cons wm885 (tb_cons wm887 (tb_cons ws32 (tb_cons wm12 k_Mo_digits))))) rfl rfl rfl (by decide +kernel) ⟨by rw [hRf]; exact Nat.le_of_ble_eq_true rfl, by rw [hRl]; exact Nat.le_of_ble_eq_true rfl⟩) f_105 rfl hB1 hB2 rfl (Nat.le_of_ble_eq_true rfl) d_Mo_told_75) (fun r_126 G_123 B_124 p_125 => ?_)
                obtain ⟨u_127, e_128⟩ := p_125
                cases u_127
                rw [e_104] at e_128
                subst e_128
                have db_129 := dig_b2 (rbq_25.2) (show 100 ≤ 4280 by omega)
                refine gs (pc' := 87) (fun _ _ _ _ _ hl => lv_goto (tgt := 87) hx hb d_Mo_told_78 (by decide)) ?_
                have hV_130 : MW cA hm A S 0 none none none G_80 := ⟨(iI ((S.v i).num.sign)), sh_88, kt_89, kb_90, ks_91, Rr_92, _, f_105, v_95, v_96, sn_, sn_, sn_, v_100⟩
                rw [st_told hn hi_i hy1 hy2, if_neg (show ¬ ¬ (0 ≤ y ∧ y ≤ 3) by omega), if_neg (show ¬ y = 0 by omega), if_neg (show ¬ y = 1 by omega), if_pos (show y = 2 by omega)] at hret
                exact hret 87 _ _ _ _ d_Mo_told_87 hB1 hB2 ⟨rfl, fun _ => nI_iI _, hV_130, gf_86⟩
            · skip
              have nc_109 : y = ((1 : Nat) : Int) := (ii_ne (a := y) (b := ((1 : Nat) : Int)) (by omega) (by omega) (by omega) (by omega)).2 (by first | exact c_109 | (have z9 := c_109; simp only [nI_iI] at z9; exact z9))
              refine gs (pc' := 61) (fun _ _ _ _ _ hl => lv_aload_n hx hb d_Mo_told_60 rfl (lv_at hl 0 rfl)) ?_
              refine gs (pc' := 62) (fun _ _ _ _ _ hl => lv_iconst (v := nI 0) hx hb d_Mo_told_61 (by decide)) ?_
              refine g_outi hlo (g_runV (As := [.int (nI 0)]) (rest := []) ⟨hx, hb, hml, hown, hts⟩ hK hZ hRc hRs (c_Mo_digits l D cA lo MC MS G_80 B hm A (mi (nI 0) (nI S.n) (iI ((S.v i).num.sign)) sh_88 (nI S.rn) (nI S.wn) kt_89 kb_90 ks_91) f_105 Rr_92 v_95 0 (by decide) hB1 hB2) (fun _ _ => cwV 1 hts (tb_good (tb_cons wm885 (tb_cons wm887 (tb_cons ws32 (tb_cons wm12 k_Mo_digits))))) rfl rfl rfl (by decide +kernel) ⟨by rw [hRf]; exact Nat.le_of_ble_eq_true rfl, by rw [hRl]; exact Nat.le_of_ble_eq_true rfl⟩) f_105 rfl hB1 hB2 rfl (Nat.le_of_ble_eq_true rfl) d_Mo_told_62) (fun r_134 G_131 B_132 p_133 => ?_)
              obtain ⟨u_135, e_136⟩ := p_133
              cases u_135
              rw [e_103] at e_136
              subst e_136
              have db_137 := dig_b2 (rbq_25.1) (show 100 ≤ 4280 by omega)
              refine gs (pc' := 87) (fun _ _ _ _ _ hl => lv_goto (tgt := 87) hx hb d_Mo_told_65 (by decide)) ?_
              have hV_138 : MW cA hm A S 0 none none none G_80 := ⟨(iI ((S.v i).num.sign)), sh_88, kt_89, kb_90, ks_91, Rr_92, _, f_105, v_95, v_96, sn_, sn_, sn_, v_100⟩
              rw [st_told hn hi_i hy1 hy2, if_neg (show ¬ ¬ (0 ≤ y ∧ y ≤ 3) by omega), if_neg (show ¬ y = 0 by omega), if_pos (show y = 1 by omega)] at hret
              exact hret 87 _ _ _ _ d_Mo_told_87 hB1 hB2 ⟨rfl, fun _ => nI_iI _, hV_138, gf_86⟩
          · skip
            have nc_108 : y = 0 := (ii_ne (a := y) (b := 0) (by omega) (by omega) (by omega) (by omega)).2 (by first | exact c_108 | (have z9 := c_108; simp only [nI_iI] at z9; exact z9))
            refine gs (pc' := 49) (fun _ _ _ _ _ hl => lv_aload_n hx hb d_Mo_told_48 rfl (lv_at hl 0 rfl)) ?_
            refine g_get hx hb hts hin_Mo hown hK f_105 rfl 6 (by decide) (hts _ wm760) (fun _ h9 => h9) rfl d_Mo_told_49 ?_
            refine gs (pc' := 87) (fun _ _ _ _ _ hl => lv_goto (tgt := 87) hx hb d_Mo_told_52 (by decide)) ?_
            have hV_139 : MW cA hm A S 0 none none none G_80 := ⟨(iI ((S.v i).num.sign)), sh_88, kt_89, kb_90, ks_91, Rr_92, _, f_105, v_95, v_96, sn_, sn_, sn_, v_100⟩
            rw [st_told hn hi_i hy1 hy2, if_neg (show ¬ ¬ (0 ≤ y ∧ y ≤ 3) by omega), if_pos (show y = 0 by omega)] at hret
            exact hret 87 _ _ _ _ d_Mo_told_87 hB1 hB2 ⟨rfl, fun _ => rfl, hV_139, gf_86⟩
        · skip
          have nc_78 : 0 > 0 := (n0_le (a := 0) (by omega)).2 c_78
          exact absurd nc_78 (by decide)
      · skip
        have nc_53 : y > ((3 : Nat) : Int) := (ii_le (a := y) (b := ((3 : Nat) : Int)) (by omega) (by omega) (by omega) (by omega)).2 (by first | exact c_53 | (have z9 := c_53; simp only [nI_iI] at z9; exact z9))
        refine gs (pc' := 23) (fun _ _ _ _ _ hl => lv_iconst (v := nI 2) hx hb d_Mo_told_22 (by decide)) ?_
        refine gs (pc' := 27) (fun _ _ _ _ _ hl => lv_goto (tgt := 27) hx hb d_Mo_told_23 (by decide)) ?_
        obtain ⟨sg_140, sh_141, kt_142, kb_143, ks_144, Rr_145, kf_146, v_147, v_148, v_149, v_150, v_151, v_152, v_153⟩ := id hV_16
        have f_154 : G hm = some (70, .inr (9, [.int (nI th), .int (nI S.n), .ref (A 2), .ref (A 3), .ref (A 4), .ref (A 5), .int sg_140, .int sh_141, .ref (A 8), .ref (A 9), .int (nI S.rn), .ref (A 11), .ref (A 12), .ref (A 13), .int (nI S.wn), .ref (A 15), .ref (A 16), .ref (A 17), .ref (A 18), .int kt_142, .int kb_143, .int ks_144])) := v_147
        refine g_put (ty := .int) hx hb hts hin_Mo ty_Mo ty_Mo_ok nm_Mo hown hK f_154 rfl 0 (by decide) (hts _ wm754) (fun _ h9 => h9) rfl (by decide +kernel) rfl rfl (Nat.le_of_ble_eq_true rfl) d_Mo_told_27 (fun G_155 f_156 o_157 => ?_)
        have f_158 : G_155 hm = some (70, .inr (9, [.int (nI 2), .int (nI S.n), .ref (A 2), .ref (A 3), .ref (A 4), .ref (A 5), .int sg_140, .int sh_141, .ref (A 8), .ref (A 9), .int (nI S.rn), .ref (A 11), .ref (A 12), .ref (A 13), .int (nI S.wn), .ref (A 15), .ref (A 16), .ref (A 17), .ref (A 18), .int kt_142, .int kb_143, .int ks_144])) := f_156
        have f_159 : G_155 (A 18) = some (83, .inl (cA 0, 8600, .inl kf_146)) := (o_157 _ (gne v_149 f_154 (fun e => by cases e))).trans v_149
        have gf_160 : gfr mT G G_155 := gfr_put gfr_rf f_154 (show mT 70 by decide) o_157
        have gf_161 : gfr (fun x => x = 70) _ G_155 := gfr_put gfr_rf f_154 rfl o_157
        have mr_162 : MR cA A Rr_145 G_155 := MR_fr v_148 gf_161 (show ¬ (75 : Nat) = 70 by decide) (show ¬ (76 : Nat) = 70 by decide)
        have mb_163 : MB cA A S G_155 := MB_fr v_153 gf_161 (fun x h9 => by omega)
        refine gs (pc' := 31) (fun _ _ _ _ _ hl => lv_aload_n hx hb d_Mo_told_30 rfl (lv_at hl 0 rfl)) ?_
        refine g_get hx hb hts hin_Mo hown hK f_158 rfl 0 (by decide) (hts _ wm754) (fun _ h9 => h9) rfl d_Mo_told_31 ?_
        refine gsb (pc1 := 39) (pc2 := 37) (fun _ _ _ _ _ => lv_if_le (tgt := 39) hx hb d_Mo_told_34 (by decide)) (fun c_164 => ?_) (fun c_164 => ?_)
        · skip
          have nc_164 : 2 ≤ 0 := (n0_le (a := 2) (by omega)).1 c_164
          exact absurd nc_164 (by decide)
        · skip
          have nc_164 : 2 > 0 := (n0_le (a := 2) (by omega)).2 c_164
          refine gs (pc' := 38) (fun _ _ _ _ _ hl => lv_iconst (v := nI 0) hx hb d_Mo_told_37 (by decide)) ?_
          have hV_165 : MW cA hm A S 2 none none none G_155 := ⟨sg_140, sh_141, kt_142, kb_143, ks_144, Rr_145, _, f_158, mr_162, f_159, sn_, sn_, sn_, mb_163⟩
          rw [st_told hn hi_i hy1 hy2, if_pos (show ¬ (0 ≤ y ∧ y ≤ 3) by omega)] at hret
          exact hret 38 _ _ _ _ d_Mo_told_38 hB1 hB2 ⟨rfl, fun h9 => absurd (show (2 : Nat) = 0 from h9) (by decide), hV_165, gf_160⟩
  · skip
    have nc_24 : (b01 (decide (0 ≤ x ∧ x < S.n))) = 0 := (n0_ne (a := (b01 (decide (0 ≤ x ∧ x < S.n)))) (by omega)).2 c_24
    have hb_x : ¬ (0 ≤ x ∧ x < S.n) := b01_0 nc_24
    refine gs (pc' := 10) (fun _ _ _ _ _ hl => lv_iconst (v := nI 1) hx hb d_Mo_told_9 (by decide)) ?_
    refine gs (pc' := 27) (fun _ _ _ _ _ hl => lv_goto (tgt := 27) hx hb d_Mo_told_10 (by decide)) ?_
    obtain ⟨sg_166, sh_167, kt_168, kb_169, ks_170, Rr_171, kf_172, v_173, v_174, v_175, v_176, v_177, v_178, v_179⟩ := id hV_16
    have f_180 : G hm = some (70, .inr (9, [.int (nI th), .int (nI S.n), .ref (A 2), .ref (A 3), .ref (A 4), .ref (A 5), .int sg_166, .int sh_167, .ref (A 8), .ref (A 9), .int (nI S.rn), .ref (A 11), .ref (A 12), .ref (A 13), .int (nI S.wn), .ref (A 15), .ref (A 16), .ref (A 17), .ref (A 18), .int kt_168, .int kb_169, .int ks_170])) := v_173
    refine g_put (ty := .int) hx hb hts hin_Mo ty_Mo ty_Mo_ok nm_Mo hown hK f_180 rfl 0 (by decide) (hts _ wm754) (fun _ h9 => h9) rfl (by decide +kernel) rfl rfl (Nat.le_of_ble_eq_true rfl) d_Mo_told_27 (fun G_181 f_182 o_183 => ?_)
    have f_184 : G_181 hm = some (70, .inr (9, [.int (nI 1), .int (nI S.n), .ref (A 2), .ref (A 3), .ref (A 4), .ref (A 5), .int sg_166, .int sh_167, .ref (A 8), .ref (A 9), .int (nI S.rn), .ref (A 11), .ref (A 12), .ref (A 13), .int (nI S.wn), .ref (A 15), .ref (A 16), .ref (A 17), .ref (A 18), .int kt_168, .int kb_169, .int ks_170])) := f_182
    have f_185 : G_181 (A 18) = some (83, .inl (cA 0, 8600, .inl kf_172)) := (o_183 _ (gne v_175 f_180 (fun e => by cases e))).trans v_175
    have gf_186 : gfr mT G G_181 := gfr_put gfr_rf f_180 (show mT 70 by decide) o_183
    have gf_187 : gfr (fun x => x = 70) _ G_181 := gfr_put gfr_rf f_180 rfl o_183
    have mr_188 : MR cA A Rr_171 G_181 := MR_fr v_174 gf_187 (show ¬ (75 : Nat) = 70 by decide) (show ¬ (76 : Nat) = 70 by decide)
    have mb_189 : MB cA A S G_181 := MB_fr v_179 gf_187 (fun x h9 => by omega)
    refine gs (pc' := 31) (fun _ _ _ _ _ hl => lv_aload_n hx hb d_Mo_told_30 rfl (lv_at hl 0 rfl)) ?_
    refine g_get hx hb hts hin_Mo hown hK f_184 rfl 0 (by decide) (hts _ wm754) (fun _ h9 => h9) rfl d_Mo_told_31 ?_
    refine gsb (pc1 := 39) (pc2 := 37) (fun _ _ _ _ _ => lv_if_le (tgt := 39) hx hb d_Mo_told_34 (by decide)) (fun c_190 => ?_) (fun c_190 => ?_)
    · skip
      have nc_190 : 1 ≤ 0 := (n0_le (a := 1) (by omega)).1 c_190
      exact absurd nc_190 (by decide)
    · skip
      have nc_190 : 1 > 0 := (n0_le (a := 1) (by omega)).2 c_190
      refine gs (pc' := 38) (fun _ _ _ _ _ hl => lv_iconst (v := nI 0) hx hb d_Mo_told_37 (by decide)) ?_
      have hV_191 : MW cA hm A S 1 none none none G_181 := ⟨sg_166, sh_167, kt_168, kb_169, ks_170, Rr_171, _, f_184, mr_188, f_185, sn_, sn_, sn_, mb_189⟩
      rw [su_told (vn_ hx1 hx2 hb_x)] at hret
      exact hret 38 _ _ _ _ d_Mo_told_38 hB1 hB2 ⟨rfl, fun h9 => absurd (show (1 : Nat) = 0 from h9) (by decide), hV_191, gf_186⟩
