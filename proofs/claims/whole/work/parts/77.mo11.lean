set_option maxHeartbeats 4000000 in
set_option maxRecDepth 100000 in
theorem c_Mo_addOther (l : Launch) (D : va_G) (cA : Nat → ClassId) (lo MC MS : Nat) (G : gT) (B : Nat × Nat) (hm : Nat) (A : Nat → Nat) (S : St) (th : Nat) (qm qo qk : Option Rat) (hV : MW cA hm A S th qm qo qk G) (hW : WF S) (r1 r2 : Rat) (hq1 : qm = some r1) (hq2 : qo = some r2) (j : Nat) (hj : rb r1 j) (k : Nat) (hk : rb r2 k) (hjk : j + k + 1 ≤ 4280) (t : Int) (rs : Rat) (ht : t = 1 ∧ rs = r1 + r2 ∨ t = -1 ∧ rs = r1 - r2) (hB1 : B.1 ≤ MC) (hB2 : B.2 ≤ MS) : gMet l y_Mo_addOther w_Mo_addOther 4 109 D clS (gtys cA) lo MC MS [.ref hm, .int (iI t)] G B (gQv D clS lo (fun u => u.2 = B ∧ MW cA hm A S th (some rs) none qk u.1 ∧ gfr mT G u.1)) := by
  refine g_metv (cc := prog_11_method_21_code) (nL := 3) (L := [(0, .ref hm), (1, .int (iI t))]) (by decide +kernel) rfl (Nat.le_of_ble_eq_true rfl) rfl ?_
  intro p e R s m args below meth c Q hF hRc hRs hRf hRl hret
  obtain ⟨hx, hb, hr, hml, hts0, hown, hlocks, hin, hK, hlo, hZ⟩ := hF
  have hts : ∀ w ∈ tbg, w.before args s = true := fun w h => hts0 w (List.mem_cons_of_mem _ h)
  subst hq1
  subst hq2
  have hn := hW.n
  have hrn := hW.rn
  have hwn := hW.wn
  obtain ⟨sg_1, sh_2, kt_3, kb_4, ks_5, Rr_6, kf_7, v_8, v_9, v_10, v_11, v_12, v_13, v_14⟩ := id hV
  have f_15 : G hm = some (70, .inr (9, [.int (nI th), .int (nI S.n), .ref (A 2), .ref (A 3), .ref (A 4), .ref (A 5), .int sg_1, .int sh_2, .ref (A 8), .ref (A 9), .int (nI S.rn), .ref (A 11), .ref (A 12), .ref (A 13), .int (nI S.wn), .ref (A 15), .ref (A 16), .ref (A 17), .ref (A 18), .int kt_3, .int kb_4, .int ks_5])) := v_8
  obtain ⟨e_16, e_17, e_18⟩ := v_11 _ rfl
  have f_19 : G hm = some (70, .inr (9, [.int (nI th), .int (nI S.n), .ref (A 2), .ref (A 3), .ref (A 4), .ref (A 5), .int (iI (r1.num.sign)), .int sh_2, .ref (A 8), .ref (A 9), .int (nI S.rn), .ref (A 11), .ref (A 12), .ref (A 13), .int (nI S.wn), .ref (A 15), .ref (A 16), .ref (A 17), .ref (A 18), .int kt_3, .int kb_4, .int ks_5])) := by rw [← e_16]; exact f_15
  have fm_20 : ∀ r9, some r1 = some r9 → fc (iI (r1.num.sign)) (Rr_6 0) (Rr_6 1) r9 := by rw [← e_16]; exact v_11
  have s3_21 := sg3 r1.num
  obtain ⟨e_22, e_23, e_24⟩ := v_12 _ rfl
  have f_25 : G hm = some (70, .inr (9, [.int (nI th), .int (nI S.n), .ref (A 2), .ref (A 3), .ref (A 4), .ref (A 5), .int (iI (r1.num.sign)), .int (iI (r2.num.sign)), .ref (A 8), .ref (A 9), .int (nI S.rn), .ref (A 11), .ref (A 12), .ref (A 13), .int (nI S.wn), .ref (A 15), .ref (A 16), .ref (A 17), .ref (A 18), .int kt_3, .int kb_4, .int ks_5])) := by rw [← e_22]; exact f_19
  have fm_26 : ∀ r9, some r2 = some r9 → fc (iI (r2.num.sign)) (Rr_6 2) (Rr_6 3) r9 := by rw [← e_22]; exact v_12
  have s3_27 := sg3 r2.num
  have ht1 : t = 1 ∨ t = -1 := by rcases ht with h9 | h9; exact Or.inl h9.1; exact Or.inr h9.1
  have hst := sg_t (b := r2.num) ht1
  have har := ao_r ht
  have hz1 : r1.num.sign = 0 → r1.num.natAbs * r2.den = 0 := fun e9 => by rw [Int.sign_eq_zero_iff_zero.mp e9]; exact Nat.zero_mul _
  have hz2 : r2.num.sign * t = 0 → r2.num.natAbs * r1.den = 0 := fun e9 => by
    have e8 : r2.num.sign = 0 := by rcases ht1 with h9 | h9 <;> subst h9 <;> omega
    rw [Int.sign_eq_zero_iff_zero.mp e8]; exact Nat.zero_mul _
  have hdp : 0 < r1.den * r2.den := Nat.mul_pos (rt_pos r1) (rt_pos r2)
  refine gs (pc' := 1) (fun _ _ _ _ _ hl => lv_aload_n hx hb d_Mo_addOther_0 rfl (lv_at hl 0 rfl)) ?_
  refine gs (pc' := 2) (fun _ _ _ _ _ hl => lv_iconst (v := nI 4) hx hb d_Mo_addOther_1 (by decide)) ?_
  refine gs (pc' := 3) (fun _ _ _ _ _ hl => lv_iconst (v := nI 0) hx hb d_Mo_addOther_2 (by decide)) ?_
  refine gs (pc' := 4) (fun _ _ _ _ _ hl => lv_iconst (v := nI 3) hx hb d_Mo_addOther_3 (by decide)) ?_
  refine g_outv hlo (g_runV (As := [.int (nI 4), .int (nI 0), .int (nI 3)]) (rest := []) ⟨hx, hb, hml, hown, hts⟩ hK hZ hRc hRs (c_Mo_multiply l D cA lo MC MS G B hm A (mi (nI th) (nI S.n) (iI (r1.num.sign)) (iI (r2.num.sign)) (nI S.rn) (nI S.wn) kt_3 kb_4 ks_5) f_25 Rr_6 v_9 4 (by decide) 0 (by decide) 3 (by decide) (by decide) (by decide) j k (by rw [e_17]; exact hj.1) (by rw [e_24]; exact hk.2) (by omega) hB1 hB2) (fun _ _ => cwV 3 hts (tb_good (tb_cons wm913 (tb_cons wm915 (tb_cons ws38 (tb_cons wm12 k_Mo_multiply))))) rfl rfl rfl (by decide +kernel) ⟨by rw [hRf]; exact Nat.le_of_ble_eq_true rfl, by rw [hRl]; exact Nat.le_of_ble_eq_true rfl⟩) f_25 rfl hB1 hB2 rfl (Nat.le_of_ble_eq_true rfl) d_Mo_addOther_4) (fun G_28 B_29 p_30 => ?_)
  obtain ⟨e_31, mr_32, f_33, gf_34⟩ := p_30
  have e_31b : B = B_29 := e_31.symm
  subst e_31b
  have gf_35 : gfr mT G G_28 := mT_75 gfr_rf gf_34
  have mb_36 : MB cA A S G_28 := MB_75 v_14 gf_34
  have f_37 : G_28 hm = some (70, .inr (9, [.int (nI th), .int (nI S.n), .ref (A 2), .ref (A 3), .ref (A 4), .ref (A 5), .int (iI (r1.num.sign)), .int (iI (r2.num.sign)), .ref (A 8), .ref (A 9), .int (nI S.rn), .ref (A 11), .ref (A 12), .ref (A 13), .int (nI S.wn), .ref (A 15), .ref (A 16), .ref (A 17), .ref (A 18), .int kt_3, .int kb_4, .int ks_5])) := f_33
  have f_38 : G_28 (A 18) = some (83, .inl (cA 0, 8600, .inl kf_7)) := gf_34 _ _ v_10 (show ¬ ((83 : Nat) = 75 ∨ (83 : Nat) = 76) by decide)
  obtain ⟨Rr_39, hR_40⟩ : ∃ y9, y9 = (fup Rr_6 4 (Rr_6 0 * Rr_6 3)) := ⟨_, rfl⟩
  rw [← hR_40] at mr_32
  have e_41 : Rr_39 0 = r1.num.natAbs := (congrFun hR_40 0).trans e_17
  have e_42 : Rr_39 1 = r1.den := (congrFun hR_40 1).trans e_18
  have e_43 : Rr_39 2 = r2.num.natAbs := (congrFun hR_40 2).trans e_23
  have e_44 : Rr_39 3 = r2.den := (congrFun hR_40 3).trans e_24
  have e_45 : Rr_39 4 = r1.num.natAbs * r2.den := (congrFun hR_40 4).trans (by rw [← e_17, ← e_24]; rfl)
  have bd_46 : r1.num.natAbs * r2.den < 1000000000 ^ (j + k) := pw_mul hj.1 hk.2
  have fm_47 : ∀ r9, some r1 = some r9 → fc (iI (r1.num.sign)) (Rr_39 0) (Rr_39 1) r9 := by rw [show Rr_39 0 = Rr_6 0 from congrFun hR_40 0, show Rr_39 1 = Rr_6 1 from congrFun hR_40 1]; exact fm_20
  have fm_48 : ∀ r9, some r2 = some r9 → fc (iI (r2.num.sign)) (Rr_39 2) (Rr_39 3) r9 := by rw [show Rr_39 2 = Rr_6 2 from congrFun hR_40 2, show Rr_39 3 = Rr_6 3 from congrFun hR_40 3]; exact fm_26
  refine gs (pc' := 8) (fun _ _ _ _ _ hl => lv_aload_n hx hb d_Mo_addOther_7 rfl (lv_at hl 0 rfl)) ?_
  refine gs (pc' := 9) (fun _ _ _ _ _ hl => lv_iconst (v := nI 5) hx hb d_Mo_addOther_8 (by decide)) ?_
  refine gs (pc' := 10) (fun _ _ _ _ _ hl => lv_iconst (v := nI 2) hx hb d_Mo_addOther_9 (by decide)) ?_
  refine gs (pc' := 11) (fun _ _ _ _ _ hl => lv_iconst (v := nI 1) hx hb d_Mo_addOther_10 (by decide)) ?_
  refine g_outv hlo (g_runV (As := [.int (nI 5), .int (nI 2), .int (nI 1)]) (rest := []) ⟨hx, hb, hml, hown, hts⟩ hK hZ hRc hRs (c_Mo_multiply l D cA lo MC MS G_28 B hm A (mi (nI th) (nI S.n) (iI (r1.num.sign)) (iI (r2.num.sign)) (nI S.rn) (nI S.wn) kt_3 kb_4 ks_5) f_37 Rr_39 mr_32 5 (by decide) 2 (by decide) 1 (by decide) (by decide) (by decide) k j (by rw [e_43]; exact hk.1) (by rw [e_42]; exact hj.2) (by omega) hB1 hB2) (fun _ _ => cwV 3 hts (tb_good (tb_cons wm913 (tb_cons wm915 (tb_cons ws38 (tb_cons wm12 k_Mo_multiply))))) rfl rfl rfl (by decide +kernel) ⟨by rw [hRf]; exact Nat.le_of_ble_eq_true rfl, by rw [hRl]; exact Nat.le_of_ble_eq_true rfl⟩) f_37 rfl hB1 hB2 rfl (Nat.le_of_ble_eq_true rfl) d_Mo_addOther_11) (fun G_49 B_50 p_51 => ?_)
  obtain ⟨e_52, mr_53, f_54, gf_55⟩ := p_51
  have e_52b : B = B_50 := e_52.symm
  subst e_52b
  have gf_56 : gfr mT G G_49 := mT_75 gf_35 gf_55
  have mb_57 : MB cA A S G_49 := MB_75 mb_36 gf_55
  have f_58 : G_49 hm = some (70, .inr (9, [.int (nI th), .int (nI S.n), .ref (A 2), .ref (A 3), .ref (A 4), .ref (A 5), .int (iI (r1.num.sign)), .int (iI (r2.num.sign)), .ref (A 8), .ref (A 9), .int (nI S.rn), .ref (A 11), .ref (A 12), .ref (A 13), .int (nI S.wn), .ref (A 15), .ref (A 16), .ref (A 17), .ref (A 18), .int kt_3, .int kb_4, .int ks_5])) := f_54
  have f_59 : G_49 (A 18) = some (83, .inl (cA 0, 8600, .inl kf_7)) := gf_55 _ _ f_38 (show ¬ ((83 : Nat) = 75 ∨ (83 : Nat) = 76) by decide)
  obtain ⟨Rr_60, hR_61⟩ : ∃ y9, y9 = (fup Rr_39 5 (Rr_39 2 * Rr_39 1)) := ⟨_, rfl⟩
  rw [← hR_61] at mr_53
  have e_62 : Rr_60 0 = r1.num.natAbs := (congrFun hR_61 0).trans e_41
  have e_63 : Rr_60 1 = r1.den := (congrFun hR_61 1).trans e_42
  have e_64 : Rr_60 2 = r2.num.natAbs := (congrFun hR_61 2).trans e_43
  have e_65 : Rr_60 3 = r2.den := (congrFun hR_61 3).trans e_44
  have e_66 : Rr_60 4 = r1.num.natAbs * r2.den := (congrFun hR_61 4).trans e_45
  have e_67 : Rr_60 5 = r2.num.natAbs * r1.den := (congrFun hR_61 5).trans (by rw [← e_43, ← e_42]; rfl)
  have bd_68 : r2.num.natAbs * r1.den < 1000000000 ^ (k + j) := pw_mul hk.1 hj.2
  have fm_69 : ∀ r9, some r1 = some r9 → fc (iI (r1.num.sign)) (Rr_60 0) (Rr_60 1) r9 := by rw [show Rr_60 0 = Rr_39 0 from congrFun hR_61 0, show Rr_60 1 = Rr_39 1 from congrFun hR_61 1]; exact fm_47
  have fm_70 : ∀ r9, some r2 = some r9 → fc (iI (r2.num.sign)) (Rr_60 2) (Rr_60 3) r9 := by rw [show Rr_60 2 = Rr_39 2 from congrFun hR_61 2, show Rr_60 3 = Rr_39 3 from congrFun hR_61 3]; exact fm_48
  refine gs (pc' := 15) (fun _ _ _ _ _ hl => lv_aload_n hx hb d_Mo_addOther_14 rfl (lv_at hl 0 rfl)) ?_
  refine gs (pc' := 17) (fun _ _ _ _ _ hl => lv_bipush (v := nI 6) hx hb d_Mo_addOther_15 (by decide)) ?_
  refine gs (pc' := 18) (fun _ _ _ _ _ hl => lv_iconst (v := nI 1) hx hb d_Mo_addOther_17 (by decide)) ?_
  refine gs (pc' := 19) (fun _ _ _ _ _ hl => lv_iconst (v := nI 3) hx hb d_Mo_addOther_18 (by decide)) ?_
  refine g_outv hlo (g_runV (As := [.int (nI 6), .int (nI 1), .int (nI 3)]) (rest := []) ⟨hx, hb, hml, hown, hts⟩ hK hZ hRc hRs (c_Mo_multiply l D cA lo MC MS G_49 B hm A (mi (nI th) (nI S.n) (iI (r1.num.sign)) (iI (r2.num.sign)) (nI S.rn) (nI S.wn) kt_3 kb_4 ks_5) f_58 Rr_60 mr_53 6 (by decide) 1 (by decide) 3 (by decide) (by decide) (by decide) j k (by rw [e_63]; exact hj.2) (by rw [e_65]; exact hk.2) (by omega) hB1 hB2) (fun _ _ => cwV 3 hts (tb_good (tb_cons wm913 (tb_cons wm915 (tb_cons ws38 (tb_cons wm12 k_Mo_multiply))))) rfl rfl rfl (by decide +kernel) ⟨by rw [hRf]; exact Nat.le_of_ble_eq_true rfl, by rw [hRl]; exact Nat.le_of_ble_eq_true rfl⟩) f_58 rfl hB1 hB2 rfl (Nat.le_of_ble_eq_true rfl) d_Mo_addOther_19) (fun G_71 B_72 p_73 => ?_)
  obtain ⟨e_74, mr_75, f_76, gf_77⟩ := p_73
  have e_74b : B = B_72 := e_74.symm
  subst e_74b
  have gf_78 : gfr mT G G_71 := mT_75 gf_56 gf_77
  have mb_79 : MB cA A S G_71 := MB_75 mb_57 gf_77
  have f_80 : G_71 hm = some (70, .inr (9, [.int (nI th), .int (nI S.n), .ref (A 2), .ref (A 3), .ref (A 4), .ref (A 5), .int (iI (r1.num.sign)), .int (iI (r2.num.sign)), .ref (A 8), .ref (A 9), .int (nI S.rn), .ref (A 11), .ref (A 12), .ref (A 13), .int (nI S.wn), .ref (A 15), .ref (A 16), .ref (A 17), .ref (A 18), .int kt_3, .int kb_4, .int ks_5])) := f_76
  have f_81 : G_71 (A 18) = some (83, .inl (cA 0, 8600, .inl kf_7)) := gf_77 _ _ f_59 (show ¬ ((83 : Nat) = 75 ∨ (83 : Nat) = 76) by decide)
  obtain ⟨Rr_82, hR_83⟩ : ∃ y9, y9 = (fup Rr_60 6 (Rr_60 1 * Rr_60 3)) := ⟨_, rfl⟩
  rw [← hR_83] at mr_75
  have e_84 : Rr_82 0 = r1.num.natAbs := (congrFun hR_83 0).trans e_62
  have e_85 : Rr_82 1 = r1.den := (congrFun hR_83 1).trans e_63
  have e_86 : Rr_82 2 = r2.num.natAbs := (congrFun hR_83 2).trans e_64
  have e_87 : Rr_82 3 = r2.den := (congrFun hR_83 3).trans e_65
  have e_88 : Rr_82 4 = r1.num.natAbs * r2.den := (congrFun hR_83 4).trans e_66
  have e_89 : Rr_82 5 = r2.num.natAbs * r1.den := (congrFun hR_83 5).trans e_67
  have e_90 : Rr_82 6 = r1.den * r2.den := (congrFun hR_83 6).trans (by rw [← e_63, ← e_65]; rfl)
  have bd_91 : r1.den * r2.den < 1000000000 ^ (j + k) := pw_mul hj.2 hk.2
  have fm_92 : ∀ r9, some r1 = some r9 → fc (iI (r1.num.sign)) (Rr_82 0) (Rr_82 1) r9 := by rw [show Rr_82 0 = Rr_60 0 from congrFun hR_83 0, show Rr_82 1 = Rr_60 1 from congrFun hR_83 1]; exact fm_69
  have fm_93 : ∀ r9, some r2 = some r9 → fc (iI (r2.num.sign)) (Rr_82 2) (Rr_82 3) r9 := by rw [show Rr_82 2 = Rr_60 2 from congrFun hR_83 2, show Rr_82 3 = Rr_60 3 from congrFun hR_83 3]; exact fm_70
  refine gs (pc' := 23) (fun _ _ _ _ _ hl => lv_aload_n hx hb d_Mo_addOther_22 rfl (lv_at hl 0 rfl)) ?_
  refine gs (pc' := 24) (fun _ _ _ _ _ hl => lv_iconst (v := nI 1) hx hb d_Mo_addOther_23 (by decide)) ?_
  refine gs (pc' := 26) (fun _ _ _ _ _ hl => lv_bipush (v := nI 6) hx hb d_Mo_addOther_24 (by decide)) ?_
  refine g_outv hlo (g_runV (As := [.int (nI 1), .int (nI 6)]) (rest := []) ⟨hx, hb, hml, hown, hts⟩ hK hZ hRc hRs (c_Mo_copy l D cA lo MC MS G_71 B hm A (mi (nI th) (nI S.n) (iI (r1.num.sign)) (iI (r2.num.sign)) (nI S.rn) (nI S.wn) kt_3 kb_4 ks_5) f_80 Rr_82 mr_75 1 (by decide) 6 (by decide) (by decide) hB1 hB2) (fun _ _ => cwV 2 hts (tb_good (tb_cons wm847 (tb_cons wm849 (tb_cons ws23 (tb_cons wm12 k_Mo_copy))))) rfl rfl rfl (by decide +kernel) ⟨by rw [hRf]; exact Nat.le_of_ble_eq_true rfl, by rw [hRl]; exact Nat.le_of_ble_eq_true rfl⟩) f_80 rfl hB1 hB2 rfl (Nat.le_of_ble_eq_true rfl) d_Mo_addOther_26) (fun G_94 B_95 p_96 => ?_)
  obtain ⟨e_97, mr_98, f_99, gf_100⟩ := p_96
  have e_97b : B = B_95 := e_97.symm
  subst e_97b
  have gf_101 : gfr mT G G_94 := mT_75 gf_78 gf_100
  have mb_102 : MB cA A S G_94 := MB_75 mb_79 gf_100
  have f_103 : G_94 hm = some (70, .inr (9, [.int (nI th), .int (nI S.n), .ref (A 2), .ref (A 3), .ref (A 4), .ref (A 5), .int (iI (r1.num.sign)), .int (iI (r2.num.sign)), .ref (A 8), .ref (A 9), .int (nI S.rn), .ref (A 11), .ref (A 12), .ref (A 13), .int (nI S.wn), .ref (A 15), .ref (A 16), .ref (A 17), .ref (A 18), .int kt_3, .int kb_4, .int ks_5])) := f_99
  have f_104 : G_94 (A 18) = some (83, .inl (cA 0, 8600, .inl kf_7)) := gf_100 _ _ f_81 (show ¬ ((83 : Nat) = 75 ∨ (83 : Nat) = 76) by decide)
  obtain ⟨Rr_105, hR_106⟩ : ∃ y9, y9 = (fup Rr_82 1 (Rr_82 6)) := ⟨_, rfl⟩
  rw [← hR_106] at mr_98
  have e_107 : Rr_105 0 = r1.num.natAbs := (congrFun hR_106 0).trans e_84
  have e_108 : Rr_105 2 = r2.num.natAbs := (congrFun hR_106 2).trans e_86
  have e_109 : Rr_105 3 = r2.den := (congrFun hR_106 3).trans e_87
  have e_110 : Rr_105 4 = r1.num.natAbs * r2.den := (congrFun hR_106 4).trans e_88
  have e_111 : Rr_105 5 = r2.num.natAbs * r1.den := (congrFun hR_106 5).trans e_89
  have e_112 : Rr_105 6 = r1.den * r2.den := (congrFun hR_106 6).trans e_90
  have e_113 : Rr_105 1 = r1.den * r2.den := (congrFun hR_106 1).trans (e_90)
  have bd_114 : r1.den * r2.den < 1000000000 ^ (j + k) := bd_91
  have fm_115 : ∀ r9, some r2 = some r9 → fc (iI (r2.num.sign)) (Rr_105 2) (Rr_105 3) r9 := by rw [show Rr_105 2 = Rr_82 2 from congrFun hR_106 2, show Rr_105 3 = Rr_82 3 from congrFun hR_106 3]; exact fm_93
  refine gs (pc' := 30) (fun _ _ _ _ _ hl => lv_aload_n hx hb d_Mo_addOther_29 rfl (lv_at hl 0 rfl)) ?_
  refine g_get hx hb hts hin_Mo hown hK f_103 rfl 7 (by decide) (hts _ wm761) (fun _ h9 => h9) rfl d_Mo_addOther_30 ?_
  refine gs (pc' := 34) (fun _ _ _ _ _ hl => lv_iload_n hx hb d_Mo_addOther_33 rfl (lv_at hl 1 rfl)) ?_
  refine gs (pc' := 35) (fun _ _ _ _ _ hl => lv_imul hx hb d_Mo_addOther_34) ?_
  refine g_eqi (show (iI (r2.num.sign)) * (iI t) = iI (r2.num.sign * t) from iI_mul _ _) ?_
  refine gst (pc' := 36) (L' := [(2, .int (iI (r2.num.sign * t))), (0, .ref hm), (1, .int (iI t))]) (fun _ _ _ _ _ hl => lv_istore_n hx hb d_Mo_addOther_35 rfl hl (by decide) rfl) ?_
  refine gs (pc' := 37) (fun _ _ _ _ _ hl => lv_aload_n hx hb d_Mo_addOther_36 rfl (lv_at hl 1 rfl)) ?_
  refine g_get hx hb hts hin_Mo hown hK f_103 rfl 6 (by decide) (hts _ wm760) (fun _ h9 => h9) rfl d_Mo_addOther_37 ?_
  refine gs (pc' := 41) (fun _ _ _ _ _ hl => lv_iload_n hx hb d_Mo_addOther_40 rfl (lv_at hl 0 rfl)) ?_
  refine gsb (pc1 := 55) (pc2 := 44) (fun _ _ _ _ _ => lv_icmp_eq (tgt := 55) hx hb d_Mo_addOther_41 (by decide)) (fun c_116 => ?_) (fun c_116 => ?_)
  · skip
    have nc_116 : r1.num.sign = (r2.num.sign * t) := (ii_eq (a := r1.num.sign) (b := (r2.num.sign * t)) (by omega) (by omega) (by omega) (by omega)).1 (by first | exact c_116 | (have z9 := c_116; simp only [nI_iI] at z9; exact z9))
    have hI : r1.num.sign = r2.num.sign * t ∨ r2.num.sign * t = 0 ∨ r1.num.sign = 0 := Or.inl (by omega)
    refine gs (pc' := 56) (fun _ _ _ _ _ hl => lv_aload_n hx hb d_Mo_addOther_55 rfl (lv_at hl 1 rfl)) ?_
    refine gs (pc' := 57) (fun _ _ _ _ _ hl => lv_iconst (v := nI 4) hx hb d_Mo_addOther_56 (by decide)) ?_
    refine gs (pc' := 58) (fun _ _ _ _ _ hl => lv_iconst (v := nI 5) hx hb d_Mo_addOther_57 (by decide)) ?_
    refine g_outv hlo (g_runV (As := [.int (nI 4), .int (nI 5)]) (rest := []) ⟨hx, hb, hml, hown, hts⟩ hK hZ hRc hRs (c_Mo_plus l D cA lo MC MS G_94 B hm A (mi (nI th) (nI S.n) (iI (r1.num.sign)) (iI (r2.num.sign)) (nI S.rn) (nI S.wn) kt_3 kb_4 ks_5) f_103 Rr_105 mr_98 4 (by decide) 5 (by decide) (by decide) (j + k) (by rw [e_110]; exact pw_up bd_46 (by omega)) (by rw [e_111]; exact pw_up bd_68 (by omega)) (by omega) hB1 hB2) (fun _ _ => cwV 2 hts (tb_good (tb_cons wm917 (tb_cons wm919 (tb_cons ws39 (tb_cons wm12 k_Mo_plus))))) rfl rfl rfl (by decide +kernel) ⟨by rw [hRf]; exact Nat.le_of_ble_eq_true rfl, by rw [hRl]; exact Nat.le_of_ble_eq_true rfl⟩) f_103 rfl hB1 hB2 rfl (Nat.le_of_ble_eq_true rfl) d_Mo_addOther_58) (fun G_117 B_118 p_119 => ?_)
    obtain ⟨e_120, mr_121, f_122, gf_123⟩ := p_119
    have e_120b : B = B_118 := e_120.symm
    subst e_120b
    have gf_124 : gfr mT G G_117 := mT_75 gf_101 gf_123
    have mb_125 : MB cA A S G_117 := MB_75 mb_102 gf_123
    have f_126 : G_117 hm = some (70, .inr (9, [.int (nI th), .int (nI S.n), .ref (A 2), .ref (A 3), .ref (A 4), .ref (A 5), .int (iI (r1.num.sign)), .int (iI (r2.num.sign)), .ref (A 8), .ref (A 9), .int (nI S.rn), .ref (A 11), .ref (A 12), .ref (A 13), .int (nI S.wn), .ref (A 15), .ref (A 16), .ref (A 17), .ref (A 18), .int kt_3, .int kb_4, .int ks_5])) := f_122
    have f_127 : G_117 (A 18) = some (83, .inl (cA 0, 8600, .inl kf_7)) := gf_123 _ _ f_104 (show ¬ ((83 : Nat) = 75 ∨ (83 : Nat) = 76) by decide)
    obtain ⟨Rr_128, hR_129⟩ : ∃ y9, y9 = (fup Rr_105 4 (Rr_105 4 + Rr_105 5)) := ⟨_, rfl⟩
    rw [← hR_129] at mr_121
    have e_130 : Rr_128 0 = r1.num.natAbs := (congrFun hR_129 0).trans e_107
    have e_131 : Rr_128 2 = r2.num.natAbs := (congrFun hR_129 2).trans e_108
    have e_132 : Rr_128 3 = r2.den := (congrFun hR_129 3).trans e_109
    have e_133 : Rr_128 5 = r2.num.natAbs * r1.den := (congrFun hR_129 5).trans e_111
    have e_134 : Rr_128 6 = r1.den * r2.den := (congrFun hR_129 6).trans e_112
    have e_135 : Rr_128 1 = r1.den * r2.den := (congrFun hR_129 1).trans e_113
    have e_136 : Rr_128 4 = (r1.num.natAbs * r2.den) + (r2.num.natAbs * r1.den) := (congrFun hR_129 4).trans (by rw [← e_110, ← e_111]; rfl)
    have bd_137 : (r1.num.natAbs * r2.den) + (r2.num.natAbs * r1.den) < 1000000000 ^ (j + k + 1) := pw_add (pw_up bd_46 (by omega)) (pw_up bd_68 (by omega))
    have fm_138 : ∀ r9, some r2 = some r9 → fc (iI (r2.num.sign)) (Rr_128 2) (Rr_128 3) r9 := by rw [show Rr_128 2 = Rr_105 2 from congrFun hR_129 2, show Rr_128 3 = Rr_105 3 from congrFun hR_129 3]; exact fm_115
    refine gs (pc' := 62) (fun _ _ _ _ _ hl => lv_aload_n hx hb d_Mo_addOther_61 rfl (lv_at hl 1 rfl)) ?_
    refine gs (pc' := 63) (fun _ _ _ _ _ hl => lv_aload_n hx hb d_Mo_addOther_62 rfl (lv_at hl 1 rfl)) ?_
    refine g_get hx hb hts hin_Mo hown hK f_126 rfl 6 (by decide) (hts _ wm760) (fun _ h9 => h9) rfl d_Mo_addOther_63 ?_
    refine gsb (pc1 := 73) (pc2 := 69) (fun _ _ _ _ _ => lv_if_ne (tgt := 73) hx hb d_Mo_addOther_66 (by decide)) (fun c_139 => ?_) (fun c_139 => ?_)
    · skip
      have nc_139 : r1.num.sign ≠ 0 := (ii_ne (a := r1.num.sign) (b := 0) (by omega) (by omega) (by omega) (by omega)).1 (by first | exact c_139 | (have z9 := c_139; simp only [nI_iI] at z9; exact z9))
      refine gs (pc' := 74) (fun _ _ _ _ _ hl => lv_aload_n hx hb d_Mo_addOther_73 rfl (lv_at hl 1 rfl)) ?_
      refine g_get hx hb hts hin_Mo hown hK f_126 rfl 6 (by decide) (hts _ wm760) (fun _ h9 => h9) rfl d_Mo_addOther_74 ?_
      refine g_put (ty := .int) hx hb hts hin_Mo ty_Mo ty_Mo_ok nm_Mo hown hK f_126 rfl 6 (by decide) (hts _ wm760) (fun _ h9 => h9) rfl (by decide +kernel) rfl rfl (Nat.le_of_ble_eq_true rfl) d_Mo_addOther_77 (fun G_140 f_141 o_142 => ?_)
      have f_143 : G_140 hm = some (70, .inr (9, [.int (nI th), .int (nI S.n), .ref (A 2), .ref (A 3), .ref (A 4), .ref (A 5), .int (iI (r1.num.sign)), .int (iI (r2.num.sign)), .ref (A 8), .ref (A 9), .int (nI S.rn), .ref (A 11), .ref (A 12), .ref (A 13), .int (nI S.wn), .ref (A 15), .ref (A 16), .ref (A 17), .ref (A 18), .int kt_3, .int kb_4, .int ks_5])) := f_141
      have f_144 : G_140 (A 18) = some (83, .inl (cA 0, 8600, .inl kf_7)) := (o_142 _ (gne f_127 f_126 (fun e => by cases e))).trans f_127
      have gf_145 : gfr mT G G_140 := gfr_put gf_124 f_126 (show mT 70 by decide) o_142
      have gf_146 : gfr (fun x => x = 70) _ G_140 := gfr_put gfr_rf f_126 rfl o_142
      have mr_147 : MR cA A Rr_128 G_140 := MR_fr mr_121 gf_146 (show ¬ (75 : Nat) = 70 by decide) (show ¬ (76 : Nat) = 70 by decide)
      have mb_148 : MB cA A S G_140 := MB_fr mb_125 gf_146 (fun x h9 => by omega)
      refine gs (pc' := 118) (fun _ _ _ _ _ hl => lv_goto (tgt := 118) hx hb d_Mo_addOther_80 (by decide)) ?_
      refine gs (pc' := 119) (fun _ _ _ _ _ hl => lv_aload_n hx hb d_Mo_addOther_118 rfl (lv_at hl 1 rfl)) ?_
      refine gs (pc' := 120) (fun _ _ _ _ _ hl => lv_iconst (v := nI 0) hx hb d_Mo_addOther_119 (by decide)) ?_
      refine gs (pc' := 121) (fun _ _ _ _ _ hl => lv_iconst (v := nI 4) hx hb d_Mo_addOther_120 (by decide)) ?_
      refine g_outv hlo (g_runV (As := [.int (nI 0), .int (nI 4)]) (rest := []) ⟨hx, hb, hml, hown, hts⟩ hK hZ hRc hRs (c_Mo_copy l D cA lo MC MS G_140 B hm A (mi (nI th) (nI S.n) (iI (r1.num.sign)) (iI (r2.num.sign)) (nI S.rn) (nI S.wn) kt_3 kb_4 ks_5) f_143 Rr_128 mr_147 0 (by decide) 4 (by decide) (by decide) hB1 hB2) (fun _ _ => cwV 2 hts (tb_good (tb_cons wm847 (tb_cons wm849 (tb_cons ws23 (tb_cons wm12 k_Mo_copy))))) rfl rfl rfl (by decide +kernel) ⟨by rw [hRf]; exact Nat.le_of_ble_eq_true rfl, by rw [hRl]; exact Nat.le_of_ble_eq_true rfl⟩) f_143 rfl hB1 hB2 rfl (Nat.le_of_ble_eq_true rfl) d_Mo_addOther_121) (fun G_149 B_150 p_151 => ?_)
      obtain ⟨e_152, mr_153, f_154, gf_155⟩ := p_151
      have e_152b : B = B_150 := e_152.symm
      subst e_152b
      have gf_156 : gfr mT G G_149 := mT_75 gf_145 gf_155
      have mb_157 : MB cA A S G_149 := MB_75 mb_148 gf_155
      have f_158 : G_149 hm = some (70, .inr (9, [.int (nI th), .int (nI S.n), .ref (A 2), .ref (A 3), .ref (A 4), .ref (A 5), .int (iI (r1.num.sign)), .int (iI (r2.num.sign)), .ref (A 8), .ref (A 9), .int (nI S.rn), .ref (A 11), .ref (A 12), .ref (A 13), .int (nI S.wn), .ref (A 15), .ref (A 16), .ref (A 17), .ref (A 18), .int kt_3, .int kb_4, .int ks_5])) := f_154
      have f_159 : G_149 (A 18) = some (83, .inl (cA 0, 8600, .inl kf_7)) := gf_155 _ _ f_144 (show ¬ ((83 : Nat) = 75 ∨ (83 : Nat) = 76) by decide)
      obtain ⟨Rr_160, hR_161⟩ : ∃ y9, y9 = (fup Rr_128 0 (Rr_128 4)) := ⟨_, rfl⟩
      rw [← hR_161] at mr_153
      have e_162 : Rr_160 2 = r2.num.natAbs := (congrFun hR_161 2).trans e_131
      have e_163 : Rr_160 3 = r2.den := (congrFun hR_161 3).trans e_132
      have e_164 : Rr_160 5 = r2.num.natAbs * r1.den := (congrFun hR_161 5).trans e_133
      have e_165 : Rr_160 6 = r1.den * r2.den := (congrFun hR_161 6).trans e_134
      have e_166 : Rr_160 1 = r1.den * r2.den := (congrFun hR_161 1).trans e_135
      have e_167 : Rr_160 4 = (r1.num.natAbs * r2.den) + (r2.num.natAbs * r1.den) := (congrFun hR_161 4).trans e_136
      have e_168 : Rr_160 0 = (r1.num.natAbs * r2.den) + (r2.num.natAbs * r1.den) := (congrFun hR_161 0).trans (e_136)
      have bd_169 : (r1.num.natAbs * r2.den) + (r2.num.natAbs * r1.den) < 1000000000 ^ (j + k + 1) := bd_137
      have fm_170 : ∀ r9, some r2 = some r9 → fc (iI (r2.num.sign)) (Rr_160 2) (Rr_160 3) r9 := by rw [show Rr_160 2 = Rr_128 2 from congrFun hR_161 2, show Rr_160 3 = Rr_128 3 from congrFun hR_161 3]; exact fm_138
      refine gs (pc' := 125) (fun _ _ _ _ _ hl => lv_aload_n hx hb d_Mo_addOther_124 rfl (lv_at hl 1 rfl)) ?_
      have fq_171 : fq (iI (r1.num.sign)) ((r1.num.natAbs * r2.den) + (r2.num.natAbs * r1.den)) (r1.den * r2.den) rs := ⟨hdp, r1.num.sign, rfl, by omega, by rw [← har]; exact congrArg (fun y9 => mkRat y9 _) (by have h9 := (ao_i (p := r1.num.natAbs * r2.den) (q := r2.num.natAbs * r1.den) (by omega) hst hz1 hz2 hI).1; rw [if_neg (show ¬ r1.num.sign = 0 by omega)] at h9; exact h9), fun e9 => by have h9 := (ao_i (p := r1.num.natAbs * r2.den) (q := r2.num.natAbs * r1.den) (by omega) hst hz1 hz2 hI).2; rw [if_neg (show ¬ r1.num.sign = 0 by omega)] at h9; exact h9 e9⟩
      refine g_outv hlo (g_runV (As := []) (rest := []) ⟨hx, hb, hml, hown, hts⟩ hK hZ hRc hRs (c_Mo_reduce l D cA lo MC MS G_149 B hm A (mi (nI th) (nI S.n) (iI (r1.num.sign)) (iI (r2.num.sign)) (nI S.rn) (nI S.wn) kt_3 kb_4 ks_5) f_158 Rr_160 mr_153 (by rw [e_166]; exact fq_171.1) (j + k + 1) (by rw [e_168]; exact pw_up bd_169 (by omega)) (by rw [e_166]; exact pw_up bd_114 (by omega)) (by omega) hB1 hB2) (fun _ _ => cwV 0 hts (tb_good (tb_cons wm843 (tb_cons wm845 (tb_cons ws22 (tb_cons wm12 k_Mo_reduce))))) rfl rfl rfl (by decide +kernel) ⟨by rw [hRf]; exact Nat.le_of_ble_eq_true rfl, by rw [hRl]; exact Nat.le_of_ble_eq_true rfl⟩) f_158 rfl hB1 hB2 rfl (Nat.le_of_ble_eq_true rfl) d_Mo_addOther_125) (fun G_172 B_173 p_174 => ?_)
      obtain ⟨e_175, ⟨Rr_176, mr_177, q_178, q_179, q_180, q_181⟩, f_182, gf_183⟩ := p_174
      have e_175b : B = B_173 := e_175.symm
      subst e_175b
      obtain ⟨sg_184, e_185⟩ : ∃ y9 : Int32, y9 = if Rr_160 0 = 0 then nI 0 else (iI (r1.num.sign)) := ⟨_, rfl⟩
      have gf_186 : gfr mT G G_172 := mT_705 gf_156 gf_183
      have mb_187 : MB cA A S G_172 := MB_705 mb_157 gf_183
      have f_188 : G_172 hm = some (70, .inr (9, [.int (nI th), .int (nI S.n), .ref (A 2), .ref (A 3), .ref (A 4), .ref (A 5), .int sg_184, .int (iI (r2.num.sign)), .ref (A 8), .ref (A 9), .int (nI S.rn), .ref (A 11), .ref (A 12), .ref (A 13), .int (nI S.wn), .ref (A 15), .ref (A 16), .ref (A 17), .ref (A 18), .int kt_3, .int kb_4, .int ks_5])) := f_182.trans (by rw [mi_if, ← e_185]; rfl)
      have f_189 : G_172 (A 18) = some (83, .inl (cA 0, 8600, .inl kf_7)) := gf_183 _ _ f_159 (show ¬ ((83 : Nat) = 70 ∨ (83 : Nat) = 75 ∨ (83 : Nat) = 76) by decide)
      have fc_190 : fc sg_184 (Rr_176 0) (Rr_176 1) rs := by rw [q_178, q_179, e_185, e_168, e_166]; exact fq_fc fq_171
      have hV_191 : MW cA hm A S th (some rs) none qk G_172 := ⟨sg_184, (iI (r2.num.sign)), kt_3, kb_4, ks_5, Rr_176, _, f_188, mr_177, f_189, (sm_ fc_190), sn_, v_13, mb_187⟩
      exact hret 128 _ _ _ d_Mo_addOther_128 hB1 hB2 ⟨rfl, hV_191, gf_186⟩
    · skip
      have nc_139 : r1.num.sign = 0 := (ii_ne (a := r1.num.sign) (b := 0) (by omega) (by omega) (by omega) (by omega)).2 (by first | exact c_139 | (have z9 := c_139; simp only [nI_iI] at z9; exact z9))
      refine gs (pc' := 70) (fun _ _ _ _ _ hl => lv_iload_n hx hb d_Mo_addOther_69 rfl (lv_at hl 0 rfl)) ?_
      refine gs (pc' := 77) (fun _ _ _ _ _ hl => lv_goto (tgt := 77) hx hb d_Mo_addOther_70 (by decide)) ?_
      refine g_put (ty := .int) hx hb hts hin_Mo ty_Mo ty_Mo_ok nm_Mo hown hK f_126 rfl 6 (by decide) (hts _ wm760) (fun _ h9 => h9) rfl (by decide +kernel) rfl rfl (Nat.le_of_ble_eq_true rfl) d_Mo_addOther_77 (fun G_192 f_193 o_194 => ?_)
      have f_195 : G_192 hm = some (70, .inr (9, [.int (nI th), .int (nI S.n), .ref (A 2), .ref (A 3), .ref (A 4), .ref (A 5), .int (iI (r2.num.sign * t)), .int (iI (r2.num.sign)), .ref (A 8), .ref (A 9), .int (nI S.rn), .ref (A 11), .ref (A 12), .ref (A 13), .int (nI S.wn), .ref (A 15), .ref (A 16), .ref (A 17), .ref (A 18), .int kt_3, .int kb_4, .int ks_5])) := f_193
      have f_196 : G_192 (A 18) = some (83, .inl (cA 0, 8600, .inl kf_7)) := (o_194 _ (gne f_127 f_126 (fun e => by cases e))).trans f_127
      have gf_197 : gfr mT G G_192 := gfr_put gf_124 f_126 (show mT 70 by decide) o_194
      have gf_198 : gfr (fun x => x = 70) _ G_192 := gfr_put gfr_rf f_126 rfl o_194
      have mr_199 : MR cA A Rr_128 G_192 := MR_fr mr_121 gf_198 (show ¬ (75 : Nat) = 70 by decide) (show ¬ (76 : Nat) = 70 by decide)
      have mb_200 : MB cA A S G_192 := MB_fr mb_125 gf_198 (fun x h9 => by omega)
      refine gs (pc' := 118) (fun _ _ _ _ _ hl => lv_goto (tgt := 118) hx hb d_Mo_addOther_80 (by decide)) ?_
      refine gs (pc' := 119) (fun _ _ _ _ _ hl => lv_aload_n hx hb d_Mo_addOther_118 rfl (lv_at hl 1 rfl)) ?_
      refine gs (pc' := 120) (fun _ _ _ _ _ hl => lv_iconst (v := nI 0) hx hb d_Mo_addOther_119 (by decide)) ?_
      refine gs (pc' := 121) (fun _ _ _ _ _ hl => lv_iconst (v := nI 4) hx hb d_Mo_addOther_120 (by decide)) ?_
      refine g_outv hlo (g_runV (As := [.int (nI 0), .int (nI 4)]) (rest := []) ⟨hx, hb, hml, hown, hts⟩ hK hZ hRc hRs (c_Mo_copy l D cA lo MC MS G_192 B hm A (mi (nI th) (nI S.n) (iI (r2.num.sign * t)) (iI (r2.num.sign)) (nI S.rn) (nI S.wn) kt_3 kb_4 ks_5) f_195 Rr_128 mr_199 0 (by decide) 4 (by decide) (by decide) hB1 hB2) (fun _ _ => cwV 2 hts (tb_good (tb_cons wm847 (tb_cons wm849 (tb_cons ws23 (tb_cons wm12 k_Mo_copy))))) rfl rfl rfl (by decide +kernel) ⟨by rw [hRf]; exact Nat.le_of_ble_eq_true rfl, by rw [hRl]; exact Nat.le_of_ble_eq_true rfl⟩) f_195 rfl hB1 hB2 rfl (Nat.le_of_ble_eq_true rfl) d_Mo_addOther_121) (fun G_201 B_202 p_203 => ?_)
      obtain ⟨e_204, mr_205, f_206, gf_207⟩ := p_203
      have e_204b : B = B_202 := e_204.symm
      subst e_204b
      have gf_208 : gfr mT G G_201 := mT_75 gf_197 gf_207
      have mb_209 : MB cA A S G_201 := MB_75 mb_200 gf_207
      have f_210 : G_201 hm = some (70, .inr (9, [.int (nI th), .int (nI S.n), .ref (A 2), .ref (A 3), .ref (A 4), .ref (A 5), .int (iI (r2.num.sign * t)), .int (iI (r2.num.sign)), .ref (A 8), .ref (A 9), .int (nI S.rn), .ref (A 11), .ref (A 12), .ref (A 13), .int (nI S.wn), .ref (A 15), .ref (A 16), .ref (A 17), .ref (A 18), .int kt_3, .int kb_4, .int ks_5])) := f_206
      have f_211 : G_201 (A 18) = some (83, .inl (cA 0, 8600, .inl kf_7)) := gf_207 _ _ f_196 (show ¬ ((83 : Nat) = 75 ∨ (83 : Nat) = 76) by decide)
      obtain ⟨Rr_212, hR_213⟩ : ∃ y9, y9 = (fup Rr_128 0 (Rr_128 4)) := ⟨_, rfl⟩
      rw [← hR_213] at mr_205
      have e_214 : Rr_212 2 = r2.num.natAbs := (congrFun hR_213 2).trans e_131
      have e_215 : Rr_212 3 = r2.den := (congrFun hR_213 3).trans e_132
      have e_216 : Rr_212 5 = r2.num.natAbs * r1.den := (congrFun hR_213 5).trans e_133
      have e_217 : Rr_212 6 = r1.den * r2.den := (congrFun hR_213 6).trans e_134
      have e_218 : Rr_212 1 = r1.den * r2.den := (congrFun hR_213 1).trans e_135
      have e_219 : Rr_212 4 = (r1.num.natAbs * r2.den) + (r2.num.natAbs * r1.den) := (congrFun hR_213 4).trans e_136
      have e_220 : Rr_212 0 = (r1.num.natAbs * r2.den) + (r2.num.natAbs * r1.den) := (congrFun hR_213 0).trans (e_136)
      have bd_221 : (r1.num.natAbs * r2.den) + (r2.num.natAbs * r1.den) < 1000000000 ^ (j + k + 1) := bd_137
      have fm_222 : ∀ r9, some r2 = some r9 → fc (iI (r2.num.sign)) (Rr_212 2) (Rr_212 3) r9 := by rw [show Rr_212 2 = Rr_128 2 from congrFun hR_213 2, show Rr_212 3 = Rr_128 3 from congrFun hR_213 3]; exact fm_138
      refine gs (pc' := 125) (fun _ _ _ _ _ hl => lv_aload_n hx hb d_Mo_addOther_124 rfl (lv_at hl 1 rfl)) ?_
      have fq_223 : fq (iI (r2.num.sign * t)) ((r1.num.natAbs * r2.den) + (r2.num.natAbs * r1.den)) (r1.den * r2.den) rs := ⟨hdp, r2.num.sign * t, rfl, by omega, by rw [← har]; exact congrArg (fun y9 => mkRat y9 _) (by have h9 := (ao_i (p := r1.num.natAbs * r2.den) (q := r2.num.natAbs * r1.den) (by omega) hst hz1 hz2 hI).1; rw [if_pos (show r1.num.sign = 0 by omega)] at h9; exact h9), fun e9 => by have h9 := (ao_i (p := r1.num.natAbs * r2.den) (q := r2.num.natAbs * r1.den) (by omega) hst hz1 hz2 hI).2; rw [if_pos (show r1.num.sign = 0 by omega)] at h9; exact h9 e9⟩
      refine g_outv hlo (g_runV (As := []) (rest := []) ⟨hx, hb, hml, hown, hts⟩ hK hZ hRc hRs (c_Mo_reduce l D cA lo MC MS G_201 B hm A (mi (nI th) (nI S.n) (iI (r2.num.sign * t)) (iI (r2.num.sign)) (nI S.rn) (nI S.wn) kt_3 kb_4 ks_5) f_210 Rr_212 mr_205 (by rw [e_218]; exact fq_223.1) (j + k + 1) (by rw [e_220]; exact pw_up bd_221 (by omega)) (by rw [e_218]; exact pw_up bd_114 (by omega)) (by omega) hB1 hB2) (fun _ _ => cwV 0 hts (tb_good (tb_cons wm843 (tb_cons wm845 (tb_cons ws22 (tb_cons wm12 k_Mo_reduce))))) rfl rfl rfl (by decide +kernel) ⟨by rw [hRf]; exact Nat.le_of_ble_eq_true rfl, by rw [hRl]; exact Nat.le_of_ble_eq_true rfl⟩) f_210 rfl hB1 hB2 rfl (Nat.le_of_ble_eq_true rfl) d_Mo_addOther_125) (fun G_224 B_225 p_226 => ?_)
      obtain ⟨e_227, ⟨Rr_228, mr_229, q_230, q_231, q_232, q_233⟩, f_234, gf_235⟩ := p_226
      have e_227b : B = B_225 := e_227.symm
      subst e_227b
      obtain ⟨sg_236, e_237⟩ : ∃ y9 : Int32, y9 = if Rr_212 0 = 0 then nI 0 else (iI (r2.num.sign * t)) := ⟨_, rfl⟩
      have gf_238 : gfr mT G G_224 := mT_705 gf_208 gf_235
      have mb_239 : MB cA A S G_224 := MB_705 mb_209 gf_235
      have f_240 : G_224 hm = some (70, .inr (9, [.int (nI th), .int (nI S.n), .ref (A 2), .ref (A 3), .ref (A 4), .ref (A 5), .int sg_236, .int (iI (r2.num.sign)), .ref (A 8), .ref (A 9), .int (nI S.rn), .ref (A 11), .ref (A 12), .ref (A 13), .int (nI S.wn), .ref (A 15), .ref (A 16), .ref (A 17), .ref (A 18), .int kt_3, .int kb_4, .int ks_5])) := f_234.trans (by rw [mi_if, ← e_237]; rfl)
      have f_241 : G_224 (A 18) = some (83, .inl (cA 0, 8600, .inl kf_7)) := gf_235 _ _ f_211 (show ¬ ((83 : Nat) = 70 ∨ (83 : Nat) = 75 ∨ (83 : Nat) = 76) by decide)
      have fc_242 : fc sg_236 (Rr_228 0) (Rr_228 1) rs := by rw [q_230, q_231, e_237, e_220, e_218]; exact fq_fc fq_223
      have hV_243 : MW cA hm A S th (some rs) none qk G_224 := ⟨sg_236, (iI (r2.num.sign)), kt_3, kb_4, ks_5, Rr_228, _, f_240, mr_229, f_241, (sm_ fc_242), sn_, v_13, mb_239⟩
      exact hret 128 _ _ _ d_Mo_addOther_128 hB1 hB2 ⟨rfl, hV_243, gf_238⟩
  · skip
    have nc_116 : r1.num.sign ≠ (r2.num.sign * t) := (ii_eq (a := r1.num.sign) (b := (r2.num.sign * t)) (by omega) (by omega) (by omega) (by omega)).2 (by first | exact c_116 | (have z9 := c_116; simp only [nI_iI] at z9; exact z9))
    have hd1 : r1.num.sign ≠ r2.num.sign * t := by omega
    refine gs (pc' := 45) (fun _ _ _ _ _ hl => lv_iload_n hx hb d_Mo_addOther_44 rfl (lv_at hl 0 rfl)) ?_
    refine gsb (pc1 := 55) (pc2 := 48) (fun _ _ _ _ _ => lv_if_eq (tgt := 55) hx hb d_Mo_addOther_45 (by decide)) (fun c_244 => ?_) (fun c_244 => ?_)
    · skip
      have nc_244 : (r2.num.sign * t) = 0 := (ii_eq (a := (r2.num.sign * t)) (b := 0) (by omega) (by omega) (by omega) (by omega)).1 (by first | exact c_244 | (have z9 := c_244; simp only [nI_iI] at z9; exact z9))
      have hI : r1.num.sign = r2.num.sign * t ∨ r2.num.sign * t = 0 ∨ r1.num.sign = 0 := Or.inr (Or.inl (by omega))
      refine gs (pc' := 56) (fun _ _ _ _ _ hl => lv_aload_n hx hb d_Mo_addOther_55 rfl (lv_at hl 1 rfl)) ?_
      refine gs (pc' := 57) (fun _ _ _ _ _ hl => lv_iconst (v := nI 4) hx hb d_Mo_addOther_56 (by decide)) ?_
      refine gs (pc' := 58) (fun _ _ _ _ _ hl => lv_iconst (v := nI 5) hx hb d_Mo_addOther_57 (by decide)) ?_
      refine g_outv hlo (g_runV (As := [.int (nI 4), .int (nI 5)]) (rest := []) ⟨hx, hb, hml, hown, hts⟩ hK hZ hRc hRs (c_Mo_plus l D cA lo MC MS G_94 B hm A (mi (nI th) (nI S.n) (iI (r1.num.sign)) (iI (r2.num.sign)) (nI S.rn) (nI S.wn) kt_3 kb_4 ks_5) f_103 Rr_105 mr_98 4 (by decide) 5 (by decide) (by decide) (j + k) (by rw [e_110]; exact pw_up bd_46 (by omega)) (by rw [e_111]; exact pw_up bd_68 (by omega)) (by omega) hB1 hB2) (fun _ _ => cwV 2 hts (tb_good (tb_cons wm917 (tb_cons wm919 (tb_cons ws39 (tb_cons wm12 k_Mo_plus))))) rfl rfl rfl (by decide +kernel) ⟨by rw [hRf]; exact Nat.le_of_ble_eq_true rfl, by rw [hRl]; exact Nat.le_of_ble_eq_true rfl⟩) f_103 rfl hB1 hB2 rfl (Nat.le_of_ble_eq_true rfl) d_Mo_addOther_58) (fun G_245 B_246 p_247 => ?_)
      obtain ⟨e_248, mr_249, f_250, gf_251⟩ := p_247
      have e_248b : B = B_246 := e_248.symm
      subst e_248b
      have gf_252 : gfr mT G G_245 := mT_75 gf_101 gf_251
      have mb_253 : MB cA A S G_245 := MB_75 mb_102 gf_251
      have f_254 : G_245 hm = some (70, .inr (9, [.int (nI th), .int (nI S.n), .ref (A 2), .ref (A 3), .ref (A 4), .ref (A 5), .int (iI (r1.num.sign)), .int (iI (r2.num.sign)), .ref (A 8), .ref (A 9), .int (nI S.rn), .ref (A 11), .ref (A 12), .ref (A 13), .int (nI S.wn), .ref (A 15), .ref (A 16), .ref (A 17), .ref (A 18), .int kt_3, .int kb_4, .int ks_5])) := f_250
      have f_255 : G_245 (A 18) = some (83, .inl (cA 0, 8600, .inl kf_7)) := gf_251 _ _ f_104 (show ¬ ((83 : Nat) = 75 ∨ (83 : Nat) = 76) by decide)
      obtain ⟨Rr_256, hR_257⟩ : ∃ y9, y9 = (fup Rr_105 4 (Rr_105 4 + Rr_105 5)) := ⟨_, rfl⟩
      rw [← hR_257] at mr_249
      have e_258 : Rr_256 0 = r1.num.natAbs := (congrFun hR_257 0).trans e_107
      have e_259 : Rr_256 2 = r2.num.natAbs := (congrFun hR_257 2).trans e_108
      have e_260 : Rr_256 3 = r2.den := (congrFun hR_257 3).trans e_109
      have e_261 : Rr_256 5 = r2.num.natAbs * r1.den := (congrFun hR_257 5).trans e_111
      have e_262 : Rr_256 6 = r1.den * r2.den := (congrFun hR_257 6).trans e_112
      have e_263 : Rr_256 1 = r1.den * r2.den := (congrFun hR_257 1).trans e_113
      have e_264 : Rr_256 4 = (r1.num.natAbs * r2.den) + (r2.num.natAbs * r1.den) := (congrFun hR_257 4).trans (by rw [← e_110, ← e_111]; rfl)
      have bd_265 : (r1.num.natAbs * r2.den) + (r2.num.natAbs * r1.den) < 1000000000 ^ (j + k + 1) := pw_add (pw_up bd_46 (by omega)) (pw_up bd_68 (by omega))
      have fm_266 : ∀ r9, some r2 = some r9 → fc (iI (r2.num.sign)) (Rr_256 2) (Rr_256 3) r9 := by rw [show Rr_256 2 = Rr_105 2 from congrFun hR_257 2, show Rr_256 3 = Rr_105 3 from congrFun hR_257 3]; exact fm_115
      refine gs (pc' := 62) (fun _ _ _ _ _ hl => lv_aload_n hx hb d_Mo_addOther_61 rfl (lv_at hl 1 rfl)) ?_
      refine gs (pc' := 63) (fun _ _ _ _ _ hl => lv_aload_n hx hb d_Mo_addOther_62 rfl (lv_at hl 1 rfl)) ?_
      refine g_get hx hb hts hin_Mo hown hK f_254 rfl 6 (by decide) (hts _ wm760) (fun _ h9 => h9) rfl d_Mo_addOther_63 ?_
      refine gsb (pc1 := 73) (pc2 := 69) (fun _ _ _ _ _ => lv_if_ne (tgt := 73) hx hb d_Mo_addOther_66 (by decide)) (fun c_267 => ?_) (fun c_267 => ?_)
      · skip
        have nc_267 : r1.num.sign ≠ 0 := (ii_ne (a := r1.num.sign) (b := 0) (by omega) (by omega) (by omega) (by omega)).1 (by first | exact c_267 | (have z9 := c_267; simp only [nI_iI] at z9; exact z9))
        refine gs (pc' := 74) (fun _ _ _ _ _ hl => lv_aload_n hx hb d_Mo_addOther_73 rfl (lv_at hl 1 rfl)) ?_
        refine g_get hx hb hts hin_Mo hown hK f_254 rfl 6 (by decide) (hts _ wm760) (fun _ h9 => h9) rfl d_Mo_addOther_74 ?_
        refine g_put (ty := .int) hx hb hts hin_Mo ty_Mo ty_Mo_ok nm_Mo hown hK f_254 rfl 6 (by decide) (hts _ wm760) (fun _ h9 => h9) rfl (by decide +kernel) rfl rfl (Nat.le_of_ble_eq_true rfl) d_Mo_addOther_77 (fun G_268 f_269 o_270 => ?_)
        have f_271 : G_268 hm = some (70, .inr (9, [.int (nI th), .int (nI S.n), .ref (A 2), .ref (A 3), .ref (A 4), .ref (A 5), .int (iI (r1.num.sign)), .int (iI (r2.num.sign)), .ref (A 8), .ref (A 9), .int (nI S.rn), .ref (A 11), .ref (A 12), .ref (A 13), .int (nI S.wn), .ref (A 15), .ref (A 16), .ref (A 17), .ref (A 18), .int kt_3, .int kb_4, .int ks_5])) := f_269
        have f_272 : G_268 (A 18) = some (83, .inl (cA 0, 8600, .inl kf_7)) := (o_270 _ (gne f_255 f_254 (fun e => by cases e))).trans f_255
        have gf_273 : gfr mT G G_268 := gfr_put gf_252 f_254 (show mT 70 by decide) o_270
        have gf_274 : gfr (fun x => x = 70) _ G_268 := gfr_put gfr_rf f_254 rfl o_270
        have mr_275 : MR cA A Rr_256 G_268 := MR_fr mr_249 gf_274 (show ¬ (75 : Nat) = 70 by decide) (show ¬ (76 : Nat) = 70 by decide)
        have mb_276 : MB cA A S G_268 := MB_fr mb_253 gf_274 (fun x h9 => by omega)
        refine gs (pc' := 118) (fun _ _ _ _ _ hl => lv_goto (tgt := 118) hx hb d_Mo_addOther_80 (by decide)) ?_
        refine gs (pc' := 119) (fun _ _ _ _ _ hl => lv_aload_n hx hb d_Mo_addOther_118 rfl (lv_at hl 1 rfl)) ?_
        refine gs (pc' := 120) (fun _ _ _ _ _ hl => lv_iconst (v := nI 0) hx hb d_Mo_addOther_119 (by decide)) ?_
        refine gs (pc' := 121) (fun _ _ _ _ _ hl => lv_iconst (v := nI 4) hx hb d_Mo_addOther_120 (by decide)) ?_
        refine g_outv hlo (g_runV (As := [.int (nI 0), .int (nI 4)]) (rest := []) ⟨hx, hb, hml, hown, hts⟩ hK hZ hRc hRs (c_Mo_copy l D cA lo MC MS G_268 B hm A (mi (nI th) (nI S.n) (iI (r1.num.sign)) (iI (r2.num.sign)) (nI S.rn) (nI S.wn) kt_3 kb_4 ks_5) f_271 Rr_256 mr_275 0 (by decide) 4 (by decide) (by decide) hB1 hB2) (fun _ _ => cwV 2 hts (tb_good (tb_cons wm847 (tb_cons wm849 (tb_cons ws23 (tb_cons wm12 k_Mo_copy))))) rfl rfl rfl (by decide +kernel) ⟨by rw [hRf]; exact Nat.le_of_ble_eq_true rfl, by rw [hRl]; exact Nat.le_of_ble_eq_true rfl⟩) f_271 rfl hB1 hB2 rfl (Nat.le_of_ble_eq_true rfl) d_Mo_addOther_121) (fun G_277 B_278 p_279 => ?_)
        obtain ⟨e_280, mr_281, f_282, gf_283⟩ := p_279
        have e_280b : B = B_278 := e_280.symm
        subst e_280b
        have gf_284 : gfr mT G G_277 := mT_75 gf_273 gf_283
        have mb_285 : MB cA A S G_277 := MB_75 mb_276 gf_283
        have f_286 : G_277 hm = some (70, .inr (9, [.int (nI th), .int (nI S.n), .ref (A 2), .ref (A 3), .ref (A 4), .ref (A 5), .int (iI (r1.num.sign)), .int (iI (r2.num.sign)), .ref (A 8), .ref (A 9), .int (nI S.rn), .ref (A 11), .ref (A 12), .ref (A 13), .int (nI S.wn), .ref (A 15), .ref (A 16), .ref (A 17), .ref (A 18), .int kt_3, .int kb_4, .int ks_5])) := f_282
        have f_287 : G_277 (A 18) = some (83, .inl (cA 0, 8600, .inl kf_7)) := gf_283 _ _ f_272 (show ¬ ((83 : Nat) = 75 ∨ (83 : Nat) = 76) by decide)
        obtain ⟨Rr_288, hR_289⟩ : ∃ y9, y9 = (fup Rr_256 0 (Rr_256 4)) := ⟨_, rfl⟩
        rw [← hR_289] at mr_281
        have e_290 : Rr_288 2 = r2.num.natAbs := (congrFun hR_289 2).trans e_259
        have e_291 : Rr_288 3 = r2.den := (congrFun hR_289 3).trans e_260
        have e_292 : Rr_288 5 = r2.num.natAbs * r1.den := (congrFun hR_289 5).trans e_261
        have e_293 : Rr_288 6 = r1.den * r2.den := (congrFun hR_289 6).trans e_262
        have e_294 : Rr_288 1 = r1.den * r2.den := (congrFun hR_289 1).trans e_263
        have e_295 : Rr_288 4 = (r1.num.natAbs * r2.den) + (r2.num.natAbs * r1.den) := (congrFun hR_289 4).trans e_264
        have e_296 : Rr_288 0 = (r1.num.natAbs * r2.den) + (r2.num.natAbs * r1.den) := (congrFun hR_289 0).trans (e_264)
        have bd_297 : (r1.num.natAbs * r2.den) + (r2.num.natAbs * r1.den) < 1000000000 ^ (j + k + 1) := bd_265
        have fm_298 : ∀ r9, some r2 = some r9 → fc (iI (r2.num.sign)) (Rr_288 2) (Rr_288 3) r9 := by rw [show Rr_288 2 = Rr_256 2 from congrFun hR_289 2, show Rr_288 3 = Rr_256 3 from congrFun hR_289 3]; exact fm_266
        refine gs (pc' := 125) (fun _ _ _ _ _ hl => lv_aload_n hx hb d_Mo_addOther_124 rfl (lv_at hl 1 rfl)) ?_
        have fq_299 : fq (iI (r1.num.sign)) ((r1.num.natAbs * r2.den) + (r2.num.natAbs * r1.den)) (r1.den * r2.den) rs := ⟨hdp, r1.num.sign, rfl, by omega, by rw [← har]; exact congrArg (fun y9 => mkRat y9 _) (by have h9 := (ao_i (p := r1.num.natAbs * r2.den) (q := r2.num.natAbs * r1.den) (by omega) hst hz1 hz2 hI).1; rw [if_neg (show ¬ r1.num.sign = 0 by omega)] at h9; exact h9), fun e9 => by have h9 := (ao_i (p := r1.num.natAbs * r2.den) (q := r2.num.natAbs * r1.den) (by omega) hst hz1 hz2 hI).2; rw [if_neg (show ¬ r1.num.sign = 0 by omega)] at h9; exact h9 e9⟩
        refine g_outv hlo (g_runV (As := []) (rest := []) ⟨hx, hb, hml, hown, hts⟩ hK hZ hRc hRs (c_Mo_reduce l D cA lo MC MS G_277 B hm A (mi (nI th) (nI S.n) (iI (r1.num.sign)) (iI (r2.num.sign)) (nI S.rn) (nI S.wn) kt_3 kb_4 ks_5) f_286 Rr_288 mr_281 (by rw [e_294]; exact fq_299.1) (j + k + 1) (by rw [e_296]; exact pw_up bd_297 (by omega)) (by rw [e_294]; exact pw_up bd_114 (by omega)) (by omega) hB1 hB2) (fun _ _ => cwV 0 hts (tb_good (tb_cons wm843 (tb_cons wm845 (tb_cons ws22 (tb_cons wm12 k_Mo_reduce))))) rfl rfl rfl (by decide +kernel) ⟨by rw [hRf]; exact Nat.le_of_ble_eq_true rfl, by rw [hRl]; exact Nat.le_of_ble_eq_true rfl⟩) f_286 rfl hB1 hB2 rfl (Nat.le_of_ble_eq_true rfl) d_Mo_addOther_125) (fun G_300 B_301 p_302 => ?_)
        obtain ⟨e_303, ⟨Rr_304, mr_305, q_306, q_307, q_308, q_309⟩, f_310, gf_311⟩ := p_302
        have e_303b : B = B_301 := e_303.symm
        subst e_303b
        obtain ⟨sg_312, e_313⟩ : ∃ y9 : Int32, y9 = if Rr_288 0 = 0 then nI 0 else (iI (r1.num.sign)) := ⟨_, rfl⟩
        have gf_314 : gfr mT G G_300 := mT_705 gf_284 gf_311
        have mb_315 : MB cA A S G_300 := MB_705 mb_285 gf_311
        have f_316 : G_300 hm = some (70, .inr (9, [.int (nI th), .int (nI S.n), .ref (A 2), .ref (A 3), .ref (A 4), .ref (A 5), .int sg_312, .int (iI (r2.num.sign)), .ref (A 8), .ref (A 9), .int (nI S.rn), .ref (A 11), .ref (A 12), .ref (A 13), .int (nI S.wn), .ref (A 15), .ref (A 16), .ref (A 17), .ref (A 18), .int kt_3, .int kb_4, .int ks_5])) := f_310.trans (by rw [mi_if, ← e_313]; rfl)
        have f_317 : G_300 (A 18) = some (83, .inl (cA 0, 8600, .inl kf_7)) := gf_311 _ _ f_287 (show ¬ ((83 : Nat) = 70 ∨ (83 : Nat) = 75 ∨ (83 : Nat) = 76) by decide)
        have fc_318 : fc sg_312 (Rr_304 0) (Rr_304 1) rs := by rw [q_306, q_307, e_313, e_296, e_294]; exact fq_fc fq_299
        have hV_319 : MW cA hm A S th (some rs) none qk G_300 := ⟨sg_312, (iI (r2.num.sign)), kt_3, kb_4, ks_5, Rr_304, _, f_316, mr_305, f_317, (sm_ fc_318), sn_, v_13, mb_315⟩
        exact hret 128 _ _ _ d_Mo_addOther_128 hB1 hB2 ⟨rfl, hV_319, gf_314⟩
      · skip
        have nc_267 : r1.num.sign = 0 := (ii_ne (a := r1.num.sign) (b := 0) (by omega) (by omega) (by omega) (by omega)).2 (by first | exact c_267 | (have z9 := c_267; simp only [nI_iI] at z9; exact z9))
        refine gs (pc' := 70) (fun _ _ _ _ _ hl => lv_iload_n hx hb d_Mo_addOther_69 rfl (lv_at hl 0 rfl)) ?_
        refine gs (pc' := 77) (fun _ _ _ _ _ hl => lv_goto (tgt := 77) hx hb d_Mo_addOther_70 (by decide)) ?_
        refine g_put (ty := .int) hx hb hts hin_Mo ty_Mo ty_Mo_ok nm_Mo hown hK f_254 rfl 6 (by decide) (hts _ wm760) (fun _ h9 => h9) rfl (by decide +kernel) rfl rfl (Nat.le_of_ble_eq_true rfl) d_Mo_addOther_77 (fun G_320 f_321 o_322 => ?_)
        have f_323 : G_320 hm = some (70, .inr (9, [.int (nI th), .int (nI S.n), .ref (A 2), .ref (A 3), .ref (A 4), .ref (A 5), .int (iI (r2.num.sign * t)), .int (iI (r2.num.sign)), .ref (A 8), .ref (A 9), .int (nI S.rn), .ref (A 11), .ref (A 12), .ref (A 13), .int (nI S.wn), .ref (A 15), .ref (A 16), .ref (A 17), .ref (A 18), .int kt_3, .int kb_4, .int ks_5])) := f_321
        have f_324 : G_320 (A 18) = some (83, .inl (cA 0, 8600, .inl kf_7)) := (o_322 _ (gne f_255 f_254 (fun e => by cases e))).trans f_255
        have gf_325 : gfr mT G G_320 := gfr_put gf_252 f_254 (show mT 70 by decide) o_322
        have gf_326 : gfr (fun x => x = 70) _ G_320 := gfr_put gfr_rf f_254 rfl o_322
        have mr_327 : MR cA A Rr_256 G_320 := MR_fr mr_249 gf_326 (show ¬ (75 : Nat) = 70 by decide) (show ¬ (76 : Nat) = 70 by decide)
        have mb_328 : MB cA A S G_320 := MB_fr mb_253 gf_326 (fun x h9 => by omega)
        refine gs (pc' := 118) (fun _ _ _ _ _ hl => lv_goto (tgt := 118) hx hb d_Mo_addOther_80 (by decide)) ?_
        refine gs (pc' := 119) (fun _ _ _ _ _ hl => lv_aload_n hx hb d_Mo_addOther_118 rfl (lv_at hl 1 rfl)) ?_
        refine gs (pc' := 120) (fun _ _ _ _ _ hl => lv_iconst (v := nI 0) hx hb d_Mo_addOther_119 (by decide)) ?_
        refine gs (pc' := 121) (fun _ _ _ _ _ hl => lv_iconst (v := nI 4) hx hb d_Mo_addOther_120 (by decide)) ?_
        refine g_outv hlo (g_runV (As := [.int (nI 0), .int (nI 4)]) (rest := []) ⟨hx, hb, hml, hown, hts⟩ hK hZ hRc hRs (c_Mo_copy l D cA lo MC MS G_320 B hm A (mi (nI th) (nI S.n) (iI (r2.num.sign * t)) (iI (r2.num.sign)) (nI S.rn) (nI S.wn) kt_3 kb_4 ks_5) f_323 Rr_256 mr_327 0 (by decide) 4 (by decide) (by decide) hB1 hB2) (fun _ _ => cwV 2 hts (tb_good (tb_cons wm847 (tb_cons wm849 (tb_cons ws23 (tb_cons wm12 k_Mo_copy))))) rfl rfl rfl (by decide +kernel) ⟨by rw [hRf]; exact Nat.le_of_ble_eq_true rfl, by rw [hRl]; exact Nat.le_of_ble_eq_true rfl⟩) f_323 rfl hB1 hB2 rfl (Nat.le_of_ble_eq_true rfl) d_Mo_addOther_121) (fun G_329 B_330 p_331 => ?_)
        obtain ⟨e_332, mr_333, f_334, gf_335⟩ := p_331
        have e_332b : B = B_330 := e_332.symm
        subst e_332b
        have gf_336 : gfr mT G G_329 := mT_75 gf_325 gf_335
        have mb_337 : MB cA A S G_329 := MB_75 mb_328 gf_335
        have f_338 : G_329 hm = some (70, .inr (9, [.int (nI th), .int (nI S.n), .ref (A 2), .ref (A 3), .ref (A 4), .ref (A 5), .int (iI (r2.num.sign * t)), .int (iI (r2.num.sign)), .ref (A 8), .ref (A 9), .int (nI S.rn), .ref (A 11), .ref (A 12), .ref (A 13), .int (nI S.wn), .ref (A 15), .ref (A 16), .ref (A 17), .ref (A 18), .int kt_3, .int kb_4, .int ks_5])) := f_334
        have f_339 : G_329 (A 18) = some (83, .inl (cA 0, 8600, .inl kf_7)) := gf_335 _ _ f_324 (show ¬ ((83 : Nat) = 75 ∨ (83 : Nat) = 76) by decide)
        obtain ⟨Rr_340, hR_341⟩ : ∃ y9, y9 = (fup Rr_256 0 (Rr_256 4)) := ⟨_, rfl⟩
        rw [← hR_341] at mr_333
        have e_342 : Rr_340 2 = r2.num.natAbs := (congrFun hR_341 2).trans e_259
        have e_343 : Rr_340 3 = r2.den := (congrFun hR_341 3).trans e_260
        have e_344 : Rr_340 5 = r2.num.natAbs * r1.den := (congrFun hR_341 5).trans e_261
        have e_345 : Rr_340 6 = r1.den * r2.den := (congrFun hR_341 6).trans e_262
        have e_346 : Rr_340 1 = r1.den * r2.den := (congrFun hR_341 1).trans e_263
        have e_347 : Rr_340 4 = (r1.num.natAbs * r2.den) + (r2.num.natAbs * r1.den) := (congrFun hR_341 4).trans e_264
        have e_348 : Rr_340 0 = (r1.num.natAbs * r2.den) + (r2.num.natAbs * r1.den) := (congrFun hR_341 0).trans (e_264)
        have bd_349 : (r1.num.natAbs * r2.den) + (r2.num.natAbs * r1.den) < 1000000000 ^ (j + k + 1) := bd_265
        have fm_350 : ∀ r9, some r2 = some r9 → fc (iI (r2.num.sign)) (Rr_340 2) (Rr_340 3) r9 := by rw [show Rr_340 2 = Rr_256 2 from congrFun hR_341 2, show Rr_340 3 = Rr_256 3 from congrFun hR_341 3]; exact fm_266
        refine gs (pc' := 125) (fun _ _ _ _ _ hl => lv_aload_n hx hb d_Mo_addOther_124 rfl (lv_at hl 1 rfl)) ?_
        have fq_351 : fq (iI (r2.num.sign * t)) ((r1.num.natAbs * r2.den) + (r2.num.natAbs * r1.den)) (r1.den * r2.den) rs := ⟨hdp, r2.num.sign * t, rfl, by omega, by rw [← har]; exact congrArg (fun y9 => mkRat y9 _) (by have h9 := (ao_i (p := r1.num.natAbs * r2.den) (q := r2.num.natAbs * r1.den) (by omega) hst hz1 hz2 hI).1; rw [if_pos (show r1.num.sign = 0 by omega)] at h9; exact h9), fun e9 => by have h9 := (ao_i (p := r1.num.natAbs * r2.den) (q := r2.num.natAbs * r1.den) (by omega) hst hz1 hz2 hI).2; rw [if_pos (show r1.num.sign = 0 by omega)] at h9; exact h9 e9⟩
        refine g_outv hlo (g_runV (As := []) (rest := []) ⟨hx, hb, hml, hown, hts⟩ hK hZ hRc hRs (c_Mo_reduce l D cA lo MC MS G_329 B hm A (mi (nI th) (nI S.n) (iI (r2.num.sign * t)) (iI (r2.num.sign)) (nI S.rn) (nI S.wn) kt_3 kb_4 ks_5) f_338 Rr_340 mr_333 (by rw [e_346]; exact fq_351.1) (j + k + 1) (by rw [e_348]; exact pw_up bd_349 (by omega)) (by rw [e_346]; exact pw_up bd_114 (by omega)) (by omega) hB1 hB2) (fun _ _ => cwV 0 hts (tb_good (tb_cons wm843 (tb_cons wm845 (tb_cons ws22 (tb_cons wm12 k_Mo_reduce))))) rfl rfl rfl (by decide +kernel) ⟨by rw [hRf]; exact Nat.le_of_ble_eq_true rfl, by rw [hRl]; exact Nat.le_of_ble_eq_true rfl⟩) f_338 rfl hB1 hB2 rfl (Nat.le_of_ble_eq_true rfl) d_Mo_addOther_125) (fun G_352 B_353 p_354 => ?_)
        obtain ⟨e_355, ⟨Rr_356, mr_357, q_358, q_359, q_360, q_361⟩, f_362, gf_363⟩ := p_354
        have e_355b : B = B_353 := e_355.symm
        subst e_355b
        obtain ⟨sg_364, e_365⟩ : ∃ y9 : Int32, y9 = if Rr_340 0 = 0 then nI 0 else (iI (r2.num.sign * t)) := ⟨_, rfl⟩
        have gf_366 : gfr mT G G_352 := mT_705 gf_336 gf_363
        have mb_367 : MB cA A S G_352 := MB_705 mb_337 gf_363
        have f_368 : G_352 hm = some (70, .inr (9, [.int (nI th), .int (nI S.n), .ref (A 2), .ref (A 3), .ref (A 4), .ref (A 5), .int sg_364, .int (iI (r2.num.sign)), .ref (A 8), .ref (A 9), .int (nI S.rn), .ref (A 11), .ref (A 12), .ref (A 13), .int (nI S.wn), .ref (A 15), .ref (A 16), .ref (A 17), .ref (A 18), .int kt_3, .int kb_4, .int ks_5])) := f_362.trans (by rw [mi_if, ← e_365]; rfl)
        have f_369 : G_352 (A 18) = some (83, .inl (cA 0, 8600, .inl kf_7)) := gf_363 _ _ f_339 (show ¬ ((83 : Nat) = 70 ∨ (83 : Nat) = 75 ∨ (83 : Nat) = 76) by decide)
        have fc_370 : fc sg_364 (Rr_356 0) (Rr_356 1) rs := by rw [q_358, q_359, e_365, e_348, e_346]; exact fq_fc fq_351
        have hV_371 : MW cA hm A S th (some rs) none qk G_352 := ⟨sg_364, (iI (r2.num.sign)), kt_3, kb_4, ks_5, Rr_356, _, f_368, mr_357, f_369, (sm_ fc_370), sn_, v_13, mb_367⟩
        exact hret 128 _ _ _ d_Mo_addOther_128 hB1 hB2 ⟨rfl, hV_371, gf_366⟩
    · skip
      have nc_244 : (r2.num.sign * t) ≠ 0 := (ii_eq (a := (r2.num.sign * t)) (b := 0) (by omega) (by omega) (by omega) (by omega)).2 (by first | exact c_244 | (have z9 := c_244; simp only [nI_iI] at z9; exact z9))
      have hd2 : r2.num.sign * t ≠ 0 := by omega
      refine gs (pc' := 49) (fun _ _ _ _ _ hl => lv_aload_n hx hb d_Mo_addOther_48 rfl (lv_at hl 1 rfl)) ?_
      refine g_get hx hb hts hin_Mo hown hK f_103 rfl 6 (by decide) (hts _ wm760) (fun _ h9 => h9) rfl d_Mo_addOther_49 ?_
      refine gsb (pc1 := 83) (pc2 := 55) (fun _ _ _ _ _ => lv_if_ne (tgt := 83) hx hb d_Mo_addOther_52 (by decide)) (fun c_372 => ?_) (fun c_372 => ?_)
      · skip
        have nc_372 : r1.num.sign ≠ 0 := (ii_ne (a := r1.num.sign) (b := 0) (by omega) (by omega) (by omega) (by omega)).1 (by first | exact c_372 | (have z9 := c_372; simp only [nI_iI] at z9; exact z9))
        have hd3 : r1.num.sign ≠ 0 := by omega
        refine gs (pc' := 84) (fun _ _ _ _ _ hl => lv_aload_n hx hb d_Mo_addOther_83 rfl (lv_at hl 1 rfl)) ?_
        refine gs (pc' := 85) (fun _ _ _ _ _ hl => lv_iconst (v := nI 4) hx hb d_Mo_addOther_84 (by decide)) ?_
        refine gs (pc' := 86) (fun _ _ _ _ _ hl => lv_iconst (v := nI 5) hx hb d_Mo_addOther_85 (by decide)) ?_
        refine g_outi hlo (g_runV (As := [.int (nI 4), .int (nI 5)]) (rest := []) ⟨hx, hb, hml, hown, hts⟩ hK hZ hRc hRs (c_Mo_compare l D cA lo MC MS G_94 B hm A (mi (nI th) (nI S.n) (iI (r1.num.sign)) (iI (r2.num.sign)) (nI S.rn) (nI S.wn) kt_3 kb_4 ks_5) f_103 Rr_105 mr_98 4 (by decide) 5 (by decide) hB1 hB2) (fun _ _ => cwV 2 hts (tb_good (tb_cons wm855 (tb_cons wm857 (tb_cons ws25 (tb_cons wm12 k_Mo_compare))))) rfl rfl rfl (by decide +kernel) ⟨by rw [hRf]; exact Nat.le_of_ble_eq_true rfl, by rw [hRl]; exact Nat.le_of_ble_eq_true rfl⟩) f_103 rfl hB1 hB2 rfl (Nat.le_of_ble_eq_true rfl) d_Mo_addOther_86) (fun r_376 G_373 B_374 p_375 => ?_)
        obtain ⟨u_377, hcm⟩ := p_375
        cases u_377
        rw [e_110, e_111] at hcm
        refine gsb (pc1 := 101) (pc2 := 92) (fun _ _ _ _ _ => lv_if_lt (tgt := 101) hx hb d_Mo_addOther_89 (by decide)) (fun c_378 => ?_) (fun c_378 => ?_)
        · skip
          have hlt := cmp_lt2 hcm c_378
          have hle := Nat.le_of_lt hlt
          refine gs (pc' := 102) (fun _ _ _ _ _ hl => lv_aload_n hx hb d_Mo_addOther_101 rfl (lv_at hl 1 rfl)) ?_
          refine gs (pc' := 103) (fun _ _ _ _ _ hl => lv_iconst (v := nI 5) hx hb d_Mo_addOther_102 (by decide)) ?_
          refine gs (pc' := 104) (fun _ _ _ _ _ hl => lv_iconst (v := nI 4) hx hb d_Mo_addOther_103 (by decide)) ?_
          refine g_outv hlo (g_runV (As := [.int (nI 5), .int (nI 4)]) (rest := []) ⟨hx, hb, hml, hown, hts⟩ hK hZ hRc hRs (c_Mo_subtract l D cA lo MC MS G_94 B hm A (mi (nI th) (nI S.n) (iI (r1.num.sign)) (iI (r2.num.sign)) (nI S.rn) (nI S.wn) kt_3 kb_4 ks_5) f_103 Rr_105 mr_98 5 (by decide) 4 (by decide) (by decide) (by rw [e_111, e_110]; exact hle) hB1 hB2) (fun _ _ => cwV 2 hts (tb_good (tb_cons wm925 (tb_cons wm927 (tb_cons ws41 (tb_cons wm12 k_Mo_subtract))))) rfl rfl rfl (by decide +kernel) ⟨by rw [hRf]; exact Nat.le_of_ble_eq_true rfl, by rw [hRl]; exact Nat.le_of_ble_eq_true rfl⟩) f_103 rfl hB1 hB2 rfl (Nat.le_of_ble_eq_true rfl) d_Mo_addOther_104) (fun G_379 B_380 p_381 => ?_)
          obtain ⟨e_382, mr_383, f_384, gf_385⟩ := p_381
          have e_382b : B = B_380 := e_382.symm
          subst e_382b
          have gf_386 : gfr mT G G_379 := mT_75 gf_101 gf_385
          have mb_387 : MB cA A S G_379 := MB_75 mb_102 gf_385
          have f_388 : G_379 hm = some (70, .inr (9, [.int (nI th), .int (nI S.n), .ref (A 2), .ref (A 3), .ref (A 4), .ref (A 5), .int (iI (r1.num.sign)), .int (iI (r2.num.sign)), .ref (A 8), .ref (A 9), .int (nI S.rn), .ref (A 11), .ref (A 12), .ref (A 13), .int (nI S.wn), .ref (A 15), .ref (A 16), .ref (A 17), .ref (A 18), .int kt_3, .int kb_4, .int ks_5])) := f_384
          have f_389 : G_379 (A 18) = some (83, .inl (cA 0, 8600, .inl kf_7)) := gf_385 _ _ f_104 (show ¬ ((83 : Nat) = 75 ∨ (83 : Nat) = 76) by decide)
          obtain ⟨Rr_390, hR_391⟩ : ∃ y9, y9 = (fup Rr_105 5 (Rr_105 5 - Rr_105 4)) := ⟨_, rfl⟩
          rw [← hR_391] at mr_383
          have e_392 : Rr_390 0 = r1.num.natAbs := (congrFun hR_391 0).trans e_107
          have e_393 : Rr_390 2 = r2.num.natAbs := (congrFun hR_391 2).trans e_108
          have e_394 : Rr_390 3 = r2.den := (congrFun hR_391 3).trans e_109
          have e_395 : Rr_390 4 = r1.num.natAbs * r2.den := (congrFun hR_391 4).trans e_110
          have e_396 : Rr_390 6 = r1.den * r2.den := (congrFun hR_391 6).trans e_112
          have e_397 : Rr_390 1 = r1.den * r2.den := (congrFun hR_391 1).trans e_113
          have e_398 : Rr_390 5 = (r2.num.natAbs * r1.den) - (r1.num.natAbs * r2.den) := (congrFun hR_391 5).trans (by rw [← e_111, ← e_110]; rfl)
          have bd_399 : (r2.num.natAbs * r1.den) - (r1.num.natAbs * r2.den) < 1000000000 ^ (k + j) := Nat.lt_of_le_of_lt (Nat.sub_le _ _) bd_68
          have fm_400 : ∀ r9, some r2 = some r9 → fc (iI (r2.num.sign)) (Rr_390 2) (Rr_390 3) r9 := by rw [show Rr_390 2 = Rr_105 2 from congrFun hR_391 2, show Rr_390 3 = Rr_105 3 from congrFun hR_391 3]; exact fm_115
          refine gs (pc' := 108) (fun _ _ _ _ _ hl => lv_aload_n hx hb d_Mo_addOther_107 rfl (lv_at hl 1 rfl)) ?_
          refine gs (pc' := 109) (fun _ _ _ _ _ hl => lv_iconst (v := nI 4) hx hb d_Mo_addOther_108 (by decide)) ?_
          refine gs (pc' := 110) (fun _ _ _ _ _ hl => lv_iconst (v := nI 5) hx hb d_Mo_addOther_109 (by decide)) ?_
          refine g_outv hlo (g_runV (As := [.int (nI 4), .int (nI 5)]) (rest := []) ⟨hx, hb, hml, hown, hts⟩ hK hZ hRc hRs (c_Mo_copy l D cA lo MC MS G_379 B hm A (mi (nI th) (nI S.n) (iI (r1.num.sign)) (iI (r2.num.sign)) (nI S.rn) (nI S.wn) kt_3 kb_4 ks_5) f_388 Rr_390 mr_383 4 (by decide) 5 (by decide) (by decide) hB1 hB2) (fun _ _ => cwV 2 hts (tb_good (tb_cons wm847 (tb_cons wm849 (tb_cons ws23 (tb_cons wm12 k_Mo_copy))))) rfl rfl rfl (by decide +kernel) ⟨by rw [hRf]; exact Nat.le_of_ble_eq_true rfl, by rw [hRl]; exact Nat.le_of_ble_eq_true rfl⟩) f_388 rfl hB1 hB2 rfl (Nat.le_of_ble_eq_true rfl) d_Mo_addOther_110) (fun G_401 B_402 p_403 => ?_)
          obtain ⟨e_404, mr_405, f_406, gf_407⟩ := p_403
          have e_404b : B = B_402 := e_404.symm
          subst e_404b
          have gf_408 : gfr mT G G_401 := mT_75 gf_386 gf_407
          have mb_409 : MB cA A S G_401 := MB_75 mb_387 gf_407
          have f_410 : G_401 hm = some (70, .inr (9, [.int (nI th), .int (nI S.n), .ref (A 2), .ref (A 3), .ref (A 4), .ref (A 5), .int (iI (r1.num.sign)), .int (iI (r2.num.sign)), .ref (A 8), .ref (A 9), .int (nI S.rn), .ref (A 11), .ref (A 12), .ref (A 13), .int (nI S.wn), .ref (A 15), .ref (A 16), .ref (A 17), .ref (A 18), .int kt_3, .int kb_4, .int ks_5])) := f_406
          have f_411 : G_401 (A 18) = some (83, .inl (cA 0, 8600, .inl kf_7)) := gf_407 _ _ f_389 (show ¬ ((83 : Nat) = 75 ∨ (83 : Nat) = 76) by decide)
          obtain ⟨Rr_412, hR_413⟩ : ∃ y9, y9 = (fup Rr_390 4 (Rr_390 5)) := ⟨_, rfl⟩
          rw [← hR_413] at mr_405
          have e_414 : Rr_412 0 = r1.num.natAbs := (congrFun hR_413 0).trans e_392
          have e_415 : Rr_412 2 = r2.num.natAbs := (congrFun hR_413 2).trans e_393
          have e_416 : Rr_412 3 = r2.den := (congrFun hR_413 3).trans e_394
          have e_417 : Rr_412 6 = r1.den * r2.den := (congrFun hR_413 6).trans e_396
          have e_418 : Rr_412 1 = r1.den * r2.den := (congrFun hR_413 1).trans e_397
          have e_419 : Rr_412 5 = (r2.num.natAbs * r1.den) - (r1.num.natAbs * r2.den) := (congrFun hR_413 5).trans e_398
          have e_420 : Rr_412 4 = (r2.num.natAbs * r1.den) - (r1.num.natAbs * r2.den) := (congrFun hR_413 4).trans (e_398)
          have bd_421 : (r2.num.natAbs * r1.den) - (r1.num.natAbs * r2.den) < 1000000000 ^ (k + j) := bd_399
          have fm_422 : ∀ r9, some r2 = some r9 → fc (iI (r2.num.sign)) (Rr_412 2) (Rr_412 3) r9 := by rw [show Rr_412 2 = Rr_390 2 from congrFun hR_413 2, show Rr_412 3 = Rr_390 3 from congrFun hR_413 3]; exact fm_400
          refine gs (pc' := 114) (fun _ _ _ _ _ hl => lv_aload_n hx hb d_Mo_addOther_113 rfl (lv_at hl 1 rfl)) ?_
          refine gs (pc' := 115) (fun _ _ _ _ _ hl => lv_iload_n hx hb d_Mo_addOther_114 rfl (lv_at hl 0 rfl)) ?_
          refine g_put (ty := .int) hx hb hts hin_Mo ty_Mo ty_Mo_ok nm_Mo hown hK f_410 rfl 6 (by decide) (hts _ wm760) (fun _ h9 => h9) rfl (by decide +kernel) rfl rfl (Nat.le_of_ble_eq_true rfl) d_Mo_addOther_115 (fun G_423 f_424 o_425 => ?_)
          have f_426 : G_423 hm = some (70, .inr (9, [.int (nI th), .int (nI S.n), .ref (A 2), .ref (A 3), .ref (A 4), .ref (A 5), .int (iI (r2.num.sign * t)), .int (iI (r2.num.sign)), .ref (A 8), .ref (A 9), .int (nI S.rn), .ref (A 11), .ref (A 12), .ref (A 13), .int (nI S.wn), .ref (A 15), .ref (A 16), .ref (A 17), .ref (A 18), .int kt_3, .int kb_4, .int ks_5])) := f_424
          have f_427 : G_423 (A 18) = some (83, .inl (cA 0, 8600, .inl kf_7)) := (o_425 _ (gne f_411 f_410 (fun e => by cases e))).trans f_411
          have gf_428 : gfr mT G G_423 := gfr_put gf_408 f_410 (show mT 70 by decide) o_425
          have gf_429 : gfr (fun x => x = 70) _ G_423 := gfr_put gfr_rf f_410 rfl o_425
          have mr_430 : MR cA A Rr_412 G_423 := MR_fr mr_405 gf_429 (show ¬ (75 : Nat) = 70 by decide) (show ¬ (76 : Nat) = 70 by decide)
          have mb_431 : MB cA A S G_423 := MB_fr mb_409 gf_429 (fun x h9 => by omega)
          refine gs (pc' := 119) (fun _ _ _ _ _ hl => lv_aload_n hx hb d_Mo_addOther_118 rfl (lv_at hl 1 rfl)) ?_
          refine gs (pc' := 120) (fun _ _ _ _ _ hl => lv_iconst (v := nI 0) hx hb d_Mo_addOther_119 (by decide)) ?_
          refine gs (pc' := 121) (fun _ _ _ _ _ hl => lv_iconst (v := nI 4) hx hb d_Mo_addOther_120 (by decide)) ?_
          refine g_outv hlo (g_runV (As := [.int (nI 0), .int (nI 4)]) (rest := []) ⟨hx, hb, hml, hown, hts⟩ hK hZ hRc hRs (c_Mo_copy l D cA lo MC MS G_423 B hm A (mi (nI th) (nI S.n) (iI (r2.num.sign * t)) (iI (r2.num.sign)) (nI S.rn) (nI S.wn) kt_3 kb_4 ks_5) f_426 Rr_412 mr_430 0 (by decide) 4 (by decide) (by decide) hB1 hB2) (fun _ _ => cwV 2 hts (tb_good (tb_cons wm847 (tb_cons wm849 (tb_cons ws23 (tb_cons wm12 k_Mo_copy))))) rfl rfl rfl (by decide +kernel) ⟨by rw [hRf]; exact Nat.le_of_ble_eq_true rfl, by rw [hRl]; exact Nat.le_of_ble_eq_true rfl⟩) f_426 rfl hB1 hB2 rfl (Nat.le_of_ble_eq_true rfl) d_Mo_addOther_121) (fun G_432 B_433 p_434 => ?_)
          obtain ⟨e_435, mr_436, f_437, gf_438⟩ := p_434
          have e_435b : B = B_433 := e_435.symm
          subst e_435b
          have gf_439 : gfr mT G G_432 := mT_75 gf_428 gf_438
          have mb_440 : MB cA A S G_432 := MB_75 mb_431 gf_438
          have f_441 : G_432 hm = some (70, .inr (9, [.int (nI th), .int (nI S.n), .ref (A 2), .ref (A 3), .ref (A 4), .ref (A 5), .int (iI (r2.num.sign * t)), .int (iI (r2.num.sign)), .ref (A 8), .ref (A 9), .int (nI S.rn), .ref (A 11), .ref (A 12), .ref (A 13), .int (nI S.wn), .ref (A 15), .ref (A 16), .ref (A 17), .ref (A 18), .int kt_3, .int kb_4, .int ks_5])) := f_437
          have f_442 : G_432 (A 18) = some (83, .inl (cA 0, 8600, .inl kf_7)) := gf_438 _ _ f_427 (show ¬ ((83 : Nat) = 75 ∨ (83 : Nat) = 76) by decide)
          obtain ⟨Rr_443, hR_444⟩ : ∃ y9, y9 = (fup Rr_412 0 (Rr_412 4)) := ⟨_, rfl⟩
          rw [← hR_444] at mr_436
          have e_445 : Rr_443 2 = r2.num.natAbs := (congrFun hR_444 2).trans e_415
          have e_446 : Rr_443 3 = r2.den := (congrFun hR_444 3).trans e_416
          have e_447 : Rr_443 6 = r1.den * r2.den := (congrFun hR_444 6).trans e_417
          have e_448 : Rr_443 1 = r1.den * r2.den := (congrFun hR_444 1).trans e_418
          have e_449 : Rr_443 5 = (r2.num.natAbs * r1.den) - (r1.num.natAbs * r2.den) := (congrFun hR_444 5).trans e_419
          have e_450 : Rr_443 4 = (r2.num.natAbs * r1.den) - (r1.num.natAbs * r2.den) := (congrFun hR_444 4).trans e_420
          have e_451 : Rr_443 0 = (r2.num.natAbs * r1.den) - (r1.num.natAbs * r2.den) := (congrFun hR_444 0).trans (e_420)
          have bd_452 : (r2.num.natAbs * r1.den) - (r1.num.natAbs * r2.den) < 1000000000 ^ (k + j) := bd_421
          have fm_453 : ∀ r9, some r2 = some r9 → fc (iI (r2.num.sign)) (Rr_443 2) (Rr_443 3) r9 := by rw [show Rr_443 2 = Rr_412 2 from congrFun hR_444 2, show Rr_443 3 = Rr_412 3 from congrFun hR_444 3]; exact fm_422
          refine gs (pc' := 125) (fun _ _ _ _ _ hl => lv_aload_n hx hb d_Mo_addOther_124 rfl (lv_at hl 1 rfl)) ?_
          have fq_454 : fq (iI (r2.num.sign * t)) ((r2.num.natAbs * r1.den) - (r1.num.natAbs * r2.den)) (r1.den * r2.den) rs := ⟨hdp, r2.num.sign * t, rfl, by omega, by rw [← har]; exact congrArg (fun y9 => mkRat y9 _) ((ao_ii (by omega) hst hd1 hd2 hd3).2 hle), fun e9 => absurd e9 hd2⟩
          refine g_outv hlo (g_runV (As := []) (rest := []) ⟨hx, hb, hml, hown, hts⟩ hK hZ hRc hRs (c_Mo_reduce l D cA lo MC MS G_432 B hm A (mi (nI th) (nI S.n) (iI (r2.num.sign * t)) (iI (r2.num.sign)) (nI S.rn) (nI S.wn) kt_3 kb_4 ks_5) f_441 Rr_443 mr_436 (by rw [e_448]; exact fq_454.1) (j + k + 1) (by rw [e_451]; exact pw_up bd_452 (by omega)) (by rw [e_448]; exact pw_up bd_114 (by omega)) (by omega) hB1 hB2) (fun _ _ => cwV 0 hts (tb_good (tb_cons wm843 (tb_cons wm845 (tb_cons ws22 (tb_cons wm12 k_Mo_reduce))))) rfl rfl rfl (by decide +kernel) ⟨by rw [hRf]; exact Nat.le_of_ble_eq_true rfl, by rw [hRl]; exact Nat.le_of_ble_eq_true rfl⟩) f_441 rfl hB1 hB2 rfl (Nat.le_of_ble_eq_true rfl) d_Mo_addOther_125) (fun G_455 B_456 p_457 => ?_)
          obtain ⟨e_458, ⟨Rr_459, mr_460, q_461, q_462, q_463, q_464⟩, f_465, gf_466⟩ := p_457
          have e_458b : B = B_456 := e_458.symm
          subst e_458b
          obtain ⟨sg_467, e_468⟩ : ∃ y9 : Int32, y9 = if Rr_443 0 = 0 then nI 0 else (iI (r2.num.sign * t)) := ⟨_, rfl⟩
          have gf_469 : gfr mT G G_455 := mT_705 gf_439 gf_466
          have mb_470 : MB cA A S G_455 := MB_705 mb_440 gf_466
          have f_471 : G_455 hm = some (70, .inr (9, [.int (nI th), .int (nI S.n), .ref (A 2), .ref (A 3), .ref (A 4), .ref (A 5), .int sg_467, .int (iI (r2.num.sign)), .ref (A 8), .ref (A 9), .int (nI S.rn), .ref (A 11), .ref (A 12), .ref (A 13), .int (nI S.wn), .ref (A 15), .ref (A 16), .ref (A 17), .ref (A 18), .int kt_3, .int kb_4, .int ks_5])) := f_465.trans (by rw [mi_if, ← e_468]; rfl)
          have f_472 : G_455 (A 18) = some (83, .inl (cA 0, 8600, .inl kf_7)) := gf_466 _ _ f_442 (show ¬ ((83 : Nat) = 70 ∨ (83 : Nat) = 75 ∨ (83 : Nat) = 76) by decide)
          have fc_473 : fc sg_467 (Rr_459 0) (Rr_459 1) rs := by rw [q_461, q_462, e_468, e_451, e_448]; exact fq_fc fq_454
          have hV_474 : MW cA hm A S th (some rs) none qk G_455 := ⟨sg_467, (iI (r2.num.sign)), kt_3, kb_4, ks_5, Rr_459, _, f_471, mr_460, f_472, (sm_ fc_473), sn_, v_13, mb_470⟩
          exact hret 128 _ _ _ d_Mo_addOther_128 hB1 hB2 ⟨rfl, hV_474, gf_469⟩
        · skip
          have hge := cmp_ge2 hcm c_378
          refine gs (pc' := 93) (fun _ _ _ _ _ hl => lv_aload_n hx hb d_Mo_addOther_92 rfl (lv_at hl 1 rfl)) ?_
          refine gs (pc' := 94) (fun _ _ _ _ _ hl => lv_iconst (v := nI 4) hx hb d_Mo_addOther_93 (by decide)) ?_
          refine gs (pc' := 95) (fun _ _ _ _ _ hl => lv_iconst (v := nI 5) hx hb d_Mo_addOther_94 (by decide)) ?_
          refine g_outv hlo (g_runV (As := [.int (nI 4), .int (nI 5)]) (rest := []) ⟨hx, hb, hml, hown, hts⟩ hK hZ hRc hRs (c_Mo_subtract l D cA lo MC MS G_94 B hm A (mi (nI th) (nI S.n) (iI (r1.num.sign)) (iI (r2.num.sign)) (nI S.rn) (nI S.wn) kt_3 kb_4 ks_5) f_103 Rr_105 mr_98 4 (by decide) 5 (by decide) (by decide) (by rw [e_110, e_111]; exact hge) hB1 hB2) (fun _ _ => cwV 2 hts (tb_good (tb_cons wm925 (tb_cons wm927 (tb_cons ws41 (tb_cons wm12 k_Mo_subtract))))) rfl rfl rfl (by decide +kernel) ⟨by rw [hRf]; exact Nat.le_of_ble_eq_true rfl, by rw [hRl]; exact Nat.le_of_ble_eq_true rfl⟩) f_103 rfl hB1 hB2 rfl (Nat.le_of_ble_eq_true rfl) d_Mo_addOther_95) (fun G_475 B_476 p_477 => ?_)
          obtain ⟨e_478, mr_479, f_480, gf_481⟩ := p_477
          have e_478b : B = B_476 := e_478.symm
          subst e_478b
          have gf_482 : gfr mT G G_475 := mT_75 gf_101 gf_481
          have mb_483 : MB cA A S G_475 := MB_75 mb_102 gf_481
          have f_484 : G_475 hm = some (70, .inr (9, [.int (nI th), .int (nI S.n), .ref (A 2), .ref (A 3), .ref (A 4), .ref (A 5), .int (iI (r1.num.sign)), .int (iI (r2.num.sign)), .ref (A 8), .ref (A 9), .int (nI S.rn), .ref (A 11), .ref (A 12), .ref (A 13), .int (nI S.wn), .ref (A 15), .ref (A 16), .ref (A 17), .ref (A 18), .int kt_3, .int kb_4, .int ks_5])) := f_480
          have f_485 : G_475 (A 18) = some (83, .inl (cA 0, 8600, .inl kf_7)) := gf_481 _ _ f_104 (show ¬ ((83 : Nat) = 75 ∨ (83 : Nat) = 76) by decide)
          obtain ⟨Rr_486, hR_487⟩ : ∃ y9, y9 = (fup Rr_105 4 (Rr_105 4 - Rr_105 5)) := ⟨_, rfl⟩
          rw [← hR_487] at mr_479
          have e_488 : Rr_486 0 = r1.num.natAbs := (congrFun hR_487 0).trans e_107
          have e_489 : Rr_486 2 = r2.num.natAbs := (congrFun hR_487 2).trans e_108
          have e_490 : Rr_486 3 = r2.den := (congrFun hR_487 3).trans e_109
          have e_491 : Rr_486 5 = r2.num.natAbs * r1.den := (congrFun hR_487 5).trans e_111
          have e_492 : Rr_486 6 = r1.den * r2.den := (congrFun hR_487 6).trans e_112
          have e_493 : Rr_486 1 = r1.den * r2.den := (congrFun hR_487 1).trans e_113
          have e_494 : Rr_486 4 = (r1.num.natAbs * r2.den) - (r2.num.natAbs * r1.den) := (congrFun hR_487 4).trans (by rw [← e_110, ← e_111]; rfl)
          have bd_495 : (r1.num.natAbs * r2.den) - (r2.num.natAbs * r1.den) < 1000000000 ^ (j + k) := Nat.lt_of_le_of_lt (Nat.sub_le _ _) bd_46
          have fm_496 : ∀ r9, some r2 = some r9 → fc (iI (r2.num.sign)) (Rr_486 2) (Rr_486 3) r9 := by rw [show Rr_486 2 = Rr_105 2 from congrFun hR_487 2, show Rr_486 3 = Rr_105 3 from congrFun hR_487 3]; exact fm_115
          refine gs (pc' := 118) (fun _ _ _ _ _ hl => lv_goto (tgt := 118) hx hb d_Mo_addOther_98 (by decide)) ?_
          refine gs (pc' := 119) (fun _ _ _ _ _ hl => lv_aload_n hx hb d_Mo_addOther_118 rfl (lv_at hl 1 rfl)) ?_
          refine gs (pc' := 120) (fun _ _ _ _ _ hl => lv_iconst (v := nI 0) hx hb d_Mo_addOther_119 (by decide)) ?_
          refine gs (pc' := 121) (fun _ _ _ _ _ hl => lv_iconst (v := nI 4) hx hb d_Mo_addOther_120 (by decide)) ?_
          refine g_outv hlo (g_runV (As := [.int (nI 0), .int (nI 4)]) (rest := []) ⟨hx, hb, hml, hown, hts⟩ hK hZ hRc hRs (c_Mo_copy l D cA lo MC MS G_475 B hm A (mi (nI th) (nI S.n) (iI (r1.num.sign)) (iI (r2.num.sign)) (nI S.rn) (nI S.wn) kt_3 kb_4 ks_5) f_484 Rr_486 mr_479 0 (by decide) 4 (by decide) (by decide) hB1 hB2) (fun _ _ => cwV 2 hts (tb_good (tb_cons wm847 (tb_cons wm849 (tb_cons ws23 (tb_cons wm12 k_Mo_copy))))) rfl rfl rfl (by decide +kernel) ⟨by rw [hRf]; exact Nat.le_of_ble_eq_true rfl, by rw [hRl]; exact Nat.le_of_ble_eq_true rfl⟩) f_484 rfl hB1 hB2 rfl (Nat.le_of_ble_eq_true rfl) d_Mo_addOther_121) (fun G_497 B_498 p_499 => ?_)
          obtain ⟨e_500, mr_501, f_502, gf_503⟩ := p_499
          have e_500b : B = B_498 := e_500.symm
          subst e_500b
          have gf_504 : gfr mT G G_497 := mT_75 gf_482 gf_503
          have mb_505 : MB cA A S G_497 := MB_75 mb_483 gf_503
          have f_506 : G_497 hm = some (70, .inr (9, [.int (nI th), .int (nI S.n), .ref (A 2), .ref (A 3), .ref (A 4), .ref (A 5), .int (iI (r1.num.sign)), .int (iI (r2.num.sign)), .ref (A 8), .ref (A 9), .int (nI S.rn), .ref (A 11), .ref (A 12), .ref (A 13), .int (nI S.wn), .ref (A 15), .ref (A 16), .ref (A 17), .ref (A 18), .int kt_3, .int kb_4, .int ks_5])) := f_502
          have f_507 : G_497 (A 18) = some (83, .inl (cA 0, 8600, .inl kf_7)) := gf_503 _ _ f_485 (show ¬ ((83 : Nat) = 75 ∨ (83 : Nat) = 76) by decide)
          obtain ⟨Rr_508, hR_509⟩ : ∃ y9, y9 = (fup Rr_486 0 (Rr_486 4)) := ⟨_, rfl⟩
          rw [← hR_509] at mr_501
          have e_510 : Rr_508 2 = r2.num.natAbs := (congrFun hR_509 2).trans e_489
          have e_511 : Rr_508 3 = r2.den := (congrFun hR_509 3).trans e_490
          have e_512 : Rr_508 5 = r2.num.natAbs * r1.den := (congrFun hR_509 5).trans e_491
          have e_513 : Rr_508 6 = r1.den * r2.den := (congrFun hR_509 6).trans e_492
          have e_514 : Rr_508 1 = r1.den * r2.den := (congrFun hR_509 1).trans e_493
          have e_515 : Rr_508 4 = (r1.num.natAbs * r2.den) - (r2.num.natAbs * r1.den) := (congrFun hR_509 4).trans e_494
          have e_516 : Rr_508 0 = (r1.num.natAbs * r2.den) - (r2.num.natAbs * r1.den) := (congrFun hR_509 0).trans (e_494)
          have bd_517 : (r1.num.natAbs * r2.den) - (r2.num.natAbs * r1.den) < 1000000000 ^ (j + k) := bd_495
          have fm_518 : ∀ r9, some r2 = some r9 → fc (iI (r2.num.sign)) (Rr_508 2) (Rr_508 3) r9 := by rw [show Rr_508 2 = Rr_486 2 from congrFun hR_509 2, show Rr_508 3 = Rr_486 3 from congrFun hR_509 3]; exact fm_496
          refine gs (pc' := 125) (fun _ _ _ _ _ hl => lv_aload_n hx hb d_Mo_addOther_124 rfl (lv_at hl 1 rfl)) ?_
          have fq_519 : fq (iI (r1.num.sign)) ((r1.num.natAbs * r2.den) - (r2.num.natAbs * r1.den)) (r1.den * r2.den) rs := ⟨hdp, r1.num.sign, rfl, by omega, by rw [← har]; exact congrArg (fun y9 => mkRat y9 _) ((ao_ii (by omega) hst hd1 hd2 hd3).1 hge), fun e9 => absurd e9 hd3⟩
          refine g_outv hlo (g_runV (As := []) (rest := []) ⟨hx, hb, hml, hown, hts⟩ hK hZ hRc hRs (c_Mo_reduce l D cA lo MC MS G_497 B hm A (mi (nI th) (nI S.n) (iI (r1.num.sign)) (iI (r2.num.sign)) (nI S.rn) (nI S.wn) kt_3 kb_4 ks_5) f_506 Rr_508 mr_501 (by rw [e_514]; exact fq_519.1) (j + k + 1) (by rw [e_516]; exact pw_up bd_517 (by omega)) (by rw [e_514]; exact pw_up bd_114 (by omega)) (by omega) hB1 hB2) (fun _ _ => cwV 0 hts (tb_good (tb_cons wm843 (tb_cons wm845 (tb_cons ws22 (tb_cons wm12 k_Mo_reduce))))) rfl rfl rfl (by decide +kernel) ⟨by rw [hRf]; exact Nat.le_of_ble_eq_true rfl, by rw [hRl]; exact Nat.le_of_ble_eq_true rfl⟩) f_506 rfl hB1 hB2 rfl (Nat.le_of_ble_eq_true rfl) d_Mo_addOther_125) (fun G_520 B_521 p_522 => ?_)
          obtain ⟨e_523, ⟨Rr_524, mr_525, q_526, q_527, q_528, q_529⟩, f_530, gf_531⟩ := p_522
          have e_523b : B = B_521 := e_523.symm
          subst e_523b
          obtain ⟨sg_532, e_533⟩ : ∃ y9 : Int32, y9 = if Rr_508 0 = 0 then nI 0 else (iI (r1.num.sign)) := ⟨_, rfl⟩
          have gf_534 : gfr mT G G_520 := mT_705 gf_504 gf_531
          have mb_535 : MB cA A S G_520 := MB_705 mb_505 gf_531
          have f_536 : G_520 hm = some (70, .inr (9, [.int (nI th), .int (nI S.n), .ref (A 2), .ref (A 3), .ref (A 4), .ref (A 5), .int sg_532, .int (iI (r2.num.sign)), .ref (A 8), .ref (A 9), .int (nI S.rn), .ref (A 11), .ref (A 12), .ref (A 13), .int (nI S.wn), .ref (A 15), .ref (A 16), .ref (A 17), .ref (A 18), .int kt_3, .int kb_4, .int ks_5])) := f_530.trans (by rw [mi_if, ← e_533]; rfl)
          have f_537 : G_520 (A 18) = some (83, .inl (cA 0, 8600, .inl kf_7)) := gf_531 _ _ f_507 (show ¬ ((83 : Nat) = 70 ∨ (83 : Nat) = 75 ∨ (83 : Nat) = 76) by decide)
          have fc_538 : fc sg_532 (Rr_524 0) (Rr_524 1) rs := by rw [q_526, q_527, e_533, e_516, e_514]; exact fq_fc fq_519
          have hV_539 : MW cA hm A S th (some rs) none qk G_520 := ⟨sg_532, (iI (r2.num.sign)), kt_3, kb_4, ks_5, Rr_524, _, f_536, mr_525, f_537, (sm_ fc_538), sn_, v_13, mb_535⟩
          exact hret 128 _ _ _ d_Mo_addOther_128 hB1 hB2 ⟨rfl, hV_539, gf_534⟩
      · skip
        have nc_372 : r1.num.sign = 0 := (ii_ne (a := r1.num.sign) (b := 0) (by omega) (by omega) (by omega) (by omega)).2 (by first | exact c_372 | (have z9 := c_372; simp only [nI_iI] at z9; exact z9))
        have hI : r1.num.sign = r2.num.sign * t ∨ r2.num.sign * t = 0 ∨ r1.num.sign = 0 := Or.inr (Or.inr (by omega))
        refine gs (pc' := 56) (fun _ _ _ _ _ hl => lv_aload_n hx hb d_Mo_addOther_55 rfl (lv_at hl 1 rfl)) ?_
        refine gs (pc' := 57) (fun _ _ _ _ _ hl => lv_iconst (v := nI 4) hx hb d_Mo_addOther_56 (by decide)) ?_
        refine gs (pc' := 58) (fun _ _ _ _ _ hl => lv_iconst (v := nI 5) hx hb d_Mo_addOther_57 (by decide)) ?_
        refine g_outv hlo (g_runV (As := [.int (nI 4), .int (nI 5)]) (rest := []) ⟨hx, hb, hml, hown, hts⟩ hK hZ hRc hRs (c_Mo_plus l D cA lo MC MS G_94 B hm A (mi (nI th) (nI S.n) (iI (r1.num.sign)) (iI (r2.num.sign)) (nI S.rn) (nI S.wn) kt_3 kb_4 ks_5) f_103 Rr_105 mr_98 4 (by decide) 5 (by decide) (by decide) (j + k) (by rw [e_110]; exact pw_up bd_46 (by omega)) (by rw [e_111]; exact pw_up bd_68 (by omega)) (by omega) hB1 hB2) (fun _ _ => cwV 2 hts (tb_good (tb_cons wm917 (tb_cons wm919 (tb_cons ws39 (tb_cons wm12 k_Mo_plus))))) rfl rfl rfl (by decide +kernel) ⟨by rw [hRf]; exact Nat.le_of_ble_eq_true rfl, by rw [hRl]; exact Nat.le_of_ble_eq_true rfl⟩) f_103 rfl hB1 hB2 rfl (Nat.le_of_ble_eq_true rfl) d_Mo_addOther_58) (fun G_540 B_541 p_542 => ?_)
        obtain ⟨e_543, mr_544, f_545, gf_546⟩ := p_542
        have e_543b : B = B_541 := e_543.symm
        subst e_543b
        have gf_547 : gfr mT G G_540 := mT_75 gf_101 gf_546
        have mb_548 : MB cA A S G_540 := MB_75 mb_102 gf_546
        have f_549 : G_540 hm = some (70, .inr (9, [.int (nI th), .int (nI S.n), .ref (A 2), .ref (A 3), .ref (A 4), .ref (A 5), .int (iI (r1.num.sign)), .int (iI (r2.num.sign)), .ref (A 8), .ref (A 9), .int (nI S.rn), .ref (A 11), .ref (A 12), .ref (A 13), .int (nI S.wn), .ref (A 15), .ref (A 16), .ref (A 17), .ref (A 18), .int kt_3, .int kb_4, .int ks_5])) := f_545
        have f_550 : G_540 (A 18) = some (83, .inl (cA 0, 8600, .inl kf_7)) := gf_546 _ _ f_104 (show ¬ ((83 : Nat) = 75 ∨ (83 : Nat) = 76) by decide)
        obtain ⟨Rr_551, hR_552⟩ : ∃ y9, y9 = (fup Rr_105 4 (Rr_105 4 + Rr_105 5)) := ⟨_, rfl⟩
        rw [← hR_552] at mr_544
        have e_553 : Rr_551 0 = r1.num.natAbs := (congrFun hR_552 0).trans e_107
        have e_554 : Rr_551 2 = r2.num.natAbs := (congrFun hR_552 2).trans e_108
        have e_555 : Rr_551 3 = r2.den := (congrFun hR_552 3).trans e_109
        have e_556 : Rr_551 5 = r2.num.natAbs * r1.den := (congrFun hR_552 5).trans e_111
        have e_557 : Rr_551 6 = r1.den * r2.den := (congrFun hR_552 6).trans e_112
        have e_558 : Rr_551 1 = r1.den * r2.den := (congrFun hR_552 1).trans e_113
        have e_559 : Rr_551 4 = (r1.num.natAbs * r2.den) + (r2.num.natAbs * r1.den) := (congrFun hR_552 4).trans (by rw [← e_110, ← e_111]; rfl)
        have bd_560 : (r1.num.natAbs * r2.den) + (r2.num.natAbs * r1.den) < 1000000000 ^ (j + k + 1) := pw_add (pw_up bd_46 (by omega)) (pw_up bd_68 (by omega))
        have fm_561 : ∀ r9, some r2 = some r9 → fc (iI (r2.num.sign)) (Rr_551 2) (Rr_551 3) r9 := by rw [show Rr_551 2 = Rr_105 2 from congrFun hR_552 2, show Rr_551 3 = Rr_105 3 from congrFun hR_552 3]; exact fm_115
        refine gs (pc' := 62) (fun _ _ _ _ _ hl => lv_aload_n hx hb d_Mo_addOther_61 rfl (lv_at hl 1 rfl)) ?_
        refine gs (pc' := 63) (fun _ _ _ _ _ hl => lv_aload_n hx hb d_Mo_addOther_62 rfl (lv_at hl 1 rfl)) ?_
        refine g_get hx hb hts hin_Mo hown hK f_549 rfl 6 (by decide) (hts _ wm760) (fun _ h9 => h9) rfl d_Mo_addOther_63 ?_
        refine gsb (pc1 := 73) (pc2 := 69) (fun _ _ _ _ _ => lv_if_ne (tgt := 73) hx hb d_Mo_addOther_66 (by decide)) (fun c_562 => ?_) (fun c_562 => ?_)
        · skip
          have nc_562 : r1.num.sign ≠ 0 := (ii_ne (a := r1.num.sign) (b := 0) (by omega) (by omega) (by omega) (by omega)).1 (by first | exact c_562 | (have z9 := c_562; simp only [nI_iI] at z9; exact z9))
          refine gs (pc' := 74) (fun _ _ _ _ _ hl => lv_aload_n hx hb d_Mo_addOther_73 rfl (lv_at hl 1 rfl)) ?_
          refine g_get hx hb hts hin_Mo hown hK f_549 rfl 6 (by decide) (hts _ wm760) (fun _ h9 => h9) rfl d_Mo_addOther_74 ?_
          refine g_put (ty := .int) hx hb hts hin_Mo ty_Mo ty_Mo_ok nm_Mo hown hK f_549 rfl 6 (by decide) (hts _ wm760) (fun _ h9 => h9) rfl (by decide +kernel) rfl rfl (Nat.le_of_ble_eq_true rfl) d_Mo_addOther_77 (fun G_563 f_564 o_565 => ?_)
          have f_566 : G_563 hm = some (70, .inr (9, [.int (nI th), .int (nI S.n), .ref (A 2), .ref (A 3), .ref (A 4), .ref (A 5), .int (iI (r1.num.sign)), .int (iI (r2.num.sign)), .ref (A 8), .ref (A 9), .int (nI S.rn), .ref (A 11), .ref (A 12), .ref (A 13), .int (nI S.wn), .ref (A 15), .ref (A 16), .ref (A 17), .ref (A 18), .int kt_3, .int kb_4, .int ks_5])) := f_564
          have f_567 : G_563 (A 18) = some (83, .inl (cA 0, 8600, .inl kf_7)) := (o_565 _ (gne f_550 f_549 (fun e => by cases e))).trans f_550
          have gf_568 : gfr mT G G_563 := gfr_put gf_547 f_549 (show mT 70 by decide) o_565
          have gf_569 : gfr (fun x => x = 70) _ G_563 := gfr_put gfr_rf f_549 rfl o_565
          have mr_570 : MR cA A Rr_551 G_563 := MR_fr mr_544 gf_569 (show ¬ (75 : Nat) = 70 by decide) (show ¬ (76 : Nat) = 70 by decide)
          have mb_571 : MB cA A S G_563 := MB_fr mb_548 gf_569 (fun x h9 => by omega)
          refine gs (pc' := 118) (fun _ _ _ _ _ hl => lv_goto (tgt := 118) hx hb d_Mo_addOther_80 (by decide)) ?_
          refine gs (pc' := 119) (fun _ _ _ _ _ hl => lv_aload_n hx hb d_Mo_addOther_118 rfl (lv_at hl 1 rfl)) ?_
          refine gs (pc' := 120) (fun _ _ _ _ _ hl => lv_iconst (v := nI 0) hx hb d_Mo_addOther_119 (by decide)) ?_
          refine gs (pc' := 121) (fun _ _ _ _ _ hl => lv_iconst (v := nI 4) hx hb d_Mo_addOther_120 (by decide)) ?_
          refine g_outv hlo (g_runV (As := [.int (nI 0), .int (nI 4)]) (rest := []) ⟨hx, hb, hml, hown, hts⟩ hK hZ hRc hRs (c_Mo_copy l D cA lo MC MS G_563 B hm A (mi (nI th) (nI S.n) (iI (r1.num.sign)) (iI (r2.num.sign)) (nI S.rn) (nI S.wn) kt_3 kb_4 ks_5) f_566 Rr_551 mr_570 0 (by decide) 4 (by decide) (by decide) hB1 hB2) (fun _ _ => cwV 2 hts (tb_good (tb_cons wm847 (tb_cons wm849 (tb_cons ws23 (tb_cons wm12 k_Mo_copy))))) rfl rfl rfl (by decide +kernel) ⟨by rw [hRf]; exact Nat.le_of_ble_eq_true rfl, by rw [hRl]; exact Nat.le_of_ble_eq_true rfl⟩) f_566 rfl hB1 hB2 rfl (Nat.le_of_ble_eq_true rfl) d_Mo_addOther_121) (fun G_572 B_573 p_574 => ?_)
          obtain ⟨e_575, mr_576, f_577, gf_578⟩ := p_574
          have e_575b : B = B_573 := e_575.symm
          subst e_575b
          have gf_579 : gfr mT G G_572 := mT_75 gf_568 gf_578
          have mb_580 : MB cA A S G_572 := MB_75 mb_571 gf_578
          have f_581 : G_572 hm = some (70, .inr (9, [.int (nI th), .int (nI S.n), .ref (A 2), .ref (A 3), .ref (A 4), .ref (A 5), .int (iI (r1.num.sign)), .int (iI (r2.num.sign)), .ref (A 8), .ref (A 9), .int (nI S.rn), .ref (A 11), .ref (A 12), .ref (A 13), .int (nI S.wn), .ref (A 15), .ref (A 16), .ref (A 17), .ref (A 18), .int kt_3, .int kb_4, .int ks_5])) := f_577
          have f_582 : G_572 (A 18) = some (83, .inl (cA 0, 8600, .inl kf_7)) := gf_578 _ _ f_567 (show ¬ ((83 : Nat) = 75 ∨ (83 : Nat) = 76) by decide)
          obtain ⟨Rr_583, hR_584⟩ : ∃ y9, y9 = (fup Rr_551 0 (Rr_551 4)) := ⟨_, rfl⟩
          rw [← hR_584] at mr_576
          have e_585 : Rr_583 2 = r2.num.natAbs := (congrFun hR_584 2).trans e_554
          have e_586 : Rr_583 3 = r2.den := (congrFun hR_584 3).trans e_555
          have e_587 : Rr_583 5 = r2.num.natAbs * r1.den := (congrFun hR_584 5).trans e_556
          have e_588 : Rr_583 6 = r1.den * r2.den := (congrFun hR_584 6).trans e_557
          have e_589 : Rr_583 1 = r1.den * r2.den := (congrFun hR_584 1).trans e_558
          have e_590 : Rr_583 4 = (r1.num.natAbs * r2.den) + (r2.num.natAbs * r1.den) := (congrFun hR_584 4).trans e_559
          have e_591 : Rr_583 0 = (r1.num.natAbs * r2.den) + (r2.num.natAbs * r1.den) := (congrFun hR_584 0).trans (e_559)
          have bd_592 : (r1.num.natAbs * r2.den) + (r2.num.natAbs * r1.den) < 1000000000 ^ (j + k + 1) := bd_560
          have fm_593 : ∀ r9, some r2 = some r9 → fc (iI (r2.num.sign)) (Rr_583 2) (Rr_583 3) r9 := by rw [show Rr_583 2 = Rr_551 2 from congrFun hR_584 2, show Rr_583 3 = Rr_551 3 from congrFun hR_584 3]; exact fm_561
          refine gs (pc' := 125) (fun _ _ _ _ _ hl => lv_aload_n hx hb d_Mo_addOther_124 rfl (lv_at hl 1 rfl)) ?_
          have fq_594 : fq (iI (r1.num.sign)) ((r1.num.natAbs * r2.den) + (r2.num.natAbs * r1.den)) (r1.den * r2.den) rs := ⟨hdp, r1.num.sign, rfl, by omega, by rw [← har]; exact congrArg (fun y9 => mkRat y9 _) (by have h9 := (ao_i (p := r1.num.natAbs * r2.den) (q := r2.num.natAbs * r1.den) (by omega) hst hz1 hz2 hI).1; rw [if_neg (show ¬ r1.num.sign = 0 by omega)] at h9; exact h9), fun e9 => by have h9 := (ao_i (p := r1.num.natAbs * r2.den) (q := r2.num.natAbs * r1.den) (by omega) hst hz1 hz2 hI).2; rw [if_neg (show ¬ r1.num.sign = 0 by omega)] at h9; exact h9 e9⟩
          refine g_outv hlo (g_runV (As := []) (rest := []) ⟨hx, hb, hml, hown, hts⟩ hK hZ hRc hRs (c_Mo_reduce l D cA lo MC MS G_572 B hm A (mi (nI th) (nI S.n) (iI (r1.num.sign)) (iI (r2.num.sign)) (nI S.rn) (nI S.wn) kt_3 kb_4 ks_5) f_581 Rr_583 mr_576 (by rw [e_589]; exact fq_594.1) (j + k + 1) (by rw [e_591]; exact pw_up bd_592 (by omega)) (by rw [e_589]; exact pw_up bd_114 (by omega)) (by omega) hB1 hB2) (fun _ _ => cwV 0 hts (tb_good (tb_cons wm843 (tb_cons wm845 (tb_cons ws22 (tb_cons wm12 k_Mo_reduce))))) rfl rfl rfl (by decide +kernel) ⟨by rw [hRf]; exact Nat.le_of_ble_eq_true rfl, by rw [hRl]; exact Nat.le_of_ble_eq_true rfl⟩) f_581 rfl hB1 hB2 rfl (Nat.le_of_ble_eq_true rfl) d_Mo_addOther_125) (fun G_595 B_596 p_597 => ?_)
          obtain ⟨e_598, ⟨Rr_599, mr_600, q_601, q_602, q_603, q_604⟩, f_605, gf_606⟩ := p_597
          have e_598b : B = B_596 := e_598.symm
          subst e_598b
          obtain ⟨sg_607, e_608⟩ : ∃ y9 : Int32, y9 = if Rr_583 0 = 0 then nI 0 else (iI (r1.num.sign)) := ⟨_, rfl⟩
          have gf_609 : gfr mT G G_595 := mT_705 gf_579 gf_606
          have mb_610 : MB cA A S G_595 := MB_705 mb_580 gf_606
          have f_611 : G_595 hm = some (70, .inr (9, [.int (nI th), .int (nI S.n), .ref (A 2), .ref (A 3), .ref (A 4), .ref (A 5), .int sg_607, .int (iI (r2.num.sign)), .ref (A 8), .ref (A 9), .int (nI S.rn), .ref (A 11), .ref (A 12), .ref (A 13), .int (nI S.wn), .ref (A 15), .ref (A 16), .ref (A 17), .ref (A 18), .int kt_3, .int kb_4, .int ks_5])) := f_605.trans (by rw [mi_if, ← e_608]; rfl)
          have f_612 : G_595 (A 18) = some (83, .inl (cA 0, 8600, .inl kf_7)) := gf_606 _ _ f_582 (show ¬ ((83 : Nat) = 70 ∨ (83 : Nat) = 75 ∨ (83 : Nat) = 76) by decide)
          have fc_613 : fc sg_607 (Rr_599 0) (Rr_599 1) rs := by rw [q_601, q_602, e_608, e_591, e_589]; exact fq_fc fq_594
          have hV_614 : MW cA hm A S th (some rs) none qk G_595 := ⟨sg_607, (iI (r2.num.sign)), kt_3, kb_4, ks_5, Rr_599, _, f_611, mr_600, f_612, (sm_ fc_613), sn_, v_13, mb_610⟩
          exact hret 128 _ _ _ d_Mo_addOther_128 hB1 hB2 ⟨rfl, hV_614, gf_609⟩
        · skip
          have nc_562 : r1.num.sign = 0 := (ii_ne (a := r1.num.sign) (b := 0) (by omega) (by omega) (by omega) (by omega)).2 (by first | exact c_562 | (have z9 := c_562; simp only [nI_iI] at z9; exact z9))
          refine gs (pc' := 70) (fun _ _ _ _ _ hl => lv_iload_n hx hb d_Mo_addOther_69 rfl (lv_at hl 0 rfl)) ?_
          refine gs (pc' := 77) (fun _ _ _ _ _ hl => lv_goto (tgt := 77) hx hb d_Mo_addOther_70 (by decide)) ?_
          refine g_put (ty := .int) hx hb hts hin_Mo ty_Mo ty_Mo_ok nm_Mo hown hK f_549 rfl 6 (by decide) (hts _ wm760) (fun _ h9 => h9) rfl (by decide +kernel) rfl rfl (Nat.le_of_ble_eq_true rfl) d_Mo_addOther_77 (fun G_615 f_616 o_617 => ?_)
          have f_618 : G_615 hm = some (70, .inr (9, [.int (nI th), .int (nI S.n), .ref (A 2), .ref (A 3), .ref (A 4), .ref (A 5), .int (iI (r2.num.sign * t)), .int (iI (r2.num.sign)), .ref (A 8), .ref (A 9), .int (nI S.rn), .ref (A 11), .ref (A 12), .ref (A 13), .int (nI S.wn), .ref (A 15), .ref (A 16), .ref (A 17), .ref (A 18), .int kt_3, .int kb_4, .int ks_5])) := f_616
          have f_619 : G_615 (A 18) = some (83, .inl (cA 0, 8600, .inl kf_7)) := (o_617 _ (gne f_550 f_549 (fun e => by cases e))).trans f_550
          have gf_620 : gfr mT G G_615 := gfr_put gf_547 f_549 (show mT 70 by decide) o_617
          have gf_621 : gfr (fun x => x = 70) _ G_615 := gfr_put gfr_rf f_549 rfl o_617
          have mr_622 : MR cA A Rr_551 G_615 := MR_fr mr_544 gf_621 (show ¬ (75 : Nat) = 70 by decide) (show ¬ (76 : Nat) = 70 by decide)
          have mb_623 : MB cA A S G_615 := MB_fr mb_548 gf_621 (fun x h9 => by omega)
          refine gs (pc' := 118) (fun _ _ _ _ _ hl => lv_goto (tgt := 118) hx hb d_Mo_addOther_80 (by decide)) ?_
          refine gs (pc' := 119) (fun _ _ _ _ _ hl => lv_aload_n hx hb d_Mo_addOther_118 rfl (lv_at hl 1 rfl)) ?_
          refine gs (pc' := 120) (fun _ _ _ _ _ hl => lv_iconst (v := nI 0) hx hb d_Mo_addOther_119 (by decide)) ?_
          refine gs (pc' := 121) (fun _ _ _ _ _ hl => lv_iconst (v := nI 4) hx hb d_Mo_addOther_120 (by decide)) ?_
          refine g_outv hlo (g_runV (As := [.int (nI 0), .int (nI 4)]) (rest := []) ⟨hx, hb, hml, hown, hts⟩ hK hZ hRc hRs (c_Mo_copy l D cA lo MC MS G_615 B hm A (mi (nI th) (nI S.n) (iI (r2.num.sign * t)) (iI (r2.num.sign)) (nI S.rn) (nI S.wn) kt_3 kb_4 ks_5) f_618 Rr_551 mr_622 0 (by decide) 4 (by decide) (by decide) hB1 hB2) (fun _ _ => cwV 2 hts (tb_good (tb_cons wm847 (tb_cons wm849 (tb_cons ws23 (tb_cons wm12 k_Mo_copy))))) rfl rfl rfl (by decide +kernel) ⟨by rw [hRf]; exact Nat.le_of_ble_eq_true rfl, by rw [hRl]; exact Nat.le_of_ble_eq_true rfl⟩) f_618 rfl hB1 hB2 rfl (Nat.le_of_ble_eq_true rfl) d_Mo_addOther_121) (fun G_624 B_625 p_626 => ?_)
          obtain ⟨e_627, mr_628, f_629, gf_630⟩ := p_626
          have e_627b : B = B_625 := e_627.symm
          subst e_627b
          have gf_631 : gfr mT G G_624 := mT_75 gf_620 gf_630
          have mb_632 : MB cA A S G_624 := MB_75 mb_623 gf_630
          have f_633 : G_624 hm = some (70, .inr (9, [.int (nI th), .int (nI S.n), .ref (A 2), .ref (A 3), .ref (A 4), .ref (A 5), .int (iI (r2.num.sign * t)), .int (iI (r2.num.sign)), .ref (A 8), .ref (A 9), .int (nI S.rn), .ref (A 11), .ref (A 12), .ref (A 13), .int (nI S.wn), .ref (A 15), .ref (A 16), .ref (A 17), .ref (A 18), .int kt_3, .int kb_4, .int ks_5])) := f_629
          have f_634 : G_624 (A 18) = some (83, .inl (cA 0, 8600, .inl kf_7)) := gf_630 _ _ f_619 (show ¬ ((83 : Nat) = 75 ∨ (83 : Nat) = 76) by decide)
          obtain ⟨Rr_635, hR_636⟩ : ∃ y9, y9 = (fup Rr_551 0 (Rr_551 4)) := ⟨_, rfl⟩
          rw [← hR_636] at mr_628
          have e_637 : Rr_635 2 = r2.num.natAbs := (congrFun hR_636 2).trans e_554
          have e_638 : Rr_635 3 = r2.den := (congrFun hR_636 3).trans e_555
          have e_639 : Rr_635 5 = r2.num.natAbs * r1.den := (congrFun hR_636 5).trans e_556
          have e_640 : Rr_635 6 = r1.den * r2.den := (congrFun hR_636 6).trans e_557
          have e_641 : Rr_635 1 = r1.den * r2.den := (congrFun hR_636 1).trans e_558
          have e_642 : Rr_635 4 = (r1.num.natAbs * r2.den) + (r2.num.natAbs * r1.den) := (congrFun hR_636 4).trans e_559
          have e_643 : Rr_635 0 = (r1.num.natAbs * r2.den) + (r2.num.natAbs * r1.den) := (congrFun hR_636 0).trans (e_559)
          have bd_644 : (r1.num.natAbs * r2.den) + (r2.num.natAbs * r1.den) < 1000000000 ^ (j + k + 1) := bd_560
          have fm_645 : ∀ r9, some r2 = some r9 → fc (iI (r2.num.sign)) (Rr_635 2) (Rr_635 3) r9 := by rw [show Rr_635 2 = Rr_551 2 from congrFun hR_636 2, show Rr_635 3 = Rr_551 3 from congrFun hR_636 3]; exact fm_561
          refine gs (pc' := 125) (fun _ _ _ _ _ hl => lv_aload_n hx hb d_Mo_addOther_124 rfl (lv_at hl 1 rfl)) ?_
          have fq_646 : fq (iI (r2.num.sign * t)) ((r1.num.natAbs * r2.den) + (r2.num.natAbs * r1.den)) (r1.den * r2.den) rs := ⟨hdp, r2.num.sign * t, rfl, by omega, by rw [← har]; exact congrArg (fun y9 => mkRat y9 _) (by have h9 := (ao_i (p := r1.num.natAbs * r2.den) (q := r2.num.natAbs * r1.den) (by omega) hst hz1 hz2 hI).1; rw [if_pos (show r1.num.sign = 0 by omega)] at h9; exact h9), fun e9 => by have h9 := (ao_i (p := r1.num.natAbs * r2.den) (q := r2.num.natAbs * r1.den) (by omega) hst hz1 hz2 hI).2; rw [if_pos (show r1.num.sign = 0 by omega)] at h9; exact h9 e9⟩
          refine g_outv hlo (g_runV (As := []) (rest := []) ⟨hx, hb, hml, hown, hts⟩ hK hZ hRc hRs (c_Mo_reduce l D cA lo MC MS G_624 B hm A (mi (nI th) (nI S.n) (iI (r2.num.sign * t)) (iI (r2.num.sign)) (nI S.rn) (nI S.wn) kt_3 kb_4 ks_5) f_633 Rr_635 mr_628 (by rw [e_641]; exact fq_646.1) (j + k + 1) (by rw [e_643]; exact pw_up bd_644 (by omega)) (by rw [e_641]; exact pw_up bd_114 (by omega)) (by omega) hB1 hB2) (fun _ _ => cwV 0 hts (tb_good (tb_cons wm843 (tb_cons wm845 (tb_cons ws22 (tb_cons wm12 k_Mo_reduce))))) rfl rfl rfl (by decide +kernel) ⟨by rw [hRf]; exact Nat.le_of_ble_eq_true rfl, by rw [hRl]; exact Nat.le_of_ble_eq_true rfl⟩) f_633 rfl hB1 hB2 rfl (Nat.le_of_ble_eq_true rfl) d_Mo_addOther_125) (fun G_647 B_648 p_649 => ?_)
          obtain ⟨e_650, ⟨Rr_651, mr_652, q_653, q_654, q_655, q_656⟩, f_657, gf_658⟩ := p_649
          have e_650b : B = B_648 := e_650.symm
          subst e_650b
          obtain ⟨sg_659, e_660⟩ : ∃ y9 : Int32, y9 = if Rr_635 0 = 0 then nI 0 else (iI (r2.num.sign * t)) := ⟨_, rfl⟩
          have gf_661 : gfr mT G G_647 := mT_705 gf_631 gf_658
          have mb_662 : MB cA A S G_647 := MB_705 mb_632 gf_658
          have f_663 : G_647 hm = some (70, .inr (9, [.int (nI th), .int (nI S.n), .ref (A 2), .ref (A 3), .ref (A 4), .ref (A 5), .int sg_659, .int (iI (r2.num.sign)), .ref (A 8), .ref (A 9), .int (nI S.rn), .ref (A 11), .ref (A 12), .ref (A 13), .int (nI S.wn), .ref (A 15), .ref (A 16), .ref (A 17), .ref (A 18), .int kt_3, .int kb_4, .int ks_5])) := f_657.trans (by rw [mi_if, ← e_660]; rfl)
          have f_664 : G_647 (A 18) = some (83, .inl (cA 0, 8600, .inl kf_7)) := gf_658 _ _ f_634 (show ¬ ((83 : Nat) = 70 ∨ (83 : Nat) = 75 ∨ (83 : Nat) = 76) by decide)
          have fc_665 : fc sg_659 (Rr_651 0) (Rr_651 1) rs := by rw [q_653, q_654, e_660, e_643, e_641]; exact fq_fc fq_646
          have hV_666 : MW cA hm A S th (some rs) none qk G_647 := ⟨sg_659, (iI (r2.num.sign)), kt_3, kb_4, ks_5, Rr_651, _, f_663, mr_652, f_664, (sm_ fc_665), sn_, v_13, mb_662⟩
          exact hret 128 _ _ _ d_Mo_addOther_128 hB1 hB2 ⟨rfl, hV_666, gf_661⟩
set_option maxHeartbeats 4000000 in
set_option maxRecDepth 100000 in
theorem c_Mo_isValue (l : Launch) (D : va_G) (cA : Nat → ClassId) (lo MC MS : Nat) (G : gT) (B : Nat × Nat) (hm : Nat) (A : Nat → Nat) (S : St) (th : Nat) (qm qo qk : Option Rat) (hV : MW cA hm A S th qm qo qk G) (hW : WF S) (z : Int) (hz1 : -2147483648 ≤ z) (hz2 : z < 2147483648) (hB1 : B.1 ≤ MC) (hB2 : B.2 ≤ MS) : gMet l y_Mo_isValue w_Mo_isValue 0 0 D clS (gtys cA) lo MC MS [.ref hm, .int (iI z)] G B (gQi D clS lo (fun r9 u => u = (G, B) ∧ r9 = nI (b01 (decide (0 ≤ z ∧ z < S.n))))) := by
  refine g_metz (cc := prog_11_method_25_code) (nL := 2) (L := [(0, .ref hm), (1, .int (iI z))]) (by decide +kernel) rfl (Nat.le_of_ble_eq_true rfl) rfl ?_
  intro p e R s m args below meth c Q hF hRc hRs hRf hRl hret
  obtain ⟨hx, hb, hr, hml, hts0, hown, hlocks, hin, hK, hlo, hZ⟩ := hF
  have hts : ∀ w ∈ tbg, w.before args s = true := fun w h => hts0 w (List.mem_cons_of_mem _ h)
  have hn := hW.n
  have hrn := hW.rn
  have hwn := hW.wn
  refine gs (pc' := 1) (fun _ _ _ _ _ hl => lv_iload_n hx hb d_Mo_isValue_0 rfl (lv_at hl 1 rfl)) ?_
  refine gsb (pc1 := 16) (pc2 := 4) (fun _ _ _ _ _ => lv_if_lt (tgt := 16) hx hb d_Mo_isValue_1 (by decide)) (fun c_1 => ?_) (fun c_1 => ?_)
  · skip
    have nc_1 : z < 0 := (ii_lt (a := z) (b := 0) (by omega) (by omega) (by omega) (by omega)).1 (by first | exact c_1 | (have z9 := c_1; simp only [nI_iI] at z9; exact z9))
    have hq : ¬ (0 ≤ z ∧ z < S.n) := fun q9 => absurd q9.1 (by omega)
    refine gs (pc' := 17) (fun _ _ _ _ _ hl => lv_iconst (v := nI 0) hx hb d_Mo_isValue_16 (by decide)) ?_
    exact hret 17 _ _ _ _ d_Mo_isValue_17 hB1 hB2 (by decide) ⟨rfl, by rw [decide_eq_false hq]; rfl⟩
  · skip
    have nc_1 : z ≥ 0 := (ii_lt (a := z) (b := 0) (by omega) (by omega) (by omega) (by omega)).2 (by first | exact c_1 | (have z9 := c_1; simp only [nI_iI] at z9; exact z9))
    refine gs (pc' := 5) (fun _ _ _ _ _ hl => lv_iload_n hx hb d_Mo_isValue_4 rfl (lv_at hl 1 rfl)) ?_
    refine gs (pc' := 6) (fun _ _ _ _ _ hl => lv_aload_n hx hb d_Mo_isValue_5 rfl (lv_at hl 0 rfl)) ?_
    obtain ⟨sg_2, sh_3, kt_4, kb_5, ks_6, Rr_7, kf_8, v_9, v_10, v_11, v_12, v_13, v_14, v_15⟩ := id hV
    have f_16 : G hm = some (70, .inr (9, [.int (nI th), .int (nI S.n), .ref (A 2), .ref (A 3), .ref (A 4), .ref (A 5), .int sg_2, .int sh_3, .ref (A 8), .ref (A 9), .int (nI S.rn), .ref (A 11), .ref (A 12), .ref (A 13), .int (nI S.wn), .ref (A 15), .ref (A 16), .ref (A 17), .ref (A 18), .int kt_4, .int kb_5, .int ks_6])) := v_9
    refine g_get hx hb hts hin_Mo hown hK f_16 rfl 1 (by decide) (hts _ wm755) (fun _ h9 => h9) rfl d_Mo_isValue_6 ?_
    refine gsb (pc1 := 16) (pc2 := 12) (fun _ _ _ _ _ => lv_icmp_ge (tgt := 16) hx hb d_Mo_isValue_9 (by decide)) (fun c_17 => ?_) (fun c_17 => ?_)
    · skip
      have nc_17 : z ≥ ((S.n : Nat) : Int) := (ii_ge (a := z) (b := ((S.n : Nat) : Int)) (by omega) (by omega) (by omega) (by omega)).1 (by first | exact c_17 | (have z9 := c_17; simp only [nI_iI] at z9; exact z9))
      have hq : ¬ (0 ≤ z ∧ z < S.n) := fun q9 => absurd q9.2 (by omega)
      refine gs (pc' := 17) (fun _ _ _ _ _ hl => lv_iconst (v := nI 0) hx hb d_Mo_isValue_16 (by decide)) ?_
      exact hret 17 _ _ _ _ d_Mo_isValue_17 hB1 hB2 (by decide) ⟨rfl, by rw [decide_eq_false hq]; rfl⟩
    · skip
      have nc_17 : z < ((S.n : Nat) : Int) := (ii_ge (a := z) (b := ((S.n : Nat) : Int)) (by omega) (by omega) (by omega) (by omega)).2 (by first | exact c_17 | (have z9 := c_17; simp only [nI_iI] at z9; exact z9))
      have hq : 0 ≤ z ∧ z < S.n := ⟨by omega, by omega⟩
      refine gs (pc' := 13) (fun _ _ _ _ _ hl => lv_iconst (v := nI 1) hx hb d_Mo_isValue_12 (by decide)) ?_
      refine gs (pc' := 17) (fun _ _ _ _ _ hl => lv_goto (tgt := 17) hx hb d_Mo_isValue_13 (by decide)) ?_
      exact hret 17 _ _ _ _ d_Mo_isValue_17 hB1 hB2 (by decide) ⟨rfl, by rw [decide_eq_true hq]; rfl⟩
set_option maxHeartbeats 4000000 in
set_option maxRecDepth 100000 in
theorem c_Mo_isRow (l : Launch) (D : va_G) (cA : Nat → ClassId) (lo MC MS : Nat) (G : gT) (B : Nat × Nat) (hm : Nat) (A : Nat → Nat) (S : St) (th : Nat) (qm qo qk : Option Rat) (hV : MW cA hm A S th qm qo qk G) (hW : WF S) (z : Int) (hz1 : -2147483648 ≤ z) (hz2 : z < 2147483648) (hB1 : B.1 ≤ MC) (hB2 : B.2 ≤ MS) : gMet l y_Mo_isRow w_Mo_isRow 0 0 D clS (gtys cA) lo MC MS [.ref hm, .int (iI z)] G B (gQi D clS lo (fun r9 u => u = (G, B) ∧ r9 = nI (b01 (decide (0 ≤ z ∧ z < S.rn))))) := by
  refine g_metz (cc := prog_11_method_40_code) (nL := 2) (L := [(0, .ref hm), (1, .int (iI z))]) (by decide +kernel) rfl (Nat.le_of_ble_eq_true rfl) rfl ?_
  intro p e R s m args below meth c Q hF hRc hRs hRf hRl hret
  obtain ⟨hx, hb, hr, hml, hts0, hown, hlocks, hin, hK, hlo, hZ⟩ := hF
  have hts : ∀ w ∈ tbg, w.before args s = true := fun w h => hts0 w (List.mem_cons_of_mem _ h)
  have hn := hW.n
  have hrn := hW.rn
  have hwn := hW.wn
  refine gs (pc' := 1) (fun _ _ _ _ _ hl => lv_iload_n hx hb d_Mo_isRow_0 rfl (lv_at hl 1 rfl)) ?_
  refine gsb (pc1 := 16) (pc2 := 4) (fun _ _ _ _ _ => lv_if_lt (tgt := 16) hx hb d_Mo_isRow_1 (by decide)) (fun c_1 => ?_) (fun c_1 => ?_)
  · skip
    have nc_1 : z < 0 := (ii_lt (a := z) (b := 0) (by omega) (by omega) (by omega) (by omega)).1 (by first | exact c_1 | (have z9 := c_1; simp only [nI_iI] at z9; exact z9))
    have hq : ¬ (0 ≤ z ∧ z < S.rn) := fun q9 => absurd q9.1 (by omega)
    refine gs (pc' := 17) (fun _ _ _ _ _ hl => lv_iconst (v := nI 0) hx hb d_Mo_isRow_16 (by decide)) ?_
    exact hret 17 _ _ _ _ d_Mo_isRow_17 hB1 hB2 (by decide) ⟨rfl, by rw [decide_eq_false hq]; rfl⟩
  · skip
    have nc_1 : z ≥ 0 := (ii_lt (a := z) (b := 0) (by omega) (by omega) (by omega) (by omega)).2 (by first | exact c_1 | (have z9 := c_1; simp only [nI_iI] at z9; exact z9))
    refine gs (pc' := 5) (fun _ _ _ _ _ hl => lv_iload_n hx hb d_Mo_isRow_4 rfl (lv_at hl 1 rfl)) ?_
    refine gs (pc' := 6) (fun _ _ _ _ _ hl => lv_aload_n hx hb d_Mo_isRow_5 rfl (lv_at hl 0 rfl)) ?_
    obtain ⟨sg_2, sh_3, kt_4, kb_5, ks_6, Rr_7, kf_8, v_9, v_10, v_11, v_12, v_13, v_14, v_15⟩ := id hV
    have f_16 : G hm = some (70, .inr (9, [.int (nI th), .int (nI S.n), .ref (A 2), .ref (A 3), .ref (A 4), .ref (A 5), .int sg_2, .int sh_3, .ref (A 8), .ref (A 9), .int (nI S.rn), .ref (A 11), .ref (A 12), .ref (A 13), .int (nI S.wn), .ref (A 15), .ref (A 16), .ref (A 17), .ref (A 18), .int kt_4, .int kb_5, .int ks_6])) := v_9
    refine g_get hx hb hts hin_Mo hown hK f_16 rfl 10 (by decide) (hts _ wm764) (fun _ h9 => h9) rfl d_Mo_isRow_6 ?_
    refine gsb (pc1 := 16) (pc2 := 12) (fun _ _ _ _ _ => lv_icmp_ge (tgt := 16) hx hb d_Mo_isRow_9 (by decide)) (fun c_17 => ?_) (fun c_17 => ?_)
    · skip
      have nc_17 : z ≥ ((S.rn : Nat) : Int) := (ii_ge (a := z) (b := ((S.rn : Nat) : Int)) (by omega) (by omega) (by omega) (by omega)).1 (by first | exact c_17 | (have z9 := c_17; simp only [nI_iI] at z9; exact z9))
      have hq : ¬ (0 ≤ z ∧ z < S.rn) := fun q9 => absurd q9.2 (by omega)
      refine gs (pc' := 17) (fun _ _ _ _ _ hl => lv_iconst (v := nI 0) hx hb d_Mo_isRow_16 (by decide)) ?_
      exact hret 17 _ _ _ _ d_Mo_isRow_17 hB1 hB2 (by decide) ⟨rfl, by rw [decide_eq_false hq]; rfl⟩
    · skip
      have nc_17 : z < ((S.rn : Nat) : Int) := (ii_ge (a := z) (b := ((S.rn : Nat) : Int)) (by omega) (by omega) (by omega) (by omega)).2 (by first | exact c_17 | (have z9 := c_17; simp only [nI_iI] at z9; exact z9))
      have hq : 0 ≤ z ∧ z < S.rn := ⟨by omega, by omega⟩
      refine gs (pc' := 13) (fun _ _ _ _ _ hl => lv_iconst (v := nI 1) hx hb d_Mo_isRow_12 (by decide)) ?_
      refine gs (pc' := 17) (fun _ _ _ _ _ hl => lv_goto (tgt := 17) hx hb d_Mo_isRow_13 (by decide)) ?_
      exact hret 17 _ _ _ _ d_Mo_isRow_17 hB1 hB2 (by decide) ⟨rfl, by rw [decide_eq_true hq]; rfl⟩
set_option maxHeartbeats 4000000 in
set_option maxRecDepth 100000 in
theorem c_Mo_isUnit (l : Launch) (D : va_G) (cA : Nat → ClassId) (lo MC MS : Nat) (G : gT) (B : Nat × Nat) (z : Int) (hz1 : -2147483648 ≤ z) (hz2 : z < 2147483648) (hB1 : B.1 ≤ MC) (hB2 : B.2 ≤ MS) : gMet l y_Mo_isUnit w_Mo_isUnit 0 0 D clS (gtys cA) lo MC MS [.int (iI z)] G B (gQi D clS lo (fun r u => u = (G, B) ∧ r = nI (b01 (decide (uok z))))) := by
  refine g_metz (cc := prog_11_method_26_code) (nL := 1) (L := [(0, .int (iI z))]) (by decide +kernel) rfl (Nat.le_of_ble_eq_true rfl) rfl ?_
  intro p e R s m args below meth c Q hF hRc hRs hRf hRl hret
  obtain ⟨hx, hb, hr, hml, hts0, hown, hlocks, hin, hK, hlo, hZ⟩ := hF
  have hts : ∀ w ∈ tbg, w.before args s = true := fun w h => hts0 w (List.mem_cons_of_mem _ h)
  refine gs (pc' := 1) (fun _ _ _ _ _ hl => lv_iload_n hx hb d_Mo_isUnit_0 rfl (lv_at hl 0 rfl)) ?_
  refine gs (pc' := 3) (fun _ _ _ _ _ hl => lv_bipush (v := (-6)) hx hb d_Mo_isUnit_1 (by decide)) ?_
  refine g_eqi (show (-6) = iI (-6) from by decide) ?_
  refine gsb (pc1 := 16) (pc2 := 6) (fun _ _ _ _ _ => lv_icmp_lt (tgt := 16) hx hb d_Mo_isUnit_3 (by decide)) (fun c_1 => ?_) (fun c_1 => ?_)
  · skip
    have nc_1 : z < (-6) := (ii_lt (a := z) (b := (-6)) (by omega) (by omega) (by omega) (by omega)).1 (by first | exact c_1 | (have z9 := c_1; simp only [nI_iI] at z9; exact z9))
    have hq : ¬ uok z := fun q9 => absurd q9.1 (by omega)
    refine gs (pc' := 17) (fun _ _ _ _ _ hl => lv_iconst (v := nI 0) hx hb d_Mo_isUnit_16 (by decide)) ?_
    exact hret 17 _ _ _ _ d_Mo_isUnit_17 hB1 hB2 (by decide) ⟨rfl, by rw [decide_eq_false hq]; rfl⟩
  · skip
    have nc_1 : z ≥ (-6) := (ii_lt (a := z) (b := (-6)) (by omega) (by omega) (by omega) (by omega)).2 (by first | exact c_1 | (have z9 := c_1; simp only [nI_iI] at z9; exact z9))
    refine gs (pc' := 7) (fun _ _ _ _ _ hl => lv_iload_n hx hb d_Mo_isUnit_6 rfl (lv_at hl 0 rfl)) ?_
    refine gs (pc' := 9) (fun _ _ _ _ _ hl => lv_bipush (v := nI 6) hx hb d_Mo_isUnit_7 (by decide)) ?_
    refine gsb (pc1 := 16) (pc2 := 12) (fun _ _ _ _ _ => lv_icmp_gt (tgt := 16) hx hb d_Mo_isUnit_9 (by decide)) (fun c_2 => ?_) (fun c_2 => ?_)
    · skip
      have nc_2 : z > ((6 : Nat) : Int) := (ii_gt (a := z) (b := ((6 : Nat) : Int)) (by omega) (by omega) (by omega) (by omega)).1 (by first | exact c_2 | (have z9 := c_2; simp only [nI_iI] at z9; exact z9))
      have hq : ¬ uok z := fun q9 => absurd q9.2 (by omega)
      refine gs (pc' := 17) (fun _ _ _ _ _ hl => lv_iconst (v := nI 0) hx hb d_Mo_isUnit_16 (by decide)) ?_
      exact hret 17 _ _ _ _ d_Mo_isUnit_17 hB1 hB2 (by decide) ⟨rfl, by rw [decide_eq_false hq]; rfl⟩
    · skip
      have nc_2 : z ≤ ((6 : Nat) : Int) := (ii_gt (a := z) (b := ((6 : Nat) : Int)) (by omega) (by omega) (by omega) (by omega)).2 (by first | exact c_2 | (have z9 := c_2; simp only [nI_iI] at z9; exact z9))
      have hq : uok z := ⟨by omega, by omega⟩
      refine gs (pc' := 13) (fun _ _ _ _ _ hl => lv_iconst (v := nI 1) hx hb d_Mo_isUnit_12 (by decide)) ?_
      refine gs (pc' := 17) (fun _ _ _ _ _ hl => lv_goto (tgt := 17) hx hb d_Mo_isUnit_13 (by decide)) ?_
      exact hret 17 _ _ _ _ d_Mo_isUnit_17 hB1 hB2 (by decide) ⟨rfl, by rw [decide_eq_true hq]; rfl⟩
set_option maxHeartbeats 4000000 in
set_option maxRecDepth 100000 in
theorem c_Mo_compareValues (l : Launch) (D : va_G) (cA : Nat → ClassId) (lo MC MS : Nat) (G : gT) (B : Nat × Nat) (hm : Nat) (A : Nat → Nat) (S : St) (th : Nat) (qm qo qk : Option Rat) (hV : MW cA hm A S th qm qo qk G) (hW : WF S) (va : Nat) (hva : va < S.n) (vb : Nat) (hvb : vb < S.n) (hB1 : B.1 ≤ MC) (hB2 : B.2 ≤ MS) : gMet l y_Mo_compareValues w_Mo_compareValues 2 53 D clS (gtys cA) lo MC MS [.ref hm, .int (nI va), .int (nI vb)] G B (gQi D clS lo (fun r9 u => u.2 = B ∧ r9 = iI (rcmp (S.v va) (S.v vb)) ∧ MW cA hm A S th none none qk u.1 ∧ gfr mT G u.1)) := by
  refine g_meti (cc := prog_11_method_32_code) (nL := 3) (L := [(0, .ref hm), (1, .int (nI va)), (2, .int (nI vb))]) (by decide +kernel) rfl (Nat.le_of_ble_eq_true rfl) rfl ?_
  intro p e R s m args below meth c Q hF hRc hRs hRf hRl hret
  obtain ⟨hx, hb, hr, hml, hts0, hown, hlocks, hin, hK, hlo, hZ⟩ := hF
  have hts : ∀ w ∈ tbg, w.before args s = true := fun w h => hts0 w (List.mem_cons_of_mem _ h)
  have hn := hW.n
  have hrn := hW.rn
  have hwn := hW.wn
  have rb1 : rb (S.v va) 100 := rb_of (hW.v _ hva).1
  have rb2 : rb (S.v vb) 100 := rb_of (hW.v _ hvb).1
  refine gs (pc' := 1) (fun _ _ _ _ _ hl => lv_aload_n hx hb d_Mo_compareValues_0 rfl (lv_at hl 0 rfl)) ?_
  refine gs (pc' := 2) (fun _ _ _ _ _ hl => lv_iload_n hx hb d_Mo_compareValues_1 rfl (lv_at hl 1 rfl)) ?_
  obtain ⟨sg_1, sh_2, kt_3, kb_4, ks_5, Rr_6, kf_7, v_8, v_9, v_10, v_11, v_12, v_13, v_14⟩ := id hV
  have f_15 : G hm = some (70, .inr (9, [.int (nI th), .int (nI S.n), .ref (A 2), .ref (A 3), .ref (A 4), .ref (A 5), .int sg_1, .int sh_2, .ref (A 8), .ref (A 9), .int (nI S.rn), .ref (A 11), .ref (A 12), .ref (A 13), .int (nI S.wn), .ref (A 15), .ref (A 16), .ref (A 17), .ref (A 18), .int kt_3, .int kb_4, .int ks_5])) := v_8
  have hV_16 : MW cA hm A S th qm qo qk G := ⟨sg_1, sh_2, kt_3, kb_4, ks_5, Rr_6, _, f_15, v_9, v_10, v_11, v_12, v_13, v_14⟩
  refine g_outv hlo (g_runV (As := [.int (nI va)]) (rest := []) ⟨hx, hb, hml, hown, hts⟩ hK hZ hRc hRs (c_Mo_load l D cA lo MC MS G B hm A S th qm qo qk hV_16 hW va (by omega) hB1 hB2) (fun _ _ => cwV 1 hts (tb_good (tb_cons wm897 (tb_cons wm899 (tb_cons ws34 (tb_cons wm12 k_Mo_load))))) rfl rfl rfl (by decide +kernel) ⟨by rw [hRf]; exact Nat.le_of_ble_eq_true rfl, by rw [hRl]; exact Nat.le_of_ble_eq_true rfl⟩) f_15 rfl hB1 hB2 rfl (Nat.le_of_ble_eq_true rfl) d_Mo_compareValues_2) (fun G_17 B_18 p_19 => ?_)
  obtain ⟨e_20, hV_21, gf_22⟩ := p_19
  have e_20b : B = B_18 := e_20.symm
  subst e_20b
  have gf_23 : gfr mT G G_17 := mT_mT gfr_rf gf_22
  refine gs (pc' := 6) (fun _ _ _ _ _ hl => lv_aload_n hx hb d_Mo_compareValues_5 rfl (lv_at hl 0 rfl)) ?_
  refine gs (pc' := 7) (fun _ _ _ _ _ hl => lv_iload_n hx hb d_Mo_compareValues_6 rfl (lv_at hl 2 rfl)) ?_
  obtain ⟨sg_24, sh_25, kt_26, kb_27, ks_28, Rr_29, kf_30, v_31, v_32, v_33, v_34, v_35, v_36, v_37⟩ := id hV_21
  have f_38 : G_17 hm = some (70, .inr (9, [.int (nI th), .int (nI S.n), .ref (A 2), .ref (A 3), .ref (A 4), .ref (A 5), .int sg_24, .int sh_25, .ref (A 8), .ref (A 9), .int (nI S.rn), .ref (A 11), .ref (A 12), .ref (A 13), .int (nI S.wn), .ref (A 15), .ref (A 16), .ref (A 17), .ref (A 18), .int kt_26, .int kb_27, .int ks_28])) := v_31
  have hV_39 : MW cA hm A S th (some (S.v va)) qo qk G_17 := ⟨sg_24, sh_25, kt_26, kb_27, ks_28, Rr_29, _, f_38, v_32, v_33, v_34, v_35, v_36, v_37⟩
  refine g_outv hlo (g_runV (As := [.int (nI vb)]) (rest := []) ⟨hx, hb, hml, hown, hts⟩ hK hZ hRc hRs (c_Mo_loadOther l D cA lo MC MS G_17 B hm A S th (some (S.v va)) qo qk hV_39 hW vb (by omega) hB1 hB2) (fun _ _ => cwV 1 hts (tb_good (tb_cons wm905 (tb_cons wm907 (tb_cons ws36 (tb_cons wm12 k_Mo_loadOther))))) rfl rfl rfl (by decide +kernel) ⟨by rw [hRf]; exact Nat.le_of_ble_eq_true rfl, by rw [hRl]; exact Nat.le_of_ble_eq_true rfl⟩) f_38 rfl hB1 hB2 rfl (Nat.le_of_ble_eq_true rfl) d_Mo_compareValues_7) (fun G_40 B_41 p_42 => ?_)
  obtain ⟨e_43, hV_44, gf_45⟩ := p_42
  have e_43b : B = B_41 := e_43.symm
  subst e_43b
  have gf_46 : gfr mT G G_40 := mT_mT gf_23 gf_45
  obtain ⟨sg_47, sh_48, kt_49, kb_50, ks_51, Rr_52, kf_53, v_54, v_55, v_56, v_57, v_58, v_59, v_60⟩ := id hV_44
  have f_61 : G_40 hm = some (70, .inr (9, [.int (nI th), .int (nI S.n), .ref (A 2), .ref (A 3), .ref (A 4), .ref (A 5), .int sg_47, .int sh_48, .ref (A 8), .ref (A 9), .int (nI S.rn), .ref (A 11), .ref (A 12), .ref (A 13), .int (nI S.wn), .ref (A 15), .ref (A 16), .ref (A 17), .ref (A 18), .int kt_49, .int kb_50, .int ks_51])) := v_54
  obtain ⟨e_62, e_63, e_64⟩ := v_57 _ rfl
  have f_65 : G_40 hm = some (70, .inr (9, [.int (nI th), .int (nI S.n), .ref (A 2), .ref (A 3), .ref (A 4), .ref (A 5), .int (iI ((S.v va).num.sign)), .int sh_48, .ref (A 8), .ref (A 9), .int (nI S.rn), .ref (A 11), .ref (A 12), .ref (A 13), .int (nI S.wn), .ref (A 15), .ref (A 16), .ref (A 17), .ref (A 18), .int kt_49, .int kb_50, .int ks_51])) := by rw [← e_62]; exact f_61
  have fm_66 : ∀ r9, some (S.v va) = some r9 → fc (iI ((S.v va).num.sign)) (Rr_52 0) (Rr_52 1) r9 := by rw [← e_62]; exact v_57
  have s3_67 := sg3 (S.v va).num
  obtain ⟨e_68, e_69, e_70⟩ := v_58 _ rfl
  have f_71 : G_40 hm = some (70, .inr (9, [.int (nI th), .int (nI S.n), .ref (A 2), .ref (A 3), .ref (A 4), .ref (A 5), .int (iI ((S.v va).num.sign)), .int (iI ((S.v vb).num.sign)), .ref (A 8), .ref (A 9), .int (nI S.rn), .ref (A 11), .ref (A 12), .ref (A 13), .int (nI S.wn), .ref (A 15), .ref (A 16), .ref (A 17), .ref (A 18), .int kt_49, .int kb_50, .int ks_51])) := by rw [← e_68]; exact f_65
  have fm_72 : ∀ r9, some (S.v vb) = some r9 → fc (iI ((S.v vb).num.sign)) (Rr_52 2) (Rr_52 3) r9 := by rw [← e_68]; exact v_58
  have s3_73 := sg3 (S.v vb).num
  refine gs (pc' := 11) (fun _ _ _ _ _ hl => lv_aload_n hx hb d_Mo_compareValues_10 rfl (lv_at hl 0 rfl)) ?_
  refine g_get hx hb hts hin_Mo hown hK f_71 rfl 6 (by decide) (hts _ wm760) (fun _ h9 => h9) rfl d_Mo_compareValues_11 ?_
  refine gs (pc' := 15) (fun _ _ _ _ _ hl => lv_aload_n hx hb d_Mo_compareValues_14 rfl (lv_at hl 0 rfl)) ?_
  refine g_get hx hb hts hin_Mo hown hK f_71 rfl 7 (by decide) (hts _ wm761) (fun _ h9 => h9) rfl d_Mo_compareValues_15 ?_
  refine gsb (pc1 := 38) (pc2 := 21) (fun _ _ _ _ _ => lv_icmp_eq (tgt := 38) hx hb d_Mo_compareValues_18 (by decide)) (fun c_74 => ?_) (fun c_74 => ?_)
  · skip
    have nc_74 : ((S.v va).num.sign) = ((S.v vb).num.sign) := (ii_eq (a := ((S.v va).num.sign)) (b := ((S.v vb).num.sign)) (by omega) (by omega) (by omega) (by omega)).1 (by first | exact c_74 | (have z9 := c_74; simp only [nI_iI] at z9; exact z9))
    refine gs (pc' := 39) (fun _ _ _ _ _ hl => lv_aload_n hx hb d_Mo_compareValues_38 rfl (lv_at hl 0 rfl)) ?_
    refine gs (pc' := 40) (fun _ _ _ _ _ hl => lv_iconst (v := nI 4) hx hb d_Mo_compareValues_39 (by decide)) ?_
    refine gs (pc' := 41) (fun _ _ _ _ _ hl => lv_iconst (v := nI 0) hx hb d_Mo_compareValues_40 (by decide)) ?_
    refine gs (pc' := 42) (fun _ _ _ _ _ hl => lv_iconst (v := nI 3) hx hb d_Mo_compareValues_41 (by decide)) ?_
    refine g_outv hlo (g_runV (As := [.int (nI 4), .int (nI 0), .int (nI 3)]) (rest := []) ⟨hx, hb, hml, hown, hts⟩ hK hZ hRc hRs (c_Mo_multiply l D cA lo MC MS G_40 B hm A (mi (nI th) (nI S.n) (iI ((S.v va).num.sign)) (iI ((S.v vb).num.sign)) (nI S.rn) (nI S.wn) kt_49 kb_50 ks_51) f_71 Rr_52 v_55 4 (by decide) 0 (by decide) 3 (by decide) (by decide) (by decide) 100 100 (by rw [e_63]; exact rb1.1) (by rw [e_70]; exact rb2.2) (by omega) hB1 hB2) (fun _ _ => cwV 3 hts (tb_good (tb_cons wm913 (tb_cons wm915 (tb_cons ws38 (tb_cons wm12 k_Mo_multiply))))) rfl rfl rfl (by decide +kernel) ⟨by rw [hRf]; exact Nat.le_of_ble_eq_true rfl, by rw [hRl]; exact Nat.le_of_ble_eq_true rfl⟩) f_71 rfl hB1 hB2 rfl (Nat.le_of_ble_eq_true rfl) d_Mo_compareValues_42) (fun G_75 B_76 p_77 => ?_)
    obtain ⟨e_78, mr_79, f_80, gf_81⟩ := p_77
    have e_78b : B = B_76 := e_78.symm
    subst e_78b
    have gf_82 : gfr mT G G_75 := mT_75 gf_46 gf_81
    have mb_83 : MB cA A S G_75 := MB_75 v_60 gf_81
    have f_84 : G_75 hm = some (70, .inr (9, [.int (nI th), .int (nI S.n), .ref (A 2), .ref (A 3), .ref (A 4), .ref (A 5), .int (iI ((S.v va).num.sign)), .int (iI ((S.v vb).num.sign)), .ref (A 8), .ref (A 9), .int (nI S.rn), .ref (A 11), .ref (A 12), .ref (A 13), .int (nI S.wn), .ref (A 15), .ref (A 16), .ref (A 17), .ref (A 18), .int kt_49, .int kb_50, .int ks_51])) := f_80
    have f_85 : G_75 (A 18) = some (83, .inl (cA 0, 8600, .inl kf_53)) := gf_81 _ _ v_56 (show ¬ ((83 : Nat) = 75 ∨ (83 : Nat) = 76) by decide)
    obtain ⟨Rr_86, hR_87⟩ : ∃ y9, y9 = (fup Rr_52 4 (Rr_52 0 * Rr_52 3)) := ⟨_, rfl⟩
    rw [← hR_87] at mr_79
    have e_88 : Rr_86 0 = (S.v va).num.natAbs := (congrFun hR_87 0).trans e_63
    have e_89 : Rr_86 1 = (S.v va).den := (congrFun hR_87 1).trans e_64
    have e_90 : Rr_86 2 = (S.v vb).num.natAbs := (congrFun hR_87 2).trans e_69
    have e_91 : Rr_86 3 = (S.v vb).den := (congrFun hR_87 3).trans e_70
    have e_92 : Rr_86 4 = ((S.v va).num.natAbs) * ((S.v vb).den) := (congrFun hR_87 4).trans (by rw [← e_63, ← e_70]; rfl)
    have bd_93 : ((S.v va).num.natAbs) * ((S.v vb).den) < 1000000000 ^ (100 + 100) := pw_mul rb1.1 rb2.2
    have fm_94 : ∀ r9, some (S.v va) = some r9 → fc (iI ((S.v va).num.sign)) (Rr_86 0) (Rr_86 1) r9 := by rw [show Rr_86 0 = Rr_52 0 from congrFun hR_87 0, show Rr_86 1 = Rr_52 1 from congrFun hR_87 1]; exact fm_66
    have fm_95 : ∀ r9, some (S.v vb) = some r9 → fc (iI ((S.v vb).num.sign)) (Rr_86 2) (Rr_86 3) r9 := by rw [show Rr_86 2 = Rr_52 2 from congrFun hR_87 2, show Rr_86 3 = Rr_52 3 from congrFun hR_87 3]; exact fm_72
    refine gs (pc' := 46) (fun _ _ _ _ _ hl => lv_aload_n hx hb d_Mo_compareValues_45 rfl (lv_at hl 0 rfl)) ?_
    refine gs (pc' := 47) (fun _ _ _ _ _ hl => lv_iconst (v := nI 5) hx hb d_Mo_compareValues_46 (by decide)) ?_
    refine gs (pc' := 48) (fun _ _ _ _ _ hl => lv_iconst (v := nI 2) hx hb d_Mo_compareValues_47 (by decide)) ?_
    refine gs (pc' := 49) (fun _ _ _ _ _ hl => lv_iconst (v := nI 1) hx hb d_Mo_compareValues_48 (by decide)) ?_
    refine g_outv hlo (g_runV (As := [.int (nI 5), .int (nI 2), .int (nI 1)]) (rest := []) ⟨hx, hb, hml, hown, hts⟩ hK hZ hRc hRs (c_Mo_multiply l D cA lo MC MS G_75 B hm A (mi (nI th) (nI S.n) (iI ((S.v va).num.sign)) (iI ((S.v vb).num.sign)) (nI S.rn) (nI S.wn) kt_49 kb_50 ks_51) f_84 Rr_86 mr_79 5 (by decide) 2 (by decide) 1 (by decide) (by decide) (by decide) 100 100 (by rw [e_90]; exact rb2.1) (by rw [e_89]; exact rb1.2) (by omega) hB1 hB2) (fun _ _ => cwV 3 hts (tb_good (tb_cons wm913 (tb_cons wm915 (tb_cons ws38 (tb_cons wm12 k_Mo_multiply))))) rfl rfl rfl (by decide +kernel) ⟨by rw [hRf]; exact Nat.le_of_ble_eq_true rfl, by rw [hRl]; exact Nat.le_of_ble_eq_true rfl⟩) f_84 rfl hB1 hB2 rfl (Nat.le_of_ble_eq_true rfl) d_Mo_compareValues_49) (fun G_96 B_97 p_98 => ?_)
    obtain ⟨e_99, mr_100, f_101, gf_102⟩ := p_98
    have e_99b : B = B_97 := e_99.symm
    subst e_99b
    have gf_103 : gfr mT G G_96 := mT_75 gf_82 gf_102
    have mb_104 : MB cA A S G_96 := MB_75 mb_83 gf_102
    have f_105 : G_96 hm = some (70, .inr (9, [.int (nI th), .int (nI S.n), .ref (A 2), .ref (A 3), .ref (A 4), .ref (A 5), .int (iI ((S.v va).num.sign)), .int (iI ((S.v vb).num.sign)), .ref (A 8), .ref (A 9), .int (nI S.rn), .ref (A 11), .ref (A 12), .ref (A 13), .int (nI S.wn), .ref (A 15), .ref (A 16), .ref (A 17), .ref (A 18), .int kt_49, .int kb_50, .int ks_51])) := f_101
    have f_106 : G_96 (A 18) = some (83, .inl (cA 0, 8600, .inl kf_53)) := gf_102 _ _ f_85 (show ¬ ((83 : Nat) = 75 ∨ (83 : Nat) = 76) by decide)
    obtain ⟨Rr_107, hR_108⟩ : ∃ y9, y9 = (fup Rr_86 5 (Rr_86 2 * Rr_86 1)) := ⟨_, rfl⟩
    rw [← hR_108] at mr_100
    have e_109 : Rr_107 0 = (S.v va).num.natAbs := (congrFun hR_108 0).trans e_88
    have e_110 : Rr_107 1 = (S.v va).den := (congrFun hR_108 1).trans e_89
    have e_111 : Rr_107 2 = (S.v vb).num.natAbs := (congrFun hR_108 2).trans e_90
    have e_112 : Rr_107 3 = (S.v vb).den := (congrFun hR_108 3).trans e_91
    have e_113 : Rr_107 4 = ((S.v va).num.natAbs) * ((S.v vb).den) := (congrFun hR_108 4).trans e_92
    have e_114 : Rr_107 5 = ((S.v vb).num.natAbs) * ((S.v va).den) := (congrFun hR_108 5).trans (by rw [← e_90, ← e_89]; rfl)
    have bd_115 : ((S.v vb).num.natAbs) * ((S.v va).den) < 1000000000 ^ (100 + 100) := pw_mul rb2.1 rb1.2
    have fm_116 : ∀ r9, some (S.v va) = some r9 → fc (iI ((S.v va).num.sign)) (Rr_107 0) (Rr_107 1) r9 := by rw [show Rr_107 0 = Rr_86 0 from congrFun hR_108 0, show Rr_107 1 = Rr_86 1 from congrFun hR_108 1]; exact fm_94
    have fm_117 : ∀ r9, some (S.v vb) = some r9 → fc (iI ((S.v vb).num.sign)) (Rr_107 2) (Rr_107 3) r9 := by rw [show Rr_107 2 = Rr_86 2 from congrFun hR_108 2, show Rr_107 3 = Rr_86 3 from congrFun hR_108 3]; exact fm_95
    refine gs (pc' := 53) (fun _ _ _ _ _ hl => lv_aload_n hx hb d_Mo_compareValues_52 rfl (lv_at hl 0 rfl)) ?_
    refine g_get hx hb hts hin_Mo hown hK f_105 rfl 6 (by decide) (hts _ wm760) (fun _ h9 => h9) rfl d_Mo_compareValues_53 ?_
    refine gs (pc' := 57) (fun _ _ _ _ _ hl => lv_aload_n hx hb d_Mo_compareValues_56 rfl (lv_at hl 0 rfl)) ?_
    refine gs (pc' := 58) (fun _ _ _ _ _ hl => lv_iconst (v := nI 4) hx hb d_Mo_compareValues_57 (by decide)) ?_
    refine gs (pc' := 59) (fun _ _ _ _ _ hl => lv_iconst (v := nI 5) hx hb d_Mo_compareValues_58 (by decide)) ?_
    refine g_outi hlo (g_runV (As := [.int (nI 4), .int (nI 5)]) (rest := [.int (iI ((S.v va).num.sign))]) ⟨hx, hb, hml, hown, hts⟩ hK hZ hRc hRs (c_Mo_compare l D cA lo MC MS G_96 B hm A (mi (nI th) (nI S.n) (iI ((S.v va).num.sign)) (iI ((S.v vb).num.sign)) (nI S.rn) (nI S.wn) kt_49 kb_50 ks_51) f_105 Rr_107 mr_100 4 (by decide) 5 (by decide) hB1 hB2) (fun _ _ => cwV 2 hts (tb_good (tb_cons wm855 (tb_cons wm857 (tb_cons ws25 (tb_cons wm12 k_Mo_compare))))) rfl rfl rfl (by decide +kernel) ⟨by rw [hRf]; exact Nat.le_of_ble_eq_true rfl, by rw [hRl]; exact Nat.le_of_ble_eq_true rfl⟩) f_105 rfl hB1 hB2 rfl (Nat.le_of_ble_eq_true rfl) d_Mo_compareValues_59) (fun r_121 G_118 B_119 p_120 => ?_)
    obtain ⟨u_122, hcm⟩ := p_120
    cases u_122
    rw [e_113, e_114] at hcm
    obtain ⟨x9, hx9, hx8⟩ := cmp_i hcm
    subst hx9
    refine gs (pc' := 63) (fun _ _ _ _ _ hl => lv_imul hx hb d_Mo_compareValues_62) ?_
    refine g_eqi (show (iI ((S.v va).num.sign)) * (iI x9) = iI ((S.v va).num.sign * x9) from iI_mul _ _) ?_
    have hV_123 : MW cA hm A S th none none qk G_96 := ⟨(iI ((S.v va).num.sign)), (iI ((S.v vb).num.sign)), kt_49, kb_50, ks_51, Rr_107, _, f_105, mr_100, f_106, sn_, sn_, v_59, mb_104⟩
    exact hret 63 _ _ _ _ d_Mo_compareValues_63 hB1 hB2 ⟨rfl, by rw [rc_eq (by omega) hx8], hV_123, gf_103⟩
  · skip
    have nc_74 : ((S.v va).num.sign) ≠ ((S.v vb).num.sign) := (ii_eq (a := ((S.v va).num.sign)) (b := ((S.v vb).num.sign)) (by omega) (by omega) (by omega) (by omega)).2 (by first | exact c_74 | (have z9 := c_74; simp only [nI_iI] at z9; exact z9))
    refine gs (pc' := 22) (fun _ _ _ _ _ hl => lv_aload_n hx hb d_Mo_compareValues_21 rfl (lv_at hl 0 rfl)) ?_
    refine g_get hx hb hts hin_Mo hown hK f_71 rfl 6 (by decide) (hts _ wm760) (fun _ h9 => h9) rfl d_Mo_compareValues_22 ?_
    refine gs (pc' := 26) (fun _ _ _ _ _ hl => lv_aload_n hx hb d_Mo_compareValues_25 rfl (lv_at hl 0 rfl)) ?_
    refine g_get hx hb hts hin_Mo hown hK f_71 rfl 7 (by decide) (hts _ wm761) (fun _ h9 => h9) rfl d_Mo_compareValues_26 ?_
    refine gsb (pc1 := 36) (pc2 := 32) (fun _ _ _ _ _ => lv_icmp_ge (tgt := 36) hx hb d_Mo_compareValues_29 (by decide)) (fun c_124 => ?_) (fun c_124 => ?_)
    · skip
      have nc_124 : ((S.v va).num.sign) ≥ ((S.v vb).num.sign) := (ii_ge (a := ((S.v va).num.sign)) (b := ((S.v vb).num.sign)) (by omega) (by omega) (by omega) (by omega)).1 (by first | exact c_124 | (have z9 := c_124; simp only [nI_iI] at z9; exact z9))
      have hrc : rcmp (S.v va) (S.v vb) = 1 := by rw [rc_ne (by omega), if_neg (by omega)]
      refine gs (pc' := 37) (fun _ _ _ _ _ hl => lv_iconst (v := nI 1) hx hb d_Mo_compareValues_36 (by decide)) ?_
      have hV_125 : MW cA hm A S th none none qk G_40 := ⟨(iI ((S.v va).num.sign)), (iI ((S.v vb).num.sign)), kt_49, kb_50, ks_51, Rr_52, _, f_71, v_55, v_56, sn_, sn_, v_59, v_60⟩
      exact hret 37 _ _ _ _ d_Mo_compareValues_37 hB1 hB2 ⟨rfl, by rw [hrc] <;> rfl, hV_125, gf_46⟩
    · skip
      have nc_124 : ((S.v va).num.sign) < ((S.v vb).num.sign) := (ii_ge (a := ((S.v va).num.sign)) (b := ((S.v vb).num.sign)) (by omega) (by omega) (by omega) (by omega)).2 (by first | exact c_124 | (have z9 := c_124; simp only [nI_iI] at z9; exact z9))
      have hrc : rcmp (S.v va) (S.v vb) = -1 := by rw [rc_ne (by omega), if_pos (by omega)]
      refine gs (pc' := 33) (fun _ _ _ _ _ hl => lv_iconst (v := (-1)) hx hb d_Mo_compareValues_32 (by decide)) ?_
      refine g_eqi (show (-1) = iI (-1) from by decide) ?_
      refine gs (pc' := 37) (fun _ _ _ _ _ hl => lv_goto (tgt := 37) hx hb d_Mo_compareValues_33 (by decide)) ?_
      have hV_126 : MW cA hm A S th none none qk G_40 := ⟨(iI ((S.v va).num.sign)), (iI ((S.v vb).num.sign)), kt_49, kb_50, ks_51, Rr_52, _, f_71, v_55, v_56, sn_, sn_, v_59, v_60⟩
      exact hret 37 _ _ _ _ d_Mo_compareValues_37 hB1 hB2 ⟨rfl, by rw [hrc] <;> rfl, hV_126, gf_46⟩
set_option maxHeartbeats 4000000 in
set_option maxRecDepth 100000 in
theorem c_Mo_exchange (l : Launch) (D : va_G) (cA : Nat → ClassId) (lo MC MS : Nat) (G : gT) (B : Nat × Nat) (hm : Nat) (A : Nat → Nat) (S : St) (th : Nat) (qm qo qk : Option Rat) (hV : MW cA hm A S th qm qo qk G) (hW : WF S) (r1 r2 : Rat) (hq1 : qm = some r1) (hq2 : qo = some r2) (hB1 : B.1 ≤ MC) (hB2 : B.2 ≤ MS) : gMet l y_Mo_exchange w_Mo_exchange 1 23 D clS (gtys cA) lo MC MS [.ref hm] G B (gQv D clS lo (fun u => u.2 = B ∧ MW cA hm A S th (some r2) (some r1) qk u.1 ∧ gfr mT G u.1)) := by
  refine g_metv (cc := prog_11_method_45_code) (nL := 2) (L := [(0, .ref hm)]) (by decide +kernel) rfl (Nat.le_of_ble_eq_true rfl) rfl ?_
  intro p e R s m args below meth c Q hF hRc hRs hRf hRl hret
  obtain ⟨hx, hb, hr, hml, hts0, hown, hlocks, hin, hK, hlo, hZ⟩ := hF
  have hts : ∀ w ∈ tbg, w.before args s = true := fun w h => hts0 w (List.mem_cons_of_mem _ h)
  subst hq1
  subst hq2
  have hn := hW.n
  have hrn := hW.rn
  have hwn := hW.wn
  obtain ⟨sg_1, sh_2, kt_3, kb_4, ks_5, Rr_6, kf_7, v_8, v_9, v_10, v_11, v_12, v_13, v_14⟩ := id hV
  have f_15 : G hm = some (70, .inr (9, [.int (nI th), .int (nI S.n), .ref (A 2), .ref (A 3), .ref (A 4), .ref (A 5), .int sg_1, .int sh_2, .ref (A 8), .ref (A 9), .int (nI S.rn), .ref (A 11), .ref (A 12), .ref (A 13), .int (nI S.wn), .ref (A 15), .ref (A 16), .ref (A 17), .ref (A 18), .int kt_3, .int kb_4, .int ks_5])) := v_8
  obtain ⟨e_16, e_17, e_18⟩ := v_11 _ rfl
  have f_19 : G hm = some (70, .inr (9, [.int (nI th), .int (nI S.n), .ref (A 2), .ref (A 3), .ref (A 4), .ref (A 5), .int (iI (r1.num.sign)), .int sh_2, .ref (A 8), .ref (A 9), .int (nI S.rn), .ref (A 11), .ref (A 12), .ref (A 13), .int (nI S.wn), .ref (A 15), .ref (A 16), .ref (A 17), .ref (A 18), .int kt_3, .int kb_4, .int ks_5])) := by rw [← e_16]; exact f_15
  have fm_20 : ∀ r9, some r1 = some r9 → fc (iI (r1.num.sign)) (Rr_6 0) (Rr_6 1) r9 := by rw [← e_16]; exact v_11
  have s3_21 := sg3 r1.num
  obtain ⟨e_22, e_23, e_24⟩ := v_12 _ rfl
  have f_25 : G hm = some (70, .inr (9, [.int (nI th), .int (nI S.n), .ref (A 2), .ref (A 3), .ref (A 4), .ref (A 5), .int (iI (r1.num.sign)), .int (iI (r2.num.sign)), .ref (A 8), .ref (A 9), .int (nI S.rn), .ref (A 11), .ref (A 12), .ref (A 13), .int (nI S.wn), .ref (A 15), .ref (A 16), .ref (A 17), .ref (A 18), .int kt_3, .int kb_4, .int ks_5])) := by rw [← e_22]; exact f_19
  have fm_26 : ∀ r9, some r2 = some r9 → fc (iI (r2.num.sign)) (Rr_6 2) (Rr_6 3) r9 := by rw [← e_22]; exact v_12
  have s3_27 := sg3 r2.num
  refine gs (pc' := 1) (fun _ _ _ _ _ hl => lv_aload_n hx hb d_Mo_exchange_0 rfl (lv_at hl 0 rfl)) ?_
  refine gs (pc' := 2) (fun _ _ _ _ _ hl => lv_iconst (v := nI 4) hx hb d_Mo_exchange_1 (by decide)) ?_
  refine gs (pc' := 3) (fun _ _ _ _ _ hl => lv_iconst (v := nI 0) hx hb d_Mo_exchange_2 (by decide)) ?_
  refine g_outv hlo (g_runV (As := [.int (nI 4), .int (nI 0)]) (rest := []) ⟨hx, hb, hml, hown, hts⟩ hK hZ hRc hRs (c_Mo_copy l D cA lo MC MS G B hm A (mi (nI th) (nI S.n) (iI (r1.num.sign)) (iI (r2.num.sign)) (nI S.rn) (nI S.wn) kt_3 kb_4 ks_5) f_25 Rr_6 v_9 4 (by decide) 0 (by decide) (by decide) hB1 hB2) (fun _ _ => cwV 2 hts (tb_good (tb_cons wm847 (tb_cons wm849 (tb_cons ws23 (tb_cons wm12 k_Mo_copy))))) rfl rfl rfl (by decide +kernel) ⟨by rw [hRf]; exact Nat.le_of_ble_eq_true rfl, by rw [hRl]; exact Nat.le_of_ble_eq_true rfl⟩) f_25 rfl hB1 hB2 rfl (Nat.le_of_ble_eq_true rfl) d_Mo_exchange_3) (fun G_28 B_29 p_30 => ?_)
  obtain ⟨e_31, mr_32, f_33, gf_34⟩ := p_30
  have e_31b : B = B_29 := e_31.symm
  subst e_31b
  have gf_35 : gfr mT G G_28 := mT_75 gfr_rf gf_34
  have mb_36 : MB cA A S G_28 := MB_75 v_14 gf_34
  have f_37 : G_28 hm = some (70, .inr (9, [.int (nI th), .int (nI S.n), .ref (A 2), .ref (A 3), .ref (A 4), .ref (A 5), .int (iI (r1.num.sign)), .int (iI (r2.num.sign)), .ref (A 8), .ref (A 9), .int (nI S.rn), .ref (A 11), .ref (A 12), .ref (A 13), .int (nI S.wn), .ref (A 15), .ref (A 16), .ref (A 17), .ref (A 18), .int kt_3, .int kb_4, .int ks_5])) := f_33
  have f_38 : G_28 (A 18) = some (83, .inl (cA 0, 8600, .inl kf_7)) := gf_34 _ _ v_10 (show ¬ ((83 : Nat) = 75 ∨ (83 : Nat) = 76) by decide)
  obtain ⟨Rr_39, hR_40⟩ : ∃ y9, y9 = (fup Rr_6 4 (Rr_6 0)) := ⟨_, rfl⟩
  rw [← hR_40] at mr_32
  have e_41 : Rr_39 0 = r1.num.natAbs := (congrFun hR_40 0).trans e_17
  have e_42 : Rr_39 1 = r1.den := (congrFun hR_40 1).trans e_18
  have e_43 : Rr_39 2 = r2.num.natAbs := (congrFun hR_40 2).trans e_23
  have e_44 : Rr_39 3 = r2.den := (congrFun hR_40 3).trans e_24
  have e_45 : Rr_39 4 = r1.num.natAbs := (congrFun hR_40 4).trans (e_17)
  have fm_46 : ∀ r9, some r1 = some r9 → fc (iI (r1.num.sign)) (Rr_39 0) (Rr_39 1) r9 := by rw [show Rr_39 0 = Rr_6 0 from congrFun hR_40 0, show Rr_39 1 = Rr_6 1 from congrFun hR_40 1]; exact fm_20
  have fm_47 : ∀ r9, some r2 = some r9 → fc (iI (r2.num.sign)) (Rr_39 2) (Rr_39 3) r9 := by rw [show Rr_39 2 = Rr_6 2 from congrFun hR_40 2, show Rr_39 3 = Rr_6 3 from congrFun hR_40 3]; exact fm_26
  refine gs (pc' := 7) (fun _ _ _ _ _ hl => lv_aload_n hx hb d_Mo_exchange_6 rfl (lv_at hl 0 rfl)) ?_
  refine gs (pc' := 8) (fun _ _ _ _ _ hl => lv_iconst (v := nI 0) hx hb d_Mo_exchange_7 (by decide)) ?_
  refine gs (pc' := 9) (fun _ _ _ _ _ hl => lv_iconst (v := nI 2) hx hb d_Mo_exchange_8 (by decide)) ?_
  refine g_outv hlo (g_runV (As := [.int (nI 0), .int (nI 2)]) (rest := []) ⟨hx, hb, hml, hown, hts⟩ hK hZ hRc hRs (c_Mo_copy l D cA lo MC MS G_28 B hm A (mi (nI th) (nI S.n) (iI (r1.num.sign)) (iI (r2.num.sign)) (nI S.rn) (nI S.wn) kt_3 kb_4 ks_5) f_37 Rr_39 mr_32 0 (by decide) 2 (by decide) (by decide) hB1 hB2) (fun _ _ => cwV 2 hts (tb_good (tb_cons wm847 (tb_cons wm849 (tb_cons ws23 (tb_cons wm12 k_Mo_copy))))) rfl rfl rfl (by decide +kernel) ⟨by rw [hRf]; exact Nat.le_of_ble_eq_true rfl, by rw [hRl]; exact Nat.le_of_ble_eq_true rfl⟩) f_37 rfl hB1 hB2 rfl (Nat.le_of_ble_eq_true rfl) d_Mo_exchange_9) (fun G_48 B_49 p_50 => ?_)
  obtain ⟨e_51, mr_52, f_53, gf_54⟩ := p_50
  have e_51b : B = B_49 := e_51.symm
  subst e_51b
  have gf_55 : gfr mT G G_48 := mT_75 gf_35 gf_54
  have mb_56 : MB cA A S G_48 := MB_75 mb_36 gf_54
  have f_57 : G_48 hm = some (70, .inr (9, [.int (nI th), .int (nI S.n), .ref (A 2), .ref (A 3), .ref (A 4), .ref (A 5), .int (iI (r1.num.sign)), .int (iI (r2.num.sign)), .ref (A 8), .ref (A 9), .int (nI S.rn), .ref (A 11), .ref (A 12), .ref (A 13), .int (nI S.wn), .ref (A 15), .ref (A 16), .ref (A 17), .ref (A 18), .int kt_3, .int kb_4, .int ks_5])) := f_53
  have f_58 : G_48 (A 18) = some (83, .inl (cA 0, 8600, .inl kf_7)) := gf_54 _ _ f_38 (show ¬ ((83 : Nat) = 75 ∨ (83 : Nat) = 76) by decide)
  obtain ⟨Rr_59, hR_60⟩ : ∃ y9, y9 = (fup Rr_39 0 (Rr_39 2)) := ⟨_, rfl⟩
  rw [← hR_60] at mr_52
  have e_61 : Rr_59 1 = r1.den := (congrFun hR_60 1).trans e_42
  have e_62 : Rr_59 2 = r2.num.natAbs := (congrFun hR_60 2).trans e_43
  have e_63 : Rr_59 3 = r2.den := (congrFun hR_60 3).trans e_44
  have e_64 : Rr_59 4 = r1.num.natAbs := (congrFun hR_60 4).trans e_45
  have e_65 : Rr_59 0 = r2.num.natAbs := (congrFun hR_60 0).trans (e_43)
  have fm_66 : ∀ r9, some r2 = some r9 → fc (iI (r2.num.sign)) (Rr_59 2) (Rr_59 3) r9 := by rw [show Rr_59 2 = Rr_39 2 from congrFun hR_60 2, show Rr_59 3 = Rr_39 3 from congrFun hR_60 3]; exact fm_47
  refine gs (pc' := 13) (fun _ _ _ _ _ hl => lv_aload_n hx hb d_Mo_exchange_12 rfl (lv_at hl 0 rfl)) ?_
  refine gs (pc' := 14) (fun _ _ _ _ _ hl => lv_iconst (v := nI 2) hx hb d_Mo_exchange_13 (by decide)) ?_
  refine gs (pc' := 15) (fun _ _ _ _ _ hl => lv_iconst (v := nI 4) hx hb d_Mo_exchange_14 (by decide)) ?_
  refine g_outv hlo (g_runV (As := [.int (nI 2), .int (nI 4)]) (rest := []) ⟨hx, hb, hml, hown, hts⟩ hK hZ hRc hRs (c_Mo_copy l D cA lo MC MS G_48 B hm A (mi (nI th) (nI S.n) (iI (r1.num.sign)) (iI (r2.num.sign)) (nI S.rn) (nI S.wn) kt_3 kb_4 ks_5) f_57 Rr_59 mr_52 2 (by decide) 4 (by decide) (by decide) hB1 hB2) (fun _ _ => cwV 2 hts (tb_good (tb_cons wm847 (tb_cons wm849 (tb_cons ws23 (tb_cons wm12 k_Mo_copy))))) rfl rfl rfl (by decide +kernel) ⟨by rw [hRf]; exact Nat.le_of_ble_eq_true rfl, by rw [hRl]; exact Nat.le_of_ble_eq_true rfl⟩) f_57 rfl hB1 hB2 rfl (Nat.le_of_ble_eq_true rfl) d_Mo_exchange_15) (fun G_67 B_68 p_69 => ?_)
  obtain ⟨e_70, mr_71, f_72, gf_73⟩ := p_69
  have e_70b : B = B_68 := e_70.symm
  subst e_70b
  have gf_74 : gfr mT G G_67 := mT_75 gf_55 gf_73
  have mb_75 : MB cA A S G_67 := MB_75 mb_56 gf_73
  have f_76 : G_67 hm = some (70, .inr (9, [.int (nI th), .int (nI S.n), .ref (A 2), .ref (A 3), .ref (A 4), .ref (A 5), .int (iI (r1.num.sign)), .int (iI (r2.num.sign)), .ref (A 8), .ref (A 9), .int (nI S.rn), .ref (A 11), .ref (A 12), .ref (A 13), .int (nI S.wn), .ref (A 15), .ref (A 16), .ref (A 17), .ref (A 18), .int kt_3, .int kb_4, .int ks_5])) := f_72
  have f_77 : G_67 (A 18) = some (83, .inl (cA 0, 8600, .inl kf_7)) := gf_73 _ _ f_58 (show ¬ ((83 : Nat) = 75 ∨ (83 : Nat) = 76) by decide)
  obtain ⟨Rr_78, hR_79⟩ : ∃ y9, y9 = (fup Rr_59 2 (Rr_59 4)) := ⟨_, rfl⟩
  rw [← hR_79] at mr_71
  have e_80 : Rr_78 1 = r1.den := (congrFun hR_79 1).trans e_61
  have e_81 : Rr_78 3 = r2.den := (congrFun hR_79 3).trans e_63
  have e_82 : Rr_78 4 = r1.num.natAbs := (congrFun hR_79 4).trans e_64
  have e_83 : Rr_78 0 = r2.num.natAbs := (congrFun hR_79 0).trans e_65
  have e_84 : Rr_78 2 = r1.num.natAbs := (congrFun hR_79 2).trans (e_64)
  refine gs (pc' := 19) (fun _ _ _ _ _ hl => lv_aload_n hx hb d_Mo_exchange_18 rfl (lv_at hl 0 rfl)) ?_
  refine gs (pc' := 20) (fun _ _ _ _ _ hl => lv_iconst (v := nI 4) hx hb d_Mo_exchange_19 (by decide)) ?_
  refine gs (pc' := 21) (fun _ _ _ _ _ hl => lv_iconst (v := nI 1) hx hb d_Mo_exchange_20 (by decide)) ?_
  refine g_outv hlo (g_runV (As := [.int (nI 4), .int (nI 1)]) (rest := []) ⟨hx, hb, hml, hown, hts⟩ hK hZ hRc hRs (c_Mo_copy l D cA lo MC MS G_67 B hm A (mi (nI th) (nI S.n) (iI (r1.num.sign)) (iI (r2.num.sign)) (nI S.rn) (nI S.wn) kt_3 kb_4 ks_5) f_76 Rr_78 mr_71 4 (by decide) 1 (by decide) (by decide) hB1 hB2) (fun _ _ => cwV 2 hts (tb_good (tb_cons wm847 (tb_cons wm849 (tb_cons ws23 (tb_cons wm12 k_Mo_copy))))) rfl rfl rfl (by decide +kernel) ⟨by rw [hRf]; exact Nat.le_of_ble_eq_true rfl, by rw [hRl]; exact Nat.le_of_ble_eq_true rfl⟩) f_76 rfl hB1 hB2 rfl (Nat.le_of_ble_eq_true rfl) d_Mo_exchange_21) (fun G_85 B_86 p_87 => ?_)
  obtain ⟨e_88, mr_89, f_90, gf_91⟩ := p_87
  have e_88b : B = B_86 := e_88.symm
  subst e_88b
  have gf_92 : gfr mT G G_85 := mT_75 gf_74 gf_91
  have mb_93 : MB cA A S G_85 := MB_75 mb_75 gf_91
  have f_94 : G_85 hm = some (70, .inr (9, [.int (nI th), .int (nI S.n), .ref (A 2), .ref (A 3), .ref (A 4), .ref (A 5), .int (iI (r1.num.sign)), .int (iI (r2.num.sign)), .ref (A 8), .ref (A 9), .int (nI S.rn), .ref (A 11), .ref (A 12), .ref (A 13), .int (nI S.wn), .ref (A 15), .ref (A 16), .ref (A 17), .ref (A 18), .int kt_3, .int kb_4, .int ks_5])) := f_90
  have f_95 : G_85 (A 18) = some (83, .inl (cA 0, 8600, .inl kf_7)) := gf_91 _ _ f_77 (show ¬ ((83 : Nat) = 75 ∨ (83 : Nat) = 76) by decide)
  obtain ⟨Rr_96, hR_97⟩ : ∃ y9, y9 = (fup Rr_78 4 (Rr_78 1)) := ⟨_, rfl⟩
  rw [← hR_97] at mr_89
  have e_98 : Rr_96 1 = r1.den := (congrFun hR_97 1).trans e_80
  have e_99 : Rr_96 3 = r2.den := (congrFun hR_97 3).trans e_81
  have e_100 : Rr_96 0 = r2.num.natAbs := (congrFun hR_97 0).trans e_83
  have e_101 : Rr_96 2 = r1.num.natAbs := (congrFun hR_97 2).trans e_84
  have e_102 : Rr_96 4 = r1.den := (congrFun hR_97 4).trans (e_80)
  refine gs (pc' := 25) (fun _ _ _ _ _ hl => lv_aload_n hx hb d_Mo_exchange_24 rfl (lv_at hl 0 rfl)) ?_
  refine gs (pc' := 26) (fun _ _ _ _ _ hl => lv_iconst (v := nI 1) hx hb d_Mo_exchange_25 (by decide)) ?_
  refine gs (pc' := 27) (fun _ _ _ _ _ hl => lv_iconst (v := nI 3) hx hb d_Mo_exchange_26 (by decide)) ?_
  refine g_outv hlo (g_runV (As := [.int (nI 1), .int (nI 3)]) (rest := []) ⟨hx, hb, hml, hown, hts⟩ hK hZ hRc hRs (c_Mo_copy l D cA lo MC MS G_85 B hm A (mi (nI th) (nI S.n) (iI (r1.num.sign)) (iI (r2.num.sign)) (nI S.rn) (nI S.wn) kt_3 kb_4 ks_5) f_94 Rr_96 mr_89 1 (by decide) 3 (by decide) (by decide) hB1 hB2) (fun _ _ => cwV 2 hts (tb_good (tb_cons wm847 (tb_cons wm849 (tb_cons ws23 (tb_cons wm12 k_Mo_copy))))) rfl rfl rfl (by decide +kernel) ⟨by rw [hRf]; exact Nat.le_of_ble_eq_true rfl, by rw [hRl]; exact Nat.le_of_ble_eq_true rfl⟩) f_94 rfl hB1 hB2 rfl (Nat.le_of_ble_eq_true rfl) d_Mo_exchange_27) (fun G_103 B_104 p_105 => ?_)
  obtain ⟨e_106, mr_107, f_108, gf_109⟩ := p_105
  have e_106b : B = B_104 := e_106.symm
  subst e_106b
  have gf_110 : gfr mT G G_103 := mT_75 gf_92 gf_109
  have mb_111 : MB cA A S G_103 := MB_75 mb_93 gf_109
  have f_112 : G_103 hm = some (70, .inr (9, [.int (nI th), .int (nI S.n), .ref (A 2), .ref (A 3), .ref (A 4), .ref (A 5), .int (iI (r1.num.sign)), .int (iI (r2.num.sign)), .ref (A 8), .ref (A 9), .int (nI S.rn), .ref (A 11), .ref (A 12), .ref (A 13), .int (nI S.wn), .ref (A 15), .ref (A 16), .ref (A 17), .ref (A 18), .int kt_3, .int kb_4, .int ks_5])) := f_108
  have f_113 : G_103 (A 18) = some (83, .inl (cA 0, 8600, .inl kf_7)) := gf_109 _ _ f_95 (show ¬ ((83 : Nat) = 75 ∨ (83 : Nat) = 76) by decide)
  obtain ⟨Rr_114, hR_115⟩ : ∃ y9, y9 = (fup Rr_96 1 (Rr_96 3)) := ⟨_, rfl⟩
  rw [← hR_115] at mr_107
  have e_116 : Rr_114 3 = r2.den := (congrFun hR_115 3).trans e_99
  have e_117 : Rr_114 0 = r2.num.natAbs := (congrFun hR_115 0).trans e_100
  have e_118 : Rr_114 2 = r1.num.natAbs := (congrFun hR_115 2).trans e_101
  have e_119 : Rr_114 4 = r1.den := (congrFun hR_115 4).trans e_102
  have e_120 : Rr_114 1 = r2.den := (congrFun hR_115 1).trans (e_99)
  refine gs (pc' := 31) (fun _ _ _ _ _ hl => lv_aload_n hx hb d_Mo_exchange_30 rfl (lv_at hl 0 rfl)) ?_
  refine gs (pc' := 32) (fun _ _ _ _ _ hl => lv_iconst (v := nI 3) hx hb d_Mo_exchange_31 (by decide)) ?_
  refine gs (pc' := 33) (fun _ _ _ _ _ hl => lv_iconst (v := nI 4) hx hb d_Mo_exchange_32 (by decide)) ?_
  refine g_outv hlo (g_runV (As := [.int (nI 3), .int (nI 4)]) (rest := []) ⟨hx, hb, hml, hown, hts⟩ hK hZ hRc hRs (c_Mo_copy l D cA lo MC MS G_103 B hm A (mi (nI th) (nI S.n) (iI (r1.num.sign)) (iI (r2.num.sign)) (nI S.rn) (nI S.wn) kt_3 kb_4 ks_5) f_112 Rr_114 mr_107 3 (by decide) 4 (by decide) (by decide) hB1 hB2) (fun _ _ => cwV 2 hts (tb_good (tb_cons wm847 (tb_cons wm849 (tb_cons ws23 (tb_cons wm12 k_Mo_copy))))) rfl rfl rfl (by decide +kernel) ⟨by rw [hRf]; exact Nat.le_of_ble_eq_true rfl, by rw [hRl]; exact Nat.le_of_ble_eq_true rfl⟩) f_112 rfl hB1 hB2 rfl (Nat.le_of_ble_eq_true rfl) d_Mo_exchange_33) (fun G_121 B_122 p_123 => ?_)
  obtain ⟨e_124, mr_125, f_126, gf_127⟩ := p_123
  have e_124b : B = B_122 := e_124.symm
  subst e_124b
  have gf_128 : gfr mT G G_121 := mT_75 gf_110 gf_127
  have mb_129 : MB cA A S G_121 := MB_75 mb_111 gf_127
  have f_130 : G_121 hm = some (70, .inr (9, [.int (nI th), .int (nI S.n), .ref (A 2), .ref (A 3), .ref (A 4), .ref (A 5), .int (iI (r1.num.sign)), .int (iI (r2.num.sign)), .ref (A 8), .ref (A 9), .int (nI S.rn), .ref (A 11), .ref (A 12), .ref (A 13), .int (nI S.wn), .ref (A 15), .ref (A 16), .ref (A 17), .ref (A 18), .int kt_3, .int kb_4, .int ks_5])) := f_126
  have f_131 : G_121 (A 18) = some (83, .inl (cA 0, 8600, .inl kf_7)) := gf_127 _ _ f_113 (show ¬ ((83 : Nat) = 75 ∨ (83 : Nat) = 76) by decide)
  obtain ⟨Rr_132, hR_133⟩ : ∃ y9, y9 = (fup Rr_114 3 (Rr_114 4)) := ⟨_, rfl⟩
  rw [← hR_133] at mr_125
  have e_134 : Rr_132 0 = r2.num.natAbs := (congrFun hR_133 0).trans e_117
  have e_135 : Rr_132 2 = r1.num.natAbs := (congrFun hR_133 2).trans e_118
  have e_136 : Rr_132 4 = r1.den := (congrFun hR_133 4).trans e_119
  have e_137 : Rr_132 1 = r2.den := (congrFun hR_133 1).trans e_120
  have e_138 : Rr_132 3 = r1.den := (congrFun hR_133 3).trans (e_119)
  refine gs (pc' := 37) (fun _ _ _ _ _ hl => lv_aload_n hx hb d_Mo_exchange_36 rfl (lv_at hl 0 rfl)) ?_
  refine g_get hx hb hts hin_Mo hown hK f_130 rfl 6 (by decide) (hts _ wm760) (fun _ h9 => h9) rfl d_Mo_exchange_37 ?_
  refine gst (pc' := 41) (L' := [(1, .int (iI (r1.num.sign))), (0, .ref hm)]) (fun _ _ _ _ _ hl => lv_istore_n hx hb d_Mo_exchange_40 rfl hl (by decide) rfl) ?_
  refine gs (pc' := 42) (fun _ _ _ _ _ hl => lv_aload_n hx hb d_Mo_exchange_41 rfl (lv_at hl 1 rfl)) ?_
  refine gs (pc' := 43) (fun _ _ _ _ _ hl => lv_aload_n hx hb d_Mo_exchange_42 rfl (lv_at hl 1 rfl)) ?_
  refine g_get hx hb hts hin_Mo hown hK f_130 rfl 7 (by decide) (hts _ wm761) (fun _ h9 => h9) rfl d_Mo_exchange_43 ?_
  refine g_put (ty := .int) hx hb hts hin_Mo ty_Mo ty_Mo_ok nm_Mo hown hK f_130 rfl 6 (by decide) (hts _ wm760) (fun _ h9 => h9) rfl (by decide +kernel) rfl rfl (Nat.le_of_ble_eq_true rfl) d_Mo_exchange_46 (fun G_139 f_140 o_141 => ?_)
  have f_142 : G_139 hm = some (70, .inr (9, [.int (nI th), .int (nI S.n), .ref (A 2), .ref (A 3), .ref (A 4), .ref (A 5), .int (iI (r2.num.sign)), .int (iI (r2.num.sign)), .ref (A 8), .ref (A 9), .int (nI S.rn), .ref (A 11), .ref (A 12), .ref (A 13), .int (nI S.wn), .ref (A 15), .ref (A 16), .ref (A 17), .ref (A 18), .int kt_3, .int kb_4, .int ks_5])) := f_140
  have f_143 : G_139 (A 18) = some (83, .inl (cA 0, 8600, .inl kf_7)) := (o_141 _ (gne f_131 f_130 (fun e => by cases e))).trans f_131
  have gf_144 : gfr mT G G_139 := gfr_put gf_128 f_130 (show mT 70 by decide) o_141
  have gf_145 : gfr (fun x => x = 70) _ G_139 := gfr_put gfr_rf f_130 rfl o_141
  have mr_146 : MR cA A Rr_132 G_139 := MR_fr mr_125 gf_145 (show ¬ (75 : Nat) = 70 by decide) (show ¬ (76 : Nat) = 70 by decide)
  have mb_147 : MB cA A S G_139 := MB_fr mb_129 gf_145 (fun x h9 => by omega)
  refine gs (pc' := 50) (fun _ _ _ _ _ hl => lv_aload_n hx hb d_Mo_exchange_49 rfl (lv_at hl 1 rfl)) ?_
  refine gs (pc' := 51) (fun _ _ _ _ _ hl => lv_iload_n hx hb d_Mo_exchange_50 rfl (lv_at hl 0 rfl)) ?_
  refine g_put (ty := .int) hx hb hts hin_Mo ty_Mo ty_Mo_ok nm_Mo hown hK f_142 rfl 7 (by decide) (hts _ wm761) (fun _ h9 => h9) rfl (by decide +kernel) rfl rfl (Nat.le_of_ble_eq_true rfl) d_Mo_exchange_51 (fun G_148 f_149 o_150 => ?_)
  have f_151 : G_148 hm = some (70, .inr (9, [.int (nI th), .int (nI S.n), .ref (A 2), .ref (A 3), .ref (A 4), .ref (A 5), .int (iI (r2.num.sign)), .int (iI (r1.num.sign)), .ref (A 8), .ref (A 9), .int (nI S.rn), .ref (A 11), .ref (A 12), .ref (A 13), .int (nI S.wn), .ref (A 15), .ref (A 16), .ref (A 17), .ref (A 18), .int kt_3, .int kb_4, .int ks_5])) := f_149
  have f_152 : G_148 (A 18) = some (83, .inl (cA 0, 8600, .inl kf_7)) := (o_150 _ (gne f_143 f_142 (fun e => by cases e))).trans f_143
  have gf_153 : gfr mT G G_148 := gfr_put gf_144 f_142 (show mT 70 by decide) o_150
  have gf_154 : gfr (fun x => x = 70) _ G_148 := gfr_put gfr_rf f_142 rfl o_150
  have mr_155 : MR cA A Rr_132 G_148 := MR_fr mr_146 gf_154 (show ¬ (75 : Nat) = 70 by decide) (show ¬ (76 : Nat) = 70 by decide)
  have mb_156 : MB cA A S G_148 := MB_fr mb_147 gf_154 (fun x h9 => by omega)
  have hV_157 : MW cA hm A S th (some r2) (some r1) qk G_148 := ⟨(iI (r2.num.sign)), (iI (r1.num.sign)), kt_3, kb_4, ks_5, Rr_132, _, f_151, mr_155, f_152, (sm_ ⟨rfl, e_134, e_137⟩), (sm_ ⟨rfl, e_135, e_138⟩), v_13, mb_156⟩
  exact hret 54 _ _ _ d_Mo_exchange_54 hB1 hB2 ⟨rfl, hV_157, gf_153⟩
