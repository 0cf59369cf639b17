set_option maxHeartbeats 4000000 in
set_option maxRecDepth 100000 in
theorem c_Mo_setSize (l : Launch) (D : va_G) (cA : Nat → ClassId) (lo MC MS : Nat) (G : gT) (B : Nat × Nat) (hm : Nat) (A : Nat → Nat) (I : Nat → Int32) (hob : G hm = some (70, .inr (9, mfs A I))) (Rg : Nat → Nat) (hR : MR cA A Rg G) (r : Nat) (hb_r : r < 9) (x : Int) (hx1 : -9223372036854775808 ≤ x) (hx2 : x < 9223372036854775808) (hB1 : B.1 ≤ MC) (hB2 : B.2 ≤ MS) : gMet l y_Mo_setSize w_Mo_setSize 1 25 D clS (gtys cA) lo MC MS [.ref hm, .int (nI r), .long (lI x)] G B (gQv D clS lo (fun u => u.2 = B ∧ MR cA A (fup Rg r (x.natAbs)) u.1 ∧ u.1 hm = some (70, .inr (9, mfs A I)) ∧ gfr (fun x => x = 75 ∨ x = 76) G u.1)) := by
  refine g_metv (cc := prog_11_method_27_code) (nL := 4) (L := [(0, .ref hm), (1, .int (nI r)), (2, .long (lI x))]) (by decide +kernel) rfl (Nat.le_of_ble_eq_true rfl) rfl ?_
  intro p e R s m args below meth c Q hF hRc hRs hRf hRl hret
  obtain ⟨hx, hb, hr, hml, hts0, hown, hlocks, hin, hK, hlo, hZ⟩ := hF
  have hts : ∀ w ∈ tbg, w.before args s = true := fun w h => hts0 w (List.mem_cons_of_mem _ h)
  refine gs (pc' := 1) (fun _ _ _ _ _ hl => lv_lload_n hx hb d_Mo_setSize_0 rfl (lv_at hl 2 rfl)) ?_
  refine gs (pc' := 4) (fun _ _ _ _ _ hl => lv_ldc2 (v := (-9223372036854775808)) hx hb hown (hts _ wm836) d_Mo_setSize_1) ?_
  refine g_eql (show (-9223372036854775808) = lI (-9223372036854775808) from by decide) ?_
  refine gs (pc' := 5) (fun _ _ _ _ _ hl => W.lcmp hx hb d_Mo_setSize_4) ?_
  refine gsb (pc1 := 33) (pc2 := 8) (fun _ _ _ _ _ => lv_if_ne (tgt := 33) hx hb d_Mo_setSize_5 (by decide)) (fun c_1 => ?_) (fun c_1 => ?_)
  · skip
    have nc_1 : x ≠ (-9223372036854775808) := (lcI_ne (a := x) (b := (-9223372036854775808)) (by omega) (by omega) (by omega) (by omega)).1 c_1
    refine gs (pc' := 34) (fun _ _ _ _ _ hl => lv_aload_n hx hb d_Mo_setSize_33 rfl (lv_at hl 0 rfl)) ?_
    refine gs (pc' := 35) (fun _ _ _ _ _ hl => lv_iload_n hx hb d_Mo_setSize_34 rfl (lv_at hl 1 rfl)) ?_
    refine gs (pc' := 36) (fun _ _ _ _ _ hl => lv_lload_n hx hb d_Mo_setSize_35 rfl (lv_at hl 2 rfl)) ?_
    refine gs (pc' := 37) (fun _ _ _ _ _ hl => lv_lconst (v := lN 0) hx hb d_Mo_setSize_36 (by decide)) ?_
    refine gs (pc' := 38) (fun _ _ _ _ _ hl => W.lcmp hx hb d_Mo_setSize_37) ?_
    refine gsb (pc1 := 46) (pc2 := 41) (fun _ _ _ _ _ => lv_if_ge (tgt := 46) hx hb d_Mo_setSize_38 (by decide)) (fun c_2 => ?_) (fun c_2 => ?_)
    · skip
      have nc_2 : x ≥ ((0 : Nat) : Int) := (lcI_ge (a := x) (b := ((0 : Nat) : Int)) (by omega) (by omega) (by omega) (by omega)).1 (by rw [cmp_IN] at c_2; exact c_2)
      refine gs (pc' := 47) (fun _ _ _ _ _ hl => lv_lload_n hx hb d_Mo_setSize_46 rfl (lv_at hl 2 rfl)) ?_
      refine g_eql (show lI x = lN x.natAbs from lI_pab (by omega)) ?_
      refine g_outv hlo (g_runV (As := [.int (nI r), .long (lN x.natAbs)]) (rest := []) ⟨hx, hb, hml, hown, hts⟩ hK hZ hRc hRs (c_Mo_set l D cA lo MC MS G B hm A I hob Rg hR r hb_r x.natAbs (by omega) hB1 hB2) (fun _ _ => cwV 2 hts (tb_good (tb_cons wm838 (tb_cons wm840 (tb_cons ws21 (tb_cons wm12 k_Mo_set))))) rfl rfl rfl (by decide +kernel) ⟨by rw [hRf]; exact Nat.le_of_ble_eq_true rfl, by rw [hRl]; exact Nat.le_of_ble_eq_true rfl⟩) hob rfl hB1 hB2 rfl (Nat.le_of_ble_eq_true rfl) d_Mo_setSize_47) (fun G_3 B_4 p_5 => ?_)
      obtain ⟨e_6, mr_7, f_8, gf_9⟩ := p_5
      have e_6b : B = B_4 := e_6.symm
      subst e_6b
      have gf_10 : gfr (fun x => x = 75 ∨ x = 76) G G_3 := gfr_mono (gfr_tr gfr_rf gf_9) (fun x h9 => by rcases h9 with h9 | h9 <;> exact h9)
      have f_11 : G_3 hm = some (70, .inr (9, [.int (I 0), .int (I 1), .ref (A 2), .ref (A 3), .ref (A 4), .ref (A 5), .int (I 6), .int (I 7), .ref (A 8), .ref (A 9), .int (I 10), .ref (A 11), .ref (A 12), .ref (A 13), .int (I 14), .ref (A 15), .ref (A 16), .ref (A 17), .ref (A 18), .int (I 19), .int (I 20), .int (I 21)])) := f_8
      exact hret 50 _ _ _ d_Mo_setSize_50 hB1 hB2 ⟨rfl, mr_7, f_11, gf_10⟩
    · skip
      have nc_2 : x < ((0 : Nat) : Int) := (lcI_ge (a := x) (b := ((0 : Nat) : Int)) (by omega) (by omega) (by omega) (by omega)).2 (by rw [cmp_IN] at c_2; exact c_2)
      refine gs (pc' := 42) (fun _ _ _ _ _ hl => lv_lload_n hx hb d_Mo_setSize_41 rfl (lv_at hl 2 rfl)) ?_
      refine gs (pc' := 43) (fun _ _ _ _ _ hl => lv_lneg hx hb d_Mo_setSize_42) ?_
      refine gs (pc' := 47) (fun _ _ _ _ _ hl => lv_goto (tgt := 47) hx hb d_Mo_setSize_43 (by decide)) ?_
      refine g_eql (show -(lI x) = lN x.natAbs from lI_nab (by omega)) ?_
      refine g_outv hlo (g_runV (As := [.int (nI r), .long (lN x.natAbs)]) (rest := []) ⟨hx, hb, hml, hown, hts⟩ hK hZ hRc hRs (c_Mo_set l D cA lo MC MS G B hm A I hob Rg hR r hb_r x.natAbs (by omega) hB1 hB2) (fun _ _ => cwV 2 hts (tb_good (tb_cons wm838 (tb_cons wm840 (tb_cons ws21 (tb_cons wm12 k_Mo_set))))) rfl rfl rfl (by decide +kernel) ⟨by rw [hRf]; exact Nat.le_of_ble_eq_true rfl, by rw [hRl]; exact Nat.le_of_ble_eq_true rfl⟩) hob rfl hB1 hB2 rfl (Nat.le_of_ble_eq_true rfl) d_Mo_setSize_47) (fun G_12 B_13 p_14 => ?_)
      obtain ⟨e_15, mr_16, f_17, gf_18⟩ := p_14
      have e_15b : B = B_13 := e_15.symm
      subst e_15b
      have gf_19 : gfr (fun x => x = 75 ∨ x = 76) G G_12 := gfr_mono (gfr_tr gfr_rf gf_18) (fun x h9 => by rcases h9 with h9 | h9 <;> exact h9)
      have f_20 : G_12 hm = some (70, .inr (9, [.int (I 0), .int (I 1), .ref (A 2), .ref (A 3), .ref (A 4), .ref (A 5), .int (I 6), .int (I 7), .ref (A 8), .ref (A 9), .int (I 10), .ref (A 11), .ref (A 12), .ref (A 13), .int (I 14), .ref (A 15), .ref (A 16), .ref (A 17), .ref (A 18), .int (I 19), .int (I 20), .int (I 21)])) := f_17
      exact hret 50 _ _ _ d_Mo_setSize_50 hB1 hB2 ⟨rfl, mr_16, f_20, gf_19⟩
  · skip
    have nc_1 : x = (-9223372036854775808) := (lcI_ne (a := x) (b := (-9223372036854775808)) (by omega) (by omega) (by omega) (by omega)).2 c_1
    refine gs (pc' := 9) (fun _ _ _ _ _ hl => lv_aload_n hx hb d_Mo_setSize_8 rfl (lv_at hl 0 rfl)) ?_
    refine gs (pc' := 10) (fun _ _ _ _ _ hl => lv_iload_n hx hb d_Mo_setSize_9 rfl (lv_at hl 1 rfl)) ?_
    refine gs (pc' := 13) (fun _ _ _ _ _ hl => lv_ldc2 (v := 9223372036854775807) hx hb hown (hts _ wm837) d_Mo_setSize_10) ?_
    refine g_eql (show 9223372036854775807 = lN 9223372036854775807 from rfl) ?_
    refine g_outv hlo (g_runV (As := [.int (nI r), .long (lN 9223372036854775807)]) (rest := []) ⟨hx, hb, hml, hown, hts⟩ hK hZ hRc hRs (c_Mo_set l D cA lo MC MS G B hm A I hob Rg hR r hb_r 9223372036854775807 (by decide) hB1 hB2) (fun _ _ => cwV 2 hts (tb_good (tb_cons wm838 (tb_cons wm840 (tb_cons ws21 (tb_cons wm12 k_Mo_set))))) rfl rfl rfl (by decide +kernel) ⟨by rw [hRf]; exact Nat.le_of_ble_eq_true rfl, by rw [hRl]; exact Nat.le_of_ble_eq_true rfl⟩) hob rfl hB1 hB2 rfl (Nat.le_of_ble_eq_true rfl) d_Mo_setSize_13) (fun G_21 B_22 p_23 => ?_)
    obtain ⟨e_24, mr_25, f_26, gf_27⟩ := p_23
    have e_24b : B = B_22 := e_24.symm
    subst e_24b
    have gf_28 : gfr (fun x => x = 75 ∨ x = 76) G G_21 := gfr_mono (gfr_tr gfr_rf gf_27) (fun x h9 => by rcases h9 with h9 | h9 <;> exact h9)
    have f_29 : G_21 hm = some (70, .inr (9, [.int (I 0), .int (I 1), .ref (A 2), .ref (A 3), .ref (A 4), .ref (A 5), .int (I 6), .int (I 7), .ref (A 8), .ref (A 9), .int (I 10), .ref (A 11), .ref (A 12), .ref (A 13), .int (I 14), .ref (A 15), .ref (A 16), .ref (A 17), .ref (A 18), .int (I 19), .int (I 20), .int (I 21)])) := f_26
    refine gs (pc' := 17) (fun _ _ _ _ _ hl => lv_aload_n hx hb d_Mo_setSize_16 rfl (lv_at hl 0 rfl)) ?_
    refine g_get hx hb hts hin_Mo hown hK f_29 rfl 8 (by decide) (hts _ wm762) (fun _ h9 => h9) rfl d_Mo_setSize_17 ?_
    refine gs (pc' := 23) (fun _ _ _ _ _ hl => lv_sipush (v := nI 4300) hx hb d_Mo_setSize_20 (by decide)) ?_
    refine gs (pc' := 24) (fun _ _ _ _ _ hl => lv_iload_n hx hb d_Mo_setSize_23 rfl (lv_at hl 1 rfl)) ?_
    refine gs (pc' := 25) (fun _ _ _ _ _ hl => lv_imul hx hb d_Mo_setSize_24) ?_
    refine g_eqi (show (nI 4300) * (nI r) = nI (4300 * r + 0) from (pk_mul _ _).trans (congrArg nI (show 4300 * r = 4300 * r + 0 by omega))) ?_
    refine gs (pc' := 26) (fun _ _ _ _ _ hl => lv_dup2_11 hx hb d_Mo_setSize_25 rfl rfl) ?_
    obtain ⟨lm_30, sz_31, f_32, f_33, rg_34⟩ := id mr_25
    refine g_iald hx hb hK 0 f_32 rfl (show vp_in (nI (4300 * r + 0)) 38700 from vp_in_nI (by omega) (by omega)) d_Mo_setSize_26 ?_
    refine g_eqi (show lm_30 (nI (4300 * r + 0)).toNatClampNeg = lm_30 (4300 * r + 0) from by rw [nI_clamp (by omega)]) ?_
    obtain ⟨zz_35, hg_36, hz_37, hD_38⟩ := rg_34 r hb_r
    rw [fup_s] at hD_38
    have hz0 : 0 < zz_35 := Nat.pos_of_ne_zero fun e9 => by have := (isD_z0 hD_38).mp e9; omega
    have hd0 := dv_low (lim_dok hD_38.1) hz0
    rw [hD_38.2.2] at hd0
    refine g_eqi (show lm_30 (4300 * r + 0) = nI (df (sh lm_30 r) 0) from (hD_38.1 0 hz0).1) ?_
    refine gs (pc' := 28) (fun _ _ _ _ _ hl => lv_iconst (v := nI 1) hx hb d_Mo_setSize_27 (by decide)) ?_
    refine gs (pc' := 29) (fun _ _ _ _ _ hl => lv_iadd hx hb d_Mo_setSize_28) ?_
    refine g_eqi (show (nI (df (sh lm_30 r) 0)) + (nI 1) = nI ((df (sh lm_30 r) 0) + 1) from nI_add _ _) ?_
    refine g_iast hx hb hK 0 f_32 rfl (show vp_in (nI (4300 * r + 0)) 38700 from vp_in_nI (by omega) (by omega)) d_Mo_setSize_29 (fun G_39 f_40 o_41 => ?_)
    rw [nI_clamp (by omega)] at f_40
    have f_42 : G_39 hm = some (70, .inr (9, [.int (I 0), .int (I 1), .ref (A 2), .ref (A 3), .ref (A 4), .ref (A 5), .int (I 6), .int (I 7), .ref (A 8), .ref (A 9), .int (I 10), .ref (A 11), .ref (A 12), .ref (A 13), .int (I 14), .ref (A 15), .ref (A 16), .ref (A 17), .ref (A 18), .int (I 19), .int (I 20), .int (I 21)])) := (o_41 _ (gne f_29 f_32 (fun e => by cases e))).trans f_29
    have f_43 : G_39 (A 9) = some (76, .inl (cA 0, 9, .inl sz_31)) := (o_41 _ (gne f_33 f_32 (by simp))).trans f_33
    refine gs (pc' := 50) (fun _ _ _ _ _ hl => lv_goto (tgt := 50) hx hb d_Mo_setSize_30 (by decide)) ?_
    have hM9 : MR cA A (fup (fup Rg r 9223372036854775807) r 9223372036854775808) G_39 := ⟨_, _, f_40, f_43, RG_set' rg_34 (oth_up oth_rf (by decide)) hg_36 (fun _ _ => rfl) hz_37 (by rw [sh_us]; exact isD_inc hD_38 hz0 (by decide))⟩
    exact hret 50 _ _ _ d_Mo_setSize_50 hB1 hB2 ⟨rfl, MR_eq hM9 (fun q9 => by
      have hx9 : x.natAbs = 9223372036854775808 := by omega
      rw [hx9]
      by_cases e9 : q9 = r
      · subst e9; rw [fup_s, fup_s]
      · rw [fup_n e9, fup_n e9, fup_n e9]), f_42, gfr_put gf_28 f_32 (Or.inl rfl) o_41⟩
set_option maxHeartbeats 4000000 in
set_option maxRecDepth 100000 in
theorem c_Mo_stash (l : Launch) (D : va_G) (cA : Nat → ClassId) (lo MC MS : Nat) (G : gT) (B : Nat × Nat) (hm : Nat) (A : Nat → Nat) (S : St) (th : Nat) (qm qo qk : Option Rat) (hV : MW cA hm A S th qm qo qk G) (hW : WF S) (r1 : Rat) (hq1 : qm = some r1) (hB1 : B.1 ≤ MC) (hB2 : B.2 ≤ MS) : gMet l y_Mo_stash w_Mo_stash 0 0 D clS (gtys cA) lo MC MS [.ref hm] G B (gQv D clS lo (fun u => u.2 = B ∧ MW cA hm A S th (some r1) qo (some r1) u.1 ∧ gfr mT G u.1)) := by
  refine g_metv (cc := prog_11_method_43_code) (nL := 2) (L := [(0, .ref hm)]) (by decide +kernel) rfl (Nat.le_of_ble_eq_true rfl) rfl ?_
  intro p e R s m args below meth c Q hF hRc hRs hRf hRl hret
  obtain ⟨hx, hb, hr, hml, hts0, hown, hlocks, hin, hK, hlo, hZ⟩ := hF
  have hts : ∀ w ∈ tbg, w.before args s = true := fun w h => hts0 w (List.mem_cons_of_mem _ h)
  subst hq1
  have hn := hW.n
  have hrn := hW.rn
  have hwn := hW.wn
  obtain ⟨sg_1, sh_2, kt_3, kb_4, ks_5, Rr_6, kf_7, v_8, v_9, v_10, v_11, v_12, v_13, v_14⟩ := id hV
  have f_15 : G hm = some (70, .inr (9, [.int (nI th), .int (nI S.n), .ref (A 2), .ref (A 3), .ref (A 4), .ref (A 5), .int sg_1, .int sh_2, .ref (A 8), .ref (A 9), .int (nI S.rn), .ref (A 11), .ref (A 12), .ref (A 13), .int (nI S.wn), .ref (A 15), .ref (A 16), .ref (A 17), .ref (A 18), .int kt_3, .int kb_4, .int ks_5])) := v_8
  obtain ⟨e_16, e_17, e_18⟩ := v_11 _ rfl
  have f_19 : G hm = some (70, .inr (9, [.int (nI th), .int (nI S.n), .ref (A 2), .ref (A 3), .ref (A 4), .ref (A 5), .int (iI (r1.num.sign)), .int sh_2, .ref (A 8), .ref (A 9), .int (nI S.rn), .ref (A 11), .ref (A 12), .ref (A 13), .int (nI S.wn), .ref (A 15), .ref (A 16), .ref (A 17), .ref (A 18), .int kt_3, .int kb_4, .int ks_5])) := by rw [← e_16]; exact f_15
  have fm_20 : ∀ r9, some r1 = some r9 → fc (iI (r1.num.sign)) (Rr_6 0) (Rr_6 1) r9 := by rw [← e_16]; exact v_11
  have s3_21 := sg3 r1.num
  obtain ⟨lm_22, sz_23, f_24, f_25, rg_26⟩ := id v_9
  obtain ⟨zz_27, hg_28, hz_29, hD_30⟩ := rg_26 0 (by decide)
  obtain ⟨zz_31, hg_32, hz_33, hD_34⟩ := rg_26 1 (by decide)
  rw [e_17] at hD_30
  rw [e_18] at hD_34
  refine gs (pc' := 1) (fun _ _ _ _ _ hl => lv_iconst (v := nI 0) hx hb d_Mo_stash_0 (by decide)) ?_
  refine gst (pc' := 2) (L' := [(1, .int (nI 0)), (0, .ref hm)]) (fun _ _ _ _ _ hl => lv_istore_n hx hb d_Mo_stash_1 rfl hl (by decide) rfl) ?_
  refine gsub [0, 1] rfl ?_
  have loop : ∀ (q j : Nat) (kf1 : Nat → Int32) (Gk : gT), (j + q = zz_27) → (∀ i, i < j → kf1 i = sh lm_22 0 i) → (gfr (fun x => x = 83) G Gk) → Gk hm = some (70, .inr (9, [.int (nI th), .int (nI S.n), .ref (A 2), .ref (A 3), .ref (A 4), .ref (A 5), .int (iI (r1.num.sign)), .int sh_2, .ref (A 8), .ref (A 9), .int (nI S.rn), .ref (A 11), .ref (A 12), .ref (A 13), .int (nI S.wn), .ref (A 15), .ref (A 16), .ref (A 17), .ref (A 18), .int kt_3, .int kb_4, .int ks_5])) → Gk (A 8) = some (75, .inl (cA 0, 38700, .inl lm_22)) → Gk (A 9) = some (76, .inl (cA 0, 9, .inl sz_23)) → Gk (A 18) = some (83, .inl (cA 0, 8600, .inl kf1)) → gV p l e R s m args below meth c D clS lo 2 Q 2 [(1, .int (nI j)), (0, .ref hm)] [] Gk B := by
    intro q
    induction q with
    | zero =>
      intro j kf1 Gk hj hcp hfr k1 k2 k3 k4
      refine gs (pc' := 3) (fun _ _ _ _ _ hl => lv_iload_n hx hb d_Mo_stash_2 rfl (lv_at hl 0 rfl)) ?_
      refine gs (pc' := 4) (fun _ _ _ _ _ hl => lv_aload_n hx hb d_Mo_stash_3 rfl (lv_at hl 1 rfl)) ?_
      refine g_get hx hb hts hin_Mo hown hK k1 rfl 9 (by decide) (hts _ wm763) (fun _ h9 => h9) rfl d_Mo_stash_4 ?_
      refine gs (pc' := 8) (fun _ _ _ _ _ hl => lv_iconst (v := nI 0) hx hb d_Mo_stash_7 (by decide)) ?_
      refine g_iald hx hb hK 0 k3 rfl (show vp_in (nI 0) 9 from vp_in_nI (by omega) (by omega)) d_Mo_stash_8 ?_
      refine g_eqi (show sz_23 (nI 0).toNatClampNeg = sz_23 0 from by rw [nI_clamp (by omega)]) ?_
      refine g_eqi (show sz_23 0 = nI zz_27 from hg_28) ?_
      refine gsb (pc1 := 30) (pc2 := 12) (fun _ _ _ _ _ => lv_icmp_ge (tgt := 30) hx hb d_Mo_stash_9 (by decide)) (fun c_35 => ?_) (fun c_35 => ?_)
      · skip
        have nc_35 : j ≥ zz_27 := (nn_ge (a := j) (b := zz_27) (by omega) (by omega)).1 c_35
        refine gs (pc' := 31) (fun _ _ _ _ _ hl => lv_iconst (v := nI 0) hx hb d_Mo_stash_30 (by decide)) ?_
        refine gst (pc' := 32) (L' := [(1, .int (nI 0)), (0, .ref hm)]) (fun _ _ _ _ _ hl => lv_istore_n hx hb d_Mo_stash_31 rfl hl (by decide) rfl) ?_
        refine gsub [0, 1] rfl ?_
        have loop2 : ∀ (q2 j2 : Nat) (kf2 : Nat → Int32) (Gl : gT), (j2 + q2 = zz_31) → (∀ i, i < j2 → kf2 (4300 + i) = sh lm_22 1 i) → (∀ i, i < 4300 → kf2 i = kf1 i) → (gfr (fun x => x = 83) G Gl) → Gl hm = some (70, .inr (9, [.int (nI th), .int (nI S.n), .ref (A 2), .ref (A 3), .ref (A 4), .ref (A 5), .int (iI (r1.num.sign)), .int sh_2, .ref (A 8), .ref (A 9), .int (nI S.rn), .ref (A 11), .ref (A 12), .ref (A 13), .int (nI S.wn), .ref (A 15), .ref (A 16), .ref (A 17), .ref (A 18), .int kt_3, .int kb_4, .int ks_5])) → Gl (A 8) = some (75, .inl (cA 0, 38700, .inl lm_22)) → Gl (A 9) = some (76, .inl (cA 0, 9, .inl sz_23)) → Gl (A 18) = some (83, .inl (cA 0, 8600, .inl kf2)) → gV p l e R s m args below meth c D clS lo 2 Q 32 [(1, .int (nI j2)), (0, .ref hm)] [] Gl B := by
          intro q2
          induction q2 with
          | zero =>
            intro j2 kf2 Gl hj2 hcp2 hlw hfr2 l1 l2 l3 l4
            have hmr9 := MR_fr v_9 hfr2 (show ¬ (75 : Nat) = 83 by decide) (show ¬ (76 : Nat) = 83 by decide)
            have hmb9 := MB_fr v_14 hfr2 (fun x h9 => by omega)
            have hgf9 : gfr mT G Gl := gfr_mono hfr2 (fun x h9 => by subst h9; exact ⟨by decide, by decide⟩)
            refine gs (pc' := 33) (fun _ _ _ _ _ hl => lv_iload_n hx hb d_Mo_stash_32 rfl (lv_at hl 0 rfl)) ?_
            refine gs (pc' := 34) (fun _ _ _ _ _ hl => lv_aload_n hx hb d_Mo_stash_33 rfl (lv_at hl 1 rfl)) ?_
            refine g_get hx hb hts hin_Mo hown hK l1 rfl 9 (by decide) (hts _ wm763) (fun _ h9 => h9) rfl d_Mo_stash_34 ?_
            refine gs (pc' := 38) (fun _ _ _ _ _ hl => lv_iconst (v := nI 1) hx hb d_Mo_stash_37 (by decide)) ?_
            refine g_iald hx hb hK 0 l3 rfl (show vp_in (nI 1) 9 from vp_in_nI (by omega) (by omega)) d_Mo_stash_38 ?_
            refine g_eqi (show sz_23 (nI 1).toNatClampNeg = sz_23 1 from by rw [nI_clamp (by omega)]) ?_
            refine g_eqi (show sz_23 1 = nI zz_31 from hg_32) ?_
            refine gsb (pc1 := 68) (pc2 := 42) (fun _ _ _ _ _ => lv_icmp_ge (tgt := 68) hx hb d_Mo_stash_39 (by decide)) (fun c_36 => ?_) (fun c_36 => ?_)
            · skip
              have nc_36 : j2 ≥ zz_31 := (nn_ge (a := j2) (b := zz_31) (by omega) (by omega)).1 c_36
              refine gs (pc' := 69) (fun _ _ _ _ _ hl => lv_aload_n hx hb d_Mo_stash_68 rfl (lv_at hl 1 rfl)) ?_
              refine gs (pc' := 70) (fun _ _ _ _ _ hl => lv_aload_n hx hb d_Mo_stash_69 rfl (lv_at hl 1 rfl)) ?_
              refine g_get hx hb hts hin_Mo hown hK l1 rfl 9 (by decide) (hts _ wm763) (fun _ h9 => h9) rfl d_Mo_stash_70 ?_
              refine gs (pc' := 74) (fun _ _ _ _ _ hl => lv_iconst (v := nI 0) hx hb d_Mo_stash_73 (by decide)) ?_
              refine g_iald hx hb hK 0 l3 rfl (show vp_in (nI 0) 9 from vp_in_nI (by omega) (by omega)) d_Mo_stash_74 ?_
              refine g_eqi (show sz_23 (nI 0).toNatClampNeg = sz_23 0 from by rw [nI_clamp (by omega)]) ?_
              refine g_eqi (show sz_23 0 = nI zz_27 from hg_28) ?_
              refine g_put (ty := .int) hx hb hts hin_Mo ty_Mo ty_Mo_ok nm_Mo hown hK l1 rfl 19 (by decide) (hts _ wm773) (fun _ h9 => h9) rfl (by decide +kernel) rfl rfl (Nat.le_of_ble_eq_true rfl) d_Mo_stash_75 (fun G_37 f_38 o_39 => ?_)
              have f_40 : G_37 hm = some (70, .inr (9, [.int (nI th), .int (nI S.n), .ref (A 2), .ref (A 3), .ref (A 4), .ref (A 5), .int (iI (r1.num.sign)), .int sh_2, .ref (A 8), .ref (A 9), .int (nI S.rn), .ref (A 11), .ref (A 12), .ref (A 13), .int (nI S.wn), .ref (A 15), .ref (A 16), .ref (A 17), .ref (A 18), .int (nI zz_27), .int kb_4, .int ks_5])) := f_38
              have f_41 : G_37 (A 8) = some (75, .inl (cA 0, 38700, .inl lm_22)) := (o_39 _ (gne l2 l1 (fun e => by cases e))).trans l2
              have f_42 : G_37 (A 9) = some (76, .inl (cA 0, 9, .inl sz_23)) := (o_39 _ (gne l3 l1 (fun e => by cases e))).trans l3
              have f_43 : G_37 (A 18) = some (83, .inl (cA 0, 8600, .inl kf2)) := (o_39 _ (gne l4 l1 (fun e => by cases e))).trans l4
              have gf_44 : gfr mT G G_37 := gfr_put hgf9 l1 (show mT 70 by decide) o_39
              have gf_45 : gfr (fun x => x = 70) _ G_37 := gfr_put gfr_rf l1 rfl o_39
              have mr_46 : MR cA A Rr_6 G_37 := MR_fr hmr9 gf_45 (show ¬ (75 : Nat) = 70 by decide) (show ¬ (76 : Nat) = 70 by decide)
              have mb_47 : MB cA A S G_37 := MB_fr hmb9 gf_45 (fun x h9 => by omega)
              refine gs (pc' := 79) (fun _ _ _ _ _ hl => lv_aload_n hx hb d_Mo_stash_78 rfl (lv_at hl 1 rfl)) ?_
              refine gs (pc' := 80) (fun _ _ _ _ _ hl => lv_aload_n hx hb d_Mo_stash_79 rfl (lv_at hl 1 rfl)) ?_
              refine g_get hx hb hts hin_Mo hown hK f_40 rfl 9 (by decide) (hts _ wm763) (fun _ h9 => h9) rfl d_Mo_stash_80 ?_
              refine gs (pc' := 84) (fun _ _ _ _ _ hl => lv_iconst (v := nI 1) hx hb d_Mo_stash_83 (by decide)) ?_
              refine g_iald hx hb hK 0 f_42 rfl (show vp_in (nI 1) 9 from vp_in_nI (by omega) (by omega)) d_Mo_stash_84 ?_
              refine g_eqi (show sz_23 (nI 1).toNatClampNeg = sz_23 1 from by rw [nI_clamp (by omega)]) ?_
              refine g_eqi (show sz_23 1 = nI zz_31 from hg_32) ?_
              refine g_put (ty := .int) hx hb hts hin_Mo ty_Mo ty_Mo_ok nm_Mo hown hK f_40 rfl 20 (by decide) (hts _ wm774) (fun _ h9 => h9) rfl (by decide +kernel) rfl rfl (Nat.le_of_ble_eq_true rfl) d_Mo_stash_85 (fun G_48 f_49 o_50 => ?_)
              have f_51 : G_48 hm = some (70, .inr (9, [.int (nI th), .int (nI S.n), .ref (A 2), .ref (A 3), .ref (A 4), .ref (A 5), .int (iI (r1.num.sign)), .int sh_2, .ref (A 8), .ref (A 9), .int (nI S.rn), .ref (A 11), .ref (A 12), .ref (A 13), .int (nI S.wn), .ref (A 15), .ref (A 16), .ref (A 17), .ref (A 18), .int (nI zz_27), .int (nI zz_31), .int ks_5])) := f_49
              have f_52 : G_48 (A 8) = some (75, .inl (cA 0, 38700, .inl lm_22)) := (o_50 _ (gne f_41 f_40 (fun e => by cases e))).trans f_41
              have f_53 : G_48 (A 9) = some (76, .inl (cA 0, 9, .inl sz_23)) := (o_50 _ (gne f_42 f_40 (fun e => by cases e))).trans f_42
              have f_54 : G_48 (A 18) = some (83, .inl (cA 0, 8600, .inl kf2)) := (o_50 _ (gne f_43 f_40 (fun e => by cases e))).trans f_43
              have gf_55 : gfr mT G G_48 := gfr_put gf_44 f_40 (show mT 70 by decide) o_50
              have gf_56 : gfr (fun x => x = 70) _ G_48 := gfr_put gfr_rf f_40 rfl o_50
              have mr_57 : MR cA A Rr_6 G_48 := MR_fr mr_46 gf_56 (show ¬ (75 : Nat) = 70 by decide) (show ¬ (76 : Nat) = 70 by decide)
              have mb_58 : MB cA A S G_48 := MB_fr mb_47 gf_56 (fun x h9 => by omega)
              refine gs (pc' := 89) (fun _ _ _ _ _ hl => lv_aload_n hx hb d_Mo_stash_88 rfl (lv_at hl 1 rfl)) ?_
              refine gs (pc' := 90) (fun _ _ _ _ _ hl => lv_aload_n hx hb d_Mo_stash_89 rfl (lv_at hl 1 rfl)) ?_
              refine g_get hx hb hts hin_Mo hown hK f_51 rfl 6 (by decide) (hts _ wm760) (fun _ h9 => h9) rfl d_Mo_stash_90 ?_
              refine g_put (ty := .int) hx hb hts hin_Mo ty_Mo ty_Mo_ok nm_Mo hown hK f_51 rfl 21 (by decide) (hts _ wm775) (fun _ h9 => h9) rfl (by decide +kernel) rfl rfl (Nat.le_of_ble_eq_true rfl) d_Mo_stash_93 (fun G_59 f_60 o_61 => ?_)
              have f_62 : G_59 hm = some (70, .inr (9, [.int (nI th), .int (nI S.n), .ref (A 2), .ref (A 3), .ref (A 4), .ref (A 5), .int (iI (r1.num.sign)), .int sh_2, .ref (A 8), .ref (A 9), .int (nI S.rn), .ref (A 11), .ref (A 12), .ref (A 13), .int (nI S.wn), .ref (A 15), .ref (A 16), .ref (A 17), .ref (A 18), .int (nI zz_27), .int (nI zz_31), .int (iI (r1.num.sign))])) := f_60
              have f_63 : G_59 (A 8) = some (75, .inl (cA 0, 38700, .inl lm_22)) := (o_61 _ (gne f_52 f_51 (fun e => by cases e))).trans f_52
              have f_64 : G_59 (A 9) = some (76, .inl (cA 0, 9, .inl sz_23)) := (o_61 _ (gne f_53 f_51 (fun e => by cases e))).trans f_53
              have f_65 : G_59 (A 18) = some (83, .inl (cA 0, 8600, .inl kf2)) := (o_61 _ (gne f_54 f_51 (fun e => by cases e))).trans f_54
              have gf_66 : gfr mT G G_59 := gfr_put gf_55 f_51 (show mT 70 by decide) o_61
              have gf_67 : gfr (fun x => x = 70) _ G_59 := gfr_put gfr_rf f_51 rfl o_61
              have mr_68 : MR cA A Rr_6 G_59 := MR_fr mr_57 gf_67 (show ¬ (75 : Nat) = 70 by decide) (show ¬ (76 : Nat) = 70 by decide)
              have mb_69 : MB cA A S G_59 := MB_fr mb_58 gf_67 (fun x h9 => by omega)
              have hV_70 : MW cA hm A S th (some r1) qo (some r1) G_59 := ⟨(iI (r1.num.sign)), sh_2, (nI zz_27), (nI zz_31), (iI (r1.num.sign)), Rr_6, _, f_62, mr_68, f_65, fm_20, v_12, (sm_ ⟨rfl, ⟨zz_27, rfl, hz_29, isD_congr hD_30 (fun i9 h9 => (hlw i9 (by omega)).trans (hcp i9 (by omega)))⟩, ⟨zz_31, rfl, hz_33, isD_congr hD_34 (fun i9 h9 => hcp2 i9 (by omega))⟩⟩), mb_69⟩
              exact hret 96 _ _ _ d_Mo_stash_96 hB1 hB2 ⟨rfl, hV_70, gf_66⟩
            · skip
              have nc_36 : j2 < zz_31 := (nn_ge (a := j2) (b := zz_31) (by omega) (by omega)).2 c_36
              exact absurd nc_36 (by omega)
          | succ q2 ih2 =>
            intro j2 kf2 Gl hj2 hcp2 hlw hfr2 l1 l2 l3 l4
            refine gs (pc' := 33) (fun _ _ _ _ _ hl => lv_iload_n hx hb d_Mo_stash_32 rfl (lv_at hl 0 rfl)) ?_
            refine gs (pc' := 34) (fun _ _ _ _ _ hl => lv_aload_n hx hb d_Mo_stash_33 rfl (lv_at hl 1 rfl)) ?_
            refine g_get hx hb hts hin_Mo hown hK l1 rfl 9 (by decide) (hts _ wm763) (fun _ h9 => h9) rfl d_Mo_stash_34 ?_
            refine gs (pc' := 38) (fun _ _ _ _ _ hl => lv_iconst (v := nI 1) hx hb d_Mo_stash_37 (by decide)) ?_
            refine g_iald hx hb hK 0 l3 rfl (show vp_in (nI 1) 9 from vp_in_nI (by omega) (by omega)) d_Mo_stash_38 ?_
            refine g_eqi (show sz_23 (nI 1).toNatClampNeg = sz_23 1 from by rw [nI_clamp (by omega)]) ?_
            refine g_eqi (show sz_23 1 = nI zz_31 from hg_32) ?_
            refine gsb (pc1 := 68) (pc2 := 42) (fun _ _ _ _ _ => lv_icmp_ge (tgt := 68) hx hb d_Mo_stash_39 (by decide)) (fun c_71 => ?_) (fun c_71 => ?_)
            · skip
              have nc_71 : j2 ≥ zz_31 := (nn_ge (a := j2) (b := zz_31) (by omega) (by omega)).1 c_71
              exact absurd nc_71 (by omega)
            · skip
              have nc_71 : j2 < zz_31 := (nn_ge (a := j2) (b := zz_31) (by omega) (by omega)).2 c_71
              refine gs (pc' := 43) (fun _ _ _ _ _ hl => lv_aload_n hx hb d_Mo_stash_42 rfl (lv_at hl 1 rfl)) ?_
              refine g_get hx hb hts hin_Mo hown hK l1 rfl 18 (by decide) (hts _ wm772) (fun _ h9 => h9) rfl d_Mo_stash_43 ?_
              refine gs (pc' := 49) (fun _ _ _ _ _ hl => lv_sipush (v := nI 4300) hx hb d_Mo_stash_46 (by decide)) ?_
              refine gs (pc' := 50) (fun _ _ _ _ _ hl => lv_iload_n hx hb d_Mo_stash_49 rfl (lv_at hl 0 rfl)) ?_
              refine gs (pc' := 51) (fun _ _ _ _ _ hl => lv_iadd hx hb d_Mo_stash_50) ?_
              refine g_eqi (show (nI 4300) + (nI j2) = nI (4300 + j2) from nI_add _ _) ?_
              refine gs (pc' := 52) (fun _ _ _ _ _ hl => lv_aload_n hx hb d_Mo_stash_51 rfl (lv_at hl 1 rfl)) ?_
              refine g_get hx hb hts hin_Mo hown hK l1 rfl 8 (by decide) (hts _ wm762) (fun _ h9 => h9) rfl d_Mo_stash_52 ?_
              refine gs (pc' := 58) (fun _ _ _ _ _ hl => lv_sipush (v := nI 4300) hx hb d_Mo_stash_55 (by decide)) ?_
              refine gs (pc' := 59) (fun _ _ _ _ _ hl => lv_iload_n hx hb d_Mo_stash_58 rfl (lv_at hl 0 rfl)) ?_
              refine gs (pc' := 60) (fun _ _ _ _ _ hl => lv_iadd hx hb d_Mo_stash_59) ?_
              refine g_eqi (show (nI 4300) + (nI j2) = nI (4300 + j2) from nI_add _ _) ?_
              refine g_iald hx hb hK 0 l2 rfl (show vp_in (nI (4300 + j2)) 38700 from vp_in_nI (by omega) (by omega)) d_Mo_stash_60 ?_
              refine g_eqi (show lm_22 (nI (4300 + j2)).toNatClampNeg = lm_22 (4300 + j2) from by rw [nI_clamp (by omega)]) ?_
              refine g_iast hx hb hK 0 l4 rfl (show vp_in (nI (4300 + j2)) 8600 from vp_in_nI (by omega) (by omega)) d_Mo_stash_61 (fun G_72 f_73 o_74 => ?_)
              rw [nI_clamp (by omega)] at f_73
              have f_75 : G_72 hm = some (70, .inr (9, [.int (nI th), .int (nI S.n), .ref (A 2), .ref (A 3), .ref (A 4), .ref (A 5), .int (iI (r1.num.sign)), .int sh_2, .ref (A 8), .ref (A 9), .int (nI S.rn), .ref (A 11), .ref (A 12), .ref (A 13), .int (nI S.wn), .ref (A 15), .ref (A 16), .ref (A 17), .ref (A 18), .int kt_3, .int kb_4, .int ks_5])) := (o_74 _ (gne l1 l4 (fun e => by cases e))).trans l1
              have f_76 : G_72 (A 8) = some (75, .inl (cA 0, 38700, .inl lm_22)) := (o_74 _ (gne l2 l4 (by simp))).trans l2
              have f_77 : G_72 (A 9) = some (76, .inl (cA 0, 9, .inl sz_23)) := (o_74 _ (gne l3 l4 (by simp))).trans l3
              refine gst (pc' := 65) (L' := [(1, .int (nI (j2 + 1))), (0, .ref hm)]) (fun _ _ _ _ _ hl => lv_iinc (v := nI (j2 + 1)) hx hb d_Mo_stash_62 hl (k := 0) rfl (nI_add _ 1) (by decide) rfl) ?_
              refine gs (pc' := 32) (fun _ _ _ _ _ hl => lv_goto (tgt := 32) hx hb d_Mo_stash_65 (by decide)) ?_
              refine gsub [0, 1] rfl ?_
              exact ih2 (j2 + 1) (upd kf2 (4300 + j2) (lm_22 (4300 + j2))) G_72 (by omega) (fun i9 h9 => by
                by_cases e9 : i9 = j2
                · subst e9; rw [pk_us]; rfl
                · rw [pk_un (by omega)]; exact hcp2 i9 (by omega)) (fun i9 h9 => by rw [pk_un (by omega)]; exact hlw i9 h9) (gfr_put hfr2 l4 rfl o_74) f_75 f_76 f_77 f_73
        exact loop2 zz_31 0 kf1 Gk (by omega) (fun i9 h9 => absurd h9 (Nat.not_lt_zero _)) (fun _ _ => rfl) hfr k1 k2 k3 k4
      · skip
        have nc_35 : j < zz_27 := (nn_ge (a := j) (b := zz_27) (by omega) (by omega)).2 c_35
        exact absurd nc_35 (by omega)
    | succ q ih =>
      intro j kf1 Gk hj hcp hfr k1 k2 k3 k4
      refine gs (pc' := 3) (fun _ _ _ _ _ hl => lv_iload_n hx hb d_Mo_stash_2 rfl (lv_at hl 0 rfl)) ?_
      refine gs (pc' := 4) (fun _ _ _ _ _ hl => lv_aload_n hx hb d_Mo_stash_3 rfl (lv_at hl 1 rfl)) ?_
      refine g_get hx hb hts hin_Mo hown hK k1 rfl 9 (by decide) (hts _ wm763) (fun _ h9 => h9) rfl d_Mo_stash_4 ?_
      refine gs (pc' := 8) (fun _ _ _ _ _ hl => lv_iconst (v := nI 0) hx hb d_Mo_stash_7 (by decide)) ?_
      refine g_iald hx hb hK 0 k3 rfl (show vp_in (nI 0) 9 from vp_in_nI (by omega) (by omega)) d_Mo_stash_8 ?_
      refine g_eqi (show sz_23 (nI 0).toNatClampNeg = sz_23 0 from by rw [nI_clamp (by omega)]) ?_
      refine g_eqi (show sz_23 0 = nI zz_27 from hg_28) ?_
      refine gsb (pc1 := 30) (pc2 := 12) (fun _ _ _ _ _ => lv_icmp_ge (tgt := 30) hx hb d_Mo_stash_9 (by decide)) (fun c_78 => ?_) (fun c_78 => ?_)
      · skip
        have nc_78 : j ≥ zz_27 := (nn_ge (a := j) (b := zz_27) (by omega) (by omega)).1 c_78
        exact absurd nc_78 (by omega)
      · skip
        have nc_78 : j < zz_27 := (nn_ge (a := j) (b := zz_27) (by omega) (by omega)).2 c_78
        refine gs (pc' := 13) (fun _ _ _ _ _ hl => lv_aload_n hx hb d_Mo_stash_12 rfl (lv_at hl 1 rfl)) ?_
        refine g_get hx hb hts hin_Mo hown hK k1 rfl 18 (by decide) (hts _ wm772) (fun _ h9 => h9) rfl d_Mo_stash_13 ?_
        refine gs (pc' := 17) (fun _ _ _ _ _ hl => lv_iload_n hx hb d_Mo_stash_16 rfl (lv_at hl 0 rfl)) ?_
        refine gs (pc' := 18) (fun _ _ _ _ _ hl => lv_aload_n hx hb d_Mo_stash_17 rfl (lv_at hl 1 rfl)) ?_
        refine g_get hx hb hts hin_Mo hown hK k1 rfl 8 (by decide) (hts _ wm762) (fun _ h9 => h9) rfl d_Mo_stash_18 ?_
        refine gs (pc' := 22) (fun _ _ _ _ _ hl => lv_iload_n hx hb d_Mo_stash_21 rfl (lv_at hl 0 rfl)) ?_
        refine g_iald hx hb hK 0 k2 rfl (show vp_in (nI j) 38700 from vp_in_nI (by omega) (by omega)) d_Mo_stash_22 ?_
        refine g_eqi (show lm_22 (nI j).toNatClampNeg = lm_22 j from by rw [nI_clamp (by omega)]) ?_
        refine g_iast hx hb hK 0 k4 rfl (show vp_in (nI j) 8600 from vp_in_nI (by omega) (by omega)) d_Mo_stash_23 (fun G_79 f_80 o_81 => ?_)
        rw [nI_clamp (by omega)] at f_80
        have f_82 : G_79 hm = some (70, .inr (9, [.int (nI th), .int (nI S.n), .ref (A 2), .ref (A 3), .ref (A 4), .ref (A 5), .int (iI (r1.num.sign)), .int sh_2, .ref (A 8), .ref (A 9), .int (nI S.rn), .ref (A 11), .ref (A 12), .ref (A 13), .int (nI S.wn), .ref (A 15), .ref (A 16), .ref (A 17), .ref (A 18), .int kt_3, .int kb_4, .int ks_5])) := (o_81 _ (gne k1 k4 (fun e => by cases e))).trans k1
        have f_83 : G_79 (A 8) = some (75, .inl (cA 0, 38700, .inl lm_22)) := (o_81 _ (gne k2 k4 (by simp))).trans k2
        have f_84 : G_79 (A 9) = some (76, .inl (cA 0, 9, .inl sz_23)) := (o_81 _ (gne k3 k4 (by simp))).trans k3
        refine gst (pc' := 27) (L' := [(1, .int (nI (j + 1))), (0, .ref hm)]) (fun _ _ _ _ _ hl => lv_iinc (v := nI (j + 1)) hx hb d_Mo_stash_24 hl (k := 0) rfl (nI_add _ 1) (by decide) rfl) ?_
        refine gs (pc' := 2) (fun _ _ _ _ _ hl => lv_goto (tgt := 2) hx hb d_Mo_stash_27 (by decide)) ?_
        refine gsub [0, 1] rfl ?_
        exact ih (j + 1) (upd kf1 j (lm_22 j)) G_79 (by omega) (fun i9 h9 => by
          by_cases e9 : i9 = j
          · subst e9; rw [pk_us, sh_0]
          · rw [pk_un e9]; exact hcp i9 (by omega)) (gfr_put hfr k4 rfl o_81) f_82 f_83 f_84 f_80
  exact loop zz_27 0 kf_7 G (by omega) (fun i9 h9 => absurd h9 (Nat.not_lt_zero _)) gfr_rf f_19 f_24 f_25 v_10
set_option maxHeartbeats 4000000 in
set_option maxRecDepth 100000 in
theorem c_Mo_unstash (l : Launch) (D : va_G) (cA : Nat → ClassId) (lo MC MS : Nat) (G : gT) (B : Nat × Nat) (hm : Nat) (A : Nat → Nat) (S : St) (th : Nat) (qm qo qk : Option Rat) (hV : MW cA hm A S th qm qo qk G) (hW : WF S) (r1 : Rat) (hq1 : qk = some r1) (hB1 : B.1 ≤ MC) (hB2 : B.2 ≤ MS) : gMet l y_Mo_unstash w_Mo_unstash 0 0 D clS (gtys cA) lo MC MS [.ref hm] G B (gQv D clS lo (fun u => u.2 = B ∧ MW cA hm A S th qm (some r1) (some r1) u.1 ∧ gfr mT G u.1)) := by
  refine g_metv (cc := prog_11_method_44_code) (nL := 2) (L := [(0, .ref hm)]) (by decide +kernel) rfl (Nat.le_of_ble_eq_true rfl) rfl ?_
  intro p e R s m args below meth c Q hF hRc hRs hRf hRl hret
  obtain ⟨hx, hb, hr, hml, hts0, hown, hlocks, hin, hK, hlo, hZ⟩ := hF
  have hts : ∀ w ∈ tbg, w.before args s = true := fun w h => hts0 w (List.mem_cons_of_mem _ h)
  subst hq1
  have hn := hW.n
  have hrn := hW.rn
  have hwn := hW.wn
  obtain ⟨sg_1, sh_2, kt_3, kb_4, ks_5, Rr_6, kf_7, v_8, v_9, v_10, v_11, v_12, v_13, v_14⟩ := id hV
  have f_15 : G hm = some (70, .inr (9, [.int (nI th), .int (nI S.n), .ref (A 2), .ref (A 3), .ref (A 4), .ref (A 5), .int sg_1, .int sh_2, .ref (A 8), .ref (A 9), .int (nI S.rn), .ref (A 11), .ref (A 12), .ref (A 13), .int (nI S.wn), .ref (A 15), .ref (A 16), .ref (A 17), .ref (A 18), .int kt_3, .int kb_4, .int ks_5])) := v_8
  obtain ⟨he9, ⟨zt, ht9, hzt, hDt⟩, ⟨zb, hb9, hzb, hDb⟩⟩ := v_13 _ rfl
  have hob9 : G hm = some (70, .inr (9, [.int (nI th), .int (nI S.n), .ref (A 2), .ref (A 3), .ref (A 4), .ref (A 5), .int sg_1, .int sh_2, .ref (A 8), .ref (A 9), .int (nI S.rn), .ref (A 11), .ref (A 12), .ref (A 13), .int (nI S.wn), .ref (A 15), .ref (A 16), .ref (A 17), .ref (A 18), .int (nI zt), .int (nI zb), .int (iI (r1.num.sign))])) := by rw [← he9, ← ht9, ← hb9]; exact f_15
  have hk9 : ∀ r9, some r1 = some r9 → kc (iI (r1.num.sign)) (nI zt) (nI zb) kf_7 r9 := sm_ ⟨rfl, ⟨zt, rfl, hzt, hDt⟩, ⟨zb, rfl, hzb, hDb⟩⟩
  obtain ⟨lm_16, sz_17, f_18, f_19, rg_20⟩ := id v_9
  refine gs (pc' := 1) (fun _ _ _ _ _ hl => lv_aload_n hx hb d_Mo_unstash_0 rfl (lv_at hl 0 rfl)) ?_
  refine g_get hx hb hts hin_Mo hown hK hob9 rfl 9 (by decide) (hts _ wm763) (fun _ h9 => h9) rfl d_Mo_unstash_1 ?_
  refine gs (pc' := 5) (fun _ _ _ _ _ hl => lv_iconst (v := nI 2) hx hb d_Mo_unstash_4 (by decide)) ?_
  refine gs (pc' := 6) (fun _ _ _ _ _ hl => lv_aload_n hx hb d_Mo_unstash_5 rfl (lv_at hl 0 rfl)) ?_
  refine g_get hx hb hts hin_Mo hown hK hob9 rfl 19 (by decide) (hts _ wm773) (fun _ h9 => h9) rfl d_Mo_unstash_6 ?_
  refine g_iast hx hb hK 0 f_19 rfl (show vp_in (nI 2) 9 from vp_in_nI (by omega) (by omega)) d_Mo_unstash_9 (fun G_21 f_22 o_23 => ?_)
  rw [nI_clamp (by omega)] at f_22
  have f_24 : G_21 hm = some (70, .inr (9, [.int (nI th), .int (nI S.n), .ref (A 2), .ref (A 3), .ref (A 4), .ref (A 5), .int sg_1, .int sh_2, .ref (A 8), .ref (A 9), .int (nI S.rn), .ref (A 11), .ref (A 12), .ref (A 13), .int (nI S.wn), .ref (A 15), .ref (A 16), .ref (A 17), .ref (A 18), .int (nI zt), .int (nI zb), .int (iI (r1.num.sign))])) := (o_23 _ (gne hob9 f_19 (fun e => by cases e))).trans hob9
  have f_25 : G_21 (A 18) = some (83, .inl (cA 0, 8600, .inl kf_7)) := (o_23 _ (gne v_10 f_19 (by simp))).trans v_10
  have f_26 : G_21 (A 8) = some (75, .inl (cA 0, 38700, .inl lm_16)) := (o_23 _ (gne f_18 f_19 (by simp))).trans f_18
  have gf_27 : gfr (fun x => x = 70 ∨ x = 75 ∨ x = 76) G G_21 := gfr_put gfr_rf f_19 (show (76 : Nat) = 70 ∨ (76 : Nat) = 75 ∨ (76 : Nat) = 76 by decide) o_23
  refine gs (pc' := 11) (fun _ _ _ _ _ hl => lv_aload_n hx hb d_Mo_unstash_10 rfl (lv_at hl 0 rfl)) ?_
  refine g_get hx hb hts hin_Mo hown hK f_24 rfl 9 (by decide) (hts _ wm763) (fun _ h9 => h9) rfl d_Mo_unstash_11 ?_
  refine gs (pc' := 15) (fun _ _ _ _ _ hl => lv_iconst (v := nI 3) hx hb d_Mo_unstash_14 (by decide)) ?_
  refine gs (pc' := 16) (fun _ _ _ _ _ hl => lv_aload_n hx hb d_Mo_unstash_15 rfl (lv_at hl 0 rfl)) ?_
  refine g_get hx hb hts hin_Mo hown hK f_24 rfl 20 (by decide) (hts _ wm774) (fun _ h9 => h9) rfl d_Mo_unstash_16 ?_
  refine g_iast hx hb hK 0 f_22 rfl (show vp_in (nI 3) 9 from vp_in_nI (by omega) (by omega)) d_Mo_unstash_19 (fun G_28 f_29 o_30 => ?_)
  rw [nI_clamp (by omega)] at f_29
  have f_31 : G_28 hm = some (70, .inr (9, [.int (nI th), .int (nI S.n), .ref (A 2), .ref (A 3), .ref (A 4), .ref (A 5), .int sg_1, .int sh_2, .ref (A 8), .ref (A 9), .int (nI S.rn), .ref (A 11), .ref (A 12), .ref (A 13), .int (nI S.wn), .ref (A 15), .ref (A 16), .ref (A 17), .ref (A 18), .int (nI zt), .int (nI zb), .int (iI (r1.num.sign))])) := (o_30 _ (gne f_24 f_22 (fun e => by cases e))).trans f_24
  have f_32 : G_28 (A 18) = some (83, .inl (cA 0, 8600, .inl kf_7)) := (o_30 _ (gne f_25 f_22 (by simp))).trans f_25
  have f_33 : G_28 (A 8) = some (75, .inl (cA 0, 38700, .inl lm_16)) := (o_30 _ (gne f_26 f_22 (by simp))).trans f_26
  have gf_34 : gfr (fun x => x = 70 ∨ x = 75 ∨ x = 76) G G_28 := gfr_put gf_27 f_22 (show (76 : Nat) = 70 ∨ (76 : Nat) = 75 ∨ (76 : Nat) = 76 by decide) o_30
  refine gs (pc' := 21) (fun _ _ _ _ _ hl => lv_aload_n hx hb d_Mo_unstash_20 rfl (lv_at hl 0 rfl)) ?_
  refine gs (pc' := 22) (fun _ _ _ _ _ hl => lv_aload_n hx hb d_Mo_unstash_21 rfl (lv_at hl 0 rfl)) ?_
  refine g_get hx hb hts hin_Mo hown hK f_31 rfl 21 (by decide) (hts _ wm775) (fun _ h9 => h9) rfl d_Mo_unstash_22 ?_
  refine g_put (ty := .int) hx hb hts hin_Mo ty_Mo ty_Mo_ok nm_Mo hown hK f_31 rfl 7 (by decide) (hts _ wm761) (fun _ h9 => h9) rfl (by decide +kernel) rfl rfl (Nat.le_of_ble_eq_true rfl) d_Mo_unstash_25 (fun G_35 f_36 o_37 => ?_)
  have f_38 : G_35 hm = some (70, .inr (9, [.int (nI th), .int (nI S.n), .ref (A 2), .ref (A 3), .ref (A 4), .ref (A 5), .int sg_1, .int (iI (r1.num.sign)), .ref (A 8), .ref (A 9), .int (nI S.rn), .ref (A 11), .ref (A 12), .ref (A 13), .int (nI S.wn), .ref (A 15), .ref (A 16), .ref (A 17), .ref (A 18), .int (nI zt), .int (nI zb), .int (iI (r1.num.sign))])) := f_36
  have f_39 : G_35 (A 18) = some (83, .inl (cA 0, 8600, .inl kf_7)) := (o_37 _ (gne f_32 f_31 (fun e => by cases e))).trans f_32
  have f_40 : G_35 (A 8) = some (75, .inl (cA 0, 38700, .inl lm_16)) := (o_37 _ (gne f_33 f_31 (fun e => by cases e))).trans f_33
  have f_41 : G_35 (A 9) = some (76, .inl (cA 0, 9, .inl (upd (upd sz_17 2 (nI zt)) 3 (nI zb)))) := (o_37 _ (gne f_29 f_31 (fun e => by cases e))).trans f_29
  have gf_42 : gfr (fun x => x = 70 ∨ x = 75 ∨ x = 76) G G_35 := gfr_put gf_34 f_31 (show (70 : Nat) = 70 ∨ (70 : Nat) = 75 ∨ (70 : Nat) = 76 by decide) o_37
  refine gs (pc' := 29) (fun _ _ _ _ _ hl => lv_iconst (v := nI 0) hx hb d_Mo_unstash_28 (by decide)) ?_
  refine gst (pc' := 30) (L' := [(1, .int (nI 0)), (0, .ref hm)]) (fun _ _ _ _ _ hl => lv_istore_n hx hb d_Mo_unstash_29 rfl hl (by decide) rfl) ?_
  refine gsub [0, 1] rfl ?_
  have loop : ∀ (q j : Nat) (f1 : Nat → Int32) (Gk : gT), (j + q = zt) → (∀ i, i < j → sh f1 2 i = kf_7 i) → (oth 2 lm_16 f1) → (gfr (fun x => x = 70 ∨ x = 75 ∨ x = 76) G Gk) → Gk hm = some (70, .inr (9, [.int (nI th), .int (nI S.n), .ref (A 2), .ref (A 3), .ref (A 4), .ref (A 5), .int sg_1, .int (iI (r1.num.sign)), .ref (A 8), .ref (A 9), .int (nI S.rn), .ref (A 11), .ref (A 12), .ref (A 13), .int (nI S.wn), .ref (A 15), .ref (A 16), .ref (A 17), .ref (A 18), .int (nI zt), .int (nI zb), .int (iI (r1.num.sign))])) → Gk (A 8) = some (75, .inl (cA 0, 38700, .inl f1)) → Gk (A 9) = some (76, .inl (cA 0, 9, .inl (upd (upd sz_17 2 (nI zt)) 3 (nI zb)))) → Gk (A 18) = some (83, .inl (cA 0, 8600, .inl kf_7)) → gV p l e R s m args below meth c D clS lo 2 Q 30 [(1, .int (nI j)), (0, .ref hm)] [] Gk B := by
    intro q
    induction q with
    | zero =>
      intro j f1 Gk hj hcp hot hfr k1 k2 k3 k4
      refine gs (pc' := 31) (fun _ _ _ _ _ hl => lv_iload_n hx hb d_Mo_unstash_30 rfl (lv_at hl 0 rfl)) ?_
      refine gs (pc' := 32) (fun _ _ _ _ _ hl => lv_aload_n hx hb d_Mo_unstash_31 rfl (lv_at hl 1 rfl)) ?_
      refine g_get hx hb hts hin_Mo hown hK k1 rfl 19 (by decide) (hts _ wm773) (fun _ h9 => h9) rfl d_Mo_unstash_32 ?_
      refine gsb (pc1 := 60) (pc2 := 38) (fun _ _ _ _ _ => lv_icmp_ge (tgt := 60) hx hb d_Mo_unstash_35 (by decide)) (fun c_43 => ?_) (fun c_43 => ?_)
      · skip
        have nc_43 : j ≥ zt := (nn_ge (a := j) (b := zt) (by omega) (by omega)).1 c_43
        refine gs (pc' := 61) (fun _ _ _ _ _ hl => lv_iconst (v := nI 0) hx hb d_Mo_unstash_60 (by decide)) ?_
        refine gst (pc' := 62) (L' := [(1, .int (nI 0)), (0, .ref hm)]) (fun _ _ _ _ _ hl => lv_istore_n hx hb d_Mo_unstash_61 rfl hl (by decide) rfl) ?_
        refine gsub [0, 1] rfl ?_
        have loop2 : ∀ (q2 j2 : Nat) (f2 : Nat → Int32) (Gl : gT), (j2 + q2 = zb) → (∀ i, i < j2 → sh f2 3 i = kf_7 (4300 + i)) → (oth 3 f1 f2) → (gfr (fun x => x = 70 ∨ x = 75 ∨ x = 76) G Gl) → Gl hm = some (70, .inr (9, [.int (nI th), .int (nI S.n), .ref (A 2), .ref (A 3), .ref (A 4), .ref (A 5), .int sg_1, .int (iI (r1.num.sign)), .ref (A 8), .ref (A 9), .int (nI S.rn), .ref (A 11), .ref (A 12), .ref (A 13), .int (nI S.wn), .ref (A 15), .ref (A 16), .ref (A 17), .ref (A 18), .int (nI zt), .int (nI zb), .int (iI (r1.num.sign))])) → Gl (A 8) = some (75, .inl (cA 0, 38700, .inl f2)) → Gl (A 9) = some (76, .inl (cA 0, 9, .inl (upd (upd sz_17 2 (nI zt)) 3 (nI zb)))) → Gl (A 18) = some (83, .inl (cA 0, 8600, .inl kf_7)) → gV p l e R s m args below meth c D clS lo 2 Q 62 [(1, .int (nI j2)), (0, .ref hm)] [] Gl B := by
          intro q2
          induction q2 with
          | zero =>
            intro j2 f2 Gl hj2 hcp2 hot2 hfr2 l1 l2 l3 l4
            have hmr9 : MR cA A (fup (fup Rr_6 2 r1.num.natAbs) 3 r1.den) Gl := ⟨_, _, l2, l3, RG_set (RG_set rg_20 hot hzt (isD_congr hDt (fun i9 h9 => hcp i9 (by omega)))) hot2 hzb (isD_congr hDb (fun i9 h9 => hcp2 i9 (by omega)))⟩
            have hmb9 := MB_705 v_14 hfr2
            have hgf9 : gfr mT G Gl := mT_705 gfr_rf hfr2
            refine gs (pc' := 63) (fun _ _ _ _ _ hl => lv_iload_n hx hb d_Mo_unstash_62 rfl (lv_at hl 0 rfl)) ?_
            refine gs (pc' := 64) (fun _ _ _ _ _ hl => lv_aload_n hx hb d_Mo_unstash_63 rfl (lv_at hl 1 rfl)) ?_
            refine g_get hx hb hts hin_Mo hown hK l1 rfl 20 (by decide) (hts _ wm774) (fun _ h9 => h9) rfl d_Mo_unstash_64 ?_
            refine gsb (pc1 := 96) (pc2 := 70) (fun _ _ _ _ _ => lv_icmp_ge (tgt := 96) hx hb d_Mo_unstash_67 (by decide)) (fun c_44 => ?_) (fun c_44 => ?_)
            · skip
              have nc_44 : j2 ≥ zb := (nn_ge (a := j2) (b := zb) (by omega) (by omega)).1 c_44
              have hV_45 : MW cA hm A S th qm (some r1) (some r1) Gl := ⟨sg_1, (iI (r1.num.sign)), (nI zt), (nI zb), (iI (r1.num.sign)), (fup (fup Rr_6 2 r1.num.natAbs) 3 r1.den), _, l1, hmr9, l4, v_11, (sm_ ⟨rfl, rfl, rfl⟩), hk9, hmb9⟩
              exact hret 96 _ _ _ d_Mo_unstash_96 hB1 hB2 ⟨rfl, hV_45, hgf9⟩
            · skip
              have nc_44 : j2 < zb := (nn_ge (a := j2) (b := zb) (by omega) (by omega)).2 c_44
              exact absurd nc_44 (by omega)
          | succ q2 ih2 =>
            intro j2 f2 Gl hj2 hcp2 hot2 hfr2 l1 l2 l3 l4
            refine gs (pc' := 63) (fun _ _ _ _ _ hl => lv_iload_n hx hb d_Mo_unstash_62 rfl (lv_at hl 0 rfl)) ?_
            refine gs (pc' := 64) (fun _ _ _ _ _ hl => lv_aload_n hx hb d_Mo_unstash_63 rfl (lv_at hl 1 rfl)) ?_
            refine g_get hx hb hts hin_Mo hown hK l1 rfl 20 (by decide) (hts _ wm774) (fun _ h9 => h9) rfl d_Mo_unstash_64 ?_
            refine gsb (pc1 := 96) (pc2 := 70) (fun _ _ _ _ _ => lv_icmp_ge (tgt := 96) hx hb d_Mo_unstash_67 (by decide)) (fun c_46 => ?_) (fun c_46 => ?_)
            · skip
              have nc_46 : j2 ≥ zb := (nn_ge (a := j2) (b := zb) (by omega) (by omega)).1 c_46
              exact absurd nc_46 (by omega)
            · skip
              have nc_46 : j2 < zb := (nn_ge (a := j2) (b := zb) (by omega) (by omega)).2 c_46
              refine gs (pc' := 71) (fun _ _ _ _ _ hl => lv_aload_n hx hb d_Mo_unstash_70 rfl (lv_at hl 1 rfl)) ?_
              refine g_get hx hb hts hin_Mo hown hK l1 rfl 8 (by decide) (hts _ wm762) (fun _ h9 => h9) rfl d_Mo_unstash_71 ?_
              refine gs (pc' := 77) (fun _ _ _ _ _ hl => lv_sipush (v := nI 12900) hx hb d_Mo_unstash_74 (by decide)) ?_
              refine gs (pc' := 78) (fun _ _ _ _ _ hl => lv_iload_n hx hb d_Mo_unstash_77 rfl (lv_at hl 0 rfl)) ?_
              refine gs (pc' := 79) (fun _ _ _ _ _ hl => lv_iadd hx hb d_Mo_unstash_78) ?_
              refine g_eqi (show (nI 12900) + (nI j2) = nI (4300 * 3 + j2) from (nI_add _ _).trans (congrArg nI (show 12900 + j2 = 4300 * 3 + j2 by omega))) ?_
              refine gs (pc' := 80) (fun _ _ _ _ _ hl => lv_aload_n hx hb d_Mo_unstash_79 rfl (lv_at hl 1 rfl)) ?_
              refine g_get hx hb hts hin_Mo hown hK l1 rfl 18 (by decide) (hts _ wm772) (fun _ h9 => h9) rfl d_Mo_unstash_80 ?_
              refine gs (pc' := 86) (fun _ _ _ _ _ hl => lv_sipush (v := nI 4300) hx hb d_Mo_unstash_83 (by decide)) ?_
              refine gs (pc' := 87) (fun _ _ _ _ _ hl => lv_iload_n hx hb d_Mo_unstash_86 rfl (lv_at hl 0 rfl)) ?_
              refine gs (pc' := 88) (fun _ _ _ _ _ hl => lv_iadd hx hb d_Mo_unstash_87) ?_
              refine g_eqi (show (nI 4300) + (nI j2) = nI (4300 + j2) from nI_add _ _) ?_
              refine g_iald hx hb hK 0 l4 rfl (show vp_in (nI (4300 + j2)) 8600 from vp_in_nI (by omega) (by omega)) d_Mo_unstash_88 ?_
              refine g_eqi (show kf_7 (nI (4300 + j2)).toNatClampNeg = kf_7 (4300 + j2) from by rw [nI_clamp (by omega)]) ?_
              refine g_iast hx hb hK 0 l2 rfl (show vp_in (nI (4300 * 3 + j2)) 38700 from vp_in_nI (by omega) (by omega)) d_Mo_unstash_89 (fun G_47 f_48 o_49 => ?_)
              rw [nI_clamp (by omega)] at f_48
              have f_50 : G_47 hm = some (70, .inr (9, [.int (nI th), .int (nI S.n), .ref (A 2), .ref (A 3), .ref (A 4), .ref (A 5), .int sg_1, .int (iI (r1.num.sign)), .ref (A 8), .ref (A 9), .int (nI S.rn), .ref (A 11), .ref (A 12), .ref (A 13), .int (nI S.wn), .ref (A 15), .ref (A 16), .ref (A 17), .ref (A 18), .int (nI zt), .int (nI zb), .int (iI (r1.num.sign))])) := (o_49 _ (gne l1 l2 (fun e => by cases e))).trans l1
              have f_51 : G_47 (A 9) = some (76, .inl (cA 0, 9, .inl (upd (upd sz_17 2 (nI zt)) 3 (nI zb)))) := (o_49 _ (gne l3 l2 (by simp))).trans l3
              have f_52 : G_47 (A 18) = some (83, .inl (cA 0, 8600, .inl kf_7)) := (o_49 _ (gne l4 l2 (by simp))).trans l4
              refine gst (pc' := 93) (L' := [(1, .int (nI (j2 + 1))), (0, .ref hm)]) (fun _ _ _ _ _ hl => lv_iinc (v := nI (j2 + 1)) hx hb d_Mo_unstash_90 hl (k := 0) rfl (nI_add _ 1) (by decide) rfl) ?_
              refine gs (pc' := 62) (fun _ _ _ _ _ hl => lv_goto (tgt := 62) hx hb d_Mo_unstash_93 (by decide)) ?_
              refine gsub [0, 1] rfl ?_
              exact ih2 (j2 + 1) (upd f2 (4300 * 3 + j2) (kf_7 (4300 + j2))) G_47 (by omega) (fun i9 h9 => by
                rw [sh_us]
                by_cases e9 : i9 = j2
                · subst e9; rw [pk_us]
                · rw [pk_un e9]; exact hcp2 i9 (by omega)) (oth_up hot2 (by omega)) (gfr_put hfr2 l2 (Or.inr (Or.inl rfl)) o_49) f_50 f_48 f_51 f_52
        exact loop2 zb 0 f1 Gk (by omega) (fun i9 h9 => absurd h9 (Nat.not_lt_zero _)) oth_rf hfr k1 k2 k3 k4
      · skip
        have nc_43 : j < zt := (nn_ge (a := j) (b := zt) (by omega) (by omega)).2 c_43
        exact absurd nc_43 (by omega)
    | succ q ih =>
      intro j f1 Gk hj hcp hot hfr k1 k2 k3 k4
      refine gs (pc' := 31) (fun _ _ _ _ _ hl => lv_iload_n hx hb d_Mo_unstash_30 rfl (lv_at hl 0 rfl)) ?_
      refine gs (pc' := 32) (fun _ _ _ _ _ hl => lv_aload_n hx hb d_Mo_unstash_31 rfl (lv_at hl 1 rfl)) ?_
      refine g_get hx hb hts hin_Mo hown hK k1 rfl 19 (by decide) (hts _ wm773) (fun _ h9 => h9) rfl d_Mo_unstash_32 ?_
      refine gsb (pc1 := 60) (pc2 := 38) (fun _ _ _ _ _ => lv_icmp_ge (tgt := 60) hx hb d_Mo_unstash_35 (by decide)) (fun c_53 => ?_) (fun c_53 => ?_)
      · skip
        have nc_53 : j ≥ zt := (nn_ge (a := j) (b := zt) (by omega) (by omega)).1 c_53
        exact absurd nc_53 (by omega)
      · skip
        have nc_53 : j < zt := (nn_ge (a := j) (b := zt) (by omega) (by omega)).2 c_53
        refine gs (pc' := 39) (fun _ _ _ _ _ hl => lv_aload_n hx hb d_Mo_unstash_38 rfl (lv_at hl 1 rfl)) ?_
        refine g_get hx hb hts hin_Mo hown hK k1 rfl 8 (by decide) (hts _ wm762) (fun _ h9 => h9) rfl d_Mo_unstash_39 ?_
        refine gs (pc' := 45) (fun _ _ _ _ _ hl => lv_sipush (v := nI 8600) hx hb d_Mo_unstash_42 (by decide)) ?_
        refine gs (pc' := 46) (fun _ _ _ _ _ hl => lv_iload_n hx hb d_Mo_unstash_45 rfl (lv_at hl 0 rfl)) ?_
        refine gs (pc' := 47) (fun _ _ _ _ _ hl => lv_iadd hx hb d_Mo_unstash_46) ?_
        refine g_eqi (show (nI 8600) + (nI j) = nI (4300 * 2 + j) from (nI_add _ _).trans (congrArg nI (show 8600 + j = 4300 * 2 + j by omega))) ?_
        refine gs (pc' := 48) (fun _ _ _ _ _ hl => lv_aload_n hx hb d_Mo_unstash_47 rfl (lv_at hl 1 rfl)) ?_
        refine g_get hx hb hts hin_Mo hown hK k1 rfl 18 (by decide) (hts _ wm772) (fun _ h9 => h9) rfl d_Mo_unstash_48 ?_
        refine gs (pc' := 52) (fun _ _ _ _ _ hl => lv_iload_n hx hb d_Mo_unstash_51 rfl (lv_at hl 0 rfl)) ?_
        refine g_iald hx hb hK 0 k4 rfl (show vp_in (nI j) 8600 from vp_in_nI (by omega) (by omega)) d_Mo_unstash_52 ?_
        refine g_eqi (show kf_7 (nI j).toNatClampNeg = kf_7 j from by rw [nI_clamp (by omega)]) ?_
        refine g_iast hx hb hK 0 k2 rfl (show vp_in (nI (4300 * 2 + j)) 38700 from vp_in_nI (by omega) (by omega)) d_Mo_unstash_53 (fun G_54 f_55 o_56 => ?_)
        rw [nI_clamp (by omega)] at f_55
        have f_57 : G_54 hm = some (70, .inr (9, [.int (nI th), .int (nI S.n), .ref (A 2), .ref (A 3), .ref (A 4), .ref (A 5), .int sg_1, .int (iI (r1.num.sign)), .ref (A 8), .ref (A 9), .int (nI S.rn), .ref (A 11), .ref (A 12), .ref (A 13), .int (nI S.wn), .ref (A 15), .ref (A 16), .ref (A 17), .ref (A 18), .int (nI zt), .int (nI zb), .int (iI (r1.num.sign))])) := (o_56 _ (gne k1 k2 (fun e => by cases e))).trans k1
        have f_58 : G_54 (A 9) = some (76, .inl (cA 0, 9, .inl (upd (upd sz_17 2 (nI zt)) 3 (nI zb)))) := (o_56 _ (gne k3 k2 (by simp))).trans k3
        have f_59 : G_54 (A 18) = some (83, .inl (cA 0, 8600, .inl kf_7)) := (o_56 _ (gne k4 k2 (by simp))).trans k4
        refine gst (pc' := 57) (L' := [(1, .int (nI (j + 1))), (0, .ref hm)]) (fun _ _ _ _ _ hl => lv_iinc (v := nI (j + 1)) hx hb d_Mo_unstash_54 hl (k := 0) rfl (nI_add _ 1) (by decide) rfl) ?_
        refine gs (pc' := 30) (fun _ _ _ _ _ hl => lv_goto (tgt := 30) hx hb d_Mo_unstash_57 (by decide)) ?_
        refine gsub [0, 1] rfl ?_
        exact ih (j + 1) (upd f1 (4300 * 2 + j) (kf_7 j)) G_54 (by omega) (fun i9 h9 => by
          rw [sh_us]
          by_cases e9 : i9 = j
          · subst e9; rw [pk_us]
          · rw [pk_un e9]; exact hcp i9 (by omega)) (oth_up hot (by omega)) (gfr_put hfr k2 (Or.inr (Or.inl rfl)) o_56) f_57 f_55 f_58 f_59
  exact loop zt 0 lm_16 G_35 (by omega) (fun i9 h9 => absurd h9 (Nat.not_lt_zero _)) oth_rf gf_42 f_38 f_40 f_41 f_39
