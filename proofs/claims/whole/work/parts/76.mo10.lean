set_option maxHeartbeats 4000000 in
set_option maxRecDepth 100000 in
theorem c_Mo_take (l : Launch) (D : va_G) (cA : Nat → ClassId) (lo MC MS : Nat) (G : gT) (B : Nat × Nat) (hm : Nat) (A : Nat → Nat) (I : Nat → Int32) (hob : G hm = some (70, .inr (9, mfs A I))) (Rg : Nat → Nat) (hR : MR cA A Rg G) (so sz : Nat → Int32) (hst : G (A 4) = some (73, .inl (cA 0, 40400, .inl so))) (hss : G (A 5) = some (74, .inl (cA 0, 400, .inl sz))) (r : Nat) (hb_r : r < 9) (v : Nat) (hv : v < 200) (pa : Nat) (hpa : pa < 2) (zz : Nat) (hzz : sz (2 * v + pa) = nI zz) (hz9 : zz ≤ 101) (val : Nat) (hDv : isD (fun k => so (101 * (2 * v + pa) + k)) zz val) (hB1 : B.1 ≤ MC) (hB2 : B.2 ≤ MS) : gMet l y_Mo_take w_Mo_take 0 0 D clS (gtys cA) lo MC MS [.ref hm, .int (nI r), .int (nI v), .int (nI pa)] G B (gQv D clS lo (fun u => u.2 = B ∧ MR cA A (fup Rg r (val)) u.1 ∧ u.1 hm = some (70, .inr (9, mfs A I)) ∧ gfr (fun x => x = 75 ∨ x = 76) G u.1)) := by
  refine g_metv (cc := prog_11_method_18_code) (nL := 5) (L := [(0, .ref hm), (1, .int (nI r)), (2, .int (nI v)), (3, .int (nI pa))]) (by decide +kernel) rfl (Nat.le_of_ble_eq_true rfl) rfl ?_
  intro p e R s m args below meth c Q hF hRc hRs hRf hRl hret
  obtain ⟨hx, hb, hr, hml, hts0, hown, hlocks, hin, hK, hlo, hZ⟩ := hF
  have hts : ∀ w ∈ tbg, w.before args s = true := fun w h => hts0 w (List.mem_cons_of_mem _ h)
  obtain ⟨f, g, hlm, hsz, hRG⟩ := hR
  obtain ⟨zr, hgr, hzr, hDr⟩ := hRG r hb_r
  refine gs (pc' := 1) (fun _ _ _ _ _ hl => lv_aload_n hx hb d_Mo_take_0 rfl (lv_at hl 0 rfl)) ?_
  refine g_get hx hb hts hin_Mo hown hK hob rfl 9 (by decide) (hts _ wm763) (fun _ h9 => h9) rfl d_Mo_take_1 ?_
  refine gs (pc' := 5) (fun _ _ _ _ _ hl => lv_iload_n hx hb d_Mo_take_4 rfl (lv_at hl 1 rfl)) ?_
  refine gs (pc' := 6) (fun _ _ _ _ _ hl => lv_aload_n hx hb d_Mo_take_5 rfl (lv_at hl 0 rfl)) ?_
  refine g_get hx hb hts hin_Mo hown hK hob rfl 5 (by decide) (hts _ wm759) (fun _ h9 => h9) rfl d_Mo_take_6 ?_
  refine gs (pc' := 10) (fun _ _ _ _ _ hl => lv_iconst (v := nI 2) hx hb d_Mo_take_9 (by decide)) ?_
  refine gs (pc' := 11) (fun _ _ _ _ _ hl => lv_iload_n hx hb d_Mo_take_10 rfl (lv_at hl 2 rfl)) ?_
  refine gs (pc' := 12) (fun _ _ _ _ _ hl => lv_imul hx hb d_Mo_take_11) ?_
  refine g_eqi (show (nI 2) * (nI v) = nI (2 * v) from pk_mul _ _) ?_
  refine gs (pc' := 13) (fun _ _ _ _ _ hl => lv_iload_n hx hb d_Mo_take_12 rfl (lv_at hl 3 rfl)) ?_
  refine gs (pc' := 14) (fun _ _ _ _ _ hl => lv_iadd hx hb d_Mo_take_13) ?_
  refine g_eqi (show (nI (2 * v)) + (nI pa) = nI (2 * v + pa) from (nI_add _ _).trans (congrArg nI (show (2 * v) + pa = 2 * v + pa by omega))) ?_
  refine g_iald hx hb hK 0 hss rfl (show vp_in (nI (2 * v + pa)) 400 from vp_in_nI (by omega) (by omega)) d_Mo_take_14 ?_
  refine g_eqi (show sz (nI (2 * v + pa)).toNatClampNeg = sz (2 * v + pa) from by rw [nI_clamp (by omega)]) ?_
  refine g_eqi (show sz (2 * v + pa) = nI zz from hzz) ?_
  refine g_iast hx hb hK 0 hsz rfl (show vp_in (nI r) 9 from vp_in_nI (by omega) (by omega)) d_Mo_take_15 (fun G_1 f_2 o_3 => ?_)
  rw [nI_clamp (by omega)] at f_2
  have f_4 : G_1 hm = some (70, .inr (9, [.int (I 0), .int (I 1), .ref (A 2), .ref (A 3), .ref (A 4), .ref (A 5), .int (I 6), .int (I 7), .ref (A 8), .ref (A 9), .int (I 10), .ref (A 11), .ref (A 12), .ref (A 13), .int (I 14), .ref (A 15), .ref (A 16), .ref (A 17), .ref (A 18), .int (I 19), .int (I 20), .int (I 21)])) := (o_3 _ (gne hob hsz (fun e => by cases e))).trans hob
  have f_5 : G_1 (A 8) = some (75, .inl (cA 0, 38700, .inl f)) := (o_3 _ (gne hlm hsz (by simp))).trans hlm
  have f_6 : G_1 (A 4) = some (73, .inl (cA 0, 40400, .inl so)) := (o_3 _ (gne hst hsz (by simp))).trans hst
  have f_7 : G_1 (A 5) = some (74, .inl (cA 0, 400, .inl sz)) := (o_3 _ (gne hss hsz (by simp))).trans hss
  have gf_8 : gfr (fun x => x = 75 ∨ x = 76) G G_1 := gfr_put gfr_rf hsz (show (76 : Nat) = 75 ∨ (76 : Nat) = 76 by simp) o_3
  refine gs (pc' := 17) (fun _ _ _ _ _ hl => lv_iconst (v := nI 0) hx hb d_Mo_take_16 (by decide)) ?_
  refine gst (pc' := 19) (L' := [(4, .int (nI 0)), (0, .ref hm), (1, .int (nI r)), (2, .int (nI v)), (3, .int (nI pa))]) (fun _ _ _ _ _ hl => lv_istore hx hb d_Mo_take_17 hl (by decide) rfl) ?_
  refine gsub [0, 1, 2, 3, 4] rfl ?_
  have loop : ∀ (q j : Nat) (f1 : Nat → Int32) (Gk : gT), (j + q = zz) → (∀ i, i < j → sh f1 r i = so (101 * (2 * v + pa) + i)) → (oth r f f1) → (gfr (fun x => x = 75 ∨ x = 76) G Gk) → Gk hm = some (70, .inr (9, [.int (I 0), .int (I 1), .ref (A 2), .ref (A 3), .ref (A 4), .ref (A 5), .int (I 6), .int (I 7), .ref (A 8), .ref (A 9), .int (I 10), .ref (A 11), .ref (A 12), .ref (A 13), .int (I 14), .ref (A 15), .ref (A 16), .ref (A 17), .ref (A 18), .int (I 19), .int (I 20), .int (I 21)])) → Gk (A 8) = some (75, .inl (cA 0, 38700, .inl f1)) → Gk (A 9) = some (76, .inl (cA 0, 9, .inl (upd g r (nI zz)))) → Gk (A 4) = some (73, .inl (cA 0, 40400, .inl so)) → gV p l e R s m args below meth c D clS lo 5 Q 19 [(4, .int (nI j)), (0, .ref hm), (1, .int (nI r)), (2, .int (nI v)), (3, .int (nI pa))] [] Gk B := by
    intro q
    induction q with
    | zero =>
      intro j f1 Gk hj hcp hot hfr k1 k2 k3 k4
      have hjn : zz = j := by omega
      refine gs (pc' := 21) (fun _ _ _ _ _ hl => lv_iload hx hb d_Mo_take_19 (lv_at hl 0 rfl)) ?_
      refine gs (pc' := 22) (fun _ _ _ _ _ hl => lv_aload_n hx hb d_Mo_take_21 rfl (lv_at hl 1 rfl)) ?_
      refine g_get hx hb hts hin_Mo hown hK k1 rfl 9 (by decide) (hts _ wm763) (fun _ h9 => h9) rfl d_Mo_take_22 ?_
      refine gs (pc' := 26) (fun _ _ _ _ _ hl => lv_iload_n hx hb d_Mo_take_25 rfl (lv_at hl 2 rfl)) ?_
      refine g_iald hx hb hK 0 k3 rfl (show vp_in (nI r) 9 from vp_in_nI (by omega) (by omega)) d_Mo_take_26 ?_
      refine g_eqi (show (upd g r (nI zz)) (nI r).toNatClampNeg = (upd g r (nI zz)) r from by rw [nI_clamp (by omega)]) ?_
      refine g_eqi (show (upd g r (nI zz)) r = nI zz from pk_us) ?_
      refine gsb (pc1 := 65) (pc2 := 30) (fun _ _ _ _ _ => lv_icmp_ge (tgt := 65) hx hb d_Mo_take_27 (by decide)) (fun c_9 => ?_) (fun c_9 => ?_)
      · skip
        have nc_9 : j ≥ zz := (nn_ge (a := j) (b := zz) (by omega) (by omega)).1 c_9
        exact hret 65 _ _ _ d_Mo_take_65 hB1 hB2 ⟨rfl, ⟨_, _, k2, k3, RG_set hRG hot (by omega) (isD_congr hDv (fun i9 h9 => hcp i9 (by omega)))⟩, k1, gfr_mono hfr (fun x h9 => by omega)⟩
      · skip
        have nc_9 : j < zz := (nn_ge (a := j) (b := zz) (by omega) (by omega)).2 c_9
        exact absurd nc_9 (by omega)
    | succ q ih =>
      intro j f1 Gk hj hcp hot hfr k1 k2 k3 k4
      refine gs (pc' := 21) (fun _ _ _ _ _ hl => lv_iload hx hb d_Mo_take_19 (lv_at hl 0 rfl)) ?_
      refine gs (pc' := 22) (fun _ _ _ _ _ hl => lv_aload_n hx hb d_Mo_take_21 rfl (lv_at hl 1 rfl)) ?_
      refine g_get hx hb hts hin_Mo hown hK k1 rfl 9 (by decide) (hts _ wm763) (fun _ h9 => h9) rfl d_Mo_take_22 ?_
      refine gs (pc' := 26) (fun _ _ _ _ _ hl => lv_iload_n hx hb d_Mo_take_25 rfl (lv_at hl 2 rfl)) ?_
      refine g_iald hx hb hK 0 k3 rfl (show vp_in (nI r) 9 from vp_in_nI (by omega) (by omega)) d_Mo_take_26 ?_
      refine g_eqi (show (upd g r (nI zz)) (nI r).toNatClampNeg = (upd g r (nI zz)) r from by rw [nI_clamp (by omega)]) ?_
      refine g_eqi (show (upd g r (nI zz)) r = nI zz from pk_us) ?_
      refine gsb (pc1 := 65) (pc2 := 30) (fun _ _ _ _ _ => lv_icmp_ge (tgt := 65) hx hb d_Mo_take_27 (by decide)) (fun c_10 => ?_) (fun c_10 => ?_)
      · skip
        have nc_10 : j ≥ zz := (nn_ge (a := j) (b := zz) (by omega) (by omega)).1 c_10
        exact absurd nc_10 (by omega)
      · skip
        have nc_10 : j < zz := (nn_ge (a := j) (b := zz) (by omega) (by omega)).2 c_10
        refine gs (pc' := 31) (fun _ _ _ _ _ hl => lv_aload_n hx hb d_Mo_take_30 rfl (lv_at hl 1 rfl)) ?_
        refine g_get hx hb hts hin_Mo hown hK k1 rfl 8 (by decide) (hts _ wm762) (fun _ h9 => h9) rfl d_Mo_take_31 ?_
        refine gs (pc' := 37) (fun _ _ _ _ _ hl => lv_sipush (v := nI 4300) hx hb d_Mo_take_34 (by decide)) ?_
        refine gs (pc' := 38) (fun _ _ _ _ _ hl => lv_iload_n hx hb d_Mo_take_37 rfl (lv_at hl 2 rfl)) ?_
        refine gs (pc' := 39) (fun _ _ _ _ _ hl => lv_imul hx hb d_Mo_take_38) ?_
        refine g_eqi (show (nI 4300) * (nI r) = nI (4300 * r) from pk_mul _ _) ?_
        refine gs (pc' := 41) (fun _ _ _ _ _ hl => lv_iload hx hb d_Mo_take_39 (lv_at hl 0 rfl)) ?_
        refine gs (pc' := 42) (fun _ _ _ _ _ hl => lv_iadd hx hb d_Mo_take_41) ?_
        refine g_eqi (show (nI (4300 * r)) + (nI j) = nI ((4300 * r) + j) from nI_add _ _) ?_
        refine gs (pc' := 43) (fun _ _ _ _ _ hl => lv_aload_n hx hb d_Mo_take_42 rfl (lv_at hl 1 rfl)) ?_
        refine g_get hx hb hts hin_Mo hown hK k1 rfl 4 (by decide) (hts _ wm758) (fun _ h9 => h9) rfl d_Mo_take_43 ?_
        refine gs (pc' := 48) (fun _ _ _ _ _ hl => lv_bipush (v := nI 101) hx hb d_Mo_take_46 (by decide)) ?_
        refine gs (pc' := 49) (fun _ _ _ _ _ hl => lv_iconst (v := nI 2) hx hb d_Mo_take_48 (by decide)) ?_
        refine gs (pc' := 50) (fun _ _ _ _ _ hl => lv_iload_n hx hb d_Mo_take_49 rfl (lv_at hl 3 rfl)) ?_
        refine gs (pc' := 51) (fun _ _ _ _ _ hl => lv_imul hx hb d_Mo_take_50) ?_
        refine g_eqi (show (nI 2) * (nI v) = nI (2 * v) from pk_mul _ _) ?_
        refine gs (pc' := 52) (fun _ _ _ _ _ hl => lv_iload_n hx hb d_Mo_take_51 rfl (lv_at hl 4 rfl)) ?_
        refine gs (pc' := 53) (fun _ _ _ _ _ hl => lv_iadd hx hb d_Mo_take_52) ?_
        refine g_eqi (show (nI (2 * v)) + (nI pa) = nI (2 * v + pa) from (nI_add _ _).trans (congrArg nI (show (2 * v) + pa = 2 * v + pa by omega))) ?_
        refine gs (pc' := 54) (fun _ _ _ _ _ hl => lv_imul hx hb d_Mo_take_53) ?_
        refine g_eqi (show (nI 101) * (nI (2 * v + pa)) = nI (101 * (2 * v + pa)) from (pk_mul _ _).trans (congrArg nI (show 101 * (2 * v + pa) = 101 * (2 * v + pa) by omega))) ?_
        refine gs (pc' := 56) (fun _ _ _ _ _ hl => lv_iload hx hb d_Mo_take_54 (lv_at hl 0 rfl)) ?_
        refine gs (pc' := 57) (fun _ _ _ _ _ hl => lv_iadd hx hb d_Mo_take_56) ?_
        refine g_eqi (show (nI (101 * (2 * v + pa))) + (nI j) = nI (101 * (2 * v + pa) + j) from (nI_add _ _).trans (congrArg nI (show (101 * (2 * v + pa)) + j = 101 * (2 * v + pa) + j by omega))) ?_
        refine g_iald hx hb hK 0 k4 rfl (show vp_in (nI (101 * (2 * v + pa) + j)) 40400 from vp_in_nI (by omega) (by omega)) d_Mo_take_57 ?_
        refine g_eqi (show so (nI (101 * (2 * v + pa) + j)).toNatClampNeg = so (101 * (2 * v + pa) + j) from by rw [nI_clamp (by omega)]) ?_
        refine g_iast hx hb hK 0 k2 rfl (show vp_in (nI ((4300 * r) + j)) 38700 from vp_in_nI (by omega) (by omega)) d_Mo_take_58 (fun G_11 f_12 o_13 => ?_)
        rw [nI_clamp (by omega)] at f_12
        have f_14 : G_11 hm = some (70, .inr (9, [.int (I 0), .int (I 1), .ref (A 2), .ref (A 3), .ref (A 4), .ref (A 5), .int (I 6), .int (I 7), .ref (A 8), .ref (A 9), .int (I 10), .ref (A 11), .ref (A 12), .ref (A 13), .int (I 14), .ref (A 15), .ref (A 16), .ref (A 17), .ref (A 18), .int (I 19), .int (I 20), .int (I 21)])) := (o_13 _ (gne k1 k2 (fun e => by cases e))).trans k1
        have f_15 : G_11 (A 9) = some (76, .inl (cA 0, 9, .inl (upd g r (nI zz)))) := (o_13 _ (gne k3 k2 (by simp))).trans k3
        have f_16 : G_11 (A 4) = some (73, .inl (cA 0, 40400, .inl so)) := (o_13 _ (gne k4 k2 (by simp))).trans k4
        refine gst (pc' := 62) (L' := [(4, .int (nI (j + 1))), (0, .ref hm), (1, .int (nI r)), (2, .int (nI v)), (3, .int (nI pa))]) (fun _ _ _ _ _ hl => lv_iinc (v := nI (j + 1)) hx hb d_Mo_take_59 hl (k := 0) rfl (nI_add _ 1) (by decide) rfl) ?_
        refine gs (pc' := 19) (fun _ _ _ _ _ hl => lv_goto (tgt := 19) hx hb d_Mo_take_62 (by decide)) ?_
        refine gsub [0, 1, 2, 3, 4] rfl ?_
        exact ih (j + 1) (upd f1 ((4300 * r) + j) (so (101 * (2 * v + pa) + j))) G_11 (by omega) (fun i9 h9 => by
          rw [sh_us]
          by_cases e9 : i9 = j
          · subst e9; rw [pk_us]
          · rw [pk_un e9]; exact hcp i9 (by omega)) (oth_up hot (by omega)) (gfr_put hfr k2 (Or.inl rfl) o_13) f_14 f_12 f_15 f_16
  exact loop zz 0 f G_1 (by omega) (fun i9 h9 => absurd h9 (Nat.not_lt_zero _)) oth_rf gf_8 f_4 f_5 f_2 f_6
set_option maxHeartbeats 4000000 in
set_option maxRecDepth 100000 in
theorem c_Mo_load (l : Launch) (D : va_G) (cA : Nat → ClassId) (lo MC MS : Nat) (G : gT) (B : Nat × Nat) (hm : Nat) (A : Nat → Nat) (S : St) (th : Nat) (qm qo qk : Option Rat) (hV : MW cA hm A S th qm qo qk G) (hW : WF S) (v : Nat) (hv : v < S.n) (hB1 : B.1 ≤ MC) (hB2 : B.2 ≤ MS) : gMet l y_Mo_load w_Mo_load 1 24 D clS (gtys cA) lo MC MS [.ref hm, .int (nI v)] G B (gQv D clS lo (fun u => u.2 = B ∧ MW cA hm A S th (some (S.v v)) qo qk u.1 ∧ gfr mT G u.1)) := by
  refine g_metv (cc := prog_11_method_19_code) (nL := 2) (L := [(0, .ref hm), (1, .int (nI v))]) (by decide +kernel) rfl (Nat.le_of_ble_eq_true rfl) rfl ?_
  intro p e R s m args below meth c Q hF hRc hRs hRf hRl hret
  obtain ⟨hx, hb, hr, hml, hts0, hown, hlocks, hin, hK, hlo, hZ⟩ := hF
  have hts : ∀ w ∈ tbg, w.before args s = true := fun w h => hts0 w (List.mem_cons_of_mem _ h)
  have hn := hW.n
  have hrn := hW.rn
  have hwn := hW.wn
  refine gs (pc' := 1) (fun _ _ _ _ _ hl => lv_aload_n hx hb d_Mo_load_0 rfl (lv_at hl 0 rfl)) ?_
  refine gs (pc' := 2) (fun _ _ _ _ _ hl => lv_iconst (v := nI 0) hx hb d_Mo_load_1 (by decide)) ?_
  refine gs (pc' := 3) (fun _ _ _ _ _ hl => lv_iload_n hx hb d_Mo_load_2 rfl (lv_at hl 1 rfl)) ?_
  refine gs (pc' := 4) (fun _ _ _ _ _ hl => lv_iconst (v := nI 0) hx hb d_Mo_load_3 (by decide)) ?_
  obtain ⟨sg_1, sh_2, kt_3, kb_4, ks_5, Rr_6, kf_7, v_8, v_9, v_10, v_11, v_12, v_13, v_14⟩ := id hV
  have f_15 : G hm = some (70, .inr (9, [.int (nI th), .int (nI S.n), .ref (A 2), .ref (A 3), .ref (A 4), .ref (A 5), .int sg_1, .int sh_2, .ref (A 8), .ref (A 9), .int (nI S.rn), .ref (A 11), .ref (A 12), .ref (A 13), .int (nI S.wn), .ref (A 15), .ref (A 16), .ref (A 17), .ref (A 18), .int kt_3, .int kb_4, .int ks_5])) := v_8
  obtain ⟨sgn_16, unt_17, sto_18, szs_19, f_20, f_21, f_22, f_23, hv_24⟩ := id v_14.1
  obtain ⟨zz_25, e_26, b_27, D_28⟩ := (hv_24 v (by omega)).2.2.1
  refine g_outv hlo (g_runV (As := [.int (nI 0), .int (nI v), .int (nI 0)]) (rest := []) ⟨hx, hb, hml, hown, hts⟩ hK hZ hRc hRs (c_Mo_take l D cA lo MC MS G B hm A (mi (nI th) (nI S.n) sg_1 sh_2 (nI S.rn) (nI S.wn) kt_3 kb_4 ks_5) f_15 Rr_6 v_9 sto_18 szs_19 f_22 f_23 0 (by decide) v (by omega) 0 (by decide) zz_25 e_26 b_27 ((S.v v).num.natAbs) D_28 hB1 hB2) (fun _ _ => cwV 3 hts (tb_good (tb_cons wm901 (tb_cons wm903 (tb_cons ws35 (tb_cons wm12 k_Mo_take))))) rfl rfl rfl (by decide +kernel) ⟨by rw [hRf]; exact Nat.le_of_ble_eq_true rfl, by rw [hRl]; exact Nat.le_of_ble_eq_true rfl⟩) f_15 rfl hB1 hB2 rfl (Nat.le_of_ble_eq_true rfl) d_Mo_load_4) (fun G_29 B_30 p_31 => ?_)
  obtain ⟨e_32, mr_33, f_34, gf_35⟩ := p_31
  have e_32b : B = B_30 := e_32.symm
  subst e_32b
  have gf_36 : gfr mT G G_29 := mT_75 gfr_rf gf_35
  have mb_37 : MB cA A S G_29 := MB_75 v_14 gf_35
  have f_38 : G_29 hm = some (70, .inr (9, [.int (nI th), .int (nI S.n), .ref (A 2), .ref (A 3), .ref (A 4), .ref (A 5), .int sg_1, .int sh_2, .ref (A 8), .ref (A 9), .int (nI S.rn), .ref (A 11), .ref (A 12), .ref (A 13), .int (nI S.wn), .ref (A 15), .ref (A 16), .ref (A 17), .ref (A 18), .int kt_3, .int kb_4, .int ks_5])) := f_34
  have f_39 : G_29 (A 18) = some (83, .inl (cA 0, 8600, .inl kf_7)) := gf_35 _ _ v_10 (show ¬ ((83 : Nat) = 75 ∨ (83 : Nat) = 76) by decide)
  have f_40 : G_29 (A 2) = some (71, .inl (cA 0, 200, .inl sgn_16)) := gf_35 _ _ f_20 (show ¬ ((71 : Nat) = 75 ∨ (71 : Nat) = 76) by decide)
  have f_41 : G_29 (A 3) = some (72, .inl (cA 0, 200, .inl unt_17)) := gf_35 _ _ f_21 (show ¬ ((72 : Nat) = 75 ∨ (72 : Nat) = 76) by decide)
  have f_42 : G_29 (A 4) = some (73, .inl (cA 0, 40400, .inl sto_18)) := gf_35 _ _ f_22 (show ¬ ((73 : Nat) = 75 ∨ (73 : Nat) = 76) by decide)
  have f_43 : G_29 (A 5) = some (74, .inl (cA 0, 400, .inl szs_19)) := gf_35 _ _ f_23 (show ¬ ((74 : Nat) = 75 ∨ (74 : Nat) = 76) by decide)
  obtain ⟨Rr_44, hR_45⟩ : ∃ y9, y9 = (fup Rr_6 0 ((S.v v).num.natAbs)) := ⟨_, rfl⟩
  rw [← hR_45] at mr_33
  have e_46 : Rr_44 0 = (S.v v).num.natAbs := (congrFun hR_45 0).trans (rfl)
  have fm_47 : ∀ r9, qo = some r9 → fc sh_2 (Rr_44 2) (Rr_44 3) r9 := by rw [show Rr_44 2 = Rr_6 2 from congrFun hR_45 2, show Rr_44 3 = Rr_6 3 from congrFun hR_45 3]; exact v_12
  refine gs (pc' := 8) (fun _ _ _ _ _ hl => lv_aload_n hx hb d_Mo_load_7 rfl (lv_at hl 0 rfl)) ?_
  refine gs (pc' := 9) (fun _ _ _ _ _ hl => lv_iconst (v := nI 1) hx hb d_Mo_load_8 (by decide)) ?_
  refine gs (pc' := 10) (fun _ _ _ _ _ hl => lv_iload_n hx hb d_Mo_load_9 rfl (lv_at hl 1 rfl)) ?_
  refine gs (pc' := 11) (fun _ _ _ _ _ hl => lv_iconst (v := nI 1) hx hb d_Mo_load_10 (by decide)) ?_
  obtain ⟨zz_48, e_49, b_50, D_51⟩ := (hv_24 v (by omega)).2.2.2
  refine g_outv hlo (g_runV (As := [.int (nI 1), .int (nI v), .int (nI 1)]) (rest := []) ⟨hx, hb, hml, hown, hts⟩ hK hZ hRc hRs (c_Mo_take l D cA lo MC MS G_29 B hm A (mi (nI th) (nI S.n) sg_1 sh_2 (nI S.rn) (nI S.wn) kt_3 kb_4 ks_5) f_38 Rr_44 mr_33 sto_18 szs_19 f_42 f_43 1 (by decide) v (by omega) 1 (by decide) zz_48 e_49 b_50 ((S.v v).den) D_51 hB1 hB2) (fun _ _ => cwV 3 hts (tb_good (tb_cons wm901 (tb_cons wm903 (tb_cons ws35 (tb_cons wm12 k_Mo_take))))) rfl rfl rfl (by decide +kernel) ⟨by rw [hRf]; exact Nat.le_of_ble_eq_true rfl, by rw [hRl]; exact Nat.le_of_ble_eq_true rfl⟩) f_38 rfl hB1 hB2 rfl (Nat.le_of_ble_eq_true rfl) d_Mo_load_11) (fun G_52 B_53 p_54 => ?_)
  obtain ⟨e_55, mr_56, f_57, gf_58⟩ := p_54
  have e_55b : B = B_53 := e_55.symm
  subst e_55b
  have gf_59 : gfr mT G G_52 := mT_75 gf_36 gf_58
  have mb_60 : MB cA A S G_52 := MB_75 mb_37 gf_58
  have f_61 : G_52 hm = some (70, .inr (9, [.int (nI th), .int (nI S.n), .ref (A 2), .ref (A 3), .ref (A 4), .ref (A 5), .int sg_1, .int sh_2, .ref (A 8), .ref (A 9), .int (nI S.rn), .ref (A 11), .ref (A 12), .ref (A 13), .int (nI S.wn), .ref (A 15), .ref (A 16), .ref (A 17), .ref (A 18), .int kt_3, .int kb_4, .int ks_5])) := f_57
  have f_62 : G_52 (A 18) = some (83, .inl (cA 0, 8600, .inl kf_7)) := gf_58 _ _ f_39 (show ¬ ((83 : Nat) = 75 ∨ (83 : Nat) = 76) by decide)
  have f_63 : G_52 (A 2) = some (71, .inl (cA 0, 200, .inl sgn_16)) := gf_58 _ _ f_40 (show ¬ ((71 : Nat) = 75 ∨ (71 : Nat) = 76) by decide)
  have f_64 : G_52 (A 3) = some (72, .inl (cA 0, 200, .inl unt_17)) := gf_58 _ _ f_41 (show ¬ ((72 : Nat) = 75 ∨ (72 : Nat) = 76) by decide)
  have f_65 : G_52 (A 4) = some (73, .inl (cA 0, 40400, .inl sto_18)) := gf_58 _ _ f_42 (show ¬ ((73 : Nat) = 75 ∨ (73 : Nat) = 76) by decide)
  have f_66 : G_52 (A 5) = some (74, .inl (cA 0, 400, .inl szs_19)) := gf_58 _ _ f_43 (show ¬ ((74 : Nat) = 75 ∨ (74 : Nat) = 76) by decide)
  obtain ⟨Rr_67, hR_68⟩ : ∃ y9, y9 = (fup Rr_44 1 ((S.v v).den)) := ⟨_, rfl⟩
  rw [← hR_68] at mr_56
  have e_69 : Rr_67 0 = (S.v v).num.natAbs := (congrFun hR_68 0).trans e_46
  have e_70 : Rr_67 1 = (S.v v).den := (congrFun hR_68 1).trans (rfl)
  have fm_71 : ∀ r9, qo = some r9 → fc sh_2 (Rr_67 2) (Rr_67 3) r9 := by rw [show Rr_67 2 = Rr_44 2 from congrFun hR_68 2, show Rr_67 3 = Rr_44 3 from congrFun hR_68 3]; exact fm_47
  refine gs (pc' := 15) (fun _ _ _ _ _ hl => lv_aload_n hx hb d_Mo_load_14 rfl (lv_at hl 0 rfl)) ?_
  refine gs (pc' := 16) (fun _ _ _ _ _ hl => lv_aload_n hx hb d_Mo_load_15 rfl (lv_at hl 0 rfl)) ?_
  refine g_get hx hb hts hin_Mo hown hK f_61 rfl 2 (by decide) (hts _ wm756) (fun _ h9 => h9) rfl d_Mo_load_16 ?_
  refine gs (pc' := 20) (fun _ _ _ _ _ hl => lv_iload_n hx hb d_Mo_load_19 rfl (lv_at hl 1 rfl)) ?_
  refine g_iald hx hb hK 0 f_63 rfl (show vp_in (nI v) 200 from vp_in_nI (by omega) (by omega)) d_Mo_load_20 ?_
  refine g_eqi (show sgn_16 (nI v).toNatClampNeg = sgn_16 v from by rw [nI_clamp (by omega)]) ?_
  refine g_eqi (show sgn_16 v = iI ((S.v v).num.sign) from (hv_24 v (by omega)).1) ?_
  refine g_put (ty := .int) hx hb hts hin_Mo ty_Mo ty_Mo_ok nm_Mo hown hK f_61 rfl 6 (by decide) (hts _ wm760) (fun _ h9 => h9) rfl (by decide +kernel) rfl rfl (Nat.le_of_ble_eq_true rfl) d_Mo_load_21 (fun G_72 f_73 o_74 => ?_)
  have f_75 : G_72 hm = some (70, .inr (9, [.int (nI th), .int (nI S.n), .ref (A 2), .ref (A 3), .ref (A 4), .ref (A 5), .int (iI ((S.v v).num.sign)), .int sh_2, .ref (A 8), .ref (A 9), .int (nI S.rn), .ref (A 11), .ref (A 12), .ref (A 13), .int (nI S.wn), .ref (A 15), .ref (A 16), .ref (A 17), .ref (A 18), .int kt_3, .int kb_4, .int ks_5])) := f_73
  have f_76 : G_72 (A 18) = some (83, .inl (cA 0, 8600, .inl kf_7)) := (o_74 _ (gne f_62 f_61 (fun e => by cases e))).trans f_62
  have f_77 : G_72 (A 2) = some (71, .inl (cA 0, 200, .inl sgn_16)) := (o_74 _ (gne f_63 f_61 (fun e => by cases e))).trans f_63
  have f_78 : G_72 (A 3) = some (72, .inl (cA 0, 200, .inl unt_17)) := (o_74 _ (gne f_64 f_61 (fun e => by cases e))).trans f_64
  have f_79 : G_72 (A 4) = some (73, .inl (cA 0, 40400, .inl sto_18)) := (o_74 _ (gne f_65 f_61 (fun e => by cases e))).trans f_65
  have f_80 : G_72 (A 5) = some (74, .inl (cA 0, 400, .inl szs_19)) := (o_74 _ (gne f_66 f_61 (fun e => by cases e))).trans f_66
  have gf_81 : gfr mT G G_72 := gfr_put gf_59 f_61 (show mT 70 by decide) o_74
  have gf_82 : gfr (fun x => x = 70) _ G_72 := gfr_put gfr_rf f_61 rfl o_74
  have mr_83 : MR cA A Rr_67 G_72 := MR_fr mr_56 gf_82 (show ¬ (75 : Nat) = 70 by decide) (show ¬ (76 : Nat) = 70 by decide)
  have mb_84 : MB cA A S G_72 := MB_fr mb_60 gf_82 (fun x h9 => by omega)
  have hV_85 : MW cA hm A S th (some (S.v v)) qo qk G_72 := ⟨(iI ((S.v v).num.sign)), sh_2, kt_3, kb_4, ks_5, Rr_67, _, f_75, mr_83, f_76, (sm_ ⟨rfl, e_69, e_70⟩), fm_71, v_13, mb_84⟩
  exact hret 24 _ _ _ d_Mo_load_24 hB1 hB2 ⟨rfl, hV_85, gf_81⟩
set_option maxHeartbeats 4000000 in
set_option maxRecDepth 100000 in
theorem c_Mo_loadOther (l : Launch) (D : va_G) (cA : Nat → ClassId) (lo MC MS : Nat) (G : gT) (B : Nat × Nat) (hm : Nat) (A : Nat → Nat) (S : St) (th : Nat) (qm qo qk : Option Rat) (hV : MW cA hm A S th qm qo qk G) (hW : WF S) (v : Nat) (hv : v < S.n) (hB1 : B.1 ≤ MC) (hB2 : B.2 ≤ MS) : gMet l y_Mo_loadOther w_Mo_loadOther 1 24 D clS (gtys cA) lo MC MS [.ref hm, .int (nI v)] G B (gQv D clS lo (fun u => u.2 = B ∧ MW cA hm A S th qm (some (S.v v)) qk u.1 ∧ gfr mT G u.1)) := by
  refine g_metv (cc := prog_11_method_20_code) (nL := 2) (L := [(0, .ref hm), (1, .int (nI v))]) (by decide +kernel) rfl (Nat.le_of_ble_eq_true rfl) rfl ?_
  intro p e R s m args below meth c Q hF hRc hRs hRf hRl hret
  obtain ⟨hx, hb, hr, hml, hts0, hown, hlocks, hin, hK, hlo, hZ⟩ := hF
  have hts : ∀ w ∈ tbg, w.before args s = true := fun w h => hts0 w (List.mem_cons_of_mem _ h)
  have hn := hW.n
  have hrn := hW.rn
  have hwn := hW.wn
  refine gs (pc' := 1) (fun _ _ _ _ _ hl => lv_aload_n hx hb d_Mo_loadOther_0 rfl (lv_at hl 0 rfl)) ?_
  refine gs (pc' := 2) (fun _ _ _ _ _ hl => lv_iconst (v := nI 2) hx hb d_Mo_loadOther_1 (by decide)) ?_
  refine gs (pc' := 3) (fun _ _ _ _ _ hl => lv_iload_n hx hb d_Mo_loadOther_2 rfl (lv_at hl 1 rfl)) ?_
  refine gs (pc' := 4) (fun _ _ _ _ _ hl => lv_iconst (v := nI 0) hx hb d_Mo_loadOther_3 (by decide)) ?_
  obtain ⟨sg_1, sh_2, kt_3, kb_4, ks_5, Rr_6, kf_7, v_8, v_9, v_10, v_11, v_12, v_13, v_14⟩ := id hV
  have f_15 : G hm = some (70, .inr (9, [.int (nI th), .int (nI S.n), .ref (A 2), .ref (A 3), .ref (A 4), .ref (A 5), .int sg_1, .int sh_2, .ref (A 8), .ref (A 9), .int (nI S.rn), .ref (A 11), .ref (A 12), .ref (A 13), .int (nI S.wn), .ref (A 15), .ref (A 16), .ref (A 17), .ref (A 18), .int kt_3, .int kb_4, .int ks_5])) := v_8
  obtain ⟨sgn_16, unt_17, sto_18, szs_19, f_20, f_21, f_22, f_23, hv_24⟩ := id v_14.1
  obtain ⟨zz_25, e_26, b_27, D_28⟩ := (hv_24 v (by omega)).2.2.1
  refine g_outv hlo (g_runV (As := [.int (nI 2), .int (nI v), .int (nI 0)]) (rest := []) ⟨hx, hb, hml, hown, hts⟩ hK hZ hRc hRs (c_Mo_take l D cA lo MC MS G B hm A (mi (nI th) (nI S.n) sg_1 sh_2 (nI S.rn) (nI S.wn) kt_3 kb_4 ks_5) f_15 Rr_6 v_9 sto_18 szs_19 f_22 f_23 2 (by decide) v (by omega) 0 (by decide) zz_25 e_26 b_27 ((S.v v).num.natAbs) D_28 hB1 hB2) (fun _ _ => cwV 3 hts (tb_good (tb_cons wm901 (tb_cons wm903 (tb_cons ws35 (tb_cons wm12 k_Mo_take))))) rfl rfl rfl (by decide +kernel) ⟨by rw [hRf]; exact Nat.le_of_ble_eq_true rfl, by rw [hRl]; exact Nat.le_of_ble_eq_true rfl⟩) f_15 rfl hB1 hB2 rfl (Nat.le_of_ble_eq_true rfl) d_Mo_loadOther_4) (fun G_29 B_30 p_31 => ?_)
  obtain ⟨e_32, mr_33, f_34, gf_35⟩ := p_31
  have e_32b : B = B_30 := e_32.symm
  subst e_32b
  have gf_36 : gfr mT G G_29 := mT_75 gfr_rf gf_35
  have mb_37 : MB cA A S G_29 := MB_75 v_14 gf_35
  have f_38 : G_29 hm = some (70, .inr (9, [.int (nI th), .int (nI S.n), .ref (A 2), .ref (A 3), .ref (A 4), .ref (A 5), .int sg_1, .int sh_2, .ref (A 8), .ref (A 9), .int (nI S.rn), .ref (A 11), .ref (A 12), .ref (A 13), .int (nI S.wn), .ref (A 15), .ref (A 16), .ref (A 17), .ref (A 18), .int kt_3, .int kb_4, .int ks_5])) := f_34
  have f_39 : G_29 (A 18) = some (83, .inl (cA 0, 8600, .inl kf_7)) := gf_35 _ _ v_10 (show ¬ ((83 : Nat) = 75 ∨ (83 : Nat) = 76) by decide)
  have f_40 : G_29 (A 2) = some (71, .inl (cA 0, 200, .inl sgn_16)) := gf_35 _ _ f_20 (show ¬ ((71 : Nat) = 75 ∨ (71 : Nat) = 76) by decide)
  have f_41 : G_29 (A 3) = some (72, .inl (cA 0, 200, .inl unt_17)) := gf_35 _ _ f_21 (show ¬ ((72 : Nat) = 75 ∨ (72 : Nat) = 76) by decide)
  have f_42 : G_29 (A 4) = some (73, .inl (cA 0, 40400, .inl sto_18)) := gf_35 _ _ f_22 (show ¬ ((73 : Nat) = 75 ∨ (73 : Nat) = 76) by decide)
  have f_43 : G_29 (A 5) = some (74, .inl (cA 0, 400, .inl szs_19)) := gf_35 _ _ f_23 (show ¬ ((74 : Nat) = 75 ∨ (74 : Nat) = 76) by decide)
  obtain ⟨Rr_44, hR_45⟩ : ∃ y9, y9 = (fup Rr_6 2 ((S.v v).num.natAbs)) := ⟨_, rfl⟩
  rw [← hR_45] at mr_33
  have e_46 : Rr_44 2 = (S.v v).num.natAbs := (congrFun hR_45 2).trans (rfl)
  have fm_47 : ∀ r9, qm = some r9 → fc sg_1 (Rr_44 0) (Rr_44 1) r9 := by rw [show Rr_44 0 = Rr_6 0 from congrFun hR_45 0, show Rr_44 1 = Rr_6 1 from congrFun hR_45 1]; exact v_11
  refine gs (pc' := 8) (fun _ _ _ _ _ hl => lv_aload_n hx hb d_Mo_loadOther_7 rfl (lv_at hl 0 rfl)) ?_
  refine gs (pc' := 9) (fun _ _ _ _ _ hl => lv_iconst (v := nI 3) hx hb d_Mo_loadOther_8 (by decide)) ?_
  refine gs (pc' := 10) (fun _ _ _ _ _ hl => lv_iload_n hx hb d_Mo_loadOther_9 rfl (lv_at hl 1 rfl)) ?_
  refine gs (pc' := 11) (fun _ _ _ _ _ hl => lv_iconst (v := nI 1) hx hb d_Mo_loadOther_10 (by decide)) ?_
  obtain ⟨zz_48, e_49, b_50, D_51⟩ := (hv_24 v (by omega)).2.2.2
  refine g_outv hlo (g_runV (As := [.int (nI 3), .int (nI v), .int (nI 1)]) (rest := []) ⟨hx, hb, hml, hown, hts⟩ hK hZ hRc hRs (c_Mo_take l D cA lo MC MS G_29 B hm A (mi (nI th) (nI S.n) sg_1 sh_2 (nI S.rn) (nI S.wn) kt_3 kb_4 ks_5) f_38 Rr_44 mr_33 sto_18 szs_19 f_42 f_43 3 (by decide) v (by omega) 1 (by decide) zz_48 e_49 b_50 ((S.v v).den) D_51 hB1 hB2) (fun _ _ => cwV 3 hts (tb_good (tb_cons wm901 (tb_cons wm903 (tb_cons ws35 (tb_cons wm12 k_Mo_take))))) rfl rfl rfl (by decide +kernel) ⟨by rw [hRf]; exact Nat.le_of_ble_eq_true rfl, by rw [hRl]; exact Nat.le_of_ble_eq_true rfl⟩) f_38 rfl hB1 hB2 rfl (Nat.le_of_ble_eq_true rfl) d_Mo_loadOther_11) (fun G_52 B_53 p_54 => ?_)
  obtain ⟨e_55, mr_56, f_57, gf_58⟩ := p_54
  have e_55b : B = B_53 := e_55.symm
  subst e_55b
  have gf_59 : gfr mT G G_52 := mT_75 gf_36 gf_58
  have mb_60 : MB cA A S G_52 := MB_75 mb_37 gf_58
  have f_61 : G_52 hm = some (70, .inr (9, [.int (nI th), .int (nI S.n), .ref (A 2), .ref (A 3), .ref (A 4), .ref (A 5), .int sg_1, .int sh_2, .ref (A 8), .ref (A 9), .int (nI S.rn), .ref (A 11), .ref (A 12), .ref (A 13), .int (nI S.wn), .ref (A 15), .ref (A 16), .ref (A 17), .ref (A 18), .int kt_3, .int kb_4, .int ks_5])) := f_57
  have f_62 : G_52 (A 18) = some (83, .inl (cA 0, 8600, .inl kf_7)) := gf_58 _ _ f_39 (show ¬ ((83 : Nat) = 75 ∨ (83 : Nat) = 76) by decide)
  have f_63 : G_52 (A 2) = some (71, .inl (cA 0, 200, .inl sgn_16)) := gf_58 _ _ f_40 (show ¬ ((71 : Nat) = 75 ∨ (71 : Nat) = 76) by decide)
  have f_64 : G_52 (A 3) = some (72, .inl (cA 0, 200, .inl unt_17)) := gf_58 _ _ f_41 (show ¬ ((72 : Nat) = 75 ∨ (72 : Nat) = 76) by decide)
  have f_65 : G_52 (A 4) = some (73, .inl (cA 0, 40400, .inl sto_18)) := gf_58 _ _ f_42 (show ¬ ((73 : Nat) = 75 ∨ (73 : Nat) = 76) by decide)
  have f_66 : G_52 (A 5) = some (74, .inl (cA 0, 400, .inl szs_19)) := gf_58 _ _ f_43 (show ¬ ((74 : Nat) = 75 ∨ (74 : Nat) = 76) by decide)
  obtain ⟨Rr_67, hR_68⟩ : ∃ y9, y9 = (fup Rr_44 3 ((S.v v).den)) := ⟨_, rfl⟩
  rw [← hR_68] at mr_56
  have e_69 : Rr_67 2 = (S.v v).num.natAbs := (congrFun hR_68 2).trans e_46
  have e_70 : Rr_67 3 = (S.v v).den := (congrFun hR_68 3).trans (rfl)
  have fm_71 : ∀ r9, qm = some r9 → fc sg_1 (Rr_67 0) (Rr_67 1) r9 := by rw [show Rr_67 0 = Rr_44 0 from congrFun hR_68 0, show Rr_67 1 = Rr_44 1 from congrFun hR_68 1]; exact fm_47
  refine gs (pc' := 15) (fun _ _ _ _ _ hl => lv_aload_n hx hb d_Mo_loadOther_14 rfl (lv_at hl 0 rfl)) ?_
  refine gs (pc' := 16) (fun _ _ _ _ _ hl => lv_aload_n hx hb d_Mo_loadOther_15 rfl (lv_at hl 0 rfl)) ?_
  refine g_get hx hb hts hin_Mo hown hK f_61 rfl 2 (by decide) (hts _ wm756) (fun _ h9 => h9) rfl d_Mo_loadOther_16 ?_
  refine gs (pc' := 20) (fun _ _ _ _ _ hl => lv_iload_n hx hb d_Mo_loadOther_19 rfl (lv_at hl 1 rfl)) ?_
  refine g_iald hx hb hK 0 f_63 rfl (show vp_in (nI v) 200 from vp_in_nI (by omega) (by omega)) d_Mo_loadOther_20 ?_
  refine g_eqi (show sgn_16 (nI v).toNatClampNeg = sgn_16 v from by rw [nI_clamp (by omega)]) ?_
  refine g_eqi (show sgn_16 v = iI ((S.v v).num.sign) from (hv_24 v (by omega)).1) ?_
  refine g_put (ty := .int) hx hb hts hin_Mo ty_Mo ty_Mo_ok nm_Mo hown hK f_61 rfl 7 (by decide) (hts _ wm761) (fun _ h9 => h9) rfl (by decide +kernel) rfl rfl (Nat.le_of_ble_eq_true rfl) d_Mo_loadOther_21 (fun G_72 f_73 o_74 => ?_)
  have f_75 : G_72 hm = some (70, .inr (9, [.int (nI th), .int (nI S.n), .ref (A 2), .ref (A 3), .ref (A 4), .ref (A 5), .int sg_1, .int (iI ((S.v v).num.sign)), .ref (A 8), .ref (A 9), .int (nI S.rn), .ref (A 11), .ref (A 12), .ref (A 13), .int (nI S.wn), .ref (A 15), .ref (A 16), .ref (A 17), .ref (A 18), .int kt_3, .int kb_4, .int ks_5])) := f_73
  have f_76 : G_72 (A 18) = some (83, .inl (cA 0, 8600, .inl kf_7)) := (o_74 _ (gne f_62 f_61 (fun e => by cases e))).trans f_62
  have f_77 : G_72 (A 2) = some (71, .inl (cA 0, 200, .inl sgn_16)) := (o_74 _ (gne f_63 f_61 (fun e => by cases e))).trans f_63
  have f_78 : G_72 (A 3) = some (72, .inl (cA 0, 200, .inl unt_17)) := (o_74 _ (gne f_64 f_61 (fun e => by cases e))).trans f_64
  have f_79 : G_72 (A 4) = some (73, .inl (cA 0, 40400, .inl sto_18)) := (o_74 _ (gne f_65 f_61 (fun e => by cases e))).trans f_65
  have f_80 : G_72 (A 5) = some (74, .inl (cA 0, 400, .inl szs_19)) := (o_74 _ (gne f_66 f_61 (fun e => by cases e))).trans f_66
  have gf_81 : gfr mT G G_72 := gfr_put gf_59 f_61 (show mT 70 by decide) o_74
  have gf_82 : gfr (fun x => x = 70) _ G_72 := gfr_put gfr_rf f_61 rfl o_74
  have mr_83 : MR cA A Rr_67 G_72 := MR_fr mr_56 gf_82 (show ¬ (75 : Nat) = 70 by decide) (show ¬ (76 : Nat) = 70 by decide)
  have mb_84 : MB cA A S G_72 := MB_fr mb_60 gf_82 (fun x h9 => by omega)
  have hV_85 : MW cA hm A S th qm (some (S.v v)) qk G_72 := ⟨sg_1, (iI ((S.v v).num.sign)), kt_3, kb_4, ks_5, Rr_67, _, f_75, mr_83, f_76, fm_71, (sm_ ⟨rfl, e_69, e_70⟩), v_13, mb_84⟩
  exact hret 24 _ _ _ d_Mo_loadOther_24 hB1 hB2 ⟨rfl, hV_85, gf_81⟩
set_option maxHeartbeats 4000000 in
set_option maxRecDepth 100000 in
theorem c_Mo_timesOther (l : Launch) (D : va_G) (cA : Nat → ClassId) (lo MC MS : Nat) (G : gT) (B : Nat × Nat) (hm : Nat) (A : Nat → Nat) (S : St) (th : Nat) (qm qo qk : Option Rat) (hV : MW cA hm A S th qm qo qk G) (hW : WF S) (r1 r2 : Rat) (hq1 : qm = some r1) (hq2 : qo = some r2) (j : Nat) (hj : rb r1 j) (k : Nat) (hk : rb r2 k) (hjk : j + k + 1 ≤ 4280) (hB1 : B.1 ≤ MC) (hB2 : B.2 ≤ MS) : gMet l y_Mo_timesOther w_Mo_timesOther 4 109 D clS (gtys cA) lo MC MS [.ref hm] G B (gQv D clS lo (fun u => u.2 = B ∧ MW cA hm A S th (some (r1 * r2)) none qk u.1 ∧ gfr mT G u.1)) := by
  refine g_metv (cc := prog_11_method_22_code) (nL := 1) (L := [(0, .ref hm)]) (by decide +kernel) rfl (Nat.le_of_ble_eq_true rfl) rfl ?_
  intro p e R s m args below meth c Q hF hRc hRs hRf hRl hret
  obtain ⟨hx, hb, hr, hml, hts0, hown, hlocks, hin, hK, hlo, hZ⟩ := hF
  have hts : ∀ w ∈ tbg, w.before args s = true := fun w h => hts0 w (List.mem_cons_of_mem _ h)
  subst hq1
  subst hq2
  have hn := hW.n
  have hrn := hW.rn
  have hwn := hW.wn
  obtain ⟨sg_1, sh_2, kt_3, kb_4, ks_5, Rr_6, kf_7, v_8, v_9, v_10, v_11, v_12, v_13, v_14⟩ := id hV
  have f_15 : G hm = some (70, .inr (9, [.int (nI th), .int (nI S.n), .ref (A 2), .ref (A 3), .ref (A 4), .ref (A 5), .int sg_1, .int sh_2, .ref (A 8), .ref (A 9), .int (nI S.rn), .ref (A 11), .ref (A 12), .ref (A 13), .int (nI S.wn), .ref (A 15), .ref (A 16), .ref (A 17), .ref (A 18), .int kt_3, .int kb_4, .int ks_5])) := v_8
  obtain ⟨e_16, e_17, e_18⟩ := v_11 _ rfl
  have f_19 : G hm = some (70, .inr (9, [.int (nI th), .int (nI S.n), .ref (A 2), .ref (A 3), .ref (A 4), .ref (A 5), .int (iI (r1.num.sign)), .int sh_2, .ref (A 8), .ref (A 9), .int (nI S.rn), .ref (A 11), .ref (A 12), .ref (A 13), .int (nI S.wn), .ref (A 15), .ref (A 16), .ref (A 17), .ref (A 18), .int kt_3, .int kb_4, .int ks_5])) := by rw [← e_16]; exact f_15
  have fm_20 : ∀ r9, some r1 = some r9 → fc (iI (r1.num.sign)) (Rr_6 0) (Rr_6 1) r9 := by rw [← e_16]; exact v_11
  have s3_21 := sg3 r1.num
  obtain ⟨e_22, e_23, e_24⟩ := v_12 _ rfl
  have f_25 : G hm = some (70, .inr (9, [.int (nI th), .int (nI S.n), .ref (A 2), .ref (A 3), .ref (A 4), .ref (A 5), .int (iI (r1.num.sign)), .int (iI (r2.num.sign)), .ref (A 8), .ref (A 9), .int (nI S.rn), .ref (A 11), .ref (A 12), .ref (A 13), .int (nI S.wn), .ref (A 15), .ref (A 16), .ref (A 17), .ref (A 18), .int kt_3, .int kb_4, .int ks_5])) := by rw [← e_22]; exact f_19
  have fm_26 : ∀ r9, some r2 = some r9 → fc (iI (r2.num.sign)) (Rr_6 2) (Rr_6 3) r9 := by rw [← e_22]; exact v_12
  have s3_27 := sg3 r2.num
  refine gs (pc' := 1) (fun _ _ _ _ _ hl => lv_aload_n hx hb d_Mo_timesOther_0 rfl (lv_at hl 0 rfl)) ?_
  refine gs (pc' := 2) (fun _ _ _ _ _ hl => lv_iconst (v := nI 4) hx hb d_Mo_timesOther_1 (by decide)) ?_
  refine gs (pc' := 3) (fun _ _ _ _ _ hl => lv_iconst (v := nI 0) hx hb d_Mo_timesOther_2 (by decide)) ?_
  refine gs (pc' := 4) (fun _ _ _ _ _ hl => lv_iconst (v := nI 2) hx hb d_Mo_timesOther_3 (by decide)) ?_
  refine g_outv hlo (g_runV (As := [.int (nI 4), .int (nI 0), .int (nI 2)]) (rest := []) ⟨hx, hb, hml, hown, hts⟩ hK hZ hRc hRs (c_Mo_multiply l D cA lo MC MS G B hm A (mi (nI th) (nI S.n) (iI (r1.num.sign)) (iI (r2.num.sign)) (nI S.rn) (nI S.wn) kt_3 kb_4 ks_5) f_25 Rr_6 v_9 4 (by decide) 0 (by decide) 2 (by decide) (by decide) (by decide) j k (by rw [e_17]; exact hj.1) (by rw [e_23]; exact hk.1) (by omega) hB1 hB2) (fun _ _ => cwV 3 hts (tb_good (tb_cons wm913 (tb_cons wm915 (tb_cons ws38 (tb_cons wm12 k_Mo_multiply))))) rfl rfl rfl (by decide +kernel) ⟨by rw [hRf]; exact Nat.le_of_ble_eq_true rfl, by rw [hRl]; exact Nat.le_of_ble_eq_true rfl⟩) f_25 rfl hB1 hB2 rfl (Nat.le_of_ble_eq_true rfl) d_Mo_timesOther_4) (fun G_28 B_29 p_30 => ?_)
  obtain ⟨e_31, mr_32, f_33, gf_34⟩ := p_30
  have e_31b : B = B_29 := e_31.symm
  subst e_31b
  have gf_35 : gfr mT G G_28 := mT_75 gfr_rf gf_34
  have mb_36 : MB cA A S G_28 := MB_75 v_14 gf_34
  have f_37 : G_28 hm = some (70, .inr (9, [.int (nI th), .int (nI S.n), .ref (A 2), .ref (A 3), .ref (A 4), .ref (A 5), .int (iI (r1.num.sign)), .int (iI (r2.num.sign)), .ref (A 8), .ref (A 9), .int (nI S.rn), .ref (A 11), .ref (A 12), .ref (A 13), .int (nI S.wn), .ref (A 15), .ref (A 16), .ref (A 17), .ref (A 18), .int kt_3, .int kb_4, .int ks_5])) := f_33
  have f_38 : G_28 (A 18) = some (83, .inl (cA 0, 8600, .inl kf_7)) := gf_34 _ _ v_10 (show ¬ ((83 : Nat) = 75 ∨ (83 : Nat) = 76) by decide)
  obtain ⟨Rr_39, hR_40⟩ : ∃ y9, y9 = (fup Rr_6 4 (Rr_6 0 * Rr_6 2)) := ⟨_, rfl⟩
  rw [← hR_40] at mr_32
  have e_41 : Rr_39 0 = r1.num.natAbs := (congrFun hR_40 0).trans e_17
  have e_42 : Rr_39 1 = r1.den := (congrFun hR_40 1).trans e_18
  have e_43 : Rr_39 2 = r2.num.natAbs := (congrFun hR_40 2).trans e_23
  have e_44 : Rr_39 3 = r2.den := (congrFun hR_40 3).trans e_24
  have e_45 : Rr_39 4 = r1.num.natAbs * r2.num.natAbs := (congrFun hR_40 4).trans (by rw [← e_17, ← e_23]; rfl)
  have bd_46 : r1.num.natAbs * r2.num.natAbs < 1000000000 ^ (j + k) := pw_mul hj.1 hk.1
  have fm_47 : ∀ r9, some r1 = some r9 → fc (iI (r1.num.sign)) (Rr_39 0) (Rr_39 1) r9 := by rw [show Rr_39 0 = Rr_6 0 from congrFun hR_40 0, show Rr_39 1 = Rr_6 1 from congrFun hR_40 1]; exact fm_20
  have fm_48 : ∀ r9, some r2 = some r9 → fc (iI (r2.num.sign)) (Rr_39 2) (Rr_39 3) r9 := by rw [show Rr_39 2 = Rr_6 2 from congrFun hR_40 2, show Rr_39 3 = Rr_6 3 from congrFun hR_40 3]; exact fm_26
  refine gs (pc' := 8) (fun _ _ _ _ _ hl => lv_aload_n hx hb d_Mo_timesOther_7 rfl (lv_at hl 0 rfl)) ?_
  refine gs (pc' := 9) (fun _ _ _ _ _ hl => lv_iconst (v := nI 5) hx hb d_Mo_timesOther_8 (by decide)) ?_
  refine gs (pc' := 10) (fun _ _ _ _ _ hl => lv_iconst (v := nI 1) hx hb d_Mo_timesOther_9 (by decide)) ?_
  refine gs (pc' := 11) (fun _ _ _ _ _ hl => lv_iconst (v := nI 3) hx hb d_Mo_timesOther_10 (by decide)) ?_
  refine g_outv hlo (g_runV (As := [.int (nI 5), .int (nI 1), .int (nI 3)]) (rest := []) ⟨hx, hb, hml, hown, hts⟩ hK hZ hRc hRs (c_Mo_multiply l D cA lo MC MS G_28 B hm A (mi (nI th) (nI S.n) (iI (r1.num.sign)) (iI (r2.num.sign)) (nI S.rn) (nI S.wn) kt_3 kb_4 ks_5) f_37 Rr_39 mr_32 5 (by decide) 1 (by decide) 3 (by decide) (by decide) (by decide) j k (by rw [e_42]; exact hj.2) (by rw [e_44]; exact hk.2) (by omega) hB1 hB2) (fun _ _ => cwV 3 hts (tb_good (tb_cons wm913 (tb_cons wm915 (tb_cons ws38 (tb_cons wm12 k_Mo_multiply))))) rfl rfl rfl (by decide +kernel) ⟨by rw [hRf]; exact Nat.le_of_ble_eq_true rfl, by rw [hRl]; exact Nat.le_of_ble_eq_true rfl⟩) f_37 rfl hB1 hB2 rfl (Nat.le_of_ble_eq_true rfl) d_Mo_timesOther_11) (fun G_49 B_50 p_51 => ?_)
  obtain ⟨e_52, mr_53, f_54, gf_55⟩ := p_51
  have e_52b : B = B_50 := e_52.symm
  subst e_52b
  have gf_56 : gfr mT G G_49 := mT_75 gf_35 gf_55
  have mb_57 : MB cA A S G_49 := MB_75 mb_36 gf_55
  have f_58 : G_49 hm = some (70, .inr (9, [.int (nI th), .int (nI S.n), .ref (A 2), .ref (A 3), .ref (A 4), .ref (A 5), .int (iI (r1.num.sign)), .int (iI (r2.num.sign)), .ref (A 8), .ref (A 9), .int (nI S.rn), .ref (A 11), .ref (A 12), .ref (A 13), .int (nI S.wn), .ref (A 15), .ref (A 16), .ref (A 17), .ref (A 18), .int kt_3, .int kb_4, .int ks_5])) := f_54
  have f_59 : G_49 (A 18) = some (83, .inl (cA 0, 8600, .inl kf_7)) := gf_55 _ _ f_38 (show ¬ ((83 : Nat) = 75 ∨ (83 : Nat) = 76) by decide)
  obtain ⟨Rr_60, hR_61⟩ : ∃ y9, y9 = (fup Rr_39 5 (Rr_39 1 * Rr_39 3)) := ⟨_, rfl⟩
  rw [← hR_61] at mr_53
  have e_62 : Rr_60 0 = r1.num.natAbs := (congrFun hR_61 0).trans e_41
  have e_63 : Rr_60 1 = r1.den := (congrFun hR_61 1).trans e_42
  have e_64 : Rr_60 2 = r2.num.natAbs := (congrFun hR_61 2).trans e_43
  have e_65 : Rr_60 3 = r2.den := (congrFun hR_61 3).trans e_44
  have e_66 : Rr_60 4 = r1.num.natAbs * r2.num.natAbs := (congrFun hR_61 4).trans e_45
  have e_67 : Rr_60 5 = r1.den * r2.den := (congrFun hR_61 5).trans (by rw [← e_42, ← e_44]; rfl)
  have bd_68 : r1.den * r2.den < 1000000000 ^ (j + k) := pw_mul hj.2 hk.2
  have fm_69 : ∀ r9, some r1 = some r9 → fc (iI (r1.num.sign)) (Rr_60 0) (Rr_60 1) r9 := by rw [show Rr_60 0 = Rr_39 0 from congrFun hR_61 0, show Rr_60 1 = Rr_39 1 from congrFun hR_61 1]; exact fm_47
  have fm_70 : ∀ r9, some r2 = some r9 → fc (iI (r2.num.sign)) (Rr_60 2) (Rr_60 3) r9 := by rw [show Rr_60 2 = Rr_39 2 from congrFun hR_61 2, show Rr_60 3 = Rr_39 3 from congrFun hR_61 3]; exact fm_48
  refine gs (pc' := 15) (fun _ _ _ _ _ hl => lv_aload_n hx hb d_Mo_timesOther_14 rfl (lv_at hl 0 rfl)) ?_
  refine gs (pc' := 16) (fun _ _ _ _ _ hl => lv_iconst (v := nI 0) hx hb d_Mo_timesOther_15 (by decide)) ?_
  refine gs (pc' := 17) (fun _ _ _ _ _ hl => lv_iconst (v := nI 4) hx hb d_Mo_timesOther_16 (by decide)) ?_
  refine g_outv hlo (g_runV (As := [.int (nI 0), .int (nI 4)]) (rest := []) ⟨hx, hb, hml, hown, hts⟩ hK hZ hRc hRs (c_Mo_copy l D cA lo MC MS G_49 B hm A (mi (nI th) (nI S.n) (iI (r1.num.sign)) (iI (r2.num.sign)) (nI S.rn) (nI S.wn) kt_3 kb_4 ks_5) f_58 Rr_60 mr_53 0 (by decide) 4 (by decide) (by decide) hB1 hB2) (fun _ _ => cwV 2 hts (tb_good (tb_cons wm847 (tb_cons wm849 (tb_cons ws23 (tb_cons wm12 k_Mo_copy))))) rfl rfl rfl (by decide +kernel) ⟨by rw [hRf]; exact Nat.le_of_ble_eq_true rfl, by rw [hRl]; exact Nat.le_of_ble_eq_true rfl⟩) f_58 rfl hB1 hB2 rfl (Nat.le_of_ble_eq_true rfl) d_Mo_timesOther_17) (fun G_71 B_72 p_73 => ?_)
  obtain ⟨e_74, mr_75, f_76, gf_77⟩ := p_73
  have e_74b : B = B_72 := e_74.symm
  subst e_74b
  have gf_78 : gfr mT G G_71 := mT_75 gf_56 gf_77
  have mb_79 : MB cA A S G_71 := MB_75 mb_57 gf_77
  have f_80 : G_71 hm = some (70, .inr (9, [.int (nI th), .int (nI S.n), .ref (A 2), .ref (A 3), .ref (A 4), .ref (A 5), .int (iI (r1.num.sign)), .int (iI (r2.num.sign)), .ref (A 8), .ref (A 9), .int (nI S.rn), .ref (A 11), .ref (A 12), .ref (A 13), .int (nI S.wn), .ref (A 15), .ref (A 16), .ref (A 17), .ref (A 18), .int kt_3, .int kb_4, .int ks_5])) := f_76
  have f_81 : G_71 (A 18) = some (83, .inl (cA 0, 8600, .inl kf_7)) := gf_77 _ _ f_59 (show ¬ ((83 : Nat) = 75 ∨ (83 : Nat) = 76) by decide)
  obtain ⟨Rr_82, hR_83⟩ : ∃ y9, y9 = (fup Rr_60 0 (Rr_60 4)) := ⟨_, rfl⟩
  rw [← hR_83] at mr_75
  have e_84 : Rr_82 1 = r1.den := (congrFun hR_83 1).trans e_63
  have e_85 : Rr_82 2 = r2.num.natAbs := (congrFun hR_83 2).trans e_64
  have e_86 : Rr_82 3 = r2.den := (congrFun hR_83 3).trans e_65
  have e_87 : Rr_82 4 = r1.num.natAbs * r2.num.natAbs := (congrFun hR_83 4).trans e_66
  have e_88 : Rr_82 5 = r1.den * r2.den := (congrFun hR_83 5).trans e_67
  have e_89 : Rr_82 0 = r1.num.natAbs * r2.num.natAbs := (congrFun hR_83 0).trans (e_66)
  have bd_90 : r1.num.natAbs * r2.num.natAbs < 1000000000 ^ (j + k) := bd_46
  have fm_91 : ∀ r9, some r2 = some r9 → fc (iI (r2.num.sign)) (Rr_82 2) (Rr_82 3) r9 := by rw [show Rr_82 2 = Rr_60 2 from congrFun hR_83 2, show Rr_82 3 = Rr_60 3 from congrFun hR_83 3]; exact fm_70
  refine gs (pc' := 21) (fun _ _ _ _ _ hl => lv_aload_n hx hb d_Mo_timesOther_20 rfl (lv_at hl 0 rfl)) ?_
  refine gs (pc' := 22) (fun _ _ _ _ _ hl => lv_iconst (v := nI 1) hx hb d_Mo_timesOther_21 (by decide)) ?_
  refine gs (pc' := 23) (fun _ _ _ _ _ hl => lv_iconst (v := nI 5) hx hb d_Mo_timesOther_22 (by decide)) ?_
  refine g_outv hlo (g_runV (As := [.int (nI 1), .int (nI 5)]) (rest := []) ⟨hx, hb, hml, hown, hts⟩ hK hZ hRc hRs (c_Mo_copy l D cA lo MC MS G_71 B hm A (mi (nI th) (nI S.n) (iI (r1.num.sign)) (iI (r2.num.sign)) (nI S.rn) (nI S.wn) kt_3 kb_4 ks_5) f_80 Rr_82 mr_75 1 (by decide) 5 (by decide) (by decide) hB1 hB2) (fun _ _ => cwV 2 hts (tb_good (tb_cons wm847 (tb_cons wm849 (tb_cons ws23 (tb_cons wm12 k_Mo_copy))))) rfl rfl rfl (by decide +kernel) ⟨by rw [hRf]; exact Nat.le_of_ble_eq_true rfl, by rw [hRl]; exact Nat.le_of_ble_eq_true rfl⟩) f_80 rfl hB1 hB2 rfl (Nat.le_of_ble_eq_true rfl) d_Mo_timesOther_23) (fun G_92 B_93 p_94 => ?_)
  obtain ⟨e_95, mr_96, f_97, gf_98⟩ := p_94
  have e_95b : B = B_93 := e_95.symm
  subst e_95b
  have gf_99 : gfr mT G G_92 := mT_75 gf_78 gf_98
  have mb_100 : MB cA A S G_92 := MB_75 mb_79 gf_98
  have f_101 : G_92 hm = some (70, .inr (9, [.int (nI th), .int (nI S.n), .ref (A 2), .ref (A 3), .ref (A 4), .ref (A 5), .int (iI (r1.num.sign)), .int (iI (r2.num.sign)), .ref (A 8), .ref (A 9), .int (nI S.rn), .ref (A 11), .ref (A 12), .ref (A 13), .int (nI S.wn), .ref (A 15), .ref (A 16), .ref (A 17), .ref (A 18), .int kt_3, .int kb_4, .int ks_5])) := f_97
  have f_102 : G_92 (A 18) = some (83, .inl (cA 0, 8600, .inl kf_7)) := gf_98 _ _ f_81 (show ¬ ((83 : Nat) = 75 ∨ (83 : Nat) = 76) by decide)
  obtain ⟨Rr_103, hR_104⟩ : ∃ y9, y9 = (fup Rr_82 1 (Rr_82 5)) := ⟨_, rfl⟩
  rw [← hR_104] at mr_96
  have e_105 : Rr_103 2 = r2.num.natAbs := (congrFun hR_104 2).trans e_85
  have e_106 : Rr_103 3 = r2.den := (congrFun hR_104 3).trans e_86
  have e_107 : Rr_103 4 = r1.num.natAbs * r2.num.natAbs := (congrFun hR_104 4).trans e_87
  have e_108 : Rr_103 5 = r1.den * r2.den := (congrFun hR_104 5).trans e_88
  have e_109 : Rr_103 0 = r1.num.natAbs * r2.num.natAbs := (congrFun hR_104 0).trans e_89
  have e_110 : Rr_103 1 = r1.den * r2.den := (congrFun hR_104 1).trans (e_88)
  have bd_111 : r1.den * r2.den < 1000000000 ^ (j + k) := bd_68
  have fm_112 : ∀ r9, some r2 = some r9 → fc (iI (r2.num.sign)) (Rr_103 2) (Rr_103 3) r9 := by rw [show Rr_103 2 = Rr_82 2 from congrFun hR_104 2, show Rr_103 3 = Rr_82 3 from congrFun hR_104 3]; exact fm_91
  refine gs (pc' := 27) (fun _ _ _ _ _ hl => lv_aload_n hx hb d_Mo_timesOther_26 rfl (lv_at hl 0 rfl)) ?_
  refine gs (pc' := 28) (fun _ _ _ _ _ hl => lv_dup hx hb d_Mo_timesOther_27 rfl) ?_
  refine g_get hx hb hts hin_Mo hown hK f_101 rfl 6 (by decide) (hts _ wm760) (fun _ h9 => h9) rfl d_Mo_timesOther_28 ?_
  refine gs (pc' := 32) (fun _ _ _ _ _ hl => lv_aload_n hx hb d_Mo_timesOther_31 rfl (lv_at hl 0 rfl)) ?_
  refine g_get hx hb hts hin_Mo hown hK f_101 rfl 7 (by decide) (hts _ wm761) (fun _ h9 => h9) rfl d_Mo_timesOther_32 ?_
  refine gs (pc' := 36) (fun _ _ _ _ _ hl => lv_imul hx hb d_Mo_timesOther_35) ?_
  refine g_put (ty := .int) hx hb hts hin_Mo ty_Mo ty_Mo_ok nm_Mo hown hK f_101 rfl 6 (by decide) (hts _ wm760) (fun _ h9 => h9) rfl (by decide +kernel) rfl rfl (Nat.le_of_ble_eq_true rfl) d_Mo_timesOther_36 (fun G_113 f_114 o_115 => ?_)
  have f_116 : G_113 hm = some (70, .inr (9, [.int (nI th), .int (nI S.n), .ref (A 2), .ref (A 3), .ref (A 4), .ref (A 5), .int ((iI (r1.num.sign)) * (iI (r2.num.sign))), .int (iI (r2.num.sign)), .ref (A 8), .ref (A 9), .int (nI S.rn), .ref (A 11), .ref (A 12), .ref (A 13), .int (nI S.wn), .ref (A 15), .ref (A 16), .ref (A 17), .ref (A 18), .int kt_3, .int kb_4, .int ks_5])) := f_114
  have f_117 : G_113 (A 18) = some (83, .inl (cA 0, 8600, .inl kf_7)) := (o_115 _ (gne f_102 f_101 (fun e => by cases e))).trans f_102
  have gf_118 : gfr mT G G_113 := gfr_put gf_99 f_101 (show mT 70 by decide) o_115
  have gf_119 : gfr (fun x => x = 70) _ G_113 := gfr_put gfr_rf f_101 rfl o_115
  have mr_120 : MR cA A Rr_103 G_113 := MR_fr mr_96 gf_119 (show ¬ (75 : Nat) = 70 by decide) (show ¬ (76 : Nat) = 70 by decide)
  have mb_121 : MB cA A S G_113 := MB_fr mb_100 gf_119 (fun x h9 => by omega)
  refine gs (pc' := 40) (fun _ _ _ _ _ hl => lv_aload_n hx hb d_Mo_timesOther_39 rfl (lv_at hl 0 rfl)) ?_
  have fq_122 : fq ((iI (r1.num.sign)) * (iI (r2.num.sign))) (r1.num.natAbs * r2.num.natAbs) (r1.den * r2.den) (r1 * r2) := tm_fq r1 r2
  refine g_outv hlo (g_runV (As := []) (rest := []) ⟨hx, hb, hml, hown, hts⟩ hK hZ hRc hRs (c_Mo_reduce l D cA lo MC MS G_113 B hm A (mi (nI th) (nI S.n) ((iI (r1.num.sign)) * (iI (r2.num.sign))) (iI (r2.num.sign)) (nI S.rn) (nI S.wn) kt_3 kb_4 ks_5) f_116 Rr_103 mr_120 (by rw [e_110]; exact fq_122.1) (j + k) (by rw [e_109]; exact pw_up bd_90 (by omega)) (by rw [e_110]; exact pw_up bd_111 (by omega)) (by omega) hB1 hB2) (fun _ _ => cwV 0 hts (tb_good (tb_cons wm843 (tb_cons wm845 (tb_cons ws22 (tb_cons wm12 k_Mo_reduce))))) rfl rfl rfl (by decide +kernel) ⟨by rw [hRf]; exact Nat.le_of_ble_eq_true rfl, by rw [hRl]; exact Nat.le_of_ble_eq_true rfl⟩) f_116 rfl hB1 hB2 rfl (Nat.le_of_ble_eq_true rfl) d_Mo_timesOther_40) (fun G_123 B_124 p_125 => ?_)
  obtain ⟨e_126, ⟨Rr_127, mr_128, q_129, q_130, q_131, q_132⟩, f_133, gf_134⟩ := p_125
  have e_126b : B = B_124 := e_126.symm
  subst e_126b
  obtain ⟨sg_135, e_136⟩ : ∃ y9 : Int32, y9 = if Rr_103 0 = 0 then nI 0 else ((iI (r1.num.sign)) * (iI (r2.num.sign))) := ⟨_, rfl⟩
  have gf_137 : gfr mT G G_123 := mT_705 gf_118 gf_134
  have mb_138 : MB cA A S G_123 := MB_705 mb_121 gf_134
  have f_139 : G_123 hm = some (70, .inr (9, [.int (nI th), .int (nI S.n), .ref (A 2), .ref (A 3), .ref (A 4), .ref (A 5), .int sg_135, .int (iI (r2.num.sign)), .ref (A 8), .ref (A 9), .int (nI S.rn), .ref (A 11), .ref (A 12), .ref (A 13), .int (nI S.wn), .ref (A 15), .ref (A 16), .ref (A 17), .ref (A 18), .int kt_3, .int kb_4, .int ks_5])) := f_133.trans (by rw [mi_if, ← e_136]; rfl)
  have f_140 : G_123 (A 18) = some (83, .inl (cA 0, 8600, .inl kf_7)) := gf_134 _ _ f_117 (show ¬ ((83 : Nat) = 70 ∨ (83 : Nat) = 75 ∨ (83 : Nat) = 76) by decide)
  have fc_141 : fc sg_135 (Rr_127 0) (Rr_127 1) (r1 * r2) := by rw [q_129, q_130, e_136, e_109, e_110]; exact fq_fc fq_122
  have hV_142 : MW cA hm A S th (some (r1 * r2)) none qk G_123 := ⟨sg_135, (iI (r2.num.sign)), kt_3, kb_4, ks_5, Rr_127, _, f_139, mr_128, f_140, (sm_ fc_141), sn_, v_13, mb_138⟩
  exact hret 43 _ _ _ d_Mo_timesOther_43 hB1 hB2 ⟨rfl, hV_142, gf_137⟩
set_option maxHeartbeats 4000000 in
set_option maxRecDepth 100000 in
theorem c_Mo_overOther (l : Launch) (D : va_G) (cA : Nat → ClassId) (lo MC MS : Nat) (G : gT) (B : Nat × Nat) (hm : Nat) (A : Nat → Nat) (S : St) (th : Nat) (qm qo qk : Option Rat) (hV : MW cA hm A S th qm qo qk G) (hW : WF S) (r1 r2 : Rat) (hq1 : qm = some r1) (hq2 : qo = some r2) (j : Nat) (hj : rb r1 j) (k : Nat) (hk : rb r2 k) (hjk : j + k + 1 ≤ 4280) (hnz : r2.num ≠ 0) (hB1 : B.1 ≤ MC) (hB2 : B.2 ≤ MS) : gMet l y_Mo_overOther w_Mo_overOther 4 109 D clS (gtys cA) lo MC MS [.ref hm] G B (gQv D clS lo (fun u => u.2 = B ∧ MW cA hm A S th (some (r1 / r2)) none qk u.1 ∧ gfr mT G u.1)) := by
  refine g_metv (cc := prog_11_method_23_code) (nL := 1) (L := [(0, .ref hm)]) (by decide +kernel) rfl (Nat.le_of_ble_eq_true rfl) rfl ?_
  intro p e R s m args below meth c Q hF hRc hRs hRf hRl hret
  obtain ⟨hx, hb, hr, hml, hts0, hown, hlocks, hin, hK, hlo, hZ⟩ := hF
  have hts : ∀ w ∈ tbg, w.before args s = true := fun w h => hts0 w (List.mem_cons_of_mem _ h)
  subst hq1
  subst hq2
  have hn := hW.n
  have hrn := hW.rn
  have hwn := hW.wn
  obtain ⟨sg_1, sh_2, kt_3, kb_4, ks_5, Rr_6, kf_7, v_8, v_9, v_10, v_11, v_12, v_13, v_14⟩ := id hV
  have f_15 : G hm = some (70, .inr (9, [.int (nI th), .int (nI S.n), .ref (A 2), .ref (A 3), .ref (A 4), .ref (A 5), .int sg_1, .int sh_2, .ref (A 8), .ref (A 9), .int (nI S.rn), .ref (A 11), .ref (A 12), .ref (A 13), .int (nI S.wn), .ref (A 15), .ref (A 16), .ref (A 17), .ref (A 18), .int kt_3, .int kb_4, .int ks_5])) := v_8
  obtain ⟨e_16, e_17, e_18⟩ := v_11 _ rfl
  have f_19 : G hm = some (70, .inr (9, [.int (nI th), .int (nI S.n), .ref (A 2), .ref (A 3), .ref (A 4), .ref (A 5), .int (iI (r1.num.sign)), .int sh_2, .ref (A 8), .ref (A 9), .int (nI S.rn), .ref (A 11), .ref (A 12), .ref (A 13), .int (nI S.wn), .ref (A 15), .ref (A 16), .ref (A 17), .ref (A 18), .int kt_3, .int kb_4, .int ks_5])) := by rw [← e_16]; exact f_15
  have fm_20 : ∀ r9, some r1 = some r9 → fc (iI (r1.num.sign)) (Rr_6 0) (Rr_6 1) r9 := by rw [← e_16]; exact v_11
  have s3_21 := sg3 r1.num
  obtain ⟨e_22, e_23, e_24⟩ := v_12 _ rfl
  have f_25 : G hm = some (70, .inr (9, [.int (nI th), .int (nI S.n), .ref (A 2), .ref (A 3), .ref (A 4), .ref (A 5), .int (iI (r1.num.sign)), .int (iI (r2.num.sign)), .ref (A 8), .ref (A 9), .int (nI S.rn), .ref (A 11), .ref (A 12), .ref (A 13), .int (nI S.wn), .ref (A 15), .ref (A 16), .ref (A 17), .ref (A 18), .int kt_3, .int kb_4, .int ks_5])) := by rw [← e_22]; exact f_19
  have fm_26 : ∀ r9, some r2 = some r9 → fc (iI (r2.num.sign)) (Rr_6 2) (Rr_6 3) r9 := by rw [← e_22]; exact v_12
  have s3_27 := sg3 r2.num
  refine gs (pc' := 1) (fun _ _ _ _ _ hl => lv_aload_n hx hb d_Mo_overOther_0 rfl (lv_at hl 0 rfl)) ?_
  refine gs (pc' := 2) (fun _ _ _ _ _ hl => lv_iconst (v := nI 4) hx hb d_Mo_overOther_1 (by decide)) ?_
  refine gs (pc' := 3) (fun _ _ _ _ _ hl => lv_iconst (v := nI 0) hx hb d_Mo_overOther_2 (by decide)) ?_
  refine gs (pc' := 4) (fun _ _ _ _ _ hl => lv_iconst (v := nI 3) hx hb d_Mo_overOther_3 (by decide)) ?_
  refine g_outv hlo (g_runV (As := [.int (nI 4), .int (nI 0), .int (nI 3)]) (rest := []) ⟨hx, hb, hml, hown, hts⟩ hK hZ hRc hRs (c_Mo_multiply l D cA lo MC MS G B hm A (mi (nI th) (nI S.n) (iI (r1.num.sign)) (iI (r2.num.sign)) (nI S.rn) (nI S.wn) kt_3 kb_4 ks_5) f_25 Rr_6 v_9 4 (by decide) 0 (by decide) 3 (by decide) (by decide) (by decide) j k (by rw [e_17]; exact hj.1) (by rw [e_24]; exact hk.2) (by omega) hB1 hB2) (fun _ _ => cwV 3 hts (tb_good (tb_cons wm913 (tb_cons wm915 (tb_cons ws38 (tb_cons wm12 k_Mo_multiply))))) rfl rfl rfl (by decide +kernel) ⟨by rw [hRf]; exact Nat.le_of_ble_eq_true rfl, by rw [hRl]; exact Nat.le_of_ble_eq_true rfl⟩) f_25 rfl hB1 hB2 rfl (Nat.le_of_ble_eq_true rfl) d_Mo_overOther_4) (fun G_28 B_29 p_30 => ?_)
  obtain ⟨e_31, mr_32, f_33, gf_34⟩ := p_30
  have e_31b : B = B_29 := e_31.symm
  subst e_31b
  have gf_35 : gfr mT G G_28 := mT_75 gfr_rf gf_34
  have mb_36 : MB cA A S G_28 := MB_75 v_14 gf_34
  have f_37 : G_28 hm = some (70, .inr (9, [.int (nI th), .int (nI S.n), .ref (A 2), .ref (A 3), .ref (A 4), .ref (A 5), .int (iI (r1.num.sign)), .int (iI (r2.num.sign)), .ref (A 8), .ref (A 9), .int (nI S.rn), .ref (A 11), .ref (A 12), .ref (A 13), .int (nI S.wn), .ref (A 15), .ref (A 16), .ref (A 17), .ref (A 18), .int kt_3, .int kb_4, .int ks_5])) := f_33
  have f_38 : G_28 (A 18) = some (83, .inl (cA 0, 8600, .inl kf_7)) := gf_34 _ _ v_10 (show ¬ ((83 : Nat) = 75 ∨ (83 : Nat) = 76) by decide)
  obtain ⟨Rr_39, hR_40⟩ : ∃ y9, y9 = (fup Rr_6 4 (Rr_6 0 * Rr_6 3)) := ⟨_, rfl⟩
  rw [← hR_40] at mr_32
  have e_41 : Rr_39 0 = r1.num.natAbs := (congrFun hR_40 0).trans e_17
  have e_42 : Rr_39 1 = r1.den := (congrFun hR_40 1).trans e_18
  have e_43 : Rr_39 2 = r2.num.natAbs := (congrFun hR_40 2).trans e_23
  have e_44 : Rr_39 3 = r2.den := (congrFun hR_40 3).trans e_24
  have e_45 : Rr_39 4 = r1.num.natAbs * r2.den := (congrFun hR_40 4).trans (by rw [← e_17, ← e_24]; rfl)
  have bd_46 : r1.num.natAbs * r2.den < 1000000000 ^ (j + k) := pw_mul hj.1 hk.2
  have fm_47 : ∀ r9, some r1 = some r9 → fc (iI (r1.num.sign)) (Rr_39 0) (Rr_39 1) r9 := by rw [show Rr_39 0 = Rr_6 0 from congrFun hR_40 0, show Rr_39 1 = Rr_6 1 from congrFun hR_40 1]; exact fm_20
  have fm_48 : ∀ r9, some r2 = some r9 → fc (iI (r2.num.sign)) (Rr_39 2) (Rr_39 3) r9 := by rw [show Rr_39 2 = Rr_6 2 from congrFun hR_40 2, show Rr_39 3 = Rr_6 3 from congrFun hR_40 3]; exact fm_26
  refine gs (pc' := 8) (fun _ _ _ _ _ hl => lv_aload_n hx hb d_Mo_overOther_7 rfl (lv_at hl 0 rfl)) ?_
  refine gs (pc' := 9) (fun _ _ _ _ _ hl => lv_iconst (v := nI 5) hx hb d_Mo_overOther_8 (by decide)) ?_
  refine gs (pc' := 10) (fun _ _ _ _ _ hl => lv_iconst (v := nI 1) hx hb d_Mo_overOther_9 (by decide)) ?_
  refine gs (pc' := 11) (fun _ _ _ _ _ hl => lv_iconst (v := nI 2) hx hb d_Mo_overOther_10 (by decide)) ?_
  refine g_outv hlo (g_runV (As := [.int (nI 5), .int (nI 1), .int (nI 2)]) (rest := []) ⟨hx, hb, hml, hown, hts⟩ hK hZ hRc hRs (c_Mo_multiply l D cA lo MC MS G_28 B hm A (mi (nI th) (nI S.n) (iI (r1.num.sign)) (iI (r2.num.sign)) (nI S.rn) (nI S.wn) kt_3 kb_4 ks_5) f_37 Rr_39 mr_32 5 (by decide) 1 (by decide) 2 (by decide) (by decide) (by decide) j k (by rw [e_42]; exact hj.2) (by rw [e_43]; exact hk.1) (by omega) hB1 hB2) (fun _ _ => cwV 3 hts (tb_good (tb_cons wm913 (tb_cons wm915 (tb_cons ws38 (tb_cons wm12 k_Mo_multiply))))) rfl rfl rfl (by decide +kernel) ⟨by rw [hRf]; exact Nat.le_of_ble_eq_true rfl, by rw [hRl]; exact Nat.le_of_ble_eq_true rfl⟩) f_37 rfl hB1 hB2 rfl (Nat.le_of_ble_eq_true rfl) d_Mo_overOther_11) (fun G_49 B_50 p_51 => ?_)
  obtain ⟨e_52, mr_53, f_54, gf_55⟩ := p_51
  have e_52b : B = B_50 := e_52.symm
  subst e_52b
  have gf_56 : gfr mT G G_49 := mT_75 gf_35 gf_55
  have mb_57 : MB cA A S G_49 := MB_75 mb_36 gf_55
  have f_58 : G_49 hm = some (70, .inr (9, [.int (nI th), .int (nI S.n), .ref (A 2), .ref (A 3), .ref (A 4), .ref (A 5), .int (iI (r1.num.sign)), .int (iI (r2.num.sign)), .ref (A 8), .ref (A 9), .int (nI S.rn), .ref (A 11), .ref (A 12), .ref (A 13), .int (nI S.wn), .ref (A 15), .ref (A 16), .ref (A 17), .ref (A 18), .int kt_3, .int kb_4, .int ks_5])) := f_54
  have f_59 : G_49 (A 18) = some (83, .inl (cA 0, 8600, .inl kf_7)) := gf_55 _ _ f_38 (show ¬ ((83 : Nat) = 75 ∨ (83 : Nat) = 76) by decide)
  obtain ⟨Rr_60, hR_61⟩ : ∃ y9, y9 = (fup Rr_39 5 (Rr_39 1 * Rr_39 2)) := ⟨_, rfl⟩
  rw [← hR_61] at mr_53
  have e_62 : Rr_60 0 = r1.num.natAbs := (congrFun hR_61 0).trans e_41
  have e_63 : Rr_60 1 = r1.den := (congrFun hR_61 1).trans e_42
  have e_64 : Rr_60 2 = r2.num.natAbs := (congrFun hR_61 2).trans e_43
  have e_65 : Rr_60 3 = r2.den := (congrFun hR_61 3).trans e_44
  have e_66 : Rr_60 4 = r1.num.natAbs * r2.den := (congrFun hR_61 4).trans e_45
  have e_67 : Rr_60 5 = r1.den * r2.num.natAbs := (congrFun hR_61 5).trans (by rw [← e_42, ← e_43]; rfl)
  have bd_68 : r1.den * r2.num.natAbs < 1000000000 ^ (j + k) := pw_mul hj.2 hk.1
  have fm_69 : ∀ r9, some r1 = some r9 → fc (iI (r1.num.sign)) (Rr_60 0) (Rr_60 1) r9 := by rw [show Rr_60 0 = Rr_39 0 from congrFun hR_61 0, show Rr_60 1 = Rr_39 1 from congrFun hR_61 1]; exact fm_47
  have fm_70 : ∀ r9, some r2 = some r9 → fc (iI (r2.num.sign)) (Rr_60 2) (Rr_60 3) r9 := by rw [show Rr_60 2 = Rr_39 2 from congrFun hR_61 2, show Rr_60 3 = Rr_39 3 from congrFun hR_61 3]; exact fm_48
  refine gs (pc' := 15) (fun _ _ _ _ _ hl => lv_aload_n hx hb d_Mo_overOther_14 rfl (lv_at hl 0 rfl)) ?_
  refine gs (pc' := 16) (fun _ _ _ _ _ hl => lv_iconst (v := nI 0) hx hb d_Mo_overOther_15 (by decide)) ?_
  refine gs (pc' := 17) (fun _ _ _ _ _ hl => lv_iconst (v := nI 4) hx hb d_Mo_overOther_16 (by decide)) ?_
  refine g_outv hlo (g_runV (As := [.int (nI 0), .int (nI 4)]) (rest := []) ⟨hx, hb, hml, hown, hts⟩ hK hZ hRc hRs (c_Mo_copy l D cA lo MC MS G_49 B hm A (mi (nI th) (nI S.n) (iI (r1.num.sign)) (iI (r2.num.sign)) (nI S.rn) (nI S.wn) kt_3 kb_4 ks_5) f_58 Rr_60 mr_53 0 (by decide) 4 (by decide) (by decide) hB1 hB2) (fun _ _ => cwV 2 hts (tb_good (tb_cons wm847 (tb_cons wm849 (tb_cons ws23 (tb_cons wm12 k_Mo_copy))))) rfl rfl rfl (by decide +kernel) ⟨by rw [hRf]; exact Nat.le_of_ble_eq_true rfl, by rw [hRl]; exact Nat.le_of_ble_eq_true rfl⟩) f_58 rfl hB1 hB2 rfl (Nat.le_of_ble_eq_true rfl) d_Mo_overOther_17) (fun G_71 B_72 p_73 => ?_)
  obtain ⟨e_74, mr_75, f_76, gf_77⟩ := p_73
  have e_74b : B = B_72 := e_74.symm
  subst e_74b
  have gf_78 : gfr mT G G_71 := mT_75 gf_56 gf_77
  have mb_79 : MB cA A S G_71 := MB_75 mb_57 gf_77
  have f_80 : G_71 hm = some (70, .inr (9, [.int (nI th), .int (nI S.n), .ref (A 2), .ref (A 3), .ref (A 4), .ref (A 5), .int (iI (r1.num.sign)), .int (iI (r2.num.sign)), .ref (A 8), .ref (A 9), .int (nI S.rn), .ref (A 11), .ref (A 12), .ref (A 13), .int (nI S.wn), .ref (A 15), .ref (A 16), .ref (A 17), .ref (A 18), .int kt_3, .int kb_4, .int ks_5])) := f_76
  have f_81 : G_71 (A 18) = some (83, .inl (cA 0, 8600, .inl kf_7)) := gf_77 _ _ f_59 (show ¬ ((83 : Nat) = 75 ∨ (83 : Nat) = 76) by decide)
  obtain ⟨Rr_82, hR_83⟩ : ∃ y9, y9 = (fup Rr_60 0 (Rr_60 4)) := ⟨_, rfl⟩
  rw [← hR_83] at mr_75
  have e_84 : Rr_82 1 = r1.den := (congrFun hR_83 1).trans e_63
  have e_85 : Rr_82 2 = r2.num.natAbs := (congrFun hR_83 2).trans e_64
  have e_86 : Rr_82 3 = r2.den := (congrFun hR_83 3).trans e_65
  have e_87 : Rr_82 4 = r1.num.natAbs * r2.den := (congrFun hR_83 4).trans e_66
  have e_88 : Rr_82 5 = r1.den * r2.num.natAbs := (congrFun hR_83 5).trans e_67
  have e_89 : Rr_82 0 = r1.num.natAbs * r2.den := (congrFun hR_83 0).trans (e_66)
  have bd_90 : r1.num.natAbs * r2.den < 1000000000 ^ (j + k) := bd_46
  have fm_91 : ∀ r9, some r2 = some r9 → fc (iI (r2.num.sign)) (Rr_82 2) (Rr_82 3) r9 := by rw [show Rr_82 2 = Rr_60 2 from congrFun hR_83 2, show Rr_82 3 = Rr_60 3 from congrFun hR_83 3]; exact fm_70
  refine gs (pc' := 21) (fun _ _ _ _ _ hl => lv_aload_n hx hb d_Mo_overOther_20 rfl (lv_at hl 0 rfl)) ?_
  refine gs (pc' := 22) (fun _ _ _ _ _ hl => lv_iconst (v := nI 1) hx hb d_Mo_overOther_21 (by decide)) ?_
  refine gs (pc' := 23) (fun _ _ _ _ _ hl => lv_iconst (v := nI 5) hx hb d_Mo_overOther_22 (by decide)) ?_
  refine g_outv hlo (g_runV (As := [.int (nI 1), .int (nI 5)]) (rest := []) ⟨hx, hb, hml, hown, hts⟩ hK hZ hRc hRs (c_Mo_copy l D cA lo MC MS G_71 B hm A (mi (nI th) (nI S.n) (iI (r1.num.sign)) (iI (r2.num.sign)) (nI S.rn) (nI S.wn) kt_3 kb_4 ks_5) f_80 Rr_82 mr_75 1 (by decide) 5 (by decide) (by decide) hB1 hB2) (fun _ _ => cwV 2 hts (tb_good (tb_cons wm847 (tb_cons wm849 (tb_cons ws23 (tb_cons wm12 k_Mo_copy))))) rfl rfl rfl (by decide +kernel) ⟨by rw [hRf]; exact Nat.le_of_ble_eq_true rfl, by rw [hRl]; exact Nat.le_of_ble_eq_true rfl⟩) f_80 rfl hB1 hB2 rfl (Nat.le_of_ble_eq_true rfl) d_Mo_overOther_23) (fun G_92 B_93 p_94 => ?_)
  obtain ⟨e_95, mr_96, f_97, gf_98⟩ := p_94
  have e_95b : B = B_93 := e_95.symm
  subst e_95b
  have gf_99 : gfr mT G G_92 := mT_75 gf_78 gf_98
  have mb_100 : MB cA A S G_92 := MB_75 mb_79 gf_98
  have f_101 : G_92 hm = some (70, .inr (9, [.int (nI th), .int (nI S.n), .ref (A 2), .ref (A 3), .ref (A 4), .ref (A 5), .int (iI (r1.num.sign)), .int (iI (r2.num.sign)), .ref (A 8), .ref (A 9), .int (nI S.rn), .ref (A 11), .ref (A 12), .ref (A 13), .int (nI S.wn), .ref (A 15), .ref (A 16), .ref (A 17), .ref (A 18), .int kt_3, .int kb_4, .int ks_5])) := f_97
  have f_102 : G_92 (A 18) = some (83, .inl (cA 0, 8600, .inl kf_7)) := gf_98 _ _ f_81 (show ¬ ((83 : Nat) = 75 ∨ (83 : Nat) = 76) by decide)
  obtain ⟨Rr_103, hR_104⟩ : ∃ y9, y9 = (fup Rr_82 1 (Rr_82 5)) := ⟨_, rfl⟩
  rw [← hR_104] at mr_96
  have e_105 : Rr_103 2 = r2.num.natAbs := (congrFun hR_104 2).trans e_85
  have e_106 : Rr_103 3 = r2.den := (congrFun hR_104 3).trans e_86
  have e_107 : Rr_103 4 = r1.num.natAbs * r2.den := (congrFun hR_104 4).trans e_87
  have e_108 : Rr_103 5 = r1.den * r2.num.natAbs := (congrFun hR_104 5).trans e_88
  have e_109 : Rr_103 0 = r1.num.natAbs * r2.den := (congrFun hR_104 0).trans e_89
  have e_110 : Rr_103 1 = r1.den * r2.num.natAbs := (congrFun hR_104 1).trans (e_88)
  have bd_111 : r1.den * r2.num.natAbs < 1000000000 ^ (j + k) := bd_68
  have fm_112 : ∀ r9, some r2 = some r9 → fc (iI (r2.num.sign)) (Rr_103 2) (Rr_103 3) r9 := by rw [show Rr_103 2 = Rr_82 2 from congrFun hR_104 2, show Rr_103 3 = Rr_82 3 from congrFun hR_104 3]; exact fm_91
  refine gs (pc' := 27) (fun _ _ _ _ _ hl => lv_aload_n hx hb d_Mo_overOther_26 rfl (lv_at hl 0 rfl)) ?_
  refine gs (pc' := 28) (fun _ _ _ _ _ hl => lv_dup hx hb d_Mo_overOther_27 rfl) ?_
  refine g_get hx hb hts hin_Mo hown hK f_101 rfl 6 (by decide) (hts _ wm760) (fun _ h9 => h9) rfl d_Mo_overOther_28 ?_
  refine gs (pc' := 32) (fun _ _ _ _ _ hl => lv_aload_n hx hb d_Mo_overOther_31 rfl (lv_at hl 0 rfl)) ?_
  refine g_get hx hb hts hin_Mo hown hK f_101 rfl 7 (by decide) (hts _ wm761) (fun _ h9 => h9) rfl d_Mo_overOther_32 ?_
  refine gs (pc' := 36) (fun _ _ _ _ _ hl => lv_imul hx hb d_Mo_overOther_35) ?_
  refine g_put (ty := .int) hx hb hts hin_Mo ty_Mo ty_Mo_ok nm_Mo hown hK f_101 rfl 6 (by decide) (hts _ wm760) (fun _ h9 => h9) rfl (by decide +kernel) rfl rfl (Nat.le_of_ble_eq_true rfl) d_Mo_overOther_36 (fun G_113 f_114 o_115 => ?_)
  have f_116 : G_113 hm = some (70, .inr (9, [.int (nI th), .int (nI S.n), .ref (A 2), .ref (A 3), .ref (A 4), .ref (A 5), .int ((iI (r1.num.sign)) * (iI (r2.num.sign))), .int (iI (r2.num.sign)), .ref (A 8), .ref (A 9), .int (nI S.rn), .ref (A 11), .ref (A 12), .ref (A 13), .int (nI S.wn), .ref (A 15), .ref (A 16), .ref (A 17), .ref (A 18), .int kt_3, .int kb_4, .int ks_5])) := f_114
  have f_117 : G_113 (A 18) = some (83, .inl (cA 0, 8600, .inl kf_7)) := (o_115 _ (gne f_102 f_101 (fun e => by cases e))).trans f_102
  have gf_118 : gfr mT G G_113 := gfr_put gf_99 f_101 (show mT 70 by decide) o_115
  have gf_119 : gfr (fun x => x = 70) _ G_113 := gfr_put gfr_rf f_101 rfl o_115
  have mr_120 : MR cA A Rr_103 G_113 := MR_fr mr_96 gf_119 (show ¬ (75 : Nat) = 70 by decide) (show ¬ (76 : Nat) = 70 by decide)
  have mb_121 : MB cA A S G_113 := MB_fr mb_100 gf_119 (fun x h9 => by omega)
  refine gs (pc' := 40) (fun _ _ _ _ _ hl => lv_aload_n hx hb d_Mo_overOther_39 rfl (lv_at hl 0 rfl)) ?_
  have fq_122 : fq ((iI (r1.num.sign)) * (iI (r2.num.sign))) (r1.num.natAbs * r2.den) (r1.den * r2.num.natAbs) (r1 / r2) := ov_fq r1 r2 hnz
  refine g_outv hlo (g_runV (As := []) (rest := []) ⟨hx, hb, hml, hown, hts⟩ hK hZ hRc hRs (c_Mo_reduce l D cA lo MC MS G_113 B hm A (mi (nI th) (nI S.n) ((iI (r1.num.sign)) * (iI (r2.num.sign))) (iI (r2.num.sign)) (nI S.rn) (nI S.wn) kt_3 kb_4 ks_5) f_116 Rr_103 mr_120 (by rw [e_110]; exact fq_122.1) (j + k) (by rw [e_109]; exact pw_up bd_90 (by omega)) (by rw [e_110]; exact pw_up bd_111 (by omega)) (by omega) hB1 hB2) (fun _ _ => cwV 0 hts (tb_good (tb_cons wm843 (tb_cons wm845 (tb_cons ws22 (tb_cons wm12 k_Mo_reduce))))) rfl rfl rfl (by decide +kernel) ⟨by rw [hRf]; exact Nat.le_of_ble_eq_true rfl, by rw [hRl]; exact Nat.le_of_ble_eq_true rfl⟩) f_116 rfl hB1 hB2 rfl (Nat.le_of_ble_eq_true rfl) d_Mo_overOther_40) (fun G_123 B_124 p_125 => ?_)
  obtain ⟨e_126, ⟨Rr_127, mr_128, q_129, q_130, q_131, q_132⟩, f_133, gf_134⟩ := p_125
  have e_126b : B = B_124 := e_126.symm
  subst e_126b
  obtain ⟨sg_135, e_136⟩ : ∃ y9 : Int32, y9 = if Rr_103 0 = 0 then nI 0 else ((iI (r1.num.sign)) * (iI (r2.num.sign))) := ⟨_, rfl⟩
  have gf_137 : gfr mT G G_123 := mT_705 gf_118 gf_134
  have mb_138 : MB cA A S G_123 := MB_705 mb_121 gf_134
  have f_139 : G_123 hm = some (70, .inr (9, [.int (nI th), .int (nI S.n), .ref (A 2), .ref (A 3), .ref (A 4), .ref (A 5), .int sg_135, .int (iI (r2.num.sign)), .ref (A 8), .ref (A 9), .int (nI S.rn), .ref (A 11), .ref (A 12), .ref (A 13), .int (nI S.wn), .ref (A 15), .ref (A 16), .ref (A 17), .ref (A 18), .int kt_3, .int kb_4, .int ks_5])) := f_133.trans (by rw [mi_if, ← e_136]; rfl)
  have f_140 : G_123 (A 18) = some (83, .inl (cA 0, 8600, .inl kf_7)) := gf_134 _ _ f_117 (show ¬ ((83 : Nat) = 70 ∨ (83 : Nat) = 75 ∨ (83 : Nat) = 76) by decide)
  have fc_141 : fc sg_135 (Rr_127 0) (Rr_127 1) (r1 / r2) := by rw [q_129, q_130, e_136, e_109, e_110]; exact fq_fc fq_122
  have hV_142 : MW cA hm A S th (some (r1 / r2)) none qk G_123 := ⟨sg_135, (iI (r2.num.sign)), kt_3, kb_4, ks_5, Rr_127, _, f_139, mr_128, f_140, (sm_ fc_141), sn_, v_13, mb_138⟩
  exact hret 43 _ _ _ d_Mo_overOther_43 hB1 hB2 ⟨rfl, hV_142, gf_137⟩
