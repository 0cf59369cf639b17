set_option maxHeartbeats 4000000 in
set_option maxRecDepth 100000 in
theorem c_Mo_copy (l : Launch) (D : va_G) (cA : Nat → ClassId) (lo MC MS : Nat) (G : gT) (B : Nat × Nat) (hm : Nat) (A : Nat → Nat) (I : Nat → Int32) (hob : G hm = some (70, .inr (9, mfs A I))) (Rg : Nat → Nat) (hR : MR cA A Rg G) (r : Nat) (hb_r : r < 9) (o : Nat) (hb_o : o < 9) (hro : o ≠ r) (hB1 : B.1 ≤ MC) (hB2 : B.2 ≤ MS) : gMet l y_Mo_copy w_Mo_copy 0 0 D clS (gtys cA) lo MC MS [.ref hm, .int (nI r), .int (nI o)] G B (gQv D clS lo (fun u => u.2 = B ∧ MR cA A (fup Rg r (Rg o)) u.1 ∧ u.1 hm = some (70, .inr (9, mfs A I)) ∧ gfr (fun x => x = 75 ∨ x = 76) G u.1)) := by
  refine g_metv (cc := prog_11_method_6_code) (nL := 4) (L := [(0, .ref hm), (1, .int (nI r)), (2, .int (nI o))]) (by decide +kernel) rfl (Nat.le_of_ble_eq_true rfl) rfl ?_
  intro p e R s m args below meth c Q hF hRc hRs hRf hRl hret
  obtain ⟨hx, hb, hr, hml, hts0, hown, hlocks, hin, hK, hlo, hZ⟩ := hF
  have hts : ∀ w ∈ tbg, w.before args s = true := fun w h => hts0 w (List.mem_cons_of_mem _ h)
  obtain ⟨f, g, hlm, hsz, hRG⟩ := hR
  obtain ⟨zr, hgr, hzr, hDr⟩ := hRG r hb_r
  obtain ⟨zo, hgo, hzo, hDo⟩ := hRG o hb_o
  refine gs (pc' := 1) (fun _ _ _ _ _ hl => lv_iconst (v := nI 0) hx hb d_Mo_copy_0 (by decide)) ?_
  refine gst (pc' := 2) (L' := [(3, .int (nI 0)), (0, .ref hm), (1, .int (nI r)), (2, .int (nI o))]) (fun _ _ _ _ _ hl => lv_istore_n hx hb d_Mo_copy_1 rfl hl (by decide) rfl) ?_
  refine gsub [0, 1, 2, 3] rfl ?_
  have loop : ∀ (q j : Nat) (f1 : Nat → Int32) (Gk : gT), (j + q = zo) → (∀ i, i < j → sh f1 r i = sh f o i) → (oth r f f1) → (gfr (fun x => x = 75 ∨ x = 76) G Gk) → Gk hm = some (70, .inr (9, [.int (I 0), .int (I 1), .ref (A 2), .ref (A 3), .ref (A 4), .ref (A 5), .int (I 6), .int (I 7), .ref (A 8), .ref (A 9), .int (I 10), .ref (A 11), .ref (A 12), .ref (A 13), .int (I 14), .ref (A 15), .ref (A 16), .ref (A 17), .ref (A 18), .int (I 19), .int (I 20), .int (I 21)])) → Gk (A 8) = some (75, .inl (cA 0, 38700, .inl f1)) → Gk (A 9) = some (76, .inl (cA 0, 9, .inl g)) → gV p l e R s m args below meth c D clS lo 4 Q 2 [(3, .int (nI j)), (0, .ref hm), (1, .int (nI r)), (2, .int (nI o))] [] Gk B := by
    intro q
    induction q with
    | zero =>
      intro j f1 Gk hj hcp hot hfr k1 k2 k3
      have hjn : zo = j := by omega
      refine gs (pc' := 3) (fun _ _ _ _ _ hl => lv_iload_n hx hb d_Mo_copy_2 rfl (lv_at hl 0 rfl)) ?_
      refine gs (pc' := 4) (fun _ _ _ _ _ hl => lv_aload_n hx hb d_Mo_copy_3 rfl (lv_at hl 1 rfl)) ?_
      refine g_get hx hb hts hin_Mo hown hK k1 rfl 9 (by decide) (hts _ wm763) (fun _ h9 => h9) rfl d_Mo_copy_4 ?_
      refine gs (pc' := 8) (fun _ _ _ _ _ hl => lv_iload_n hx hb d_Mo_copy_7 rfl (lv_at hl 3 rfl)) ?_
      refine g_iald hx hb hK 0 k3 rfl (show vp_in (nI o) 9 from vp_in_nI (by omega) (by omega)) d_Mo_copy_8 ?_
      refine g_eqi (show g (nI o).toNatClampNeg = g o from by rw [nI_clamp (by omega)]) ?_
      refine g_eqi (show g o = nI zo from hgo) ?_
      refine gsb (pc1 := 42) (pc2 := 12) (fun _ _ _ _ _ => lv_icmp_ge (tgt := 42) hx hb d_Mo_copy_9 (by decide)) (fun c_1 => ?_) (fun c_1 => ?_)
      · skip
        have nc_1 : j ≥ zo := (nn_ge (a := j) (b := zo) (by omega) (by omega)).1 c_1
        refine gs (pc' := 43) (fun _ _ _ _ _ hl => lv_aload_n hx hb d_Mo_copy_42 rfl (lv_at hl 1 rfl)) ?_
        refine g_get hx hb hts hin_Mo hown hK k1 rfl 9 (by decide) (hts _ wm763) (fun _ h9 => h9) rfl d_Mo_copy_43 ?_
        refine gs (pc' := 47) (fun _ _ _ _ _ hl => lv_iload_n hx hb d_Mo_copy_46 rfl (lv_at hl 2 rfl)) ?_
        refine gs (pc' := 48) (fun _ _ _ _ _ hl => lv_aload_n hx hb d_Mo_copy_47 rfl (lv_at hl 1 rfl)) ?_
        refine g_get hx hb hts hin_Mo hown hK k1 rfl 9 (by decide) (hts _ wm763) (fun _ h9 => h9) rfl d_Mo_copy_48 ?_
        refine gs (pc' := 52) (fun _ _ _ _ _ hl => lv_iload_n hx hb d_Mo_copy_51 rfl (lv_at hl 3 rfl)) ?_
        refine g_iald hx hb hK 0 k3 rfl (show vp_in (nI o) 9 from vp_in_nI (by omega) (by omega)) d_Mo_copy_52 ?_
        refine g_eqi (show g (nI o).toNatClampNeg = g o from by rw [nI_clamp (by omega)]) ?_
        refine g_eqi (show g o = nI zo from hgo) ?_
        refine g_iast hx hb hK 0 k3 rfl (show vp_in (nI r) 9 from vp_in_nI (by omega) (by omega)) d_Mo_copy_53 (fun G_2 f_3 o_4 => ?_)
        rw [nI_clamp (by omega)] at f_3
        have f_5 : G_2 hm = some (70, .inr (9, [.int (I 0), .int (I 1), .ref (A 2), .ref (A 3), .ref (A 4), .ref (A 5), .int (I 6), .int (I 7), .ref (A 8), .ref (A 9), .int (I 10), .ref (A 11), .ref (A 12), .ref (A 13), .int (I 14), .ref (A 15), .ref (A 16), .ref (A 17), .ref (A 18), .int (I 19), .int (I 20), .int (I 21)])) := (o_4 _ (gne k1 k3 (fun e => by cases e))).trans k1
        have f_6 : G_2 (A 8) = some (75, .inl (cA 0, 38700, .inl f1)) := (o_4 _ (gne k2 k3 (by simp))).trans k2
        have gf_7 : gfr (fun x => x = 75 ∨ x = 76) G G_2 := gfr_put hfr k3 (show (76 : Nat) = 75 ∨ (76 : Nat) = 76 by simp) o_4
        exact hret 54 _ _ _ d_Mo_copy_54 hB1 hB2 ⟨rfl, ⟨_, _, f_6, f_3, RG_set hRG hot hzo (isD_congr hDo (fun i9 h9 => hcp i9 (by omega)))⟩, f_5, gfr_mono gf_7 (fun x h9 => by omega)⟩
      · skip
        have nc_1 : j < zo := (nn_ge (a := j) (b := zo) (by omega) (by omega)).2 c_1
        exact absurd nc_1 (by omega)
    | succ q ih =>
      intro j f1 Gk hj hcp hot hfr k1 k2 k3
      refine gs (pc' := 3) (fun _ _ _ _ _ hl => lv_iload_n hx hb d_Mo_copy_2 rfl (lv_at hl 0 rfl)) ?_
      refine gs (pc' := 4) (fun _ _ _ _ _ hl => lv_aload_n hx hb d_Mo_copy_3 rfl (lv_at hl 1 rfl)) ?_
      refine g_get hx hb hts hin_Mo hown hK k1 rfl 9 (by decide) (hts _ wm763) (fun _ h9 => h9) rfl d_Mo_copy_4 ?_
      refine gs (pc' := 8) (fun _ _ _ _ _ hl => lv_iload_n hx hb d_Mo_copy_7 rfl (lv_at hl 3 rfl)) ?_
      refine g_iald hx hb hK 0 k3 rfl (show vp_in (nI o) 9 from vp_in_nI (by omega) (by omega)) d_Mo_copy_8 ?_
      refine g_eqi (show g (nI o).toNatClampNeg = g o from by rw [nI_clamp (by omega)]) ?_
      refine g_eqi (show g o = nI zo from hgo) ?_
      refine gsb (pc1 := 42) (pc2 := 12) (fun _ _ _ _ _ => lv_icmp_ge (tgt := 42) hx hb d_Mo_copy_9 (by decide)) (fun c_8 => ?_) (fun c_8 => ?_)
      · skip
        have nc_8 : j ≥ zo := (nn_ge (a := j) (b := zo) (by omega) (by omega)).1 c_8
        exact absurd nc_8 (by omega)
      · skip
        have nc_8 : j < zo := (nn_ge (a := j) (b := zo) (by omega) (by omega)).2 c_8
        refine gs (pc' := 13) (fun _ _ _ _ _ hl => lv_aload_n hx hb d_Mo_copy_12 rfl (lv_at hl 1 rfl)) ?_
        refine g_get hx hb hts hin_Mo hown hK k1 rfl 8 (by decide) (hts _ wm762) (fun _ h9 => h9) rfl d_Mo_copy_13 ?_
        refine gs (pc' := 19) (fun _ _ _ _ _ hl => lv_sipush (v := nI 4300) hx hb d_Mo_copy_16 (by decide)) ?_
        refine gs (pc' := 20) (fun _ _ _ _ _ hl => lv_iload_n hx hb d_Mo_copy_19 rfl (lv_at hl 2 rfl)) ?_
        refine gs (pc' := 21) (fun _ _ _ _ _ hl => lv_imul hx hb d_Mo_copy_20) ?_
        refine g_eqi (show (nI 4300) * (nI r) = nI (4300 * r) from pk_mul _ _) ?_
        refine gs (pc' := 22) (fun _ _ _ _ _ hl => lv_iload_n hx hb d_Mo_copy_21 rfl (lv_at hl 0 rfl)) ?_
        refine gs (pc' := 23) (fun _ _ _ _ _ hl => lv_iadd hx hb d_Mo_copy_22) ?_
        refine g_eqi (show (nI (4300 * r)) + (nI j) = nI ((4300 * r) + j) from nI_add _ _) ?_
        refine gs (pc' := 24) (fun _ _ _ _ _ hl => lv_aload_n hx hb d_Mo_copy_23 rfl (lv_at hl 1 rfl)) ?_
        refine g_get hx hb hts hin_Mo hown hK k1 rfl 8 (by decide) (hts _ wm762) (fun _ h9 => h9) rfl d_Mo_copy_24 ?_
        refine gs (pc' := 30) (fun _ _ _ _ _ hl => lv_sipush (v := nI 4300) hx hb d_Mo_copy_27 (by decide)) ?_
        refine gs (pc' := 31) (fun _ _ _ _ _ hl => lv_iload_n hx hb d_Mo_copy_30 rfl (lv_at hl 3 rfl)) ?_
        refine gs (pc' := 32) (fun _ _ _ _ _ hl => lv_imul hx hb d_Mo_copy_31) ?_
        refine g_eqi (show (nI 4300) * (nI o) = nI (4300 * o) from pk_mul _ _) ?_
        refine gs (pc' := 33) (fun _ _ _ _ _ hl => lv_iload_n hx hb d_Mo_copy_32 rfl (lv_at hl 0 rfl)) ?_
        refine gs (pc' := 34) (fun _ _ _ _ _ hl => lv_iadd hx hb d_Mo_copy_33) ?_
        refine g_eqi (show (nI (4300 * o)) + (nI j) = nI ((4300 * o) + j) from nI_add _ _) ?_
        refine g_iald hx hb hK 0 k2 rfl (show vp_in (nI ((4300 * o) + j)) 38700 from vp_in_nI (by omega) (by omega)) d_Mo_copy_34 ?_
        refine g_eqi (show f1 (nI ((4300 * o) + j)).toNatClampNeg = f1 ((4300 * o) + j) from by rw [nI_clamp (by omega)]) ?_
        refine g_iast hx hb hK 0 k2 rfl (show vp_in (nI ((4300 * r) + j)) 38700 from vp_in_nI (by omega) (by omega)) d_Mo_copy_35 (fun G_9 f_10 o_11 => ?_)
        rw [nI_clamp (by omega)] at f_10
        have f_12 : G_9 hm = some (70, .inr (9, [.int (I 0), .int (I 1), .ref (A 2), .ref (A 3), .ref (A 4), .ref (A 5), .int (I 6), .int (I 7), .ref (A 8), .ref (A 9), .int (I 10), .ref (A 11), .ref (A 12), .ref (A 13), .int (I 14), .ref (A 15), .ref (A 16), .ref (A 17), .ref (A 18), .int (I 19), .int (I 20), .int (I 21)])) := (o_11 _ (gne k1 k2 (fun e => by cases e))).trans k1
        have f_13 : G_9 (A 9) = some (76, .inl (cA 0, 9, .inl g)) := (o_11 _ (gne k3 k2 (by simp))).trans k3
        refine gst (pc' := 39) (L' := [(3, .int (nI (j + 1))), (0, .ref hm), (1, .int (nI r)), (2, .int (nI o))]) (fun _ _ _ _ _ hl => lv_iinc (v := nI (j + 1)) hx hb d_Mo_copy_36 hl (k := 0) rfl (nI_add _ 1) (by decide) rfl) ?_
        refine gs (pc' := 2) (fun _ _ _ _ _ hl => lv_goto (tgt := 2) hx hb d_Mo_copy_39 (by decide)) ?_
        refine gsub [0, 1, 2, 3] rfl ?_
        exact ih (j + 1) (upd f1 ((4300 * r) + j) (f1 ((4300 * o) + j))) G_9 (by omega) (fun i9 h9 => by
          rw [sh_us]
          by_cases e9 : i9 = j
          · subst e9; rw [pk_us]; exact hot o hro i9 (by omega)
          · rw [pk_un e9]; exact hcp i9 (by omega)) (oth_up hot (by omega)) (gfr_put hfr k2 (Or.inl rfl) o_11) f_12 f_10 f_13
  exact loop zo 0 f G (by omega) (fun i9 h9 => absurd h9 (Nat.not_lt_zero _)) oth_rf gfr_rf hob hlm hsz
set_option maxHeartbeats 4000000 in
set_option maxRecDepth 100000 in
theorem c_Mo_set (l : Launch) (D : va_G) (cA : Nat → ClassId) (lo MC MS : Nat) (G : gT) (B : Nat × Nat) (hm : Nat) (A : Nat → Nat) (I : Nat → Int32) (hob : G hm = some (70, .inr (9, mfs A I))) (Rg : Nat → Nat) (hR : MR cA A Rg G) (r : Nat) (hb_r : r < 9) (v : Nat) (hv : v < 9223372036854775808) (hB1 : B.1 ≤ MC) (hB2 : B.2 ≤ MS) : gMet l y_Mo_set w_Mo_set 0 0 D clS (gtys cA) lo MC MS [.ref hm, .int (nI r), .long (lN v)] G B (gQv D clS lo (fun u => u.2 = B ∧ MR cA A (fup Rg r (v)) u.1 ∧ u.1 hm = some (70, .inr (9, mfs A I)) ∧ gfr (fun x => x = 75 ∨ x = 76) G u.1)) := by
  refine g_metv (cc := prog_11_method_5_code) (nL := 6) (L := [(0, .ref hm), (1, .int (nI r)), (2, .long (lN v))]) (by decide +kernel) rfl (Nat.le_of_ble_eq_true rfl) rfl ?_
  intro p e R s m args below meth c Q hF hRc hRs hRf hRl hret
  obtain ⟨hx, hb, hr, hml, hts0, hown, hlocks, hin, hK, hlo, hZ⟩ := hF
  have hts : ∀ w ∈ tbg, w.before args s = true := fun w h => hts0 w (List.mem_cons_of_mem _ h)
  obtain ⟨f, g, hlm, hsz, hRG⟩ := hR
  obtain ⟨zr, hgr, hzr, hDr⟩ := hRG r hb_r
  refine gs (pc' := 1) (fun _ _ _ _ _ hl => lv_aload_n hx hb d_Mo_set_0 rfl (lv_at hl 0 rfl)) ?_
  refine g_get hx hb hts hin_Mo hown hK hob rfl 9 (by decide) (hts _ wm763) (fun _ h9 => h9) rfl d_Mo_set_1 ?_
  refine gs (pc' := 5) (fun _ _ _ _ _ hl => lv_iload_n hx hb d_Mo_set_4 rfl (lv_at hl 1 rfl)) ?_
  refine gs (pc' := 6) (fun _ _ _ _ _ hl => lv_iconst (v := nI 0) hx hb d_Mo_set_5 (by decide)) ?_
  refine g_iast hx hb hK 0 hsz rfl (show vp_in (nI r) 9 from vp_in_nI (by omega) (by omega)) d_Mo_set_6 (fun G_1 f_2 o_3 => ?_)
  rw [nI_clamp (by omega)] at f_2
  have f_4 : G_1 hm = some (70, .inr (9, [.int (I 0), .int (I 1), .ref (A 2), .ref (A 3), .ref (A 4), .ref (A 5), .int (I 6), .int (I 7), .ref (A 8), .ref (A 9), .int (I 10), .ref (A 11), .ref (A 12), .ref (A 13), .int (I 14), .ref (A 15), .ref (A 16), .ref (A 17), .ref (A 18), .int (I 19), .int (I 20), .int (I 21)])) := (o_3 _ (gne hob hsz (fun e => by cases e))).trans hob
  have f_5 : G_1 (A 8) = some (75, .inl (cA 0, 38700, .inl f)) := (o_3 _ (gne hlm hsz (by simp))).trans hlm
  have gf_6 : gfr (fun x => x = 75 ∨ x = 76) G G_1 := gfr_put gfr_rf hsz (show (76 : Nat) = 75 ∨ (76 : Nat) = 76 by simp) o_3
  refine gs (pc' := 8) (fun _ _ _ _ _ hl => lv_lload_n hx hb d_Mo_set_7 rfl (lv_at hl 2 rfl)) ?_
  refine gst (pc' := 10) (L' := [(4, .long (lN v)), (0, .ref hm), (1, .int (nI r)), (2, .long (lN v))]) (fun _ _ _ _ _ hl => lv_lstore hx hb d_Mo_set_8 hl (by decide) rfl) ?_
  refine gsub [0, 1, 2] rfl ?_
  have loop : ∀ (q lf y : Nat) (f1 g1 : Nat → Int32) (Gk : gT), (lf < 1000000000 ^ q) → (lf ≤ v) → (y + q ≤ 10) → (g1 r = nI y) → (∀ o, o ≠ r → g1 o = g o) → (lim (sh f1 r) y) → (dv (df (sh f1 r)) y + lf * 1000000000 ^ y = v) → (lf = 0 → y = 0 ∨ df (sh f1 r) (y - 1) ≠ 0) → (oth r f f1) → (gfr (fun x => x = 75 ∨ x = 76) G Gk) → Gk hm = some (70, .inr (9, [.int (I 0), .int (I 1), .ref (A 2), .ref (A 3), .ref (A 4), .ref (A 5), .int (I 6), .int (I 7), .ref (A 8), .ref (A 9), .int (I 10), .ref (A 11), .ref (A 12), .ref (A 13), .int (I 14), .ref (A 15), .ref (A 16), .ref (A 17), .ref (A 18), .int (I 19), .int (I 20), .int (I 21)])) → Gk (A 8) = some (75, .inl (cA 0, 38700, .inl f1)) → Gk (A 9) = some (76, .inl (cA 0, 9, .inl g1)) → gV p l e R s m args below meth c D clS lo 6 Q 10 [(4, .long (lN lf)), (0, .ref hm), (1, .int (nI r))] [] Gk B := by
    intro q
    induction q with
    | zero =>
      intro lf y f1 g1 Gk hlq hlb hyq hgr hgo hl hdv htp hot hfr k1 k2 k3
      have hl1 : lf < 1 := hlq
      refine gs (pc' := 12) (fun _ _ _ _ _ hl => lv_lload hx hb d_Mo_set_10 (lv_at hl 0 rfl)) ?_
      refine gs (pc' := 13) (fun _ _ _ _ _ hl => lv_lconst (v := lN 0) hx hb d_Mo_set_12 (by decide)) ?_
      refine gs (pc' := 14) (fun _ _ _ _ _ hl => W.lcmp hx hb d_Mo_set_13) ?_
      refine gsb (pc1 := 62) (pc2 := 17) (fun _ _ _ _ _ => lv_if_le (tgt := 62) hx hb d_Mo_set_14 (by decide)) (fun c_7 => ?_) (fun c_7 => ?_)
      · skip
        have nc_7 : lf ≤ 0 := (lcN_le (a := lf) (b := 0) (by omega) (by omega)).1 c_7
        have hl0 : lf = 0 := by omega
        rw [hl0, Nat.zero_mul, Nat.add_zero] at hdv
        exact hret 62 _ _ _ d_Mo_set_62 hB1 hB2 ⟨rfl, ⟨_, _, k2, k3, RG_set' hRG hot hgr hgo (by omega) ⟨hl, htp hl0, hdv⟩⟩, k1, gfr_mono hfr (fun x h9 => by omega)⟩
      · skip
        have nc_7 : lf > 0 := (lcN_le (a := lf) (b := 0) (by omega) (by omega)).2 c_7
        exact absurd nc_7 (by omega)
    | succ q ih =>
      intro lf y f1 g1 Gk hlq hlb hyq hgr hgo hl hdv htp hot hfr k1 k2 k3
      refine gs (pc' := 12) (fun _ _ _ _ _ hl => lv_lload hx hb d_Mo_set_10 (lv_at hl 0 rfl)) ?_
      refine gs (pc' := 13) (fun _ _ _ _ _ hl => lv_lconst (v := lN 0) hx hb d_Mo_set_12 (by decide)) ?_
      refine gs (pc' := 14) (fun _ _ _ _ _ hl => W.lcmp hx hb d_Mo_set_13) ?_
      refine gsb (pc1 := 62) (pc2 := 17) (fun _ _ _ _ _ => lv_if_le (tgt := 62) hx hb d_Mo_set_14 (by decide)) (fun c_8 => ?_) (fun c_8 => ?_)
      · skip
        have nc_8 : lf ≤ 0 := (lcN_le (a := lf) (b := 0) (by omega) (by omega)).1 c_8
        have hl0 : lf = 0 := by omega
        rw [hl0, Nat.zero_mul, Nat.add_zero] at hdv
        exact hret 62 _ _ _ d_Mo_set_62 hB1 hB2 ⟨rfl, ⟨_, _, k2, k3, RG_set' hRG hot hgr hgo (by omega) ⟨hl, htp hl0, hdv⟩⟩, k1, gfr_mono hfr (fun x h9 => by omega)⟩
      · skip
        have nc_8 : lf > 0 := (lcN_le (a := lf) (b := 0) (by omega) (by omega)).2 c_8
        have hlp : 0 < lf := by omega
        have hdm := Nat.div_add_mod lf 1000000000
        have hml := Nat.mod_lt lf (show 0 < 1000000000 by decide)
        refine gs (pc' := 18) (fun _ _ _ _ _ hl => lv_aload_n hx hb d_Mo_set_17 rfl (lv_at hl 1 rfl)) ?_
        refine g_get hx hb hts hin_Mo hown hK k1 rfl 8 (by decide) (hts _ wm762) (fun _ h9 => h9) rfl d_Mo_set_18 ?_
        refine gs (pc' := 24) (fun _ _ _ _ _ hl => lv_sipush (v := nI 4300) hx hb d_Mo_set_21 (by decide)) ?_
        refine gs (pc' := 25) (fun _ _ _ _ _ hl => lv_iload_n hx hb d_Mo_set_24 rfl (lv_at hl 2 rfl)) ?_
        refine gs (pc' := 26) (fun _ _ _ _ _ hl => lv_imul hx hb d_Mo_set_25) ?_
        refine g_eqi (show (nI 4300) * (nI r) = nI (4300 * r) from pk_mul _ _) ?_
        refine gs (pc' := 27) (fun _ _ _ _ _ hl => lv_aload_n hx hb d_Mo_set_26 rfl (lv_at hl 1 rfl)) ?_
        refine g_get hx hb hts hin_Mo hown hK k1 rfl 9 (by decide) (hts _ wm763) (fun _ h9 => h9) rfl d_Mo_set_27 ?_
        refine gs (pc' := 31) (fun _ _ _ _ _ hl => lv_iload_n hx hb d_Mo_set_30 rfl (lv_at hl 2 rfl)) ?_
        refine g_iald hx hb hK 0 k3 rfl (show vp_in (nI r) 9 from vp_in_nI (by omega) (by omega)) d_Mo_set_31 ?_
        refine g_eqi (show g1 (nI r).toNatClampNeg = g1 r from by rw [nI_clamp (by omega)]) ?_
        refine g_eqi (show g1 r = nI y from hgr) ?_
        refine gs (pc' := 33) (fun _ _ _ _ _ hl => lv_iadd hx hb d_Mo_set_32) ?_
        refine g_eqi (show (nI (4300 * r)) + (nI y) = nI ((4300 * r) + y) from nI_add _ _) ?_
        refine gs (pc' := 35) (fun _ _ _ _ _ hl => lv_lload hx hb d_Mo_set_33 (lv_at hl 0 rfl)) ?_
        refine gs (pc' := 38) (fun _ _ _ _ _ hl => lv_ldc2 (v := 1000000000) hx hb hown (hts _ wm842) d_Mo_set_35) ?_
        refine g_eql (show 1000000000 = lN 1000000000 from rfl) ?_
        refine gs (pc' := 39) (fun _ _ _ _ _ hl => lv_lrem hx hb d_Mo_set_38 (by decide)) ?_
        refine g_eql (show (lN lf) - (lN lf) / (lN 1000000000) * (lN 1000000000) = lN (lf % 1000000000) from pk_lRem (by omega) (by omega) (by omega)) ?_
        refine gs (pc' := 40) (fun _ _ _ _ _ hl => lv_l2i (v := nI (lf % 1000000000)) hx hb d_Mo_set_39 (lN_i _)) ?_
        refine g_iast hx hb hK 0 k2 rfl (show vp_in (nI ((4300 * r) + y)) 38700 from vp_in_nI (by omega) (by omega)) d_Mo_set_40 (fun G_9 f_10 o_11 => ?_)
        rw [nI_clamp (by omega)] at f_10
        have f_12 : G_9 hm = some (70, .inr (9, [.int (I 0), .int (I 1), .ref (A 2), .ref (A 3), .ref (A 4), .ref (A 5), .int (I 6), .int (I 7), .ref (A 8), .ref (A 9), .int (I 10), .ref (A 11), .ref (A 12), .ref (A 13), .int (I 14), .ref (A 15), .ref (A 16), .ref (A 17), .ref (A 18), .int (I 19), .int (I 20), .int (I 21)])) := (o_11 _ (gne k1 k2 (fun e => by cases e))).trans k1
        have f_13 : G_9 (A 9) = some (76, .inl (cA 0, 9, .inl g1)) := (o_11 _ (gne k3 k2 (by simp))).trans k3
        have gf_14 : gfr (fun x => x = 75 ∨ x = 76) G G_9 := gfr_put hfr k2 (show (75 : Nat) = 75 ∨ (75 : Nat) = 76 by simp) o_11
        refine gs (pc' := 42) (fun _ _ _ _ _ hl => lv_aload_n hx hb d_Mo_set_41 rfl (lv_at hl 1 rfl)) ?_
        refine g_get hx hb hts hin_Mo hown hK f_12 rfl 9 (by decide) (hts _ wm763) (fun _ h9 => h9) rfl d_Mo_set_42 ?_
        refine gs (pc' := 46) (fun _ _ _ _ _ hl => lv_iload_n hx hb d_Mo_set_45 rfl (lv_at hl 2 rfl)) ?_
        refine gs (pc' := 47) (fun _ _ _ _ _ hl => lv_dup2_11 hx hb d_Mo_set_46 rfl rfl) ?_
        refine g_iald hx hb hK 0 f_13 rfl (show vp_in (nI r) 9 from vp_in_nI (by omega) (by omega)) d_Mo_set_47 ?_
        refine g_eqi (show g1 (nI r).toNatClampNeg = g1 r from by rw [nI_clamp (by omega)]) ?_
        refine g_eqi (show g1 r = nI y from hgr) ?_
        refine gs (pc' := 49) (fun _ _ _ _ _ hl => lv_iconst (v := nI 1) hx hb d_Mo_set_48 (by decide)) ?_
        refine gs (pc' := 50) (fun _ _ _ _ _ hl => lv_iadd hx hb d_Mo_set_49) ?_
        refine g_eqi (show (nI y) + (nI 1) = nI (y + 1) from nI_add _ _) ?_
        refine g_iast hx hb hK 0 f_13 rfl (show vp_in (nI r) 9 from vp_in_nI (by omega) (by omega)) d_Mo_set_50 (fun G_15 f_16 o_17 => ?_)
        rw [nI_clamp (by omega)] at f_16
        have f_18 : G_15 hm = some (70, .inr (9, [.int (I 0), .int (I 1), .ref (A 2), .ref (A 3), .ref (A 4), .ref (A 5), .int (I 6), .int (I 7), .ref (A 8), .ref (A 9), .int (I 10), .ref (A 11), .ref (A 12), .ref (A 13), .int (I 14), .ref (A 15), .ref (A 16), .ref (A 17), .ref (A 18), .int (I 19), .int (I 20), .int (I 21)])) := (o_17 _ (gne f_12 f_13 (fun e => by cases e))).trans f_12
        have f_19 : G_15 (A 8) = some (75, .inl (cA 0, 38700, .inl (upd f1 ((4300 * r) + y) (nI (lf % 1000000000))))) := (o_17 _ (gne f_10 f_13 (by simp))).trans f_10
        have gf_20 : gfr (fun x => x = 75 ∨ x = 76) G G_15 := gfr_put gf_14 f_13 (show (76 : Nat) = 75 ∨ (76 : Nat) = 76 by simp) o_17
        refine gs (pc' := 53) (fun _ _ _ _ _ hl => lv_lload hx hb d_Mo_set_51 (lv_at hl 0 rfl)) ?_
        refine gs (pc' := 56) (fun _ _ _ _ _ hl => lv_ldc2 (v := 1000000000) hx hb hown (hts _ wm842) d_Mo_set_53) ?_
        refine g_eql (show 1000000000 = lN 1000000000 from rfl) ?_
        refine gs (pc' := 57) (fun _ _ _ _ _ hl => lv_ldiv hx hb d_Mo_set_56 (by decide)) ?_
        refine g_eql (show (lN lf) / (lN 1000000000) = lN (lf / 1000000000) from pk_lDiv (by omega) (by omega) (by omega)) ?_
        refine gst (pc' := 59) (L' := [(4, .long (lN (lf / 1000000000))), (0, .ref hm), (1, .int (nI r))]) (fun _ _ _ _ _ hl => lv_lstore hx hb d_Mo_set_57 hl (by decide) rfl) ?_
        refine gs (pc' := 10) (fun _ _ _ _ _ hl => lv_goto (tgt := 10) hx hb d_Mo_set_59 (by decide)) ?_
        refine gsub [0, 1, 2] rfl ?_
        exact ih (lf / 1000000000) (y + 1) (upd f1 ((4300 * r) + y) (nI (lf % 1000000000))) (upd g1 r (nI (y + 1))) G_15 (by rw [pB_s] at hlq; omega) (Nat.le_trans (Nat.div_le_self _ _) hlb) (by omega) pk_us (fun o9 h9 => (pk_un h9).trans (hgo o9 h9)) (by rw [sh_us]; exact lim_upd_s hl (by omega)) (by rw [sh_us, dv_upd_s (by omega), ← hdv, pB_s]; exact set_st hdm) (fun h9 => Or.inr (by rw [sh_us, Nat.add_sub_cancel, df_us (by omega)]; omega)) (oth_up hot (by omega)) gf_20 f_18 f_19 f_16
  exact loop 3 v 0 f (upd g r (nI 0)) G_1 (lt_pow3 hv) (Nat.le_refl _) (by omega) pk_us (fun o9 h9 => pk_un h9) (fun i9 h9 => absurd h9 (Nat.not_lt_zero _)) (by simp [dv_0]) (fun _ => Or.inl rfl) oth_rf gf_6 f_4 f_5 f_2
