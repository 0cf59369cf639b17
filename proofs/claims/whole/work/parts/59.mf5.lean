set_option maxHeartbeats 4000000 in
set_option maxRecDepth 100000 in
theorem c_Ro_put (l : Launch) (D : va_G) (cA : Nat → ClassId) (lo MC MS : Nat) (G : gT) (B : Nat × Nat) (t tp th h ap ah n q1 q2 t1 t2 f1 f2 : Nat) (u1 u2 : Int32) (pf hg : Nat → Option Nat) (ht1 : ¬ tp = t) (ht2 : ¬ th = t) (ht3 : ¬ tp = th) (hh : G h = some (t, .inr (5, [.ref ap, .ref ah, .int (nI n)]))) (hap : G ap = some (tp, .inl (cA 2, 16, .inr (.inr (.inr (.inr pf)))))) (hah : G ah = some (th, .inl (cA 2, 16, .inr (.inr (.inr (.inr hg)))))) (hq1 : G q1 = some (t1, .inr (6, [.ref f1, .int u1]))) (hq2 : G q2 = some (t2, .inr (6, [.ref f2, .int u2]))) (hn : n < 16) (hB1 : B.1 ≤ MC) (hB2 : B.2 ≤ MS) : gMet l y_Ro_put w_Ro_put 0 0 D clS (gtys cA) lo MC MS [.ref h, .ref q1, .ref q2] G B (gQv D clS lo (fun u => u.2 = B ∧ u.1 h = some (t, .inr (5, [.ref ap, .ref ah, .int (nI (n + 1))])) ∧ u.1 ap = some (tp, .inl (cA 2, 16, .inr (.inr (.inr (.inr (va_up pf n (some q1))))))) ∧ u.1 ah = some (th, .inl (cA 2, 16, .inr (.inr (.inr (.inr (va_up hg n (some q2))))))) ∧ gfr (fun x => x = t ∨ x = tp ∨ x = th) G u.1)) := by
  refine g_metv (cc := prog_7_method_2_code) (nL := 3) (L := [(0, .ref h), (1, .ref q1), (2, .ref q2)]) (by decide +kernel) rfl (Nat.le_of_ble_eq_true rfl) rfl ?_
  intro p e R s m args below meth c Q hF hRc hRs hRf hRl hret
  obtain ⟨hx, hb, hr, hml, hts0, hown, hlocks, hin, hK, hlo, hZ⟩ := hF
  have hts : ∀ w ∈ tbg, w.before args s = true := fun w h => hts0 w (List.mem_cons_of_mem _ h)
  refine gs (pc' := 1) (fun _ _ _ _ _ hl => lv_aload_n hx hb d_Ro_put_0 rfl (lv_at hl 0 rfl)) ?_
  refine g_get hx hb hts hin_Ro hown hK hh rfl 2 (by decide) (hts _ wm226) (fun _ h9 => h9) rfl d_Ro_put_1 ?_
  refine gs (pc' := 6) (fun _ _ _ _ _ hl => lv_bipush (v := nI 16) hx hb d_Ro_put_4 (by decide)) ?_
  refine gsb (pc1 := 39) (pc2 := 9) (fun _ _ _ _ _ => lv_icmp_ge (tgt := 39) hx hb d_Ro_put_6 (by decide)) (fun c_1 => ?_) (fun c_1 => ?_)
  · skip
    have nc_1 : n ≥ 16 := (nn_ge (a := n) (b := 16) (by omega) (by omega)).1 c_1
    exact absurd nc_1 (by omega)
  · skip
    have nc_1 : n < 16 := (nn_ge (a := n) (b := 16) (by omega) (by omega)).2 c_1
    refine gs (pc' := 10) (fun _ _ _ _ _ hl => lv_aload_n hx hb d_Ro_put_9 rfl (lv_at hl 0 rfl)) ?_
    refine g_get hx hb hts hin_Ro hown hK hh rfl 0 (by decide) (hts _ wm222) (fun _ h9 => h9) rfl d_Ro_put_10 ?_
    refine gs (pc' := 14) (fun _ _ _ _ _ hl => lv_aload_n hx hb d_Ro_put_13 rfl (lv_at hl 0 rfl)) ?_
    refine g_get hx hb hts hin_Ro hown hK hh rfl 2 (by decide) (hts _ wm226) (fun _ h9 => h9) rfl d_Ro_put_14 ?_
    refine gs (pc' := 18) (fun _ _ _ _ _ hl => lv_aload_n hx hb d_Ro_put_17 rfl (lv_at hl 1 rfl)) ?_
    refine g_aast hx hb hK 2 6 hap rfl hq1 rfl (show vp_in (nI n) 16 from vp_in_nI (by omega) (by omega)) d_Ro_put_18 (fun G_2 f_3 o_4 => ?_)
    rw [nI_clamp (by omega)] at f_3
    have f_5 : G_2 h = some (t, .inr (5, [.ref ap, .ref ah, .int (nI n)])) := (o_4 _ (gne hh hap (fun e => by cases e))).trans hh
    have f_6 : G_2 ah = some (th, .inl (cA 2, 16, .inr (.inr (.inr (.inr hg))))) := (o_4 _ (gne hah hap (fun e => ht3 (congrArg Prod.fst e).symm))).trans hah
    have f_7 : G_2 q1 = some (t1, .inr (6, [.ref f1, .int u1])) := (o_4 _ (gne hq1 hap (fun e => by cases e))).trans hq1
    have f_8 : G_2 q2 = some (t2, .inr (6, [.ref f2, .int u2])) := (o_4 _ (gne hq2 hap (fun e => by cases e))).trans hq2
    have w_9 : gfr (fun x => x = t ∨ x = tp ∨ x = th) G G_2 := gfr_put gfr_rf hap (Or.inr (Or.inl rfl)) o_4
    refine gs (pc' := 20) (fun _ _ _ _ _ hl => lv_aload_n hx hb d_Ro_put_19 rfl (lv_at hl 0 rfl)) ?_
    refine g_get hx hb hts hin_Ro hown hK f_5 rfl 1 (by decide) (hts _ wm224) (fun _ h9 => h9) rfl d_Ro_put_20 ?_
    refine gs (pc' := 24) (fun _ _ _ _ _ hl => lv_aload_n hx hb d_Ro_put_23 rfl (lv_at hl 0 rfl)) ?_
    refine g_get hx hb hts hin_Ro hown hK f_5 rfl 2 (by decide) (hts _ wm226) (fun _ h9 => h9) rfl d_Ro_put_24 ?_
    refine gs (pc' := 28) (fun _ _ _ _ _ hl => lv_aload_n hx hb d_Ro_put_27 rfl (lv_at hl 2 rfl)) ?_
    refine g_aast hx hb hK 2 6 f_6 rfl f_8 rfl (show vp_in (nI n) 16 from vp_in_nI (by omega) (by omega)) d_Ro_put_28 (fun G_10 f_11 o_12 => ?_)
    rw [nI_clamp (by omega)] at f_11
    have f_13 : G_10 h = some (t, .inr (5, [.ref ap, .ref ah, .int (nI n)])) := (o_12 _ (gne f_5 f_6 (fun e => by cases e))).trans f_5
    have f_14 : G_10 q1 = some (t1, .inr (6, [.ref f1, .int u1])) := (o_12 _ (gne f_7 f_6 (fun e => by cases e))).trans f_7
    have f_15 : G_10 q2 = some (t2, .inr (6, [.ref f2, .int u2])) := (o_12 _ (gne f_8 f_6 (fun e => by cases e))).trans f_8
    have f_16 : G_10 ap = some (tp, .inl (cA 2, 16, .inr (.inr (.inr (.inr (va_up pf n (some q1))))))) := (o_12 _ (gne f_3 f_6 (fun e => ht3 (congrArg Prod.fst e)))).trans f_3
    have w_17 : gfr (fun x => x = t ∨ x = tp ∨ x = th) G G_10 := gfr_put w_9 f_6 (Or.inr (Or.inr rfl)) o_12
    refine gs (pc' := 30) (fun _ _ _ _ _ hl => lv_aload_n hx hb d_Ro_put_29 rfl (lv_at hl 0 rfl)) ?_
    refine gs (pc' := 31) (fun _ _ _ _ _ hl => lv_dup hx hb d_Ro_put_30 rfl) ?_
    refine g_get hx hb hts hin_Ro hown hK f_13 rfl 2 (by decide) (hts _ wm226) (fun _ h9 => h9) rfl d_Ro_put_31 ?_
    refine gs (pc' := 35) (fun _ _ _ _ _ hl => lv_iconst (v := nI 1) hx hb d_Ro_put_34 (by decide)) ?_
    refine gs (pc' := 36) (fun _ _ _ _ _ hl => lv_iadd hx hb d_Ro_put_35) ?_
    refine g_eqi (show (nI n) + (nI 1) = nI (n + 1) from nI_add _ _) ?_
    refine g_put (ty := .int) hx hb hts hin_Ro ty_Ro ty_Ro_ok nm_Ro hown hK f_13 rfl 2 (by decide) (hts _ wm226) (fun _ h9 => h9) rfl (by decide +kernel) rfl rfl (Nat.le_of_ble_eq_true rfl) d_Ro_put_36 (fun G_18 f_19 o_20 => ?_)
    have f_21 : G_18 h = some (t, .inr (5, [.ref ap, .ref ah, .int (nI (n + 1))])) := f_19
    have f_22 : G_18 q1 = some (t1, .inr (6, [.ref f1, .int u1])) := (o_20 _ (gne f_14 f_13 (fun e => by cases e))).trans f_14
    have f_23 : G_18 q2 = some (t2, .inr (6, [.ref f2, .int u2])) := (o_20 _ (gne f_15 f_13 (fun e => by cases e))).trans f_15
    have f_24 : G_18 ap = some (tp, .inl (cA 2, 16, .inr (.inr (.inr (.inr (va_up pf n (some q1))))))) := (o_20 _ (gne f_16 f_13 (fun e => by cases e))).trans f_16
    have f_25 : G_18 ah = some (th, .inl (cA 2, 16, .inr (.inr (.inr (.inr (va_up hg n (some q2))))))) := (o_20 _ (gne f_11 f_13 (fun e => by cases e))).trans f_11
    have w_26 : gfr (fun x => x = t ∨ x = tp ∨ x = th) G G_18 := gfr_put w_17 f_13 (Or.inl rfl) o_20
    exact hret 39 _ _ _ d_Ro_put_39 hB1 hB2 ⟨rfl, f_21, f_24, f_25, w_26⟩
set_option maxHeartbeats 4000000 in
set_option maxRecDepth 100000 in
theorem c_We_put (l : Launch) (D : va_G) (cA : Nat → ClassId) (lo MC MS : Nat) (G : gT) (B : Nat × Nat) (h ae ac n x : Nat) (ef : Nat → Int32) (hh : G h = some (35, .inr (7, [.ref ae, .ref ac, .int (nI n)]))) (hae : G ae = some (36, .inl (cA 0, 12, .inl ef))) (hn : n < 12) (hB1 : B.1 ≤ MC) (hB2 : B.2 ≤ MS) : gMet l y_We_put w_We_put 0 0 D clS (gtys cA) lo MC MS [.ref h, .int (nI x)] G B (gQv D clS lo (fun u => u.2 = B ∧ u.1 h = some (35, .inr (7, [.ref ae, .ref ac, .int (nI (n + 1))])) ∧ u.1 ae = some (36, .inl (cA 0, 12, .inl (upd ef n (nI x)))) ∧ gfr (fun x => x = 35 ∨ x = 36) G u.1)) := by
  refine g_metv (cc := prog_9_method_2_code) (nL := 2) (L := [(0, .ref h), (1, .int (nI x))]) (by decide +kernel) rfl (Nat.le_of_ble_eq_true rfl) rfl ?_
  intro p e R s m args below meth c Q hF hRc hRs hRf hRl hret
  obtain ⟨hx, hb, hr, hml, hts0, hown, hlocks, hin, hK, hlo, hZ⟩ := hF
  have hts : ∀ w ∈ tbg, w.before args s = true := fun w h => hts0 w (List.mem_cons_of_mem _ h)
  refine gs (pc' := 1) (fun _ _ _ _ _ hl => lv_aload_n hx hb d_We_put_0 rfl (lv_at hl 0 rfl)) ?_
  refine g_get hx hb hts hin_We hown hK hh rfl 2 (by decide) (hts _ wm40) (fun _ h9 => h9) rfl d_We_put_1 ?_
  refine gs (pc' := 6) (fun _ _ _ _ _ hl => lv_bipush (v := nI 12) hx hb d_We_put_4 (by decide)) ?_
  refine gsb (pc1 := 29) (pc2 := 9) (fun _ _ _ _ _ => lv_icmp_ge (tgt := 29) hx hb d_We_put_6 (by decide)) (fun c_1 => ?_) (fun c_1 => ?_)
  · skip
    have nc_1 : n ≥ 12 := (nn_ge (a := n) (b := 12) (by omega) (by omega)).1 c_1
    exact absurd nc_1 (by omega)
  · skip
    have nc_1 : n < 12 := (nn_ge (a := n) (b := 12) (by omega) (by omega)).2 c_1
    refine gs (pc' := 10) (fun _ _ _ _ _ hl => lv_aload_n hx hb d_We_put_9 rfl (lv_at hl 0 rfl)) ?_
    refine g_get hx hb hts hin_We hown hK hh rfl 0 (by decide) (hts _ wm38) (fun _ h9 => h9) rfl d_We_put_10 ?_
    refine gs (pc' := 14) (fun _ _ _ _ _ hl => lv_aload_n hx hb d_We_put_13 rfl (lv_at hl 0 rfl)) ?_
    refine g_get hx hb hts hin_We hown hK hh rfl 2 (by decide) (hts _ wm40) (fun _ h9 => h9) rfl d_We_put_14 ?_
    refine gs (pc' := 18) (fun _ _ _ _ _ hl => lv_iload_n hx hb d_We_put_17 rfl (lv_at hl 1 rfl)) ?_
    refine g_iast hx hb hK 0 hae rfl (show vp_in (nI n) 12 from vp_in_nI (by omega) (by omega)) d_We_put_18 (fun G_2 f_3 o_4 => ?_)
    rw [nI_clamp (by omega)] at f_3
    have f_5 : G_2 h = some (35, .inr (7, [.ref ae, .ref ac, .int (nI n)])) := (o_4 _ (gne hh hae (fun e => by cases e))).trans hh
    have w_6 : gfr (fun x => x = 35 ∨ x = 36) G G_2 := gfr_put gfr_rf hae (Or.inr rfl) o_4
    refine gs (pc' := 20) (fun _ _ _ _ _ hl => lv_aload_n hx hb d_We_put_19 rfl (lv_at hl 0 rfl)) ?_
    refine gs (pc' := 21) (fun _ _ _ _ _ hl => lv_dup hx hb d_We_put_20 rfl) ?_
    refine g_get hx hb hts hin_We hown hK f_5 rfl 2 (by decide) (hts _ wm40) (fun _ h9 => h9) rfl d_We_put_21 ?_
    refine gs (pc' := 25) (fun _ _ _ _ _ hl => lv_iconst (v := nI 1) hx hb d_We_put_24 (by decide)) ?_
    refine gs (pc' := 26) (fun _ _ _ _ _ hl => lv_iadd hx hb d_We_put_25) ?_
    refine g_eqi (show (nI n) + (nI 1) = nI (n + 1) from nI_add _ _) ?_
    refine g_put (ty := .int) hx hb hts hin_We ty_We ty_We_ok nm_We hown hK f_5 rfl 2 (by decide) (hts _ wm40) (fun _ h9 => h9) rfl (by decide +kernel) rfl rfl (Nat.le_of_ble_eq_true rfl) d_We_put_26 (fun G_7 f_8 o_9 => ?_)
    have f_10 : G_7 h = some (35, .inr (7, [.ref ae, .ref ac, .int (nI (n + 1))])) := f_8
    have f_11 : G_7 ae = some (36, .inl (cA 0, 12, .inl (upd ef n (nI x)))) := (o_9 _ (gne f_3 f_5 (fun e => by cases e))).trans f_3
    have w_12 : gfr (fun x => x = 35 ∨ x = 36) G G_7 := gfr_put w_6 f_5 (Or.inl rfl) o_9
    exact hret 29 _ _ _ d_We_put_29 hB1 hB2 ⟨rfl, f_10, f_11, w_12⟩
set_option maxHeartbeats 4000000 in
set_option maxRecDepth 100000 in
theorem c_Mf_clear (l : Launch) (D : va_G) (cA : Nat → ClassId) (lo MC MS : Nat) (G : gT) (B : Nat × Nat) (X : Nat × Nat) (a : AX) (S : St) (F : Nat → Option Rat) (V : Nat → Nat) (hC : CW cA X a S F V (G, B)) (hW : WF S)  (hk : (sp_clear S).1 = 0) (hY1 : X.1 + 6 ≤ MC) (hY2 : X.2 + 209 ≤ MS) : gMet l y_Mf_clear w_Mf_clear 0 0 D clS (gtys cA) lo MC MS [.ref a.x] G B (gQi D clS lo (fun r u => r = iI (sp_clear S).2.1 ∧ CW3 cA (X.1 + 6, X.2 + 209) a (sp_clear S).2.2 u ∧ gfr (fun x => x < 70) G u.1)) := by
  refine g_meti (cc := prog_1_method_11_code) (nL := 2) (L := [(0, .ref a.x)]) (by decide +kernel) rfl (Nat.le_of_ble_eq_true rfl) rfl ?_
  intro p e R s m args below meth c Q hF hRc hRs hRf hRl hret
  obtain ⟨hx, hb, hr, hml, hts0, hown, hlocks, hin, hK, hlo, hZ⟩ := hF
  have hts : ∀ w ∈ tbg, w.before args s = true := fun w h => hts0 w (List.mem_cons_of_mem _ h)
  have hX1 : X.1 ≤ MC := by omega
  have hX2 : X.2 ≤ MS := by omega
  have hn := hW.n
  have hrn := hW.rn
  have hwn := hW.wn
  have bl_1 : B.1 ≤ MC := Nat.le_trans (w2_le hC.w).1 hX1
  have bl_2 : B.2 ≤ MS := Nat.le_trans (w2_le hC.w).2 hX2
  refine gs (pc' := 1) (fun _ _ _ _ _ hl => lv_aload_n hx hb d_Mf_clear_0 rfl (lv_at hl 0 rfl)) ?_
  have f_3 : G a.x = some (31, .inr (8, [.ref a.vs, .int (nI S.n), .ref a.rs, .int (nI S.rn), .ref a.ws, .ref a.ca, .ref (a.fr 0), .ref (a.fr 1), .ref (a.fr 2), .ref (a.fr 3), .ref a.zr, .ref a.fo, .ref a.ha, .ref a.si])) := hC.ob
  refine g_get hx hb hts hin_Mf hown hK f_3 rfl 1 (by decide) (hts _ wm236) (fun _ h9 => h9) rfl d_Mf_clear_1 ?_
  refine gst (pc' := 5) (L' := [(1, .int (nI S.n)), (0, .ref a.x)]) (fun _ _ _ _ _ hl => lv_istore_n hx hb d_Mf_clear_4 rfl hl (by decide) rfl) ?_
  refine gs (pc' := 6) (fun _ _ _ _ _ hl => lv_aload_n hx hb d_Mf_clear_5 rfl (lv_at hl 1 rfl)) ?_
  refine gs (pc' := 7) (fun _ _ _ _ _ hl => lv_iconst (v := nI 0) hx hb d_Mf_clear_6 (by decide)) ?_
  refine g_put (ty := .int) hx hb hts hin_Mf ty_Mf ty_Mf_ok nm_Mf hown hK f_3 rfl 1 (by decide) (hts _ wm236) (fun _ h9 => h9) rfl (by decide +kernel) rfl rfl (Nat.le_of_ble_eq_true rfl) d_Mf_clear_7 (fun G_4 f_5 o_6 => ?_)
  have f_7 : G_4 a.x = some (31, .inr (8, [.ref a.vs, .int (nI 0), .ref a.rs, .int (nI S.rn), .ref a.ws, .ref a.ca, .ref (a.fr 0), .ref (a.fr 1), .ref (a.fr 2), .ref (a.fr 3), .ref a.zr, .ref a.fo, .ref a.ha, .ref a.si])) := f_5
  have gf_8 : gfr (fun x => x = 31) G G_4 := gfr_put gfr_rf f_3 (rfl) o_6
  refine gs (pc' := 11) (fun _ _ _ _ _ hl => lv_aload_n hx hb d_Mf_clear_10 rfl (lv_at hl 1 rfl)) ?_
  refine gs (pc' := 12) (fun _ _ _ _ _ hl => lv_iconst (v := nI 0) hx hb d_Mf_clear_11 (by decide)) ?_
  refine g_put (ty := .int) hx hb hts hin_Mf ty_Mf ty_Mf_ok nm_Mf hown hK f_7 rfl 3 (by decide) (hts _ wm238) (fun _ h9 => h9) rfl (by decide +kernel) rfl rfl (Nat.le_of_ble_eq_true rfl) d_Mf_clear_12 (fun G_9 f_10 o_11 => ?_)
  have f_12 : G_9 a.x = some (31, .inr (8, [.ref a.vs, .int (nI 0), .ref a.rs, .int (nI 0), .ref a.ws, .ref a.ca, .ref (a.fr 0), .ref (a.fr 1), .ref (a.fr 2), .ref (a.fr 3), .ref a.zr, .ref a.fo, .ref a.ha, .ref a.si])) := f_10
  have gf_13 : gfr (fun x => x = 31) G G_9 := gfr_put gf_8 f_7 (rfl) o_11
  refine gs (pc' := 16) (fun _ _ _ _ _ hl => lv_iload_n hx hb d_Mf_clear_15 rfl (lv_at hl 0 rfl)) ?_
  exact hret 16 _ _ _ _ d_Mf_clear_16 bl_1 bl_2 ⟨nI_iI _, (CW.up (X1 := (X.1 + 6, X.2 + 209)) (CW.clearV hC gf_13 f_12) (show X.1 ≤ X.1 + 6 by omega) (show X.2 ≤ X.2 + 209 by omega)), gfr_mono gf_13 (fun x h9 => by omega)⟩
set_option maxHeartbeats 4000000 in
set_option maxRecDepth 100000 in
theorem c_Mf_row (l : Launch) (D : va_G) (cA : Nat → ClassId) (lo MC MS : Nat) (G : gT) (B : Nat × Nat) (X : Nat × Nat) (a : AX) (S : St) (F : Nat → Option Rat) (V : Nat → Nat) (hC : CW cA X a S F V (G, B)) (hW : WF S)  (hk : (sp_row S).1 = 0) (hY1 : X.1 + 6 ≤ MC) (hY2 : X.2 + 209 ≤ MS) : gMet l y_Mf_row w_Mf_row 0 0 D clS (gtys cA) lo MC MS [.ref a.x] G B (gQi D clS lo (fun r u => r = iI (sp_row S).2.1 ∧ CW3 cA (X.1 + 6, X.2 + 209) a (sp_row S).2.2 u ∧ gfr (fun x => x < 70) G u.1)) := by
  refine g_meti (cc := prog_1_method_12_code) (nL := 1) (L := [(0, .ref a.x)]) (by decide +kernel) rfl (Nat.le_of_ble_eq_true rfl) rfl ?_
  intro p e R s m args below meth c Q hF hRc hRs hRf hRl hret
  obtain ⟨hx, hb, hr, hml, hts0, hown, hlocks, hin, hK, hlo, hZ⟩ := hF
  have hts : ∀ w ∈ tbg, w.before args s = true := fun w h => hts0 w (List.mem_cons_of_mem _ h)
  have hX1 : X.1 ≤ MC := by omega
  have hX2 : X.2 ≤ MS := by omega
  have hn := hW.n
  have hrn := hW.rn
  have hwn := hW.wn
  have bl_1 : B.1 ≤ MC := Nat.le_trans (w2_le hC.w).1 hX1
  have bl_2 : B.2 ≤ MS := Nat.le_trans (w2_le hC.w).2 hX2
  have hsp : sp_row S = if S.rn = 8 then (0, -3, S) else (0, (S.rn : Int), S.sr (S.rn + 1) (fup S.rc S.rn 0) S.rp S.rh) := rfl
  refine gs (pc' := 1) (fun _ _ _ _ _ hl => lv_aload_n hx hb d_Mf_row_0 rfl (lv_at hl 0 rfl)) ?_
  have f_3 : G a.x = some (31, .inr (8, [.ref a.vs, .int (nI S.n), .ref a.rs, .int (nI S.rn), .ref a.ws, .ref a.ca, .ref (a.fr 0), .ref (a.fr 1), .ref (a.fr 2), .ref (a.fr 3), .ref a.zr, .ref a.fo, .ref a.ha, .ref a.si])) := hC.ob
  refine g_get hx hb hts hin_Mf hown hK f_3 rfl 3 (by decide) (hts _ wm238) (fun _ h9 => h9) rfl d_Mf_row_1 ?_
  refine gs (pc' := 6) (fun _ _ _ _ _ hl => lv_bipush (v := nI 8) hx hb d_Mf_row_4 (by decide)) ?_
  refine gsb (pc1 := 12) (pc2 := 9) (fun _ _ _ _ _ => lv_icmp_lt (tgt := 12) hx hb d_Mf_row_6 (by decide)) (fun c_4 => ?_) (fun c_4 => ?_)
  · skip
    have nc_4 : S.rn < 8 := (nn_lt (a := S.rn) (b := 8) (by omega) (by omega)).1 c_4
    have hr8 : ¬ S.rn = 8 := by omega
    refine gs (pc' := 13) (fun _ _ _ _ _ hl => lv_aload_n hx hb d_Mf_row_12 rfl (lv_at hl 0 rfl)) ?_
    refine g_get hx hb hts hin_Mf hown hK f_3 rfl 2 (by decide) (hts _ wm237) (fun _ h9 => h9) rfl d_Mf_row_13 ?_
    refine gs (pc' := 17) (fun _ _ _ _ _ hl => lv_aload_n hx hb d_Mf_row_16 rfl (lv_at hl 0 rfl)) ?_
    refine g_get hx hb hts hin_Mf hown hK f_3 rfl 3 (by decide) (hts _ wm238) (fun _ h9 => h9) rfl d_Mf_row_17 ?_
    obtain ⟨vf_5, f_6, g_7⟩ := hC.rs
    have f_8 : G a.rs = some (33, .inl (cA 3, 8, .inr (.inr (.inr (.inr vf_5))))) := f_6
    refine g_aalS hx hb hK 3 f_8 rfl (by omega) (by decide) (g_7 S.rn (by omega)) d_Mf_row_20 ?_
    refine gs (pc' := 22) (fun _ _ _ _ _ hl => lv_iconst (v := nI 0) hx hb d_Mf_row_21 (by decide)) ?_
    obtain ⟨rc_9, pf_10, hg_11, f_12, f_13, f_14, g_15⟩ := hC.ro S.rn (by omega)
    have f_16 : G (a.ro S.rn) = some (40 + S.rn, .inr (5, [.ref (a.rp S.rn), .ref (a.rh S.rn), .int (nI rc_9)])) := f_12
    have f_17 : G (a.rp S.rn) = some (50 + S.rn, .inl (cA 2, 16, .inr (.inr (.inr (.inr pf_10))))) := f_13
    have f_18 : G (a.rh S.rn) = some (60 + S.rn, .inl (cA 2, 16, .inr (.inr (.inr (.inr hg_11))))) := f_14
    refine g_put (ty := .int) hx hb hts hin_Ro ty_Ro ty_Ro_ok nm_Ro hown hK f_16 rfl 2 (by decide) (hts _ wm227) (fun _ h9 => h9) rfl (by decide +kernel) rfl rfl (Nat.le_of_ble_eq_true rfl) d_Mf_row_22 (fun G_19 f_20 o_21 => ?_)
    have f_22 : G_19 (a.ro S.rn) = some (40 + S.rn, .inr (5, [.ref (a.rp S.rn), .ref (a.rh S.rn), .int (nI 0)])) := f_20
    have f_23 : G_19 a.x = some (31, .inr (8, [.ref a.vs, .int (nI S.n), .ref a.rs, .int (nI S.rn), .ref a.ws, .ref a.ca, .ref (a.fr 0), .ref (a.fr 1), .ref (a.fr 2), .ref (a.fr 3), .ref a.zr, .ref a.fo, .ref a.ha, .ref a.si])) := (o_21 _ (gne f_3 f_16 (fun e => by have e2 := congrArg Prod.snd e; cases e2))).trans f_3
    have f_24 : G_19 a.rs = some (33, .inl (cA 3, 8, .inr (.inr (.inr (.inr vf_5))))) := (o_21 _ (gne f_8 f_16 (fun e => by have e2 := congrArg Prod.snd e; cases e2))).trans f_8
    have f_25 : G_19 (a.rp S.rn) = some (50 + S.rn, .inl (cA 2, 16, .inr (.inr (.inr (.inr pf_10))))) := (o_21 _ (gne f_17 f_16 (fun e => by have e2 := congrArg Prod.snd e; cases e2))).trans f_17
    have f_26 : G_19 (a.rh S.rn) = some (60 + S.rn, .inl (cA 2, 16, .inr (.inr (.inr (.inr hg_11))))) := (o_21 _ (gne f_18 f_16 (fun e => by have e2 := congrArg Prod.snd e; cases e2))).trans f_18
    have gf_27 : gfr (fun x => x = 31 ∨ x = 40 + S.rn) G G_19 := gfr_put gfr_rf f_16 (Or.inr rfl) o_21
    refine gs (pc' := 26) (fun _ _ _ _ _ hl => lv_aload_n hx hb d_Mf_row_25 rfl (lv_at hl 0 rfl)) ?_
    refine gs (pc' := 27) (fun _ _ _ _ _ hl => lv_dup hx hb d_Mf_row_26 rfl) ?_
    refine g_get hx hb hts hin_Mf hown hK f_23 rfl 3 (by decide) (hts _ wm238) (fun _ h9 => h9) rfl d_Mf_row_27 ?_
    refine gs (pc' := 31) (fun _ _ _ _ _ hl => lv_iconst (v := nI 1) hx hb d_Mf_row_30 (by decide)) ?_
    refine gs (pc' := 32) (fun _ _ _ _ _ hl => lv_iadd hx hb d_Mf_row_31) ?_
    refine g_eqi (show (nI S.rn) + (nI 1) = nI (S.rn + 1) from nI_add _ _) ?_
    refine g_put (ty := .int) hx hb hts hin_Mf ty_Mf ty_Mf_ok nm_Mf hown hK f_23 rfl 3 (by decide) (hts _ wm238) (fun _ h9 => h9) rfl (by decide +kernel) rfl rfl (Nat.le_of_ble_eq_true rfl) d_Mf_row_32 (fun G_28 f_29 o_30 => ?_)
    have f_31 : G_28 a.x = some (31, .inr (8, [.ref a.vs, .int (nI S.n), .ref a.rs, .int (nI (S.rn + 1)), .ref a.ws, .ref a.ca, .ref (a.fr 0), .ref (a.fr 1), .ref (a.fr 2), .ref (a.fr 3), .ref a.zr, .ref a.fo, .ref a.ha, .ref a.si])) := f_29
    have f_32 : G_28 a.rs = some (33, .inl (cA 3, 8, .inr (.inr (.inr (.inr vf_5))))) := (o_30 _ (gne f_24 f_23 (fun e => by cases e))).trans f_24
    have f_33 : G_28 (a.rp S.rn) = some (50 + S.rn, .inl (cA 2, 16, .inr (.inr (.inr (.inr pf_10))))) := (o_30 _ (gne f_25 f_23 (fun e => by have e2 := congrArg Prod.snd e; cases e2))).trans f_25
    have f_34 : G_28 (a.rh S.rn) = some (60 + S.rn, .inl (cA 2, 16, .inr (.inr (.inr (.inr hg_11))))) := (o_30 _ (gne f_26 f_23 (fun e => by have e2 := congrArg Prod.snd e; cases e2))).trans f_26
    have f_35 : G_28 (a.ro S.rn) = some (40 + S.rn, .inr (5, [.ref (a.rp S.rn), .ref (a.rh S.rn), .int (nI 0)])) := (o_30 _ (gne f_22 f_23 (fun e => by have e2 := congrArg Prod.snd e; cases e2))).trans f_22
    have gf_36 : gfr (fun x => x = 31 ∨ x = 40 + S.rn) G G_28 := gfr_put gf_27 f_23 (Or.inl rfl) o_30
    refine gs (pc' := 36) (fun _ _ _ _ _ hl => lv_aload_n hx hb d_Mf_row_35 rfl (lv_at hl 0 rfl)) ?_
    refine g_get hx hb hts hin_Mf hown hK f_31 rfl 3 (by decide) (hts _ wm238) (fun _ h9 => h9) rfl d_Mf_row_36 ?_
    refine gs (pc' := 40) (fun _ _ _ _ _ hl => lv_iconst (v := nI 1) hx hb d_Mf_row_39 (by decide)) ?_
    refine gs (pc' := 41) (fun _ _ _ _ _ hl => lv_isub hx hb d_Mf_row_40) ?_
    refine g_eqi (show (nI (S.rn + 1)) - (nI 1) = nI S.rn from (pk_sub (by omega)).trans (congrArg nI (show (S.rn + 1) - 1 = S.rn by omega))) ?_
    rw [hsp, if_neg hr8] at hret
    exact hret 41 _ _ _ _ d_Mf_row_41 bl_1 bl_2 ⟨nI_iI _, (CW.up (X1 := (X.1 + 6, X.2 + 209)) (CW.rowV hC (by omega) gf_36 f_31 f_35) (show X.1 ≤ X.1 + 6 by omega) (show X.2 ≤ X.2 + 209 by omega)), gfr_mono gf_36 (fun x h9 => by omega)⟩
  · skip
    have nc_4 : S.rn ≥ 8 := (nn_lt (a := S.rn) (b := 8) (by omega) (by omega)).2 c_4
    have hr8 : S.rn = 8 := by omega
    refine gs (pc' := 11) (fun _ _ _ _ _ hl => lv_bipush (v := (-3)) hx hb d_Mf_row_9 (by decide)) ?_
    refine g_eqi (show (-3) = iI (-3) from by decide) ?_
    have hs2 : sp_row S = (0, -3, S) := by rw [hsp, if_pos hr8]
    exact hret 11 _ _ _ _ d_Mf_row_11 bl_1 bl_2 ⟨by rw [hs2], by rw [hs2]; exact hC.up (X1 := (X.1 + 6, X.2 + 209)) (show X.1 ≤ X.1 + 6 by omega) (show X.2 ≤ X.2 + 209 by omega), (gfr_mono (M := fun x => x < 24) gfr_rf (fun x h9 => by omega))⟩
set_option maxHeartbeats 4000000 in
set_option maxRecDepth 100000 in
theorem c_Mf_weight (l : Launch) (D : va_G) (cA : Nat → ClassId) (lo MC MS : Nat) (G : gT) (B : Nat × Nat) (X : Nat × Nat) (a : AX) (S : St) (F : Nat → Option Rat) (V : Nat → Nat) (hC : CW cA X a S F V (G, B)) (hW : WF S) (x : Int) (hx1 : -2147483648 ≤ x) (hx2 : x < 2147483648) (hk : (sp_weight S (iI x)).1 = 0) (hY1 : X.1 + 6 ≤ MC) (hY2 : X.2 + 209 ≤ MS) : gMet l y_Mf_weight w_Mf_weight 1 21 D clS (gtys cA) lo MC MS [.ref a.x, .int (iI x)] G B (gQi D clS lo (fun r u => r = iI (sp_weight S (iI x)).2.1 ∧ CW3 cA (X.1 + 6, X.2 + 209) a (sp_weight S (iI x)).2.2 u ∧ gfr (fun x => x < 70) G u.1)) := by
  refine g_meti (cc := prog_1_method_16_code) (nL := 2) (L := [(0, .ref a.x), (1, .int (iI x))]) (by decide +kernel) rfl (Nat.le_of_ble_eq_true rfl) rfl ?_
  intro p e R s m args below meth c Q hF hRc hRs hRf hRl hret
  obtain ⟨hx, hb, hr, hml, hts0, hown, hlocks, hin, hK, hlo, hZ⟩ := hF
  have hts : ∀ w ∈ tbg, w.before args s = true := fun w h => hts0 w (List.mem_cons_of_mem _ h)
  have hX1 : X.1 ≤ MC := by omega
  have hX2 : X.2 ≤ MS := by omega
  have hn := hW.n
  have hrn := hW.rn
  have hwn := hW.wn
  have bl_1 : B.1 ≤ MC := Nat.le_trans (w2_le hC.w).1 hX1
  have bl_2 : B.2 ≤ MS := Nat.le_trans (w2_le hC.w).2 hX2
  have hq : (1 ≤ (iI x).toInt ∧ (iI x).toInt ≤ 1000000000) := by
    by_cases z9 : (1 ≤ (iI x).toInt ∧ (iI x).toInt ≤ 1000000000)
    · exact z9
    · rw [sp_weight, if_pos z9] at hk; simp at hk
  have hq1 := hq.1
  have hq2 := hq.2
  obtain ⟨n, hn4, hxe_x, ei_n⟩ := ix_of (n := 1000000001) (x := iI x) (by omega) (by omega)
  have hnn : (iI x).toInt = (n : Int) := by rw [hxe_x]; exact ix_nI (by omega)
  have hsp : sp_weight S (iI x) = if S.wn = 12 then (0, -3, S) else (0, (S.wn : Int) + 1, S.sw (S.wn + 1) (fup S.w S.wn n)) := by rw [sp_weight, if_neg (fun z9 => z9 hq), ei_n]
  rw [hxe_x]
  refine gs (pc' := 1) (fun _ _ _ _ _ hl => lv_iload_n hx hb d_Mf_weight_0 rfl (lv_at hl 1 rfl)) ?_
  refine gs (pc' := 2) (fun _ _ _ _ _ hl => lv_iconst (v := nI 1) hx hb d_Mf_weight_1 (by decide)) ?_
  refine gsb (pc1 := 11) (pc2 := 5) (fun _ _ _ _ _ => lv_icmp_lt (tgt := 11) hx hb d_Mf_weight_2 (by decide)) (fun c_3 => ?_) (fun c_3 => ?_)
  · skip
    have nc_3 : n < 1 := (nn_lt (a := n) (b := 1) (by omega) (by omega)).1 c_3
    exact absurd nc_3 (by omega)
  · skip
    have nc_3 : n ≥ 1 := (nn_lt (a := n) (b := 1) (by omega) (by omega)).2 c_3
    refine gs (pc' := 6) (fun _ _ _ _ _ hl => lv_iload_n hx hb d_Mf_weight_5 rfl (lv_at hl 1 rfl)) ?_
    refine gs (pc' := 8) (fun _ _ _ _ _ hl => lv_ldc (v := 1000000000) hx hb hown (hts _ wm618) d_Mf_weight_6) ?_
    refine g_eqi (show 1000000000 = nI 1000000000 from rfl) ?_
    refine gsb (pc1 := 21) (pc2 := 11) (fun _ _ _ _ _ => lv_icmp_le (tgt := 21) hx hb d_Mf_weight_8 (by decide)) (fun c_4 => ?_) (fun c_4 => ?_)
    · skip
      have nc_4 : n ≤ 1000000000 := (nn_le (a := n) (b := 1000000000) (by omega) (by omega)).1 c_4
      refine gs (pc' := 22) (fun _ _ _ _ _ hl => lv_aload_n hx hb d_Mf_weight_21 rfl (lv_at hl 0 rfl)) ?_
      have f_5 : G a.x = some (31, .inr (8, [.ref a.vs, .int (nI S.n), .ref a.rs, .int (nI S.rn), .ref a.ws, .ref a.ca, .ref (a.fr 0), .ref (a.fr 1), .ref (a.fr 2), .ref (a.fr 3), .ref a.zr, .ref a.fo, .ref a.ha, .ref a.si])) := hC.ob
      refine g_get hx hb hts hin_Mf hown hK f_5 rfl 4 (by decide) (hts _ wm239) (fun _ h9 => h9) rfl d_Mf_weight_22 ?_
      have f_6 : G a.ws = some (35, .inr (7, [.ref a.we, .ref a.wc, .int (nI S.wn)])) := hC.we
      refine g_get hx hb hts hin_We hown hK f_6 rfl 2 (by decide) (hts _ wm41) (fun _ h9 => h9) rfl d_Mf_weight_25 ?_
      refine gs (pc' := 30) (fun _ _ _ _ _ hl => lv_bipush (v := nI 12) hx hb d_Mf_weight_28 (by decide)) ?_
      refine gsb (pc1 := 36) (pc2 := 33) (fun _ _ _ _ _ => lv_icmp_lt (tgt := 36) hx hb d_Mf_weight_30 (by decide)) (fun c_7 => ?_) (fun c_7 => ?_)
      · skip
        have nc_7 : S.wn < 12 := (nn_lt (a := S.wn) (b := 12) (by omega) (by omega)).1 c_7
        have hr8 : ¬ S.wn = 12 := by omega
        refine gs (pc' := 37) (fun _ _ _ _ _ hl => lv_aload_n hx hb d_Mf_weight_36 rfl (lv_at hl 0 rfl)) ?_
        refine g_get hx hb hts hin_Mf hown hK f_5 rfl 4 (by decide) (hts _ wm239) (fun _ h9 => h9) rfl d_Mf_weight_37 ?_
        refine gs (pc' := 41) (fun _ _ _ _ _ hl => lv_iload_n hx hb d_Mf_weight_40 rfl (lv_at hl 1 rfl)) ?_
        obtain ⟨ef_8, f_9, g_10⟩ := hC.wa
        have f_11 : G a.we = some (36, .inl (cA 0, 12, .inl ef_8)) := f_9
        refine g_outv hlo (g_runV (As := [.int (nI n)]) (rest := []) ⟨hx, hb, hml, hown, hts⟩ hK hZ hRc hRs (c_We_put l D cA lo MC MS G B a.ws a.we a.wc S.wn n ef_8 f_6 f_11 (by omega) bl_1 bl_2) (fun _ _ => cwV 1 hts (tb_good (tb_cons wm716 (tb_cons wm717 (tb_cons wm718 (tb_cons wm2 k_We_put))))) rfl rfl rfl (by decide +kernel) ⟨by rw [hRf]; exact Nat.le_of_ble_eq_true rfl, by rw [hRl]; exact Nat.le_of_ble_eq_true rfl⟩) f_6 rfl bl_1 bl_2 rfl (Nat.le_of_ble_eq_true rfl) d_Mf_weight_41) (fun G_12 B_13 p_14 => ?_)
        obtain ⟨e_15, f_16, f_17, gf_18⟩ := p_14
        have e_15b : B_13 = B := e_15
        subst e_15b
        have C_19 := CW.weightV hC gf_18 g_10 f_16 f_17
        have f_20 : G_12 a.x = some (31, .inr (8, [.ref a.vs, .int (nI S.n), .ref a.rs, .int (nI S.rn), .ref a.ws, .ref a.ca, .ref (a.fr 0), .ref (a.fr 1), .ref (a.fr 2), .ref (a.fr 3), .ref a.zr, .ref a.fo, .ref a.ha, .ref a.si])) := gf_18 _ _ hC.ob (show ¬ ((31 : Nat) = 35 ∨ (31 : Nat) = 36) by decide)
        refine gs (pc' := 45) (fun _ _ _ _ _ hl => lv_aload_n hx hb d_Mf_weight_44 rfl (lv_at hl 0 rfl)) ?_
        refine g_get hx hb hts hin_Mf hown hK f_20 rfl 4 (by decide) (hts _ wm239) (fun _ h9 => h9) rfl d_Mf_weight_45 ?_
        refine g_get hx hb hts hin_We hown hK f_16 rfl 2 (by decide) (hts _ wm41) (fun _ h9 => h9) rfl d_Mf_weight_48 ?_
        rw [hsp, if_neg hr8] at hret
        exact hret 51 _ _ _ _ d_Mf_weight_51 bl_1 bl_2 ⟨nI_iI _, (CW.up (X1 := (X.1 + 6, X.2 + 209)) C_19 (show X.1 ≤ X.1 + 6 by omega) (show X.2 ≤ X.2 + 209 by omega)), gfr_mono gf_18 (fun x h9 => by omega)⟩
      · skip
        have nc_7 : S.wn ≥ 12 := (nn_lt (a := S.wn) (b := 12) (by omega) (by omega)).2 c_7
        have hr8 : S.wn = 12 := by omega
        refine gs (pc' := 35) (fun _ _ _ _ _ hl => lv_bipush (v := (-3)) hx hb d_Mf_weight_33 (by decide)) ?_
        refine g_eqi (show (-3) = iI (-3) from by decide) ?_
        have hs2 : sp_weight S (iI x) = (0, -3, S) := by rw [hsp, if_pos hr8]
        exact hret 35 _ _ _ _ d_Mf_weight_35 bl_1 bl_2 ⟨by rw [hs2], by rw [hs2]; exact hC.up (X1 := (X.1 + 6, X.2 + 209)) (show X.1 ≤ X.1 + 6 by omega) (show X.2 ≤ X.2 + 209 by omega), (gfr_mono (M := fun x => x < 24) gfr_rf (fun x h9 => by omega))⟩
    · skip
      have nc_4 : n > 1000000000 := (nn_le (a := n) (b := 1000000000) (by omega) (by omega)).2 c_4
      exact absurd nc_4 (by omega)
set_option maxHeartbeats 4000000 in
set_option maxRecDepth 100000 in
theorem t_Mf_weight1 (l : Launch) (D : va_G) (cA : Nat → ClassId) (lo MC MS : Nat) (G : gT) (B : Nat × Nat) (X : Nat × Nat) (a : AX) (S : St) (F : Nat → Option Rat) (V : Nat → Nat) (hC : CW cA X a S F V (G, B)) (hW : WF S) (x : Int) (hx1 : -2147483648 ≤ x) (hx2 : x < 2147483648) (hk : (sp_weight S (iI x)).1 = 1) (hY1 : X.1 + 1 ≤ MC) (hY2 : X.2 + 6 ≤ MS) (hfl : ∀ e : Env, l.admits e → e.platform.stackTraces = false) : gMetT l y_Mf_weight w_Mf_weight 6 90 D clS (gtys cA) lo MC MS [.ref a.x, .int (iI x)] G B (gQx D clS lo "java/lang/IllegalArgumentException" (fun u => u = (G, B.1 + 1, B.2 + 6))) := by
  refine g_mett (cc := prog_1_method_16_code) (nL := 2) (ret := (Option.some .int)) (L := [(0, .ref a.x), (1, .int (iI x))]) (by decide +kernel) rfl (Nat.le_of_ble_eq_true rfl) rfl ?_
  intro p e R s m args below meth c Q hF hRc hRs hRf hRl hne hQ
  obtain ⟨hx, hb, hr, hml, hts0, hown, hlocks, hin, hK, hlo, hZ⟩ := hF
  have hts : ∀ w ∈ tbg, w.before args s = true := fun w h => hts0 w (List.mem_cons_of_mem _ h)
  have hX1 : X.1 ≤ MC := by omega
  have hX2 : X.2 ≤ MS := by omega
  have hn := hW.n
  have hrn := hW.rn
  have hwn := hW.wn
  have bl_1 : B.1 ≤ MC := Nat.le_trans (w2_le hC.w).1 hX1
  have bl_2 : B.2 ≤ MS := Nat.le_trans (w2_le hC.w).2 hX2
  have hq : ¬ (1 ≤ (iI x).toInt ∧ (iI x).toInt ≤ 1000000000) := fun z9 => by
    rw [sp_weight, if_neg (fun z8 => z8 z9)] at hk
    split at hk
    · simp at hk
    · simp at hk
  rw [iI_toInt hx1 hx2] at hq
  refine gs (pc' := 1) (fun _ _ _ _ _ hl => lv_iload_n hx hb d_Mf_weight_0 rfl (lv_at hl 1 rfl)) ?_
  refine gs (pc' := 2) (fun _ _ _ _ _ hl => lv_iconst (v := nI 1) hx hb d_Mf_weight_1 (by decide)) ?_
  refine gsb (pc1 := 11) (pc2 := 5) (fun _ _ _ _ _ => lv_icmp_lt (tgt := 11) hx hb d_Mf_weight_2 (by decide)) (fun c_3 => ?_) (fun c_3 => ?_)
  · skip
    have nc_3 : x < ((1 : Nat) : Int) := (ii_lt (a := x) (b := ((1 : Nat) : Int)) (by omega) (by omega) (by omega) (by omega)).1 (by first | exact c_3 | (have z9 := c_3; simp only [nI_iI] at z9; exact z9))
    have le_4 := w2_le hC.w
    exact g_throw (tx := "a weight is not 1 .. 1000000000") (post := fun u => u = (G, B.1 + 1, B.2 + 6)) hx hb hml hown hts hlo hZ hfl hlocks hne (fun U h h1 h2 => own_Iae h h1 h2) (by decide +kernel) wm370 wm371 wm17 (by decide) hRc hRs (by rw [hRf]; exact Nat.le_of_ble_eq_true rfl) (by rw [hRl]; exact Nat.le_of_ble_eq_true rfl) (by have := le_4.1; omega) (by have := le_4.2; omega) d_Mf_weight_11 d_Mf_weight_14 d_Mf_weight_15 d_Mf_weight_17 d_Mf_weight_20 rfl hQ
  · skip
    have nc_3 : x ≥ ((1 : Nat) : Int) := (ii_lt (a := x) (b := ((1 : Nat) : Int)) (by omega) (by omega) (by omega) (by omega)).2 (by first | exact c_3 | (have z9 := c_3; simp only [nI_iI] at z9; exact z9))
    refine gs (pc' := 6) (fun _ _ _ _ _ hl => lv_iload_n hx hb d_Mf_weight_5 rfl (lv_at hl 1 rfl)) ?_
    refine gs (pc' := 8) (fun _ _ _ _ _ hl => lv_ldc (v := 1000000000) hx hb hown (hts _ wm618) d_Mf_weight_6) ?_
    refine g_eqi (show 1000000000 = nI 1000000000 from rfl) ?_
    refine gsb (pc1 := 21) (pc2 := 11) (fun _ _ _ _ _ => lv_icmp_le (tgt := 21) hx hb d_Mf_weight_8 (by decide)) (fun c_5 => ?_) (fun c_5 => ?_)
    · skip
      have nc_5 : x ≤ ((1000000000 : Nat) : Int) := (ii_le (a := x) (b := ((1000000000 : Nat) : Int)) (by omega) (by omega) (by omega) (by omega)).1 (by first | exact c_5 | (have z9 := c_5; simp only [nI_iI] at z9; exact z9))
      exact absurd nc_5 (fun z9 => hq ⟨by omega, by omega⟩)
    · skip
      have nc_5 : x > ((1000000000 : Nat) : Int) := (ii_le (a := x) (b := ((1000000000 : Nat) : Int)) (by omega) (by omega) (by omega) (by omega)).2 (by first | exact c_5 | (have z9 := c_5; simp only [nI_iI] at z9; exact z9))
      have le_6 := w2_le hC.w
      exact g_throw (tx := "a weight is not 1 .. 1000000000") (post := fun u => u = (G, B.1 + 1, B.2 + 6)) hx hb hml hown hts hlo hZ hfl hlocks hne (fun U h h1 h2 => own_Iae h h1 h2) (by decide +kernel) wm370 wm371 wm17 (by decide) hRc hRs (by rw [hRf]; exact Nat.le_of_ble_eq_true rfl) (by rw [hRl]; exact Nat.le_of_ble_eq_true rfl) (by have := le_6.1; omega) (by have := le_6.2; omega) d_Mf_weight_11 d_Mf_weight_14 d_Mf_weight_15 d_Mf_weight_17 d_Mf_weight_20 rfl hQ
set_option maxHeartbeats 4000000 in
set_option maxRecDepth 100000 in
theorem c_Mf_noWeights (l : Launch) (D : va_G) (cA : Nat → ClassId) (lo MC MS : Nat) (G : gT) (B : Nat × Nat) (X : Nat × Nat) (a : AX) (S : St) (F : Nat → Option Rat) (V : Nat → Nat) (hC : CW cA X a S F V (G, B)) (hW : WF S)  (hk : (sp_noWeights S).1 = 0) (hY1 : X.1 + 6 ≤ MC) (hY2 : X.2 + 209 ≤ MS) : gMet l y_Mf_noWeights w_Mf_noWeights 0 0 D clS (gtys cA) lo MC MS [.ref a.x] G B (gQi D clS lo (fun r u => r = iI (sp_noWeights S).2.1 ∧ CW3 cA (X.1 + 6, X.2 + 209) a (sp_noWeights S).2.2 u ∧ gfr (fun x => x < 70) G u.1)) := by
  refine g_meti (cc := prog_1_method_17_code) (nL := 2) (L := [(0, .ref a.x)]) (by decide +kernel) rfl (Nat.le_of_ble_eq_true rfl) rfl ?_
  intro p e R s m args below meth c Q hF hRc hRs hRf hRl hret
  obtain ⟨hx, hb, hr, hml, hts0, hown, hlocks, hin, hK, hlo, hZ⟩ := hF
  have hts : ∀ w ∈ tbg, w.before args s = true := fun w h => hts0 w (List.mem_cons_of_mem _ h)
  have hX1 : X.1 ≤ MC := by omega
  have hX2 : X.2 ≤ MS := by omega
  have hn := hW.n
  have hrn := hW.rn
  have hwn := hW.wn
  have bl_1 : B.1 ≤ MC := Nat.le_trans (w2_le hC.w).1 hX1
  have bl_2 : B.2 ≤ MS := Nat.le_trans (w2_le hC.w).2 hX2
  refine gs (pc' := 1) (fun _ _ _ _ _ hl => lv_aload_n hx hb d_Mf_noWeights_0 rfl (lv_at hl 0 rfl)) ?_
  have f_3 : G a.x = some (31, .inr (8, [.ref a.vs, .int (nI S.n), .ref a.rs, .int (nI S.rn), .ref a.ws, .ref a.ca, .ref (a.fr 0), .ref (a.fr 1), .ref (a.fr 2), .ref (a.fr 3), .ref a.zr, .ref a.fo, .ref a.ha, .ref a.si])) := hC.ob
  refine g_get hx hb hts hin_Mf hown hK f_3 rfl 4 (by decide) (hts _ wm239) (fun _ h9 => h9) rfl d_Mf_noWeights_1 ?_
  have f_4 : G a.ws = some (35, .inr (7, [.ref a.we, .ref a.wc, .int (nI S.wn)])) := hC.we
  refine g_get hx hb hts hin_We hown hK f_4 rfl 2 (by decide) (hts _ wm41) (fun _ h9 => h9) rfl d_Mf_noWeights_4 ?_
  refine gst (pc' := 8) (L' := [(1, .int (nI S.wn)), (0, .ref a.x)]) (fun _ _ _ _ _ hl => lv_istore_n hx hb d_Mf_noWeights_7 rfl hl (by decide) rfl) ?_
  refine gs (pc' := 9) (fun _ _ _ _ _ hl => lv_aload_n hx hb d_Mf_noWeights_8 rfl (lv_at hl 1 rfl)) ?_
  refine g_get hx hb hts hin_Mf hown hK f_3 rfl 4 (by decide) (hts _ wm239) (fun _ h9 => h9) rfl d_Mf_noWeights_9 ?_
  refine gs (pc' := 13) (fun _ _ _ _ _ hl => lv_iconst (v := nI 0) hx hb d_Mf_noWeights_12 (by decide)) ?_
  refine g_put (ty := .int) hx hb hts hin_We ty_We ty_We_ok nm_We hown hK f_4 rfl 2 (by decide) (hts _ wm41) (fun _ h9 => h9) rfl (by decide +kernel) rfl rfl (Nat.le_of_ble_eq_true rfl) d_Mf_noWeights_13 (fun G_5 f_6 o_7 => ?_)
  have f_8 : G_5 a.ws = some (35, .inr (7, [.ref a.we, .ref a.wc, .int (nI 0)])) := f_6
  have f_9 : G_5 a.x = some (31, .inr (8, [.ref a.vs, .int (nI S.n), .ref a.rs, .int (nI S.rn), .ref a.ws, .ref a.ca, .ref (a.fr 0), .ref (a.fr 1), .ref (a.fr 2), .ref (a.fr 3), .ref a.zr, .ref a.fo, .ref a.ha, .ref a.si])) := (o_7 _ (gne f_3 f_4 (fun e => by cases e))).trans f_3
  have gf_10 : gfr (fun x => x = 35) G G_5 := gfr_put gfr_rf f_4 (rfl) o_7
  refine gs (pc' := 17) (fun _ _ _ _ _ hl => lv_iload_n hx hb d_Mf_noWeights_16 rfl (lv_at hl 0 rfl)) ?_
  exact hret 17 _ _ _ _ d_Mf_noWeights_17 bl_1 bl_2 ⟨nI_iI _, (CW.up (X1 := (X.1 + 6, X.2 + 209)) (CW.noWeightsV hC gf_10 f_8) (show X.1 ≤ X.1 + 6 by omega) (show X.2 ≤ X.2 + 209 by omega)), gfr_mono gf_10 (fun x h9 => by omega)⟩
set_option maxHeartbeats 4000000 in
set_option maxRecDepth 100000 in
theorem c_Mf_share (l : Launch) (D : va_G) (cA : Nat → ClassId) (lo MC MS : Nat) (G : gT) (B : Nat × Nat) (X : Nat × Nat) (a : AX) (S : St) (F : Nat → Option Rat) (V : Nat → Nat) (hC : CW cA X a S F V (G, B)) (hW : WF S) (wh : Int) (hwh1 : -9223372036854775808 ≤ wh) (hwh2 : wh < 9223372036854775808) (k : Int) (hk1 : -2147483648 ≤ k) (hk2 : k < 2147483648) (hk : (sp_share S wh (iI k)).1 = 0) (hY1 : X.1 + 6 ≤ MC) (hY2 : X.2 + 209 ≤ MS) : gMet l y_Mf_share w_Mf_share 2 63 D clS (gtys cA) lo MC MS [.ref a.x, .long (lI wh), .int (iI k)] G B (gQl D clS lo (fun r u => r = lI (sp_share S wh (iI k)).2.1 ∧ CW3 cA (X.1 + 6, X.2 + 209) a (sp_share S wh (iI k)).2.2 u ∧ gfr (fun x => x < 70) G u.1)) := by
  refine g_metl (cc := prog_1_method_18_code) (nL := 4) (L := [(0, .ref a.x), (1, .long (lI wh)), (3, .int (iI k))]) (by decide +kernel) rfl (Nat.le_of_ble_eq_true rfl) rfl ?_
  intro p e R s m args below meth c Q hF hRc hRs hRf hRl hret
  obtain ⟨hx, hb, hr, hml, hts0, hown, hlocks, hin, hK, hlo, hZ⟩ := hF
  have hts : ∀ w ∈ tbg, w.before args s = true := fun w h => hts0 w (List.mem_cons_of_mem _ h)
  have hX1 : X.1 ≤ MC := by omega
  have hX2 : X.2 ≤ MS := by omega
  have hn := hW.n
  have hrn := hW.rn
  have hwn := hW.wn
  have bl_1 : B.1 ≤ MC := Nat.le_trans (w2_le hC.w).1 hX1
  have bl_2 : B.2 ≤ MS := Nat.le_trans (w2_le hC.w).2 hX2
  have hq1 : (0 ≤ (iI k).toInt ∧ (iI k).toInt < S.wn) := by
    by_cases z9 : (0 ≤ (iI k).toInt ∧ (iI k).toInt < S.wn)
    · exact z9
    · rw [sp_share, if_pos z9] at hk; simp at hk
  have hq2 : (0 ≤ wh ∧ wh ≤ 1000000000000) := by
    by_cases z9 : (0 ≤ wh ∧ wh ≤ 1000000000000)
    · exact z9
    · rw [sp_share, if_neg (fun z8 => z8 hq1), if_pos z9] at hk; simp at hk
  obtain ⟨hq3, hq4⟩ := id hq2
  obtain ⟨o, ho4, hxe_k, ei_o⟩ := ix_of hq1.1 hq1.2
  obtain ⟨Wn, hWe⟩ : ∃ Wn : Nat, wh = (Wn : Int) := ⟨wh.toNat, by omega⟩
  subst hWe
  rw [sp_share, if_neg (fun z9 => z9 hq1), if_neg (fun z9 => z9 hq2), ei_o, Int.toNat_natCast] at hret
  rw [← lN_lI]
  rw [hxe_k]
  refine gs (pc' := 1) (fun _ _ _ _ _ hl => lv_iload_n hx hb d_Mf_share_0 rfl (lv_at hl 2 rfl)) ?_
  refine gsb (pc1 := 15) (pc2 := 4) (fun _ _ _ _ _ => lv_if_lt (tgt := 15) hx hb d_Mf_share_1 (by decide)) (fun c_3 => ?_) (fun c_3 => ?_)
  · skip
    have nc_3 : o < 0 := (n0_lt (a := o) (by omega)).1 c_3
    exact absurd nc_3 (by omega)
  · skip
    have nc_3 : o ≥ 0 := (n0_lt (a := o) (by omega)).2 c_3
    refine gs (pc' := 5) (fun _ _ _ _ _ hl => lv_iload_n hx hb d_Mf_share_4 rfl (lv_at hl 2 rfl)) ?_
    refine gs (pc' := 6) (fun _ _ _ _ _ hl => lv_aload_n hx hb d_Mf_share_5 rfl (lv_at hl 0 rfl)) ?_
    have f_4 : G a.x = some (31, .inr (8, [.ref a.vs, .int (nI S.n), .ref a.rs, .int (nI S.rn), .ref a.ws, .ref a.ca, .ref (a.fr 0), .ref (a.fr 1), .ref (a.fr 2), .ref (a.fr 3), .ref a.zr, .ref a.fo, .ref a.ha, .ref a.si])) := hC.ob
    refine g_get hx hb hts hin_Mf hown hK f_4 rfl 4 (by decide) (hts _ wm239) (fun _ h9 => h9) rfl d_Mf_share_6 ?_
    have f_5 : G a.ws = some (35, .inr (7, [.ref a.we, .ref a.wc, .int (nI S.wn)])) := hC.we
    refine g_get hx hb hts hin_We hown hK f_5 rfl 2 (by decide) (hts _ wm41) (fun _ h9 => h9) rfl d_Mf_share_9 ?_
    refine gsb (pc1 := 25) (pc2 := 15) (fun _ _ _ _ _ => lv_icmp_lt (tgt := 25) hx hb d_Mf_share_12 (by decide)) (fun c_6 => ?_) (fun c_6 => ?_)
    · skip
      have nc_6 : o < S.wn := (nn_lt (a := o) (b := S.wn) (by omega) (by omega)).1 c_6
      refine gs (pc' := 26) (fun _ _ _ _ _ hl => lv_lload_n hx hb d_Mf_share_25 rfl (lv_at hl 1 rfl)) ?_
      refine gs (pc' := 27) (fun _ _ _ _ _ hl => lv_lconst (v := lN 0) hx hb d_Mf_share_26 (by decide)) ?_
      refine gs (pc' := 28) (fun _ _ _ _ _ hl => W.lcmp hx hb d_Mf_share_27) ?_
      refine gsb (pc1 := 39) (pc2 := 31) (fun _ _ _ _ _ => lv_if_lt (tgt := 39) hx hb d_Mf_share_28 (by decide)) (fun c_7 => ?_) (fun c_7 => ?_)
      · skip
        have nc_7 : Wn < 0 := (lcN_lt (a := Wn) (b := 0) (by omega) (by omega)).1 c_7
        exact absurd nc_7 (by omega)
      · skip
        have nc_7 : Wn ≥ 0 := (lcN_lt (a := Wn) (b := 0) (by omega) (by omega)).2 c_7
        refine gs (pc' := 32) (fun _ _ _ _ _ hl => lv_lload_n hx hb d_Mf_share_31 rfl (lv_at hl 1 rfl)) ?_
        refine gs (pc' := 35) (fun _ _ _ _ _ hl => lv_ldc2 (v := 1000000000000) hx hb hown (hts _ wm728) d_Mf_share_32) ?_
        refine g_eql (show 1000000000000 = lN 1000000000000 from rfl) ?_
        refine gs (pc' := 36) (fun _ _ _ _ _ hl => W.lcmp hx hb d_Mf_share_35) ?_
        refine gsb (pc1 := 49) (pc2 := 39) (fun _ _ _ _ _ => lv_if_le (tgt := 49) hx hb d_Mf_share_36 (by decide)) (fun c_8 => ?_) (fun c_8 => ?_)
        · skip
          have nc_8 : Wn ≤ 1000000000000 := (lcN_le (a := Wn) (b := 1000000000000) (by omega) (by omega)).1 c_8
          refine gs (pc' := 50) (fun _ _ _ _ _ hl => lv_aload_n hx hb d_Mf_share_49 rfl (lv_at hl 0 rfl)) ?_
          refine g_get hx hb hts hin_Mf hown hK f_4 rfl 4 (by decide) (hts _ wm239) (fun _ h9 => h9) rfl d_Mf_share_50 ?_
          refine gs (pc' := 54) (fun _ _ _ _ _ hl => lv_lload_n hx hb d_Mf_share_53 rfl (lv_at hl 1 rfl)) ?_
          refine gs (pc' := 55) (fun _ _ _ _ _ hl => lv_iload_n hx hb d_Mf_share_54 rfl (lv_at hl 2 rfl)) ?_
          obtain ⟨ef_9, f_10, g_11⟩ := hC.wa
          have f_12 : G a.we = some (36, .inl (cA 0, 12, .inl ef_9)) := f_10
          obtain ⟨cf_13, f_14⟩ := hC.wb
          have f_15 : G a.wc = some (37, .inl (cA 1, 12, .inr (.inl cf_13))) := f_14
          refine g_outl hlo (g_runV (As := [.long (lN Wn), .int (nI o)]) (rest := []) ⟨hx, hb, hml, hown, hts⟩ hK hZ hRc hRs (c_We_portion l D cA lo MC MS G B a.ws a.we a.wc S.wn ef_9 cf_13 f_5 f_12 f_15 hwn S.w g_11 hW.w Wn (by omega) o (by omega) bl_1 bl_2) (fun _ _ => cwV 2 hts (tb_good (tb_cons wm730 (tb_cons wm731 (tb_cons wm732 (tb_cons wm2 k_We_portion))))) rfl rfl rfl (by decide +kernel) ⟨by rw [hRf]; exact Nat.le_of_ble_eq_true rfl, by rw [hRl]; exact Nat.le_of_ble_eq_true rfl⟩) f_5 rfl bl_1 bl_2 rfl (Nat.le_of_ble_eq_true rfl) d_Mf_share_55) (fun r_19 G_16 B_17 p_18 => ?_)
          obtain ⟨e_20, e_21, cf_22, f_23, f_24, gf_25⟩ := p_18
          have e_20b : B_17 = B := e_20
          subst e_20b
          subst e_21
          have C_26 := CW.shareV hC gf_25 f_23
          exact hret 58 _ _ _ _ d_Mf_share_58 bl_1 bl_2 ⟨lN_lI _, (CW.up (X1 := (X.1 + 6, X.2 + 209)) C_26 (show X.1 ≤ X.1 + 6 by omega) (show X.2 ≤ X.2 + 209 by omega)), gfr_mono gf_25 (fun x h9 => by omega)⟩
        · skip
          have nc_8 : Wn > 1000000000000 := (lcN_le (a := Wn) (b := 1000000000000) (by omega) (by omega)).2 c_8
          exact absurd nc_8 (by omega)
    · skip
      have nc_6 : o ≥ S.wn := (nn_lt (a := o) (b := S.wn) (by omega) (by omega)).2 c_6
      exact absurd nc_6 (by omega)
set_option maxHeartbeats 4000000 in
set_option maxRecDepth 100000 in
theorem t_Mf_share1 (l : Launch) (D : va_G) (cA : Nat → ClassId) (lo MC MS : Nat) (G : gT) (B : Nat × Nat) (X : Nat × Nat) (a : AX) (S : St) (F : Nat → Option Rat) (V : Nat → Nat) (hC : CW cA X a S F V (G, B)) (hW : WF S) (wh : Int) (hwh1 : -9223372036854775808 ≤ wh) (hwh2 : wh < 9223372036854775808) (k : Int) (hk1 : -2147483648 ≤ k) (hk2 : k < 2147483648) (hk : (sp_share S wh (iI k)).1 = 1) (hY1 : X.1 + 1 ≤ MC) (hY2 : X.2 + 6 ≤ MS) (hfl : ∀ e : Env, l.admits e → e.platform.stackTraces = false) : gMetT l y_Mf_share w_Mf_share 6 90 D clS (gtys cA) lo MC MS [.ref a.x, .long (lI wh), .int (iI k)] G B (gQx D clS lo "java/lang/IndexOutOfBoundsException" (fun u => u = (G, B.1 + 1, B.2 + 6))) := by
  refine g_mett (cc := prog_1_method_18_code) (nL := 4) (ret := (Option.some .long)) (L := [(0, .ref a.x), (1, .long (lI wh)), (3, .int (iI k))]) (by decide +kernel) rfl (Nat.le_of_ble_eq_true rfl) rfl ?_
  intro p e R s m args below meth c Q hF hRc hRs hRf hRl hne hQ
  obtain ⟨hx, hb, hr, hml, hts0, hown, hlocks, hin, hK, hlo, hZ⟩ := hF
  have hts : ∀ w ∈ tbg, w.before args s = true := fun w h => hts0 w (List.mem_cons_of_mem _ h)
  have hX1 : X.1 ≤ MC := by omega
  have hX2 : X.2 ≤ MS := by omega
  have hn := hW.n
  have hrn := hW.rn
  have hwn := hW.wn
  have bl_1 : B.1 ≤ MC := Nat.le_trans (w2_le hC.w).1 hX1
  have bl_2 : B.2 ≤ MS := Nat.le_trans (w2_le hC.w).2 hX2
  have hq1 : ¬ (0 ≤ (iI k).toInt ∧ (iI k).toInt < S.wn) := fun z9 => by
    rw [sp_share, if_neg (fun z8 => z8 z9)] at hk
    split at hk
    · simp at hk
    · simp at hk
  rw [iI_toInt hk1 hk2] at hq1
  refine gs (pc' := 1) (fun _ _ _ _ _ hl => lv_iload_n hx hb d_Mf_share_0 rfl (lv_at hl 2 rfl)) ?_
  refine gsb (pc1 := 15) (pc2 := 4) (fun _ _ _ _ _ => lv_if_lt (tgt := 15) hx hb d_Mf_share_1 (by decide)) (fun c_3 => ?_) (fun c_3 => ?_)
  · skip
    have nc_3 : k < 0 := (ii_lt (a := k) (b := 0) (by omega) (by omega) (by omega) (by omega)).1 (by first | exact c_3 | (have z9 := c_3; simp only [nI_iI] at z9; exact z9))
    have le_4 := w2_le hC.w
    exact g_throw (tx := "no such weight") (post := fun u => u = (G, B.1 + 1, B.2 + 6)) hx hb hml hown hts hlo hZ hfl hlocks hne (fun U h h1 h2 => own_Iob h h1 h2) (by decide +kernel) wm543 wm544 wm19 (by decide) hRc hRs (by rw [hRf]; exact Nat.le_of_ble_eq_true rfl) (by rw [hRl]; exact Nat.le_of_ble_eq_true rfl) (by have := le_4.1; omega) (by have := le_4.2; omega) d_Mf_share_15 d_Mf_share_18 d_Mf_share_19 d_Mf_share_21 d_Mf_share_24 rfl hQ
  · skip
    have nc_3 : k ≥ 0 := (ii_lt (a := k) (b := 0) (by omega) (by omega) (by omega) (by omega)).2 (by first | exact c_3 | (have z9 := c_3; simp only [nI_iI] at z9; exact z9))
    refine gs (pc' := 5) (fun _ _ _ _ _ hl => lv_iload_n hx hb d_Mf_share_4 rfl (lv_at hl 2 rfl)) ?_
    refine gs (pc' := 6) (fun _ _ _ _ _ hl => lv_aload_n hx hb d_Mf_share_5 rfl (lv_at hl 0 rfl)) ?_
    have f_5 : G a.x = some (31, .inr (8, [.ref a.vs, .int (nI S.n), .ref a.rs, .int (nI S.rn), .ref a.ws, .ref a.ca, .ref (a.fr 0), .ref (a.fr 1), .ref (a.fr 2), .ref (a.fr 3), .ref a.zr, .ref a.fo, .ref a.ha, .ref a.si])) := hC.ob
    refine g_get hx hb hts hin_Mf hown hK f_5 rfl 4 (by decide) (hts _ wm239) (fun _ h9 => h9) rfl d_Mf_share_6 ?_
    have f_6 : G a.ws = some (35, .inr (7, [.ref a.we, .ref a.wc, .int (nI S.wn)])) := hC.we
    refine g_get hx hb hts hin_We hown hK f_6 rfl 2 (by decide) (hts _ wm41) (fun _ h9 => h9) rfl d_Mf_share_9 ?_
    refine gsb (pc1 := 25) (pc2 := 15) (fun _ _ _ _ _ => lv_icmp_lt (tgt := 25) hx hb d_Mf_share_12 (by decide)) (fun c_7 => ?_) (fun c_7 => ?_)
    · skip
      have nc_7 : k < ((S.wn : Nat) : Int) := (ii_lt (a := k) (b := ((S.wn : Nat) : Int)) (by omega) (by omega) (by omega) (by omega)).1 (by first | exact c_7 | (have z9 := c_7; simp only [nI_iI] at z9; exact z9))
      exact absurd nc_7 (fun z9 => hq1 ⟨by omega, by omega⟩)
    · skip
      have nc_7 : k ≥ ((S.wn : Nat) : Int) := (ii_lt (a := k) (b := ((S.wn : Nat) : Int)) (by omega) (by omega) (by omega) (by omega)).2 (by first | exact c_7 | (have z9 := c_7; simp only [nI_iI] at z9; exact z9))
      have le_8 := w2_le hC.w
      exact g_throw (tx := "no such weight") (post := fun u => u = (G, B.1 + 1, B.2 + 6)) hx hb hml hown hts hlo hZ hfl hlocks hne (fun U h h1 h2 => own_Iob h h1 h2) (by decide +kernel) wm543 wm544 wm19 (by decide) hRc hRs (by rw [hRf]; exact Nat.le_of_ble_eq_true rfl) (by rw [hRl]; exact Nat.le_of_ble_eq_true rfl) (by have := le_8.1; omega) (by have := le_8.2; omega) d_Mf_share_15 d_Mf_share_18 d_Mf_share_19 d_Mf_share_21 d_Mf_share_24 rfl hQ
set_option maxHeartbeats 4000000 in
set_option maxRecDepth 100000 in
theorem t_Mf_share2 (l : Launch) (D : va_G) (cA : Nat → ClassId) (lo MC MS : Nat) (G : gT) (B : Nat × Nat) (X : Nat × Nat) (a : AX) (S : St) (F : Nat → Option Rat) (V : Nat → Nat) (hC : CW cA X a S F V (G, B)) (hW : WF S) (wh : Int) (hwh1 : -9223372036854775808 ≤ wh) (hwh2 : wh < 9223372036854775808) (k : Int) (hk1 : -2147483648 ≤ k) (hk2 : k < 2147483648) (hk : (sp_share S wh (iI k)).1 = 2) (hY1 : X.1 + 1 ≤ MC) (hY2 : X.2 + 6 ≤ MS) (hfl : ∀ e : Env, l.admits e → e.platform.stackTraces = false) : gMetT l y_Mf_share w_Mf_share 6 90 D clS (gtys cA) lo MC MS [.ref a.x, .long (lI wh), .int (iI k)] G B (gQx D clS lo "java/lang/IllegalArgumentException" (fun u => u = (G, B.1 + 1, B.2 + 6))) := by
  refine g_mett (cc := prog_1_method_18_code) (nL := 4) (ret := (Option.some .long)) (L := [(0, .ref a.x), (1, .long (lI wh)), (3, .int (iI k))]) (by decide +kernel) rfl (Nat.le_of_ble_eq_true rfl) rfl ?_
  intro p e R s m args below meth c Q hF hRc hRs hRf hRl hne hQ
  obtain ⟨hx, hb, hr, hml, hts0, hown, hlocks, hin, hK, hlo, hZ⟩ := hF
  have hts : ∀ w ∈ tbg, w.before args s = true := fun w h => hts0 w (List.mem_cons_of_mem _ h)
  have hX1 : X.1 ≤ MC := by omega
  have hX2 : X.2 ≤ MS := by omega
  have hn := hW.n
  have hrn := hW.rn
  have hwn := hW.wn
  have bl_1 : B.1 ≤ MC := Nat.le_trans (w2_le hC.w).1 hX1
  have bl_2 : B.2 ≤ MS := Nat.le_trans (w2_le hC.w).2 hX2
  have hq1 : (0 ≤ (iI k).toInt ∧ (iI k).toInt < S.wn) := by
    by_cases z9 : (0 ≤ (iI k).toInt ∧ (iI k).toInt < S.wn)
    · exact z9
    · rw [sp_share, if_pos z9] at hk; simp at hk
  have hq2 : ¬ (0 ≤ wh ∧ wh ≤ 1000000000000) := fun z9 => by
    rw [sp_share, if_neg (fun z8 => z8 hq1), if_neg (fun z8 => z8 z9)] at hk
    simp at hk
  obtain ⟨o, ho4, hxe_k, ei_o⟩ := ix_of hq1.1 hq1.2
  rw [hxe_k]
  refine gs (pc' := 1) (fun _ _ _ _ _ hl => lv_iload_n hx hb d_Mf_share_0 rfl (lv_at hl 2 rfl)) ?_
  refine gsb (pc1 := 15) (pc2 := 4) (fun _ _ _ _ _ => lv_if_lt (tgt := 15) hx hb d_Mf_share_1 (by decide)) (fun c_3 => ?_) (fun c_3 => ?_)
  · skip
    have nc_3 : o < 0 := (n0_lt (a := o) (by omega)).1 c_3
    exact absurd nc_3 (by omega)
  · skip
    have nc_3 : o ≥ 0 := (n0_lt (a := o) (by omega)).2 c_3
    refine gs (pc' := 5) (fun _ _ _ _ _ hl => lv_iload_n hx hb d_Mf_share_4 rfl (lv_at hl 2 rfl)) ?_
    refine gs (pc' := 6) (fun _ _ _ _ _ hl => lv_aload_n hx hb d_Mf_share_5 rfl (lv_at hl 0 rfl)) ?_
    have f_4 : G a.x = some (31, .inr (8, [.ref a.vs, .int (nI S.n), .ref a.rs, .int (nI S.rn), .ref a.ws, .ref a.ca, .ref (a.fr 0), .ref (a.fr 1), .ref (a.fr 2), .ref (a.fr 3), .ref a.zr, .ref a.fo, .ref a.ha, .ref a.si])) := hC.ob
    refine g_get hx hb hts hin_Mf hown hK f_4 rfl 4 (by decide) (hts _ wm239) (fun _ h9 => h9) rfl d_Mf_share_6 ?_
    have f_5 : G a.ws = some (35, .inr (7, [.ref a.we, .ref a.wc, .int (nI S.wn)])) := hC.we
    refine g_get hx hb hts hin_We hown hK f_5 rfl 2 (by decide) (hts _ wm41) (fun _ h9 => h9) rfl d_Mf_share_9 ?_
    refine gsb (pc1 := 25) (pc2 := 15) (fun _ _ _ _ _ => lv_icmp_lt (tgt := 25) hx hb d_Mf_share_12 (by decide)) (fun c_6 => ?_) (fun c_6 => ?_)
    · skip
      have nc_6 : o < S.wn := (nn_lt (a := o) (b := S.wn) (by omega) (by omega)).1 c_6
      refine gs (pc' := 26) (fun _ _ _ _ _ hl => lv_lload_n hx hb d_Mf_share_25 rfl (lv_at hl 1 rfl)) ?_
      refine gs (pc' := 27) (fun _ _ _ _ _ hl => lv_lconst (v := lN 0) hx hb d_Mf_share_26 (by decide)) ?_
      refine gs (pc' := 28) (fun _ _ _ _ _ hl => W.lcmp hx hb d_Mf_share_27) ?_
      refine gsb (pc1 := 39) (pc2 := 31) (fun _ _ _ _ _ => lv_if_lt (tgt := 39) hx hb d_Mf_share_28 (by decide)) (fun c_7 => ?_) (fun c_7 => ?_)
      · skip
        have nc_7 : wh < ((0 : Nat) : Int) := (lcI_lt (a := wh) (b := ((0 : Nat) : Int)) (by omega) (by omega) (by omega) (by omega)).1 (by rw [cmp_IN] at c_7; exact c_7)
        have le_8 := w2_le hC.w
        exact g_throw (tx := "the whole is not 0 .. 1000000000000") (post := fun u => u = (G, B.1 + 1, B.2 + 6)) hx hb hml hown hts hlo hZ hfl hlocks hne (fun U h h1 h2 => own_Iae h h1 h2) (by decide +kernel) wm370 wm371 wm17 (by decide) hRc hRs (by rw [hRf]; exact Nat.le_of_ble_eq_true rfl) (by rw [hRl]; exact Nat.le_of_ble_eq_true rfl) (by have := le_8.1; omega) (by have := le_8.2; omega) d_Mf_share_39 d_Mf_share_42 d_Mf_share_43 d_Mf_share_45 d_Mf_share_48 rfl hQ
      · skip
        have nc_7 : wh ≥ ((0 : Nat) : Int) := (lcI_lt (a := wh) (b := ((0 : Nat) : Int)) (by omega) (by omega) (by omega) (by omega)).2 (by rw [cmp_IN] at c_7; exact c_7)
        refine gs (pc' := 32) (fun _ _ _ _ _ hl => lv_lload_n hx hb d_Mf_share_31 rfl (lv_at hl 1 rfl)) ?_
        refine gs (pc' := 35) (fun _ _ _ _ _ hl => lv_ldc2 (v := 1000000000000) hx hb hown (hts _ wm728) d_Mf_share_32) ?_
        refine g_eql (show 1000000000000 = lN 1000000000000 from rfl) ?_
        refine gs (pc' := 36) (fun _ _ _ _ _ hl => W.lcmp hx hb d_Mf_share_35) ?_
        refine gsb (pc1 := 49) (pc2 := 39) (fun _ _ _ _ _ => lv_if_le (tgt := 49) hx hb d_Mf_share_36 (by decide)) (fun c_9 => ?_) (fun c_9 => ?_)
        · skip
          have nc_9 : wh ≤ ((1000000000000 : Nat) : Int) := (lcI_le (a := wh) (b := ((1000000000000 : Nat) : Int)) (by omega) (by omega) (by omega) (by omega)).1 (by rw [cmp_IN] at c_9; exact c_9)
          exact absurd nc_9 (fun z9 => hq2 ⟨by omega, by omega⟩)
        · skip
          have nc_9 : wh > ((1000000000000 : Nat) : Int) := (lcI_le (a := wh) (b := ((1000000000000 : Nat) : Int)) (by omega) (by omega) (by omega) (by omega)).2 (by rw [cmp_IN] at c_9; exact c_9)
          have le_10 := w2_le hC.w
          exact g_throw (tx := "the whole is not 0 .. 1000000000000") (post := fun u => u = (G, B.1 + 1, B.2 + 6)) hx hb hml hown hts hlo hZ hfl hlocks hne (fun U h h1 h2 => own_Iae h h1 h2) (by decide +kernel) wm370 wm371 wm17 (by decide) hRc hRs (by rw [hRf]; exact Nat.le_of_ble_eq_true rfl) (by rw [hRl]; exact Nat.le_of_ble_eq_true rfl) (by have := le_10.1; omega) (by have := le_10.2; omega) d_Mf_share_39 d_Mf_share_42 d_Mf_share_43 d_Mf_share_45 d_Mf_share_48 rfl hQ
    · skip
      have nc_6 : o ≥ S.wn := (nn_lt (a := o) (b := S.wn) (by omega) (by omega)).2 c_6
      exact absurd nc_6 (by omega)
