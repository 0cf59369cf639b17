set_option maxHeartbeats 4000000 in
set_option maxRecDepth 100000 in
/-- widen(k) -/
theorem c_Na_widen (l : Launch) (D : va_G) (cA : Nat → ClassId) (lo MC MS : Nat) (G : gT) (B : Nat × Nat) (t h a z cap : Nat) (f : Nat → Int32) (hh : G h = some (t, .inr (4, [.ref a, .int (nI z)]))) (ha : G a = some (t, .inl (cA 0, cap, .inl f))) (hz : z ≤ cap) (hc : cap ≤ 50000) (k : Nat) (hzk : z ≤ k) (hk : k ≤ 50000) (hC : B.1 + (gcap cap (k) - cap) ≤ MC) (hS : B.2 + 2 * (gcap cap (k) - cap) ≤ MS) (hB1 : B.1 ≤ MC) (hB2 : B.2 ≤ MS) : gMet l y_Na_widen w_Na_widen 3 83 D clS (gtys cA) lo MC MS [.ref h, .int (nI k)] G B (gQv D clS lo (fun u => ∃ (a2 : Nat) (f2 : Nat → Int32), u.1 h = some (t, .inr (4, [.ref a2, .int (nI k)])) ∧ u.1 a2 = some (t, .inl (cA 0, gcap cap k, .inl f2)) ∧ (∀ j, j < z → f2 j = f j) ∧ (∀ j, z ≤ j → j < k → f2 j = nI 0) ∧ gfr (fun x => x = t) G u.1 ∧ u.2.1 + cap ≤ B.1 + gcap cap k ∧ u.2.2 + 2 * cap ≤ B.2 + 2 * gcap cap k)) := by
  refine g_metv (cc := prog_6_method_3_code) (nL := 3) (L := [(0, .ref h), (1, .int (nI k))]) (by decide +kernel) rfl (Nat.le_of_ble_eq_true rfl) rfl ?_
  intro p e R s m args below meth c Q hF hRc hRs hRf hRl hret
  obtain ⟨hx, hb, hr, hml, hts0, hown, hlocks, hin, hK, hlo, hZ⟩ := hF
  have hts : ∀ w ∈ tbg, w.before args s = true := fun w h => hts0 w (List.mem_cons_of_mem _ h)
  refine gs (pc' := 1) (fun _ _ _ _ _ hl => lv_aload_n hx hb d_Na_widen_0 rfl (lv_at hl 0 rfl)) ?_
  refine gs (pc' := 2) (fun _ _ _ _ _ hl => lv_iload_n hx hb d_Na_widen_1 rfl (lv_at hl 1 rfl)) ?_
  refine g_outv hlo (g_runV (As := [.int (nI k)]) (rest := []) ⟨hx, hb, hml, hown, hts⟩ hK hZ hRc hRs (c_Na_grow l D cA lo MC MS G B t h a cap k (nI z) f hh ha (by omega) (by omega) (by omega) (by omega) hB1 hB2) (fun _ _ => cwV 1 hts (tb_good (tb_cons wm188 (tb_cons wm189 (tb_cons wm190 (tb_cons wm5 k_Na_grow))))) rfl rfl rfl (by decide +kernel) ⟨by rw [hRf]; exact Nat.le_of_ble_eq_true rfl, by rw [hRl]; exact Nat.le_of_ble_eq_true rfl⟩) hh rfl hB1 hB2 rfl (Nat.le_of_ble_eq_true rfl) d_Na_widen_2) (fun G_1 B_2 p_3 => ?_)
  obtain ⟨a_4, g_5, e_6, e_7, e_8, e_9, e_10, e_11⟩ := p_3
  have e_10 : B_2.1 + cap ≤ B.1 + gcap cap k := e_10
  have e_11 : B_2.2 + 2 * cap ≤ B.2 + 2 * gcap cap k := e_11
  have gg_12 := gcap_ge cap k
  have gg_13 : gcap cap k ≤ 2 * 50000 := gcap_le (by omega) (by omega)
  refine gs (pc' := 6) (fun _ _ _ _ _ hl => lv_aload_n hx hb d_Na_widen_5 rfl (lv_at hl 0 rfl)) ?_
  refine g_get hx hb hts hin_Na hown hK e_6 rfl 1 (by decide) (hts _ wm75) (fun _ h9 => h9) rfl d_Na_widen_6 ?_
  refine gst (pc' := 10) (L' := [(2, .int (nI z)), (0, .ref h), (1, .int (nI k))]) (fun _ _ _ _ _ hl => lv_istore_n hx hb d_Na_widen_9 rfl hl (by decide) rfl) ?_
  refine gsub [0, 1, 2] rfl ?_
  have loop : ∀ (n i : Nat) (g : Nat → Int32) (Gk : gT), (i + n = k) → (z ≤ i) → (∀ j, j < z → g j = f j) → (∀ j, z ≤ j → j < i → g j = nI 0) → (gfr (fun x => x = t) G Gk) → Gk h = some (t, .inr (4, [.ref a_4, .int (nI z)])) → Gk a_4 = some (t, .inl (cA 0, (gcap cap k), .inl g)) → gV p l e R s m args below meth c D clS lo 3 Q 10 [(2, .int (nI i)), (0, .ref h), (1, .int (nI k))] [] Gk B_2 := by
    intro n
    induction n with
    | zero =>
      intro i g Gk hi hzi hlo1 hup hfr k1 k2
      refine gs (pc' := 11) (fun _ _ _ _ _ hl => lv_iload_n hx hb d_Na_widen_10 rfl (lv_at hl 0 rfl)) ?_
      refine gs (pc' := 12) (fun _ _ _ _ _ hl => lv_iload_n hx hb d_Na_widen_11 rfl (lv_at hl 2 rfl)) ?_
      refine gsb (pc1 := 28) (pc2 := 15) (fun _ _ _ _ _ => lv_icmp_ge (tgt := 28) hx hb d_Na_widen_12 (by decide)) (fun c_14 => ?_) (fun c_14 => ?_)
      · skip
        have nc_14 : i ≥ k := (nn_ge (a := i) (b := k) (by omega) (by omega)).1 c_14
        refine gs (pc' := 29) (fun _ _ _ _ _ hl => lv_aload_n hx hb d_Na_widen_28 rfl (lv_at hl 1 rfl)) ?_
        refine gs (pc' := 30) (fun _ _ _ _ _ hl => lv_iload_n hx hb d_Na_widen_29 rfl (lv_at hl 2 rfl)) ?_
        refine g_put (ty := .int) hx hb hts hin_Na ty_Na ty_Na_ok nm_Na hown hK k1 rfl 1 (by decide) (hts _ wm75) (fun _ h9 => h9) rfl (by decide +kernel) rfl rfl (Nat.le_of_ble_eq_true rfl) d_Na_widen_30 (fun G_15 f_16 o_17 => ?_)
        have f_18 : G_15 h = some (t, .inr (4, [.ref a_4, .int (nI k)])) := f_16
        have f_19 : G_15 a_4 = some (t, .inl (cA 0, (gcap cap k), .inl g)) := (o_17 _ (gne k2 k1 (fun e => by cases e))).trans k2
        have w_20 : gfr (fun x => x = t) G G_15 := gfr_put hfr k1 rfl o_17
        exact hret 33 _ _ _ d_Na_widen_33 (show B_2.1 ≤ MC by omega) (show B_2.2 ≤ MS by omega) ⟨a_4, g, f_18, f_19, hlo1, fun j h1 h2 => hup j h1 (by omega), w_20, e_10, e_11⟩
      · skip
        have nc_14 : i < k := (nn_ge (a := i) (b := k) (by omega) (by omega)).2 c_14
        exact absurd nc_14 (by omega)
    | succ n ih =>
      intro i g Gk hi hzi hlo1 hup hfr k1 k2
      refine gs (pc' := 11) (fun _ _ _ _ _ hl => lv_iload_n hx hb d_Na_widen_10 rfl (lv_at hl 0 rfl)) ?_
      refine gs (pc' := 12) (fun _ _ _ _ _ hl => lv_iload_n hx hb d_Na_widen_11 rfl (lv_at hl 2 rfl)) ?_
      refine gsb (pc1 := 28) (pc2 := 15) (fun _ _ _ _ _ => lv_icmp_ge (tgt := 28) hx hb d_Na_widen_12 (by decide)) (fun c_21 => ?_) (fun c_21 => ?_)
      · skip
        have nc_21 : i ≥ k := (nn_ge (a := i) (b := k) (by omega) (by omega)).1 c_21
        exact absurd nc_21 (by omega)
      · skip
        have nc_21 : i < k := (nn_ge (a := i) (b := k) (by omega) (by omega)).2 c_21
        refine gs (pc' := 16) (fun _ _ _ _ _ hl => lv_aload_n hx hb d_Na_widen_15 rfl (lv_at hl 1 rfl)) ?_
        refine g_get hx hb hts hin_Na hown hK k1 rfl 0 (by decide) (hts _ wm72) (fun _ h9 => h9) rfl d_Na_widen_16 ?_
        refine gs (pc' := 20) (fun _ _ _ _ _ hl => lv_iload_n hx hb d_Na_widen_19 rfl (lv_at hl 0 rfl)) ?_
        refine gs (pc' := 21) (fun _ _ _ _ _ hl => lv_iconst (v := nI 0) hx hb d_Na_widen_20 (by decide)) ?_
        refine g_iast hx hb hK 0 k2 rfl (show vp_in (nI i) (gcap cap k) from vp_in_nI (by omega) (by omega)) d_Na_widen_21 (fun G_22 f_23 o_24 => ?_)
        rw [nI_clamp (by omega)] at f_23
        have f_25 : G_22 h = some (t, .inr (4, [.ref a_4, .int (nI z)])) := (o_24 _ (gne k1 k2 (fun e => by cases e))).trans k1
        refine gst (pc' := 25) (L' := [(2, .int (nI (i + 1))), (0, .ref h), (1, .int (nI k))]) (fun _ _ _ _ _ hl => lv_iinc (v := nI (i + 1)) hx hb d_Na_widen_22 hl (k := 0) rfl (nI_add _ 1) (by decide) rfl) ?_
        refine gs (pc' := 10) (fun _ _ _ _ _ hl => lv_goto (tgt := 10) hx hb d_Na_widen_25 (by decide)) ?_
        refine gsub [0, 1, 2] rfl ?_
        exact ih (i + 1) (upd g i (nI 0)) G_22 (by omega) (by omega) (fun j hj => by rw [pk_un (by omega)]; exact hlo1 j hj) (fun j h1 h2 => by
            by_cases e : j = i
            · subst e; rw [pk_us]
            · rw [pk_un e]; exact hup j h1 (by omega)) (gfr_put hfr k2 rfl o_24) f_25 f_23
  exact loop (k - z) z g_5 G_1 (by omega) (by omega) (fun j hj => e_8 j (by omega)) (fun j h1 h2 => absurd h1 (by omega)) e_9 e_6 e_7
set_option maxHeartbeats 4000000 in
set_option maxRecDepth 100000 in
/-- setTo -/
theorem c_Na_setTo (l : Launch) (D : va_G) (cA : Nat → ClassId) (lo MC MS : Nat) (G : gT) (B : Nat × Nat) (t h a cap : Nat) (zv : Int32) (f : Nat → Int32) (hh : G h = some (t, .inr (4, [.ref a, .int zv]))) (ha : G a = some (t, .inl (cA 0, cap, .inl f))) (hc : cap ≤ 50000) (t1 h1 a1 z1 cap1 : Nat) (f1 : Nat → Int32) (hh1 : G h1 = some (t1, .inr (4, [.ref a1, .int (nI z1)]))) (ha1 : G a1 = some (t1, .inl (cA 0, cap1, .inl f1))) (hz1 : z1 ≤ cap1) (hc1 : cap1 ≤ 50000) (v1 : Nat) (hn1 : ¬ t1 = t) (hD1 : isD f1 z1 v1) (hC : B.1 + (gcap cap (z1) - cap) ≤ MC) (hS : B.2 + 2 * (gcap cap (z1) - cap) ≤ MS) (hB1 : B.1 ≤ MC) (hB2 : B.2 ≤ MS) : gMet l y_Na_setTo w_Na_setTo 3 83 D clS (gtys cA) lo MC MS [.ref h, .ref h1] G B (gQv D clS lo (nres cA G B t h cap z1 v1)) := by
  refine g_metv (cc := prog_6_method_13_code) (nL := 2) (L := [(0, .ref h), (1, .ref h1)]) (by decide +kernel) rfl (Nat.le_of_ble_eq_true rfl) rfl ?_
  intro p e R s m args below meth c Q hF hRc hRs hRf hRl hret
  obtain ⟨hx, hb, hr, hml, hts0, hown, hlocks, hin, hK, hlo, hZ⟩ := hF
  have hts : ∀ w ∈ tbg, w.before args s = true := fun w h => hts0 w (List.mem_cons_of_mem _ h)
  refine gs (pc' := 1) (fun _ _ _ _ _ hl => lv_aload_n hx hb d_Na_setTo_0 rfl (lv_at hl 0 rfl)) ?_
  refine gs (pc' := 2) (fun _ _ _ _ _ hl => lv_aload_n hx hb d_Na_setTo_1 rfl (lv_at hl 1 rfl)) ?_
  refine g_get hx hb hts hin_Na hown hK hh1 rfl 1 (by decide) (hts _ wm75) (fun _ h9 => h9) rfl d_Na_setTo_2 ?_
  refine g_outv hlo (g_runV (As := [.int (nI z1)]) (rest := []) ⟨hx, hb, hml, hown, hts⟩ hK hZ hRc hRs (c_Na_grow l D cA lo MC MS G B t h a cap z1 zv f hh ha (by omega) (by omega) (by omega) (by omega) hB1 hB2) (fun _ _ => cwV 1 hts (tb_good (tb_cons wm188 (tb_cons wm189 (tb_cons wm190 (tb_cons wm5 k_Na_grow))))) rfl rfl rfl (by decide +kernel) ⟨by rw [hRf]; exact Nat.le_of_ble_eq_true rfl, by rw [hRl]; exact Nat.le_of_ble_eq_true rfl⟩) hh rfl hB1 hB2 rfl (Nat.le_of_ble_eq_true rfl) d_Na_setTo_5) (fun G_1 B_2 p_3 => ?_)
  obtain ⟨a_4, g_5, e_6, e_7, e_8, e_9, e_10, e_11⟩ := p_3
  have e_10 : B_2.1 + cap ≤ B.1 + gcap cap z1 := e_10
  have e_11 : B_2.2 + 2 * cap ≤ B.2 + 2 * gcap cap z1 := e_11
  have gg_12 := gcap_ge cap z1
  have gg_13 : gcap cap z1 ≤ 2 * 50000 := gcap_le (by omega) (by omega)
  have f_14 : G_1 h1 = some (t1, .inr (4, [.ref a1, .int (nI z1)])) := e_9 _ _ hh1 hn1
  have f_15 : G_1 a1 = some (t1, .inl (cA 0, cap1, .inl f1)) := e_9 _ _ ha1 hn1
  refine gs (pc' := 9) (fun _ _ _ _ _ hl => lv_aload_n hx hb d_Na_setTo_8 rfl (lv_at hl 1 rfl)) ?_
  refine g_get hx hb hts hin_Na hown hK f_14 rfl 0 (by decide) (hts _ wm72) (fun _ h9 => h9) rfl d_Na_setTo_9 ?_
  refine gs (pc' := 13) (fun _ _ _ _ _ hl => lv_iconst (v := nI 0) hx hb d_Na_setTo_12 (by decide)) ?_
  refine gs (pc' := 14) (fun _ _ _ _ _ hl => lv_aload_n hx hb d_Na_setTo_13 rfl (lv_at hl 0 rfl)) ?_
  refine g_get hx hb hts hin_Na hown hK e_6 rfl 0 (by decide) (hts _ wm72) (fun _ h9 => h9) rfl d_Na_setTo_14 ?_
  refine gs (pc' := 18) (fun _ _ _ _ _ hl => lv_iconst (v := nI 0) hx hb d_Na_setTo_17 (by decide)) ?_
  refine gs (pc' := 19) (fun _ _ _ _ _ hl => lv_aload_n hx hb d_Na_setTo_18 rfl (lv_at hl 1 rfl)) ?_
  refine g_get hx hb hts hin_Na hown hK f_14 rfl 1 (by decide) (hts _ wm75) (fun _ h9 => h9) rfl d_Na_setTo_19 ?_
  refine g_copyi hx hb hml hown (hts _ wm411) (hts _ wm207) (hts _ wm206) (hts _ wm10) hK 0 f_15 e_7 rfl (by decide) (by decide) (nI_pos (by omega)) (by rw [nI_cl0, nI_clamp (by omega)]; omega) (by rw [nI_cl0, nI_clamp (by omega)]; omega) (by rw [hRf]; exact Nat.le_of_ble_eq_true rfl) (by rw [hRl]; decide) d_Na_setTo_22 (fun G_16 f_17 o_18 => ?_)
  rw [nI_cl0, nI_clamp (by omega)] at f_17
  have f_19 : G_16 h1 = some (t1, .inr (4, [.ref a1, .int (nI z1)])) := (o_18 _ (gne f_14 e_7 (fun e => by cases e))).trans f_14
  have f_20 : G_16 a1 = some (t1, .inl (cA 0, cap1, .inl f1)) := (o_18 _ (gne f_15 e_7 (fun e => hn1 (congrArg Prod.fst e)))).trans f_15
  have f_21 : G_16 h = some (t, .inr (4, [.ref a_4, .int zv])) := (o_18 _ (gne e_6 e_7 (fun e => by cases e))).trans e_6
  have w_22 : gfr (fun x => x = t) G G_16 := gfr_put e_9 e_7 rfl o_18
  refine gs (pc' := 26) (fun _ _ _ _ _ hl => lv_aload_n hx hb d_Na_setTo_25 rfl (lv_at hl 0 rfl)) ?_
  refine gs (pc' := 27) (fun _ _ _ _ _ hl => lv_aload_n hx hb d_Na_setTo_26 rfl (lv_at hl 1 rfl)) ?_
  refine g_get hx hb hts hin_Na hown hK f_19 rfl 1 (by decide) (hts _ wm75) (fun _ h9 => h9) rfl d_Na_setTo_27 ?_
  refine g_put (ty := .int) hx hb hts hin_Na ty_Na ty_Na_ok nm_Na hown hK f_21 rfl 1 (by decide) (hts _ wm75) (fun _ h9 => h9) rfl (by decide +kernel) rfl rfl (Nat.le_of_ble_eq_true rfl) d_Na_setTo_30 (fun G_23 f_24 o_25 => ?_)
  have f_26 : G_23 h = some (t, .inr (4, [.ref a_4, .int (nI z1)])) := f_24
  have f_27 : G_23 h1 = some (t1, .inr (4, [.ref a1, .int (nI z1)])) := (o_25 _ (gne f_19 f_21 (fun e => hn1 (congrArg Prod.fst e)))).trans f_19
  have f_28 : G_23 a1 = some (t1, .inl (cA 0, cap1, .inl f1)) := (o_25 _ (gne f_20 f_21 (fun e => by cases e))).trans f_20
  have f_29 : G_23 a_4 = some (t, .inl (cA 0, (gcap cap z1), .inl (va_cpy f1 g_5 0 0 z1))) := (o_25 _ (gne f_17 f_21 (fun e => by cases e))).trans f_17
  have w_30 : gfr (fun x => x = t) G G_23 := gfr_put w_22 f_21 rfl o_25
  have hcp : ∀ i, i < z1 → va_cpy f1 g_5 0 0 z1 i = f1 i := fun i hi => cpy_in hi
  exact hret 33 _ _ _ d_Na_setTo_33 (show B_2.1 ≤ MC by omega) (show B_2.2 ≤ MS by omega) ⟨a_4, z1, _, f_26, f_29, Nat.le_refl _, isD_congr hD1 hcp, w_30, e_10, e_11⟩
set_option maxHeartbeats 4000000 in
set_option maxRecDepth 100000 in
/-- compare: -1, 0, 1 -/
theorem c_Na_compare (l : Launch) (D : va_G) (cA : Nat → ClassId) (lo MC MS : Nat) (G : gT) (B : Nat × Nat) (t1 h1 a1 z1 cap1 : Nat) (f1 : Nat → Int32) (hh1 : G h1 = some (t1, .inr (4, [.ref a1, .int (nI z1)]))) (ha1 : G a1 = some (t1, .inl (cA 0, cap1, .inl f1))) (hz1 : z1 ≤ cap1) (hc1 : cap1 ≤ 50000) (t2 h2 a2 z2 cap2 : Nat) (f2 : Nat → Int32) (hh2 : G h2 = some (t2, .inr (4, [.ref a2, .int (nI z2)]))) (ha2 : G a2 = some (t2, .inl (cA 0, cap2, .inl f2))) (hz2 : z2 ≤ cap2) (hc2 : cap2 ≤ 50000) (v1 v2 : Nat) (hD1 : isD f1 z1 v1) (hD2 : isD f2 z2 v2) (hB1 : B.1 ≤ MC) (hB2 : B.2 ≤ MS) : gMet l y_Na_compare w_Na_compare 0 0 D clS (gtys cA) lo MC MS [.ref h1, .ref h2] G B (gQi D clS lo (fun r u => u = (G, B) ∧ ((r = -1 ∧ v1 < v2) ∨ (r = nI 0 ∧ v1 = v2) ∨ (r = nI 1 ∧ v2 < v1)))) := by
  refine g_meti (cc := prog_6_method_8_code) (nL := 3) (L := [(0, .ref h1), (1, .ref h2)]) (by decide +kernel) rfl (Nat.le_of_ble_eq_true rfl) rfl ?_
  intro p e R s m args below meth c Q hF hRc hRs hRf hRl hret
  obtain ⟨hx, hb, hr, hml, hts0, hown, hlocks, hin, hK, hlo, hZ⟩ := hF
  have hts : ∀ w ∈ tbg, w.before args s = true := fun w h => hts0 w (List.mem_cons_of_mem _ h)
  have hl1 := hD1.1
  have hl2 := hD2.1
  refine gs (pc' := 1) (fun _ _ _ _ _ hl => lv_aload_n hx hb d_Na_compare_0 rfl (lv_at hl 0 rfl)) ?_
  refine g_get hx hb hts hin_Na hown hK hh1 rfl 1 (by decide) (hts _ wm75) (fun _ h9 => h9) rfl d_Na_compare_1 ?_
  refine gs (pc' := 5) (fun _ _ _ _ _ hl => lv_aload_n hx hb d_Na_compare_4 rfl (lv_at hl 1 rfl)) ?_
  refine g_get hx hb hts hin_Na hown hK hh2 rfl 1 (by decide) (hts _ wm75) (fun _ h9 => h9) rfl d_Na_compare_5 ?_
  refine gsb (pc1 := 28) (pc2 := 11) (fun _ _ _ _ _ => lv_icmp_eq (tgt := 28) hx hb d_Na_compare_8 (by decide)) (fun c_1 => ?_) (fun c_1 => ?_)
  · skip
    have nc_1 : z1 = z2 := (nn_eq (a := z1) (b := z2) (by omega) (by omega)).1 c_1
    have hzz : z1 = z2 := nc_1
    refine gs (pc' := 29) (fun _ _ _ _ _ hl => lv_aload_n hx hb d_Na_compare_28 rfl (lv_at hl 0 rfl)) ?_
    refine g_get hx hb hts hin_Na hown hK hh1 rfl 1 (by decide) (hts _ wm75) (fun _ h9 => h9) rfl d_Na_compare_29 ?_
    refine gs (pc' := 33) (fun _ _ _ _ _ hl => lv_iconst (v := nI 1) hx hb d_Na_compare_32 (by decide)) ?_
    refine gs (pc' := 34) (fun _ _ _ _ _ hl => lv_isub hx hb d_Na_compare_33) ?_
    refine gst (pc' := 35) (L' := [(2, .int ((nI z1) - (nI 1))), (0, .ref h1), (1, .ref h2)]) (fun _ _ _ _ _ hl => lv_istore_n hx hb d_Na_compare_34 rfl hl (by decide) rfl) ?_
    refine gsub [0, 1, 2] rfl ?_
    have loop : ∀ (j : Nat), j ≤ z1 → (∀ x, j ≤ x → x < z1 → df f1 x = df f2 x) → ∀ (iv : Int32), iv + nI 1 = nI j → gV p l e R s m args below meth c D clS lo 3 Q 35 [(2, .int iv), (0, .ref h1), (1, .ref h2)] [] G B := by
      intro j
      induction j with
      | zero =>
        intro hj hsame iv hiv
        have hm1 := iv_0 hiv
        subst hm1
        refine gs (pc' := 36) (fun _ _ _ _ _ hl => lv_iload_n hx hb d_Na_compare_35 rfl (lv_at hl 0 rfl)) ?_
        refine gsb (pc1 := 81) (pc2 := 39) (fun _ _ _ _ _ => lv_if_lt (tgt := 81) hx hb d_Na_compare_36 (by decide)) (fun c_2 => ?_) (fun c_2 => ?_)
        · skip
          refine gs (pc' := 82) (fun _ _ _ _ _ hl => lv_iconst (v := nI 0) hx hb d_Na_compare_81 (by decide)) ?_
          exact hret 82 _ _ _ _ d_Na_compare_82 hB1 hB2 ⟨rfl, Or.inr (Or.inl ⟨rfl, by rw [← hD1.2.2, ← hD2.2.2, ← hzz]; exact dv_congr (fun i hi => hsame i (Nat.zero_le i) hi)⟩)⟩
        · skip
          exact absurd (show (-1 : Int32) < 0 by decide) c_2
      | succ j ih =>
        intro hj hsame iv hiv
        have hm1 := iv_s hiv
        subst hm1
        refine gs (pc' := 36) (fun _ _ _ _ _ hl => lv_iload_n hx hb d_Na_compare_35 rfl (lv_at hl 0 rfl)) ?_
        refine gsb (pc1 := 81) (pc2 := 39) (fun _ _ _ _ _ => lv_if_lt (tgt := 81) hx hb d_Na_compare_36 (by decide)) (fun c_3 => ?_) (fun c_3 => ?_)
        · skip
          have nc_3 : j < 0 := (n0_lt (a := j) (by omega)).1 c_3
          exact absurd nc_3 (by omega)
        · skip
          have nc_3 : j ≥ 0 := (n0_lt (a := j) (by omega)).2 c_3
          refine gs (pc' := 40) (fun _ _ _ _ _ hl => lv_aload_n hx hb d_Na_compare_39 rfl (lv_at hl 1 rfl)) ?_
          refine g_get hx hb hts hin_Na hown hK hh1 rfl 0 (by decide) (hts _ wm72) (fun _ h9 => h9) rfl d_Na_compare_40 ?_
          refine gs (pc' := 44) (fun _ _ _ _ _ hl => lv_iload_n hx hb d_Na_compare_43 rfl (lv_at hl 0 rfl)) ?_
          refine g_iald hx hb hK 0 ha1 rfl (show vp_in (nI j) cap1 from vp_in_nI (by omega) (by omega)) d_Na_compare_44 ?_
          refine g_eqi (show f1 (nI j).toNatClampNeg = f1 j from by rw [nI_clamp (by omega)]) ?_
          have b_4 : df f1 j < 1000000000 := (hl1 j (by omega)).2
          refine g_eqi (show f1 j = nI (df f1 j) from (hl1 j (by omega)).1) ?_
          refine gs (pc' := 46) (fun _ _ _ _ _ hl => lv_aload_n hx hb d_Na_compare_45 rfl (lv_at hl 2 rfl)) ?_
          refine g_get hx hb hts hin_Na hown hK hh2 rfl 0 (by decide) (hts _ wm72) (fun _ h9 => h9) rfl d_Na_compare_46 ?_
          refine gs (pc' := 50) (fun _ _ _ _ _ hl => lv_iload_n hx hb d_Na_compare_49 rfl (lv_at hl 0 rfl)) ?_
          refine g_iald hx hb hK 0 ha2 rfl (show vp_in (nI j) cap2 from vp_in_nI (by omega) (by omega)) d_Na_compare_50 ?_
          refine g_eqi (show f2 (nI j).toNatClampNeg = f2 j from by rw [nI_clamp (by omega)]) ?_
          have b_5 : df f2 j < 1000000000 := (hl2 j (by omega)).2
          refine g_eqi (show f2 j = nI (df f2 j) from (hl2 j (by omega)).1) ?_
          refine gsb (pc1 := 75) (pc2 := 54) (fun _ _ _ _ _ => lv_icmp_eq (tgt := 75) hx hb d_Na_compare_51 (by decide)) (fun c_6 => ?_) (fun c_6 => ?_)
          · skip
            have nc_6 : (df f1 j) = (df f2 j) := (nn_eq (a := (df f1 j)) (b := (df f2 j)) (by omega) (by omega)).1 c_6
            refine gst (pc' := 78) (L' := [(2, .int (nI j + (-1))), (0, .ref h1), (1, .ref h2)]) (fun _ _ _ _ _ hl => lv_iinc (v := nI j + (-1)) hx hb d_Na_compare_75 hl (k := 0) rfl (rfl) (by decide) rfl) ?_
            refine gs (pc' := 35) (fun _ _ _ _ _ hl => lv_goto (tgt := 35) hx hb d_Na_compare_78 (by decide)) ?_
            refine gsub [0, 1, 2] rfl ?_
            exact ih (by omega) (fun x h1 h2 => by
                by_cases e : x = j
                · subst e; omega
                · exact hsame x (by omega) h2) _ (by rw [Int32.add_assoc]; exact Int32.add_zero _)
          · skip
            have nc_6 : (df f1 j) ≠ (df f2 j) := (nn_eq (a := (df f1 j)) (b := (df f2 j)) (by omega) (by omega)).2 c_6
            refine gs (pc' := 55) (fun _ _ _ _ _ hl => lv_aload_n hx hb d_Na_compare_54 rfl (lv_at hl 1 rfl)) ?_
            refine g_get hx hb hts hin_Na hown hK hh1 rfl 0 (by decide) (hts _ wm72) (fun _ h9 => h9) rfl d_Na_compare_55 ?_
            refine gs (pc' := 59) (fun _ _ _ _ _ hl => lv_iload_n hx hb d_Na_compare_58 rfl (lv_at hl 0 rfl)) ?_
            refine g_iald hx hb hK 0 ha1 rfl (show vp_in (nI j) cap1 from vp_in_nI (by omega) (by omega)) d_Na_compare_59 ?_
            refine g_eqi (show f1 (nI j).toNatClampNeg = f1 j from by rw [nI_clamp (by omega)]) ?_
            have b_7 : df f1 j < 1000000000 := (hl1 j (by omega)).2
            refine g_eqi (show f1 j = nI (df f1 j) from (hl1 j (by omega)).1) ?_
            refine gs (pc' := 61) (fun _ _ _ _ _ hl => lv_aload_n hx hb d_Na_compare_60 rfl (lv_at hl 2 rfl)) ?_
            refine g_get hx hb hts hin_Na hown hK hh2 rfl 0 (by decide) (hts _ wm72) (fun _ h9 => h9) rfl d_Na_compare_61 ?_
            refine gs (pc' := 65) (fun _ _ _ _ _ hl => lv_iload_n hx hb d_Na_compare_64 rfl (lv_at hl 0 rfl)) ?_
            refine g_iald hx hb hK 0 ha2 rfl (show vp_in (nI j) cap2 from vp_in_nI (by omega) (by omega)) d_Na_compare_65 ?_
            refine g_eqi (show f2 (nI j).toNatClampNeg = f2 j from by rw [nI_clamp (by omega)]) ?_
            have b_8 : df f2 j < 1000000000 := (hl2 j (by omega)).2
            refine g_eqi (show f2 j = nI (df f2 j) from (hl2 j (by omega)).1) ?_
            refine gsb (pc1 := 73) (pc2 := 69) (fun _ _ _ _ _ => lv_icmp_ge (tgt := 73) hx hb d_Na_compare_66 (by decide)) (fun c_9 => ?_) (fun c_9 => ?_)
            · skip
              have nc_9 : (df f1 j) ≥ (df f2 j) := (nn_ge (a := (df f1 j)) (b := (df f2 j)) (by omega) (by omega)).1 c_9
              refine gs (pc' := 74) (fun _ _ _ _ _ hl => lv_iconst (v := nI 1) hx hb d_Na_compare_73 (by decide)) ?_
              exact hret 74 _ _ _ _ d_Na_compare_74 hB1 hB2 ⟨rfl, Or.inr (Or.inr ⟨rfl, by rw [← hD1.2.2, ← hD2.2.2, ← hzz]; exact dv_cmp (lim_dok (by rw [hzz]; exact hl2)) (lim_dok hl1) (show j < z1 by omega) (fun x h1 h2 => (hsame x (by omega) h2).symm) (by omega)⟩)⟩
            · skip
              have nc_9 : (df f1 j) < (df f2 j) := (nn_ge (a := (df f1 j)) (b := (df f2 j)) (by omega) (by omega)).2 c_9
              refine gs (pc' := 70) (fun _ _ _ _ _ hl => lv_iconst (v := (-1)) hx hb d_Na_compare_69 (by decide)) ?_
              refine gs (pc' := 74) (fun _ _ _ _ _ hl => lv_goto (tgt := 74) hx hb d_Na_compare_70 (by decide)) ?_
              exact hret 74 _ _ _ _ d_Na_compare_74 hB1 hB2 ⟨rfl, Or.inl ⟨rfl, by rw [← hD1.2.2, ← hD2.2.2, ← hzz]; exact dv_cmp (lim_dok hl1) (lim_dok (by rw [hzz]; exact hl2)) (show j < z1 by omega) (fun x h1 h2 => hsame x (by omega) h2) (by omega)⟩⟩
    exact loop z1 (Nat.le_refl _) (fun x h1 h2 => absurd h1 (by omega)) _ (Int32.sub_add_cancel _ _)
  · skip
    have nc_1 : z1 ≠ z2 := (nn_eq (a := z1) (b := z2) (by omega) (by omega)).2 c_1
    refine gs (pc' := 12) (fun _ _ _ _ _ hl => lv_aload_n hx hb d_Na_compare_11 rfl (lv_at hl 0 rfl)) ?_
    refine g_get hx hb hts hin_Na hown hK hh1 rfl 1 (by decide) (hts _ wm75) (fun _ h9 => h9) rfl d_Na_compare_12 ?_
    refine gs (pc' := 16) (fun _ _ _ _ _ hl => lv_aload_n hx hb d_Na_compare_15 rfl (lv_at hl 1 rfl)) ?_
    refine g_get hx hb hts hin_Na hown hK hh2 rfl 1 (by decide) (hts _ wm75) (fun _ h9 => h9) rfl d_Na_compare_16 ?_
    refine gsb (pc1 := 26) (pc2 := 22) (fun _ _ _ _ _ => lv_icmp_ge (tgt := 26) hx hb d_Na_compare_19 (by decide)) (fun c_10 => ?_) (fun c_10 => ?_)
    · skip
      have nc_10 : z1 ≥ z2 := (nn_ge (a := z1) (b := z2) (by omega) (by omega)).1 c_10
      refine gs (pc' := 27) (fun _ _ _ _ _ hl => lv_iconst (v := nI 1) hx hb d_Na_compare_26 (by decide)) ?_
      exact hret 27 _ _ _ _ d_Na_compare_27 hB1 hB2 ⟨rfl, Or.inr (Or.inr ⟨rfl, by rw [← hD1.2.2, ← hD2.2.2]; exact dv_size (lim_dok hl2) (by omega) (by rcases hD1.2.1 with q | q; exact absurd q (by omega); exact q)⟩)⟩
    · skip
      have nc_10 : z1 < z2 := (nn_ge (a := z1) (b := z2) (by omega) (by omega)).2 c_10
      refine gs (pc' := 23) (fun _ _ _ _ _ hl => lv_iconst (v := (-1)) hx hb d_Na_compare_22 (by decide)) ?_
      refine gs (pc' := 27) (fun _ _ _ _ _ hl => lv_goto (tgt := 27) hx hb d_Na_compare_23 (by decide)) ?_
      exact hret 27 _ _ _ _ d_Na_compare_27 hB1 hB2 ⟨rfl, Or.inl ⟨rfl, by rw [← hD1.2.2, ← hD2.2.2]; exact dv_size (lim_dok hl1) (by omega) (by rcases hD2.2.1 with q | q; exact absurd q (by omega); exact q)⟩⟩
