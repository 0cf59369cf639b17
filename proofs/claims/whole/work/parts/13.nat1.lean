set_option maxHeartbeats 4000000 in
set_option maxRecDepth 100000 in
theorem c_Math_max (l : Launch) (D : va_G) (cA : Nat → ClassId) (lo MC MS : Nat) (G : gT) (B : Nat × Nat) (x y : Nat) (hn1 : x < 2 ^ 31) (hn2 : y < 2 ^ 31) (hB1 : B.1 ≤ MC) (hB2 : B.2 ≤ MS) : gMet l y_Math_max w_Math_max 0 0 D clS (gtys cA) lo MC MS [.int (nI x), .int (nI y)] G B (gQi D clS lo (fun r u => u = (G, B) ∧ r = nI (max x y))) := by
  refine g_meti (cc := prog_17_method_65_code) (nL := 2) (L := [(0, .int (nI x)), (1, .int (nI y))]) (by decide +kernel) rfl (Nat.le_of_ble_eq_true rfl) rfl ?_
  intro p e R s m args below meth c Q hF hRc hRs hRf hRl hret
  obtain ⟨hx, hb, hr, hml, hts0, hown, hlocks, hin, hK, hlo, hZ⟩ := hF
  have hts : ∀ w ∈ tbg, w.before args s = true := fun w h => hts0 w (List.mem_cons_of_mem _ h)
  refine gs (pc' := 1) (fun _ _ _ _ _ hl => lv_iload_n hx hb d_Math_max_0 rfl (lv_at hl 0 rfl)) ?_
  refine gs (pc' := 2) (fun _ _ _ _ _ hl => lv_iload_n hx hb d_Math_max_1 rfl (lv_at hl 1 rfl)) ?_
  refine gsb (pc1 := 9) (pc2 := 5) (fun _ _ _ _ _ => lv_icmp_lt (tgt := 9) hx hb d_Math_max_2 (by decide)) (fun c_1 => ?_) (fun c_1 => ?_)
  · skip
    have nc_1 : x < y := (nn_lt (a := x) (b := y) (by omega) (by omega)).1 c_1
    have hm : max x y = y := by omega
    refine gs (pc' := 10) (fun _ _ _ _ _ hl => lv_iload_n hx hb d_Math_max_9 rfl (lv_at hl 1 rfl)) ?_
    exact hret 10 _ _ _ _ d_Math_max_10 hB1 hB2 ⟨rfl, congrArg nI hm.symm⟩
  · skip
    have nc_1 : x ≥ y := (nn_lt (a := x) (b := y) (by omega) (by omega)).2 c_1
    have hm : max x y = x := by omega
    refine gs (pc' := 6) (fun _ _ _ _ _ hl => lv_iload_n hx hb d_Math_max_5 rfl (lv_at hl 0 rfl)) ?_
    refine gs (pc' := 10) (fun _ _ _ _ _ hl => lv_goto (tgt := 10) hx hb d_Math_max_6 (by decide)) ?_
    exact hret 10 _ _ _ _ d_Math_max_10 hB1 hB2 ⟨rfl, congrArg nI hm.symm⟩
set_option maxHeartbeats 4000000 in
set_option maxRecDepth 100000 in
theorem c_Math_min (l : Launch) (D : va_G) (cA : Nat → ClassId) (lo MC MS : Nat) (G : gT) (B : Nat × Nat) (x y : Nat) (hn1 : x < 2 ^ 31) (hn2 : y < 2 ^ 31) (hB1 : B.1 ≤ MC) (hB2 : B.2 ≤ MS) : gMet l y_Math_min w_Math_min 0 0 D clS (gtys cA) lo MC MS [.int (nI x), .int (nI y)] G B (gQi D clS lo (fun r u => u = (G, B) ∧ r = nI (min x y))) := by
  refine g_meti (cc := prog_17_method_69_code) (nL := 2) (L := [(0, .int (nI x)), (1, .int (nI y))]) (by decide +kernel) rfl (Nat.le_of_ble_eq_true rfl) rfl ?_
  intro p e R s m args below meth c Q hF hRc hRs hRf hRl hret
  obtain ⟨hx, hb, hr, hml, hts0, hown, hlocks, hin, hK, hlo, hZ⟩ := hF
  have hts : ∀ w ∈ tbg, w.before args s = true := fun w h => hts0 w (List.mem_cons_of_mem _ h)
  refine gs (pc' := 1) (fun _ _ _ _ _ hl => lv_iload_n hx hb d_Math_min_0 rfl (lv_at hl 0 rfl)) ?_
  refine gs (pc' := 2) (fun _ _ _ _ _ hl => lv_iload_n hx hb d_Math_min_1 rfl (lv_at hl 1 rfl)) ?_
  refine gsb (pc1 := 9) (pc2 := 5) (fun _ _ _ _ _ => lv_icmp_gt (tgt := 9) hx hb d_Math_min_2 (by decide)) (fun c_1 => ?_) (fun c_1 => ?_)
  · skip
    have nc_1 : x > y := (nn_gt (a := x) (b := y) (by omega) (by omega)).1 c_1
    have hm : min x y = y := by omega
    refine gs (pc' := 10) (fun _ _ _ _ _ hl => lv_iload_n hx hb d_Math_min_9 rfl (lv_at hl 1 rfl)) ?_
    exact hret 10 _ _ _ _ d_Math_min_10 hB1 hB2 ⟨rfl, congrArg nI hm.symm⟩
  · skip
    have nc_1 : x ≤ y := (nn_gt (a := x) (b := y) (by omega) (by omega)).2 c_1
    have hm : min x y = x := by omega
    refine gs (pc' := 6) (fun _ _ _ _ _ hl => lv_iload_n hx hb d_Math_min_5 rfl (lv_at hl 0 rfl)) ?_
    refine gs (pc' := 10) (fun _ _ _ _ _ hl => lv_goto (tgt := 10) hx hb d_Math_min_6 (by decide)) ?_
    exact hret 10 _ _ _ _ d_Math_min_10 hB1 hB2 ⟨rfl, congrArg nI hm.symm⟩
set_option maxHeartbeats 4000000 in
set_option maxRecDepth 100000 in
/-- Arrays.copyOf to a longer array -/
theorem c_Arr_copyOf (l : Launch) (D : va_G) (cA : Nat → ClassId) (lo MC MS : Nat) (G : gT) (B : Nat × Nat) (t a cap k : Nat) (f : Nat → Int32) (ha : G a = some (t, .inl (cA 0, cap, .inl f))) (hk : cap < k) (hk2 : k ≤ 100000) (hC : B.1 + 1 ≤ MC) (hS : B.2 + k ≤ MS) (hB1 : B.1 ≤ MC) (hB2 : B.2 ≤ MS) : gMet l y_Arr_copyOf w_Arr_copyOf 1 40 D clS (gtys cA) lo MC MS [.ref a, .int (nI k)] G B (gQr D clS lo (fun r u => G r = none ∧ u.1 r = some (t, .inl (cA 0, k, .inl (va_cpy f (fun _ => 0) 0 0 cap))) ∧ (∀ x, x ≠ r → u.1 x = G x) ∧ u.2 = (B.1 + 1, B.2 + k))) := by
  refine g_metr (cc := prog_22_method_123_code) (nL := 3) (L := [(0, .ref a), (1, .int (nI k))]) (rt := ((.array .int))) (by first | exact Or.inl ⟨_, rfl⟩ | exact Or.inr ⟨_, rfl⟩) (by decide +kernel) rfl (Nat.le_of_ble_eq_true rfl) rfl ?_
  intro p e R s m args below meth c Q hF hRc hRs hRf hRl hret
  obtain ⟨hx, hb, hr, hml, hts0, hown, hlocks, hin, hK, hlo, hZ⟩ := hF
  have hts : ∀ w ∈ tbg, w.before args s = true := fun w h => hts0 w (List.mem_cons_of_mem _ h)
  refine gs (pc' := 1) (fun _ _ _ _ _ hl => lv_iload_n hx hb d_Arr_copyOf_0 rfl (lv_at hl 1 rfl)) ?_
  refine gs (pc' := 2) (fun _ _ _ _ _ hl => lv_aload_n hx hb d_Arr_copyOf_1 rfl (lv_at hl 0 rfl)) ?_
  refine g_alen hx hb hK 0 ha rfl d_Arr_copyOf_2 ?_
  refine gsb (pc1 := 14) (pc2 := 6) (fun _ _ _ _ _ => lv_icmp_ne (tgt := 14) hx hb d_Arr_copyOf_3 (by decide)) (fun c_1 => ?_) (fun c_1 => ?_)
  · skip
    have nc_1 : k ≠ cap := (nn_ne (a := k) (b := cap) (by omega) (by omega)).1 c_1
    refine gs (pc' := 15) (fun _ _ _ _ _ hl => lv_iload_n hx hb d_Arr_copyOf_14 rfl (lv_at hl 1 rfl)) ?_
    refine g_newa (atype := .int) hx hb (hts _ wm49) hK 0 rfl (fun C h => by cases h) (a0 := (k, .inl (fun _ => 0))) (fun _ => rfl) (nI_pos (by omega)) (nI_clamp (by omega)) (by show k * 4 ≤ 536870912; omega) hlo hRc hRs (hC) (hS) d_Arr_copyOf_15 t (fun q_2 G_3 z_4 f_5 o_6 => ?_)
    have f_7 : G_3 a = some (t, .inl (cA 0, cap, .inl f)) := (o_6 _ (fun e => by subst e; rw [ha] at z_4; cases z_4)).trans ha
    refine gst (pc' := 18) (L' := [(2, .ref q_2), (0, .ref a), (1, .int (nI k))]) (fun _ _ _ _ _ hl => lv_astore_n hx hb d_Arr_copyOf_17 rfl hl (by decide) rfl) ?_
    refine gs (pc' := 19) (fun _ _ _ _ _ hl => lv_aload_n hx hb d_Arr_copyOf_18 rfl (lv_at hl 1 rfl)) ?_
    refine gs (pc' := 20) (fun _ _ _ _ _ hl => lv_iconst (v := nI 0) hx hb d_Arr_copyOf_19 (by decide)) ?_
    refine gs (pc' := 21) (fun _ _ _ _ _ hl => lv_aload_n hx hb d_Arr_copyOf_20 rfl (lv_at hl 0 rfl)) ?_
    refine gs (pc' := 22) (fun _ _ _ _ _ hl => lv_iconst (v := nI 0) hx hb d_Arr_copyOf_21 (by decide)) ?_
    refine gs (pc' := 23) (fun _ _ _ _ _ hl => lv_aload_n hx hb d_Arr_copyOf_22 rfl (lv_at hl 1 rfl)) ?_
    refine g_alen hx hb hK 0 f_7 rfl d_Arr_copyOf_23 ?_
    refine gs (pc' := 25) (fun _ _ _ _ _ hl => lv_iload_n hx hb d_Arr_copyOf_24 rfl (lv_at hl 2 rfl)) ?_
    refine g_outi hlo (g_runS (As := [.int (nI cap), .int (nI k)]) (rest := [.int (nI 0), .ref q_2, .int (nI 0), .ref a]) ⟨hx, hb, hml, hown, hts⟩ hK hZ hRc hRs (c_Math_min l D cA lo MC MS G_3 (B.1 + 1, B.2 + k) cap k (by omega) (by omega) hC hS) (fun _ _ => va_cwS 2 hts (tb_good (tb_cons wm202 (tb_cons wm203 (tb_cons wm6 k_Math_min)))) rfl rfl rfl (by decide +kernel) ⟨by rw [hRf]; exact Nat.le_of_ble_eq_true rfl, by rw [hRl]; exact Nat.le_of_ble_eq_true rfl⟩) hC hS rfl (Nat.le_of_ble_eq_true rfl) d_Arr_copyOf_25) (fun r_11 G_8 B_9 p_10 => ?_)
    obtain ⟨hu, hr1⟩ := p_10
    cases hu
    subst hr1
    have hmn : min cap k = cap := by omega
    refine g_copyi hx hb hml hown (hts _ wm205) (hts _ wm207) (hts _ wm206) (hts _ wm10) hK 0 f_7 f_5 rfl (by decide) (by decide) (nI_pos (by omega)) (by rw [nI_cl0, nI_clamp (by omega)]; omega) (by rw [nI_cl0, nI_clamp (by omega)]; omega) (by rw [hRf]; exact Nat.le_of_ble_eq_true rfl) (by rw [hRl]; decide) d_Arr_copyOf_28 (fun G_12 f_13 o_14 => ?_)
    rw [nI_cl0, nI_clamp (by omega), hmn] at f_13
    have f_15 : G_12 a = some (t, .inl (cA 0, cap, .inl f)) := (o_14 _ (gne f_7 f_5 (fun e => absurd (congrArg (fun z => match z with | (_, .inl (_, n, _)) => n | _ => 0) e) (by simp; omega)))).trans f_7
    refine gs (pc' := 32) (fun _ _ _ _ _ hl => lv_aload_n hx hb d_Arr_copyOf_31 rfl (lv_at hl 0 rfl)) ?_
    exact hret 32 _ _ _ _ d_Arr_copyOf_32 hC hS ⟨z_4, f_13, fun x hxq => (o_14 x hxq).trans (o_6 x hxq), rfl⟩
  · skip
    have nc_1 : k = cap := (nn_ne (a := k) (b := cap) (by omega) (by omega)).2 c_1
    exact absurd nc_1 (by omega)
set_option maxHeartbeats 4000000 in
set_option maxRecDepth 100000 in
/-- grow(k): room for k limbs -/
theorem c_Na_grow (l : Launch) (D : va_G) (cA : Nat → ClassId) (lo MC MS : Nat) (G : gT) (B : Nat × Nat) (t h a cap k : Nat) (zv : Int32) (f : Nat → Int32) (hh : G h = some (t, .inr (4, [.ref a, .int zv]))) (ha : G a = some (t, .inl (cA 0, cap, .inl f))) (hk : k ≤ 50000) (hcap : cap ≤ 50000) (hC : B.1 + (gcap cap k - cap) ≤ MC) (hS : B.2 + 2 * (gcap cap k - cap) ≤ MS) (hB1 : B.1 ≤ MC) (hB2 : B.2 ≤ MS) : gMet l y_Na_grow w_Na_grow 2 62 D clS (gtys cA) lo MC MS [.ref h, .int (nI k)] G B (gQv D clS lo (fun u => ∃ (a2 : Nat) (f2 : Nat → Int32), u.1 h = some (t, .inr (4, [.ref a2, .int zv])) ∧ u.1 a2 = some (t, .inl (cA 0, gcap cap k, .inl f2)) ∧ (∀ i, i < cap → f2 i = f i) ∧ gfr (fun x => x = t) G u.1 ∧ u.2.1 + cap ≤ B.1 + gcap cap k ∧ u.2.2 + 2 * cap ≤ B.2 + 2 * gcap cap k)) := by
  refine g_metv (cc := prog_6_method_2_code) (nL := 2) (L := [(0, .ref h), (1, .int (nI k))]) (by decide +kernel) rfl (Nat.le_of_ble_eq_true rfl) rfl ?_
  intro p e R s m args below meth c Q hF hRc hRs hRf hRl hret
  obtain ⟨hx, hb, hr, hml, hts0, hown, hlocks, hin, hK, hlo, hZ⟩ := hF
  have hts : ∀ w ∈ tbg, w.before args s = true := fun w h => hts0 w (List.mem_cons_of_mem _ h)
  refine gs (pc' := 1) (fun _ _ _ _ _ hl => lv_iload_n hx hb d_Na_grow_0 rfl (lv_at hl 1 rfl)) ?_
  refine gs (pc' := 2) (fun _ _ _ _ _ hl => lv_aload_n hx hb d_Na_grow_1 rfl (lv_at hl 0 rfl)) ?_
  refine g_get hx hb hts hin_Na hown hK hh rfl 0 (by decide) (hts _ wm72) (fun _ h9 => h9) rfl d_Na_grow_2 ?_
  refine g_alen hx hb hK 0 ha rfl d_Na_grow_5 ?_
  refine gsb (pc1 := 31) (pc2 := 9) (fun _ _ _ _ _ => lv_icmp_le (tgt := 31) hx hb d_Na_grow_6 (by decide)) (fun c_1 => ?_) (fun c_1 => ?_)
  · skip
    have nc_1 : k ≤ cap := (nn_le (a := k) (b := cap) (by omega) (by omega)).1 c_1
    have hle : k ≤ cap := nc_1
    exact hret 31 _ _ _ d_Na_grow_31 hB1 hB2 ⟨a, f, hh, by rw [gcap_no hle]; exact ha, fun _ _ => rfl, gfr_rf, by rw [gcap_no hle]; exact Nat.le_refl _, by rw [gcap_no hle]; exact Nat.le_refl _⟩
  · skip
    have nc_1 : k > cap := (nn_le (a := k) (b := cap) (by omega) (by omega)).2 c_1
    have hlt : cap < k := nc_1
    have hgc : gcap cap k = max k (2 * cap) := gcap_yes hlt
    rw [hgc] at hC hS
    refine gs (pc' := 10) (fun _ _ _ _ _ hl => lv_aload_n hx hb d_Na_grow_9 rfl (lv_at hl 0 rfl)) ?_
    refine gs (pc' := 11) (fun _ _ _ _ _ hl => lv_aload_n hx hb d_Na_grow_10 rfl (lv_at hl 0 rfl)) ?_
    refine g_get hx hb hts hin_Na hown hK hh rfl 0 (by decide) (hts _ wm72) (fun _ h9 => h9) rfl d_Na_grow_11 ?_
    refine gs (pc' := 15) (fun _ _ _ _ _ hl => lv_iload_n hx hb d_Na_grow_14 rfl (lv_at hl 1 rfl)) ?_
    refine gs (pc' := 16) (fun _ _ _ _ _ hl => lv_iconst (v := nI 2) hx hb d_Na_grow_15 (by decide)) ?_
    refine gs (pc' := 17) (fun _ _ _ _ _ hl => lv_aload_n hx hb d_Na_grow_16 rfl (lv_at hl 0 rfl)) ?_
    refine g_get hx hb hts hin_Na hown hK hh rfl 0 (by decide) (hts _ wm72) (fun _ h9 => h9) rfl d_Na_grow_17 ?_
    refine g_alen hx hb hK 0 ha rfl d_Na_grow_20 ?_
    refine gs (pc' := 22) (fun _ _ _ _ _ hl => lv_imul hx hb d_Na_grow_21) ?_
    refine g_eqi (show (nI 2) * (nI cap) = nI (2 * cap) from pk_mul _ _) ?_
    refine g_outi hlo (g_runS (As := [.int (nI k), .int (nI (2 * cap))]) (rest := [.ref a, .ref h]) ⟨hx, hb, hml, hown, hts⟩ hK hZ hRc hRs (c_Math_max l D cA lo MC MS G B k (2 * cap) (by omega) (by omega) hB1 hB2) (fun _ _ => va_cwS 2 hts (tb_good (tb_cons wm69 (tb_cons wm70 (tb_cons wm6 k_Math_max)))) rfl rfl rfl (by decide +kernel) ⟨by rw [hRf]; exact Nat.le_of_ble_eq_true rfl, by rw [hRl]; exact Nat.le_of_ble_eq_true rfl⟩) hB1 hB2 rfl (Nat.le_of_ble_eq_true rfl) d_Na_grow_22) (fun r_5 G_2 B_3 p_4 => ?_)
    obtain ⟨hu, hr1⟩ := p_4
    cases hu
    subst hr1
    refine g_outr hlo (g_runS (As := [.ref a, .int (nI (max k (2 * cap)))]) (rest := [.ref h]) ⟨hx, hb, hml, hown, hts⟩ hK hZ hRc hRs (c_Arr_copyOf l D cA lo MC MS G B t a cap (max k (2 * cap)) f ha (by omega) (by omega) (by omega) (by omega) hB1 hB2) (fun _ _ => va_cwS 2 hts (tb_good (tb_cons wm192 (tb_cons wm193 (tb_cons wm9 k_Arr_copyOf)))) rfl rfl rfl (by decide +kernel) ⟨by rw [hRf]; exact Nat.le_of_ble_eq_true rfl, by rw [hRl]; exact Nat.le_of_ble_eq_true rfl⟩) hB1 hB2 rfl (Nat.le_of_ble_eq_true rfl) d_Na_grow_25) (fun r_9 G_6 B_7 p_8 => ?_)
    obtain ⟨z_10, f_11, o_12, hBn⟩ := p_8
    have hBn : B_7 = (B.1 + 1, B.2 + (max k (2 * cap))) := hBn
    have f_11 : G_6 r_9 = some (t, .inl (cA 0, (max k (2 * cap)), .inl (va_cpy f (fun _ => 0) 0 0 cap))) := f_11
    subst hBn
    have f_13 : G_6 h = some (t, .inr (4, [.ref a, .int zv])) := (o_12 _ (fun e => by subst e; rw [hh] at z_10; cases z_10)).trans hh
    have f_14 : G_6 a = some (t, .inl (cA 0, cap, .inl f)) := (o_12 _ (fun e => by subst e; rw [ha] at z_10; cases z_10)).trans ha
    refine g_put (ty := .array .int) hx hb hts hin_Na ty_Na ty_Na_ok nm_Na hown hK f_13 rfl 0 (by decide) (hts _ wm72) (fun _ h9 => h9) rfl (by decide +kernel) rfl rfl (Nat.le_of_ble_eq_true rfl) d_Na_grow_28 (fun G_15 f_16 o_17 => ?_)
    have f_18 : G_15 h = some (t, .inr (4, [.ref r_9, .int zv])) := f_16
    have f_19 : G_15 a = some (t, .inl (cA 0, cap, .inl f)) := (o_17 _ (gne f_14 f_13 (fun e => by cases e))).trans f_14
    have f_20 : G_15 r_9 = some (t, .inl (cA 0, (max k (2 * cap)), .inl (va_cpy f (fun _ => 0) 0 0 cap))) := (o_17 _ (gne f_11 f_13 (fun e => by cases e))).trans f_11
    exact hret 31 _ _ _ d_Na_grow_31 (show B.1 + 1 ≤ MC by omega) (show B.2 + (max k (2 * cap)) ≤ MS by omega) ⟨r_9, _, f_18, by rw [hgc]; exact f_20, fun i hi => cpy_in hi, gfr_put (gfr_new gfr_rf z_10 o_12) f_13 rfl o_17, by rw [hgc]; show B.1 + 1 + cap ≤ _; omega, by rw [hgc]; show B.2 + max k (2 * cap) + 2 * cap ≤ _; omega⟩
set_option maxHeartbeats 4000000 in
set_option maxRecDepth 100000 in
/-- limb(i): the limb, or 0 beyond the size -/
theorem c_Na_limb (l : Launch) (D : va_G) (cA : Nat → ClassId) (lo MC MS : Nat) (G : gT) (B : Nat × Nat) (t h a z cap : Nat) (f : Nat → Int32) (hh : G h = some (t, .inr (4, [.ref a, .int (nI z)]))) (ha : G a = some (t, .inl (cA 0, cap, .inl f))) (hz : z ≤ cap) (hc : cap < 2 ^ 31) (i : Int32) (hB1 : B.1 ≤ MC) (hB2 : B.2 ≤ MS) : gMet l y_Na_limb w_Na_limb 0 0 D clS (gtys cA) lo MC MS [.ref h, .int i] G B (gQi D clS lo (fun r u => u = (G, B) ∧ r = if 0 ≤ i.toInt ∧ i.toInt < z then f i.toInt.toNat else 0)) := by
  refine g_meti (cc := prog_6_method_5_code) (nL := 2) (L := [(0, .ref h), (1, .int i)]) (by decide +kernel) rfl (Nat.le_of_ble_eq_true rfl) rfl ?_
  intro p e R s m args below meth c Q hF hRc hRs hRf hRl hret
  obtain ⟨hx, hb, hr, hml, hts0, hown, hlocks, hin, hK, hlo, hZ⟩ := hF
  have hts : ∀ w ∈ tbg, w.before args s = true := fun w h => hts0 w (List.mem_cons_of_mem _ h)
  refine gs (pc' := 1) (fun _ _ _ _ _ hl => lv_iload_n hx hb d_Na_limb_0 rfl (lv_at hl 1 rfl)) ?_
  refine gsb (pc1 := 21) (pc2 := 4) (fun _ _ _ _ _ => lv_if_lt (tgt := 21) hx hb d_Na_limb_1 (by decide)) (fun c_1 => ?_) (fun c_1 => ?_)
  · skip
    have hm : i.toInt < 0 := by simpa using Int32.lt_iff_toInt_lt.mp c_1
    refine gs (pc' := 22) (fun _ _ _ _ _ hl => lv_iconst (v := nI 0) hx hb d_Na_limb_21 (by decide)) ?_
    exact hret 22 _ _ _ _ d_Na_limb_22 hB1 hB2 ⟨rfl, by rw [if_neg (by omega)]; rfl⟩
  · skip
    obtain ⟨j, hj, ej⟩ := nI_of c_1
    subst ej
    refine gs (pc' := 5) (fun _ _ _ _ _ hl => lv_iload_n hx hb d_Na_limb_4 rfl (lv_at hl 1 rfl)) ?_
    refine gs (pc' := 6) (fun _ _ _ _ _ hl => lv_aload_n hx hb d_Na_limb_5 rfl (lv_at hl 0 rfl)) ?_
    refine g_get hx hb hts hin_Na hown hK hh rfl 1 (by decide) (hts _ wm75) (fun _ h9 => h9) rfl d_Na_limb_6 ?_
    refine gsb (pc1 := 21) (pc2 := 12) (fun _ _ _ _ _ => lv_icmp_ge (tgt := 21) hx hb d_Na_limb_9 (by decide)) (fun c_2 => ?_) (fun c_2 => ?_)
    · skip
      have nc_2 : j ≥ z := (nn_ge (a := j) (b := z) (by omega) (by omega)).1 c_2
      have hm : z ≤ j := nc_2
      refine gs (pc' := 22) (fun _ _ _ _ _ hl => lv_iconst (v := nI 0) hx hb d_Na_limb_21 (by decide)) ?_
      exact hret 22 _ _ _ _ d_Na_limb_22 hB1 hB2 ⟨rfl, by rw [nI_toInt hj, if_neg (by omega)]; rfl⟩
    · skip
      have nc_2 : j < z := (nn_ge (a := j) (b := z) (by omega) (by omega)).2 c_2
      have hm : j < z := nc_2
      refine gs (pc' := 13) (fun _ _ _ _ _ hl => lv_aload_n hx hb d_Na_limb_12 rfl (lv_at hl 0 rfl)) ?_
      refine g_get hx hb hts hin_Na hown hK hh rfl 0 (by decide) (hts _ wm72) (fun _ h9 => h9) rfl d_Na_limb_13 ?_
      refine gs (pc' := 17) (fun _ _ _ _ _ hl => lv_iload_n hx hb d_Na_limb_16 rfl (lv_at hl 1 rfl)) ?_
      refine g_iald hx hb hK 0 ha rfl (show vp_in (nI j) cap from vp_in_nI (by omega) (by omega)) d_Na_limb_17 ?_
      refine g_eqi (show f (nI j).toNatClampNeg = f j from by rw [nI_clamp (by omega)]) ?_
      refine gs (pc' := 22) (fun _ _ _ _ _ hl => lv_goto (tgt := 22) hx hb d_Na_limb_18 (by decide)) ?_
      exact hret 22 _ _ _ _ d_Na_limb_22 hB1 hB2 ⟨rfl, by rw [nI_toInt hj, if_pos (by omega)]; rfl⟩
set_option maxHeartbeats 4000000 in
set_option maxRecDepth 100000 in
/-- trim(): no limb 0 on top -/
theorem c_Na_trim (l : Launch) (D : va_G) (cA : Nat → ClassId) (lo MC MS : Nat) (G : gT) (B : Nat × Nat) (t h a z cap : Nat) (f : Nat → Int32) (hh : G h = some (t, .inr (4, [.ref a, .int (nI z)]))) (ha : G a = some (t, .inl (cA 0, cap, .inl f))) (hz : z ≤ cap) (hc : cap < 2 ^ 31) (hl : lim f z) (hB1 : B.1 ≤ MC) (hB2 : B.2 ≤ MS) : gMet l y_Na_trim w_Na_trim 0 0 D clS (gtys cA) lo MC MS [.ref h] G B (gQv D clS lo (fun u => u.2 = B ∧ ∃ z2, z2 ≤ z ∧ dtop (df f) z2 ∧ dv (df f) z2 = dv (df f) z ∧ u.1 h = some (t, .inr (4, [.ref a, .int (nI z2)])) ∧ ∀ q, q ≠ h → u.1 q = G q)) := by
  refine g_metv (cc := prog_6_method_4_code) (nL := 1) (L := [(0, .ref h)]) (by decide +kernel) rfl (Nat.le_of_ble_eq_true rfl) rfl ?_
  intro p e R s m args below meth c Q hF hRc hRs hRf hRl hret
  obtain ⟨hx, hb, hr, hml, hts0, hown, hlocks, hin, hK, hlo, hZ⟩ := hF
  have hts : ∀ w ∈ tbg, w.before args s = true := fun w h => hts0 w (List.mem_cons_of_mem _ h)
  have loop : ∀ (z1 : Nat) (G1 : gT), z1 ≤ z → dv (df f) z1 = dv (df f) z → G1 h = some (t, .inr (4, [.ref a, .int (nI z1)])) → G1 a = some (t, .inl (cA 0, cap, .inl f)) → (∀ q, q ≠ h → G1 q = G q) → gV p l e R s m args below meth c D clS lo 1 Q 0 [(0, .ref h)] [] G1 B := by
    intro z1
    induction z1 with
    | zero =>
      intro G1 hz1 hd hh1 ha1 hfr
      refine gs (pc' := 1) (fun _ _ _ _ _ hl => lv_aload_n hx hb d_Na_trim_0 rfl (lv_at hl 0 rfl)) ?_
      refine g_get hx hb hts hin_Na hown hK hh1 rfl 1 (by decide) (hts _ wm75) (fun _ h9 => h9) rfl d_Na_trim_1 ?_
      refine gsb (pc1 := 34) (pc2 := 7) (fun _ _ _ _ _ => lv_if_le (tgt := 34) hx hb d_Na_trim_4 (by decide)) (fun c_1 => ?_) (fun c_1 => ?_)
      · skip
        have nc_1 : 0 ≤ 0 := (n0_le (a := 0) (by omega)).1 c_1
        exact hret 34 _ _ _ d_Na_trim_34 hB1 hB2 ⟨rfl, 0, hz1, Or.inl rfl, hd, hh1, hfr⟩
      · skip
        have nc_1 : 0 > 0 := (n0_le (a := 0) (by omega)).2 c_1
        exact absurd nc_1 (by omega)
    | succ k ih =>
      intro G1 hz1 hd hh1 ha1 hfr
      refine gs (pc' := 1) (fun _ _ _ _ _ hl => lv_aload_n hx hb d_Na_trim_0 rfl (lv_at hl 0 rfl)) ?_
      refine g_get hx hb hts hin_Na hown hK hh1 rfl 1 (by decide) (hts _ wm75) (fun _ h9 => h9) rfl d_Na_trim_1 ?_
      refine gsb (pc1 := 34) (pc2 := 7) (fun _ _ _ _ _ => lv_if_le (tgt := 34) hx hb d_Na_trim_4 (by decide)) (fun c_2 => ?_) (fun c_2 => ?_)
      · skip
        have nc_2 : (k + 1) ≤ 0 := (n0_le (a := (k + 1)) (by omega)).1 c_2
        exact absurd nc_2 (by omega)
      · skip
        have nc_2 : (k + 1) > 0 := (n0_le (a := (k + 1)) (by omega)).2 c_2
        refine gs (pc' := 8) (fun _ _ _ _ _ hl => lv_aload_n hx hb d_Na_trim_7 rfl (lv_at hl 0 rfl)) ?_
        refine g_get hx hb hts hin_Na hown hK hh1 rfl 0 (by decide) (hts _ wm72) (fun _ h9 => h9) rfl d_Na_trim_8 ?_
        refine gs (pc' := 12) (fun _ _ _ _ _ hl => lv_aload_n hx hb d_Na_trim_11 rfl (lv_at hl 0 rfl)) ?_
        refine g_get hx hb hts hin_Na hown hK hh1 rfl 1 (by decide) (hts _ wm75) (fun _ h9 => h9) rfl d_Na_trim_12 ?_
        refine gs (pc' := 16) (fun _ _ _ _ _ hl => lv_iconst (v := nI 1) hx hb d_Na_trim_15 (by decide)) ?_
        refine gs (pc' := 17) (fun _ _ _ _ _ hl => lv_isub hx hb d_Na_trim_16) ?_
        refine g_eqi (show (nI (k + 1)) - (nI 1) = nI k from (pk_sub (by omega)).trans (congrArg nI (show (k + 1) - 1 = k by omega))) ?_
        refine g_iald hx hb hK 0 ha1 rfl (show vp_in (nI k) cap from vp_in_nI (by omega) (by omega)) d_Na_trim_17 ?_
        refine g_eqi (show f (nI k).toNatClampNeg = f k from by rw [nI_clamp (by omega)]) ?_
        have b_3 : df f k < 1000000000 := (hl k (by omega)).2
        refine g_eqi (show f k = nI (df f k) from (hl k (by omega)).1) ?_
        refine gsb (pc1 := 34) (pc2 := 21) (fun _ _ _ _ _ => lv_if_ne (tgt := 34) hx hb d_Na_trim_18 (by decide)) (fun c_4 => ?_) (fun c_4 => ?_)
        · skip
          have nc_4 : (df f k) ≠ 0 := (n0_ne (a := (df f k)) (by omega)).1 c_4
          have hne : df f k ≠ 0 := nc_4
          exact hret 34 _ _ _ d_Na_trim_34 hB1 hB2 ⟨rfl, k + 1, hz1, Or.inr hne, hd, hh1, hfr⟩
        · skip
          have nc_4 : (df f k) = 0 := (n0_ne (a := (df f k)) (by omega)).2 c_4
          have he0 : df f k = 0 := nc_4
          refine gs (pc' := 22) (fun _ _ _ _ _ hl => lv_aload_n hx hb d_Na_trim_21 rfl (lv_at hl 0 rfl)) ?_
          refine gs (pc' := 23) (fun _ _ _ _ _ hl => lv_dup hx hb d_Na_trim_22 rfl) ?_
          refine g_get hx hb hts hin_Na hown hK hh1 rfl 1 (by decide) (hts _ wm75) (fun _ h9 => h9) rfl d_Na_trim_23 ?_
          refine gs (pc' := 27) (fun _ _ _ _ _ hl => lv_iconst (v := nI 1) hx hb d_Na_trim_26 (by decide)) ?_
          refine gs (pc' := 28) (fun _ _ _ _ _ hl => lv_isub hx hb d_Na_trim_27) ?_
          refine g_eqi (show (nI (k + 1)) - (nI 1) = nI k from (pk_sub (by omega)).trans (congrArg nI (show (k + 1) - 1 = k by omega))) ?_
          refine g_put (ty := .int) hx hb hts hin_Na ty_Na ty_Na_ok nm_Na hown hK hh1 rfl 1 (by decide) (hts _ wm75) (fun _ h9 => h9) rfl (by decide +kernel) rfl rfl (Nat.le_of_ble_eq_true rfl) d_Na_trim_28 (fun G_5 f_6 o_7 => ?_)
          have f_8 : G_5 h = some (t, .inr (4, [.ref a, .int (nI k)])) := f_6
          have f_9 : G_5 a = some (t, .inl (cA 0, cap, .inl f)) := (o_7 _ (gne ha1 hh1 (fun e => by cases e))).trans ha1
          refine gs (pc' := 0) (fun _ _ _ _ _ hl => lv_goto (tgt := 0) hx hb d_Na_trim_31 (by decide)) ?_
          exact ih G_5 (by omega) (by rw [← hd, dv_s, he0]; simp) f_8 f_9 (fun q hq => (o_7 q hq).trans (hfr q hq))
  exact loop z G (Nat.le_refl _) rfl hh ha (fun _ _ => rfl)
