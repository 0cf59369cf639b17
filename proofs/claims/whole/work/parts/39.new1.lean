set_option maxHeartbeats 4000000 in
set_option maxRecDepth 100000 in
theorem c_Na_init (l : Launch) (D : va_G) (cA : Nat → ClassId) (lo MC MS : Nat) (G : gT) (B : Nat × Nat) (t h room : Nat) (hh : G h = some (t, .inr (4, [.null, .int (nI 0)]))) (hro : room ≤ 100000) (hC : B.1 + 1 ≤ MC) (hS : B.2 + room ≤ MS) (hB1 : B.1 ≤ MC) (hB2 : B.2 ≤ MS) : gMet l y_Na_init w_Na_init 1 21 D clS (gtys cA) lo MC MS [.ref h, .int (nI room)] G B (gQv D clS lo (fun u => ∃ a, G a = none ∧ u.1 h = some (t, .inr (4, [.ref a, .int (nI 0)])) ∧ u.1 a = some (t, .inl (cA 0, room, .inl (fun _ => 0))) ∧ gex (fun x => x = h) G u.1 ∧ u.2 = (B.1 + 1, B.2 + room))) := by
  refine g_metv (cc := prog_6_method_1_code) (nL := 2) (L := [(0, .ref h), (1, .int (nI room))]) (by decide +kernel) rfl (Nat.le_of_ble_eq_true rfl) rfl ?_
  intro p e R s m args below meth c Q hF hRc hRs hRf hRl hret
  obtain ⟨hx, hb, hr, hml, hts0, hown, hlocks, hin, hK, hlo, hZ⟩ := hF
  have hts : ∀ w ∈ tbg, w.before args s = true := fun w h => hts0 w (List.mem_cons_of_mem _ h)
  have hE : gex (fun x => x = h) G G := gex_rf
  refine gs (pc' := 1) (fun _ _ _ _ _ hl => lv_aload_n hx hb d_Na_init_0 rfl (lv_at hl 0 rfl)) ?_
  refine gs (pc' := 4) (st' := []) (fun _ _ _ _ _ hl => fun kk => W.objInit (g := F0 m 1 _ (.ref h :: [])) hx hb hown (hts _ wm68) (hts _ wm26) (hts _ wm27) rfl (by rw [hml]; exact hl.1) rfl d_Na_init_1 (by rw [hRf]; exact Nat.le_of_ble_eq_true rfl) (by rw [hRl]; exact Nat.le_of_ble_eq_true rfl) kk) ?_
  refine gs (pc' := 5) (fun _ _ _ _ _ hl => lv_aload_n hx hb d_Na_init_4 rfl (lv_at hl 0 rfl)) ?_
  refine gs (pc' := 6) (fun _ _ _ _ _ hl => lv_iconst (v := nI 0) hx hb d_Na_init_5 (by decide)) ?_
  refine g_put (ty := .int) hx hb hts hin_Na ty_Na ty_Na_ok nm_Na hown hK hh rfl 1 (by decide) (hts _ wm75) (fun _ h9 => h9) rfl (by decide +kernel) rfl rfl (Nat.le_of_ble_eq_true rfl) d_Na_init_6 (fun G_1 f_2 o_3 => ?_)
  have f_4 : G_1 h = some (t, .inr (4, [.null, .int (nI 0)])) := f_2
  have x_5 : gex (fun x => x = h) G G_1 := gex_put hE o_3 (Or.inl rfl)
  refine gs (pc' := 10) (fun _ _ _ _ _ hl => lv_aload_n hx hb d_Na_init_9 rfl (lv_at hl 0 rfl)) ?_
  refine gs (pc' := 11) (fun _ _ _ _ _ hl => lv_iload_n hx hb d_Na_init_10 rfl (lv_at hl 1 rfl)) ?_
  refine gs (pc' := 12) (fun _ _ _ _ _ hl => lv_iconst (v := nI 0) hx hb d_Na_init_11 (by decide)) ?_
  refine g_outi hlo (g_runS (As := [.int (nI room), .int (nI 0)]) (rest := [.ref h]) ⟨hx, hb, hml, hown, hts⟩ hK hZ hRc hRs (c_Math_max l D cA lo MC MS G_1 B room 0 (by omega) (by omega) hB1 hB2) (fun _ _ => va_cwS 2 hts (tb_good (tb_cons wm69 (tb_cons wm70 (tb_cons wm6 k_Math_max)))) rfl rfl rfl (by decide +kernel) ⟨by rw [hRf]; exact Nat.le_of_ble_eq_true rfl, by rw [hRl]; exact Nat.le_of_ble_eq_true rfl⟩) hB1 hB2 rfl (Nat.le_of_ble_eq_true rfl) d_Na_init_12) (fun r_9 G_6 B_7 p_8 => ?_)
  obtain ⟨hu, hr1⟩ := p_8
  cases hu
  subst hr1
  refine g_eqi (show nI (max room 0) = nI room from congrArg nI (by omega)) ?_
  refine g_newa (atype := .int) hx hb (hts _ wm49) hK 0 rfl (fun C h => by cases h) (a0 := (room, .inl (fun _ => 0))) (fun _ => rfl) (nI_pos (by omega)) (nI_clamp (by omega)) (by show room * 4 ≤ 536870912; omega) hlo hRc hRs (hC) (hS) d_Na_init_15 t (fun q_10 G_11 z_12 f_13 o_14 => ?_)
  have f_15 : G_11 h = some (t, .inr (4, [.null, .int (nI 0)])) := (o_14 _ (fun e => by subst e; rw [f_4] at z_12; cases z_12)).trans f_4
  have x_16 : gex (fun x => x = h) G G_11 := gex_new x_5 z_12 o_14
  have hq0 : G q_10 = none := gex_0 x_5 z_12 (fun z => by subst z; rw [f_4] at z_12; cases z_12)
  refine g_put (ty := .array .int) hx hb hts hin_Na ty_Na ty_Na_ok nm_Na hown hK f_15 rfl 0 (by decide) (hts _ wm72) (fun _ h9 => h9) rfl (by decide +kernel) rfl rfl (Nat.le_of_ble_eq_true rfl) d_Na_init_17 (fun G_17 f_18 o_19 => ?_)
  have f_20 : G_17 h = some (t, .inr (4, [.ref q_10, .int (nI 0)])) := f_18
  have f_21 : G_17 q_10 = some (t, .inl (cA 0, room, .inl (fun _ => 0))) := (o_19 _ (gne f_13 f_15 (fun e => by cases e))).trans f_13
  have x_22 : gex (fun x => x = h) G G_17 := gex_put x_16 o_19 (Or.inl rfl)
  exact hret 20 _ _ _ d_Na_init_20 hC hS ⟨q_10, hq0, f_20, f_21, x_22, rfl⟩
