set_option maxHeartbeats 4000000 in
set_option maxRecDepth 100000 in
theorem n_setQuotient (l : Launch) (D : va_G) (cA : Nat → ClassId) (lo MC MS : Nat) (G : gT) (B : Nat × Nat) (X : Nat × Nat) (ad V : Nat → Nat) (hW : w2 cA X ad V (G, B)) (hX1 : X.1 ≤ MC) (hX2 : X.2 ≤ MS) (hk hd hc : Nat) (hhk : G hk = some (30, .inr (0, [.ref hd, .ref hc, .ref (ad 5), .ref (ad 6), .ref (ad 7), .ref (ad 8), .ref (ad 9), .ref (ad 10)]))) (hhd : G hd = some (30, .inr (2, [.ref (ad 0), .ref (ad 1), .ref (ad 2)]))) (hcd : cdO ad hd hc G) (t : Nat) (ht : t < 19) (ht3 : 3 ≤ t) (h1 v1 h2 v2 k1 : Nat) (hr1 : rd cA G (fun x => 3 ≤ x) h1 v1) (hr2 : rd cA G (fun x => 3 ≤ x) h2 v2) (hk1 : v1 < 1000000000 ^ k1) (hkk : k1 ≤ 1499) (hv0 : 0 < v2) : gMet l y_Ca_setQuotient w_Ca_setQuotient 5 134 D clS (gtys cA) lo MC MS [.ref hk, .ref (ad t), .ref h1, .ref h2] G B (gQv D clS lo (fun u => ∃ V1, w2s cA X ad (fun x => x < 3 ∨ x = t) G V V1 u ∧ V1 t = v1 / v2)) := by
  refine g_metv (cc := prog_2_method_8_code) (nL := 4) (L := [(0, .ref hk), (1, .ref (ad t)), (2, .ref h1), (3, .ref h2)]) (by decide +kernel) rfl (Nat.le_of_ble_eq_true rfl) rfl ?_
  intro p e R s m args below meth c Q hF hRc hRs hRf hRl hret
  obtain ⟨hx, hb, hr, hml, hts0, hown, hlocks, hin, hK, hlo, hZ⟩ := hF
  have hts : ∀ w ∈ tbg, w.before args s = true := fun w h => hts0 w (List.mem_cons_of_mem _ h)
  obtain ⟨ga0, gb0, gc0, gd0, hhc⟩ := id hcd
  have hS0 : w2s cA X ad (fun x => x < 3 ∨ x = t) G V V (G, B) := w2s_rf hW
  have bl_1 := w2_le hW
  refine gs (pc' := 1) (fun _ _ _ _ _ hl => lv_aload_n hx hb d_Ca_setQuotient_0 rfl (lv_at hl 0 rfl)) ?_
  refine g_get hx hb hts hin_Ca hown hK hhk rfl 0 (by decide) (hts _ wm130) (fun _ h9 => h9) rfl d_Ca_setQuotient_1 ?_
  refine gs (pc' := 5) (fun _ _ _ _ _ hl => lv_aload_n hx hb d_Ca_setQuotient_4 rfl (lv_at hl 2 rfl)) ?_
  refine gs (pc' := 6) (fun _ _ _ _ _ hl => lv_aload_n hx hb d_Ca_setQuotient_5 rfl (lv_at hl 3 rfl)) ?_
  refine g_outv hlo (g_runV (As := [.ref h1, .ref h2]) (rest := []) ⟨hx, hb, hml, hown, hts⟩ hK hZ hRc hRs (n_divide l D cA lo MC MS G B X ad V hW hX1 hX2 hd hhd h1 v1 h2 v2 k1 (rd_mono (P1 := fun x => 3 ≤ x) hr1 (fun _ h => by first | trivial | omega)) (rd_mono (P1 := fun x => 3 ≤ x) hr2 (fun _ h => by first | trivial | omega)) hk1 (by omega) hv0) (fun _ _ => cwV 2 hts (tb_good (tb_cons wm493 (tb_cons wm447 (tb_cons wm448 (tb_cons wm4 k_Di_divide))))) rfl rfl rfl (by decide +kernel) ⟨by rw [hRf]; exact Nat.le_of_ble_eq_true rfl, by rw [hRl]; exact Nat.le_of_ble_eq_true rfl⟩) hhd rfl (show B.1 ≤ MC by omega) (show B.2 ≤ MS by omega) rfl (Nat.le_of_ble_eq_true rfl) d_Ca_setQuotient_6) (fun G_2 B_3 p_4 => ?_)
  obtain ⟨V_5, s_6, k_7, k_8⟩ := p_4
  have lt_9 : v1 / v2 < 1000000000 ^ k1 := Nat.lt_of_le_of_lt (Nat.div_le_self _ _) hk1
  have lt_10 : v1 % v2 < 1000000000 ^ k1 := Nat.lt_of_le_of_lt (Nat.mod_le _ _) hk1
  have f_11 : G_2 hk = some (30, .inr (0, [.ref hd, .ref hc, .ref (ad 5), .ref (ad 6), .ref (ad 7), .ref (ad 8), .ref (ad 9), .ref (ad 10)])) := s_6.2.2 _ _ hhk (by first | decide | omega)
  have f_12 : G_2 hd = some (30, .inr (2, [.ref (ad 0), .ref (ad 1), .ref (ad 2)])) := s_6.2.2 _ _ hhd (by first | decide | omega)
  have f_13 : G_2 hc = some (19, .inr (1, [.ref hd, .ref (ad 3), .ref (ad 4), .long ga0, .long gb0, .long gc0, .long gd0])) := s_6.2.2 _ _ hhc (by first | decide | omega)
  have rd_14 := rd_fr hr1 s_6.2.2 (fun _ h => by omega)
  have rd_15 := rd_fr hr2 s_6.2.2 (fun _ h => by omega)
  have W_16 := s_6.1
  have S_17 : w2s cA X ad (fun x => x < 3 ∨ x = t) G V V_5 (G_2, B_3) := w2s_mono (w2s_tr hS0 s_6) (fun _ h => by omega)
  have bl_18 := w2_le W_16
  refine gs (pc' := 10) (fun _ _ _ _ _ hl => lv_aload_n hx hb d_Ca_setQuotient_9 rfl (lv_at hl 1 rfl)) ?_
  refine gs (pc' := 11) (fun _ _ _ _ _ hl => lv_aload_n hx hb d_Ca_setQuotient_10 rfl (lv_at hl 0 rfl)) ?_
  refine g_get hx hb hts hin_Ca hown hK f_11 rfl 0 (by decide) (hts _ wm130) (fun _ h9 => h9) rfl d_Ca_setQuotient_11 ?_
  refine g_get hx hb hts hin_Di hown hK f_12 rfl 0 (by decide) (hts _ wm86) (fun _ h9 => h9) rfl d_Ca_setQuotient_14 ?_
  obtain ⟨κo_19, ao_19, zo_19, fo_19, hho_19, hao_19, hzo_19, hDo_19, hco_19⟩ := w2_N W_16 (show t < 19 by first | decide | omega)
  have hbo_19 : zo_19 ≤ 3000 := by omega
  refine g_outv hlo (g_runV (As := [.ref (ad 0)]) (rest := []) ⟨hx, hb, hml, hown, hts⟩ hK hZ hRc hRs (n_setTo l D cA lo MC MS G_2 B_3 X ad V_5 W_16 hX1 hX2 t (by first | decide | omega) (ad 0) (v1 / v2) k1 (rd_w2' (P := fun x => ¬ x = t) W_16 (by first | decide | omega) (by first | trivial | omega) k_7) lt_9 (by omega)) (fun _ _ => cwV 1 hts (tb_good (tb_cons wm494 (tb_cons wm408 (tb_cons wm409 (tb_cons wm5 k_Na_setTo))))) rfl rfl rfl (by decide +kernel) ⟨by rw [hRf]; exact Nat.le_of_ble_eq_true rfl, by rw [hRl]; exact Nat.le_of_ble_eq_true rfl⟩) hho_19 rfl (show B_3.1 ≤ MC by omega) (show B_3.2 ≤ MS by omega) rfl (Nat.le_of_ble_eq_true rfl) d_Ca_setQuotient_17) (fun G_20 B_21 p_22 => ?_)
  obtain ⟨V_23, s_24, k_25⟩ := p_22
  have f_26 : G_20 hk = some (30, .inr (0, [.ref hd, .ref hc, .ref (ad 5), .ref (ad 6), .ref (ad 7), .ref (ad 8), .ref (ad 9), .ref (ad 10)])) := s_24.2.2 _ _ f_11 (by first | decide | omega)
  have f_27 : G_20 hd = some (30, .inr (2, [.ref (ad 0), .ref (ad 1), .ref (ad 2)])) := s_24.2.2 _ _ f_12 (by first | decide | omega)
  have f_28 : G_20 hc = some (19, .inr (1, [.ref hd, .ref (ad 3), .ref (ad 4), .long ga0, .long gb0, .long gc0, .long gd0])) := s_24.2.2 _ _ f_13 (by first | decide | omega)
  have k_29 : V_23 0 = v1 / v2 := (s_24.2.1 0 (by first | decide | omega)).trans k_7
  have k_30 : V_23 1 = v1 % v2 := (s_24.2.1 1 (by first | decide | omega)).trans k_8
  have W_31 := s_24.1
  have S_32 : w2s cA X ad (fun x => x < 3 ∨ x = t) G V V_23 (G_20, B_21) := w2s_mono (w2s_tr S_17 s_24) (fun _ h => by omega)
  have bl_33 := w2_le W_31
  exact hret 20 _ _ _ d_Ca_setQuotient_20 (show B_21.1 ≤ MC by omega) (show B_21.2 ≤ MS by omega) ⟨V_23, S_32, k_25⟩
set_option maxHeartbeats 4000000 in
set_option maxRecDepth 100000 in
theorem n_setReduced (l : Launch) (D : va_G) (cA : Nat → ClassId) (lo MC MS : Nat) (G : gT) (B : Nat × Nat) (X : Nat × Nat) (ad V : Nat → Nat) (hW : w2 cA X ad V (G, B)) (hX1 : X.1 ≤ MC) (hX2 : X.2 ≤ MS) (hk hd hc : Nat) (hhk : G hk = some (30, .inr (0, [.ref hd, .ref hc, .ref (ad 5), .ref (ad 6), .ref (ad 7), .ref (ad 8), .ref (ad 9), .ref (ad 10)]))) (hhd : G hd = some (30, .inr (2, [.ref (ad 0), .ref (ad 1), .ref (ad 2)]))) (hcd : cdO ad hd hc G) (hf ta tb to : Nat) (sf : Int32) (hhf : G hf = some (to, .inr (3, [.int sf, .ref (ad ta), .ref (ad tb)]))) (hta : 11 ≤ ta) (hta2 : ta < 19) (htb : 11 ≤ tb) (htb2 : tb < 19) (htab : ¬ ta = tb) (hto : 20 ≤ to) (hto2 : to ≤ 23) (h1 v1 h2 v2 k1 : Nat) (hr1 : rd cA G (fun x => 5 ≤ x ∧ ¬ x = 19 ∧ ¬ x = ta ∧ ¬ x = tb) h1 v1) (hr2 : rd cA G (fun x => 5 ≤ x ∧ ¬ x = 19 ∧ ¬ x = ta ∧ ¬ x = tb) h2 v2) (hk1 : v1 < 1000000000 ^ k1) (hk2 : v2 < 1000000000 ^ k1) (hkk : k1 ≤ 1499) (hv0 : 0 < v2) : gMet l y_Ca_setReduced w_Ca_setReduced 6 163 D clS (gtys cA) lo MC MS [.ref hk, .ref hf, .ref h1, .ref h2] G B (gQv D clS lo (fun u => ∃ V1, w2s cA X ad (fun x => x < 5 ∨ x = 19 ∨ x = ta ∨ x = tb) G V V1 u ∧ V1 ta = rdn v1 v2 ∧ V1 tb = rdd v1 v2 ∧ cdO ad hd hc u.1)) := by
  refine g_metv (cc := prog_2_method_7_code) (nL := 5) (L := [(0, .ref hk), (1, .ref hf), (2, .ref h1), (3, .ref h2)]) (by decide +kernel) rfl (Nat.le_of_ble_eq_true rfl) rfl ?_
  intro p e R s m args below meth c Q hF hRc hRs hRf hRl hret
  obtain ⟨hx, hb, hr, hml, hts0, hown, hlocks, hin, hK, hlo, hZ⟩ := hF
  have hts : ∀ w ∈ tbg, w.before args s = true := fun w h => hts0 w (List.mem_cons_of_mem _ h)
  obtain ⟨ga0, gb0, gc0, gd0, hhc⟩ := id hcd
  have hS0 : w2s cA X ad (fun x => x < 5 ∨ x = 19 ∨ x = ta ∨ x = tb) G V V (G, B) := w2s_rf hW
  have bl_1 := w2_le hW
  refine gs (pc' := 1) (fun _ _ _ _ _ hl => lv_aload_n hx hb d_Ca_setReduced_0 rfl (lv_at hl 0 rfl)) ?_
  refine g_get hx hb hts hin_Ca hown hK hhk rfl 1 (by decide) (hts _ wm131) (fun _ h9 => h9) rfl d_Ca_setReduced_1 ?_
  refine gs (pc' := 5) (fun _ _ _ _ _ hl => lv_aload_n hx hb d_Ca_setReduced_4 rfl (lv_at hl 2 rfl)) ?_
  refine gs (pc' := 6) (fun _ _ _ _ _ hl => lv_aload_n hx hb d_Ca_setReduced_5 rfl (lv_at hl 3 rfl)) ?_
  refine g_outr hlo (g_runV (As := [.ref h1, .ref h2]) (rest := []) ⟨hx, hb, hml, hown, hts⟩ hK hZ hRc hRs (n_find l D cA lo MC MS G B X ad V hW hX1 hX2 hd hc ga0 gb0 gc0 gd0 hhc hhd h1 v1 h2 v2 k1 (rd_mono (P1 := fun x => 5 ≤ x ∧ ¬ x = 19) hr1 (fun _ h => by first | trivial | omega)) (rd_mono (P1 := fun x => 5 ≤ x ∧ ¬ x = 19) hr2 (fun _ h => by first | trivial | omega)) hk1 hk2 (by omega)) (fun _ _ => cwV 2 hts (tb_good (tb_cons wm399 (tb_cons wm400 (tb_cons wm401 (tb_cons wm7 k_Cd_find))))) rfl rfl rfl (by decide +kernel) ⟨by rw [hRf]; exact Nat.le_of_ble_eq_true rfl, by rw [hRl]; exact Nat.le_of_ble_eq_true rfl⟩) hhc rfl (show B.1 ≤ MC by omega) (show B.2 ≤ MS by omega) rfl (Nat.le_of_ble_eq_true rfl) d_Ca_setReduced_6) (fun r_5 G_2 B_3 p_4 => ?_)
  obtain ⟨e_9, V_6, s_7, k_8, g_11, g_12, g_13, g_14, f_10⟩ := p_4
  subst e_9
  have lt_15 : Nat.gcd v1 v2 < 1000000000 ^ k1 := lb_gcd hk1 hk2
  have f_16 : G_2 hk = some (30, .inr (0, [.ref hd, .ref hc, .ref (ad 5), .ref (ad 6), .ref (ad 7), .ref (ad 8), .ref (ad 9), .ref (ad 10)])) := s_7.2.2 _ _ hhk (by first | decide | omega)
  have f_17 : G_2 hd = some (30, .inr (2, [.ref (ad 0), .ref (ad 1), .ref (ad 2)])) := s_7.2.2 _ _ hhd (by first | decide | omega)
  have f_18 : G_2 hf = some (to, .inr (3, [.int sf, .ref (ad ta), .ref (ad tb)])) := s_7.2.2 _ _ hhf (by first | decide | omega)
  have rd_19 := rd_fr hr1 s_7.2.2 (fun _ h => by omega)
  have rd_20 := rd_fr hr2 s_7.2.2 (fun _ h => by omega)
  have W_21 := s_7.1
  have S_22 : w2s cA X ad (fun x => x < 5 ∨ x = 19 ∨ x = ta ∨ x = tb) G V V_6 (G_2, B_3) := w2s_mono (w2s_tr hS0 s_7) (fun _ h => by omega)
  have bl_23 := w2_le W_21
  refine gst (pc' := 11) (L' := [(4, .ref (ad 3)), (0, .ref hk), (1, .ref hf), (2, .ref h1), (3, .ref h2)]) (fun _ _ _ _ _ hl => lv_astore hx hb d_Ca_setReduced_9 hl (by decide) rfl) ?_
  refine gs (pc' := 12) (fun _ _ _ _ _ hl => lv_aload_n hx hb d_Ca_setReduced_11 rfl (lv_at hl 1 rfl)) ?_
  refine gs (pc' := 13) (fun _ _ _ _ _ hl => lv_aload_n hx hb d_Ca_setReduced_12 rfl (lv_at hl 2 rfl)) ?_
  refine g_get hx hb hts hin_Fr hown hK f_18 rfl 1 (by decide) (hts _ wm167) (fun _ h9 => h9) rfl d_Ca_setReduced_13 ?_
  refine gs (pc' := 17) (fun _ _ _ _ _ hl => lv_aload_n hx hb d_Ca_setReduced_16 rfl (lv_at hl 3 rfl)) ?_
  refine gs (pc' := 19) (fun _ _ _ _ _ hl => lv_aload hx hb d_Ca_setReduced_17 (lv_at hl 0 rfl)) ?_
  refine g_outv hlo (g_runV (As := [.ref (ad ta), .ref h1, .ref (ad 3)]) (rest := []) ⟨hx, hb, hml, hown, hts⟩ hK hZ hRc hRs (n_setQuotient l D cA lo MC MS G_2 B_3 X ad V_6 W_21 hX1 hX2 hk hd hc f_16 f_17 (cdO_i f_10) ta (by first | decide | omega) (by first | decide | omega) h1 v1 (ad 3) (Nat.gcd v1 v2) k1 (rd_mono (P1 := fun x => 3 ≤ x) rd_19 (fun _ h => by first | trivial | omega)) (rd_w2' (P := fun x => 3 ≤ x) W_21 (by first | decide | omega) (by first | trivial | omega) k_8) hk1 (by omega) (Nat.gcd_pos_of_pos_right _ hv0)) (fun _ _ => cwV 3 hts (tb_good (tb_cons wm489 (tb_cons wm491 (tb_cons ws9 (tb_cons wm3 k_Ca_setQuotient))))) rfl rfl rfl (by decide +kernel) ⟨by rw [hRf]; exact Nat.le_of_ble_eq_true rfl, by rw [hRl]; exact Nat.le_of_ble_eq_true rfl⟩) f_16 rfl (show B_3.1 ≤ MC by omega) (show B_3.2 ≤ MS by omega) rfl (Nat.le_of_ble_eq_true rfl) d_Ca_setReduced_19) (fun G_24 B_25 p_26 => ?_)
  obtain ⟨V_27, s_28, k_29⟩ := p_26
  have lt_30 : v1 / (Nat.gcd v1 v2) < 1000000000 ^ k1 := Nat.lt_of_le_of_lt (Nat.div_le_self _ _) hk1
  have f_31 : G_24 hk = some (30, .inr (0, [.ref hd, .ref hc, .ref (ad 5), .ref (ad 6), .ref (ad 7), .ref (ad 8), .ref (ad 9), .ref (ad 10)])) := s_28.2.2 _ _ f_16 (by first | decide | omega)
  have f_32 : G_24 hd = some (30, .inr (2, [.ref (ad 0), .ref (ad 1), .ref (ad 2)])) := s_28.2.2 _ _ f_17 (by first | decide | omega)
  have f_33 : G_24 hf = some (to, .inr (3, [.int sf, .ref (ad ta), .ref (ad tb)])) := s_28.2.2 _ _ f_18 (by first | decide | omega)
  have f_34 : G_24 hc = some (19, .inr (1, [.ref hd, .ref (ad 3), .ref (ad 4), .long g_11, .long g_12, .long g_13, .long g_14])) := s_28.2.2 _ _ f_10 (by first | decide | omega)
  have k_35 : V_27 3 = Nat.gcd v1 v2 := (s_28.2.1 3 (by first | decide | omega)).trans k_8
  have rd_36 := rd_fr rd_19 s_28.2.2 (fun _ h => by omega)
  have rd_37 := rd_fr rd_20 s_28.2.2 (fun _ h => by omega)
  have W_38 := s_28.1
  have S_39 : w2s cA X ad (fun x => x < 5 ∨ x = 19 ∨ x = ta ∨ x = tb) G V V_27 (G_24, B_25) := w2s_mono (w2s_tr S_22 s_28) (fun _ h => by omega)
  have bl_40 := w2_le W_38
  refine gs (pc' := 23) (fun _ _ _ _ _ hl => lv_aload_n hx hb d_Ca_setReduced_22 rfl (lv_at hl 1 rfl)) ?_
  refine gs (pc' := 24) (fun _ _ _ _ _ hl => lv_aload_n hx hb d_Ca_setReduced_23 rfl (lv_at hl 2 rfl)) ?_
  refine g_get hx hb hts hin_Fr hown hK f_33 rfl 2 (by decide) (hts _ wm170) (fun _ h9 => h9) rfl d_Ca_setReduced_24 ?_
  refine gs (pc' := 28) (fun _ _ _ _ _ hl => lv_aload_n hx hb d_Ca_setReduced_27 rfl (lv_at hl 4 rfl)) ?_
  refine gs (pc' := 30) (fun _ _ _ _ _ hl => lv_aload hx hb d_Ca_setReduced_28 (lv_at hl 0 rfl)) ?_
  refine g_outv hlo (g_runV (As := [.ref (ad tb), .ref h2, .ref (ad 3)]) (rest := []) ⟨hx, hb, hml, hown, hts⟩ hK hZ hRc hRs (n_setQuotient l D cA lo MC MS G_24 B_25 X ad V_27 W_38 hX1 hX2 hk hd hc f_31 f_32 (cdO_i f_34) tb (by first | decide | omega) (by first | decide | omega) h2 v2 (ad 3) (Nat.gcd v1 v2) k1 (rd_mono (P1 := fun x => 3 ≤ x) rd_37 (fun _ h => by first | trivial | omega)) (rd_w2' (P := fun x => 3 ≤ x) W_38 (by first | decide | omega) (by first | trivial | omega) k_35) hk2 (by omega) (Nat.gcd_pos_of_pos_right _ hv0)) (fun _ _ => cwV 3 hts (tb_good (tb_cons wm489 (tb_cons wm491 (tb_cons ws9 (tb_cons wm3 k_Ca_setQuotient))))) rfl rfl rfl (by decide +kernel) ⟨by rw [hRf]; exact Nat.le_of_ble_eq_true rfl, by rw [hRl]; exact Nat.le_of_ble_eq_true rfl⟩) f_31 rfl (show B_25.1 ≤ MC by omega) (show B_25.2 ≤ MS by omega) rfl (Nat.le_of_ble_eq_true rfl) d_Ca_setReduced_30) (fun G_41 B_42 p_43 => ?_)
  obtain ⟨V_44, s_45, k_46⟩ := p_43
  have lt_47 : v2 / (Nat.gcd v1 v2) < 1000000000 ^ k1 := Nat.lt_of_le_of_lt (Nat.div_le_self _ _) hk2
  have f_48 : G_41 hk = some (30, .inr (0, [.ref hd, .ref hc, .ref (ad 5), .ref (ad 6), .ref (ad 7), .ref (ad 8), .ref (ad 9), .ref (ad 10)])) := s_45.2.2 _ _ f_31 (by first | decide | omega)
  have f_49 : G_41 hd = some (30, .inr (2, [.ref (ad 0), .ref (ad 1), .ref (ad 2)])) := s_45.2.2 _ _ f_32 (by first | decide | omega)
  have f_50 : G_41 hf = some (to, .inr (3, [.int sf, .ref (ad ta), .ref (ad tb)])) := s_45.2.2 _ _ f_33 (by first | decide | omega)
  have f_51 : G_41 hc = some (19, .inr (1, [.ref hd, .ref (ad 3), .ref (ad 4), .long g_11, .long g_12, .long g_13, .long g_14])) := s_45.2.2 _ _ f_34 (by first | decide | omega)
  have k_52 : V_44 3 = Nat.gcd v1 v2 := (s_45.2.1 3 (by first | decide | omega)).trans k_35
  have k_53 : V_44 ta = v1 / (Nat.gcd v1 v2) := (s_45.2.1 ta (by first | decide | omega)).trans k_29
  have rd_54 := rd_fr rd_36 s_45.2.2 (fun _ h => by omega)
  have rd_55 := rd_fr rd_37 s_45.2.2 (fun _ h => by omega)
  have W_56 := s_45.1
  have S_57 : w2s cA X ad (fun x => x < 5 ∨ x = 19 ∨ x = ta ∨ x = tb) G V V_44 (G_41, B_42) := w2s_mono (w2s_tr S_39 s_45) (fun _ h => by omega)
  have bl_58 := w2_le W_56
  exact hret 33 _ _ _ d_Ca_setReduced_33 (show B_42.1 ≤ MC by omega) (show B_42.2 ≤ MS by omega) ⟨V_44, S_57, k_53, k_46, cdO_i f_51⟩
