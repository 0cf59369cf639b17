theorem sc_12 {t k1 : Nat} (ht : t < 19) (ht3 : 3 ≤ t) (hkk : k1 ≤ 1499) : ∀ x, (3 ≤ x) → (3 ≤ x) := by intro x h; omega
theorem sc_13 {t k1 : Nat} (ht : t < 19) (ht3 : 3 ≤ t) (hkk : k1 ≤ 1499) : k1 ≤ 1499 := by omega
theorem sc_14 {t k1 : Nat} (ht : t < 19) (ht3 : 3 ≤ t) (hkk : k1 ≤ 1499) : ∀ x, (3 ≤ x) → ¬ (x < 3) := by intro x h; omega
theorem sc_15 {t k1 : Nat} (ht : t < 19) (ht3 : 3 ≤ t) (hkk : k1 ≤ 1499) : ∀ x, (x < 3 ∨ x = t) ∨ (x < 3) → (x < 3 ∨ x = t) := by intro x h; omega
theorem sc_16 {t k1 : Nat} (ht : t < 19) (ht3 : 3 ≤ t) (hkk : k1 ≤ 1499) : t < 19 := by omega
theorem sc_17 {t k1 : Nat} (ht : t < 19) (ht3 : 3 ≤ t) (hkk : k1 ≤ 1499) : ¬ 0 = t := by omega
theorem sc_18 {t k1 : Nat} (ht : t < 19) (ht3 : 3 ≤ t) (hkk : k1 ≤ 1499) : k1 ≤ 1500 := by omega
theorem sc_19 {t k1 : Nat} (ht : t < 19) (ht3 : 3 ≤ t) (hkk : k1 ≤ 1499) : ¬ (30 = t) := by omega
theorem sc_20 {t k1 : Nat} (ht : t < 19) (ht3 : 3 ≤ t) (hkk : k1 ≤ 1499) : ¬ (19 = t) := by omega
theorem sc_21 {t k1 : Nat} (ht : t < 19) (ht3 : 3 ≤ t) (hkk : k1 ≤ 1499) : ¬ (0 = t) := by omega
theorem sc_22 {t k1 : Nat} (ht : t < 19) (ht3 : 3 ≤ t) (hkk : k1 ≤ 1499) : ¬ (1 = t) := by omega
theorem sc_23 {t k1 : Nat} (ht : t < 19) (ht3 : 3 ≤ t) (hkk : k1 ≤ 1499) : ∀ x, (x < 3 ∨ x = t) ∨ (x = t) → (x < 3 ∨ x = t) := by intro x h; omega
set_option maxHeartbeats 4000000 in
set_option maxRecDepth 100000 in
theorem n_setQuotient (l : Launch) (D : va_G) (cA : Nat → ClassId) (lo MC MS : Nat) (G : gT) (B : Nat × Nat) (X : Nat × Nat) (ad V : Nat → Nat) (hW : w2 cA X ad V (G, B)) (hX1 : X.1 ≤ MC) (hX2 : X.2 ≤ MS) (hk hd hc : Nat) (hhk : G hk = some (30, .inr (0, [.ref hd, .ref hc, .ref (ad 5), .ref (ad 6), .ref (ad 7), .ref (ad 8), .ref (ad 9), .ref (ad 10)]))) (hhd : G hd = some (30, .inr (2, [.ref (ad 0), .ref (ad 1), .ref (ad 2)]))) (hcd : cdO ad hd hc G) (t : Nat) (ht : t < 19) (ht3 : 3 ≤ t) (h1 v1 h2 v2 k1 : Nat) (hr1 : rd cA G (fun x => 3 ≤ x) h1 v1) (hr2 : rd cA G (fun x => 3 ≤ x) h2 v2) (hk1 : v1 < 1000000000 ^ k1) (hkk : k1 ≤ 1499) (hv0 : 0 < v2) : gMet l y_Ca_setQuotient w_Ca_setQuotient 5 134 D clS (gtys cA) lo MC MS [.ref hk, .ref (ad t), .ref h1, .ref h2] G B (gQv D clS lo (fun u => ∃ V1, w2s cA X ad (fun x => x < 3 ∨ x = t) G V V1 u ∧ V1 t = v1 / v2)) := by
  refine g_metv (cc := prog_2_method_8_code) (nL := 4) (L := [(0, .ref hk), (1, .ref (ad t)), (2, .ref h1), (3, .ref h2)]) (by decide +kernel) rfl (Nat.le_of_ble_eq_true rfl) rfl ?_
  intro p e R s m args below meth c Q hF hRc hRs hRf hRl hret
  obtain ⟨hx, hb, hr, hml, hts0, hown, hlocks, hin, hK, hlo, hZ⟩ := hF
  have hts : ∀ w ∈ tbg, w.before args s = true := fun w h => hts0 w (List.mem_cons_of_mem _ h)
  obtain ⟨ga0, gb0, gc0, gd0, hhc⟩ := id hcd
  have hS0 : w2s cA X ad (fun x => x < 3 ∨ x = t) G V V (G, B) := w2s_rf hW
  have bl_1 : B.1 ≤ MC := Nat.le_trans (w2_le hW).1 hX1
  have bl_2 : B.2 ≤ MS := Nat.le_trans (w2_le hW).2 hX2
  refine gs (pc' := 1) (fun _ _ _ _ _ hl => lv_aload_n hx hb d_Ca_setQuotient_0 rfl (lv_at hl 0 rfl)) ?_
  refine g_get hx hb hts hin_Ca hown hK hhk rfl 0 (by decide) (hts _ wm130) (fun _ h9 => h9) rfl d_Ca_setQuotient_1 ?_
  refine gs (pc' := 5) (fun _ _ _ _ _ hl => lv_aload_n hx hb d_Ca_setQuotient_4 rfl (lv_at hl 2 rfl)) ?_
  refine gs (pc' := 6) (fun _ _ _ _ _ hl => lv_aload_n hx hb d_Ca_setQuotient_5 rfl (lv_at hl 3 rfl)) ?_
  refine g_outv hlo (g_runV (As := [.ref h1, .ref h2]) (rest := []) ⟨hx, hb, hml, hown, hts⟩ hK hZ hRc hRs (n_divide l D cA lo MC MS G B X ad V hW hX1 hX2 hd hhd h1 v1 h2 v2 k1 (rd_mono (P1 := fun x => 3 ≤ x) hr1 (sc_12 ht ht3 hkk)) (rd_mono (P1 := fun x => 3 ≤ x) hr2 (sc_12 ht ht3 hkk)) hk1 (sc_13 ht ht3 hkk) hv0) (fun _ _ => cwV 2 hts (tb_good (tb_cons wm493 (tb_cons wm447 (tb_cons wm448 (tb_cons wm4 k_Di_divide))))) rfl rfl rfl (by decide +kernel) ⟨by rw [hRf]; exact Nat.le_of_ble_eq_true rfl, by rw [hRl]; exact Nat.le_of_ble_eq_true rfl⟩) hhd rfl bl_1 bl_2 rfl (Nat.le_of_ble_eq_true rfl) d_Ca_setQuotient_6) (fun G_3 B_4 p_5 => ?_)
  obtain ⟨V_6, s_7, k_8, k_9⟩ := p_5
  have lt_10 : v1 / v2 < 1000000000 ^ k1 := Nat.lt_of_le_of_lt (Nat.div_le_self _ _) hk1
  have lt_11 : v1 % v2 < 1000000000 ^ k1 := Nat.lt_of_le_of_lt (Nat.mod_le _ _) hk1
  have f_12 : G_3 hk = some (30, .inr (0, [.ref hd, .ref hc, .ref (ad 5), .ref (ad 6), .ref (ad 7), .ref (ad 8), .ref (ad 9), .ref (ad 10)])) := s_7.2.2 _ _ hhk (show ¬ (30 < 3) by decide)
  have f_13 : G_3 hd = some (30, .inr (2, [.ref (ad 0), .ref (ad 1), .ref (ad 2)])) := s_7.2.2 _ _ hhd (show ¬ (30 < 3) by decide)
  have f_14 : G_3 hc = some (19, .inr (1, [.ref hd, .ref (ad 3), .ref (ad 4), .long ga0, .long gb0, .long gc0, .long gd0])) := s_7.2.2 _ _ hhc (show ¬ (19 < 3) by decide)
  have rd_15 := rd_fr hr1 s_7.2.2 (sc_14 ht ht3 hkk)
  have rd_16 := rd_fr hr2 s_7.2.2 (sc_14 ht ht3 hkk)
  have W_17 := s_7.1
  have S_18 : w2s cA X ad (fun x => x < 3 ∨ x = t) G V V_6 (G_3, B_4) := w2s_mono (w2s_tr hS0 s_7) (sc_15 ht ht3 hkk)
  have bl_19 : B_4.1 ≤ MC := Nat.le_trans (w2_le W_17).1 hX1
  have bl_20 : B_4.2 ≤ MS := Nat.le_trans (w2_le W_17).2 hX2
  refine gs (pc' := 10) (fun _ _ _ _ _ hl => lv_aload_n hx hb d_Ca_setQuotient_9 rfl (lv_at hl 1 rfl)) ?_
  refine gs (pc' := 11) (fun _ _ _ _ _ hl => lv_aload_n hx hb d_Ca_setQuotient_10 rfl (lv_at hl 0 rfl)) ?_
  refine g_get hx hb hts hin_Ca hown hK f_12 rfl 0 (by decide) (hts _ wm130) (fun _ h9 => h9) rfl d_Ca_setQuotient_11 ?_
  refine g_get hx hb hts hin_Di hown hK f_13 rfl 0 (by decide) (hts _ wm86) (fun _ h9 => h9) rfl d_Ca_setQuotient_14 ?_
  obtain ⟨κo_21, ao_21, zo_21, fo_21, hho_21, hao_21, hzo_21, hDo_21, hco_21⟩ := w2_N W_17 (sc_16 ht ht3 hkk)
  have hbo_21 : zo_21 ≤ 3000 := Nat.le_trans hzo_21 hco_21
  refine g_outv hlo (g_runV (As := [.ref (ad 0)]) (rest := []) ⟨hx, hb, hml, hown, hts⟩ hK hZ hRc hRs (n_setTo l D cA lo MC MS G_3 B_4 X ad V_6 W_17 hX1 hX2 t (sc_16 ht ht3 hkk) (ad 0) (v1 / v2) k1 (rd_w2' (P := fun x => ¬ x = t) W_17 (by decide) (sc_17 ht ht3 hkk) k_8) lt_10 (sc_18 ht ht3 hkk)) (fun _ _ => cwV 1 hts (tb_good (tb_cons wm494 (tb_cons wm408 (tb_cons wm409 (tb_cons wm5 k_Na_setTo))))) rfl rfl rfl (by decide +kernel) ⟨by rw [hRf]; exact Nat.le_of_ble_eq_true rfl, by rw [hRl]; exact Nat.le_of_ble_eq_true rfl⟩) hho_21 rfl bl_19 bl_20 rfl (Nat.le_of_ble_eq_true rfl) d_Ca_setQuotient_17) (fun G_22 B_23 p_24 => ?_)
  obtain ⟨V_25, s_26, k_27⟩ := p_24
  have f_28 : G_22 hk = some (30, .inr (0, [.ref hd, .ref hc, .ref (ad 5), .ref (ad 6), .ref (ad 7), .ref (ad 8), .ref (ad 9), .ref (ad 10)])) := s_26.2.2 _ _ f_12 (sc_19 ht ht3 hkk)
  have f_29 : G_22 hd = some (30, .inr (2, [.ref (ad 0), .ref (ad 1), .ref (ad 2)])) := s_26.2.2 _ _ f_13 (sc_19 ht ht3 hkk)
  have f_30 : G_22 hc = some (19, .inr (1, [.ref hd, .ref (ad 3), .ref (ad 4), .long ga0, .long gb0, .long gc0, .long gd0])) := s_26.2.2 _ _ f_14 (sc_20 ht ht3 hkk)
  have k_31 : V_25 0 = v1 / v2 := (s_26.2.1 0 (sc_21 ht ht3 hkk)).trans k_8
  have k_32 : V_25 1 = v1 % v2 := (s_26.2.1 1 (sc_22 ht ht3 hkk)).trans k_9
  have W_33 := s_26.1
  have S_34 : w2s cA X ad (fun x => x < 3 ∨ x = t) G V V_25 (G_22, B_23) := w2s_mono (w2s_tr S_18 s_26) (sc_23 ht ht3 hkk)
  have bl_35 : B_23.1 ≤ MC := Nat.le_trans (w2_le W_33).1 hX1
  have bl_36 : B_23.2 ≤ MS := Nat.le_trans (w2_le W_33).2 hX2
  exact hret 20 _ _ _ d_Ca_setQuotient_20 bl_35 bl_36 ⟨V_25, S_34, k_27⟩
theorem sc_24 {ta tb to k1 : Nat} (hta : 11 ≤ ta) (hta2 : ta < 19) (htb : 11 ≤ tb) (htb2 : tb < 19) (htab : ¬ ta = tb) (hto : 20 ≤ to) (hto2 : to ≤ 23) (hkk : k1 ≤ 1499) : ∀ x, (5 ≤ x ∧ ¬ x = 19 ∧ ¬ x = ta ∧ ¬ x = tb) → (5 ≤ x ∧ ¬ x = 19) := by intro x h; omega
theorem sc_25 {ta tb to k1 : Nat} (hta : 11 ≤ ta) (hta2 : ta < 19) (htb : 11 ≤ tb) (htb2 : tb < 19) (htab : ¬ ta = tb) (hto : 20 ≤ to) (hto2 : to ≤ 23) (hkk : k1 ≤ 1499) : k1 ≤ 1499 := by omega
theorem sc_26 {ta tb to k1 : Nat} (hta : 11 ≤ ta) (hta2 : ta < 19) (htb : 11 ≤ tb) (htb2 : tb < 19) (htab : ¬ ta = tb) (hto : 20 ≤ to) (hto2 : to ≤ 23) (hkk : k1 ≤ 1499) : ¬ (to < 5 ∨ to = 19) := by omega
theorem sc_27 {ta tb to k1 : Nat} (hta : 11 ≤ ta) (hta2 : ta < 19) (htb : 11 ≤ tb) (htb2 : tb < 19) (htab : ¬ ta = tb) (hto : 20 ≤ to) (hto2 : to ≤ 23) (hkk : k1 ≤ 1499) : ∀ x, (5 ≤ x ∧ ¬ x = 19 ∧ ¬ x = ta ∧ ¬ x = tb) → ¬ (x < 5 ∨ x = 19) := by intro x h; omega
theorem sc_28 {ta tb to k1 : Nat} (hta : 11 ≤ ta) (hta2 : ta < 19) (htb : 11 ≤ tb) (htb2 : tb < 19) (htab : ¬ ta = tb) (hto : 20 ≤ to) (hto2 : to ≤ 23) (hkk : k1 ≤ 1499) : ∀ x, (x < 5 ∨ x = 19 ∨ x = ta ∨ x = tb) ∨ (x < 5 ∨ x = 19) → (x < 5 ∨ x = 19 ∨ x = ta ∨ x = tb) := by intro x h; omega
theorem sc_29 {ta tb to k1 : Nat} (hta : 11 ≤ ta) (hta2 : ta < 19) (htb : 11 ≤ tb) (htb2 : tb < 19) (htab : ¬ ta = tb) (hto : 20 ≤ to) (hto2 : to ≤ 23) (hkk : k1 ≤ 1499) : ∀ x, (5 ≤ x ∧ ¬ x = 19 ∧ ¬ x = ta ∧ ¬ x = tb) → (3 ≤ x) := by intro x h; omega
theorem sc_30 {ta tb to k1 : Nat} (hta : 11 ≤ ta) (hta2 : ta < 19) (htb : 11 ≤ tb) (htb2 : tb < 19) (htab : ¬ ta = tb) (hto : 20 ≤ to) (hto2 : to ≤ 23) (hkk : k1 ≤ 1499) : ta < 19 := by omega
theorem sc_31 {ta tb to k1 : Nat} (hta : 11 ≤ ta) (hta2 : ta < 19) (htb : 11 ≤ tb) (htb2 : tb < 19) (htab : ¬ ta = tb) (hto : 20 ≤ to) (hto2 : to ≤ 23) (hkk : k1 ≤ 1499) : 3 ≤ ta := by omega
theorem sc_32 {ta tb to k1 : Nat} (hta : 11 ≤ ta) (hta2 : ta < 19) (htb : 11 ≤ tb) (htb2 : tb < 19) (htab : ¬ ta = tb) (hto : 20 ≤ to) (hto2 : to ≤ 23) (hkk : k1 ≤ 1499) : ¬ (30 < 3 ∨ 30 = ta) := by omega
theorem sc_33 {ta tb to k1 : Nat} (hta : 11 ≤ ta) (hta2 : ta < 19) (htb : 11 ≤ tb) (htb2 : tb < 19) (htab : ¬ ta = tb) (hto : 20 ≤ to) (hto2 : to ≤ 23) (hkk : k1 ≤ 1499) : ¬ (to < 3 ∨ to = ta) := by omega
theorem sc_34 {ta tb to k1 : Nat} (hta : 11 ≤ ta) (hta2 : ta < 19) (htb : 11 ≤ tb) (htb2 : tb < 19) (htab : ¬ ta = tb) (hto : 20 ≤ to) (hto2 : to ≤ 23) (hkk : k1 ≤ 1499) : ¬ (19 < 3 ∨ 19 = ta) := by omega
theorem sc_35 {ta tb to k1 : Nat} (hta : 11 ≤ ta) (hta2 : ta < 19) (htb : 11 ≤ tb) (htb2 : tb < 19) (htab : ¬ ta = tb) (hto : 20 ≤ to) (hto2 : to ≤ 23) (hkk : k1 ≤ 1499) : ¬ (3 < 3 ∨ 3 = ta) := by omega
theorem sc_36 {ta tb to k1 : Nat} (hta : 11 ≤ ta) (hta2 : ta < 19) (htb : 11 ≤ tb) (htb2 : tb < 19) (htab : ¬ ta = tb) (hto : 20 ≤ to) (hto2 : to ≤ 23) (hkk : k1 ≤ 1499) : ∀ x, (5 ≤ x ∧ ¬ x = 19 ∧ ¬ x = ta ∧ ¬ x = tb) → ¬ (x < 3 ∨ x = ta) := by intro x h; omega
theorem sc_37 {ta tb to k1 : Nat} (hta : 11 ≤ ta) (hta2 : ta < 19) (htb : 11 ≤ tb) (htb2 : tb < 19) (htab : ¬ ta = tb) (hto : 20 ≤ to) (hto2 : to ≤ 23) (hkk : k1 ≤ 1499) : ∀ x, (x < 5 ∨ x = 19 ∨ x = ta ∨ x = tb) ∨ (x < 3 ∨ x = ta) → (x < 5 ∨ x = 19 ∨ x = ta ∨ x = tb) := by intro x h; omega
theorem sc_38 {ta tb to k1 : Nat} (hta : 11 ≤ ta) (hta2 : ta < 19) (htb : 11 ≤ tb) (htb2 : tb < 19) (htab : ¬ ta = tb) (hto : 20 ≤ to) (hto2 : to ≤ 23) (hkk : k1 ≤ 1499) : tb < 19 := by omega
theorem sc_39 {ta tb to k1 : Nat} (hta : 11 ≤ ta) (hta2 : ta < 19) (htb : 11 ≤ tb) (htb2 : tb < 19) (htab : ¬ ta = tb) (hto : 20 ≤ to) (hto2 : to ≤ 23) (hkk : k1 ≤ 1499) : 3 ≤ tb := by omega
theorem sc_40 {ta tb to k1 : Nat} (hta : 11 ≤ ta) (hta2 : ta < 19) (htb : 11 ≤ tb) (htb2 : tb < 19) (htab : ¬ ta = tb) (hto : 20 ≤ to) (hto2 : to ≤ 23) (hkk : k1 ≤ 1499) : ¬ (30 < 3 ∨ 30 = tb) := by omega
theorem sc_41 {ta tb to k1 : Nat} (hta : 11 ≤ ta) (hta2 : ta < 19) (htb : 11 ≤ tb) (htb2 : tb < 19) (htab : ¬ ta = tb) (hto : 20 ≤ to) (hto2 : to ≤ 23) (hkk : k1 ≤ 1499) : ¬ (to < 3 ∨ to = tb) := by omega
theorem sc_42 {ta tb to k1 : Nat} (hta : 11 ≤ ta) (hta2 : ta < 19) (htb : 11 ≤ tb) (htb2 : tb < 19) (htab : ¬ ta = tb) (hto : 20 ≤ to) (hto2 : to ≤ 23) (hkk : k1 ≤ 1499) : ¬ (19 < 3 ∨ 19 = tb) := by omega
theorem sc_43 {ta tb to k1 : Nat} (hta : 11 ≤ ta) (hta2 : ta < 19) (htb : 11 ≤ tb) (htb2 : tb < 19) (htab : ¬ ta = tb) (hto : 20 ≤ to) (hto2 : to ≤ 23) (hkk : k1 ≤ 1499) : ¬ (3 < 3 ∨ 3 = tb) := by omega
theorem sc_44 {ta tb to k1 : Nat} (hta : 11 ≤ ta) (hta2 : ta < 19) (htb : 11 ≤ tb) (htb2 : tb < 19) (htab : ¬ ta = tb) (hto : 20 ≤ to) (hto2 : to ≤ 23) (hkk : k1 ≤ 1499) : ¬ (ta < 3 ∨ ta = tb) := by omega
theorem sc_45 {ta tb to k1 : Nat} (hta : 11 ≤ ta) (hta2 : ta < 19) (htb : 11 ≤ tb) (htb2 : tb < 19) (htab : ¬ ta = tb) (hto : 20 ≤ to) (hto2 : to ≤ 23) (hkk : k1 ≤ 1499) : ∀ x, (5 ≤ x ∧ ¬ x = 19 ∧ ¬ x = ta ∧ ¬ x = tb) → ¬ (x < 3 ∨ x = tb) := by intro x h; omega
theorem sc_46 {ta tb to k1 : Nat} (hta : 11 ≤ ta) (hta2 : ta < 19) (htb : 11 ≤ tb) (htb2 : tb < 19) (htab : ¬ ta = tb) (hto : 20 ≤ to) (hto2 : to ≤ 23) (hkk : k1 ≤ 1499) : ∀ x, (x < 5 ∨ x = 19 ∨ x = ta ∨ x = tb) ∨ (x < 3 ∨ x = tb) → (x < 5 ∨ x = 19 ∨ x = ta ∨ x = tb) := by intro x h; omega
set_option maxHeartbeats 4000000 in
set_option maxRecDepth 100000 in
theorem n_setReduced (l : Launch) (D : va_G) (cA : Nat → ClassId) (lo MC MS : Nat) (G : gT) (B : Nat × Nat) (X : Nat × Nat) (ad V : Nat → Nat) (hW : w2 cA X ad V (G, B)) (hX1 : X.1 ≤ MC) (hX2 : X.2 ≤ MS) (hk hd hc : Nat) (hhk : G hk = some (30, .inr (0, [.ref hd, .ref hc, .ref (ad 5), .ref (ad 6), .ref (ad 7), .ref (ad 8), .ref (ad 9), .ref (ad 10)]))) (hhd : G hd = some (30, .inr (2, [.ref (ad 0), .ref (ad 1), .ref (ad 2)]))) (hcd : cdO ad hd hc G) (hf ta tb to : Nat) (sf : Int32) (hhf : G hf = some (to, .inr (3, [.int sf, .ref (ad ta), .ref (ad tb)]))) (hta : 11 ≤ ta) (hta2 : ta < 19) (htb : 11 ≤ tb) (htb2 : tb < 19) (htab : ¬ ta = tb) (hto : 20 ≤ to) (hto2 : to ≤ 23) (h1 v1 h2 v2 k1 : Nat) (hr1 : rd cA G (fun x => 5 ≤ x ∧ ¬ x = 19 ∧ ¬ x = ta ∧ ¬ x = tb) h1 v1) (hr2 : rd cA G (fun x => 5 ≤ x ∧ ¬ x = 19 ∧ ¬ x = ta ∧ ¬ x = tb) h2 v2) (hk1 : v1 < 1000000000 ^ k1) (hk2 : v2 < 1000000000 ^ k1) (hkk : k1 ≤ 1499) (hv0 : 0 < v2) : gMet l y_Ca_setReduced w_Ca_setReduced 6 163 D clS (gtys cA) lo MC MS [.ref hk, .ref hf, .ref h1, .ref h2] G B (gQv D clS lo (fun u => ∃ V1, w2s cA X ad (fun x => x < 5 ∨ x = 19 ∨ x = ta ∨ x = tb) G V V1 u ∧ V1 ta = rdn v1 v2 ∧ V1 tb = rdd v1 v2 ∧ cdO ad hd hc u.1)) := by
  refine g_metv (cc := prog_2_method_7_code) (nL := 5) (L := [(0, .ref hk), (1, .ref hf), (2, .ref h1), (3, .ref h2)]) (by decide +kernel) rfl (Nat.le_of_ble_eq_true rfl) rfl ?_
  intro p e R s m args below meth c Q hF hRc hRs hRf hRl hret
  obtain ⟨hx, hb, hr, hml, hts0, hown, hlocks, hin, hK, hlo, hZ⟩ := hF
  have hts : ∀ w ∈ tbg, w.before args s = true := fun w h => hts0 w (List.mem_cons_of_mem _ h)
  obtain ⟨ga0, gb0, gc0, gd0, hhc⟩ := id hcd
  have hS0 : w2s cA X ad (fun x => x < 5 ∨ x = 19 ∨ x = ta ∨ x = tb) G V V (G, B) := w2s_rf hW
  have bl_1 : B.1 ≤ MC := Nat.le_trans (w2_le hW).1 hX1
  have bl_2 : B.2 ≤ MS := Nat.le_trans (w2_le hW).2 hX2
  refine gs (pc' := 1) (fun _ _ _ _ _ hl => lv_aload_n hx hb d_Ca_setReduced_0 rfl (lv_at hl 0 rfl)) ?_
  refine g_get hx hb hts hin_Ca hown hK hhk rfl 1 (by decide) (hts _ wm131) (fun _ h9 => h9) rfl d_Ca_setReduced_1 ?_
  refine gs (pc' := 5) (fun _ _ _ _ _ hl => lv_aload_n hx hb d_Ca_setReduced_4 rfl (lv_at hl 2 rfl)) ?_
  refine gs (pc' := 6) (fun _ _ _ _ _ hl => lv_aload_n hx hb d_Ca_setReduced_5 rfl (lv_at hl 3 rfl)) ?_
  refine g_outr hlo (g_runV (As := [.ref h1, .ref h2]) (rest := []) ⟨hx, hb, hml, hown, hts⟩ hK hZ hRc hRs (n_find l D cA lo MC MS G B X ad V hW hX1 hX2 hd hc ga0 gb0 gc0 gd0 hhc hhd h1 v1 h2 v2 k1 (rd_mono (P1 := fun x => 5 ≤ x ∧ ¬ x = 19) hr1 (sc_24 hta hta2 htb htb2 htab hto hto2 hkk)) (rd_mono (P1 := fun x => 5 ≤ x ∧ ¬ x = 19) hr2 (sc_24 hta hta2 htb htb2 htab hto hto2 hkk)) hk1 hk2 (sc_25 hta hta2 htb htb2 htab hto hto2 hkk)) (fun _ _ => cwV 2 hts (tb_good (tb_cons wm399 (tb_cons wm400 (tb_cons wm401 (tb_cons wm7 k_Cd_find))))) rfl rfl rfl (by decide +kernel) ⟨by rw [hRf]; exact Nat.le_of_ble_eq_true rfl, by rw [hRl]; exact Nat.le_of_ble_eq_true rfl⟩) hhc rfl bl_1 bl_2 rfl (Nat.le_of_ble_eq_true rfl) d_Ca_setReduced_6) (fun r_6 G_3 B_4 p_5 => ?_)
  obtain ⟨e_10, V_7, s_8, k_9, g_12, g_13, g_14, g_15, f_11⟩ := p_5
  subst e_10
  have lt_16 : Nat.gcd v1 v2 < 1000000000 ^ k1 := lb_gcd hk1 hk2
  have f_17 : G_3 hk = some (30, .inr (0, [.ref hd, .ref hc, .ref (ad 5), .ref (ad 6), .ref (ad 7), .ref (ad 8), .ref (ad 9), .ref (ad 10)])) := s_8.2.2 _ _ hhk (show ¬ (30 < 5 ∨ 30 = 19) by decide)
  have f_18 : G_3 hd = some (30, .inr (2, [.ref (ad 0), .ref (ad 1), .ref (ad 2)])) := s_8.2.2 _ _ hhd (show ¬ (30 < 5 ∨ 30 = 19) by decide)
  have f_19 : G_3 hf = some (to, .inr (3, [.int sf, .ref (ad ta), .ref (ad tb)])) := s_8.2.2 _ _ hhf (sc_26 hta hta2 htb htb2 htab hto hto2 hkk)
  have rd_20 := rd_fr hr1 s_8.2.2 (sc_27 hta hta2 htb htb2 htab hto hto2 hkk)
  have rd_21 := rd_fr hr2 s_8.2.2 (sc_27 hta hta2 htb htb2 htab hto hto2 hkk)
  have W_22 := s_8.1
  have S_23 : w2s cA X ad (fun x => x < 5 ∨ x = 19 ∨ x = ta ∨ x = tb) G V V_7 (G_3, B_4) := w2s_mono (w2s_tr hS0 s_8) (sc_28 hta hta2 htb htb2 htab hto hto2 hkk)
  have bl_24 : B_4.1 ≤ MC := Nat.le_trans (w2_le W_22).1 hX1
  have bl_25 : B_4.2 ≤ MS := Nat.le_trans (w2_le W_22).2 hX2
  refine gst (pc' := 11) (L' := [(4, .ref (ad 3)), (0, .ref hk), (1, .ref hf), (2, .ref h1), (3, .ref h2)]) (fun _ _ _ _ _ hl => lv_astore hx hb d_Ca_setReduced_9 hl (by decide) rfl) ?_
  refine gs (pc' := 12) (fun _ _ _ _ _ hl => lv_aload_n hx hb d_Ca_setReduced_11 rfl (lv_at hl 1 rfl)) ?_
  refine gs (pc' := 13) (fun _ _ _ _ _ hl => lv_aload_n hx hb d_Ca_setReduced_12 rfl (lv_at hl 2 rfl)) ?_
  refine g_get hx hb hts hin_Fr hown hK f_19 rfl 1 (by decide) (hts _ wm167) (fun _ h9 => h9) rfl d_Ca_setReduced_13 ?_
  refine gs (pc' := 17) (fun _ _ _ _ _ hl => lv_aload_n hx hb d_Ca_setReduced_16 rfl (lv_at hl 3 rfl)) ?_
  refine gs (pc' := 19) (fun _ _ _ _ _ hl => lv_aload hx hb d_Ca_setReduced_17 (lv_at hl 0 rfl)) ?_
  refine g_outv hlo (g_runV (As := [.ref (ad ta), .ref h1, .ref (ad 3)]) (rest := []) ⟨hx, hb, hml, hown, hts⟩ hK hZ hRc hRs (n_setQuotient l D cA lo MC MS G_3 B_4 X ad V_7 W_22 hX1 hX2 hk hd hc f_17 f_18 (cdO_i f_11) ta (sc_30 hta hta2 htb htb2 htab hto hto2 hkk) (sc_31 hta hta2 htb htb2 htab hto hto2 hkk) h1 v1 (ad 3) (Nat.gcd v1 v2) k1 (rd_mono (P1 := fun x => 3 ≤ x) rd_20 (sc_29 hta hta2 htb htb2 htab hto hto2 hkk)) (rd_w2' (P := fun x => 3 ≤ x) W_22 (by decide) (by decide) k_9) hk1 (sc_25 hta hta2 htb htb2 htab hto hto2 hkk) (Nat.gcd_pos_of_pos_right _ hv0)) (fun _ _ => cwV 3 hts (tb_good (tb_cons wm489 (tb_cons wm491 (tb_cons ws9 (tb_cons wm3 k_Ca_setQuotient))))) rfl rfl rfl (by decide +kernel) ⟨by rw [hRf]; exact Nat.le_of_ble_eq_true rfl, by rw [hRl]; exact Nat.le_of_ble_eq_true rfl⟩) f_17 rfl bl_24 bl_25 rfl (Nat.le_of_ble_eq_true rfl) d_Ca_setReduced_19) (fun G_26 B_27 p_28 => ?_)
  obtain ⟨V_29, s_30, k_31⟩ := p_28
  have lt_32 : v1 / (Nat.gcd v1 v2) < 1000000000 ^ k1 := Nat.lt_of_le_of_lt (Nat.div_le_self _ _) hk1
  have f_33 : G_26 hk = some (30, .inr (0, [.ref hd, .ref hc, .ref (ad 5), .ref (ad 6), .ref (ad 7), .ref (ad 8), .ref (ad 9), .ref (ad 10)])) := s_30.2.2 _ _ f_17 (sc_32 hta hta2 htb htb2 htab hto hto2 hkk)
  have f_34 : G_26 hd = some (30, .inr (2, [.ref (ad 0), .ref (ad 1), .ref (ad 2)])) := s_30.2.2 _ _ f_18 (sc_32 hta hta2 htb htb2 htab hto hto2 hkk)
  have f_35 : G_26 hf = some (to, .inr (3, [.int sf, .ref (ad ta), .ref (ad tb)])) := s_30.2.2 _ _ f_19 (sc_33 hta hta2 htb htb2 htab hto hto2 hkk)
  have f_36 : G_26 hc = some (19, .inr (1, [.ref hd, .ref (ad 3), .ref (ad 4), .long g_12, .long g_13, .long g_14, .long g_15])) := s_30.2.2 _ _ f_11 (sc_34 hta hta2 htb htb2 htab hto hto2 hkk)
  have k_37 : V_29 3 = Nat.gcd v1 v2 := (s_30.2.1 3 (sc_35 hta hta2 htb htb2 htab hto hto2 hkk)).trans k_9
  have rd_38 := rd_fr rd_20 s_30.2.2 (sc_36 hta hta2 htb htb2 htab hto hto2 hkk)
  have rd_39 := rd_fr rd_21 s_30.2.2 (sc_36 hta hta2 htb htb2 htab hto hto2 hkk)
  have W_40 := s_30.1
  have S_41 : w2s cA X ad (fun x => x < 5 ∨ x = 19 ∨ x = ta ∨ x = tb) G V V_29 (G_26, B_27) := w2s_mono (w2s_tr S_23 s_30) (sc_37 hta hta2 htb htb2 htab hto hto2 hkk)
  have bl_42 : B_27.1 ≤ MC := Nat.le_trans (w2_le W_40).1 hX1
  have bl_43 : B_27.2 ≤ MS := Nat.le_trans (w2_le W_40).2 hX2
  refine gs (pc' := 23) (fun _ _ _ _ _ hl => lv_aload_n hx hb d_Ca_setReduced_22 rfl (lv_at hl 1 rfl)) ?_
  refine gs (pc' := 24) (fun _ _ _ _ _ hl => lv_aload_n hx hb d_Ca_setReduced_23 rfl (lv_at hl 2 rfl)) ?_
  refine g_get hx hb hts hin_Fr hown hK f_35 rfl 2 (by decide) (hts _ wm170) (fun _ h9 => h9) rfl d_Ca_setReduced_24 ?_
  refine gs (pc' := 28) (fun _ _ _ _ _ hl => lv_aload_n hx hb d_Ca_setReduced_27 rfl (lv_at hl 4 rfl)) ?_
  refine gs (pc' := 30) (fun _ _ _ _ _ hl => lv_aload hx hb d_Ca_setReduced_28 (lv_at hl 0 rfl)) ?_
  refine g_outv hlo (g_runV (As := [.ref (ad tb), .ref h2, .ref (ad 3)]) (rest := []) ⟨hx, hb, hml, hown, hts⟩ hK hZ hRc hRs (n_setQuotient l D cA lo MC MS G_26 B_27 X ad V_29 W_40 hX1 hX2 hk hd hc f_33 f_34 (cdO_i f_36) tb (sc_38 hta hta2 htb htb2 htab hto hto2 hkk) (sc_39 hta hta2 htb htb2 htab hto hto2 hkk) h2 v2 (ad 3) (Nat.gcd v1 v2) k1 (rd_mono (P1 := fun x => 3 ≤ x) rd_39 (sc_29 hta hta2 htb htb2 htab hto hto2 hkk)) (rd_w2' (P := fun x => 3 ≤ x) W_40 (by decide) (by decide) k_37) hk2 (sc_25 hta hta2 htb htb2 htab hto hto2 hkk) (Nat.gcd_pos_of_pos_right _ hv0)) (fun _ _ => cwV 3 hts (tb_good (tb_cons wm489 (tb_cons wm491 (tb_cons ws9 (tb_cons wm3 k_Ca_setQuotient))))) rfl rfl rfl (by decide +kernel) ⟨by rw [hRf]; exact Nat.le_of_ble_eq_true rfl, by rw [hRl]; exact Nat.le_of_ble_eq_true rfl⟩) f_33 rfl bl_42 bl_43 rfl (Nat.le_of_ble_eq_true rfl) d_Ca_setReduced_30) (fun G_44 B_45 p_46 => ?_)
  obtain ⟨V_47, s_48, k_49⟩ := p_46
  have lt_50 : v2 / (Nat.gcd v1 v2) < 1000000000 ^ k1 := Nat.lt_of_le_of_lt (Nat.div_le_self _ _) hk2
  have f_51 : G_44 hk = some (30, .inr (0, [.ref hd, .ref hc, .ref (ad 5), .ref (ad 6), .ref (ad 7), .ref (ad 8), .ref (ad 9), .ref (ad 10)])) := s_48.2.2 _ _ f_33 (sc_40 hta hta2 htb htb2 htab hto hto2 hkk)
  have f_52 : G_44 hd = some (30, .inr (2, [.ref (ad 0), .ref (ad 1), .ref (ad 2)])) := s_48.2.2 _ _ f_34 (sc_40 hta hta2 htb htb2 htab hto hto2 hkk)
  have f_53 : G_44 hf = some (to, .inr (3, [.int sf, .ref (ad ta), .ref (ad tb)])) := s_48.2.2 _ _ f_35 (sc_41 hta hta2 htb htb2 htab hto hto2 hkk)
  have f_54 : G_44 hc = some (19, .inr (1, [.ref hd, .ref (ad 3), .ref (ad 4), .long g_12, .long g_13, .long g_14, .long g_15])) := s_48.2.2 _ _ f_36 (sc_42 hta hta2 htb htb2 htab hto hto2 hkk)
  have k_55 : V_47 3 = Nat.gcd v1 v2 := (s_48.2.1 3 (sc_43 hta hta2 htb htb2 htab hto hto2 hkk)).trans k_37
  have k_56 : V_47 ta = v1 / (Nat.gcd v1 v2) := (s_48.2.1 ta (sc_44 hta hta2 htb htb2 htab hto hto2 hkk)).trans k_31
  have rd_57 := rd_fr rd_38 s_48.2.2 (sc_45 hta hta2 htb htb2 htab hto hto2 hkk)
  have rd_58 := rd_fr rd_39 s_48.2.2 (sc_45 hta hta2 htb htb2 htab hto hto2 hkk)
  have W_59 := s_48.1
  have S_60 : w2s cA X ad (fun x => x < 5 ∨ x = 19 ∨ x = ta ∨ x = tb) G V V_47 (G_44, B_45) := w2s_mono (w2s_tr S_41 s_48) (sc_46 hta hta2 htb htb2 htab hto hto2 hkk)
  have bl_61 : B_45.1 ≤ MC := Nat.le_trans (w2_le W_59).1 hX1
  have bl_62 : B_45.2 ≤ MS := Nat.le_trans (w2_le W_59).2 hX2
  exact hret 33 _ _ _ d_Ca_setReduced_33 bl_61 bl_62 ⟨V_47, S_60, k_56, k_49, cdO_i f_54⟩
