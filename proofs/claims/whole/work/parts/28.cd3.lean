set_option maxHeartbeats 4000000 in
set_option maxRecDepth 100000 in
theorem n_useFactors (l : Launch) (D : va_G) (cA : Nat → ClassId) (lo MC MS : Nat) (G : gT) (B : Nat × Nat) (X : Nat × Nat) (ad V : Nat → Nat) (hW : w2 cA X ad V (G, B)) (hX1 : X.1 ≤ MC) (hX2 : X.2 ≤ MS) (hd hc : Nat) (a b cc d : Int) (hhc : G hc = some (19, .inr (1, [.ref hd, .ref (ad 3), .ref (ad 4), .long (lI a), .long (lI b), .long (lI cc), .long (lI d)]))) (A Bn M N k : Nat) (hA : V 3 = A) (hBn : V 4 = Bn) (hBA : Bn ≤ A) (hAk : A < 1000000000 ^ k) (hk : k ≤ 1500) (hM : (M : Int) = a * A + b * Bn) (hN : (N : Int) = cc * A + d * Bn) (hNM : N ≤ M) (hMA : M ≤ A) (ba : lh_bd a) (bb : lh_bd b) (bcc : lh_bd cc) (bd : lh_bd d) : gMet l y_Cd_useFactors w_Cd_useFactors 4 105 D clS (gtys cA) lo MC MS [.ref hc] G B (gQv D clS lo (fun u => ∃ V1, w2s cA X ad (fun x => x = 3 ∨ x = 4) G V V1 u ∧ V1 3 = M ∧ V1 4 = N)) := by
  refine g_metv (cc := prog_3_method_5_code) (nL := 15) (L := [(0, .ref hc)]) (by decide +kernel) rfl (Nat.le_of_ble_eq_true rfl) rfl ?_
  intro p e R s m args below meth c Q hF hRc hRs hRf hRl hret
  obtain ⟨hx, hb, hr, hml, hts0, hown, hlocks, hin, hK, hlo, hZ⟩ := hF
  have hts : ∀ w ∈ tbg, w.before args s = true := fun w h => hts0 w (List.mem_cons_of_mem _ h)
  have hW0 := hW
  obtain ⟨κ, hκ, hb1, hb2⟩ := hW0
  have hb1 : B.1 + 57000 ≤ X.1 + ks κ 19 := hb1
  have hb2 : B.2 + 114000 ≤ X.2 + 2 * ks κ 19 := hb2
  have hBl := w2_le hW
  have hk2 := ks_2 hκ
  have hB1 : B.1 ≤ MC := by omega
  have hB2 : B.2 ≤ MS := by omega
  obtain ⟨⟨a3, z, f3, gh3, ga3, gz3, gD3⟩, gc3⟩ := hκ 3 (by decide)
  rw [hA] at gD3
  obtain ⟨⟨a4, z4, f4, gh4, ga4, gz4, gD4⟩, gc4⟩ := hκ 4 (by decide)
  rw [hBn] at gD4
  have hzk := isD_size gD3 hAk
  have hAlt := isD_lt gD3
  have hz4 := isD_size gD4 (Nat.lt_of_le_of_lt hBA hAlt)
  have hg9 := gcap_3 (c := κ 4) (k := z) (by omega) (by omega)
  have hg8 := gcap_ge (κ 4) z
  refine gs (pc' := 1) (fun _ _ _ _ _ hl => lv_aload_n hx hb d_Cd_useFactors_0 rfl (lv_at hl 0 rfl)) ?_
  refine g_get hx hb hts hin_Cd hown hK hhc rfl 1 (by decide) (hts _ wm107) (fun _ h9 => h9) rfl d_Cd_useFactors_1 ?_
  refine g_get hx hb hts hin_Na hown hK gh3 rfl 1 (by decide) (hts _ wm77) (fun _ h9 => h9) rfl d_Cd_useFactors_4 ?_
  refine gst (pc' := 8) (L' := [(1, .int (nI z)), (0, .ref hc)]) (fun _ _ _ _ _ hl => lv_istore_n hx hb d_Cd_useFactors_7 rfl hl (by decide) rfl) ?_
  refine gs (pc' := 9) (fun _ _ _ _ _ hl => lv_aload_n hx hb d_Cd_useFactors_8 rfl (lv_at hl 1 rfl)) ?_
  refine g_get hx hb hts hin_Cd hown hK hhc rfl 2 (by decide) (hts _ wm108) (fun _ h9 => h9) rfl d_Cd_useFactors_9 ?_
  refine gs (pc' := 13) (fun _ _ _ _ _ hl => lv_iload_n hx hb d_Cd_useFactors_12 rfl (lv_at hl 0 rfl)) ?_
  refine g_outv hlo (g_runV (As := [.int (nI z)]) (rest := []) ⟨hx, hb, hml, hown, hts⟩ hK hZ hRc hRs (c_Na_widen l D cA lo MC MS G B 4 (ad 4) a4 z4 (κ 4) f4 gh4 ga4 (by omega) (by omega) z (by omega) (by omega) (by omega) (by omega) hB1 hB2) (fun _ _ => cwV 1 hts (tb_good (tb_cons wm437 (tb_cons wm438 (tb_cons wm439 (tb_cons wm5 k_Na_widen))))) rfl rfl rfl (by decide +kernel) ⟨by rw [hRf]; exact Nat.le_of_ble_eq_true rfl, by rw [hRl]; exact Nat.le_of_ble_eq_true rfl⟩) gh4 rfl hB1 hB2 rfl (Nat.le_of_ble_eq_true rfl) d_Cd_useFactors_13) (fun G_1 B_2 p_3 => ?_)
  obtain ⟨a_4, g_5, e_6, e_7, e_8, e_9, e_10, e_11, e_12⟩ := p_3
  have e_11 : B_2.1 + (κ 4) ≤ B.1 + gcap (κ 4) z := e_11
  have e_12 : B_2.2 + 2 * (κ 4) ≤ B.2 + 2 * gcap (κ 4) z := e_12
  have gg_13 := gcap_ge (κ 4) z
  have gg_14 : gcap (κ 4) z ≤ 2 * 50000 := gcap_le (by omega) (by omega)
  have f_15 : G_1 hc = some (19, .inr (1, [.ref hd, .ref (ad 3), .ref (ad 4), .long (lI a), .long (lI b), .long (lI cc), .long (lI d)])) := e_10 _ _ hhc (by simp)
  have f_16 : G_1 (ad 3) = some (3, .inr (4, [.ref a3, .int (nI z)])) := e_10 _ _ gh3 (by simp)
  have f_17 : G_1 a3 = some (3, .inl (cA 0, (κ 3), .inl f3)) := e_10 _ _ ga3 (by simp)
  refine gs (pc' := 17) (fun _ _ _ _ _ hl => lv_lconst (v := lN 0) hx hb d_Cd_useFactors_16 (by decide)) ?_
  refine gst (pc' := 18) (L' := [(2, .long (lN 0)), (1, .int (nI z)), (0, .ref hc)]) (fun _ _ _ _ _ hl => lv_lstore_n hx hb d_Cd_useFactors_17 rfl hl (by decide) rfl) ?_
  refine gs (pc' := 19) (fun _ _ _ _ _ hl => lv_lconst (v := lN 0) hx hb d_Cd_useFactors_18 (by decide)) ?_
  refine gst (pc' := 21) (L' := [(4, .long (lN 0)), (2, .long (lN 0)), (1, .int (nI z)), (0, .ref hc)]) (fun _ _ _ _ _ hl => lv_lstore hx hb d_Cd_useFactors_19 hl (by decide) rfl) ?_
  refine gs (pc' := 22) (fun _ _ _ _ _ hl => lv_iconst (v := nI 0) hx hb d_Cd_useFactors_21 (by decide)) ?_
  refine gst (pc' := 24) (L' := [(6, .int (nI 0)), (4, .long (lN 0)), (2, .long (lN 0)), (1, .int (nI z)), (0, .ref hc)]) (fun _ _ _ _ _ hl => lv_istore hx hb d_Cd_useFactors_22 hl (by decide) rfl) ?_
  refine gsub [0, 1, 2, 4, 3] rfl ?_
  have hlp : lim g_5 z := lim_ext (lim_congr gD4.1 e_8) e_9
  have hvp : dv (df g_5) z = Bn := by rw [dv_ext hz4 e_9, dv_dcongr e_8]; exact gD4.2.2
  have loop : ∀ (n i : Nat) (bc sc : Int) (g q : Nat → Int32) (Gk : gT), (i + n = z) → (lim g z) → (lim q z) → (∀ x, i ≤ x → g x = f3 x) → (∀ x, i ≤ x → q x = g_5 x) → (((dv (df g) i : Nat) : Int) + bc * ((1000000000 ^ i : Nat) : Int) = a * ((dv (df f3) i : Nat) : Int) + b * ((dv (df g_5) i : Nat) : Int)) → (((dv (df q) i : Nat) : Int) + sc * ((1000000000 ^ i : Nat) : Int) = cc * ((dv (df f3) i : Nat) : Int) + d * ((dv (df g_5) i : Nat) : Int)) → (-5000000000 ≤ bc) → (bc ≤ 5000000000) → (-5000000000 ≤ sc) → (sc ≤ 5000000000) → (gfr (fun x => x = 3 ∨ x = 4) G Gk) → Gk hc = some (19, .inr (1, [.ref hd, .ref (ad 3), .ref (ad 4), .long (lI a), .long (lI b), .long (lI cc), .long (lI d)])) → Gk (ad 3) = some (3, .inr (4, [.ref a3, .int (nI z)])) → Gk a3 = some (3, .inl (cA 0, (κ 3), .inl g)) → Gk (ad 4) = some (4, .inr (4, [.ref a_4, .int (nI z)])) → Gk a_4 = some (4, .inl (cA 0, (gcap (κ 4) z), .inl q)) → gV p l e R s m args below meth c D clS lo 15 Q 24 [(6, .int (nI i)), (4, .long (lI sc)), (2, .long (lI bc)), (0, .ref hc), (1, .int (nI z))] [] Gk B_2 := by
    intro n
    induction n with
    | zero =>
      intro i bc sc g q Gk hi hg hq hgs hqs hv1 hv2 hbc1 hbc2 hsc1 hsc2 hfr k1 k2 k3 k4 k5
      have hiz : z = i := by omega
      subst hiz
      rw [gD3.2.2, hvp, ← hM] at hv1
      rw [gD3.2.2, hvp, ← hN] at hv2
      have eM := fac_end hv1 (dv_lt (lim_dok hg)) (by omega)
      have eN := fac_end hv2 (dv_lt (lim_dok hq)) (by omega)
      refine gs (pc' := 26) (fun _ _ _ _ _ hl => lv_iload hx hb d_Cd_useFactors_24 (lv_at hl 0 rfl)) ?_
      refine gs (pc' := 27) (fun _ _ _ _ _ hl => lv_iload_n hx hb d_Cd_useFactors_26 rfl (lv_at hl 4 rfl)) ?_
      refine gsb (pc1 := 159) (pc2 := 30) (fun _ _ _ _ _ => lv_icmp_ge (tgt := 159) hx hb d_Cd_useFactors_27 (by decide)) (fun c_18 => ?_) (fun c_18 => ?_)
      · skip
        have nc_18 : z ≥ z := (nn_ge (a := z) (b := z) (by omega) (by omega)).1 c_18
        refine gs (pc' := 160) (fun _ _ _ _ _ hl => lv_aload_n hx hb d_Cd_useFactors_159 rfl (lv_at hl 3 rfl)) ?_
        refine g_get hx hb hts hin_Cd hown hK k1 rfl 1 (by decide) (hts _ wm107) (fun _ h9 => h9) rfl d_Cd_useFactors_160 ?_
        refine g_outv hlo (g_runV (As := []) (rest := []) ⟨hx, hb, hml, hown, hts⟩ hK hZ hRc hRs (c_Na_trim l D cA lo MC MS Gk B_2 3 (ad 3) a3 z (κ 3) g k2 k3 (by omega) (by omega) hg (show B_2.1 ≤ MC by omega) (show B_2.2 ≤ MS by omega)) (fun _ _ => cwV 0 hts (tb_good (tb_cons wm445 (tb_cons wm213 (tb_cons wm214 (tb_cons wm5 k_Na_trim))))) rfl rfl rfl (by decide +kernel) ⟨by rw [hRf]; exact Nat.le_of_ble_eq_true rfl, by rw [hRl]; exact Nat.le_of_ble_eq_true rfl⟩) k2 rfl (show B_2.1 ≤ MC by omega) (show B_2.2 ≤ MS by omega) rfl (Nat.le_of_ble_eq_true rfl) d_Cd_useFactors_163) (fun G_19 B_20 p_21 => ?_)
        obtain ⟨e_22, z_23, e_24, e_25, e_26, f_27, o_28⟩ := p_21
        have e_22 : B_2 = B_20 := (show B_20 = B_2 from e_22).symm
        subst e_22
        have f_29 : G_19 hc = some (19, .inr (1, [.ref hd, .ref (ad 3), .ref (ad 4), .long (lI a), .long (lI b), .long (lI cc), .long (lI d)])) := (o_28 _ (gne k1 k2 (fun e => by cases e))).trans k1
        have f_30 : G_19 a3 = some (3, .inl (cA 0, (κ 3), .inl g)) := (o_28 _ (gne k3 k2 (fun e => by cases e))).trans k3
        have f_31 : G_19 (ad 4) = some (4, .inr (4, [.ref a_4, .int (nI z)])) := (o_28 _ (gne k4 k2 (by simp))).trans k4
        have f_32 : G_19 a_4 = some (4, .inl (cA 0, (gcap (κ 4) z), .inl q)) := (o_28 _ (gne k5 k2 (fun e => by cases e))).trans k5
        refine gs (pc' := 167) (fun _ _ _ _ _ hl => lv_aload_n hx hb d_Cd_useFactors_166 rfl (lv_at hl 3 rfl)) ?_
        refine g_get hx hb hts hin_Cd hown hK f_29 rfl 2 (by decide) (hts _ wm108) (fun _ h9 => h9) rfl d_Cd_useFactors_167 ?_
        refine g_outv hlo (g_runV (As := []) (rest := []) ⟨hx, hb, hml, hown, hts⟩ hK hZ hRc hRs (c_Na_trim l D cA lo MC MS G_19 B_2 4 (ad 4) a_4 z (gcap (κ 4) z) q f_31 f_32 (by omega) (by omega) hq (show B_2.1 ≤ MC by omega) (show B_2.2 ≤ MS by omega)) (fun _ _ => cwV 0 hts (tb_good (tb_cons wm445 (tb_cons wm213 (tb_cons wm214 (tb_cons wm5 k_Na_trim))))) rfl rfl rfl (by decide +kernel) ⟨by rw [hRf]; exact Nat.le_of_ble_eq_true rfl, by rw [hRl]; exact Nat.le_of_ble_eq_true rfl⟩) f_31 rfl (show B_2.1 ≤ MC by omega) (show B_2.2 ≤ MS by omega) rfl (Nat.le_of_ble_eq_true rfl) d_Cd_useFactors_170) (fun G_33 B_34 p_35 => ?_)
        obtain ⟨e_36, z_37, e_38, e_39, e_40, f_41, o_42⟩ := p_35
        have e_36 : B_2 = B_34 := (show B_34 = B_2 from e_36).symm
        subst e_36
        have f_43 : G_33 hc = some (19, .inr (1, [.ref hd, .ref (ad 3), .ref (ad 4), .long (lI a), .long (lI b), .long (lI cc), .long (lI d)])) := (o_42 _ (gne f_29 f_31 (fun e => by cases e))).trans f_29
        have f_44 : G_33 a3 = some (3, .inl (cA 0, (κ 3), .inl g)) := (o_42 _ (gne f_30 f_31 (fun e => by cases e))).trans f_30
        have f_45 : G_33 a_4 = some (4, .inl (cA 0, (gcap (κ 4) z), .inl q)) := (o_42 _ (gne f_32 f_31 (fun e => by cases e))).trans f_32
        have f_46 : G_33 (ad 3) = some (3, .inr (4, [.ref a3, .int (nI z_23)])) := (o_42 _ (gne f_27 f_31 (by simp))).trans f_27
        have hfrX : gfr (fun x => x = 3 ∨ x = 4) G G_33 := gfr_put (gfr_put hfr k2 (Or.inl rfl) o_28) f_31 (Or.inr rfl) o_42
        obtain ⟨V1, hs, e0, e1⟩ := w2_two (u := (G_33, B_2)) hκ hb1 hb2 (s := 3) (t := 4) (by decide) (by decide) (by decide) hfrX ⟨_, _, _, f_46, f_44, by omega, ⟨lim_le hg e_24, e_25, e_26.trans eM⟩⟩ ⟨_, _, _, f_41, f_45, by omega, ⟨lim_le hq e_38, e_39, e_40.trans eN⟩⟩ (by omega) (by omega) (by show B_2.1 + _ + _ ≤ _; omega) (by show B_2.2 + _ + _ ≤ _; omega)
        exact hret 173 _ _ _ d_Cd_useFactors_173 (show B_2.1 ≤ MC by omega) (show B_2.2 ≤ MS by omega) ⟨V1, hs, e0, e1⟩
      · skip
        have nc_18 : z < z := (nn_ge (a := z) (b := z) (by omega) (by omega)).2 c_18
        exact absurd nc_18 (by omega)
    | succ n ih =>
      intro i bc sc g q Gk hi hg hq hgs hqs hv1 hv2 hbc1 hbc2 hsc1 hsc2 hfr k1 k2 k3 k4 k5
      have hx9 : df g i < 1000000000 := (hg i (by omega)).2
      have hy9 : df q i < 1000000000 := (hq i (by omega)).2
      have hgi : df g i = df f3 i := by unfold df; rw [hgs i (Nat.le_refl _)]
      have hqi : df q i = df g_5 i := by unfold df; rw [hqs i (Nat.le_refl _)]
      have m1 := fb_mul ba.1 ba.2 hx9
      have m2 := fb_mul bb.1 bb.2 hy9
      have m3 := fb_mul bcc.1 bcc.2 hx9
      have m4 := fb_mul bd.1 bd.2 hy9
      refine gs (pc' := 26) (fun _ _ _ _ _ hl => lv_iload hx hb d_Cd_useFactors_24 (lv_at hl 0 rfl)) ?_
      refine gs (pc' := 27) (fun _ _ _ _ _ hl => lv_iload_n hx hb d_Cd_useFactors_26 rfl (lv_at hl 4 rfl)) ?_
      refine gsb (pc1 := 159) (pc2 := 30) (fun _ _ _ _ _ => lv_icmp_ge (tgt := 159) hx hb d_Cd_useFactors_27 (by decide)) (fun c_47 => ?_) (fun c_47 => ?_)
      · skip
        have nc_47 : i ≥ z := (nn_ge (a := i) (b := z) (by omega) (by omega)).1 c_47
        exact absurd nc_47 (by omega)
      · skip
        have nc_47 : i < z := (nn_ge (a := i) (b := z) (by omega) (by omega)).2 c_47
        refine gs (pc' := 31) (fun _ _ _ _ _ hl => lv_aload_n hx hb d_Cd_useFactors_30 rfl (lv_at hl 3 rfl)) ?_
        refine g_get hx hb hts hin_Cd hown hK k1 rfl 1 (by decide) (hts _ wm107) (fun _ h9 => h9) rfl d_Cd_useFactors_31 ?_
        refine g_get hx hb hts hin_Na hown hK k2 rfl 0 (by decide) (hts _ wm74) (fun _ h9 => h9) rfl d_Cd_useFactors_34 ?_
        refine gs (pc' := 39) (fun _ _ _ _ _ hl => lv_iload hx hb d_Cd_useFactors_37 (lv_at hl 0 rfl)) ?_
        refine g_iald hx hb hK 0 k3 rfl (show vp_in (nI i) (κ 3) from vp_in_nI (by omega) (by omega)) d_Cd_useFactors_39 ?_
        refine g_eqi (show g (nI i).toNatClampNeg = g i from by rw [nI_clamp (by omega)]) ?_
        have b_48 : df g i < 1000000000 := (hg i (by omega)).2
        refine g_eqi (show g i = nI (df g i) from (hg i (by omega)).1) ?_
        refine gs (pc' := 41) (fun _ _ _ _ _ hl => lv_i2l (v := lN (df g i)) hx hb d_Cd_useFactors_40 (nI_l (by omega))) ?_
        refine gst (pc' := 43) (L' := [(7, .long (lN (df g i))), (6, .int (nI i)), (4, .long (lI sc)), (2, .long (lI bc)), (0, .ref hc), (1, .int (nI z))]) (fun _ _ _ _ _ hl => lv_lstore hx hb d_Cd_useFactors_41 hl (by decide) rfl) ?_
        refine gs (pc' := 44) (fun _ _ _ _ _ hl => lv_aload_n hx hb d_Cd_useFactors_43 rfl (lv_at hl 4 rfl)) ?_
        refine g_get hx hb hts hin_Cd hown hK k1 rfl 2 (by decide) (hts _ wm108) (fun _ h9 => h9) rfl d_Cd_useFactors_44 ?_
        refine g_get hx hb hts hin_Na hown hK k4 rfl 0 (by decide) (hts _ wm74) (fun _ h9 => h9) rfl d_Cd_useFactors_47 ?_
        refine gs (pc' := 52) (fun _ _ _ _ _ hl => lv_iload hx hb d_Cd_useFactors_50 (lv_at hl 1 rfl)) ?_
        refine g_iald hx hb hK 0 k5 rfl (show vp_in (nI i) (gcap (κ 4) z) from vp_in_nI (by omega) (by omega)) d_Cd_useFactors_52 ?_
        refine g_eqi (show q (nI i).toNatClampNeg = q i from by rw [nI_clamp (by omega)]) ?_
        have b_49 : df q i < 1000000000 := (hq i (by omega)).2
        refine g_eqi (show q i = nI (df q i) from (hq i (by omega)).1) ?_
        refine gs (pc' := 54) (fun _ _ _ _ _ hl => lv_i2l (v := lN (df q i)) hx hb d_Cd_useFactors_53 (nI_l (by omega))) ?_
        refine gst (pc' := 56) (L' := [(9, .long (lN (df q i))), (7, .long (lN (df g i))), (6, .int (nI i)), (4, .long (lI sc)), (2, .long (lI bc)), (0, .ref hc), (1, .int (nI z))]) (fun _ _ _ _ _ hl => lv_lstore hx hb d_Cd_useFactors_54 hl (by decide) rfl) ?_
        refine gs (pc' := 57) (fun _ _ _ _ _ hl => lv_aload_n hx hb d_Cd_useFactors_56 rfl (lv_at hl 5 rfl)) ?_
        refine g_get hx hb hts hin_Cd hown hK k1 rfl 3 (by decide) (hts _ wm109) (fun _ h9 => h9) rfl d_Cd_useFactors_57 ?_
        refine gs (pc' := 62) (fun _ _ _ _ _ hl => lv_lload hx hb d_Cd_useFactors_60 (lv_at hl 1 rfl)) ?_
        refine gs (pc' := 63) (fun _ _ _ _ _ hl => lv_lmul hx hb d_Cd_useFactors_62) ?_
        refine g_eql (show (lI a) * (lN (df g i)) = lI (a * ((df g i : Nat) : Int)) from lIN_mul _ _) ?_
        refine gs (pc' := 64) (fun _ _ _ _ _ hl => lv_aload_n hx hb d_Cd_useFactors_63 rfl (lv_at hl 5 rfl)) ?_
        refine g_get hx hb hts hin_Cd hown hK k1 rfl 4 (by decide) (hts _ wm110) (fun _ h9 => h9) rfl d_Cd_useFactors_64 ?_
        refine gs (pc' := 69) (fun _ _ _ _ _ hl => lv_lload hx hb d_Cd_useFactors_67 (lv_at hl 0 rfl)) ?_
        refine gs (pc' := 70) (fun _ _ _ _ _ hl => lv_lmul hx hb d_Cd_useFactors_69) ?_
        refine g_eql (show (lI b) * (lN (df q i)) = lI (b * ((df q i : Nat) : Int)) from lIN_mul _ _) ?_
        refine gs (pc' := 71) (fun _ _ _ _ _ hl => lv_ladd hx hb d_Cd_useFactors_70) ?_
        refine g_eql (show (lI (a * ((df g i : Nat) : Int))) + (lI (b * ((df q i : Nat) : Int))) = lI ((a * ((df g i : Nat) : Int)) + (b * ((df q i : Nat) : Int))) from lI_add _ _) ?_
        refine gs (pc' := 72) (fun _ _ _ _ _ hl => lv_lload_n hx hb d_Cd_useFactors_71 rfl (lv_at hl 4 rfl)) ?_
        refine gs (pc' := 73) (fun _ _ _ _ _ hl => lv_ladd hx hb d_Cd_useFactors_72) ?_
        refine g_eql (show (lI ((a * ((df g i : Nat) : Int)) + (b * ((df q i : Nat) : Int)))) + (lI bc) = lI (((a * ((df g i : Nat) : Int)) + (b * ((df q i : Nat) : Int))) + bc) from lI_add _ _) ?_
        obtain ⟨pb, hpb⟩ : ∃ pb, pb = ((a * ((df g i : Nat) : Int)) + (b * ((df q i : Nat) : Int))) + bc := ⟨_, rfl⟩
        refine g_eql (show lI (((a * ((df g i : Nat) : Int)) + (b * ((df q i : Nat) : Int))) + bc) = lI pb from congrArg lI hpb.symm) ?_
        refine gst (pc' := 75) (L' := [(11, .long (lI pb)), (9, .long (lN (df q i))), (7, .long (lN (df g i))), (6, .int (nI i)), (4, .long (lI sc)), (2, .long (lI bc)), (0, .ref hc), (1, .int (nI z))]) (fun _ _ _ _ _ hl => lv_lstore hx hb d_Cd_useFactors_73 hl (by decide) rfl) ?_
        refine gs (pc' := 76) (fun _ _ _ _ _ hl => lv_aload_n hx hb d_Cd_useFactors_75 rfl (lv_at hl 6 rfl)) ?_
        refine g_get hx hb hts hin_Cd hown hK k1 rfl 5 (by decide) (hts _ wm111) (fun _ h9 => h9) rfl d_Cd_useFactors_76 ?_
        refine gs (pc' := 81) (fun _ _ _ _ _ hl => lv_lload hx hb d_Cd_useFactors_79 (lv_at hl 2 rfl)) ?_
        refine gs (pc' := 82) (fun _ _ _ _ _ hl => lv_lmul hx hb d_Cd_useFactors_81) ?_
        refine g_eql (show (lI cc) * (lN (df g i)) = lI (cc * ((df g i : Nat) : Int)) from lIN_mul _ _) ?_
        refine gs (pc' := 83) (fun _ _ _ _ _ hl => lv_aload_n hx hb d_Cd_useFactors_82 rfl (lv_at hl 6 rfl)) ?_
        refine g_get hx hb hts hin_Cd hown hK k1 rfl 6 (by decide) (hts _ wm112) (fun _ h9 => h9) rfl d_Cd_useFactors_83 ?_
        refine gs (pc' := 88) (fun _ _ _ _ _ hl => lv_lload hx hb d_Cd_useFactors_86 (lv_at hl 1 rfl)) ?_
        refine gs (pc' := 89) (fun _ _ _ _ _ hl => lv_lmul hx hb d_Cd_useFactors_88) ?_
        refine g_eql (show (lI d) * (lN (df q i)) = lI (d * ((df q i : Nat) : Int)) from lIN_mul _ _) ?_
        refine gs (pc' := 90) (fun _ _ _ _ _ hl => lv_ladd hx hb d_Cd_useFactors_89) ?_
        refine g_eql (show (lI (cc * ((df g i : Nat) : Int))) + (lI (d * ((df q i : Nat) : Int))) = lI ((cc * ((df g i : Nat) : Int)) + (d * ((df q i : Nat) : Int))) from lI_add _ _) ?_
        refine gs (pc' := 92) (fun _ _ _ _ _ hl => lv_lload hx hb d_Cd_useFactors_90 (lv_at hl 4 rfl)) ?_
        refine gs (pc' := 93) (fun _ _ _ _ _ hl => lv_ladd hx hb d_Cd_useFactors_92) ?_
        refine g_eql (show (lI ((cc * ((df g i : Nat) : Int)) + (d * ((df q i : Nat) : Int)))) + (lI sc) = lI (((cc * ((df g i : Nat) : Int)) + (d * ((df q i : Nat) : Int))) + sc) from lI_add _ _) ?_
        obtain ⟨ps, hps⟩ : ∃ ps, ps = ((cc * ((df g i : Nat) : Int)) + (d * ((df q i : Nat) : Int))) + sc := ⟨_, rfl⟩
        refine g_eql (show lI (((cc * ((df g i : Nat) : Int)) + (d * ((df q i : Nat) : Int))) + sc) = lI ps from congrArg lI hps.symm) ?_
        refine gst (pc' := 95) (L' := [(13, .long (lI ps)), (11, .long (lI pb)), (9, .long (lN (df q i))), (7, .long (lN (df g i))), (6, .int (nI i)), (4, .long (lI sc)), (2, .long (lI bc)), (0, .ref hc), (1, .int (nI z))]) (fun _ _ _ _ _ hl => lv_lstore hx hb d_Cd_useFactors_93 hl (by decide) rfl) ?_
        refine gs (pc' := 97) (fun _ _ _ _ _ hl => lv_lload hx hb d_Cd_useFactors_95 (lv_at hl 1 rfl)) ?_
        refine gs (pc' := 100) (fun _ _ _ _ _ hl => lv_ldc2 (v := 1000000000) hx hb hown (hts _ wm441) d_Cd_useFactors_97) ?_
        refine g_eql (show 1000000000 = lN 1000000000 from rfl) ?_
        refine g_outl hlo (g_runS (As := [.long (lI pb), .long (lN 1000000000)]) (rest := []) ⟨hx, hb, hml, hown, hts⟩ hK hZ hRc hRs (c_Math_floorDiv l D cA lo MC MS Gk B_2 pb (by omega) (by omega) (show B_2.1 ≤ MC by omega) (show B_2.2 ≤ MS by omega)) (fun _ _ => va_cwS 2 hts (tb_good (tb_cons wm442 (tb_cons wm443 (tb_cons wm6 k_Math_floorDiv)))) rfl rfl rfl (by decide +kernel) ⟨by rw [hRf]; exact Nat.le_of_ble_eq_true rfl, by rw [hRl]; exact Nat.le_of_ble_eq_true rfl⟩) (show B_2.1 ≤ MC by omega) (show B_2.2 ≤ MS by omega) rfl (Nat.le_of_ble_eq_true rfl) d_Cd_useFactors_100) (fun r_53 G_50 B_51 p_52 => ?_)
        obtain ⟨u_54, v_55⟩ := p_52
        cases u_54
        subst v_55
        refine gst (pc' := 104) (L' := [(2, .long (lI (pb / 1000000000))), (13, .long (lI ps)), (11, .long (lI pb)), (9, .long (lN (df q i))), (7, .long (lN (df g i))), (6, .int (nI i)), (4, .long (lI sc)), (0, .ref hc), (1, .int (nI z))]) (fun _ _ _ _ _ hl => lv_lstore_n hx hb d_Cd_useFactors_103 rfl hl (by decide) rfl) ?_
        refine gs (pc' := 106) (fun _ _ _ _ _ hl => lv_lload hx hb d_Cd_useFactors_104 (lv_at hl 1 rfl)) ?_
        refine gs (pc' := 109) (fun _ _ _ _ _ hl => lv_ldc2 (v := 1000000000) hx hb hown (hts _ wm441) d_Cd_useFactors_106) ?_
        refine g_eql (show 1000000000 = lN 1000000000 from rfl) ?_
        refine g_outl hlo (g_runS (As := [.long (lI ps), .long (lN 1000000000)]) (rest := []) ⟨hx, hb, hml, hown, hts⟩ hK hZ hRc hRs (c_Math_floorDiv l D cA lo MC MS Gk B_2 ps (by omega) (by omega) (show B_2.1 ≤ MC by omega) (show B_2.2 ≤ MS by omega)) (fun _ _ => va_cwS 2 hts (tb_good (tb_cons wm442 (tb_cons wm443 (tb_cons wm6 k_Math_floorDiv)))) rfl rfl rfl (by decide +kernel) ⟨by rw [hRf]; exact Nat.le_of_ble_eq_true rfl, by rw [hRl]; exact Nat.le_of_ble_eq_true rfl⟩) (show B_2.1 ≤ MC by omega) (show B_2.2 ≤ MS by omega) rfl (Nat.le_of_ble_eq_true rfl) d_Cd_useFactors_109) (fun r_59 G_56 B_57 p_58 => ?_)
        obtain ⟨u_60, v_61⟩ := p_58
        cases u_60
        subst v_61
        refine gst (pc' := 114) (L' := [(4, .long (lI (ps / 1000000000))), (2, .long (lI (pb / 1000000000))), (13, .long (lI ps)), (11, .long (lI pb)), (9, .long (lN (df q i))), (7, .long (lN (df g i))), (6, .int (nI i)), (0, .ref hc), (1, .int (nI z))]) (fun _ _ _ _ _ hl => lv_lstore hx hb d_Cd_useFactors_112 hl (by decide) rfl) ?_
        refine gs (pc' := 115) (fun _ _ _ _ _ hl => lv_aload_n hx hb d_Cd_useFactors_114 rfl (lv_at hl 7 rfl)) ?_
        refine g_get hx hb hts hin_Cd hown hK k1 rfl 1 (by decide) (hts _ wm107) (fun _ h9 => h9) rfl d_Cd_useFactors_115 ?_
        refine g_get hx hb hts hin_Na hown hK k2 rfl 0 (by decide) (hts _ wm74) (fun _ h9 => h9) rfl d_Cd_useFactors_118 ?_
        refine gs (pc' := 123) (fun _ _ _ _ _ hl => lv_iload hx hb d_Cd_useFactors_121 (lv_at hl 6 rfl)) ?_
        refine gs (pc' := 125) (fun _ _ _ _ _ hl => lv_lload hx hb d_Cd_useFactors_123 (lv_at hl 3 rfl)) ?_
        refine gs (pc' := 126) (fun _ _ _ _ _ hl => lv_lload_n hx hb d_Cd_useFactors_125 rfl (lv_at hl 1 rfl)) ?_
        refine gs (pc' := 129) (fun _ _ _ _ _ hl => lv_ldc2 (v := 1000000000) hx hb hown (hts _ wm441) d_Cd_useFactors_126) ?_
        refine g_eql (show 1000000000 = lN 1000000000 from rfl) ?_
        refine gs (pc' := 130) (fun _ _ _ _ _ hl => lv_lmul hx hb d_Cd_useFactors_129) ?_
        refine g_eql (show (lI (pb / 1000000000)) * (lN 1000000000) = lI ((pb / 1000000000) * ((1000000000 : Nat) : Int)) from lIN_mul _ _) ?_
        refine gs (pc' := 131) (fun _ _ _ _ _ hl => lv_lsub hx hb d_Cd_useFactors_130) ?_
        refine g_eql (show (lI pb) - (lI ((pb / 1000000000) * ((1000000000 : Nat) : Int))) = lI (pb - ((pb / 1000000000) * ((1000000000 : Nat) : Int))) from lI_sub _ _) ?_
        refine gs (pc' := 132) (fun _ _ _ _ _ hl => lv_l2i (v := nI ((pb % 1000000000).toNat)) hx hb d_Cd_useFactors_131 (lI_i (by omega))) ?_
        refine g_iast hx hb hK 0 k3 rfl (show vp_in (nI i) (κ 3) from vp_in_nI (by omega) (by omega)) d_Cd_useFactors_132 (fun G_62 f_63 o_64 => ?_)
        rw [nI_clamp (by omega)] at f_63
        have f_65 : G_62 hc = some (19, .inr (1, [.ref hd, .ref (ad 3), .ref (ad 4), .long (lI a), .long (lI b), .long (lI cc), .long (lI d)])) := (o_64 _ (gne k1 k3 (fun e => by cases e))).trans k1
        have f_66 : G_62 (ad 3) = some (3, .inr (4, [.ref a3, .int (nI z)])) := (o_64 _ (gne k2 k3 (fun e => by cases e))).trans k2
        have f_67 : G_62 (ad 4) = some (4, .inr (4, [.ref a_4, .int (nI z)])) := (o_64 _ (gne k4 k3 (fun e => by cases e))).trans k4
        have f_68 : G_62 a_4 = some (4, .inl (cA 0, (gcap (κ 4) z), .inl q)) := (o_64 _ (gne k5 k3 (by simp))).trans k5
        have w_69 : gfr (fun x => x = 3 ∨ x = 4) G G_62 := gfr_put hfr k3 (Or.inl rfl) o_64
        refine gs (pc' := 134) (fun _ _ _ _ _ hl => lv_aload_n hx hb d_Cd_useFactors_133 rfl (lv_at hl 7 rfl)) ?_
        refine g_get hx hb hts hin_Cd hown hK f_65 rfl 2 (by decide) (hts _ wm108) (fun _ h9 => h9) rfl d_Cd_useFactors_134 ?_
        refine g_get hx hb hts hin_Na hown hK f_67 rfl 0 (by decide) (hts _ wm74) (fun _ h9 => h9) rfl d_Cd_useFactors_137 ?_
        refine gs (pc' := 142) (fun _ _ _ _ _ hl => lv_iload hx hb d_Cd_useFactors_140 (lv_at hl 6 rfl)) ?_
        refine gs (pc' := 144) (fun _ _ _ _ _ hl => lv_lload hx hb d_Cd_useFactors_142 (lv_at hl 2 rfl)) ?_
        refine gs (pc' := 146) (fun _ _ _ _ _ hl => lv_lload hx hb d_Cd_useFactors_144 (lv_at hl 0 rfl)) ?_
        refine gs (pc' := 149) (fun _ _ _ _ _ hl => lv_ldc2 (v := 1000000000) hx hb hown (hts _ wm441) d_Cd_useFactors_146) ?_
        refine g_eql (show 1000000000 = lN 1000000000 from rfl) ?_
        refine gs (pc' := 150) (fun _ _ _ _ _ hl => lv_lmul hx hb d_Cd_useFactors_149) ?_
        refine g_eql (show (lI (ps / 1000000000)) * (lN 1000000000) = lI ((ps / 1000000000) * ((1000000000 : Nat) : Int)) from lIN_mul _ _) ?_
        refine gs (pc' := 151) (fun _ _ _ _ _ hl => lv_lsub hx hb d_Cd_useFactors_150) ?_
        refine g_eql (show (lI ps) - (lI ((ps / 1000000000) * ((1000000000 : Nat) : Int))) = lI (ps - ((ps / 1000000000) * ((1000000000 : Nat) : Int))) from lI_sub _ _) ?_
        refine gs (pc' := 152) (fun _ _ _ _ _ hl => lv_l2i (v := nI ((ps % 1000000000).toNat)) hx hb d_Cd_useFactors_151 (lI_i (by omega))) ?_
        refine g_iast hx hb hK 0 f_68 rfl (show vp_in (nI i) (gcap (κ 4) z) from vp_in_nI (by omega) (by omega)) d_Cd_useFactors_152 (fun G_70 f_71 o_72 => ?_)
        rw [nI_clamp (by omega)] at f_71
        have f_73 : G_70 hc = some (19, .inr (1, [.ref hd, .ref (ad 3), .ref (ad 4), .long (lI a), .long (lI b), .long (lI cc), .long (lI d)])) := (o_72 _ (gne f_65 f_68 (fun e => by cases e))).trans f_65
        have f_74 : G_70 (ad 3) = some (3, .inr (4, [.ref a3, .int (nI z)])) := (o_72 _ (gne f_66 f_68 (fun e => by cases e))).trans f_66
        have f_75 : G_70 (ad 4) = some (4, .inr (4, [.ref a_4, .int (nI z)])) := (o_72 _ (gne f_67 f_68 (fun e => by cases e))).trans f_67
        have f_76 : G_70 a3 = some (3, .inl (cA 0, (κ 3), .inl (upd g i (nI ((pb % 1000000000).toNat))))) := (o_72 _ (gne f_63 f_68 (by simp))).trans f_63
        have w_77 : gfr (fun x => x = 3 ∨ x = 4) G G_70 := gfr_put w_69 f_68 (Or.inr rfl) o_72
        refine gst (pc' := 156) (L' := [(6, .int (nI (i + 1))), (4, .long (lI (ps / 1000000000))), (2, .long (lI (pb / 1000000000))), (13, .long (lI ps)), (11, .long (lI pb)), (9, .long (lN (df q i))), (7, .long (lN (df g i))), (0, .ref hc), (1, .int (nI z))]) (fun _ _ _ _ _ hl => lv_iinc (v := nI (i + 1)) hx hb d_Cd_useFactors_153 hl (k := 6) rfl (nI_add _ 1) (by decide) rfl) ?_
        refine gs (pc' := 24) (fun _ _ _ _ _ hl => lv_goto (tgt := 24) hx hb d_Cd_useFactors_156 (by decide)) ?_
        refine gsub [0, 1, 2, 7, 8] rfl ?_
        exact ih (i + 1) (pb / 1000000000) (ps / 1000000000) (upd g i (nI ((pb % 1000000000).toNat))) (upd q i (nI ((ps % 1000000000).toNat))) G_70 (by omega) (lim_upd hg (by omega)) (lim_upd hq (by omega)) (fun x h1 => by rw [pk_un (by omega)]; exact hgs x (by omega)) (fun x h1 => by rw [pk_un (by omega)]; exact hqs x (by omega)) (fac_step (by omega) hv1 (by rw [← hgi, ← hqi]; exact hpb) (by omega)) (fac_step (by omega) hv2 (by rw [← hgi, ← hqi]; exact hps) (by omega)) (by omega) (by omega) (by omega) (by omega) w_77 f_73 f_74 f_76 f_75 f_71
  have e0 : lN 0 = lI 0 := lN_lI 0
  rw [e0]
  exact loop z 0 0 0 f3 g_5 G_1 (by omega) gD3.1 hlp (fun _ _ => rfl) (fun _ _ => rfl) (by simp [dv_0]) (by simp [dv_0]) (by decide) (by decide) (by decide) (by decide) (gfr_mono e_10 (fun _ h => Or.inr h)) f_15 f_16 f_17 e_6 e_7
