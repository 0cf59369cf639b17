set_option maxHeartbeats 4000000 in
set_option maxRecDepth 100000 in
theorem law_loop {p : Program} {l : Launch} {e : Env} {R : Room} {s : State} {m : MethodId} {args : Array Value} {below : List Frame} {meth : Method} {c : Code} {Q : State → Prop} {D : va_G} {cA : Nat → ClassId} {lo MC MS b n : Nat} {xs : Nat → Int32} (h0 : LC p l R s m args c D cA lo MC MS b n xs) (a : AX) (hm : Nat) (A : Nat → Nat) (ao : Nat) (hret : ∀ (L : List (Nat × Value)) (G : gT) (B : Nat × Nat), B.1 ≤ MC → B.2 ≤ MS → gV p l e R s m args below meth c D clS lo 8 Q 1292 L [] G B) : ∀ (q i : Nat) (X : Nat × Nat) (S : St) (th : Nat) (of : Nat → Int64) (G : gT) (B : Nat × Nat), i + 6 * q ≤ n → n < i + 6 * q + 6 → CW3 cA X a S (G, B) → WF S → MW cA hm A S th none none none G → G ao = some (90, .inl (cA 1, 1, .inr (.inl of))) → X.1 + 6 * q + 6 ≤ MC → X.2 + 209 * q + 209 ≤ MS → gV p l e R s m args below meth c D clS lo 8 Q 23 [(4, .int (nI i)), (3, .ref ao), (2, .ref hm), (1, .ref a.x), (0, .ref b)] [] G B := by
  have h0c := h0
  obtain ⟨hx, hb, hml, hown, hts, hK, hlo, hZ, hRc, hRs, hRf, hRl, hX, hbl, hbA, hn, hfl⟩ := h0
  intro q
  induction q with
  | zero =>
    intro i X S th of G B hi1 hi2 hC3 hW hV hao hY1 hY2
    have hle0 := CW3_le hC3
    have hB1 : B.1 ≤ MC := by omega
    have hB2 : B.2 ≤ MS := by omega
    refine gs (pc' := 25) (fun _ _ _ _ _ hl => lv_iload hx hb d_La_law_23 (lv_at hl 0 rfl)) ?_
    refine gs (pc' := 26) (fun _ _ _ _ _ hl => lv_aload_n hx hb d_La_law_25 rfl (lv_at hl 4 rfl)) ?_
    refine g_slen hx hb hX hbl hbA d_La_law_26 ?_
    refine gs (pc' := 29) (fun _ _ _ _ _ hl => lv_bipush (v := nI 6) hx hb d_La_law_27 (by decide)) ?_
    refine gs (pc' := 30) (fun _ _ _ _ _ hl => lv_isub hx hb d_La_law_29) ?_
    refine g_eqi (show (nI n) - (nI 6) = iI ((n : Int) - 6) from by rw [nI_iI, nI_iI]; exact iI_sub _ _) ?_
    refine gsb (pc1 := 1292) (pc2 := 33) (fun _ _ _ _ _ => lv_icmp_gt (tgt := 1292) hx hb d_La_law_30 (by decide)) (fun c_1 => ?_) (fun c_1 => ?_)
    · skip
      have nc_1 : ((i : Nat) : Int) > ((n : Int) - 6) := (ii_gt (a := ((i : Nat) : Int)) (b := ((n : Int) - 6)) (by omega) (by omega) (by omega) (by omega)).1 (by first | exact c_1 | (have z9 := c_1; simp only [nI_iI] at z9; exact z9))
      exact hret _ G B hB1 hB2
    · skip
      have nc_1 : ((i : Nat) : Int) ≤ ((n : Int) - 6) := (ii_gt (a := ((i : Nat) : Int)) (b := ((n : Int) - 6)) (by omega) (by omega) (by omega) (by omega)).2 (by first | exact c_1 | (have z9 := c_1; simp only [nI_iI] at z9; exact z9))
      exact absurd nc_1 (by omega)
  | succ q ih =>
    intro i X S th of G B hi1 hi2 hC3 hW hV hao hY1 hY2
    have hle0 := CW3_le hC3
    have hB1 : B.1 ≤ MC := by omega
    have hB2 : B.2 ≤ MS := by omega
    refine gs (pc' := 25) (fun _ _ _ _ _ hl => lv_iload hx hb d_La_law_23 (lv_at hl 0 rfl)) ?_
    refine gs (pc' := 26) (fun _ _ _ _ _ hl => lv_aload_n hx hb d_La_law_25 rfl (lv_at hl 4 rfl)) ?_
    refine g_slen hx hb hX hbl hbA d_La_law_26 ?_
    refine gs (pc' := 29) (fun _ _ _ _ _ hl => lv_bipush (v := nI 6) hx hb d_La_law_27 (by decide)) ?_
    refine gs (pc' := 30) (fun _ _ _ _ _ hl => lv_isub hx hb d_La_law_29) ?_
    refine g_eqi (show (nI n) - (nI 6) = iI ((n : Int) - 6) from by rw [nI_iI, nI_iI]; exact iI_sub _ _) ?_
    refine gsb (pc1 := 1292) (pc2 := 33) (fun _ _ _ _ _ => lv_icmp_gt (tgt := 1292) hx hb d_La_law_30 (by decide)) (fun c_2 => ?_) (fun c_2 => ?_)
    · skip
      have nc_2 : ((i : Nat) : Int) > ((n : Int) - 6) := (ii_gt (a := ((i : Nat) : Int)) (b := ((n : Int) - 6)) (by omega) (by omega) (by omega) (by omega)).1 (by first | exact c_2 | (have z9 := c_2; simp only [nI_iI] at z9; exact z9))
      exact absurd nc_2 (by omega)
    · skip
      have nc_2 : ((i : Nat) : Int) ≤ ((n : Int) - 6) := (ii_gt (a := ((i : Nat) : Int)) (b := ((n : Int) - 6)) (by omega) (by omega) (by omega) (by omega)).2 (by first | exact c_2 | (have z9 := c_2; simp only [nI_iI] at z9; exact z9))
      refine gs (pc' := 34) (fun _ _ _ _ _ hl => lv_aload_n hx hb d_La_law_33 rfl (lv_at hl 4 rfl)) ?_
      refine gs (pc' := 36) (fun _ _ _ _ _ hl => lv_iload hx hb d_La_law_34 (lv_at hl 0 rfl)) ?_
      refine g_sld hx hb hX hbl hbA (show vp_in (nI i) n from vp_in_nI (by omega) (by omega)) d_La_law_36 ?_
      rw [nI_clamp (by omega)]
      refine gs (pc' := 39) (fun _ _ _ _ _ hl => lv_bipush (v := nI 31) hx hb d_La_law_37 (by decide)) ?_
      refine gs (pc' := 40) (fun _ _ _ _ _ hl => lv_iand hx hb d_La_law_39) ?_
      refine g_topi (fun t9 _ => ?_)
      have hnx : ∀ (S1 : St) (th1 : Nat) (of1 : Nat → Int64) (G1 : gT) (B1 : Nat × Nat), WF S1 → CW3 cA (X.1 + 6, X.2 + 209) a S1 (G1, B1) → MW cA hm A S1 th1 none none none G1 → G1 ao = some (90, .inl (cA 1, 1, .inr (.inl of1))) → gV p l e R s m args below meth c D clS lo 8 Q 1286 [(4, .int (nI i)), (3, .ref ao), (2, .ref hm), (1, .ref a.x), (0, .ref b)] [] G1 B1 := by
        intro S1 th1 of1 G1 B1 hW1 hC1 hV1 ho1
        refine gst (pc' := 1289) (L' := [(4, .int (nI (i + 6))), (3, .ref ao), (2, .ref hm), (1, .ref a.x), (0, .ref b)]) (fun _ _ _ _ _ hl => lv_iinc (v := nI (i + 6)) hx hb d_La_law_1286 hl (k := 0) rfl (nI_add i 6) (by decide) rfl) ?_
        refine gs (pc' := 23) (fun _ _ _ _ _ hl => lv_goto (tgt := 23) hx hb d_La_law_1289 (by decide)) ?_
        refine gsub [0, 1, 2, 3, 4] rfl ?_
        exact ih (i + 6) (X.1 + 6, X.2 + 209) S1 th1 of1 G1 B1 (by omega) (by omega) hC1 hW1 hV1 ho1 (show X.1 + 6 + 6 * q + 6 ≤ MC by omega) (show X.2 + 209 + 209 * q + 209 ≤ MS by omega)
      rcases sw_of t9 with ⟨k9, hk9, ht9⟩ | ht9
      · subst ht9
        have hk8 : k9 = 0 ∨ k9 = 1 ∨ k9 = 2 ∨ k9 = 3 ∨ k9 = 4 ∨ k9 = 5 ∨ k9 = 6 ∨ k9 = 7 ∨ k9 = 8 ∨ k9 = 9 ∨ k9 = 10 ∨ k9 = 11 ∨ k9 = 12 ∨ k9 = 13 ∨ k9 = 14 ∨ k9 = 15 ∨ k9 = 16 := by omega
        rcases hk8 with hk8 | hk8 | hk8 | hk8 | hk8 | hk8 | hk8 | hk8 | hk8 | hk8 | hk8 | hk8 | hk8 | hk8 | hk8 | hk8 | hk8
        · subst hk8
          refine gs (pc' := 124) (fun _ _ _ _ _ hl => lv_tableIn (off := 84) hx hb d_La_law_40 (by decide) (by decide) rfl (by decide)) ?_
          exact law_value h0c i (by omega) X a S hm A th ao of G B hC3 hW hV hao (by omega) (by omega) hnx
        · subst hk8
          refine gs (pc' := 268) (fun _ _ _ _ _ hl => lv_tableIn (off := 228) hx hb d_La_law_40 (by decide) (by decide) rfl (by decide)) ?_
          exact law_add h0c i (by omega) X a S hm A th ao of G B hC3 hW hV hao (by omega) (by omega) hnx
        · subst hk8
          refine gs (pc' := 364) (fun _ _ _ _ _ hl => lv_tableIn (off := 324) hx hb d_La_law_40 (by decide) (by decide) rfl (by decide)) ?_
          exact law_times h0c i (by omega) X a S hm A th ao of G B hC3 hW hV hao (by omega) (by omega) hnx
        · subst hk8
          refine gs (pc' := 432) (fun _ _ _ _ _ hl => lv_tableIn (off := 392) hx hb d_La_law_40 (by decide) (by decide) rfl (by decide)) ?_
          exact law_over h0c i (by omega) X a S hm A th ao of G B hC3 hW hV hao (by omega) (by omega) hnx
        · subst hk8
          refine gs (pc' := 500) (fun _ _ _ _ _ hl => lv_tableIn (off := 460) hx hb d_La_law_40 (by decide) (by decide) rfl (by decide)) ?_
          exact law_order h0c i (by omega) X a S hm A th ao of G B hC3 hW hV hao (by omega) (by omega) hnx
        · subst hk8
          refine gs (pc' := 568) (fun _ _ _ _ _ hl => lv_tableIn (off := 528) hx hb d_La_law_40 (by decide) (by decide) rfl (by decide)) ?_
          exact law_round h0c i (by omega) X a S hm A th ao of G B hC3 hW hV hao (by omega) (by omega) hnx
        · subst hk8
          refine gs (pc' := 648) (fun _ _ _ _ _ hl => lv_tableIn (off := 608) hx hb d_La_law_40 (by decide) (by decide) rfl (by decide)) ?_
          exact law_prism h0c i (by omega) X a S hm A th ao of G B hC3 hW hV hao (by omega) (by omega) hnx
        · subst hk8
          refine gs (pc' := 740) (fun _ _ _ _ _ hl => lv_tableIn (off := 700) hx hb d_La_law_40 (by decide) (by decide) rfl (by decide)) ?_
          exact law_told h0c i (by omega) X a S hm A th ao of G B hC3 hW hV hao (by omega) (by omega) hnx
        · subst hk8
          refine gs (pc' := 808) (fun _ _ _ _ _ hl => lv_tableIn (off := 768) hx hb d_La_law_40 (by decide) (by decide) rfl (by decide)) ?_
          exact law_digit h0c i (by omega) X a S hm A th ao of G B hC3 hW hV hao (by omega) (by omega) hnx
        · subst hk8
          refine gs (pc' := 888) (fun _ _ _ _ _ hl => lv_tableIn (off := 848) hx hb d_La_law_40 (by decide) (by decide) rfl (by decide)) ?_
          exact law_clear h0c i (by omega) X a S hm A th ao of G B hC3 hW hV hao (by omega) (by omega) hnx
        · subst hk8
          refine gs (pc' := 901) (fun _ _ _ _ _ hl => lv_tableIn (off := 861) hx hb d_La_law_40 (by decide) (by decide) rfl (by decide)) ?_
          exact law_row h0c i (by omega) X a S hm A th ao of G B hC3 hW hV hao (by omega) (by omega) hnx
        · subst hk8
          refine gs (pc' := 914) (fun _ _ _ _ _ hl => lv_tableIn (off := 874) hx hb d_La_law_40 (by decide) (by decide) rfl (by decide)) ?_
          exact law_corner h0c i (by omega) X a S hm A th ao of G B hC3 hW hV hao (by omega) (by omega) hnx
        · subst hk8
          refine gs (pc' := 994) (fun _ _ _ _ _ hl => lv_tableIn (off := 954) hx hb d_La_law_40 (by decide) (by decide) rfl (by decide)) ?_
          exact law_at h0c i (by omega) X a S hm A th ao of G B hC3 hW hV hao (by omega) (by omega) hnx
        · subst hk8
          refine gs (pc' := 1062) (fun _ _ _ _ _ hl => lv_tableIn (off := 1022) hx hb d_La_law_40 (by decide) (by decide) rfl (by decide)) ?_
          exact law_area h0c i (by omega) X a S hm A th ao of G B hC3 hW hV hao (by omega) (by omega) hnx
        · subst hk8
          refine gs (pc' := 1118) (fun _ _ _ _ _ hl => lv_tableIn (off := 1078) hx hb d_La_law_40 (by decide) (by decide) rfl (by decide)) ?_
          exact law_weight h0c i (by omega) X a S hm A th ao of G B hC3 hW hV hao (by omega) (by omega) hnx
        · subst hk8
          refine gs (pc' := 1174) (fun _ _ _ _ _ hl => lv_tableIn (off := 1134) hx hb d_La_law_40 (by decide) (by decide) rfl (by decide)) ?_
          exact law_noWeights h0c i (by omega) X a S hm A th ao of G B hC3 hW hV hao (by omega) (by omega) hnx
        · subst hk8
          refine gs (pc' := 1187) (fun _ _ _ _ _ hl => lv_tableIn (off := 1147) hx hb d_La_law_40 (by decide) (by decide) rfl (by decide)) ?_
          exact law_share h0c i (by omega) X a S hm A th ao of G B hC3 hW hV hao (by omega) (by omega) hnx
      · refine gs (pc' := 1286) (fun _ _ _ _ _ hl => lv_tableOut hx hb d_La_law_40 ht9 (by decide)) ?_
        exact hnx S th of G B hW (by
          obtain ⟨F, V, hC⟩ := hC3
          exact ⟨F, V, CW.move (M := fun _ => False) hC (fun _ _ h _ => h) (fun _ h => h.elim) (show B.1 + X.1 ≤ B.1 + (X.1 + 6) by omega) (show B.2 + X.2 ≤ B.2 + (X.2 + 209) by omega)⟩) hV hao
set_option maxHeartbeats 4000000 in
set_option maxRecDepth 100000 in
theorem law_start {p : Program} {l : Launch} {e : Env} {R : Room} {s : State} {m : MethodId} {args : Array Value} {below : List Frame} {meth : Method} {c : Code} {Q : State → Prop} {D : va_G} {cA : Nat → ClassId} {lo MC MS b n : Nat} {xs : Nat → Int32} (h0 : LC p l R s m args c D cA lo MC MS b n xs) (B : Nat × Nat) (hC : B.1 + 100000 ≤ MC) (hS : B.2 + 1000000 ≤ MS) (hret : ∀ (L : List (Nat × Value)) (G : gT) (B : Nat × Nat), B.1 ≤ MC → B.2 ≤ MS → gV p l e R s m args below meth c D clS lo 8 Q 1292 L [] G B) : gV p l e R s m args below meth c D clS lo 8 Q 0 [(0, .ref b)] [] (fun _ => none) B := by
  have h0c := h0
  obtain ⟨hx, hb, hml, hown, hts, hK, hlo, hZ, hRc, hRs, hRf, hRl, hX, hbl, hbA, hn, hfl⟩ := h0
  have hB1 : B.1 ≤ MC := by omega
  have hB2 : B.2 ≤ MS := by omega
  refine g_new hx hb hts hin_Mf ty_Mf ty_Mf_ok hown (hts _ wm20) (hts _ wm21) (hts _ wm1) hK (ci := 8) rfl (fs := [.null, .int (nI 0), .null, .int (nI 0), .null, .null, .null, .null, .null, .null, .null, .null, .null, .null]) (fun j => match j with | 0 => fun _ => rfl | 1 => fun _ => rfl | 2 => fun _ => rfl | 3 => fun _ => rfl | 4 => fun _ => rfl | 5 => fun _ => rfl | 6 => fun _ => rfl | 7 => fun _ => rfl | 8 => fun _ => rfl | 9 => fun _ => rfl | 10 => fun _ => rfl | 11 => fun _ => rfl | 12 => fun _ => rfl | 13 => fun _ => rfl | n + 14 => fun h9 => absurd h9 (by omega)) hlo hRc hRs (show B.1 + 1 ≤ MC by omega) (show B.2 + 14 ≤ MS by omega) d_La_law_0 31 (fun q_1 G_2 z_3 f_4 o_5 => ?_)
  refine g_Beq (B' := (B.1 + 1, B.2 + 14)) rfl ?_
  refine gs (pc' := 4) (fun _ _ _ _ _ hl => lv_dup hx hb d_La_law_3 rfl) ?_
  refine g_outv hlo (g_runI (b := q_1) (As := []) (rest := [.ref q_1]) ⟨hx, hb, hml, hown, hts⟩ hK hZ hRc hRs (c_Mf_init l D cA lo MC MS G_2 (B.1 + 1, B.2 + 14) q_1 f_4 (show B.1 + 1 + 200 ≤ MC by omega) (show B.2 + 14 + 2000 ≤ MS by omega) (show B.1 + 1 ≤ MC by omega) (show B.2 + 14 ≤ MS by omega)) (fun _ _ => cwI 0 hts (tb_good k_Mf_init) rfl rfl rfl (hts _ wm1) (hts _ wm22) (hts _ wm23) rfl (by decide +kernel) ⟨by rw [hRf]; exact Nat.le_of_ble_eq_true rfl, by rw [hRl]; exact Nat.le_of_ble_eq_true rfl⟩) (show B.1 + 1 ≤ MC by omega) (show B.2 + 14 ≤ MS by omega) rfl (Nat.le_of_ble_eq_true rfl) d_La_law_4) (fun G_6 B_7 p_8 => ?_)
  obtain ⟨a, hax, hC1⟩ := p_8
  subst hax
  obtain ⟨X, hX01, hX02, hC1⟩ : ∃ X : Nat × Nat, X.1 = B.1 + 1 + 57000 ∧ X.2 = B.2 + 14 + 115000 ∧ CW3 cA X a st0 (G_6, B_7) := ⟨_, rfl, rfl, hC1⟩
  have hle1 := CW3_le hC1
  have hle11 : B_7.1 ≤ X.1 := hle1.1
  have hle12 : B_7.2 ≤ X.2 := hle1.2
  refine gst (pc' := 8) (L' := [(1, .ref a.x), (0, .ref b)]) (fun _ _ _ _ _ hl => lv_astore_n hx hb d_La_law_7 rfl hl (by decide) rfl) ?_
  refine g_new hx hb hts hin_Mo ty_Mo ty_Mo_ok hown (hts _ wm746) (hts _ wm747) (hts _ wm12) hK (ci := 9) rfl (fs := [.int (nI 0), .int (nI 0), .null, .null, .null, .null, .int (nI 0), .int (nI 0), .null, .null, .int (nI 0), .null, .null, .null, .int (nI 0), .null, .null, .null, .null, .int (nI 0), .int (nI 0), .int (nI 0)]) (fun j => match j with | 0 => fun _ => rfl | 1 => fun _ => rfl | 2 => fun _ => rfl | 3 => fun _ => rfl | 4 => fun _ => rfl | 5 => fun _ => rfl | 6 => fun _ => rfl | 7 => fun _ => rfl | 8 => fun _ => rfl | 9 => fun _ => rfl | 10 => fun _ => rfl | 11 => fun _ => rfl | 12 => fun _ => rfl | 13 => fun _ => rfl | 14 => fun _ => rfl | 15 => fun _ => rfl | 16 => fun _ => rfl | 17 => fun _ => rfl | 18 => fun _ => rfl | 19 => fun _ => rfl | 20 => fun _ => rfl | 21 => fun _ => rfl | n + 22 => fun h9 => absurd h9 (by omega)) hlo hRc hRs (show B_7.1 + 1 ≤ MC by omega) (show B_7.2 + 22 ≤ MS by omega) d_La_law_8 70 (fun q_9 G_10 z_11 f_12 o_13 => ?_)
  refine g_Beq (B' := (B_7.1 + 1, B_7.2 + 22)) rfl ?_
  have gf_14 : gfr (fun x => 70 ≤ x) G_6 G_10 := gfr_new gfr_rf z_11 o_13
  refine gs (pc' := 12) (fun _ _ _ _ _ hl => lv_dup hx hb d_La_law_11 rfl) ?_
  refine g_outv hlo (g_runI (b := q_9) (As := []) (rest := [.ref q_9]) ⟨hx, hb, hml, hown, hts⟩ hK hZ hRc hRs (c_Mo_init l D cA lo MC MS G_10 (B_7.1 + 1, B_7.2 + 22) q_9 f_12 (show B_7.1 + 1 + 13 ≤ MC by omega) (show B_7.2 + 22 + 88809 ≤ MS by omega) (show B_7.1 + 1 ≤ MC by omega) (show B_7.2 + 22 ≤ MS by omega)) (fun _ _ => cwI 0 hts (tb_good k_Mo_init) rfl rfl rfl (hts _ wm12) (hts _ wm748) (hts _ wm749) rfl (by decide +kernel) ⟨by rw [hRf]; exact Nat.le_of_ble_eq_true rfl, by rw [hRl]; exact Nat.le_of_ble_eq_true rfl⟩) (show B_7.1 + 1 ≤ MC by omega) (show B_7.2 + 22 ≤ MS by omega) rfl (Nat.le_of_ble_eq_true rfl) d_La_law_12) (fun G_15 B_16 p_17 => ?_)
  obtain ⟨A, hV1, hx1, hb1⟩ := p_17
  have hb1 : B_16 = (B_7.1 + 1 + 1 + 1 + 1 + 1 + 1 + 1 + 1 + 1 + 1 + 1 + 1 + 1 + 1, B_7.2 + 22 + 200 + 200 + 40400 + 400 + 38700 + 9 + 8 + 128 + 128 + 12 + 12 + 12 + 8600) := hb1
  subst hb1
  have gf_18 : gfr (fun x => 70 ≤ x) G_6 G_15 := fun q9 y9 h9 n9 => gfr_gex hx1 f_12 q9 y9 (gf_14 q9 y9 h9 n9) (fun e9 => n9 (by show 70 ≤ y9.1; have e9 : y9.1 = 70 := e9; omega))
  refine gst (pc' := 16) (L' := [(2, .ref q_9), (1, .ref a.x), (0, .ref b)]) (fun _ _ _ _ _ hl => lv_astore_n hx hb d_La_law_15 rfl hl (by decide) rfl) ?_
  refine gs (pc' := 17) (fun _ _ _ _ _ hl => lv_iconst (v := nI 1) hx hb d_La_law_16 (by decide)) ?_
  refine g_newa (atype := .long) hx hb (hts _ wm50) hK 1 rfl (fun C h => by cases h) (a0 := (1, .inr (.inl (fun _ => 0)))) (fun _ => rfl) (nI_pos (by omega)) (nI_clamp (by omega)) (by show 1 * 8 ≤ 536870912; omega) hlo hRc hRs (show B_7.1 + 1 + 1 + 1 + 1 + 1 + 1 + 1 + 1 + 1 + 1 + 1 + 1 + 1 + 1 + 1 ≤ MC by omega) (show B_7.2 + 22 + 200 + 200 + 40400 + 400 + 38700 + 9 + 8 + 128 + 128 + 12 + 12 + 12 + 8600 + 1 ≤ MS by omega) d_La_law_17 90 (fun q_19 G_20 z_21 f_22 o_23 => ?_)
  refine g_Beq (B' := (B_7.1 + 1 + 1 + 1 + 1 + 1 + 1 + 1 + 1 + 1 + 1 + 1 + 1 + 1 + 1 + 1, B_7.2 + 22 + 200 + 200 + 40400 + 400 + 38700 + 9 + 8 + 128 + 128 + 12 + 12 + 12 + 8600 + 1)) rfl ?_
  have gf_24 : gfr (fun x => 70 ≤ x) G_6 G_20 := gfr_new gf_18 z_21 o_23
  have gf_25 : gfr (fun x => x = 90) G_15 G_20 := gfr_new gfr_rf z_21 o_23
  refine gst (pc' := 20) (L' := [(3, .ref q_19), (2, .ref q_9), (1, .ref a.x), (0, .ref b)]) (fun _ _ _ _ _ hl => lv_astore_n hx hb d_La_law_19 rfl hl (by decide) rfl) ?_
  refine gs (pc' := 21) (fun _ _ _ _ _ hl => lv_iconst (v := nI 0) hx hb d_La_law_20 (by decide)) ?_
  refine gst (pc' := 23) (L' := [(4, .int (nI 0)), (3, .ref q_19), (2, .ref q_9), (1, .ref a.x), (0, .ref b)]) (fun _ _ _ _ _ hl => lv_istore hx hb d_La_law_21 hl (by decide) rfl) ?_
  refine gsub [0, 1, 2, 3, 4] rfl ?_
  obtain ⟨Y, hY01, hY02⟩ : ∃ Y : Nat × Nat, Y.1 = X.1 + 20 ∧ Y.2 = X.2 + 100000 := ⟨(_, _), rfl, rfl⟩
  have hC2 : CW3 cA Y a st0 (G_20, (B_7.1 + 1 + 1 + 1 + 1 + 1 + 1 + 1 + 1 + 1 + 1 + 1 + 1 + 1 + 1 + 1, B_7.2 + 22 + 200 + 200 + 40400 + 400 + 38700 + 9 + 8 + 128 + 128 + 12 + 12 + 12 + 8600 + 1)) := by
    obtain ⟨F, V, hC⟩ := hC1
    exact ⟨F, V, CW.move hC gf_24 (fun x h9 => h9) (by show B_7.1 + 1 + 1 + 1 + 1 + 1 + 1 + 1 + 1 + 1 + 1 + 1 + 1 + 1 + 1 + 1 + X.1 ≤ B_7.1 + Y.1; omega) (by show B_7.2 + 22 + 200 + 200 + 40400 + 400 + 38700 + 9 + 8 + 128 + 128 + 12 + 12 + 12 + 8600 + 1 + X.2 ≤ B_7.2 + Y.2; omega)⟩
  have hV2 : MW cA q_9 A st0 0 none none none G_20 := MW_fr hV1 gf_25 (fun x h8 h9 (q9 : x = 90) => by omega)
  have hW0 : WF st0 := ⟨Nat.zero_le _, fun i9 h9 => absurd h9 (Nat.not_lt_zero i9), Nat.zero_le _, fun i9 h9 => absurd h9 (Nat.not_lt_zero i9), fun i9 h9 => absurd h9 (Nat.not_lt_zero i9), fun i9 h9 => absurd h9 (Nat.not_lt_zero i9), Nat.zero_le _, fun i9 h9 => absurd h9 (Nat.not_lt_zero i9)⟩
  exact law_loop h0c a q_9 A q_19 hret (n / 6) 0 Y st0 0 _ G_20 (B_7.1 + 1 + 1 + 1 + 1 + 1 + 1 + 1 + 1 + 1 + 1 + 1 + 1 + 1 + 1 + 1, B_7.2 + 22 + 200 + 200 + 40400 + 400 + 38700 + 9 + 8 + 128 + 128 + 12 + 12 + 12 + 8600 + 1) (by omega) (by omega) hC2 hW0 hV2 f_22 (by omega) (by omega)
