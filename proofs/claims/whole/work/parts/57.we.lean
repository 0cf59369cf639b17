set_option maxHeartbeats 4000000 in
set_option maxRecDepth 100000 in
theorem c_We_total (l : Launch) (D : va_G) (cA : Nat → ClassId) (lo MC MS : Nat) (G : gT) (B : Nat × Nat) (h ae ac n : Nat) (ef : Nat → Int32) (cf : Nat → Int64) (hh : G h = some (35, .inr (7, [.ref ae, .ref ac, .int (nI n)]))) (hae : G ae = some (36, .inl (cA 0, 12, .inl ef))) (hac : G ac = some (37, .inl (cA 1, 12, .inr (.inl cf)))) (hn : n ≤ 12) (w : Nat → Nat) (hw : ∀ i, i < n → ef i = nI (w i)) (hw2 : ∀ i, i < n → 1 ≤ w i ∧ w i ≤ 1000000000) (hB1 : B.1 ≤ MC) (hB2 : B.2 ≤ MS) : gMet l y_We_total w_We_total 0 0 D clS (gtys cA) lo MC MS [.ref h] G B (gQl D clS lo (fun r u => u = (G, B) ∧ r = lN (tot w n))) := by
  refine g_metl (cc := prog_9_method_4_code) (nL := 4) (L := [(0, .ref h)]) (by decide +kernel) rfl (Nat.le_of_ble_eq_true rfl) rfl ?_
  intro p e R s m args below meth c Q hF hRc hRs hRf hRl hret
  obtain ⟨hx, hb, hr, hml, hts0, hown, hlocks, hin, hK, hlo, hZ⟩ := hF
  have hts : ∀ w ∈ tbg, w.before args s = true := fun w h => hts0 w (List.mem_cons_of_mem _ h)
  refine gs (pc' := 1) (fun _ _ _ _ _ hl => lv_lconst (v := lN 0) hx hb d_We_total_0 (by decide)) ?_
  refine gst (pc' := 2) (L' := [(1, .long (lN 0)), (0, .ref h)]) (fun _ _ _ _ _ hl => lv_lstore_n hx hb d_We_total_1 rfl hl (by decide) rfl) ?_
  refine gs (pc' := 3) (fun _ _ _ _ _ hl => lv_iconst (v := nI 0) hx hb d_We_total_2 (by decide)) ?_
  refine gst (pc' := 4) (L' := [(3, .int (nI 0)), (1, .long (lN 0)), (0, .ref h)]) (fun _ _ _ _ _ hl => lv_istore_n hx hb d_We_total_3 rfl hl (by decide) rfl) ?_
  refine gsub [0, 1, 2] rfl ?_
  have loop : ∀ (q j : Nat) (Gk : gT), (j + q = n) → (G = Gk) → Gk h = some (35, .inr (7, [.ref ae, .ref ac, .int (nI n)])) → Gk ae = some (36, .inl (cA 0, 12, .inl ef)) → gV p l e R s m args below meth c D clS lo 4 Q 4 [(3, .int (nI j)), (1, .long (lN (tot w j))), (0, .ref h)] [] Gk B := by
    intro q
    induction q with
    | zero =>
      intro j Gk hj hG k1 k2
      subst hG
      have hjn : n = j := by omega
      subst hjn
      refine gs (pc' := 5) (fun _ _ _ _ _ hl => lv_iload_n hx hb d_We_total_4 rfl (lv_at hl 0 rfl)) ?_
      refine gs (pc' := 6) (fun _ _ _ _ _ hl => lv_aload_n hx hb d_We_total_5 rfl (lv_at hl 2 rfl)) ?_
      refine g_get hx hb hts hin_We hown hK k1 rfl 2 (by decide) (hts _ wm40) (fun _ h9 => h9) rfl d_We_total_6 ?_
      refine gsb (pc1 := 28) (pc2 := 12) (fun _ _ _ _ _ => lv_icmp_ge (tgt := 28) hx hb d_We_total_9 (by decide)) (fun c_1 => ?_) (fun c_1 => ?_)
      · skip
        have nc_1 : n ≥ n := (nn_ge (a := n) (b := n) (by omega) (by omega)).1 c_1
        refine gs (pc' := 29) (fun _ _ _ _ _ hl => lv_lload_n hx hb d_We_total_28 rfl (lv_at hl 1 rfl)) ?_
        exact hret 29 _ _ _ _ d_We_total_29 hB1 hB2 ⟨rfl, rfl⟩
      · skip
        have nc_1 : n < n := (nn_ge (a := n) (b := n) (by omega) (by omega)).2 c_1
        exact absurd nc_1 (by omega)
    | succ q ih =>
      intro j Gk hj hG k1 k2
      subst hG
      have hwj := hw2 j (by omega)
      refine gs (pc' := 5) (fun _ _ _ _ _ hl => lv_iload_n hx hb d_We_total_4 rfl (lv_at hl 0 rfl)) ?_
      refine gs (pc' := 6) (fun _ _ _ _ _ hl => lv_aload_n hx hb d_We_total_5 rfl (lv_at hl 2 rfl)) ?_
      refine g_get hx hb hts hin_We hown hK k1 rfl 2 (by decide) (hts _ wm40) (fun _ h9 => h9) rfl d_We_total_6 ?_
      refine gsb (pc1 := 28) (pc2 := 12) (fun _ _ _ _ _ => lv_icmp_ge (tgt := 28) hx hb d_We_total_9 (by decide)) (fun c_2 => ?_) (fun c_2 => ?_)
      · skip
        have nc_2 : j ≥ n := (nn_ge (a := j) (b := n) (by omega) (by omega)).1 c_2
        exact absurd nc_2 (by omega)
      · skip
        have nc_2 : j < n := (nn_ge (a := j) (b := n) (by omega) (by omega)).2 c_2
        refine gs (pc' := 13) (fun _ _ _ _ _ hl => lv_lload_n hx hb d_We_total_12 rfl (lv_at hl 1 rfl)) ?_
        refine gs (pc' := 14) (fun _ _ _ _ _ hl => lv_aload_n hx hb d_We_total_13 rfl (lv_at hl 2 rfl)) ?_
        refine g_get hx hb hts hin_We hown hK k1 rfl 0 (by decide) (hts _ wm38) (fun _ h9 => h9) rfl d_We_total_14 ?_
        refine gs (pc' := 18) (fun _ _ _ _ _ hl => lv_iload_n hx hb d_We_total_17 rfl (lv_at hl 0 rfl)) ?_
        refine g_iald hx hb hK 0 k2 rfl (show vp_in (nI j) 12 from vp_in_nI (by omega) (by omega)) d_We_total_18 ?_
        refine g_eqi (show ef (nI j).toNatClampNeg = ef j from by rw [nI_clamp (by omega)]) ?_
        refine g_eqi (show ef j = nI (w j) from hw j (by omega)) ?_
        refine gs (pc' := 20) (fun _ _ _ _ _ hl => lv_i2l (v := lN (w j)) hx hb d_We_total_19 (nI_l (by omega))) ?_
        refine gs (pc' := 21) (fun _ _ _ _ _ hl => lv_ladd hx hb d_We_total_20) ?_
        refine g_eql (show (lN (tot w j)) + (lN (w j)) = lN ((tot w j) + (w j)) from lN_add _ _) ?_
        refine gst (pc' := 22) (L' := [(1, .long (lN ((tot w j) + (w j)))), (3, .int (nI j)), (0, .ref h)]) (fun _ _ _ _ _ hl => lv_lstore_n hx hb d_We_total_21 rfl hl (by decide) rfl) ?_
        refine gst (pc' := 25) (L' := [(3, .int (nI (j + 1))), (1, .long (lN ((tot w j) + (w j)))), (0, .ref h)]) (fun _ _ _ _ _ hl => lv_iinc (v := nI (j + 1)) hx hb d_We_total_22 hl (k := 1) rfl (nI_add _ 1) (by decide) rfl) ?_
        refine gs (pc' := 4) (fun _ _ _ _ _ hl => lv_goto (tgt := 4) hx hb d_We_total_25 (by decide)) ?_
        refine gsub [0, 1, 2] rfl ?_
        exact ih (j + 1) G (by omega) rfl k1 k2
  exact loop n 0 G (by omega) rfl hh hae
set_option maxHeartbeats 4000000 in
set_option maxRecDepth 100000 in
theorem c_We_roundedDown (l : Launch) (D : va_G) (cA : Nat → ClassId) (lo MC MS : Nat) (G : gT) (B : Nat × Nat) (Wn v t : Nat) (hWb : Wn ≤ 1000000000000) (hv : v ≤ 1000000000) (htb : t ≤ 12000000000) (ht0 : 0 < t) (hB1 : B.1 ≤ MC) (hB2 : B.2 ≤ MS) : gMet l y_We_roundedDown w_We_roundedDown 0 0 D clS (gtys cA) lo MC MS [.long (lN Wn), .long (lN v), .long (lN t)] G B (gQl D clS lo (fun r u => u = (G, B) ∧ r = lN (Wn * v / t))) := by
  refine g_metl (cc := prog_9_method_5_code) (nL := 12) (L := [(0, .long (lN Wn)), (2, .long (lN v)), (4, .long (lN t))]) (by decide +kernel) rfl (Nat.le_of_ble_eq_true rfl) rfl ?_
  intro p e R s m args below meth c Q hF hRc hRs hRf hRl hret
  obtain ⟨hx, hb, hr, hml, hts0, hown, hlocks, hin, hK, hlo, hZ⟩ := hF
  have hts : ∀ w ∈ tbg, w.before args s = true := fun w h => hts0 w (List.mem_cons_of_mem _ h)
  have a1 : Wn % t < t := Nat.mod_lt _ ht0
  have a2 : Wn % t * (v / 32768) ≤ 12000000000 * 30518 := Nat.mul_le_mul (by omega) (by omega)
  have a3 := Nat.mod_lt (Wn % t * (v / 32768)) ht0
  have a4 : Wn % t * (v % 32768) ≤ 12000000000 * 32768 := Nat.mul_le_mul (by omega) (by omega)
  refine gs (pc' := 2) (fun _ _ _ _ _ hl => lv_lload hx hb d_We_roundedDown_0 (lv_at hl 2 rfl)) ?_
  refine gs (pc' := 3) (fun _ _ _ _ _ hl => lv_lconst (v := lN 0) hx hb d_We_roundedDown_2 (by decide)) ?_
  refine gs (pc' := 4) (fun _ _ _ _ _ hl => W.lcmp hx hb d_We_roundedDown_3) ?_
  refine gsb (pc1 := 9) (pc2 := 7) (fun _ _ _ _ _ => lv_if_gt (tgt := 9) hx hb d_We_roundedDown_4 (by decide)) (fun c_1 => ?_) (fun c_1 => ?_)
  · skip
    have nc_1 : t > 0 := (lcN_gt (a := t) (b := 0) (by omega) (by omega)).1 c_1
    refine gs (pc' := 10) (fun _ _ _ _ _ hl => lv_lload_n hx hb d_We_roundedDown_9 rfl (lv_at hl 0 rfl)) ?_
    refine gs (pc' := 12) (fun _ _ _ _ _ hl => lv_lload hx hb d_We_roundedDown_10 (lv_at hl 2 rfl)) ?_
    refine gs (pc' := 13) (fun _ _ _ _ _ hl => lv_lrem hx hb d_We_roundedDown_12 (fun e => absurd ((pk_lEQ (by omega) (by omega)).mp (e.trans (show _ = lN 0 from rfl))) (by omega))) ?_
    refine g_eql (show (lN Wn) - (lN Wn) / (lN t) * (lN t) = lN (Wn % t) from pk_lRem (by omega) (by omega) (by omega)) ?_
    refine gst (pc' := 15) (L' := [(6, .long (lN (Wn % t))), (0, .long (lN Wn)), (2, .long (lN v)), (4, .long (lN t))]) (fun _ _ _ _ _ hl => lv_lstore hx hb d_We_roundedDown_13 hl (by decide) rfl) ?_
    refine gs (pc' := 17) (fun _ _ _ _ _ hl => lv_lload hx hb d_We_roundedDown_15 (lv_at hl 0 rfl)) ?_
    refine gs (pc' := 18) (fun _ _ _ _ _ hl => lv_lload_n hx hb d_We_roundedDown_17 rfl (lv_at hl 2 rfl)) ?_
    refine gs (pc' := 21) (fun _ _ _ _ _ hl => lv_ldc2 (v := 32768) hx hb hown (hts _ wm741) d_We_roundedDown_18) ?_
    refine g_eql (show 32768 = lN 32768 from rfl) ?_
    refine gs (pc' := 22) (fun _ _ _ _ _ hl => lv_ldiv hx hb d_We_roundedDown_21 (fun e => absurd ((pk_lEQ (by omega) (by omega)).mp (e.trans (show _ = lN 0 from rfl))) (by omega))) ?_
    refine g_eql (show (lN v) / (lN 32768) = lN (v / 32768) from pk_lDiv (by omega) (by omega) (by omega)) ?_
    refine gs (pc' := 23) (fun _ _ _ _ _ hl => lv_lmul hx hb d_We_roundedDown_22) ?_
    refine g_eql (show (lN (Wn % t)) * (lN (v / 32768)) = lN ((Wn % t) * (v / 32768)) from lN_mul _ _) ?_
    refine gst (pc' := 25) (L' := [(8, .long (lN ((Wn % t) * (v / 32768)))), (6, .long (lN (Wn % t))), (0, .long (lN Wn)), (2, .long (lN v)), (4, .long (lN t))]) (fun _ _ _ _ _ hl => lv_lstore hx hb d_We_roundedDown_23 hl (by decide) rfl) ?_
    refine gs (pc' := 27) (fun _ _ _ _ _ hl => lv_lload hx hb d_We_roundedDown_25 (lv_at hl 0 rfl)) ?_
    refine gs (pc' := 29) (fun _ _ _ _ _ hl => lv_lload hx hb d_We_roundedDown_27 (lv_at hl 4 rfl)) ?_
    refine gs (pc' := 30) (fun _ _ _ _ _ hl => lv_lrem hx hb d_We_roundedDown_29 (fun e => absurd ((pk_lEQ (by omega) (by omega)).mp (e.trans (show _ = lN 0 from rfl))) (by omega))) ?_
    refine g_eql (show (lN ((Wn % t) * (v / 32768))) - (lN ((Wn % t) * (v / 32768))) / (lN t) * (lN t) = lN (((Wn % t) * (v / 32768)) % t) from pk_lRem (by omega) (by omega) (by omega)) ?_
    refine gs (pc' := 33) (fun _ _ _ _ _ hl => lv_ldc2 (v := 32768) hx hb hown (hts _ wm741) d_We_roundedDown_30) ?_
    refine g_eql (show 32768 = lN 32768 from rfl) ?_
    refine gs (pc' := 34) (fun _ _ _ _ _ hl => lv_lmul hx hb d_We_roundedDown_33) ?_
    refine g_eql (show (lN (((Wn % t) * (v / 32768)) % t)) * (lN 32768) = lN ((((Wn % t) * (v / 32768)) % t) * 32768) from lN_mul _ _) ?_
    refine gs (pc' := 36) (fun _ _ _ _ _ hl => lv_lload hx hb d_We_roundedDown_34 (lv_at hl 1 rfl)) ?_
    refine gs (pc' := 37) (fun _ _ _ _ _ hl => lv_lload_n hx hb d_We_roundedDown_36 rfl (lv_at hl 3 rfl)) ?_
    refine gs (pc' := 40) (fun _ _ _ _ _ hl => lv_ldc2 (v := 32768) hx hb hown (hts _ wm741) d_We_roundedDown_37) ?_
    refine g_eql (show 32768 = lN 32768 from rfl) ?_
    refine gs (pc' := 41) (fun _ _ _ _ _ hl => lv_lrem hx hb d_We_roundedDown_40 (fun e => absurd ((pk_lEQ (by omega) (by omega)).mp (e.trans (show _ = lN 0 from rfl))) (by omega))) ?_
    refine g_eql (show (lN v) - (lN v) / (lN 32768) * (lN 32768) = lN (v % 32768) from pk_lRem (by omega) (by omega) (by omega)) ?_
    refine gs (pc' := 42) (fun _ _ _ _ _ hl => lv_lmul hx hb d_We_roundedDown_41) ?_
    refine g_eql (show (lN (Wn % t)) * (lN (v % 32768)) = lN ((Wn % t) * (v % 32768)) from lN_mul _ _) ?_
    refine gs (pc' := 43) (fun _ _ _ _ _ hl => lv_ladd hx hb d_We_roundedDown_42) ?_
    refine g_eql (show (lN ((((Wn % t) * (v / 32768)) % t) * 32768)) + (lN ((Wn % t) * (v % 32768))) = lN (((((Wn % t) * (v / 32768)) % t) * 32768) + ((Wn % t) * (v % 32768))) from lN_add _ _) ?_
    refine gst (pc' := 45) (L' := [(10, .long (lN (((((Wn % t) * (v / 32768)) % t) * 32768) + ((Wn % t) * (v % 32768))))), (8, .long (lN ((Wn % t) * (v / 32768)))), (6, .long (lN (Wn % t))), (0, .long (lN Wn)), (2, .long (lN v)), (4, .long (lN t))]) (fun _ _ _ _ _ hl => lv_lstore hx hb d_We_roundedDown_43 hl (by decide) rfl) ?_
    refine gs (pc' := 46) (fun _ _ _ _ _ hl => lv_lload_n hx hb d_We_roundedDown_45 rfl (lv_at hl 3 rfl)) ?_
    refine gs (pc' := 48) (fun _ _ _ _ _ hl => lv_lload hx hb d_We_roundedDown_46 (lv_at hl 5 rfl)) ?_
    refine gs (pc' := 49) (fun _ _ _ _ _ hl => lv_ldiv hx hb d_We_roundedDown_48 (fun e => absurd ((pk_lEQ (by omega) (by omega)).mp (e.trans (show _ = lN 0 from rfl))) (by omega))) ?_
    refine g_eql (show (lN Wn) / (lN t) = lN (Wn / t) from pk_lDiv (by omega) (by omega) (by omega)) ?_
    refine gs (pc' := 50) (fun _ _ _ _ _ hl => lv_lload_n hx hb d_We_roundedDown_49 rfl (lv_at hl 4 rfl)) ?_
    refine gs (pc' := 51) (fun _ _ _ _ _ hl => lv_lmul hx hb d_We_roundedDown_50) ?_
    refine g_eql (show (lN (Wn / t)) * (lN v) = lN ((Wn / t) * v) from lN_mul _ _) ?_
    refine gs (pc' := 53) (fun _ _ _ _ _ hl => lv_lload hx hb d_We_roundedDown_51 (lv_at hl 1 rfl)) ?_
    refine gs (pc' := 55) (fun _ _ _ _ _ hl => lv_lload hx hb d_We_roundedDown_53 (lv_at hl 5 rfl)) ?_
    refine gs (pc' := 56) (fun _ _ _ _ _ hl => lv_ldiv hx hb d_We_roundedDown_55 (fun e => absurd ((pk_lEQ (by omega) (by omega)).mp (e.trans (show _ = lN 0 from rfl))) (by omega))) ?_
    refine g_eql (show (lN ((Wn % t) * (v / 32768))) / (lN t) = lN (((Wn % t) * (v / 32768)) / t) from pk_lDiv (by omega) (by omega) (by omega)) ?_
    refine gs (pc' := 59) (fun _ _ _ _ _ hl => lv_ldc2 (v := 32768) hx hb hown (hts _ wm741) d_We_roundedDown_56) ?_
    refine g_eql (show 32768 = lN 32768 from rfl) ?_
    refine gs (pc' := 60) (fun _ _ _ _ _ hl => lv_lmul hx hb d_We_roundedDown_59) ?_
    refine g_eql (show (lN (((Wn % t) * (v / 32768)) / t)) * (lN 32768) = lN ((((Wn % t) * (v / 32768)) / t) * 32768) from lN_mul _ _) ?_
    refine gs (pc' := 61) (fun _ _ _ _ _ hl => lv_ladd hx hb d_We_roundedDown_60) ?_
    refine g_eql (show (lN ((Wn / t) * v)) + (lN ((((Wn % t) * (v / 32768)) / t) * 32768)) = lN (((Wn / t) * v) + ((((Wn % t) * (v / 32768)) / t) * 32768)) from lN_add _ _) ?_
    refine gs (pc' := 63) (fun _ _ _ _ _ hl => lv_lload hx hb d_We_roundedDown_61 (lv_at hl 0 rfl)) ?_
    refine gs (pc' := 65) (fun _ _ _ _ _ hl => lv_lload hx hb d_We_roundedDown_63 (lv_at hl 5 rfl)) ?_
    refine gs (pc' := 66) (fun _ _ _ _ _ hl => lv_ldiv hx hb d_We_roundedDown_65 (fun e => absurd ((pk_lEQ (by omega) (by omega)).mp (e.trans (show _ = lN 0 from rfl))) (by omega))) ?_
    refine g_eql (show (lN (((((Wn % t) * (v / 32768)) % t) * 32768) + ((Wn % t) * (v % 32768)))) / (lN t) = lN ((((((Wn % t) * (v / 32768)) % t) * 32768) + ((Wn % t) * (v % 32768))) / t) from pk_lDiv (by omega) (by omega) (by omega)) ?_
    refine gs (pc' := 67) (fun _ _ _ _ _ hl => lv_ladd hx hb d_We_roundedDown_66) ?_
    refine g_eql (show (lN (((Wn / t) * v) + ((((Wn % t) * (v / 32768)) / t) * 32768))) + (lN ((((((Wn % t) * (v / 32768)) % t) * 32768) + ((Wn % t) * (v % 32768))) / t)) = lN ((((Wn / t) * v) + ((((Wn % t) * (v / 32768)) / t) * 32768)) + ((((((Wn % t) * (v / 32768)) % t) * 32768) + ((Wn % t) * (v % 32768))) / t)) from lN_add _ _) ?_
    exact hret 67 _ _ _ _ d_We_roundedDown_67 hB1 hB2 ⟨rfl, congrArg lN (sh_split ht0).1⟩
  · skip
    have nc_1 : t ≤ 0 := (lcN_gt (a := t) (b := 0) (by omega) (by omega)).2 c_1
    exact absurd nc_1 (by omega)
set_option maxHeartbeats 4000000 in
set_option maxRecDepth 100000 in
theorem c_We_comesBefore (l : Launch) (D : va_G) (cA : Nat → ClassId) (lo MC MS : Nat) (G : gT) (B : Nat × Nat) (h ae ac n : Nat) (ef : Nat → Int32) (cf : Nat → Int64) (hh : G h = some (35, .inr (7, [.ref ae, .ref ac, .int (nI n)]))) (hae : G ae = some (36, .inl (cA 0, 12, .inl ef))) (hac : G ac = some (37, .inl (cA 1, 12, .inr (.inl cf)))) (hn : n ≤ 12) (w : Nat → Nat) (hw : ∀ i, i < n → ef i = nI (w i)) (hw2 : ∀ i, i < n → 1 ≤ w i ∧ w i ≤ 1000000000) (f : Nat → Nat) (hf : ∀ i, i < n → cf i = lN (f i)) (hf2 : ∀ i, i < n → f i < 12000000001) (k : Nat) (hk : k < n) (hB1 : B.1 ≤ MC) (hB2 : B.2 ≤ MS) : gMet l y_We_comesBefore w_We_comesBefore 0 0 D clS (gtys cA) lo MC MS [.ref h, .int (nI k)] G B (gQi D clS lo (fun r u => u = (G, B) ∧ r = nI (cnt (ahead f k) n))) := by
  refine g_meti (cc := prog_9_method_6_code) (nL := 4) (L := [(0, .ref h), (1, .int (nI k))]) (by decide +kernel) rfl (Nat.le_of_ble_eq_true rfl) rfl ?_
  intro p e R s m args below meth c Q hF hRc hRs hRf hRl hret
  obtain ⟨hx, hb, hr, hml, hts0, hown, hlocks, hin, hK, hlo, hZ⟩ := hF
  have hts : ∀ w ∈ tbg, w.before args s = true := fun w h => hts0 w (List.mem_cons_of_mem _ h)
  refine gs (pc' := 1) (fun _ _ _ _ _ hl => lv_iconst (v := nI 0) hx hb d_We_comesBefore_0 (by decide)) ?_
  refine gst (pc' := 2) (L' := [(2, .int (nI 0)), (0, .ref h), (1, .int (nI k))]) (fun _ _ _ _ _ hl => lv_istore_n hx hb d_We_comesBefore_1 rfl hl (by decide) rfl) ?_
  refine gs (pc' := 3) (fun _ _ _ _ _ hl => lv_iconst (v := nI 0) hx hb d_We_comesBefore_2 (by decide)) ?_
  refine gst (pc' := 4) (L' := [(3, .int (nI 0)), (2, .int (nI 0)), (0, .ref h), (1, .int (nI k))]) (fun _ _ _ _ _ hl => lv_istore_n hx hb d_We_comesBefore_3 rfl hl (by decide) rfl) ?_
  refine gsub [0, 1, 3, 2] rfl ?_
  have loop : ∀ (q j b : Nat) (Gk : gT), (j + q = n) → (b = cnt (ahead f k) j) → (G = Gk) → Gk h = some (35, .inr (7, [.ref ae, .ref ac, .int (nI n)])) → Gk ac = some (37, .inl (cA 1, 12, .inr (.inl cf))) → gV p l e R s m args below meth c D clS lo 4 Q 4 [(3, .int (nI j)), (2, .int (nI b)), (1, .int (nI k)), (0, .ref h)] [] Gk B := by
    intro q
    induction q with
    | zero =>
      intro j b Gk hj hbc hG k1 k2
      subst hG
      have hjn : n = j := by omega
      subst hjn
      subst hbc
      refine gs (pc' := 5) (fun _ _ _ _ _ hl => lv_iload_n hx hb d_We_comesBefore_4 rfl (lv_at hl 0 rfl)) ?_
      refine gs (pc' := 6) (fun _ _ _ _ _ hl => lv_aload_n hx hb d_We_comesBefore_5 rfl (lv_at hl 3 rfl)) ?_
      refine g_get hx hb hts hin_We hown hK k1 rfl 2 (by decide) (hts _ wm40) (fun _ h9 => h9) rfl d_We_comesBefore_6 ?_
      refine gsb (pc1 := 58) (pc2 := 12) (fun _ _ _ _ _ => lv_icmp_ge (tgt := 58) hx hb d_We_comesBefore_9 (by decide)) (fun c_1 => ?_) (fun c_1 => ?_)
      · skip
        have nc_1 : n ≥ n := (nn_ge (a := n) (b := n) (by omega) (by omega)).1 c_1
        refine gs (pc' := 59) (fun _ _ _ _ _ hl => lv_iload_n hx hb d_We_comesBefore_58 rfl (lv_at hl 1 rfl)) ?_
        exact hret 59 _ _ _ _ d_We_comesBefore_59 hB1 hB2 ⟨rfl, rfl⟩
      · skip
        have nc_1 : n < n := (nn_ge (a := n) (b := n) (by omega) (by omega)).2 c_1
        exact absurd nc_1 (by omega)
    | succ q ih =>
      intro j b Gk hj hbc hG k1 k2
      subst hG
      have hfj := hf2 j (by omega)
      have hfk := hf2 k (by omega)
      refine gs (pc' := 5) (fun _ _ _ _ _ hl => lv_iload_n hx hb d_We_comesBefore_4 rfl (lv_at hl 0 rfl)) ?_
      refine gs (pc' := 6) (fun _ _ _ _ _ hl => lv_aload_n hx hb d_We_comesBefore_5 rfl (lv_at hl 3 rfl)) ?_
      refine g_get hx hb hts hin_We hown hK k1 rfl 2 (by decide) (hts _ wm40) (fun _ h9 => h9) rfl d_We_comesBefore_6 ?_
      refine gsb (pc1 := 58) (pc2 := 12) (fun _ _ _ _ _ => lv_icmp_ge (tgt := 58) hx hb d_We_comesBefore_9 (by decide)) (fun c_2 => ?_) (fun c_2 => ?_)
      · skip
        have nc_2 : j ≥ n := (nn_ge (a := j) (b := n) (by omega) (by omega)).1 c_2
        exact absurd nc_2 (by omega)
      · skip
        have nc_2 : j < n := (nn_ge (a := j) (b := n) (by omega) (by omega)).2 c_2
        refine gs (pc' := 13) (fun _ _ _ _ _ hl => lv_aload_n hx hb d_We_comesBefore_12 rfl (lv_at hl 3 rfl)) ?_
        refine g_get hx hb hts hin_We hown hK k1 rfl 1 (by decide) (hts _ wm39) (fun _ h9 => h9) rfl d_We_comesBefore_13 ?_
        refine gs (pc' := 17) (fun _ _ _ _ _ hl => lv_iload_n hx hb d_We_comesBefore_16 rfl (lv_at hl 0 rfl)) ?_
        refine g_lald hx hb hK 1 k2 rfl (show vp_in (nI j) 12 from vp_in_nI (by omega) (by omega)) d_We_comesBefore_17 ?_
        refine g_eql (show cf (nI j).toNatClampNeg = cf j from by rw [nI_clamp (by omega)]) ?_
        refine g_eql (show cf j = lN (f j) from hf j (by omega)) ?_
        refine gs (pc' := 19) (fun _ _ _ _ _ hl => lv_aload_n hx hb d_We_comesBefore_18 rfl (lv_at hl 3 rfl)) ?_
        refine g_get hx hb hts hin_We hown hK k1 rfl 1 (by decide) (hts _ wm39) (fun _ h9 => h9) rfl d_We_comesBefore_19 ?_
        refine gs (pc' := 23) (fun _ _ _ _ _ hl => lv_iload_n hx hb d_We_comesBefore_22 rfl (lv_at hl 2 rfl)) ?_
        refine g_lald hx hb hK 1 k2 rfl (show vp_in (nI k) 12 from vp_in_nI (by omega) (by omega)) d_We_comesBefore_23 ?_
        refine g_eql (show cf (nI k).toNatClampNeg = cf k from by rw [nI_clamp (by omega)]) ?_
        refine g_eql (show cf k = lN (f k) from hf k (by omega)) ?_
        refine gs (pc' := 25) (fun _ _ _ _ _ hl => W.lcmp hx hb d_We_comesBefore_24) ?_
        refine gsb (pc1 := 49) (pc2 := 28) (fun _ _ _ _ _ => lv_if_gt (tgt := 49) hx hb d_We_comesBefore_25 (by decide)) (fun c_3 => ?_) (fun c_3 => ?_)
        · skip
          have nc_3 : (f j) > (f k) := (lcN_gt (a := (f j)) (b := (f k)) (by omega) (by omega)).1 c_3
          have hah : ahead f k j = true := decide_eq_true (by omega)
          refine gst (pc' := 52) (L' := [(2, .int (nI (b + 1))), (3, .int (nI j)), (1, .int (nI k)), (0, .ref h)]) (fun _ _ _ _ _ hl => lv_iinc (v := nI (b + 1)) hx hb d_We_comesBefore_49 hl (k := 1) rfl (nI_add _ 1) (by decide) rfl) ?_
          refine gst (pc' := 55) (L' := [(3, .int (nI (j + 1))), (2, .int (nI (b + 1))), (1, .int (nI k)), (0, .ref h)]) (fun _ _ _ _ _ hl => lv_iinc (v := nI (j + 1)) hx hb d_We_comesBefore_52 hl (k := 1) rfl (nI_add _ 1) (by decide) rfl) ?_
          refine gs (pc' := 4) (fun _ _ _ _ _ hl => lv_goto (tgt := 4) hx hb d_We_comesBefore_55 (by decide)) ?_
          refine gsub [0, 1, 2, 3] rfl ?_
          exact ih (j + 1) (b + 1) G (by omega) (by show _ = cnt _ j + (if ahead f k j then 1 else 0); rw [hah, hbc]; rfl) rfl k1 k2
        · skip
          have nc_3 : (f j) ≤ (f k) := (lcN_gt (a := (f j)) (b := (f k)) (by omega) (by omega)).2 c_3
          refine gs (pc' := 29) (fun _ _ _ _ _ hl => lv_aload_n hx hb d_We_comesBefore_28 rfl (lv_at hl 3 rfl)) ?_
          refine g_get hx hb hts hin_We hown hK k1 rfl 1 (by decide) (hts _ wm39) (fun _ h9 => h9) rfl d_We_comesBefore_29 ?_
          refine gs (pc' := 33) (fun _ _ _ _ _ hl => lv_iload_n hx hb d_We_comesBefore_32 rfl (lv_at hl 0 rfl)) ?_
          refine g_lald hx hb hK 1 k2 rfl (show vp_in (nI j) 12 from vp_in_nI (by omega) (by omega)) d_We_comesBefore_33 ?_
          refine g_eql (show cf (nI j).toNatClampNeg = cf j from by rw [nI_clamp (by omega)]) ?_
          refine g_eql (show cf j = lN (f j) from hf j (by omega)) ?_
          refine gs (pc' := 35) (fun _ _ _ _ _ hl => lv_aload_n hx hb d_We_comesBefore_34 rfl (lv_at hl 3 rfl)) ?_
          refine g_get hx hb hts hin_We hown hK k1 rfl 1 (by decide) (hts _ wm39) (fun _ h9 => h9) rfl d_We_comesBefore_35 ?_
          refine gs (pc' := 39) (fun _ _ _ _ _ hl => lv_iload_n hx hb d_We_comesBefore_38 rfl (lv_at hl 2 rfl)) ?_
          refine g_lald hx hb hK 1 k2 rfl (show vp_in (nI k) 12 from vp_in_nI (by omega) (by omega)) d_We_comesBefore_39 ?_
          refine g_eql (show cf (nI k).toNatClampNeg = cf k from by rw [nI_clamp (by omega)]) ?_
          refine g_eql (show cf k = lN (f k) from hf k (by omega)) ?_
          refine gs (pc' := 41) (fun _ _ _ _ _ hl => W.lcmp hx hb d_We_comesBefore_40) ?_
          refine gsb (pc1 := 52) (pc2 := 44) (fun _ _ _ _ _ => lv_if_ne (tgt := 52) hx hb d_We_comesBefore_41 (by decide)) (fun c_4 => ?_) (fun c_4 => ?_)
          · skip
            have nc_4 : (f j) ≠ (f k) := (lcN_ne (a := (f j)) (b := (f k)) (by omega) (by omega)).1 c_4
            have hah : ahead f k j = false := decide_eq_false (by omega)
            refine gst (pc' := 55) (L' := [(3, .int (nI (j + 1))), (2, .int (nI b)), (1, .int (nI k)), (0, .ref h)]) (fun _ _ _ _ _ hl => lv_iinc (v := nI (j + 1)) hx hb d_We_comesBefore_52 hl (k := 0) rfl (nI_add _ 1) (by decide) rfl) ?_
            refine gs (pc' := 4) (fun _ _ _ _ _ hl => lv_goto (tgt := 4) hx hb d_We_comesBefore_55 (by decide)) ?_
            refine gsub [0, 1, 2, 3] rfl ?_
            exact ih (j + 1) (b) G (by omega) (by show _ = cnt _ j + (if ahead f k j then 1 else 0); rw [hah, hbc]; rfl) rfl k1 k2
          · skip
            have nc_4 : (f j) = (f k) := (lcN_ne (a := (f j)) (b := (f k)) (by omega) (by omega)).2 c_4
            refine gs (pc' := 45) (fun _ _ _ _ _ hl => lv_iload_n hx hb d_We_comesBefore_44 rfl (lv_at hl 0 rfl)) ?_
            refine gs (pc' := 46) (fun _ _ _ _ _ hl => lv_iload_n hx hb d_We_comesBefore_45 rfl (lv_at hl 2 rfl)) ?_
            refine gsb (pc1 := 52) (pc2 := 49) (fun _ _ _ _ _ => lv_icmp_ge (tgt := 52) hx hb d_We_comesBefore_46 (by decide)) (fun c_5 => ?_) (fun c_5 => ?_)
            · skip
              have nc_5 : j ≥ k := (nn_ge (a := j) (b := k) (by omega) (by omega)).1 c_5
              have hah : ahead f k j = false := decide_eq_false (by omega)
              refine gst (pc' := 55) (L' := [(3, .int (nI (j + 1))), (2, .int (nI b)), (1, .int (nI k)), (0, .ref h)]) (fun _ _ _ _ _ hl => lv_iinc (v := nI (j + 1)) hx hb d_We_comesBefore_52 hl (k := 0) rfl (nI_add _ 1) (by decide) rfl) ?_
              refine gs (pc' := 4) (fun _ _ _ _ _ hl => lv_goto (tgt := 4) hx hb d_We_comesBefore_55 (by decide)) ?_
              refine gsub [0, 1, 2, 3] rfl ?_
              exact ih (j + 1) (b) G (by omega) (by show _ = cnt _ j + (if ahead f k j then 1 else 0); rw [hah, hbc]; rfl) rfl k1 k2
            · skip
              have nc_5 : j < k := (nn_ge (a := j) (b := k) (by omega) (by omega)).2 c_5
              have hah : ahead f k j = true := decide_eq_true (by omega)
              refine gst (pc' := 52) (L' := [(2, .int (nI (b + 1))), (3, .int (nI j)), (1, .int (nI k)), (0, .ref h)]) (fun _ _ _ _ _ hl => lv_iinc (v := nI (b + 1)) hx hb d_We_comesBefore_49 hl (k := 1) rfl (nI_add _ 1) (by decide) rfl) ?_
              refine gst (pc' := 55) (L' := [(3, .int (nI (j + 1))), (2, .int (nI (b + 1))), (1, .int (nI k)), (0, .ref h)]) (fun _ _ _ _ _ hl => lv_iinc (v := nI (j + 1)) hx hb d_We_comesBefore_52 hl (k := 1) rfl (nI_add _ 1) (by decide) rfl) ?_
              refine gs (pc' := 4) (fun _ _ _ _ _ hl => lv_goto (tgt := 4) hx hb d_We_comesBefore_55 (by decide)) ?_
              refine gsub [0, 1, 2, 3] rfl ?_
              exact ih (j + 1) (b + 1) G (by omega) (by show _ = cnt _ j + (if ahead f k j then 1 else 0); rw [hah, hbc]; rfl) rfl k1 k2
  exact loop n 0 0 G (by omega) rfl rfl hh hac
set_option maxHeartbeats 4000000 in
set_option maxRecDepth 100000 in
theorem c_We_portion (l : Launch) (D : va_G) (cA : Nat → ClassId) (lo MC MS : Nat) (G : gT) (B : Nat × Nat) (h ae ac n : Nat) (ef : Nat → Int32) (cf : Nat → Int64) (hh : G h = some (35, .inr (7, [.ref ae, .ref ac, .int (nI n)]))) (hae : G ae = some (36, .inl (cA 0, 12, .inl ef))) (hac : G ac = some (37, .inl (cA 1, 12, .inr (.inl cf)))) (hn : n ≤ 12) (w : Nat → Nat) (hw : ∀ i, i < n → ef i = nI (w i)) (hw2 : ∀ i, i < n → 1 ≤ w i ∧ w i ≤ 1000000000) (Wn : Nat) (hWb : Wn ≤ 1000000000000) (k : Nat) (hk : k < n) (hB1 : B.1 ≤ MC) (hB2 : B.2 ≤ MS) : gMet l y_We_portion w_We_portion 1 31 D clS (gtys cA) lo MC MS [.ref h, .long (lN Wn), .int (nI k)] G B (gQl D clS lo (fun r u => u.2 = B ∧ r = lN (shareOf w n Wn k) ∧ ∃ cf2 : Nat → Int64, u.1 ac = some (37, .inl (cA 1, 12, .inr (.inl cf2))) ∧ u.1 h = some (35, .inr (7, [.ref ae, .ref ac, .int (nI n)])) ∧ gfr (fun x => x = 37) G u.1)) := by
  refine g_metl (cc := prog_9_method_3_code) (nL := 13) (L := [(0, .ref h), (1, .long (lN Wn)), (3, .int (nI k))]) (by decide +kernel) rfl (Nat.le_of_ble_eq_true rfl) rfl ?_
  intro p e R s m args below meth c Q hF hRc hRs hRf hRl hret
  obtain ⟨hx, hb, hr, hml, hts0, hown, hlocks, hin, hK, hlo, hZ⟩ := hF
  have hts : ∀ w ∈ tbg, w.before args s = true := fun w h => hts0 w (List.mem_cons_of_mem _ h)
  have htb : tot w n ≤ 12 * 1000000000 := Nat.le_trans (tot_bd (fun i9 h9 => (hw2 i9 h9).2)) (Nat.mul_le_mul_right _ hn)
  have ht0 : 0 < tot w n := Nat.lt_of_lt_of_le (show 0 < w k by have := hw2 k hk; omega) (tot_le hk)
  refine gs (pc' := 1) (fun _ _ _ _ _ hl => lv_aload_n hx hb d_We_portion_0 rfl (lv_at hl 0 rfl)) ?_
  refine g_outl hlo (g_runV (As := []) (rest := []) ⟨hx, hb, hml, hown, hts⟩ hK hZ hRc hRs (c_We_total l D cA lo MC MS G B h ae ac n ef cf hh hae hac hn w hw hw2 hB1 hB2) (fun _ _ => cwV 0 hts (tb_good (tb_cons wm734 (tb_cons wm736 (tb_cons ws18 (tb_cons wm2 k_We_total))))) rfl rfl rfl (by decide +kernel) ⟨by rw [hRf]; exact Nat.le_of_ble_eq_true rfl, by rw [hRl]; exact Nat.le_of_ble_eq_true rfl⟩) hh rfl hB1 hB2 rfl (Nat.le_of_ble_eq_true rfl) d_We_portion_1) (fun r_4 G_1 B_2 p_3 => ?_)
  obtain ⟨u_5, e_6⟩ := p_3
  cases u_5
  subst e_6
  refine gst (pc' := 6) (L' := [(4, .long (lN (tot w n))), (0, .ref h), (1, .long (lN Wn)), (3, .int (nI k))]) (fun _ _ _ _ _ hl => lv_lstore hx hb d_We_portion_4 hl (by decide) rfl) ?_
  refine gs (pc' := 7) (fun _ _ _ _ _ hl => lv_lload_n hx hb d_We_portion_6 rfl (lv_at hl 2 rfl)) ?_
  refine gst (pc' := 9) (L' := [(6, .long (lN Wn)), (4, .long (lN (tot w n))), (0, .ref h), (1, .long (lN Wn)), (3, .int (nI k))]) (fun _ _ _ _ _ hl => lv_lstore hx hb d_We_portion_7 hl (by decide) rfl) ?_
  refine gs (pc' := 10) (fun _ _ _ _ _ hl => lv_lconst (v := lN 0) hx hb d_We_portion_9 (by decide)) ?_
  refine gst (pc' := 12) (L' := [(8, .long (lN 0)), (6, .long (lN Wn)), (4, .long (lN (tot w n))), (0, .ref h), (1, .long (lN Wn)), (3, .int (nI k))]) (fun _ _ _ _ _ hl => lv_lstore hx hb d_We_portion_10 hl (by decide) rfl) ?_
  refine gs (pc' := 13) (fun _ _ _ _ _ hl => lv_iconst (v := nI 0) hx hb d_We_portion_12 (by decide)) ?_
  refine gst (pc' := 15) (L' := [(10, .int (nI 0)), (8, .long (lN 0)), (6, .long (lN Wn)), (4, .long (lN (tot w n))), (0, .ref h), (1, .long (lN Wn)), (3, .int (nI k))]) (fun _ _ _ _ _ hl => lv_istore hx hb d_We_portion_13 hl (by decide) rfl) ?_
  refine gsub [0, 1, 2, 3, 5, 6, 4] rfl ?_
  have loop : ∀ (q j ow lf : Nat) (cu : Nat → Int64) (Gk : gT), (j + q = n) → (ow = if k < j then shp w n Wn k else 0) → (lf + tot (shp w n Wn) j = Wn) → (∀ i, i < j → cu i = lN (shr w n Wn i)) → (gfr (fun x => x = 37) G Gk) → Gk h = some (35, .inr (7, [.ref ae, .ref ac, .int (nI n)])) → Gk ae = some (36, .inl (cA 0, 12, .inl ef)) → Gk ac = some (37, .inl (cA 1, 12, .inr (.inl cu))) → gV p l e R s m args below meth c D clS lo 13 Q 15 [(10, .int (nI j)), (8, .long (lN ow)), (6, .long (lN lf)), (4, .long (lN (tot w n))), (1, .long (lN Wn)), (3, .int (nI k)), (0, .ref h)] [] Gk B := by
    intro q
    induction q with
    | zero =>
      intro j ow lf cu Gk hj how hlf hcu hfr k1 k2 k3
      have hjn : n = j := by omega
      rw [if_pos (by omega)] at how
      have hlW : lf = Wn - tot (shp w n Wn) n := by
        rw [← hjn] at hlf
        omega
      have hll : lf ≤ Wn := by omega
      refine gs (pc' := 17) (fun _ _ _ _ _ hl => lv_iload hx hb d_We_portion_15 (lv_at hl 0 rfl)) ?_
      refine gs (pc' := 18) (fun _ _ _ _ _ hl => lv_aload_n hx hb d_We_portion_17 rfl (lv_at hl 6 rfl)) ?_
      refine g_get hx hb hts hin_We hown hK k1 rfl 2 (by decide) (hts _ wm40) (fun _ h9 => h9) rfl d_We_portion_18 ?_
      refine gsb (pc1 := 86) (pc2 := 24) (fun _ _ _ _ _ => lv_icmp_ge (tgt := 86) hx hb d_We_portion_21 (by decide)) (fun c_7 => ?_) (fun c_7 => ?_)
      · skip
        have nc_7 : j ≥ n := (nn_ge (a := j) (b := n) (by omega) (by omega)).1 c_7
        refine gs (pc' := 87) (fun _ _ _ _ _ hl => lv_aload_n hx hb d_We_portion_86 rfl (lv_at hl 6 rfl)) ?_
        refine gs (pc' := 88) (fun _ _ _ _ _ hl => lv_iload_n hx hb d_We_portion_87 rfl (lv_at hl 5 rfl)) ?_
        refine g_outi hlo (g_runV (As := [.int (nI k)]) (rest := []) ⟨hx, hb, hml, hown, hts⟩ hK hZ hRc hRs (c_We_comesBefore l D cA lo MC MS Gk B h ae ac n ef cu k1 k2 k3 hn w hw hw2 (shr w n Wn) (fun i9 h9 => hcu i9 (by omega)) (fun i9 h9 => Nat.lt_of_lt_of_le (Nat.mod_lt _ ht0) (by omega)) k hk hB1 hB2) (fun _ _ => cwV 1 hts (tb_good (tb_cons wm742 (tb_cons wm744 (tb_cons ws19 (tb_cons wm2 k_We_comesBefore))))) rfl rfl rfl (by decide +kernel) ⟨by rw [hRf]; exact Nat.le_of_ble_eq_true rfl, by rw [hRl]; exact Nat.le_of_ble_eq_true rfl⟩) k1 rfl hB1 hB2 rfl (Nat.le_of_ble_eq_true rfl) d_We_portion_88) (fun r_11 G_8 B_9 p_10 => ?_)
        obtain ⟨u_12, e_13⟩ := p_10
        cases u_12
        subst e_13
        have hcn := cnt_le (p := ahead (shr w n Wn) k) (n := n)
        refine gs (pc' := 92) (fun _ _ _ _ _ hl => lv_i2l (v := lN (cnt (ahead (shr w n Wn) k) n)) hx hb d_We_portion_91 (nI_l (by omega))) ?_
        refine gs (pc' := 94) (fun _ _ _ _ _ hl => lv_lload hx hb d_We_portion_92 (lv_at hl 2 rfl)) ?_
        refine gs (pc' := 95) (fun _ _ _ _ _ hl => W.lcmp hx hb d_We_portion_94) ?_
        refine gsb (pc1 := 105) (pc2 := 98) (fun _ _ _ _ _ => lv_if_ge (tgt := 105) hx hb d_We_portion_95 (by decide)) (fun c_14 => ?_) (fun c_14 => ?_)
        · skip
          have nc_14 : (cnt (ahead (shr w n Wn) k) n) ≥ lf := (lcN_ge (a := (cnt (ahead (shr w n Wn) k) n)) (b := lf) (by omega) (by omega)).1 c_14
          have hres : shareOf w n Wn k = ow := by unfold shareOf; rw [← hlW, if_neg (by omega), ← how]; rfl
          refine gs (pc' := 107) (fun _ _ _ _ _ hl => lv_lload hx hb d_We_portion_105 (lv_at hl 1 rfl)) ?_
          exact hret 107 _ _ _ _ d_We_portion_107 hB1 hB2 ⟨rfl, by rw [hres], cu, k3, k1, hfr⟩
        · skip
          have nc_14 : (cnt (ahead (shr w n Wn) k) n) < lf := (lcN_ge (a := (cnt (ahead (shr w n Wn) k) n)) (b := lf) (by omega) (by omega)).2 c_14
          have hres : shareOf w n Wn k = ow + 1 := by unfold shareOf; rw [← hlW, if_pos (by omega), ← how]
          refine gs (pc' := 100) (fun _ _ _ _ _ hl => lv_lload hx hb d_We_portion_98 (lv_at hl 1 rfl)) ?_
          refine gs (pc' := 101) (fun _ _ _ _ _ hl => lv_lconst (v := lN 1) hx hb d_We_portion_100 (by decide)) ?_
          refine gs (pc' := 102) (fun _ _ _ _ _ hl => lv_ladd hx hb d_We_portion_101) ?_
          refine g_eql (show (lN ow) + (lN 1) = lN (ow + 1) from lN_add _ _) ?_
          refine gs (pc' := 107) (fun _ _ _ _ _ hl => lv_goto (tgt := 107) hx hb d_We_portion_102 (by decide)) ?_
          exact hret 107 _ _ _ _ d_We_portion_107 hB1 hB2 ⟨rfl, by rw [hres], cu, k3, k1, hfr⟩
      · skip
        have nc_7 : j < n := (nn_ge (a := j) (b := n) (by omega) (by omega)).2 c_7
        exact absurd nc_7 (by omega)
    | succ q ih =>
      intro j ow lf cu Gk hj how hlf hcu hfr k1 k2 k3
      have hwj := hw2 j (by omega)
      have hpt : Wn * w j / tot w n * tot w n ≤ Wn * w j := Nat.div_mul_le_self _ _
      have hsm := tot_mono (f := shp w n Wn) (show j + 1 ≤ n by omega)
      have hsl := (sh_left (w := w) (n := n) (W := Wn) ht0).1
      have hst : tot (shp w n Wn) (j + 1) = tot (shp w n Wn) j + Wn * w j / tot w n := rfl
      refine gs (pc' := 17) (fun _ _ _ _ _ hl => lv_iload hx hb d_We_portion_15 (lv_at hl 0 rfl)) ?_
      refine gs (pc' := 18) (fun _ _ _ _ _ hl => lv_aload_n hx hb d_We_portion_17 rfl (lv_at hl 6 rfl)) ?_
      refine g_get hx hb hts hin_We hown hK k1 rfl 2 (by decide) (hts _ wm40) (fun _ h9 => h9) rfl d_We_portion_18 ?_
      refine gsb (pc1 := 86) (pc2 := 24) (fun _ _ _ _ _ => lv_icmp_ge (tgt := 86) hx hb d_We_portion_21 (by decide)) (fun c_15 => ?_) (fun c_15 => ?_)
      · skip
        have nc_15 : j ≥ n := (nn_ge (a := j) (b := n) (by omega) (by omega)).1 c_15
        exact absurd nc_15 (by omega)
      · skip
        have nc_15 : j < n := (nn_ge (a := j) (b := n) (by omega) (by omega)).2 c_15
        refine gs (pc' := 25) (fun _ _ _ _ _ hl => lv_lload_n hx hb d_We_portion_24 rfl (lv_at hl 4 rfl)) ?_
        refine gs (pc' := 26) (fun _ _ _ _ _ hl => lv_aload_n hx hb d_We_portion_25 rfl (lv_at hl 6 rfl)) ?_
        refine g_get hx hb hts hin_We hown hK k1 rfl 0 (by decide) (hts _ wm38) (fun _ h9 => h9) rfl d_We_portion_26 ?_
        refine gs (pc' := 31) (fun _ _ _ _ _ hl => lv_iload hx hb d_We_portion_29 (lv_at hl 0 rfl)) ?_
        refine g_iald hx hb hK 0 k2 rfl (show vp_in (nI j) 12 from vp_in_nI (by omega) (by omega)) d_We_portion_31 ?_
        refine g_eqi (show ef (nI j).toNatClampNeg = ef j from by rw [nI_clamp (by omega)]) ?_
        refine g_eqi (show ef j = nI (w j) from hw j (by omega)) ?_
        refine gs (pc' := 33) (fun _ _ _ _ _ hl => lv_i2l (v := lN (w j)) hx hb d_We_portion_32 (nI_l (by omega))) ?_
        refine gs (pc' := 35) (fun _ _ _ _ _ hl => lv_lload hx hb d_We_portion_33 (lv_at hl 3 rfl)) ?_
        refine g_outl hlo (g_runS (As := [.long (lN Wn), .long (lN (w j)), .long (lN (tot w n))]) (rest := []) ⟨hx, hb, hml, hown, hts⟩ hK hZ hRc hRs (c_We_roundedDown l D cA lo MC MS Gk B Wn (w j) (tot w n) (by omega) (by omega) (by omega) (by omega) hB1 hB2) (fun _ _ => va_cwS 3 hts (tb_good (tb_cons wm738 (tb_cons wm739 (tb_cons wm2 k_We_roundedDown)))) rfl rfl rfl (by decide +kernel) ⟨by rw [hRf]; exact Nat.le_of_ble_eq_true rfl, by rw [hRl]; exact Nat.le_of_ble_eq_true rfl⟩) hB1 hB2 rfl (Nat.le_of_ble_eq_true rfl) d_We_portion_35) (fun r_19 G_16 B_17 p_18 => ?_)
        obtain ⟨u_20, e_21⟩ := p_18
        cases u_20
        subst e_21
        refine gst (pc' := 40) (L' := [(11, .long (lN (Wn * (w j) / (tot w n)))), (10, .int (nI j)), (8, .long (lN ow)), (6, .long (lN lf)), (4, .long (lN (tot w n))), (1, .long (lN Wn)), (3, .int (nI k)), (0, .ref h)]) (fun _ _ _ _ _ hl => lv_lstore hx hb d_We_portion_38 hl (by decide) rfl) ?_
        refine gs (pc' := 41) (fun _ _ _ _ _ hl => lv_aload_n hx hb d_We_portion_40 rfl (lv_at hl 7 rfl)) ?_
        refine g_get hx hb hts hin_We hown hK k1 rfl 1 (by decide) (hts _ wm39) (fun _ h9 => h9) rfl d_We_portion_41 ?_
        refine gs (pc' := 46) (fun _ _ _ _ _ hl => lv_iload hx hb d_We_portion_44 (lv_at hl 1 rfl)) ?_
        refine gs (pc' := 47) (fun _ _ _ _ _ hl => lv_lload_n hx hb d_We_portion_46 rfl (lv_at hl 5 rfl)) ?_
        refine gs (pc' := 48) (fun _ _ _ _ _ hl => lv_aload_n hx hb d_We_portion_47 rfl (lv_at hl 7 rfl)) ?_
        refine g_get hx hb hts hin_We hown hK k1 rfl 0 (by decide) (hts _ wm38) (fun _ h9 => h9) rfl d_We_portion_48 ?_
        refine gs (pc' := 53) (fun _ _ _ _ _ hl => lv_iload hx hb d_We_portion_51 (lv_at hl 1 rfl)) ?_
        refine g_iald hx hb hK 0 k2 rfl (show vp_in (nI j) 12 from vp_in_nI (by omega) (by omega)) d_We_portion_53 ?_
        refine g_eqi (show ef (nI j).toNatClampNeg = ef j from by rw [nI_clamp (by omega)]) ?_
        refine g_eqi (show ef j = nI (w j) from hw j (by omega)) ?_
        refine gs (pc' := 55) (fun _ _ _ _ _ hl => lv_i2l (v := lN (w j)) hx hb d_We_portion_54 (nI_l (by omega))) ?_
        refine gs (pc' := 56) (fun _ _ _ _ _ hl => lv_lmul hx hb d_We_portion_55) ?_
        refine g_eql (show (lN Wn) * (lN (w j)) = lN (Wn * (w j)) from lN_mul _ _) ?_
        refine gs (pc' := 58) (fun _ _ _ _ _ hl => lv_lload hx hb d_We_portion_56 (lv_at hl 0 rfl)) ?_
        refine gs (pc' := 60) (fun _ _ _ _ _ hl => lv_lload hx hb d_We_portion_58 (lv_at hl 4 rfl)) ?_
        refine gs (pc' := 61) (fun _ _ _ _ _ hl => lv_lmul hx hb d_We_portion_60) ?_
        refine g_eql (show (lN (Wn * (w j) / (tot w n))) * (lN (tot w n)) = lN ((Wn * (w j) / (tot w n)) * (tot w n)) from lN_mul _ _) ?_
        refine gs (pc' := 62) (fun _ _ _ _ _ hl => lv_lsub hx hb d_We_portion_61) ?_
        refine g_eql (show (lN (Wn * (w j))) - (lN ((Wn * (w j) / (tot w n)) * (tot w n))) = lN ((Wn * (w j)) - ((Wn * (w j) / (tot w n)) * (tot w n))) from lN_sub (by omega)) ?_
        refine g_eql (show lN ((Wn * (w j)) - ((Wn * (w j) / (tot w n)) * (tot w n))) = lN (shr w n Wn j) from congrArg lN (sh_cut)) ?_
        refine g_last hx hb hK 1 k3 rfl (show vp_in (nI j) 12 from vp_in_nI (by omega) (by omega)) d_We_portion_62 (fun G_22 f_23 o_24 => ?_)
        rw [nI_clamp (by omega)] at f_23
        have f_25 : G_22 h = some (35, .inr (7, [.ref ae, .ref ac, .int (nI n)])) := (o_24 _ (gne k1 k3 (fun e => by cases e))).trans k1
        have f_26 : G_22 ae = some (36, .inl (cA 0, 12, .inl ef)) := (o_24 _ (gne k2 k3 (by simp))).trans k2
        refine gs (pc' := 65) (fun _ _ _ _ _ hl => lv_lload hx hb d_We_portion_63 (lv_at hl 3 rfl)) ?_
        refine gs (pc' := 67) (fun _ _ _ _ _ hl => lv_lload hx hb d_We_portion_65 (lv_at hl 0 rfl)) ?_
        refine gs (pc' := 68) (fun _ _ _ _ _ hl => lv_lsub hx hb d_We_portion_67) ?_
        refine g_eql (show (lN lf) - (lN (Wn * (w j) / (tot w n))) = lN (lf - (Wn * (w j) / (tot w n))) from lN_sub (by omega)) ?_
        refine gst (pc' := 70) (L' := [(6, .long (lN (lf - (Wn * (w j) / (tot w n))))), (11, .long (lN (Wn * (w j) / (tot w n)))), (10, .int (nI j)), (8, .long (lN ow)), (4, .long (lN (tot w n))), (1, .long (lN Wn)), (3, .int (nI k)), (0, .ref h)]) (fun _ _ _ _ _ hl => lv_lstore hx hb d_We_portion_68 hl (by decide) rfl) ?_
        refine gs (pc' := 72) (fun _ _ _ _ _ hl => lv_iload hx hb d_We_portion_70 (lv_at hl 2 rfl)) ?_
        refine gs (pc' := 73) (fun _ _ _ _ _ hl => lv_iload_n hx hb d_We_portion_72 rfl (lv_at hl 6 rfl)) ?_
        refine gsb (pc1 := 80) (pc2 := 76) (fun _ _ _ _ _ => lv_icmp_ne (tgt := 80) hx hb d_We_portion_73 (by decide)) (fun c_27 => ?_) (fun c_27 => ?_)
        · skip
          have nc_27 : j ≠ k := (nn_ne (a := j) (b := k) (by omega) (by omega)).1 c_27
          have hkj : ¬ j = k := nc_27
          refine gst (pc' := 83) (L' := [(10, .int (nI (j + 1))), (6, .long (lN (lf - (Wn * (w j) / (tot w n))))), (11, .long (lN (Wn * (w j) / (tot w n)))), (8, .long (lN ow)), (4, .long (lN (tot w n))), (1, .long (lN Wn)), (3, .int (nI k)), (0, .ref h)]) (fun _ _ _ _ _ hl => lv_iinc (v := nI (j + 1)) hx hb d_We_portion_80 hl (k := 2) rfl (nI_add _ 1) (by decide) rfl) ?_
          refine gs (pc' := 15) (fun _ _ _ _ _ hl => lv_goto (tgt := 15) hx hb d_We_portion_83 (by decide)) ?_
          refine gsub [0, 3, 1, 4, 5, 6, 7] rfl ?_
          exact ih (j + 1) (ow) (lf - (Wn * (w j) / (tot w n))) (vp_updL cu j (lN (shr w n Wn j))) G_22 (by omega) (by rw [how]; by_cases z9 : k < j <;> simp [z9, show (k < j + 1) ↔ (k < j) by omega]) (by omega) (fun i9 h9 => by by_cases e9 : i9 = j; (subst e9; exact if_pos rfl); (exact (if_neg e9).trans (hcu i9 (by omega)))) (gfr_put hfr k3 rfl o_24) f_25 f_26 f_23
        · skip
          have nc_27 : j = k := (nn_ne (a := j) (b := k) (by omega) (by omega)).2 c_27
          have hkj : j = k := nc_27
          refine gs (pc' := 78) (fun _ _ _ _ _ hl => lv_lload hx hb d_We_portion_76 (lv_at hl 1 rfl)) ?_
          refine gst (pc' := 80) (L' := [(8, .long (lN (Wn * (w j) / (tot w n)))), (6, .long (lN (lf - (Wn * (w j) / (tot w n))))), (11, .long (lN (Wn * (w j) / (tot w n)))), (10, .int (nI j)), (4, .long (lN (tot w n))), (1, .long (lN Wn)), (3, .int (nI k)), (0, .ref h)]) (fun _ _ _ _ _ hl => lv_lstore hx hb d_We_portion_78 hl (by decide) rfl) ?_
          refine gst (pc' := 83) (L' := [(10, .int (nI (j + 1))), (8, .long (lN (Wn * (w j) / (tot w n)))), (6, .long (lN (lf - (Wn * (w j) / (tot w n))))), (11, .long (lN (Wn * (w j) / (tot w n)))), (4, .long (lN (tot w n))), (1, .long (lN Wn)), (3, .int (nI k)), (0, .ref h)]) (fun _ _ _ _ _ hl => lv_iinc (v := nI (j + 1)) hx hb d_We_portion_80 hl (k := 3) rfl (nI_add _ 1) (by decide) rfl) ?_
          refine gs (pc' := 15) (fun _ _ _ _ _ hl => lv_goto (tgt := 15) hx hb d_We_portion_83 (by decide)) ?_
          refine gsub [0, 1, 2, 4, 5, 6, 7] rfl ?_
          exact ih (j + 1) (Wn * (w j) / (tot w n)) (lf - (Wn * (w j) / (tot w n))) (vp_updL cu j (lN (shr w n Wn j))) G_22 (by omega) (by subst hkj; rw [if_pos (Nat.lt_succ_self _)]; rfl) (by omega) (fun i9 h9 => by by_cases e9 : i9 = j; (subst e9; exact if_pos rfl); (exact (if_neg e9).trans (hcu i9 (by omega)))) (gfr_put hfr k3 rfl o_24) f_25 f_26 f_23
  exact loop n 0 0 Wn cf G (by omega) (by simp) (by simp [tot]) (fun i9 h9 => absurd h9 (Nat.not_lt_zero _)) gfr_rf hh hae hac
