set_option maxHeartbeats 4000000 in
set_option maxRecDepth 100000 in
theorem c_Di_guessLimb (l : Launch) (D : va_G) (cA : Nat → ClassId) (lo MC MS : Nat) (G : gT) (B : Nat × Nat) (td hd hqu hre hdv : Nat) (hhd : G hd = some (td, .inr (2, [.ref hqu, .ref hre, .ref hdv]))) (tv av capv md : Nat) (fv : Nat → Int32) (hhv : G hdv = some (tv, .inr (4, [.ref av, .int (nI (md + 2))]))) (hav : G av = some (tv, .inl (cA 0, capv, .inl fv))) (hcv : md + 2 ≤ capv) (hcv2 : capv ≤ 100000) (hlv : lim fv (md + 2)) (tr ar capr : Nat) (zr : Int32) (fr : Nat → Int32) (hhr : G hre = some (tr, .inr (4, [.ref ar, .int zr]))) (har : G ar = some (tr, .inl (cA 0, capr, .inl fr))) (hcr2 : capr ≤ 100000) (i v U : Nat) (hi2 : i + md + 3 ≤ capr) (hlr : lim fr (i + md + 3)) (hvv : dv (df fv) (md + 2) = v) (hU : U = dv (dsh (df fr) i) (md + 3)) (hlt : U < 1000000000 * v) (htop : 500000000 ≤ df fv (md + 1)) (hB1 : B.1 ≤ MC) (hB2 : B.2 ≤ MS) : gMet l y_Di_guessLimb w_Di_guessLimb 0 0 D clS (gtys cA) lo MC MS [.ref hd, .int (nI (i + md + 2))] G B (gQi D clS lo (fun r u => u = (G, B) ∧ ∃ g : Nat, r = nI g ∧ g < 1000000000 ∧ U / v ≤ g ∧ g ≤ U / v + 1)) := by
  refine g_meti (cc := prog_4_method_4_code) (nL := 13) (L := [(0, .ref hd), (1, .int (nI (i + md + 2)))]) (by decide +kernel) rfl (Nat.le_of_ble_eq_true rfl) rfl ?_
  intro p e R s m args below meth c Q hF hRc hRs hRf hRl hret
  obtain ⟨hx, hb, hr, hml, hts0, hown, hlocks, hin, hK, hlo, hZ⟩ := hF
  have hts : ∀ w ∈ tbg, w.before args s = true := fun w h => hts0 w (List.mem_cons_of_mem _ h)
  have e1 := hvv.symm.trans (kd_v (d := df fv) md)
  have e2 := hU.trans (kd_u (d := df fr) i md)
  have hvl := dv_lt (lim_dok (lim_le hlv (show md ≤ md + 2 by omega)))
  have hul : dv (dsh (df fr) i) md < 1000000000 ^ md := dv_lt (fun x hx2 => (hlr (i + x) (by omega)).2)
  have hPp := pB_pos md
  have htB := (hlv (md + 1) (by omega)).2
  have hnx := (hlv md (by omega)).2
  have hu0b := (hlr (i + md + 2) (by omega)).2
  have hu1 := (hlr (i + md + 1) (by omega)).2
  have hu2 := (hlr (i + md) (by omega)).2
  have hv0 : 0 < v := by
    have := Nat.mul_le_mul_right (1000000000 ^ md) (show 1 ≤ df fv (md + 1) * 1000000000 + df fv md by omega)
    omega
  obtain ⟨qq, hqq⟩ : ∃ qq, qq = U / v := ⟨_, rfl⟩
  have hqB := kd_lt hlt hqq
  have hu0 := kd_u0 e1 hvl hnx e2 hlt
  have hf1 := kd_first e1 hv0 (show 0 < df fv (md + 1) by omega) hu1 hu2 hul e2 hqq
  have hf2 := kd_two e1 hv0 hPp hvl hnx htop htB hu1 hu0 e2 hqq
  refine gs (pc' := 1) (fun _ _ _ _ _ hl => lv_aload_n hx hb d_Di_guessLimb_0 rfl (lv_at hl 0 rfl)) ?_
  refine g_get hx hb hts hin_Di hown hK hhd rfl 2 (by decide) (hts _ wm90) (fun _ h9 => h9) rfl d_Di_guessLimb_1 ?_
  refine g_get hx hb hts hin_Na hown hK hhv rfl 0 (by decide) (hts _ wm73) (fun _ h9 => h9) rfl d_Di_guessLimb_4 ?_
  refine gs (pc' := 8) (fun _ _ _ _ _ hl => lv_aload_n hx hb d_Di_guessLimb_7 rfl (lv_at hl 0 rfl)) ?_
  refine g_get hx hb hts hin_Di hown hK hhd rfl 2 (by decide) (hts _ wm90) (fun _ h9 => h9) rfl d_Di_guessLimb_8 ?_
  refine g_get hx hb hts hin_Na hown hK hhv rfl 1 (by decide) (hts _ wm76) (fun _ h9 => h9) rfl d_Di_guessLimb_11 ?_
  refine gs (pc' := 15) (fun _ _ _ _ _ hl => lv_iconst (v := nI 1) hx hb d_Di_guessLimb_14 (by decide)) ?_
  refine gs (pc' := 16) (fun _ _ _ _ _ hl => lv_isub hx hb d_Di_guessLimb_15) ?_
  refine g_eqi (show (nI (md + 2)) - (nI 1) = nI (md + 1) from (pk_sub (by omega)).trans (congrArg nI (show (md + 2) - 1 = md + 1 by omega))) ?_
  refine g_iald hx hb hK 0 hav rfl (show vp_in (nI (md + 1)) capv from vp_in_nI (by omega) (by omega)) d_Di_guessLimb_16 ?_
  refine g_eqi (show fv (nI (md + 1)).toNatClampNeg = fv (md + 1) from by rw [nI_clamp (by omega)]) ?_
  have b_1 : df fv (md + 1) < 1000000000 := (hlv (md + 1) (by omega)).2
  refine g_eqi (show fv (md + 1) = nI (df fv (md + 1)) from (hlv (md + 1) (by omega)).1) ?_
  refine gs (pc' := 18) (fun _ _ _ _ _ hl => lv_i2l (v := lN (df fv (md + 1))) hx hb d_Di_guessLimb_17 (nI_l (by omega))) ?_
  refine gst (pc' := 19) (L' := [(2, .long (lN (df fv (md + 1)))), (0, .ref hd), (1, .int (nI (i + md + 2)))]) (fun _ _ _ _ _ hl => lv_lstore_n hx hb d_Di_guessLimb_18 rfl hl (by decide) rfl) ?_
  refine gs (pc' := 20) (fun _ _ _ _ _ hl => lv_aload_n hx hb d_Di_guessLimb_19 rfl (lv_at hl 1 rfl)) ?_
  refine g_get hx hb hts hin_Di hown hK hhd rfl 2 (by decide) (hts _ wm90) (fun _ h9 => h9) rfl d_Di_guessLimb_20 ?_
  refine g_get hx hb hts hin_Na hown hK hhv rfl 0 (by decide) (hts _ wm73) (fun _ h9 => h9) rfl d_Di_guessLimb_23 ?_
  refine gs (pc' := 27) (fun _ _ _ _ _ hl => lv_aload_n hx hb d_Di_guessLimb_26 rfl (lv_at hl 1 rfl)) ?_
  refine g_get hx hb hts hin_Di hown hK hhd rfl 2 (by decide) (hts _ wm90) (fun _ h9 => h9) rfl d_Di_guessLimb_27 ?_
  refine g_get hx hb hts hin_Na hown hK hhv rfl 1 (by decide) (hts _ wm76) (fun _ h9 => h9) rfl d_Di_guessLimb_30 ?_
  refine gs (pc' := 34) (fun _ _ _ _ _ hl => lv_iconst (v := nI 2) hx hb d_Di_guessLimb_33 (by decide)) ?_
  refine gs (pc' := 35) (fun _ _ _ _ _ hl => lv_isub hx hb d_Di_guessLimb_34) ?_
  refine g_eqi (show (nI (md + 2)) - (nI 2) = nI md from (pk_sub (by omega)).trans (congrArg nI (show (md + 2) - 2 = md by omega))) ?_
  refine g_iald hx hb hK 0 hav rfl (show vp_in (nI md) capv from vp_in_nI (by omega) (by omega)) d_Di_guessLimb_35 ?_
  refine g_eqi (show fv (nI md).toNatClampNeg = fv md from by rw [nI_clamp (by omega)]) ?_
  have b_2 : df fv md < 1000000000 := (hlv md (by omega)).2
  refine g_eqi (show fv md = nI (df fv md) from (hlv md (by omega)).1) ?_
  refine gs (pc' := 37) (fun _ _ _ _ _ hl => lv_i2l (v := lN (df fv md)) hx hb d_Di_guessLimb_36 (nI_l (by omega))) ?_
  refine gst (pc' := 39) (L' := [(4, .long (lN (df fv md))), (2, .long (lN (df fv (md + 1)))), (0, .ref hd), (1, .int (nI (i + md + 2)))]) (fun _ _ _ _ _ hl => lv_lstore hx hb d_Di_guessLimb_37 hl (by decide) rfl) ?_
  refine gs (pc' := 40) (fun _ _ _ _ _ hl => lv_lload_n hx hb d_Di_guessLimb_39 rfl (lv_at hl 1 rfl)) ?_
  refine gs (pc' := 41) (fun _ _ _ _ _ hl => lv_lconst (v := lN 0) hx hb d_Di_guessLimb_40 (by decide)) ?_
  refine gs (pc' := 42) (fun _ _ _ _ _ hl => W.lcmp hx hb d_Di_guessLimb_41) ?_
  refine gsb (pc1 := 47) (pc2 := 45) (fun _ _ _ _ _ => lv_if_gt (tgt := 47) hx hb d_Di_guessLimb_42 (by decide)) (fun c_3 => ?_) (fun c_3 => ?_)
  · skip
    have nc_3 : (df fv (md + 1)) > 0 := (lcN_gt (a := (df fv (md + 1))) (b := 0) (by omega) (by omega)).1 c_3
    refine gs (pc' := 48) (fun _ _ _ _ _ hl => lv_aload_n hx hb d_Di_guessLimb_47 rfl (lv_at hl 2 rfl)) ?_
    refine g_get hx hb hts hin_Di hown hK hhd rfl 1 (by decide) (hts _ wm87) (fun _ h9 => h9) rfl d_Di_guessLimb_48 ?_
    refine g_get hx hb hts hin_Na hown hK hhr rfl 0 (by decide) (hts _ wm73) (fun _ h9 => h9) rfl d_Di_guessLimb_51 ?_
    refine gs (pc' := 55) (fun _ _ _ _ _ hl => lv_iload_n hx hb d_Di_guessLimb_54 rfl (lv_at hl 3 rfl)) ?_
    refine g_iald hx hb hK 0 har rfl (show vp_in (nI (i + md + 2)) capr from vp_in_nI (by omega) (by omega)) d_Di_guessLimb_55 ?_
    refine g_eqi (show fr (nI (i + md + 2)).toNatClampNeg = fr (i + md + 2) from by rw [nI_clamp (by omega)]) ?_
    have b_4 : df fr (i + md + 2) < 1000000000 := (hlr (i + md + 2) (by omega)).2
    refine g_eqi (show fr (i + md + 2) = nI (df fr (i + md + 2)) from (hlr (i + md + 2) (by omega)).1) ?_
    refine gs (pc' := 57) (fun _ _ _ _ _ hl => lv_i2l (v := lN (df fr (i + md + 2))) hx hb d_Di_guessLimb_56 (nI_l (by omega))) ?_
    refine gs (pc' := 60) (fun _ _ _ _ _ hl => lv_ldc2 (v := 1000000000) hx hb hown (hts _ wm458) d_Di_guessLimb_57) ?_
    refine g_eql (show 1000000000 = lN 1000000000 from rfl) ?_
    refine gs (pc' := 61) (fun _ _ _ _ _ hl => lv_lmul hx hb d_Di_guessLimb_60) ?_
    refine g_eql (show (lN (df fr (i + md + 2))) * (lN 1000000000) = lN ((df fr (i + md + 2)) * 1000000000) from lN_mul _ _) ?_
    refine gs (pc' := 62) (fun _ _ _ _ _ hl => lv_aload_n hx hb d_Di_guessLimb_61 rfl (lv_at hl 2 rfl)) ?_
    refine g_get hx hb hts hin_Di hown hK hhd rfl 1 (by decide) (hts _ wm87) (fun _ h9 => h9) rfl d_Di_guessLimb_62 ?_
    refine g_get hx hb hts hin_Na hown hK hhr rfl 0 (by decide) (hts _ wm73) (fun _ h9 => h9) rfl d_Di_guessLimb_65 ?_
    refine gs (pc' := 69) (fun _ _ _ _ _ hl => lv_iload_n hx hb d_Di_guessLimb_68 rfl (lv_at hl 3 rfl)) ?_
    refine gs (pc' := 70) (fun _ _ _ _ _ hl => lv_iconst (v := nI 1) hx hb d_Di_guessLimb_69 (by decide)) ?_
    refine gs (pc' := 71) (fun _ _ _ _ _ hl => lv_isub hx hb d_Di_guessLimb_70) ?_
    refine g_eqi (show (nI (i + md + 2)) - (nI 1) = nI (i + md + 1) from (pk_sub (by omega)).trans (congrArg nI (show (i + md + 2) - 1 = i + md + 1 by omega))) ?_
    refine g_iald hx hb hK 0 har rfl (show vp_in (nI (i + md + 1)) capr from vp_in_nI (by omega) (by omega)) d_Di_guessLimb_71 ?_
    refine g_eqi (show fr (nI (i + md + 1)).toNatClampNeg = fr (i + md + 1) from by rw [nI_clamp (by omega)]) ?_
    have b_5 : df fr (i + md + 1) < 1000000000 := (hlr (i + md + 1) (by omega)).2
    refine g_eqi (show fr (i + md + 1) = nI (df fr (i + md + 1)) from (hlr (i + md + 1) (by omega)).1) ?_
    refine gs (pc' := 73) (fun _ _ _ _ _ hl => lv_i2l (v := lN (df fr (i + md + 1))) hx hb d_Di_guessLimb_72 (nI_l (by omega))) ?_
    refine gs (pc' := 74) (fun _ _ _ _ _ hl => lv_ladd hx hb d_Di_guessLimb_73) ?_
    refine g_eql (show (lN ((df fr (i + md + 2)) * 1000000000)) + (lN (df fr (i + md + 1))) = lN (((df fr (i + md + 2)) * 1000000000) + (df fr (i + md + 1))) from lN_add _ _) ?_
    refine gst (pc' := 76) (L' := [(6, .long (lN (((df fr (i + md + 2)) * 1000000000) + (df fr (i + md + 1))))), (4, .long (lN (df fv md))), (2, .long (lN (df fv (md + 1)))), (0, .ref hd), (1, .int (nI (i + md + 2)))]) (fun _ _ _ _ _ hl => lv_lstore hx hb d_Di_guessLimb_74 hl (by decide) rfl) ?_
    refine gs (pc' := 78) (fun _ _ _ _ _ hl => lv_lload hx hb d_Di_guessLimb_76 (lv_at hl 0 rfl)) ?_
    refine gs (pc' := 79) (fun _ _ _ _ _ hl => lv_lload_n hx hb d_Di_guessLimb_78 rfl (lv_at hl 2 rfl)) ?_
    refine gs (pc' := 80) (fun _ _ _ _ _ hl => lv_ldiv hx hb d_Di_guessLimb_79 (fun e => absurd ((pk_lEQ (by omega) (by omega)).mp (e.trans (show _ = lN 0 from rfl))) (by omega))) ?_
    refine g_eql (show (lN (((df fr (i + md + 2)) * 1000000000) + (df fr (i + md + 1)))) / (lN (df fv (md + 1))) = lN ((((df fr (i + md + 2)) * 1000000000) + (df fr (i + md + 1))) / (df fv (md + 1))) from pk_lDiv (by omega) (by omega) (by omega)) ?_
    refine gst (pc' := 82) (L' := [(8, .long (lN ((((df fr (i + md + 2)) * 1000000000) + (df fr (i + md + 1))) / (df fv (md + 1))))), (6, .long (lN (((df fr (i + md + 2)) * 1000000000) + (df fr (i + md + 1))))), (4, .long (lN (df fv md))), (2, .long (lN (df fv (md + 1)))), (0, .ref hd), (1, .int (nI (i + md + 2)))]) (fun _ _ _ _ _ hl => lv_lstore hx hb d_Di_guessLimb_80 hl (by decide) rfl) ?_
    have hgt : (df fr (i + md + 2) * 1000000000 + df fr (i + md + 1)) / df fv (md + 1) * df fv (md + 1) ≤ df fr (i + md + 2) * 1000000000 + df fr (i + md + 1) := Nat.div_mul_le_self _ _
    refine gs (pc' := 84) (fun _ _ _ _ _ hl => lv_lload hx hb d_Di_guessLimb_82 (lv_at hl 1 rfl)) ?_
    refine gs (pc' := 86) (fun _ _ _ _ _ hl => lv_lload hx hb d_Di_guessLimb_84 (lv_at hl 0 rfl)) ?_
    refine gs (pc' := 87) (fun _ _ _ _ _ hl => lv_lload_n hx hb d_Di_guessLimb_86 rfl (lv_at hl 3 rfl)) ?_
    refine gs (pc' := 88) (fun _ _ _ _ _ hl => lv_lmul hx hb d_Di_guessLimb_87) ?_
    refine g_eql (show (lN ((((df fr (i + md + 2)) * 1000000000) + (df fr (i + md + 1))) / (df fv (md + 1)))) * (lN (df fv (md + 1))) = lN (((((df fr (i + md + 2)) * 1000000000) + (df fr (i + md + 1))) / (df fv (md + 1))) * (df fv (md + 1))) from lN_mul _ _) ?_
    refine gs (pc' := 89) (fun _ _ _ _ _ hl => lv_lsub hx hb d_Di_guessLimb_88) ?_
    refine g_eql (show (lN (((df fr (i + md + 2)) * 1000000000) + (df fr (i + md + 1)))) - (lN (((((df fr (i + md + 2)) * 1000000000) + (df fr (i + md + 1))) / (df fv (md + 1))) * (df fv (md + 1)))) = lN ((((df fr (i + md + 2)) * 1000000000) + (df fr (i + md + 1))) - (((((df fr (i + md + 2)) * 1000000000) + (df fr (i + md + 1))) / (df fv (md + 1))) * (df fv (md + 1)))) from lN_sub (by omega)) ?_
    refine gst (pc' := 91) (L' := [(10, .long (lN ((((df fr (i + md + 2)) * 1000000000) + (df fr (i + md + 1))) - (((((df fr (i + md + 2)) * 1000000000) + (df fr (i + md + 1))) / (df fv (md + 1))) * (df fv (md + 1)))))), (8, .long (lN ((((df fr (i + md + 2)) * 1000000000) + (df fr (i + md + 1))) / (df fv (md + 1))))), (6, .long (lN (((df fr (i + md + 2)) * 1000000000) + (df fr (i + md + 1))))), (4, .long (lN (df fv md))), (2, .long (lN (df fv (md + 1)))), (0, .ref hd), (1, .int (nI (i + md + 2)))]) (fun _ _ _ _ _ hl => lv_lstore hx hb d_Di_guessLimb_89 hl (by decide) rfl) ?_
    refine gs (pc' := 92) (fun _ _ _ _ _ hl => lv_iconst (v := nI 0) hx hb d_Di_guessLimb_91 (by decide)) ?_
    refine gst (pc' := 94) (L' := [(12, .int (nI 0)), (10, .long (lN ((((df fr (i + md + 2)) * 1000000000) + (df fr (i + md + 1))) - (((((df fr (i + md + 2)) * 1000000000) + (df fr (i + md + 1))) / (df fv (md + 1))) * (df fv (md + 1)))))), (8, .long (lN ((((df fr (i + md + 2)) * 1000000000) + (df fr (i + md + 1))) / (df fv (md + 1))))), (6, .long (lN (((df fr (i + md + 2)) * 1000000000) + (df fr (i + md + 1))))), (4, .long (lN (df fv md))), (2, .long (lN (df fv (md + 1)))), (0, .ref hd), (1, .int (nI (i + md + 2)))]) (fun _ _ _ _ _ hl => lv_istore hx hb d_Di_guessLimb_92 hl (by decide) rfl) ?_
    refine gsub [0, 1, 2, 4, 5, 6, 7] rfl ?_
    have loop : ∀ (n i0 g rs : Nat), i0 + n = 4 → df fr (i + md + 2) * 1000000000 + df fr (i + md + 1) = g * df fv (md + 1) + rs → qq ≤ g → g + i0 ≤ qq + 2 → gV p l e R s m args below meth c D clS lo 13 Q 94 [(12, .int (nI i0)), (10, .long (lN rs)), (8, .long (lN g)), (4, .long (lN (df fv md))), (2, .long (lN (df fv (md + 1)))), (0, .ref hd), (1, .int (nI (i + md + 2)))] [] G B := by
      intro n
      induction n with
      | zero =>
        intro i0 g rs hi hl hq1 hq2
        exact absurd hq2 (by omega)
      | succ n ih =>
        intro i0 g rs hi hl hq1 hq2
        have hm1 : g * df fv md ≤ 1000000001 * 999999999 := Nat.mul_le_mul (by omega) (by omega)
        refine gs (pc' := 96) (fun _ _ _ _ _ hl => lv_iload hx hb d_Di_guessLimb_94 (lv_at hl 0 rfl)) ?_
        refine gs (pc' := 97) (fun _ _ _ _ _ hl => lv_iconst (v := nI 4) hx hb d_Di_guessLimb_96 (by decide)) ?_
        refine gsb (pc1 := 167) (pc2 := 100) (fun _ _ _ _ _ => lv_icmp_ge (tgt := 167) hx hb d_Di_guessLimb_97 (by decide)) (fun c_6 => ?_) (fun c_6 => ?_)
        · skip
          have nc_6 : i0 ≥ 4 := (nn_ge (a := i0) (b := 4) (by omega) (by omega)).1 c_6
          exact absurd nc_6 (by omega)
        · skip
          have nc_6 : i0 < 4 := (nn_ge (a := i0) (b := 4) (by omega) (by omega)).2 c_6
          refine gs (pc' := 102) (fun _ _ _ _ _ hl => lv_lload hx hb d_Di_guessLimb_100 (lv_at hl 1 rfl)) ?_
          refine gs (pc' := 105) (fun _ _ _ _ _ hl => lv_ldc2 (v := 1000000000) hx hb hown (hts _ wm458) d_Di_guessLimb_102) ?_
          refine g_eql (show 1000000000 = lN 1000000000 from rfl) ?_
          refine gs (pc' := 106) (fun _ _ _ _ _ hl => W.lcmp hx hb d_Di_guessLimb_105) ?_
          refine gsb (pc1 := 167) (pc2 := 109) (fun _ _ _ _ _ => lv_if_ge (tgt := 167) hx hb d_Di_guessLimb_106 (by decide)) (fun c_7 => ?_) (fun c_7 => ?_)
          · skip
            have nc_7 : rs ≥ 1000000000 := (lcN_ge (a := rs) (b := 1000000000) (by omega) (by omega)).1 c_7
            have hkr := kd_rest (u2 := df fr (i + md)) hnx hu1 hu0 hl nc_7
            have hgl := hkr.1
            have hfin := kd_ok e1 hv0 hvl htop e2 hqq hl hgl hkr.2
            refine gs (pc' := 169) (fun _ _ _ _ _ hl => lv_lload hx hb d_Di_guessLimb_167 (lv_at hl 2 rfl)) ?_
            refine gs (pc' := 170) (fun _ _ _ _ _ hl => lv_l2i (v := nI g) hx hb d_Di_guessLimb_169 (lN_i _)) ?_
            exact hret 170 _ _ _ _ d_Di_guessLimb_170 hB1 hB2 ⟨rfl, g, rfl, hgl, by rw [← hqq]; exact hq1, by rw [← hqq]; exact hfin⟩
          · skip
            have nc_7 : rs < 1000000000 := (lcN_ge (a := rs) (b := 1000000000) (by omega) (by omega)).2 c_7
            refine gs (pc' := 111) (fun _ _ _ _ _ hl => lv_lload hx hb d_Di_guessLimb_109 (lv_at hl 2 rfl)) ?_
            refine gs (pc' := 114) (fun _ _ _ _ _ hl => lv_ldc2 (v := 1000000000) hx hb hown (hts _ wm458) d_Di_guessLimb_111) ?_
            refine g_eql (show 1000000000 = lN 1000000000 from rfl) ?_
            refine gs (pc' := 115) (fun _ _ _ _ _ hl => W.lcmp hx hb d_Di_guessLimb_114) ?_
            refine gsb (pc1 := 149) (pc2 := 118) (fun _ _ _ _ _ => lv_if_ge (tgt := 149) hx hb d_Di_guessLimb_115 (by decide)) (fun c_8 => ?_) (fun c_8 => ?_)
            · skip
              have nc_8 : g ≥ 1000000000 := (lcN_ge (a := g) (b := 1000000000) (by omega) (by omega)).1 c_8
              have hdec : qq < g := by omega
              refine gs (pc' := 151) (fun _ _ _ _ _ hl => lv_lload hx hb d_Di_guessLimb_149 (lv_at hl 2 rfl)) ?_
              refine gs (pc' := 152) (fun _ _ _ _ _ hl => lv_lconst (v := lN 1) hx hb d_Di_guessLimb_151 (by decide)) ?_
              refine gs (pc' := 153) (fun _ _ _ _ _ hl => lv_lsub hx hb d_Di_guessLimb_152) ?_
              refine g_eql (show (lN g) - (lN 1) = lN (g - 1) from lN_sub (by omega)) ?_
              refine gst (pc' := 155) (L' := [(8, .long (lN (g - 1))), (12, .int (nI i0)), (10, .long (lN rs)), (4, .long (lN (df fv md))), (2, .long (lN (df fv (md + 1)))), (0, .ref hd), (1, .int (nI (i + md + 2)))]) (fun _ _ _ _ _ hl => lv_lstore hx hb d_Di_guessLimb_153 hl (by decide) rfl) ?_
              refine gs (pc' := 157) (fun _ _ _ _ _ hl => lv_lload hx hb d_Di_guessLimb_155 (lv_at hl 2 rfl)) ?_
              refine gs (pc' := 158) (fun _ _ _ _ _ hl => lv_lload_n hx hb d_Di_guessLimb_157 rfl (lv_at hl 4 rfl)) ?_
              refine gs (pc' := 159) (fun _ _ _ _ _ hl => lv_ladd hx hb d_Di_guessLimb_158) ?_
              refine g_eql (show (lN rs) + (lN (df fv (md + 1))) = lN (rs + (df fv (md + 1))) from lN_add _ _) ?_
              refine gst (pc' := 161) (L' := [(10, .long (lN (rs + (df fv (md + 1))))), (8, .long (lN (g - 1))), (12, .int (nI i0)), (4, .long (lN (df fv md))), (2, .long (lN (df fv (md + 1)))), (0, .ref hd), (1, .int (nI (i + md + 2)))]) (fun _ _ _ _ _ hl => lv_lstore hx hb d_Di_guessLimb_159 hl (by decide) rfl) ?_
              refine gst (pc' := 164) (L' := [(12, .int (nI (i0 + 1))), (10, .long (lN (rs + (df fv (md + 1))))), (8, .long (lN (g - 1))), (4, .long (lN (df fv md))), (2, .long (lN (df fv (md + 1)))), (0, .ref hd), (1, .int (nI (i + md + 2)))]) (fun _ _ _ _ _ hl => lv_iinc (v := nI (i0 + 1)) hx hb d_Di_guessLimb_161 hl (k := 2) rfl (nI_add _ 1) (by decide) rfl) ?_
              refine gs (pc' := 94) (fun _ _ _ _ _ hl => lv_goto (tgt := 94) hx hb d_Di_guessLimb_164 (by decide)) ?_
              refine gsub [0, 1, 2, 3, 4, 5, 6] rfl ?_
              exact ih (i0 + 1) (g - 1) (rs + df fv (md + 1)) (by omega) (kd_step hl (by omega)) (by omega) (by omega)
            · skip
              have nc_8 : g < 1000000000 := (lcN_ge (a := g) (b := 1000000000) (by omega) (by omega)).2 c_8
              have hgl : g < 1000000000 := nc_8
              refine gs (pc' := 120) (fun _ _ _ _ _ hl => lv_lload hx hb d_Di_guessLimb_118 (lv_at hl 2 rfl)) ?_
              refine gs (pc' := 122) (fun _ _ _ _ _ hl => lv_lload hx hb d_Di_guessLimb_120 (lv_at hl 3 rfl)) ?_
              refine gs (pc' := 123) (fun _ _ _ _ _ hl => lv_lmul hx hb d_Di_guessLimb_122) ?_
              refine g_eql (show (lN g) * (lN (df fv md)) = lN (g * (df fv md)) from lN_mul _ _) ?_
              refine gs (pc' := 125) (fun _ _ _ _ _ hl => lv_lload hx hb d_Di_guessLimb_123 (lv_at hl 1 rfl)) ?_
              refine gs (pc' := 128) (fun _ _ _ _ _ hl => lv_ldc2 (v := 1000000000) hx hb hown (hts _ wm458) d_Di_guessLimb_125) ?_
              refine g_eql (show 1000000000 = lN 1000000000 from rfl) ?_
              refine gs (pc' := 129) (fun _ _ _ _ _ hl => lv_lmul hx hb d_Di_guessLimb_128) ?_
              refine g_eql (show (lN rs) * (lN 1000000000) = lN (rs * 1000000000) from lN_mul _ _) ?_
              refine gs (pc' := 130) (fun _ _ _ _ _ hl => lv_aload_n hx hb d_Di_guessLimb_129 rfl (lv_at hl 5 rfl)) ?_
              refine g_get hx hb hts hin_Di hown hK hhd rfl 1 (by decide) (hts _ wm87) (fun _ h9 => h9) rfl d_Di_guessLimb_130 ?_
              refine g_get hx hb hts hin_Na hown hK hhr rfl 0 (by decide) (hts _ wm73) (fun _ h9 => h9) rfl d_Di_guessLimb_133 ?_
              refine gs (pc' := 137) (fun _ _ _ _ _ hl => lv_iload_n hx hb d_Di_guessLimb_136 rfl (lv_at hl 6 rfl)) ?_
              refine gs (pc' := 138) (fun _ _ _ _ _ hl => lv_iconst (v := nI 2) hx hb d_Di_guessLimb_137 (by decide)) ?_
              refine gs (pc' := 139) (fun _ _ _ _ _ hl => lv_isub hx hb d_Di_guessLimb_138) ?_
              refine g_eqi (show (nI (i + md + 2)) - (nI 2) = nI (i + md) from (pk_sub (by omega)).trans (congrArg nI (show (i + md + 2) - 2 = i + md by omega))) ?_
              refine g_iald hx hb hK 0 har rfl (show vp_in (nI (i + md)) capr from vp_in_nI (by omega) (by omega)) d_Di_guessLimb_139 ?_
              refine g_eqi (show fr (nI (i + md)).toNatClampNeg = fr (i + md) from by rw [nI_clamp (by omega)]) ?_
              have b_9 : df fr (i + md) < 1000000000 := (hlr (i + md) (by omega)).2
              refine g_eqi (show fr (i + md) = nI (df fr (i + md)) from (hlr (i + md) (by omega)).1) ?_
              refine gs (pc' := 141) (fun _ _ _ _ _ hl => lv_i2l (v := lN (df fr (i + md))) hx hb d_Di_guessLimb_140 (nI_l (by omega))) ?_
              refine gs (pc' := 142) (fun _ _ _ _ _ hl => lv_ladd hx hb d_Di_guessLimb_141) ?_
              refine g_eql (show (lN (rs * 1000000000)) + (lN (df fr (i + md))) = lN ((rs * 1000000000) + (df fr (i + md))) from lN_add _ _) ?_
              refine gs (pc' := 143) (fun _ _ _ _ _ hl => W.lcmp hx hb d_Di_guessLimb_142) ?_
              refine gsb (pc1 := 149) (pc2 := 146) (fun _ _ _ _ _ => lv_if_gt (tgt := 149) hx hb d_Di_guessLimb_143 (by decide)) (fun c_10 => ?_) (fun c_10 => ?_)
              · skip
                have nc_10 : (g * (df fv md)) > ((rs * 1000000000) + (df fr (i + md))) := (lcN_gt (a := (g * (df fv md))) (b := ((rs * 1000000000) + (df fr (i + md)))) (by omega) (by omega)).1 c_10
                have hdec := kd_dec e1 hv0 hul e2 hqq hl nc_10
                refine gs (pc' := 151) (fun _ _ _ _ _ hl => lv_lload hx hb d_Di_guessLimb_149 (lv_at hl 2 rfl)) ?_
                refine gs (pc' := 152) (fun _ _ _ _ _ hl => lv_lconst (v := lN 1) hx hb d_Di_guessLimb_151 (by decide)) ?_
                refine gs (pc' := 153) (fun _ _ _ _ _ hl => lv_lsub hx hb d_Di_guessLimb_152) ?_
                refine g_eql (show (lN g) - (lN 1) = lN (g - 1) from lN_sub (by omega)) ?_
                refine gst (pc' := 155) (L' := [(8, .long (lN (g - 1))), (12, .int (nI i0)), (10, .long (lN rs)), (4, .long (lN (df fv md))), (2, .long (lN (df fv (md + 1)))), (0, .ref hd), (1, .int (nI (i + md + 2)))]) (fun _ _ _ _ _ hl => lv_lstore hx hb d_Di_guessLimb_153 hl (by decide) rfl) ?_
                refine gs (pc' := 157) (fun _ _ _ _ _ hl => lv_lload hx hb d_Di_guessLimb_155 (lv_at hl 2 rfl)) ?_
                refine gs (pc' := 158) (fun _ _ _ _ _ hl => lv_lload_n hx hb d_Di_guessLimb_157 rfl (lv_at hl 4 rfl)) ?_
                refine gs (pc' := 159) (fun _ _ _ _ _ hl => lv_ladd hx hb d_Di_guessLimb_158) ?_
                refine g_eql (show (lN rs) + (lN (df fv (md + 1))) = lN (rs + (df fv (md + 1))) from lN_add _ _) ?_
                refine gst (pc' := 161) (L' := [(10, .long (lN (rs + (df fv (md + 1))))), (8, .long (lN (g - 1))), (12, .int (nI i0)), (4, .long (lN (df fv md))), (2, .long (lN (df fv (md + 1)))), (0, .ref hd), (1, .int (nI (i + md + 2)))]) (fun _ _ _ _ _ hl => lv_lstore hx hb d_Di_guessLimb_159 hl (by decide) rfl) ?_
                refine gst (pc' := 164) (L' := [(12, .int (nI (i0 + 1))), (10, .long (lN (rs + (df fv (md + 1))))), (8, .long (lN (g - 1))), (4, .long (lN (df fv md))), (2, .long (lN (df fv (md + 1)))), (0, .ref hd), (1, .int (nI (i + md + 2)))]) (fun _ _ _ _ _ hl => lv_iinc (v := nI (i0 + 1)) hx hb d_Di_guessLimb_161 hl (k := 2) rfl (nI_add _ 1) (by decide) rfl) ?_
                refine gs (pc' := 94) (fun _ _ _ _ _ hl => lv_goto (tgt := 94) hx hb d_Di_guessLimb_164 (by decide)) ?_
                refine gsub [0, 1, 2, 3, 4, 5, 6] rfl ?_
                exact ih (i0 + 1) (g - 1) (rs + df fv (md + 1)) (by omega) (kd_step hl (by omega)) (by omega) (by omega)
              · skip
                have nc_10 : (g * (df fv md)) ≤ ((rs * 1000000000) + (df fr (i + md))) := (lcN_gt (a := (g * (df fv md))) (b := ((rs * 1000000000) + (df fr (i + md)))) (by omega) (by omega)).2 c_10
                have hfin := kd_ok e1 hv0 hvl htop e2 hqq hl hgl nc_10
                refine gs (pc' := 167) (fun _ _ _ _ _ hl => lv_goto (tgt := 167) hx hb d_Di_guessLimb_146 (by decide)) ?_
                refine gs (pc' := 169) (fun _ _ _ _ _ hl => lv_lload hx hb d_Di_guessLimb_167 (lv_at hl 2 rfl)) ?_
                refine gs (pc' := 170) (fun _ _ _ _ _ hl => lv_l2i (v := nI g) hx hb d_Di_guessLimb_169 (lN_i _)) ?_
                exact hret 170 _ _ _ _ d_Di_guessLimb_170 hB1 hB2 ⟨rfl, g, rfl, hgl, by rw [← hqq]; exact hq1, by rw [← hqq]; exact hfin⟩
    have hdm := Nat.div_add_mod (df fr (i + md + 2) * 1000000000 + df fr (i + md + 1)) (df fv (md + 1))
    exact loop 4 0 _ _ (by omega) (by rw [Nat.mul_comm] at hdm; omega) hf1 (by omega)
  · skip
    have nc_3 : (df fv (md + 1)) ≤ 0 := (lcN_gt (a := (df fv (md + 1))) (b := 0) (by omega) (by omega)).2 c_3
    exact absurd nc_3 (by omega)
set_option maxHeartbeats 4000000 in
set_option maxRecDepth 100000 in
theorem c_Di_subtract (l : Launch) (D : va_G) (cA : Nat → ClassId) (lo MC MS : Nat) (G : gT) (B : Nat × Nat) (td hd hqu hre hdv : Nat) (hhd : G hd = some (td, .inr (2, [.ref hqu, .ref hre, .ref hdv]))) (tv av capv md : Nat) (fv : Nat → Int32) (hhv : G hdv = some (tv, .inr (4, [.ref av, .int (nI (md + 2))]))) (hav : G av = some (tv, .inl (cA 0, capv, .inl fv))) (hcv : md + 2 ≤ capv) (hcv2 : capv ≤ 100000) (hlv : lim fv (md + 2)) (tr ar capr : Nat) (zr : Int32) (fr : Nat → Int32) (hhr : G hre = some (tr, .inr (4, [.ref ar, .int zr]))) (har : G ar = some (tr, .inl (cA 0, capr, .inl fr))) (hcr2 : capr ≤ 100000) (i v U g : Nat) (hi2 : i + md + 3 ≤ capr) (hlr : lim fr (i + md + 3)) (hnv : ¬ tv = tr) (hnd : ¬ td = tr) (hvv : dv (df fv) (md + 2) = v) (hv0 : 0 < v) (hvM : v ≤ 1000000000 ^ (md + 2)) (hU : U = dv (dsh (df fr) i) (md + 3)) (hgb : g < 1000000000) (hg1 : U / v ≤ g) (hg2 : g ≤ U / v + 1) (hB1 : B.1 ≤ MC) (hB2 : B.2 ≤ MS) : gMet l y_Di_subtract w_Di_subtract 0 0 D clS (gtys cA) lo MC MS [.ref hd, .int (nI i), .long (lN g)] G B (gQi D clS lo (fun r u => u.2 = B ∧ ∃ f1 : Nat → Int32, u.1 hre = some (tr, .inr (4, [.ref ar, .int zr])) ∧ u.1 ar = some (tr, .inl (cA 0, capr, .inl f1)) ∧ lim f1 (i + md + 3) ∧ (∀ x, i + md + 2 ≤ x → f1 x = fr x) ∧ (∀ x, x < i → f1 x = fr x) ∧ gfr (fun x => x = tr) G u.1 ∧ ((r = nI 0 ∧ g = U / v ∧ dv (dsh (df f1) i) (md + 2) = U % v) ∨ (r = nI 1 ∧ g = U / v + 1 ∧ dv (dsh (df f1) i) (md + 2) + v = U % v + 1000000000 ^ (md + 2))))) := by
  refine g_metz (cc := prog_4_method_5_code) (nL := 11) (L := [(0, .ref hd), (1, .int (nI i)), (2, .long (lN g))]) (by decide +kernel) rfl (Nat.le_of_ble_eq_true rfl) rfl ?_
  intro p e R s m args below meth c Q hF hRc hRs hRf hRl hret
  obtain ⟨hx, hb, hr, hml, hts0, hown, hlocks, hin, hK, hlo, hZ⟩ := hF
  have hts : ∀ w ∈ tbg, w.before args s = true := fun w h => hts0 w (List.mem_cons_of_mem _ h)
  refine gs (pc' := 1) (fun _ _ _ _ _ hl => lv_lconst (v := lN 0) hx hb d_Di_subtract_0 (by decide)) ?_
  refine gst (pc' := 3) (L' := [(4, .long (lN 0)), (0, .ref hd), (1, .int (nI i)), (2, .long (lN g))]) (fun _ _ _ _ _ hl => lv_lstore hx hb d_Di_subtract_1 hl (by decide) rfl) ?_
  refine gs (pc' := 4) (fun _ _ _ _ _ hl => lv_iconst (v := nI 0) hx hb d_Di_subtract_3 (by decide)) ?_
  refine gst (pc' := 6) (L' := [(6, .int (nI 0)), (4, .long (lN 0)), (0, .ref hd), (1, .int (nI i)), (2, .long (lN g))]) (fun _ _ _ _ _ hl => lv_istore hx hb d_Di_subtract_4 hl (by decide) rfl) ?_
  refine gsub [0, 1, 2, 3, 4] rfl ?_
  have loop : ∀ (n j c0 : Nat) (f1 : Nat → Int32) (Gk : gT), (j + n = md + 2) → (c0 < 1000000000) → (lim f1 (i + md + 3)) → (dv (dsh (df f1) i) j + g * dv (df fv) j = dv (dsh (df fr) i) j + c0 * 1000000000 ^ j) → (∀ x, i + j ≤ x → f1 x = fr x) → (∀ x, x < i → f1 x = fr x) → (gfr (fun x => x = tr) G Gk) → Gk hd = some (td, .inr (2, [.ref hqu, .ref hre, .ref hdv])) → Gk hdv = some (tv, .inr (4, [.ref av, .int (nI (md + 2))])) → Gk av = some (tv, .inl (cA 0, capv, .inl fv)) → Gk hre = some (tr, .inr (4, [.ref ar, .int zr])) → Gk ar = some (tr, .inl (cA 0, capr, .inl f1)) → gV p l e R s m args below meth c D clS lo 11 Q 6 [(6, .int (nI j)), (4, .long (lN c0)), (0, .ref hd), (1, .int (nI i)), (2, .long (lN g))] [] Gk B := by
    intro n
    induction n with
    | zero =>
      intro j c0 f1 Gk hj hc0 hl1 hv1 hup hdn hfr k1 k2 k3 k4 k5
      have hjM : j = md + 2 := by omega
      rw [hjM] at hv1 hup
      have hut : df f1 (i + (md + 2)) = df fr (i + (md + 2)) := by unfold df; rw [hup _ (Nat.le_refl _)]
      have hnew : dv (dsh (df f1) i) (md + 2) < 1000000000 ^ (md + 2) := dv_lt (fun x hx2 => (hl1 (i + x) (by omega)).2)
      have hUs : U = df fr (i + (md + 2)) * 1000000000 ^ (md + 2) + dv (dsh (df fr) i) (md + 2) := by rw [hU, dv_s, Nat.add_comm]; rfl
      rw [hvv] at hv1
      have hfit := kd_fit (M := 1000000000 ^ (md + 2)) hvM hv0 rfl hg1 hg2 hUs hnew hv1
      refine gs (pc' := 8) (fun _ _ _ _ _ hl => lv_iload hx hb d_Di_subtract_6 (lv_at hl 0 rfl)) ?_
      refine gs (pc' := 9) (fun _ _ _ _ _ hl => lv_aload_n hx hb d_Di_subtract_8 rfl (lv_at hl 2 rfl)) ?_
      refine g_get hx hb hts hin_Di hown hK k1 rfl 2 (by decide) (hts _ wm90) (fun _ h9 => h9) rfl d_Di_subtract_9 ?_
      refine g_get hx hb hts hin_Na hown hK k2 rfl 1 (by decide) (hts _ wm76) (fun _ h9 => h9) rfl d_Di_subtract_12 ?_
      refine gsb (pc1 := 111) (pc2 := 18) (fun _ _ _ _ _ => lv_icmp_ge (tgt := 111) hx hb d_Di_subtract_15 (by decide)) (fun c_1 => ?_) (fun c_1 => ?_)
      · skip
        have nc_1 : j ≥ (md + 2) := (nn_ge (a := j) (b := (md + 2)) (by omega) (by omega)).1 c_1
        refine gs (pc' := 112) (fun _ _ _ _ _ hl => lv_aload_n hx hb d_Di_subtract_111 rfl (lv_at hl 2 rfl)) ?_
        refine g_get hx hb hts hin_Di hown hK k1 rfl 1 (by decide) (hts _ wm87) (fun _ h9 => h9) rfl d_Di_subtract_112 ?_
        refine g_get hx hb hts hin_Na hown hK k4 rfl 0 (by decide) (hts _ wm73) (fun _ h9 => h9) rfl d_Di_subtract_115 ?_
        refine gs (pc' := 119) (fun _ _ _ _ _ hl => lv_iload_n hx hb d_Di_subtract_118 rfl (lv_at hl 3 rfl)) ?_
        refine gs (pc' := 120) (fun _ _ _ _ _ hl => lv_aload_n hx hb d_Di_subtract_119 rfl (lv_at hl 2 rfl)) ?_
        refine g_get hx hb hts hin_Di hown hK k1 rfl 2 (by decide) (hts _ wm90) (fun _ h9 => h9) rfl d_Di_subtract_120 ?_
        refine g_get hx hb hts hin_Na hown hK k2 rfl 1 (by decide) (hts _ wm76) (fun _ h9 => h9) rfl d_Di_subtract_123 ?_
        refine gs (pc' := 127) (fun _ _ _ _ _ hl => lv_iadd hx hb d_Di_subtract_126) ?_
        refine g_eqi (show (nI i) + (nI (md + 2)) = nI (i + (md + 2)) from nI_add _ _) ?_
        refine g_iald hx hb hK 0 k5 rfl (show vp_in (nI (i + (md + 2))) capr from vp_in_nI (by omega) (by omega)) d_Di_subtract_127 ?_
        refine g_eqi (show f1 (nI (i + (md + 2))).toNatClampNeg = f1 (i + (md + 2)) from by rw [nI_clamp (by omega)]) ?_
        have b_2 : df f1 (i + (md + 2)) < 1000000000 := (hl1 (i + (md + 2)) (by omega)).2
        refine g_eqi (show f1 (i + (md + 2)) = nI (df f1 (i + (md + 2))) from (hl1 (i + (md + 2)) (by omega)).1) ?_
        refine gs (pc' := 129) (fun _ _ _ _ _ hl => lv_i2l (v := lN (df f1 (i + (md + 2)))) hx hb d_Di_subtract_128 (nI_l (by omega))) ?_
        refine gs (pc' := 131) (fun _ _ _ _ _ hl => lv_lload hx hb d_Di_subtract_129 (lv_at hl 1 rfl)) ?_
        refine gs (pc' := 132) (fun _ _ _ _ _ hl => W.lcmp hx hb d_Di_subtract_131) ?_
        refine gsb (pc1 := 139) (pc2 := 135) (fun _ _ _ _ _ => lv_if_ge (tgt := 139) hx hb d_Di_subtract_132 (by decide)) (fun c_3 => ?_) (fun c_3 => ?_)
        · skip
          have nc_3 : (df f1 (i + (md + 2))) ≥ c0 := (lcN_ge (a := (df f1 (i + (md + 2)))) (b := c0) (by omega) (by omega)).1 c_3
          have hres := hfit.1 (by rw [← hut]; exact nc_3)
          refine gs (pc' := 140) (fun _ _ _ _ _ hl => lv_iconst (v := nI 0) hx hb d_Di_subtract_139 (by decide)) ?_
          exact hret 140 _ _ _ _ d_Di_subtract_140 hB1 hB2 (by decide) ⟨rfl, f1, k4, k5, hl1, (fun x hx2 => hup x (by omega)), hdn, hfr, Or.inl ⟨rfl, hres⟩⟩
        · skip
          have nc_3 : (df f1 (i + (md + 2))) < c0 := (lcN_ge (a := (df f1 (i + (md + 2)))) (b := c0) (by omega) (by omega)).2 c_3
          have hres := hfit.2 (by rw [← hut]; exact nc_3)
          refine gs (pc' := 136) (fun _ _ _ _ _ hl => lv_iconst (v := nI 1) hx hb d_Di_subtract_135 (by decide)) ?_
          refine gs (pc' := 140) (fun _ _ _ _ _ hl => lv_goto (tgt := 140) hx hb d_Di_subtract_136 (by decide)) ?_
          exact hret 140 _ _ _ _ d_Di_subtract_140 hB1 hB2 (by decide) ⟨rfl, f1, k4, k5, hl1, (fun x hx2 => hup x (by omega)), hdn, hfr, Or.inr ⟨rfl, hres⟩⟩
      · skip
        have nc_1 : j < (md + 2) := (nn_ge (a := j) (b := (md + 2)) (by omega) (by omega)).2 c_1
        exact absurd nc_1 (by omega)
    | succ n ih =>
      intro j c0 f1 Gk hj hc0 hl1 hv1 hup hdn hfr k1 k2 k3 k4 k5
      have hdj : df fv j < 1000000000 := (hlv j (by omega)).2
      have hrj : df f1 (i + j) < 1000000000 := (hl1 (i + j) (by omega)).2
      have hmu : df fv j * g ≤ 999999999 * 999999999 := Nat.mul_le_mul (by omega) (by omega)
      have hsm : df f1 (i + j) = df fr (i + j) := by unfold df; rw [hup _ (Nat.le_refl _)]
      refine gs (pc' := 8) (fun _ _ _ _ _ hl => lv_iload hx hb d_Di_subtract_6 (lv_at hl 0 rfl)) ?_
      refine gs (pc' := 9) (fun _ _ _ _ _ hl => lv_aload_n hx hb d_Di_subtract_8 rfl (lv_at hl 2 rfl)) ?_
      refine g_get hx hb hts hin_Di hown hK k1 rfl 2 (by decide) (hts _ wm90) (fun _ h9 => h9) rfl d_Di_subtract_9 ?_
      refine g_get hx hb hts hin_Na hown hK k2 rfl 1 (by decide) (hts _ wm76) (fun _ h9 => h9) rfl d_Di_subtract_12 ?_
      refine gsb (pc1 := 111) (pc2 := 18) (fun _ _ _ _ _ => lv_icmp_ge (tgt := 111) hx hb d_Di_subtract_15 (by decide)) (fun c_4 => ?_) (fun c_4 => ?_)
      · skip
        have nc_4 : j ≥ (md + 2) := (nn_ge (a := j) (b := (md + 2)) (by omega) (by omega)).1 c_4
        exact absurd nc_4 (by omega)
      · skip
        have nc_4 : j < (md + 2) := (nn_ge (a := j) (b := (md + 2)) (by omega) (by omega)).2 c_4
        refine gs (pc' := 19) (fun _ _ _ _ _ hl => lv_aload_n hx hb d_Di_subtract_18 rfl (lv_at hl 2 rfl)) ?_
        refine g_get hx hb hts hin_Di hown hK k1 rfl 2 (by decide) (hts _ wm90) (fun _ h9 => h9) rfl d_Di_subtract_19 ?_
        refine g_get hx hb hts hin_Na hown hK k2 rfl 0 (by decide) (hts _ wm73) (fun _ h9 => h9) rfl d_Di_subtract_22 ?_
        refine gs (pc' := 27) (fun _ _ _ _ _ hl => lv_iload hx hb d_Di_subtract_25 (lv_at hl 0 rfl)) ?_
        refine g_iald hx hb hK 0 k3 rfl (show vp_in (nI j) capv from vp_in_nI (by omega) (by omega)) d_Di_subtract_27 ?_
        refine g_eqi (show fv (nI j).toNatClampNeg = fv j from by rw [nI_clamp (by omega)]) ?_
        have b_5 : df fv j < 1000000000 := (hlv j (by omega)).2
        refine g_eqi (show fv j = nI (df fv j) from (hlv j (by omega)).1) ?_
        refine gs (pc' := 29) (fun _ _ _ _ _ hl => lv_i2l (v := lN (df fv j)) hx hb d_Di_subtract_28 (nI_l (by omega))) ?_
        refine gs (pc' := 30) (fun _ _ _ _ _ hl => lv_lload_n hx hb d_Di_subtract_29 rfl (lv_at hl 4 rfl)) ?_
        refine gs (pc' := 31) (fun _ _ _ _ _ hl => lv_lmul hx hb d_Di_subtract_30) ?_
        refine g_eql (show (lN (df fv j)) * (lN g) = lN ((df fv j) * g) from lN_mul _ _) ?_
        refine gs (pc' := 33) (fun _ _ _ _ _ hl => lv_lload hx hb d_Di_subtract_31 (lv_at hl 1 rfl)) ?_
        refine gs (pc' := 34) (fun _ _ _ _ _ hl => lv_ladd hx hb d_Di_subtract_33) ?_
        refine g_eql (show (lN ((df fv j) * g)) + (lN c0) = lN (((df fv j) * g) + c0) from lN_add _ _) ?_
        refine gst (pc' := 36) (L' := [(7, .long (lN (((df fv j) * g) + c0))), (6, .int (nI j)), (4, .long (lN c0)), (0, .ref hd), (1, .int (nI i)), (2, .long (lN g))]) (fun _ _ _ _ _ hl => lv_lstore hx hb d_Di_subtract_34 hl (by decide) rfl) ?_
        refine gs (pc' := 38) (fun _ _ _ _ _ hl => lv_lload hx hb d_Di_subtract_36 (lv_at hl 0 rfl)) ?_
        refine gs (pc' := 41) (fun _ _ _ _ _ hl => lv_ldc2 (v := 1000000000) hx hb hown (hts _ wm458) d_Di_subtract_38) ?_
        refine g_eql (show 1000000000 = lN 1000000000 from rfl) ?_
        refine gs (pc' := 42) (fun _ _ _ _ _ hl => lv_ldiv hx hb d_Di_subtract_41 (by decide)) ?_
        refine g_eql (show (lN (((df fv j) * g) + c0)) / (lN 1000000000) = lN ((((df fv j) * g) + c0) / 1000000000) from pk_lDiv (by omega) (by omega) (by omega)) ?_
        refine gst (pc' := 44) (L' := [(4, .long (lN ((((df fv j) * g) + c0) / 1000000000))), (7, .long (lN (((df fv j) * g) + c0))), (6, .int (nI j)), (0, .ref hd), (1, .int (nI i)), (2, .long (lN g))]) (fun _ _ _ _ _ hl => lv_lstore hx hb d_Di_subtract_42 hl (by decide) rfl) ?_
        refine gs (pc' := 45) (fun _ _ _ _ _ hl => lv_aload_n hx hb d_Di_subtract_44 rfl (lv_at hl 3 rfl)) ?_
        refine g_get hx hb hts hin_Di hown hK k1 rfl 1 (by decide) (hts _ wm87) (fun _ h9 => h9) rfl d_Di_subtract_45 ?_
        refine g_get hx hb hts hin_Na hown hK k4 rfl 0 (by decide) (hts _ wm73) (fun _ h9 => h9) rfl d_Di_subtract_48 ?_
        refine gs (pc' := 52) (fun _ _ _ _ _ hl => lv_iload_n hx hb d_Di_subtract_51 rfl (lv_at hl 4 rfl)) ?_
        refine gs (pc' := 54) (fun _ _ _ _ _ hl => lv_iload hx hb d_Di_subtract_52 (lv_at hl 2 rfl)) ?_
        refine gs (pc' := 55) (fun _ _ _ _ _ hl => lv_iadd hx hb d_Di_subtract_54) ?_
        refine g_eqi (show (nI i) + (nI j) = nI (i + j) from nI_add _ _) ?_
        refine g_iald hx hb hK 0 k5 rfl (show vp_in (nI (i + j)) capr from vp_in_nI (by omega) (by omega)) d_Di_subtract_55 ?_
        refine g_eqi (show f1 (nI (i + j)).toNatClampNeg = f1 (i + j) from by rw [nI_clamp (by omega)]) ?_
        have b_6 : df f1 (i + j) < 1000000000 := (hl1 (i + j) (by omega)).2
        refine g_eqi (show f1 (i + j) = nI (df f1 (i + j)) from (hl1 (i + j) (by omega)).1) ?_
        refine gs (pc' := 57) (fun _ _ _ _ _ hl => lv_i2l (v := lN (df f1 (i + j))) hx hb d_Di_subtract_56 (nI_l (by omega))) ?_
        refine gs (pc' := 59) (fun _ _ _ _ _ hl => lv_lload hx hb d_Di_subtract_57 (lv_at hl 1 rfl)) ?_
        refine gs (pc' := 61) (fun _ _ _ _ _ hl => lv_lload hx hb d_Di_subtract_59 (lv_at hl 0 rfl)) ?_
        refine gs (pc' := 64) (fun _ _ _ _ _ hl => lv_ldc2 (v := 1000000000) hx hb hown (hts _ wm458) d_Di_subtract_61) ?_
        refine g_eql (show 1000000000 = lN 1000000000 from rfl) ?_
        refine gs (pc' := 65) (fun _ _ _ _ _ hl => lv_lmul hx hb d_Di_subtract_64) ?_
        refine g_eql (show (lN ((((df fv j) * g) + c0) / 1000000000)) * (lN 1000000000) = lN (((((df fv j) * g) + c0) / 1000000000) * 1000000000) from lN_mul _ _) ?_
        refine gs (pc' := 66) (fun _ _ _ _ _ hl => lv_lsub hx hb d_Di_subtract_65) ?_
        refine g_eql (show (lN (((df fv j) * g) + c0)) - (lN (((((df fv j) * g) + c0) / 1000000000) * 1000000000)) = lN ((df fv j * g + c0) % 1000000000) from (lN_sub (by omega)).trans (congrArg lN (show (((df fv j) * g) + c0) - (((((df fv j) * g) + c0) / 1000000000) * 1000000000) = (df fv j * g + c0) % 1000000000 by omega))) ?_
        refine gs (pc' := 67) (fun _ _ _ _ _ hl => lv_lsub hx hb d_Di_subtract_66) ?_
        refine g_eql (show (lN (df f1 (i + j))) - (lN ((df fv j * g + c0) % 1000000000)) = lI (((df f1 (i + j) : Nat) : Int) - (((df fv j * g + c0) % 1000000000 : Nat) : Int)) from lNN_sub _ _) ?_
        refine gst (pc' := 69) (L' := [(9, .long (lI (((df f1 (i + j) : Nat) : Int) - (((df fv j * g + c0) % 1000000000 : Nat) : Int)))), (4, .long (lN ((((df fv j) * g) + c0) / 1000000000))), (7, .long (lN (((df fv j) * g) + c0))), (6, .int (nI j)), (0, .ref hd), (1, .int (nI i)), (2, .long (lN g))]) (fun _ _ _ _ _ hl => lv_lstore hx hb d_Di_subtract_67 hl (by decide) rfl) ?_
        refine gs (pc' := 71) (fun _ _ _ _ _ hl => lv_lload hx hb d_Di_subtract_69 (lv_at hl 0 rfl)) ?_
        refine gs (pc' := 72) (fun _ _ _ _ _ hl => lv_lconst (v := lN 0) hx hb d_Di_subtract_71 (by decide)) ?_
        refine gs (pc' := 73) (fun _ _ _ _ _ hl => W.lcmp hx hb d_Di_subtract_72) ?_
        refine gsb (pc1 := 90) (pc2 := 76) (fun _ _ _ _ _ => lv_if_ge (tgt := 90) hx hb d_Di_subtract_73 (by decide)) (fun c_7 => ?_) (fun c_7 => ?_)
        · skip
          have nc_7 : (((df f1 (i + j) : Nat) : Int) - (((df fv j * g + c0) % 1000000000 : Nat) : Int)) ≥ ((0 : Nat) : Int) := (lcI_ge (a := (((df f1 (i + j) : Nat) : Int) - (((df fv j * g + c0) % 1000000000 : Nat) : Int))) (b := ((0 : Nat) : Int)) (by omega) (by omega) (by omega) (by omega)).1 (by rw [cmp_IN] at c_7; exact c_7)
          refine gs (pc' := 91) (fun _ _ _ _ _ hl => lv_aload_n hx hb d_Di_subtract_90 rfl (lv_at hl 4 rfl)) ?_
          refine g_get hx hb hts hin_Di hown hK k1 rfl 1 (by decide) (hts _ wm87) (fun _ h9 => h9) rfl d_Di_subtract_91 ?_
          refine g_get hx hb hts hin_Na hown hK k4 rfl 0 (by decide) (hts _ wm73) (fun _ h9 => h9) rfl d_Di_subtract_94 ?_
          refine gs (pc' := 98) (fun _ _ _ _ _ hl => lv_iload_n hx hb d_Di_subtract_97 rfl (lv_at hl 5 rfl)) ?_
          refine gs (pc' := 100) (fun _ _ _ _ _ hl => lv_iload hx hb d_Di_subtract_98 (lv_at hl 3 rfl)) ?_
          refine gs (pc' := 101) (fun _ _ _ _ _ hl => lv_iadd hx hb d_Di_subtract_100) ?_
          refine g_eqi (show (nI i) + (nI j) = nI (i + j) from nI_add _ _) ?_
          refine gs (pc' := 103) (fun _ _ _ _ _ hl => lv_lload hx hb d_Di_subtract_101 (lv_at hl 0 rfl)) ?_
          refine gs (pc' := 104) (fun _ _ _ _ _ hl => lv_l2i (v := nI (df f1 (i + j) - (df fv j * g + c0) % 1000000000)) hx hb d_Di_subtract_103 (lI_i (by omega))) ?_
          refine g_iast hx hb hK 0 k5 rfl (show vp_in (nI (i + j)) capr from vp_in_nI (by omega) (by omega)) d_Di_subtract_104 (fun G_8 f_9 o_10 => ?_)
          rw [nI_clamp (by omega)] at f_9
          have f_11 : G_8 hd = some (td, .inr (2, [.ref hqu, .ref hre, .ref hdv])) := (o_10 _ (gne k1 k5 (fun e => by cases e))).trans k1
          have f_12 : G_8 hdv = some (tv, .inr (4, [.ref av, .int (nI (md + 2))])) := (o_10 _ (gne k2 k5 (fun e => by cases e))).trans k2
          have f_13 : G_8 av = some (tv, .inl (cA 0, capv, .inl fv)) := (o_10 _ (gne k3 k5 (fun e => hnv (congrArg Prod.fst e)))).trans k3
          have f_14 : G_8 hre = some (tr, .inr (4, [.ref ar, .int zr])) := (o_10 _ (gne k4 k5 (fun e => by cases e))).trans k4
          refine gst (pc' := 108) (L' := [(6, .int (nI (j + 1))), (9, .long (lI (((df f1 (i + j) : Nat) : Int) - (((df fv j * g + c0) % 1000000000 : Nat) : Int)))), (4, .long (lN ((((df fv j) * g) + c0) / 1000000000))), (7, .long (lN (((df fv j) * g) + c0))), (0, .ref hd), (1, .int (nI i)), (2, .long (lN g))]) (fun _ _ _ _ _ hl => lv_iinc (v := nI (j + 1)) hx hb d_Di_subtract_105 hl (k := 3) rfl (nI_add _ 1) (by decide) rfl) ?_
          refine gs (pc' := 6) (fun _ _ _ _ _ hl => lv_goto (tgt := 6) hx hb d_Di_subtract_108 (by decide)) ?_
          refine gsub [0, 2, 4, 5, 6] rfl ?_
          exact ih (j + 1) ((((df fv j) * g) + c0) / 1000000000) (upd f1 (i + j) (nI (df f1 (i + j) - (df fv j * g + c0) % 1000000000))) G_8 (by omega) (by omega) (lim_upd hl1 (by omega)) (by rw [dsh_upd (by omega), dv_s, dv_s]; exact st_sub hv1 (by show _ = df fr (i + j) + _; omega)) (fun x h1 => by rw [pk_un (by omega)]; exact hup x (by omega)) (fun x h1 => by rw [pk_un (by omega)]; exact hdn x h1) (gfr_put hfr k5 rfl o_10) f_11 f_12 f_13 f_14 f_9
        · skip
          have nc_7 : (((df f1 (i + j) : Nat) : Int) - (((df fv j * g + c0) % 1000000000 : Nat) : Int)) < ((0 : Nat) : Int) := (lcI_ge (a := (((df f1 (i + j) : Nat) : Int) - (((df fv j * g + c0) % 1000000000 : Nat) : Int))) (b := ((0 : Nat) : Int)) (by omega) (by omega) (by omega) (by omega)).2 (by rw [cmp_IN] at c_7; exact c_7)
          refine gs (pc' := 78) (fun _ _ _ _ _ hl => lv_lload hx hb d_Di_subtract_76 (lv_at hl 0 rfl)) ?_
          refine gs (pc' := 81) (fun _ _ _ _ _ hl => lv_ldc2 (v := 1000000000) hx hb hown (hts _ wm458) d_Di_subtract_78) ?_
          refine g_eql (show 1000000000 = lN 1000000000 from rfl) ?_
          refine gs (pc' := 82) (fun _ _ _ _ _ hl => lv_ladd hx hb d_Di_subtract_81) ?_
          refine g_eql (show (lI (((df f1 (i + j) : Nat) : Int) - (((df fv j * g + c0) % 1000000000 : Nat) : Int))) + (lN 1000000000) = lI ((((df f1 (i + j) : Nat) : Int) - (((df fv j * g + c0) % 1000000000 : Nat) : Int)) + ((1000000000 : Nat) : Int)) from lIN_add _ _) ?_
          refine gst (pc' := 84) (L' := [(9, .long (lI ((((df f1 (i + j) : Nat) : Int) - (((df fv j * g + c0) % 1000000000 : Nat) : Int)) + ((1000000000 : Nat) : Int)))), (4, .long (lN ((((df fv j) * g) + c0) / 1000000000))), (7, .long (lN (((df fv j) * g) + c0))), (6, .int (nI j)), (0, .ref hd), (1, .int (nI i)), (2, .long (lN g))]) (fun _ _ _ _ _ hl => lv_lstore hx hb d_Di_subtract_82 hl (by decide) rfl) ?_
          refine gs (pc' := 86) (fun _ _ _ _ _ hl => lv_lload hx hb d_Di_subtract_84 (lv_at hl 1 rfl)) ?_
          refine gs (pc' := 87) (fun _ _ _ _ _ hl => lv_lconst (v := lN 1) hx hb d_Di_subtract_86 (by decide)) ?_
          refine gs (pc' := 88) (fun _ _ _ _ _ hl => lv_ladd hx hb d_Di_subtract_87) ?_
          refine g_eql (show (lN ((((df fv j) * g) + c0) / 1000000000)) + (lN 1) = lN (((((df fv j) * g) + c0) / 1000000000) + 1) from lN_add _ _) ?_
          refine gst (pc' := 90) (L' := [(4, .long (lN (((((df fv j) * g) + c0) / 1000000000) + 1))), (9, .long (lI ((((df f1 (i + j) : Nat) : Int) - (((df fv j * g + c0) % 1000000000 : Nat) : Int)) + ((1000000000 : Nat) : Int)))), (7, .long (lN (((df fv j) * g) + c0))), (6, .int (nI j)), (0, .ref hd), (1, .int (nI i)), (2, .long (lN g))]) (fun _ _ _ _ _ hl => lv_lstore hx hb d_Di_subtract_88 hl (by decide) rfl) ?_
          refine gs (pc' := 91) (fun _ _ _ _ _ hl => lv_aload_n hx hb d_Di_subtract_90 rfl (lv_at hl 4 rfl)) ?_
          refine g_get hx hb hts hin_Di hown hK k1 rfl 1 (by decide) (hts _ wm87) (fun _ h9 => h9) rfl d_Di_subtract_91 ?_
          refine g_get hx hb hts hin_Na hown hK k4 rfl 0 (by decide) (hts _ wm73) (fun _ h9 => h9) rfl d_Di_subtract_94 ?_
          refine gs (pc' := 98) (fun _ _ _ _ _ hl => lv_iload_n hx hb d_Di_subtract_97 rfl (lv_at hl 5 rfl)) ?_
          refine gs (pc' := 100) (fun _ _ _ _ _ hl => lv_iload hx hb d_Di_subtract_98 (lv_at hl 3 rfl)) ?_
          refine gs (pc' := 101) (fun _ _ _ _ _ hl => lv_iadd hx hb d_Di_subtract_100) ?_
          refine g_eqi (show (nI i) + (nI j) = nI (i + j) from nI_add _ _) ?_
          refine gs (pc' := 103) (fun _ _ _ _ _ hl => lv_lload hx hb d_Di_subtract_101 (lv_at hl 1 rfl)) ?_
          refine gs (pc' := 104) (fun _ _ _ _ _ hl => lv_l2i (v := nI (df f1 (i + j) + 1000000000 - (df fv j * g + c0) % 1000000000)) hx hb d_Di_subtract_103 (lI_i (by omega))) ?_
          refine g_iast hx hb hK 0 k5 rfl (show vp_in (nI (i + j)) capr from vp_in_nI (by omega) (by omega)) d_Di_subtract_104 (fun G_15 f_16 o_17 => ?_)
          rw [nI_clamp (by omega)] at f_16
          have f_18 : G_15 hd = some (td, .inr (2, [.ref hqu, .ref hre, .ref hdv])) := (o_17 _ (gne k1 k5 (fun e => by cases e))).trans k1
          have f_19 : G_15 hdv = some (tv, .inr (4, [.ref av, .int (nI (md + 2))])) := (o_17 _ (gne k2 k5 (fun e => by cases e))).trans k2
          have f_20 : G_15 av = some (tv, .inl (cA 0, capv, .inl fv)) := (o_17 _ (gne k3 k5 (fun e => hnv (congrArg Prod.fst e)))).trans k3
          have f_21 : G_15 hre = some (tr, .inr (4, [.ref ar, .int zr])) := (o_17 _ (gne k4 k5 (fun e => by cases e))).trans k4
          refine gst (pc' := 108) (L' := [(6, .int (nI (j + 1))), (4, .long (lN (((((df fv j) * g) + c0) / 1000000000) + 1))), (9, .long (lI ((((df f1 (i + j) : Nat) : Int) - (((df fv j * g + c0) % 1000000000 : Nat) : Int)) + ((1000000000 : Nat) : Int)))), (7, .long (lN (((df fv j) * g) + c0))), (0, .ref hd), (1, .int (nI i)), (2, .long (lN g))]) (fun _ _ _ _ _ hl => lv_iinc (v := nI (j + 1)) hx hb d_Di_subtract_105 hl (k := 3) rfl (nI_add _ 1) (by decide) rfl) ?_
          refine gs (pc' := 6) (fun _ _ _ _ _ hl => lv_goto (tgt := 6) hx hb d_Di_subtract_108 (by decide)) ?_
          refine gsub [0, 1, 4, 5, 6] rfl ?_
          exact ih (j + 1) (((((df fv j) * g) + c0) / 1000000000) + 1) (upd f1 (i + j) (nI (df f1 (i + j) + 1000000000 - (df fv j * g + c0) % 1000000000))) G_15 (by omega) (by omega) (lim_upd hl1 (by omega)) (by rw [dsh_upd (by omega), dv_s, dv_s]; exact st_sub hv1 (by show _ = df fr (i + j) + _; omega)) (fun x h1 => by rw [pk_un (by omega)]; exact hup x (by omega)) (fun x h1 => by rw [pk_un (by omega)]; exact hdn x h1) (gfr_put hfr k5 rfl o_17) f_18 f_19 f_20 f_21 f_16
  exact loop (md + 2) 0 0 fr G (by omega) (by omega) hlr (by simp [dv_0]) (fun _ _ => rfl) (fun _ _ => rfl) gfr_rf hhd hhv hav hhr har
