set_option maxHeartbeats 4000000 in
set_option maxRecDepth 100000 in
theorem c_Math_floorDiv (l : Launch) (D : va_G) (cA : Nat → ClassId) (lo MC MS : Nat) (G : gT) (B : Nat × Nat) (a : Int) (ha1 : -9223372036854775808 ≤ a) (ha2 : a < 9223372036854775808) (hB1 : B.1 ≤ MC) (hB2 : B.2 ≤ MS) : gMet l y_Math_floorDiv w_Math_floorDiv 0 0 D clS (gtys cA) lo MC MS [.long (lI a), .long (lN 1000000000)] G B (gQl D clS lo (fun r u => u = (G, B) ∧ r = lI (a / 1000000000))) := by
  refine g_metl (cc := prog_17_method_49_code) (nL := 6) (L := [(0, .long (lI a)), (2, .long (lN 1000000000))]) (by decide +kernel) rfl (Nat.le_of_ble_eq_true rfl) rfl ?_
  intro p e R s m args below meth c Q hF hRc hRs hRf hRl hret
  obtain ⟨hx, hb, hr, hml, hts0, hown, hlocks, hin, hK, hlo, hZ⟩ := hF
  have hts : ∀ w ∈ tbg, w.before args s = true := fun w h => hts0 w (List.mem_cons_of_mem _ h)
  obtain ⟨q, hq, hq1, hq2⟩ := td_q a
  refine gs (pc' := 1) (fun _ _ _ _ _ hl => lv_lload_n hx hb d_Math_floorDiv_0 rfl (lv_at hl 0 rfl)) ?_
  refine gs (pc' := 2) (fun _ _ _ _ _ hl => lv_lload_n hx hb d_Math_floorDiv_1 rfl (lv_at hl 1 rfl)) ?_
  refine gs (pc' := 3) (fun _ _ _ _ _ hl => lv_ldiv hx hb d_Math_floorDiv_2 (by decide)) ?_
  refine g_eql (show (lI a) / (lN 1000000000) = lI q from ((congrArg (lI a / ·) (lN_lI 1000000000)).trans (lI_tdiv (b := ((1000000000 : Nat) : Int)) (by omega) (by omega) (by decide) (by decide))).trans (congrArg lI hq)) ?_
  refine gst (pc' := 5) (L' := [(4, .long (lI q)), (0, .long (lI a)), (2, .long (lN 1000000000))]) (fun _ _ _ _ _ hl => lv_lstore hx hb d_Math_floorDiv_3 hl (by decide) rfl) ?_
  refine gs (pc' := 6) (fun _ _ _ _ _ hl => lv_lload_n hx hb d_Math_floorDiv_5 rfl (lv_at hl 1 rfl)) ?_
  refine gs (pc' := 7) (fun _ _ _ _ _ hl => lv_lload_n hx hb d_Math_floorDiv_6 rfl (lv_at hl 2 rfl)) ?_
  refine gs (pc' := 8) (fun _ _ _ _ _ hl => lv_lxor hx hb d_Math_floorDiv_7) ?_
  refine gs (pc' := 9) (fun _ _ _ _ _ hl => lv_lconst (v := lN 0) hx hb d_Math_floorDiv_8 (by decide)) ?_
  refine gs (pc' := 10) (fun _ _ _ _ _ hl => W.lcmp hx hb d_Math_floorDiv_9) ?_
  refine gsb (pc1 := 27) (pc2 := 13) (fun _ _ _ _ _ => lv_if_ge (tgt := 27) hx hb d_Math_floorDiv_10 (by decide)) (fun c_1 => ?_) (fun c_1 => ?_)
  · skip
    have ha0 : 0 ≤ a := by
      have hz := (lc_ge _ _).mp c_1
      rw [xor_neg, lN_lI, lI_lt (by omega) (by omega) (by decide) (by decide)] at hz
      exact Int.not_lt.mp hz
    refine gs (pc' := 29) (fun _ _ _ _ _ hl => lv_lload hx hb d_Math_floorDiv_27 (lv_at hl 0 rfl)) ?_
    exact hret 29 _ _ _ _ d_Math_floorDiv_29 hB1 hB2 ⟨rfl, congrArg lI (by omega)⟩
  · skip
    have ha0 : a < 0 := by
      have hz := (xor_neg (lI a)).mp (Decidable.not_not.mp (fun hz => c_1 ((lc_ge _ _).mpr hz)))
      rw [lN_lI] at hz
      exact (lI_lt (by omega) (by omega) (by decide) (by decide)).mp hz
    refine gs (pc' := 15) (fun _ _ _ _ _ hl => lv_lload hx hb d_Math_floorDiv_13 (lv_at hl 0 rfl)) ?_
    refine gs (pc' := 16) (fun _ _ _ _ _ hl => lv_lload_n hx hb d_Math_floorDiv_15 rfl (lv_at hl 2 rfl)) ?_
    refine gs (pc' := 17) (fun _ _ _ _ _ hl => lv_lmul hx hb d_Math_floorDiv_16) ?_
    refine g_eql (show (lI q) * (lN 1000000000) = lI (q * ((1000000000 : Nat) : Int)) from lIN_mul _ _) ?_
    refine gs (pc' := 18) (fun _ _ _ _ _ hl => lv_lload_n hx hb d_Math_floorDiv_17 rfl (lv_at hl 1 rfl)) ?_
    refine gs (pc' := 19) (fun _ _ _ _ _ hl => W.lcmp hx hb d_Math_floorDiv_18) ?_
    refine gsb (pc1 := 27) (pc2 := 22) (fun _ _ _ _ _ => lv_if_eq (tgt := 27) hx hb d_Math_floorDiv_19 (by decide)) (fun c_2 => ?_) (fun c_2 => ?_)
    · skip
      have nc_2 : (q * ((1000000000 : Nat) : Int)) = a := (lcI_eq (a := (q * ((1000000000 : Nat) : Int))) (b := a) (by omega) (by omega) (by omega) (by omega)).1 c_2
      refine gs (pc' := 29) (fun _ _ _ _ _ hl => lv_lload hx hb d_Math_floorDiv_27 (lv_at hl 0 rfl)) ?_
      exact hret 29 _ _ _ _ d_Math_floorDiv_29 hB1 hB2 ⟨rfl, congrArg lI (by omega)⟩
    · skip
      have nc_2 : (q * ((1000000000 : Nat) : Int)) ≠ a := (lcI_eq (a := (q * ((1000000000 : Nat) : Int))) (b := a) (by omega) (by omega) (by omega) (by omega)).2 c_2
      refine gs (pc' := 24) (fun _ _ _ _ _ hl => lv_lload hx hb d_Math_floorDiv_22 (lv_at hl 0 rfl)) ?_
      refine gs (pc' := 25) (fun _ _ _ _ _ hl => lv_lconst (v := lN 1) hx hb d_Math_floorDiv_24 (by decide)) ?_
      refine gs (pc' := 26) (fun _ _ _ _ _ hl => lv_lsub hx hb d_Math_floorDiv_25) ?_
      refine g_eql (show (lI q) - (lN 1) = lI (q - ((1 : Nat) : Int)) from lIN_sub _ _) ?_
      exact hret 26 _ _ _ _ d_Math_floorDiv_26 hB1 hB2 ⟨rfl, congrArg lI (by omega)⟩
set_option maxHeartbeats 4000000 in
set_option maxRecDepth 100000 in
theorem c_Cd_findShort (l : Launch) (D : va_G) (cA : Nat → ClassId) (lo MC MS : Nat) (G : gT) (B : Nat × Nat) (x0 y0 : Nat) (hx0 : x0 < 1000000000000000000) (hy0 : y0 < 1000000000000000000) (hB1 : B.1 ≤ MC) (hB2 : B.2 ≤ MS) : gMet l y_Cd_findShort w_Cd_findShort 0 0 D clS (gtys cA) lo MC MS [.long (lN x0), .long (lN y0)] G B (gQl D clS lo (fun r u => u = (G, B) ∧ r = lN (Nat.gcd x0 y0))) := by
  refine g_metl (cc := prog_3_method_3_code) (nL := 11) (L := [(0, .long (lN x0)), (2, .long (lN y0))]) (by decide +kernel) rfl (Nat.le_of_ble_eq_true rfl) rfl ?_
  intro p e R s m args below meth c Q hF hRc hRs hRf hRl hret
  obtain ⟨hx, hb, hr, hml, hts0, hown, hlocks, hin, hK, hlo, hZ⟩ := hF
  have hts : ∀ w ∈ tbg, w.before args s = true := fun w h => hts0 w (List.mem_cons_of_mem _ h)
  refine gs (pc' := 1) (fun _ _ _ _ _ hl => lv_lload_n hx hb d_Cd_findShort_0 rfl (lv_at hl 0 rfl)) ?_
  refine gst (pc' := 3) (L' := [(4, .long (lN x0)), (0, .long (lN x0)), (2, .long (lN y0))]) (fun _ _ _ _ _ hl => lv_lstore hx hb d_Cd_findShort_1 hl (by decide) rfl) ?_
  refine gs (pc' := 4) (fun _ _ _ _ _ hl => lv_lload_n hx hb d_Cd_findShort_3 rfl (lv_at hl 2 rfl)) ?_
  refine gst (pc' := 6) (L' := [(6, .long (lN y0)), (4, .long (lN x0)), (0, .long (lN x0)), (2, .long (lN y0))]) (fun _ _ _ _ _ hl => lv_lstore hx hb d_Cd_findShort_4 hl (by decide) rfl) ?_
  refine gs (pc' := 7) (fun _ _ _ _ _ hl => lv_iconst (v := nI 0) hx hb d_Cd_findShort_6 (by decide)) ?_
  refine gst (pc' := 9) (L' := [(8, .int (nI 0)), (6, .long (lN y0)), (4, .long (lN x0)), (0, .long (lN x0)), (2, .long (lN y0))]) (fun _ _ _ _ _ hl => lv_istore hx hb d_Cd_findShort_7 hl (by decide) rfl) ?_
  refine gsub [0, 1, 2] rfl ?_
  have loop : ∀ (n i x y : Nat) (Gk : gT), (i + n = 101 - 1) → (x < 1000000000000000000) → (y < 1000000000000000000) → (efs n x y = Nat.gcd x0 y0) → Gk = G → gV p l e R s m args below meth c D clS lo 11 Q 9 [(8, .int (nI i)), (6, .long (lN y)), (4, .long (lN x))] [] Gk B := by
    intro n
    induction n with
    | zero =>
      intro i x y Gk hi hx1 hy1 hg hGk
      subst hGk
      refine gs (pc' := 11) (fun _ _ _ _ _ hl => lv_iload hx hb d_Cd_findShort_9 (lv_at hl 0 rfl)) ?_
      refine gs (pc' := 13) (fun _ _ _ _ _ hl => lv_bipush (v := nI 100) hx hb d_Cd_findShort_11 (by decide)) ?_
      refine gsb (pc1 := 44) (pc2 := 16) (fun _ _ _ _ _ => lv_icmp_ge (tgt := 44) hx hb d_Cd_findShort_13 (by decide)) (fun c_1 => ?_) (fun c_1 => ?_)
      · skip
        have nc_1 : i ≥ 100 := (nn_ge (a := i) (b := 100) (by omega) (by omega)).1 c_1
        refine gs (pc' := 46) (fun _ _ _ _ _ hl => lv_lload hx hb d_Cd_findShort_44 (lv_at hl 2 rfl)) ?_
        exact hret 46 _ _ _ _ d_Cd_findShort_46 hB1 hB2 ⟨rfl, congrArg lN hg⟩
      · skip
        have nc_1 : i < 100 := (nn_ge (a := i) (b := 100) (by omega) (by omega)).2 c_1
        exact absurd nc_1 (by omega)
    | succ n ih =>
      intro i x y Gk hi hx1 hy1 hg hGk
      subst hGk
      refine gs (pc' := 11) (fun _ _ _ _ _ hl => lv_iload hx hb d_Cd_findShort_9 (lv_at hl 0 rfl)) ?_
      refine gs (pc' := 13) (fun _ _ _ _ _ hl => lv_bipush (v := nI 100) hx hb d_Cd_findShort_11 (by decide)) ?_
      refine gsb (pc1 := 44) (pc2 := 16) (fun _ _ _ _ _ => lv_icmp_ge (tgt := 44) hx hb d_Cd_findShort_13 (by decide)) (fun c_2 => ?_) (fun c_2 => ?_)
      · skip
        have nc_2 : i ≥ 100 := (nn_ge (a := i) (b := 100) (by omega) (by omega)).1 c_2
        exact absurd nc_2 (by omega)
      · skip
        have nc_2 : i < 100 := (nn_ge (a := i) (b := 100) (by omega) (by omega)).2 c_2
        refine gs (pc' := 18) (fun _ _ _ _ _ hl => lv_lload hx hb d_Cd_findShort_16 (lv_at hl 1 rfl)) ?_
        refine gs (pc' := 19) (fun _ _ _ _ _ hl => lv_lconst (v := lN 0) hx hb d_Cd_findShort_18 (by decide)) ?_
        refine gs (pc' := 20) (fun _ _ _ _ _ hl => W.lcmp hx hb d_Cd_findShort_19) ?_
        refine gsb (pc1 := 44) (pc2 := 23) (fun _ _ _ _ _ => lv_if_eq (tgt := 44) hx hb d_Cd_findShort_20 (by decide)) (fun c_3 => ?_) (fun c_3 => ?_)
        · skip
          have nc_3 : y = 0 := (lcN_eq (a := y) (b := 0) (by omega) (by omega)).1 c_3
          have hy0 : y = 0 := by omega
          refine gs (pc' := 46) (fun _ _ _ _ _ hl => lv_lload hx hb d_Cd_findShort_44 (lv_at hl 2 rfl)) ?_
          exact hret 46 _ _ _ _ d_Cd_findShort_46 hB1 hB2 ⟨rfl, congrArg lN (by rw [hy0, efs_z] at hg; exact hg)⟩
        · skip
          have nc_3 : y ≠ 0 := (lcN_eq (a := y) (b := 0) (by omega) (by omega)).2 c_3
          have hy0 : y ≠ 0 := by omega
          have hml2 := Nat.mod_lt x (show 0 < y by omega)
          refine gs (pc' := 25) (fun _ _ _ _ _ hl => lv_lload hx hb d_Cd_findShort_23 (lv_at hl 2 rfl)) ?_
          refine gs (pc' := 27) (fun _ _ _ _ _ hl => lv_lload hx hb d_Cd_findShort_25 (lv_at hl 1 rfl)) ?_
          refine gs (pc' := 28) (fun _ _ _ _ _ hl => lv_lrem hx hb d_Cd_findShort_27 (fun e => absurd ((pk_lEQ (by omega) (by omega)).mp (e.trans (show _ = lN 0 from rfl))) (by omega))) ?_
          refine g_eql (show (lN x) - (lN x) / (lN y) * (lN y) = lN (x % y) from pk_lRem (by omega) (by omega) (by omega)) ?_
          refine gst (pc' := 30) (L' := [(9, .long (lN (x % y))), (8, .int (nI i)), (6, .long (lN y)), (4, .long (lN x))]) (fun _ _ _ _ _ hl => lv_lstore hx hb d_Cd_findShort_28 hl (by decide) rfl) ?_
          refine gs (pc' := 32) (fun _ _ _ _ _ hl => lv_lload hx hb d_Cd_findShort_30 (lv_at hl 2 rfl)) ?_
          refine gst (pc' := 34) (L' := [(4, .long (lN y)), (9, .long (lN (x % y))), (8, .int (nI i)), (6, .long (lN y))]) (fun _ _ _ _ _ hl => lv_lstore hx hb d_Cd_findShort_32 hl (by decide) rfl) ?_
          refine gs (pc' := 36) (fun _ _ _ _ _ hl => lv_lload hx hb d_Cd_findShort_34 (lv_at hl 1 rfl)) ?_
          refine gst (pc' := 38) (L' := [(6, .long (lN (x % y))), (4, .long (lN y)), (9, .long (lN (x % y))), (8, .int (nI i))]) (fun _ _ _ _ _ hl => lv_lstore hx hb d_Cd_findShort_36 hl (by decide) rfl) ?_
          refine gst (pc' := 41) (L' := [(8, .int (nI (i + 1))), (6, .long (lN (x % y))), (4, .long (lN y)), (9, .long (lN (x % y)))]) (fun _ _ _ _ _ hl => lv_iinc (v := nI (i + 1)) hx hb d_Cd_findShort_38 hl (k := 3) rfl (nI_add _ 1) (by decide) rfl) ?_
          refine gs (pc' := 9) (fun _ _ _ _ _ hl => lv_goto (tgt := 9) hx hb d_Cd_findShort_41 (by decide)) ?_
          refine gsub [0, 1, 2] rfl ?_
          exact ih (i + 1) y (x % y) Gk (by omega) (by omega) (by omega) (by rw [efs_s hy0] at hg; exact hg) rfl
  exact loop 100 0 x0 y0 G (by omega) hx0 hy0 (efs_gcd 100 x0 y0 (Nat.lt_of_lt_of_le hy0 fb_101)) rfl
