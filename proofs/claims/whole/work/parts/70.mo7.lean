set_option maxHeartbeats 4000000 in
set_option maxRecDepth 100000 in
theorem c_Mo_takeOff (l : Launch) (D : va_G) (cA : Nat → ClassId) (lo MC MS : Nat) (G : gT) (B : Nat × Nat) (hm : Nat) (A : Nat → Nat) (I : Nat → Int32) (hob : G hm = some (70, .inr (9, mfs A I))) (f g : Nat → Int32) (hlm : G (A 8) = some (75, .inl (cA 0, 38700, .inl f))) (hsz : G (A 9) = some (76, .inl (cA 0, 9, .inl g))) (r : Nat) (hb_r : r < 9) (o : Nat) (hb_o : o < 9) (hro : o ≠ r) (z : Nat) (hgo : g o = nI z) (hlo2 : lim (sh f o) z) (up : Nat) (hup : up + z + 1 ≤ 4300) (hlr : lim (sh f r) (up + z + 1)) (gd : Nat) (hgd : gd < 1000000000) (hB1 : B.1 ≤ MC) (hB2 : B.2 ≤ MS) : gMet l y_Mo_takeOff w_Mo_takeOff 0 0 D clS (gtys cA) lo MC MS [.ref hm, .int (nI r), .int (nI o), .int (nI gd), .int (nI up)] G B (gQi D clS lo (fun r9 u => u.2 = B ∧ ∃ (f1 : Nat → Int32) (cy : Nat), u.1 hm = some (70, .inr (9, mfs A I)) ∧ u.1 (A 8) = some (75, .inl (cA 0, 38700, .inl f1)) ∧ u.1 (A 9) = some (76, .inl (cA 0, 9, .inl g)) ∧ lim (sh f1 r) (up + z + 1) ∧ (∀ x, x < up ∨ up + z + 1 ≤ x → sh f1 r x = sh f r x) ∧ oth r f f1 ∧ dv (dsh (df (sh f1 r)) up) (z + 1) + gd * dv (df (sh f o)) z = dv (dsh (df (sh f r)) up) (z + 1) + cy * 1000000000 ^ (z + 1) ∧ ((r9 = nI 0 ∧ cy = 0) ∨ (r9 = nI 1 ∧ cy ≠ 0)) ∧ gfr (fun x => x = 75) G u.1)) := by
  refine g_metz (cc := prog_11_method_13_code) (nL := 12) (L := [(0, .ref hm), (1, .int (nI r)), (2, .int (nI o)), (3, .int (nI gd)), (4, .int (nI up))]) (by decide +kernel) rfl (Nat.le_of_ble_eq_true rfl) rfl ?_
  intro p e R s m args below meth c Q hF hRc hRs hRf hRl hret
  obtain ⟨hx, hb, hr, hml, hts0, hown, hlocks, hin, hK, hlo, hZ⟩ := hF
  have hts : ∀ w ∈ tbg, w.before args s = true := fun w h => hts0 w (List.mem_cons_of_mem _ h)
  refine gs (pc' := 1) (fun _ _ _ _ _ hl => lv_lconst (v := lN 0) hx hb d_Mo_takeOff_0 (by decide)) ?_
  refine gst (pc' := 3) (L' := [(5, .long (lN 0)), (0, .ref hm), (1, .int (nI r)), (2, .int (nI o)), (3, .int (nI gd)), (4, .int (nI up))]) (fun _ _ _ _ _ hl => lv_lstore hx hb d_Mo_takeOff_1 hl (by decide) rfl) ?_
  refine gs (pc' := 4) (fun _ _ _ _ _ hl => lv_aload_n hx hb d_Mo_takeOff_3 rfl (lv_at hl 1 rfl)) ?_
  refine g_get hx hb hts hin_Mo hown hK hob rfl 9 (by decide) (hts _ wm763) (fun _ h9 => h9) rfl d_Mo_takeOff_4 ?_
  refine gs (pc' := 8) (fun _ _ _ _ _ hl => lv_iload_n hx hb d_Mo_takeOff_7 rfl (lv_at hl 3 rfl)) ?_
  refine g_iald hx hb hK 0 hsz rfl (show vp_in (nI o) 9 from vp_in_nI (by omega) (by omega)) d_Mo_takeOff_8 ?_
  refine g_eqi (show g (nI o).toNatClampNeg = g o from by rw [nI_clamp (by omega)]) ?_
  refine g_eqi (show g o = nI z from hgo) ?_
  refine gst (pc' := 11) (L' := [(7, .int (nI z)), (5, .long (lN 0)), (0, .ref hm), (1, .int (nI r)), (2, .int (nI o)), (3, .int (nI gd)), (4, .int (nI up))]) (fun _ _ _ _ _ hl => lv_istore hx hb d_Mo_takeOff_9 hl (by decide) rfl) ?_
  refine gs (pc' := 12) (fun _ _ _ _ _ hl => lv_iconst (v := nI 0) hx hb d_Mo_takeOff_11 (by decide)) ?_
  refine gst (pc' := 14) (L' := [(8, .int (nI 0)), (7, .int (nI z)), (5, .long (lN 0)), (0, .ref hm), (1, .int (nI r)), (2, .int (nI o)), (3, .int (nI gd)), (4, .int (nI up))]) (fun _ _ _ _ _ hl => lv_istore hx hb d_Mo_takeOff_12 hl (by decide) rfl) ?_
  refine gsub [0, 1, 2, 3, 4, 5, 6, 7] rfl ?_
  rw [show lN 0 = lI (-((0 : Nat) : Int)) from by rw [lN_lI]; rfl]
  have loop : ∀ (q j c0 : Nat) (f1 : Nat → Int32) (Gk : gT), (j + q = z + 1) → (c0 < 1000000000) → (lim (sh f1 r) (up + z + 1)) → (dv (dsh (df (sh f1 r)) up) j + gd * dv (dx (sh f o) z) j = dv (dsh (df (sh f r)) up) j + c0 * 1000000000 ^ j) → (∀ x, x < up ∨ up + j ≤ x → sh f1 r x = sh f r x) → (oth r f f1) → (gfr (fun x => x = 75) G Gk) → Gk hm = some (70, .inr (9, [.int (I 0), .int (I 1), .ref (A 2), .ref (A 3), .ref (A 4), .ref (A 5), .int (I 6), .int (I 7), .ref (A 8), .ref (A 9), .int (I 10), .ref (A 11), .ref (A 12), .ref (A 13), .int (I 14), .ref (A 15), .ref (A 16), .ref (A 17), .ref (A 18), .int (I 19), .int (I 20), .int (I 21)])) → Gk (A 8) = some (75, .inl (cA 0, 38700, .inl f1)) → Gk (A 9) = some (76, .inl (cA 0, 9, .inl g)) → gV p l e R s m args below meth c D clS lo 12 Q 14 [(8, .int (nI j)), (7, .int (nI z)), (5, .long (lI (-((c0 : Nat) : Int)))), (0, .ref hm), (1, .int (nI r)), (2, .int (nI o)), (3, .int (nI gd)), (4, .int (nI up))] [] Gk B := by
    intro q
    induction q with
    | zero =>
      intro j c0 f1 Gk hj hc0 hl1 hdv hun hot hfr k1 k2 k3
      have hjn : j = z + 1 := by omega
      subst hjn
      rw [dv_dx (Nat.le_succ z)] at hdv
      refine gs (pc' := 16) (fun _ _ _ _ _ hl => lv_iload hx hb d_Mo_takeOff_14 (lv_at hl 0 rfl)) ?_
      refine gs (pc' := 18) (fun _ _ _ _ _ hl => lv_iload hx hb d_Mo_takeOff_16 (lv_at hl 1 rfl)) ?_
      refine gsb (pc1 := 124) (pc2 := 21) (fun _ _ _ _ _ => lv_icmp_gt (tgt := 124) hx hb d_Mo_takeOff_18 (by decide)) (fun c_1 => ?_) (fun c_1 => ?_)
      · skip
        have nc_1 : (z + 1) > z := (nn_gt (a := (z + 1)) (b := z) (by omega) (by omega)).1 c_1
        refine gs (pc' := 126) (fun _ _ _ _ _ hl => lv_lload hx hb d_Mo_takeOff_124 (lv_at hl 2 rfl)) ?_
        refine gs (pc' := 127) (fun _ _ _ _ _ hl => lv_lconst (v := lN 0) hx hb d_Mo_takeOff_126 (by decide)) ?_
        refine gs (pc' := 128) (fun _ _ _ _ _ hl => W.lcmp hx hb d_Mo_takeOff_127) ?_
        refine gsb (pc1 := 135) (pc2 := 131) (fun _ _ _ _ _ => lv_if_ge (tgt := 135) hx hb d_Mo_takeOff_128 (by decide)) (fun c_2 => ?_) (fun c_2 => ?_)
        · skip
          have nc_2 : (-((c0 : Nat) : Int)) ≥ ((0 : Nat) : Int) := (lcI_ge (a := (-((c0 : Nat) : Int))) (b := ((0 : Nat) : Int)) (by omega) (by omega) (by omega) (by omega)).1 (by rw [cmp_IN] at c_2; exact c_2)
          have hcz : c0 = 0 := by omega
          refine gs (pc' := 136) (fun _ _ _ _ _ hl => lv_iconst (v := nI 0) hx hb d_Mo_takeOff_135 (by decide)) ?_
          exact hret 136 _ _ _ _ d_Mo_takeOff_136 hB1 hB2 (by decide) ⟨rfl, f1, c0, k1, k2, k3, hl1, (fun x9 h9 => hun x9 (by omega)), hot, hdv, Or.inl ⟨rfl, hcz⟩, hfr⟩
        · skip
          have nc_2 : (-((c0 : Nat) : Int)) < ((0 : Nat) : Int) := (lcI_ge (a := (-((c0 : Nat) : Int))) (b := ((0 : Nat) : Int)) (by omega) (by omega) (by omega) (by omega)).2 (by rw [cmp_IN] at c_2; exact c_2)
          have hcz : c0 ≠ 0 := by omega
          refine gs (pc' := 132) (fun _ _ _ _ _ hl => lv_iconst (v := nI 1) hx hb d_Mo_takeOff_131 (by decide)) ?_
          refine gs (pc' := 136) (fun _ _ _ _ _ hl => lv_goto (tgt := 136) hx hb d_Mo_takeOff_132 (by decide)) ?_
          exact hret 136 _ _ _ _ d_Mo_takeOff_136 hB1 hB2 (by decide) ⟨rfl, f1, c0, k1, k2, k3, hl1, (fun x9 h9 => hun x9 (by omega)), hot, hdv, Or.inr ⟨rfl, hcz⟩, hfr⟩
      · skip
        have nc_1 : (z + 1) ≤ z := (nn_gt (a := (z + 1)) (b := z) (by omega) (by omega)).2 c_1
        exact absurd nc_1 (by omega)
    | succ q ih =>
      intro j c0 f1 Gk hj hc0 hl1 hdv hun hot hfr k1 k2 k3
      obtain ⟨wj, hwj⟩ : ∃ y9, y9 = df (sh f1 r) (up + j) := ⟨_, rfl⟩
      have hwb : wj < 1000000000 := by rw [hwj]; exact (hl1 (up + j) (by omega)).2
      refine gs (pc' := 16) (fun _ _ _ _ _ hl => lv_iload hx hb d_Mo_takeOff_14 (lv_at hl 0 rfl)) ?_
      refine gs (pc' := 18) (fun _ _ _ _ _ hl => lv_iload hx hb d_Mo_takeOff_16 (lv_at hl 1 rfl)) ?_
      refine gsb (pc1 := 124) (pc2 := 21) (fun _ _ _ _ _ => lv_icmp_gt (tgt := 124) hx hb d_Mo_takeOff_18 (by decide)) (fun c_3 => ?_) (fun c_3 => ?_)
      · skip
        have nc_3 : j > z := (nn_gt (a := j) (b := z) (by omega) (by omega)).1 c_3
        exact absurd nc_3 (by omega)
      · skip
        have nc_3 : j ≤ z := (nn_gt (a := j) (b := z) (by omega) (by omega)).2 c_3
        refine gs (pc' := 24) (fun _ _ _ _ _ hl => lv_sipush (v := nI 4300) hx hb d_Mo_takeOff_21 (by decide)) ?_
        refine gs (pc' := 25) (fun _ _ _ _ _ hl => lv_iload_n hx hb d_Mo_takeOff_24 rfl (lv_at hl 4 rfl)) ?_
        refine gs (pc' := 26) (fun _ _ _ _ _ hl => lv_imul hx hb d_Mo_takeOff_25) ?_
        refine g_eqi (show (nI 4300) * (nI r) = nI (4300 * r) from pk_mul _ _) ?_
        refine gs (pc' := 28) (fun _ _ _ _ _ hl => lv_iload hx hb d_Mo_takeOff_26 (lv_at hl 7 rfl)) ?_
        refine gs (pc' := 29) (fun _ _ _ _ _ hl => lv_iadd hx hb d_Mo_takeOff_28) ?_
        refine g_eqi (show (nI (4300 * r)) + (nI up) = nI ((4300 * r) + up) from nI_add _ _) ?_
        refine gs (pc' := 31) (fun _ _ _ _ _ hl => lv_iload hx hb d_Mo_takeOff_29 (lv_at hl 0 rfl)) ?_
        refine gs (pc' := 32) (fun _ _ _ _ _ hl => lv_iadd hx hb d_Mo_takeOff_31) ?_
        refine g_eqi (show (nI ((4300 * r) + up)) + (nI j) = nI (4300 * r + (up + j)) from (nI_add _ _).trans (congrArg nI (show ((4300 * r) + up) + j = 4300 * r + (up + j) by omega))) ?_
        refine gst (pc' := 34) (L' := [(9, .int (nI (4300 * r + (up + j)))), (8, .int (nI j)), (7, .int (nI z)), (5, .long (lI (-((c0 : Nat) : Int)))), (0, .ref hm), (1, .int (nI r)), (2, .int (nI o)), (3, .int (nI gd)), (4, .int (nI up))]) (fun _ _ _ _ _ hl => lv_istore hx hb d_Mo_takeOff_32 hl (by decide) rfl) ?_
        refine gs (pc' := 35) (fun _ _ _ _ _ hl => lv_aload_n hx hb d_Mo_takeOff_34 rfl (lv_at hl 4 rfl)) ?_
        refine g_get hx hb hts hin_Mo hown hK k1 rfl 8 (by decide) (hts _ wm762) (fun _ h9 => h9) rfl d_Mo_takeOff_35 ?_
        refine gs (pc' := 40) (fun _ _ _ _ _ hl => lv_iload hx hb d_Mo_takeOff_38 (lv_at hl 0 rfl)) ?_
        refine g_iald hx hb hK 0 k2 rfl (show vp_in (nI (4300 * r + (up + j))) 38700 from vp_in_nI (by omega) (by omega)) d_Mo_takeOff_40 ?_
        refine g_eqi (show f1 (nI (4300 * r + (up + j))).toNatClampNeg = f1 (4300 * r + (up + j)) from by rw [nI_clamp (by omega)]) ?_
        refine g_eqi (show f1 (4300 * r + (up + j)) = nI wj from by rw [hwj]; exact (hl1 (up + j) (by omega)).1) ?_
        refine gs (pc' := 42) (fun _ _ _ _ _ hl => lv_i2l (v := lN wj) hx hb d_Mo_takeOff_41 (nI_l (by omega))) ?_
        refine gs (pc' := 44) (fun _ _ _ _ _ hl => lv_iload hx hb d_Mo_takeOff_42 (lv_at hl 1 rfl)) ?_
        refine gs (pc' := 46) (fun _ _ _ _ _ hl => lv_iload hx hb d_Mo_takeOff_44 (lv_at hl 2 rfl)) ?_
        refine gsb (pc1 := 69) (pc2 := 49) (fun _ _ _ _ _ => lv_icmp_ge (tgt := 69) hx hb d_Mo_takeOff_46 (by decide)) (fun c_4 => ?_) (fun c_4 => ?_)
        · skip
          have nc_4 : j ≥ z := (nn_ge (a := j) (b := z) (by omega) (by omega)).1 c_4
          have hdx : dx (sh f o) z j = 0 := dx_out (by omega)
          have hpd : 0 = gd * dx (sh f o) z j := by rw [hdx, Nat.mul_zero]
          have hpb : (0 : Nat) ≤ 999999999 * 999999999 := by omega
          refine gs (pc' := 70) (fun _ _ _ _ _ hl => lv_lconst (v := lN 0) hx hb d_Mo_takeOff_69 (by decide)) ?_
          refine gs (pc' := 71) (fun _ _ _ _ _ hl => lv_lsub hx hb d_Mo_takeOff_70) ?_
          refine g_eql (show (lN wj) - (lN 0) = lI (((wj : Nat) : Int) - ((0 : Nat) : Int)) from lNN_sub _ _) ?_
          refine gs (pc' := 73) (fun _ _ _ _ _ hl => lv_lload hx hb d_Mo_takeOff_71 (lv_at hl 3 rfl)) ?_
          refine gs (pc' := 74) (fun _ _ _ _ _ hl => lv_ladd hx hb d_Mo_takeOff_73) ?_
          refine g_eql (show (lI (((wj : Nat) : Int) - ((0 : Nat) : Int))) + (lI (-((c0 : Nat) : Int))) = lI ((((wj : Nat) : Int) - ((0 : Nat) : Int)) + (-((c0 : Nat) : Int))) from lI_add _ _) ?_
          obtain ⟨E, hE⟩ : ∃ y9 : Int, y9 = (((wj : Nat) : Int) - ((0 : Nat) : Int)) + (-((c0 : Nat) : Int)) := ⟨_, rfl⟩
          have hE1 : -1000000000000000000 ≤ E := by omega
          have hE2 : E < 1000000000 := by omega
          have ht1 := Int.lt_tmod_of_pos E (show (0 : Int) < 1000000000 by decide)
          have ht2 := Int.tmod_lt_of_pos E (show (0 : Int) < 1000000000 by decide)
          refine g_eql (show lI ((((wj : Nat) : Int) - ((0 : Nat) : Int)) + (-((c0 : Nat) : Int))) = lI E from by rw [hE]) ?_
          refine gst (pc' := 76) (L' := [(10, .long (lI E)), (9, .int (nI (4300 * r + (up + j)))), (8, .int (nI j)), (7, .int (nI z)), (5, .long (lI (-((c0 : Nat) : Int)))), (0, .ref hm), (1, .int (nI r)), (2, .int (nI o)), (3, .int (nI gd)), (4, .int (nI up))]) (fun _ _ _ _ _ hl => lv_lstore hx hb d_Mo_takeOff_74 hl (by decide) rfl) ?_
          refine gs (pc' := 78) (fun _ _ _ _ _ hl => lv_lload hx hb d_Mo_takeOff_76 (lv_at hl 0 rfl)) ?_
          refine gs (pc' := 81) (fun _ _ _ _ _ hl => lv_ldc2 (v := 1000000000) hx hb hown (hts _ wm842) d_Mo_takeOff_78) ?_
          refine g_eql (show 1000000000 = lN 1000000000 from rfl) ?_
          refine gs (pc' := 82) (fun _ _ _ _ _ hl => lv_ldiv hx hb d_Mo_takeOff_81 (by decide)) ?_
          refine g_eql (show (lI E) / (lN 1000000000) = lI (E.tdiv 1000000000) from by rw [lN_lI]; exact lI_tdiv (by omega) (by omega) (by decide) (by decide)) ?_
          refine gs (pc' := 84) (fun _ _ _ _ _ hl => lv_lload hx hb d_Mo_takeOff_82 (lv_at hl 0 rfl)) ?_
          refine gs (pc' := 87) (fun _ _ _ _ _ hl => lv_ldc2 (v := 1000000000) hx hb hown (hts _ wm842) d_Mo_takeOff_84) ?_
          refine g_eql (show 1000000000 = lN 1000000000 from rfl) ?_
          refine gs (pc' := 88) (fun _ _ _ _ _ hl => lv_lrem hx hb d_Mo_takeOff_87 (by decide)) ?_
          refine g_eql (show (lI E) - (lI E) / (lN 1000000000) * (lN 1000000000) = lI (E.tmod 1000000000) from by rw [lN_lI]; exact lI_tmd (by omega) (by omega) (by decide) (by decide)) ?_
          refine gs (pc' := 89) (fun _ _ _ _ _ hl => lv_lconst (v := lN 0) hx hb d_Mo_takeOff_88 (by decide)) ?_
          refine gs (pc' := 90) (fun _ _ _ _ _ hl => W.lcmp hx hb d_Mo_takeOff_89) ?_
          refine gsb (pc1 := 97) (pc2 := 93) (fun _ _ _ _ _ => lv_if_ge (tgt := 97) hx hb d_Mo_takeOff_90 (by decide)) (fun c_5 => ?_) (fun c_5 => ?_)
          · skip
            have nc_5 : (E.tmod 1000000000) ≥ ((0 : Nat) : Int) := (lcI_ge (a := (E.tmod 1000000000)) (b := ((0 : Nat) : Int)) (by omega) (by omega) (by omega) (by omega)).1 (by rw [cmp_IN] at c_5; exact c_5)
            have hfl := fl_0 (v := E) (by omega)
            refine gs (pc' := 98) (fun _ _ _ _ _ hl => lv_lconst (v := lN 0) hx hb d_Mo_takeOff_97 (by decide)) ?_
            refine gs (pc' := 99) (fun _ _ _ _ _ hl => lv_lsub hx hb d_Mo_takeOff_98) ?_
            refine g_eql (show (lI (E.tdiv 1000000000)) - (lN 0) = lI (E / 1000000000) from (lIN_sub _ _).trans (congrArg lI (show (E.tdiv 1000000000) - ((0 : Nat) : Int) = E / 1000000000 by omega))) ?_
            refine gst (pc' := 101) (L' := [(5, .long (lI (E / 1000000000))), (10, .long (lI E)), (9, .int (nI (4300 * r + (up + j)))), (8, .int (nI j)), (7, .int (nI z)), (0, .ref hm), (1, .int (nI r)), (2, .int (nI o)), (3, .int (nI gd)), (4, .int (nI up))]) (fun _ _ _ _ _ hl => lv_lstore hx hb d_Mo_takeOff_99 hl (by decide) rfl) ?_
            refine gs (pc' := 102) (fun _ _ _ _ _ hl => lv_aload_n hx hb d_Mo_takeOff_101 rfl (lv_at hl 5 rfl)) ?_
            refine g_get hx hb hts hin_Mo hown hK k1 rfl 8 (by decide) (hts _ wm762) (fun _ h9 => h9) rfl d_Mo_takeOff_102 ?_
            refine gs (pc' := 107) (fun _ _ _ _ _ hl => lv_iload hx hb d_Mo_takeOff_105 (lv_at hl 2 rfl)) ?_
            refine gs (pc' := 109) (fun _ _ _ _ _ hl => lv_lload hx hb d_Mo_takeOff_107 (lv_at hl 1 rfl)) ?_
            refine gs (pc' := 111) (fun _ _ _ _ _ hl => lv_lload hx hb d_Mo_takeOff_109 (lv_at hl 0 rfl)) ?_
            refine gs (pc' := 114) (fun _ _ _ _ _ hl => lv_ldc2 (v := 1000000000) hx hb hown (hts _ wm842) d_Mo_takeOff_111) ?_
            refine g_eql (show 1000000000 = lN 1000000000 from rfl) ?_
            refine gs (pc' := 115) (fun _ _ _ _ _ hl => lv_lmul hx hb d_Mo_takeOff_114) ?_
            refine g_eql (show (lI (E / 1000000000)) * (lN 1000000000) = lI ((E / 1000000000) * ((1000000000 : Nat) : Int)) from lIN_mul _ _) ?_
            refine gs (pc' := 116) (fun _ _ _ _ _ hl => lv_lsub hx hb d_Mo_takeOff_115) ?_
            refine g_eql (show (lI E) - (lI ((E / 1000000000) * ((1000000000 : Nat) : Int))) = lI (E % 1000000000) from (lI_sub _ _).trans (congrArg lI (show E - ((E / 1000000000) * ((1000000000 : Nat) : Int)) = E % 1000000000 by omega))) ?_
            refine gs (pc' := 117) (fun _ _ _ _ _ hl => lv_l2i (v := nI (E % 1000000000).toNat) hx hb d_Mo_takeOff_116 (lI_i (by omega))) ?_
            refine g_iast hx hb hK 0 k2 rfl (show vp_in (nI (4300 * r + (up + j))) 38700 from vp_in_nI (by omega) (by omega)) d_Mo_takeOff_117 (fun G_6 f_7 o_8 => ?_)
            rw [nI_clamp (by omega)] at f_7
            have f_9 : G_6 hm = some (70, .inr (9, [.int (I 0), .int (I 1), .ref (A 2), .ref (A 3), .ref (A 4), .ref (A 5), .int (I 6), .int (I 7), .ref (A 8), .ref (A 9), .int (I 10), .ref (A 11), .ref (A 12), .ref (A 13), .int (I 14), .ref (A 15), .ref (A 16), .ref (A 17), .ref (A 18), .int (I 19), .int (I 20), .int (I 21)])) := (o_8 _ (gne k1 k2 (fun e => by cases e))).trans k1
            have f_10 : G_6 (A 9) = some (76, .inl (cA 0, 9, .inl g)) := (o_8 _ (gne k3 k2 (by simp))).trans k3
            refine gst (pc' := 121) (L' := [(8, .int (nI (j + 1))), (5, .long (lI (E / 1000000000))), (10, .long (lI E)), (9, .int (nI (4300 * r + (up + j)))), (7, .int (nI z)), (0, .ref hm), (1, .int (nI r)), (2, .int (nI o)), (3, .int (nI gd)), (4, .int (nI up))]) (fun _ _ _ _ _ hl => lv_iinc (v := nI (j + 1)) hx hb d_Mo_takeOff_118 hl (k := 3) rfl (nI_add _ 1) (by decide) rfl) ?_
            refine gs (pc' := 14) (fun _ _ _ _ _ hl => lv_goto (tgt := 14) hx hb d_Mo_takeOff_121 (by decide)) ?_
            refine gsub [0, 4, 1, 5, 6, 7, 8, 9] rfl ?_
            have hww : wj = df (sh f r) (up + j) := by rw [hwj]; unfold df; rw [hun (up + j) (by omega)]
            rw [show E / 1000000000 = -(((-(E / 1000000000)).toNat : Nat) : Int) from by omega]
            exact ih (j + 1) ((-(E / 1000000000)).toNat) (upd f1 (4300 * r + (up + j)) (nI (E % 1000000000).toNat)) G_6 (by omega) (by omega) (by rw [sh_us]; exact lim_upd hl1 (by omega)) (by rw [dv_sh (by omega), dv_s, dv_s]; refine st_sub hdv ?_; rw [Nat.mul_comm (dx (sh f o) z j) gd, ← hpd]; show _ = df (sh f r) (up + j) + _; rw [← hww]; omega) (fun x9 h9 => by rw [sh_us, pk_un (by omega)]; exact hun x9 (by omega)) (oth_up hot (by omega)) (gfr_put hfr k2 rfl o_8) f_9 f_7 f_10
          · skip
            have nc_5 : (E.tmod 1000000000) < ((0 : Nat) : Int) := (lcI_ge (a := (E.tmod 1000000000)) (b := ((0 : Nat) : Int)) (by omega) (by omega) (by omega) (by omega)).2 (by rw [cmp_IN] at c_5; exact c_5)
            have hfl := fl_1 (v := E) (by omega)
            refine gs (pc' := 94) (fun _ _ _ _ _ hl => lv_lconst (v := lN 1) hx hb d_Mo_takeOff_93 (by decide)) ?_
            refine gs (pc' := 98) (fun _ _ _ _ _ hl => lv_goto (tgt := 98) hx hb d_Mo_takeOff_94 (by decide)) ?_
            refine gs (pc' := 99) (fun _ _ _ _ _ hl => lv_lsub hx hb d_Mo_takeOff_98) ?_
            refine g_eql (show (lI (E.tdiv 1000000000)) - (lN 1) = lI (E / 1000000000) from (lIN_sub _ _).trans (congrArg lI (show (E.tdiv 1000000000) - ((1 : Nat) : Int) = E / 1000000000 by omega))) ?_
            refine gst (pc' := 101) (L' := [(5, .long (lI (E / 1000000000))), (10, .long (lI E)), (9, .int (nI (4300 * r + (up + j)))), (8, .int (nI j)), (7, .int (nI z)), (0, .ref hm), (1, .int (nI r)), (2, .int (nI o)), (3, .int (nI gd)), (4, .int (nI up))]) (fun _ _ _ _ _ hl => lv_lstore hx hb d_Mo_takeOff_99 hl (by decide) rfl) ?_
            refine gs (pc' := 102) (fun _ _ _ _ _ hl => lv_aload_n hx hb d_Mo_takeOff_101 rfl (lv_at hl 5 rfl)) ?_
            refine g_get hx hb hts hin_Mo hown hK k1 rfl 8 (by decide) (hts _ wm762) (fun _ h9 => h9) rfl d_Mo_takeOff_102 ?_
            refine gs (pc' := 107) (fun _ _ _ _ _ hl => lv_iload hx hb d_Mo_takeOff_105 (lv_at hl 2 rfl)) ?_
            refine gs (pc' := 109) (fun _ _ _ _ _ hl => lv_lload hx hb d_Mo_takeOff_107 (lv_at hl 1 rfl)) ?_
            refine gs (pc' := 111) (fun _ _ _ _ _ hl => lv_lload hx hb d_Mo_takeOff_109 (lv_at hl 0 rfl)) ?_
            refine gs (pc' := 114) (fun _ _ _ _ _ hl => lv_ldc2 (v := 1000000000) hx hb hown (hts _ wm842) d_Mo_takeOff_111) ?_
            refine g_eql (show 1000000000 = lN 1000000000 from rfl) ?_
            refine gs (pc' := 115) (fun _ _ _ _ _ hl => lv_lmul hx hb d_Mo_takeOff_114) ?_
            refine g_eql (show (lI (E / 1000000000)) * (lN 1000000000) = lI ((E / 1000000000) * ((1000000000 : Nat) : Int)) from lIN_mul _ _) ?_
            refine gs (pc' := 116) (fun _ _ _ _ _ hl => lv_lsub hx hb d_Mo_takeOff_115) ?_
            refine g_eql (show (lI E) - (lI ((E / 1000000000) * ((1000000000 : Nat) : Int))) = lI (E % 1000000000) from (lI_sub _ _).trans (congrArg lI (show E - ((E / 1000000000) * ((1000000000 : Nat) : Int)) = E % 1000000000 by omega))) ?_
            refine gs (pc' := 117) (fun _ _ _ _ _ hl => lv_l2i (v := nI (E % 1000000000).toNat) hx hb d_Mo_takeOff_116 (lI_i (by omega))) ?_
            refine g_iast hx hb hK 0 k2 rfl (show vp_in (nI (4300 * r + (up + j))) 38700 from vp_in_nI (by omega) (by omega)) d_Mo_takeOff_117 (fun G_11 f_12 o_13 => ?_)
            rw [nI_clamp (by omega)] at f_12
            have f_14 : G_11 hm = some (70, .inr (9, [.int (I 0), .int (I 1), .ref (A 2), .ref (A 3), .ref (A 4), .ref (A 5), .int (I 6), .int (I 7), .ref (A 8), .ref (A 9), .int (I 10), .ref (A 11), .ref (A 12), .ref (A 13), .int (I 14), .ref (A 15), .ref (A 16), .ref (A 17), .ref (A 18), .int (I 19), .int (I 20), .int (I 21)])) := (o_13 _ (gne k1 k2 (fun e => by cases e))).trans k1
            have f_15 : G_11 (A 9) = some (76, .inl (cA 0, 9, .inl g)) := (o_13 _ (gne k3 k2 (by simp))).trans k3
            refine gst (pc' := 121) (L' := [(8, .int (nI (j + 1))), (5, .long (lI (E / 1000000000))), (10, .long (lI E)), (9, .int (nI (4300 * r + (up + j)))), (7, .int (nI z)), (0, .ref hm), (1, .int (nI r)), (2, .int (nI o)), (3, .int (nI gd)), (4, .int (nI up))]) (fun _ _ _ _ _ hl => lv_iinc (v := nI (j + 1)) hx hb d_Mo_takeOff_118 hl (k := 3) rfl (nI_add _ 1) (by decide) rfl) ?_
            refine gs (pc' := 14) (fun _ _ _ _ _ hl => lv_goto (tgt := 14) hx hb d_Mo_takeOff_121 (by decide)) ?_
            refine gsub [0, 4, 1, 5, 6, 7, 8, 9] rfl ?_
            have hww : wj = df (sh f r) (up + j) := by rw [hwj]; unfold df; rw [hun (up + j) (by omega)]
            rw [show E / 1000000000 = -(((-(E / 1000000000)).toNat : Nat) : Int) from by omega]
            exact ih (j + 1) ((-(E / 1000000000)).toNat) (upd f1 (4300 * r + (up + j)) (nI (E % 1000000000).toNat)) G_11 (by omega) (by omega) (by rw [sh_us]; exact lim_upd hl1 (by omega)) (by rw [dv_sh (by omega), dv_s, dv_s]; refine st_sub hdv ?_; rw [Nat.mul_comm (dx (sh f o) z j) gd, ← hpd]; show _ = df (sh f r) (up + j) + _; rw [← hww]; omega) (fun x9 h9 => by rw [sh_us, pk_un (by omega)]; exact hun x9 (by omega)) (oth_up hot (by omega)) (gfr_put hfr k2 rfl o_13) f_14 f_12 f_15
        · skip
          have nc_4 : j < z := (nn_ge (a := j) (b := z) (by omega) (by omega)).2 c_4
          have hdx : dx (sh f o) z j = df (sh f o) j := dx_in (by omega)
          have hdb : df (sh f o) j < 1000000000 := (hlo2 j (by omega)).2
          refine gs (pc' := 50) (fun _ _ _ _ _ hl => lv_iload_n hx hb d_Mo_takeOff_49 rfl (lv_at hl 7 rfl)) ?_
          refine gs (pc' := 51) (fun _ _ _ _ _ hl => lv_i2l (v := lN gd) hx hb d_Mo_takeOff_50 (nI_l (by omega))) ?_
          refine gs (pc' := 52) (fun _ _ _ _ _ hl => lv_aload_n hx hb d_Mo_takeOff_51 rfl (lv_at hl 4 rfl)) ?_
          refine g_get hx hb hts hin_Mo hown hK k1 rfl 8 (by decide) (hts _ wm762) (fun _ h9 => h9) rfl d_Mo_takeOff_52 ?_
          refine gs (pc' := 58) (fun _ _ _ _ _ hl => lv_sipush (v := nI 4300) hx hb d_Mo_takeOff_55 (by decide)) ?_
          refine gs (pc' := 59) (fun _ _ _ _ _ hl => lv_iload_n hx hb d_Mo_takeOff_58 rfl (lv_at hl 6 rfl)) ?_
          refine gs (pc' := 60) (fun _ _ _ _ _ hl => lv_imul hx hb d_Mo_takeOff_59) ?_
          refine g_eqi (show (nI 4300) * (nI o) = nI (4300 * o) from pk_mul _ _) ?_
          refine gs (pc' := 62) (fun _ _ _ _ _ hl => lv_iload hx hb d_Mo_takeOff_60 (lv_at hl 1 rfl)) ?_
          refine gs (pc' := 63) (fun _ _ _ _ _ hl => lv_iadd hx hb d_Mo_takeOff_62) ?_
          refine g_eqi (show (nI (4300 * o)) + (nI j) = nI ((4300 * o) + j) from nI_add _ _) ?_
          refine g_iald hx hb hK 0 k2 rfl (show vp_in (nI ((4300 * o) + j)) 38700 from vp_in_nI (by omega) (by omega)) d_Mo_takeOff_63 ?_
          refine g_eqi (show f1 (nI ((4300 * o) + j)).toNatClampNeg = f1 ((4300 * o) + j) from by rw [nI_clamp (by omega)]) ?_
          refine g_eqi (show f1 ((4300 * o) + j) = nI (df (sh f o) j) from (hot o hro j (by omega)).trans (hlo2 j (by omega)).1) ?_
          refine gs (pc' := 65) (fun _ _ _ _ _ hl => lv_i2l (v := lN (df (sh f o) j)) hx hb d_Mo_takeOff_64 (nI_l (by omega))) ?_
          refine gs (pc' := 66) (fun _ _ _ _ _ hl => lv_lmul hx hb d_Mo_takeOff_65) ?_
          refine g_eql (show (lN gd) * (lN (df (sh f o) j)) = lN (gd * (df (sh f o) j)) from lN_mul _ _) ?_
          obtain ⟨pd, hpd0⟩ : ∃ y9, y9 = gd * df (sh f o) j := ⟨_, rfl⟩
          have hpd : pd = gd * dx (sh f o) z j := by rw [hdx]; exact hpd0
          have hpb : pd ≤ 999999999 * 999999999 := by rw [hpd0]; exact Nat.mul_le_mul (by omega) (by omega)
          refine g_eql (show lN (gd * (df (sh f o) j)) = lN pd from by rw [hpd0]) ?_
          refine gs (pc' := 70) (fun _ _ _ _ _ hl => lv_goto (tgt := 70) hx hb d_Mo_takeOff_66 (by decide)) ?_
          refine gs (pc' := 71) (fun _ _ _ _ _ hl => lv_lsub hx hb d_Mo_takeOff_70) ?_
          refine g_eql (show (lN wj) - (lN pd) = lI (((wj : Nat) : Int) - ((pd : Nat) : Int)) from lNN_sub _ _) ?_
          refine gs (pc' := 73) (fun _ _ _ _ _ hl => lv_lload hx hb d_Mo_takeOff_71 (lv_at hl 3 rfl)) ?_
          refine gs (pc' := 74) (fun _ _ _ _ _ hl => lv_ladd hx hb d_Mo_takeOff_73) ?_
          refine g_eql (show (lI (((wj : Nat) : Int) - ((pd : Nat) : Int))) + (lI (-((c0 : Nat) : Int))) = lI ((((wj : Nat) : Int) - ((pd : Nat) : Int)) + (-((c0 : Nat) : Int))) from lI_add _ _) ?_
          obtain ⟨E, hE⟩ : ∃ y9 : Int, y9 = (((wj : Nat) : Int) - ((pd : Nat) : Int)) + (-((c0 : Nat) : Int)) := ⟨_, rfl⟩
          have hE1 : -1000000000000000000 ≤ E := by omega
          have hE2 : E < 1000000000 := by omega
          have ht1 := Int.lt_tmod_of_pos E (show (0 : Int) < 1000000000 by decide)
          have ht2 := Int.tmod_lt_of_pos E (show (0 : Int) < 1000000000 by decide)
          refine g_eql (show lI ((((wj : Nat) : Int) - ((pd : Nat) : Int)) + (-((c0 : Nat) : Int))) = lI E from by rw [hE]) ?_
          refine gst (pc' := 76) (L' := [(10, .long (lI E)), (9, .int (nI (4300 * r + (up + j)))), (8, .int (nI j)), (7, .int (nI z)), (5, .long (lI (-((c0 : Nat) : Int)))), (0, .ref hm), (1, .int (nI r)), (2, .int (nI o)), (3, .int (nI gd)), (4, .int (nI up))]) (fun _ _ _ _ _ hl => lv_lstore hx hb d_Mo_takeOff_74 hl (by decide) rfl) ?_
          refine gs (pc' := 78) (fun _ _ _ _ _ hl => lv_lload hx hb d_Mo_takeOff_76 (lv_at hl 0 rfl)) ?_
          refine gs (pc' := 81) (fun _ _ _ _ _ hl => lv_ldc2 (v := 1000000000) hx hb hown (hts _ wm842) d_Mo_takeOff_78) ?_
          refine g_eql (show 1000000000 = lN 1000000000 from rfl) ?_
          refine gs (pc' := 82) (fun _ _ _ _ _ hl => lv_ldiv hx hb d_Mo_takeOff_81 (by decide)) ?_
          refine g_eql (show (lI E) / (lN 1000000000) = lI (E.tdiv 1000000000) from by rw [lN_lI]; exact lI_tdiv (by omega) (by omega) (by decide) (by decide)) ?_
          refine gs (pc' := 84) (fun _ _ _ _ _ hl => lv_lload hx hb d_Mo_takeOff_82 (lv_at hl 0 rfl)) ?_
          refine gs (pc' := 87) (fun _ _ _ _ _ hl => lv_ldc2 (v := 1000000000) hx hb hown (hts _ wm842) d_Mo_takeOff_84) ?_
          refine g_eql (show 1000000000 = lN 1000000000 from rfl) ?_
          refine gs (pc' := 88) (fun _ _ _ _ _ hl => lv_lrem hx hb d_Mo_takeOff_87 (by decide)) ?_
          refine g_eql (show (lI E) - (lI E) / (lN 1000000000) * (lN 1000000000) = lI (E.tmod 1000000000) from by rw [lN_lI]; exact lI_tmd (by omega) (by omega) (by decide) (by decide)) ?_
          refine gs (pc' := 89) (fun _ _ _ _ _ hl => lv_lconst (v := lN 0) hx hb d_Mo_takeOff_88 (by decide)) ?_
          refine gs (pc' := 90) (fun _ _ _ _ _ hl => W.lcmp hx hb d_Mo_takeOff_89) ?_
          refine gsb (pc1 := 97) (pc2 := 93) (fun _ _ _ _ _ => lv_if_ge (tgt := 97) hx hb d_Mo_takeOff_90 (by decide)) (fun c_16 => ?_) (fun c_16 => ?_)
          · skip
            have nc_16 : (E.tmod 1000000000) ≥ ((0 : Nat) : Int) := (lcI_ge (a := (E.tmod 1000000000)) (b := ((0 : Nat) : Int)) (by omega) (by omega) (by omega) (by omega)).1 (by rw [cmp_IN] at c_16; exact c_16)
            have hfl := fl_0 (v := E) (by omega)
            refine gs (pc' := 98) (fun _ _ _ _ _ hl => lv_lconst (v := lN 0) hx hb d_Mo_takeOff_97 (by decide)) ?_
            refine gs (pc' := 99) (fun _ _ _ _ _ hl => lv_lsub hx hb d_Mo_takeOff_98) ?_
            refine g_eql (show (lI (E.tdiv 1000000000)) - (lN 0) = lI (E / 1000000000) from (lIN_sub _ _).trans (congrArg lI (show (E.tdiv 1000000000) - ((0 : Nat) : Int) = E / 1000000000 by omega))) ?_
            refine gst (pc' := 101) (L' := [(5, .long (lI (E / 1000000000))), (10, .long (lI E)), (9, .int (nI (4300 * r + (up + j)))), (8, .int (nI j)), (7, .int (nI z)), (0, .ref hm), (1, .int (nI r)), (2, .int (nI o)), (3, .int (nI gd)), (4, .int (nI up))]) (fun _ _ _ _ _ hl => lv_lstore hx hb d_Mo_takeOff_99 hl (by decide) rfl) ?_
            refine gs (pc' := 102) (fun _ _ _ _ _ hl => lv_aload_n hx hb d_Mo_takeOff_101 rfl (lv_at hl 5 rfl)) ?_
            refine g_get hx hb hts hin_Mo hown hK k1 rfl 8 (by decide) (hts _ wm762) (fun _ h9 => h9) rfl d_Mo_takeOff_102 ?_
            refine gs (pc' := 107) (fun _ _ _ _ _ hl => lv_iload hx hb d_Mo_takeOff_105 (lv_at hl 2 rfl)) ?_
            refine gs (pc' := 109) (fun _ _ _ _ _ hl => lv_lload hx hb d_Mo_takeOff_107 (lv_at hl 1 rfl)) ?_
            refine gs (pc' := 111) (fun _ _ _ _ _ hl => lv_lload hx hb d_Mo_takeOff_109 (lv_at hl 0 rfl)) ?_
            refine gs (pc' := 114) (fun _ _ _ _ _ hl => lv_ldc2 (v := 1000000000) hx hb hown (hts _ wm842) d_Mo_takeOff_111) ?_
            refine g_eql (show 1000000000 = lN 1000000000 from rfl) ?_
            refine gs (pc' := 115) (fun _ _ _ _ _ hl => lv_lmul hx hb d_Mo_takeOff_114) ?_
            refine g_eql (show (lI (E / 1000000000)) * (lN 1000000000) = lI ((E / 1000000000) * ((1000000000 : Nat) : Int)) from lIN_mul _ _) ?_
            refine gs (pc' := 116) (fun _ _ _ _ _ hl => lv_lsub hx hb d_Mo_takeOff_115) ?_
            refine g_eql (show (lI E) - (lI ((E / 1000000000) * ((1000000000 : Nat) : Int))) = lI (E % 1000000000) from (lI_sub _ _).trans (congrArg lI (show E - ((E / 1000000000) * ((1000000000 : Nat) : Int)) = E % 1000000000 by omega))) ?_
            refine gs (pc' := 117) (fun _ _ _ _ _ hl => lv_l2i (v := nI (E % 1000000000).toNat) hx hb d_Mo_takeOff_116 (lI_i (by omega))) ?_
            refine g_iast hx hb hK 0 k2 rfl (show vp_in (nI (4300 * r + (up + j))) 38700 from vp_in_nI (by omega) (by omega)) d_Mo_takeOff_117 (fun G_17 f_18 o_19 => ?_)
            rw [nI_clamp (by omega)] at f_18
            have f_20 : G_17 hm = some (70, .inr (9, [.int (I 0), .int (I 1), .ref (A 2), .ref (A 3), .ref (A 4), .ref (A 5), .int (I 6), .int (I 7), .ref (A 8), .ref (A 9), .int (I 10), .ref (A 11), .ref (A 12), .ref (A 13), .int (I 14), .ref (A 15), .ref (A 16), .ref (A 17), .ref (A 18), .int (I 19), .int (I 20), .int (I 21)])) := (o_19 _ (gne k1 k2 (fun e => by cases e))).trans k1
            have f_21 : G_17 (A 9) = some (76, .inl (cA 0, 9, .inl g)) := (o_19 _ (gne k3 k2 (by simp))).trans k3
            refine gst (pc' := 121) (L' := [(8, .int (nI (j + 1))), (5, .long (lI (E / 1000000000))), (10, .long (lI E)), (9, .int (nI (4300 * r + (up + j)))), (7, .int (nI z)), (0, .ref hm), (1, .int (nI r)), (2, .int (nI o)), (3, .int (nI gd)), (4, .int (nI up))]) (fun _ _ _ _ _ hl => lv_iinc (v := nI (j + 1)) hx hb d_Mo_takeOff_118 hl (k := 3) rfl (nI_add _ 1) (by decide) rfl) ?_
            refine gs (pc' := 14) (fun _ _ _ _ _ hl => lv_goto (tgt := 14) hx hb d_Mo_takeOff_121 (by decide)) ?_
            refine gsub [0, 4, 1, 5, 6, 7, 8, 9] rfl ?_
            have hww : wj = df (sh f r) (up + j) := by rw [hwj]; unfold df; rw [hun (up + j) (by omega)]
            rw [show E / 1000000000 = -(((-(E / 1000000000)).toNat : Nat) : Int) from by omega]
            exact ih (j + 1) ((-(E / 1000000000)).toNat) (upd f1 (4300 * r + (up + j)) (nI (E % 1000000000).toNat)) G_17 (by omega) (by omega) (by rw [sh_us]; exact lim_upd hl1 (by omega)) (by rw [dv_sh (by omega), dv_s, dv_s]; refine st_sub hdv ?_; rw [Nat.mul_comm (dx (sh f o) z j) gd, ← hpd]; show _ = df (sh f r) (up + j) + _; rw [← hww]; omega) (fun x9 h9 => by rw [sh_us, pk_un (by omega)]; exact hun x9 (by omega)) (oth_up hot (by omega)) (gfr_put hfr k2 rfl o_19) f_20 f_18 f_21
          · skip
            have nc_16 : (E.tmod 1000000000) < ((0 : Nat) : Int) := (lcI_ge (a := (E.tmod 1000000000)) (b := ((0 : Nat) : Int)) (by omega) (by omega) (by omega) (by omega)).2 (by rw [cmp_IN] at c_16; exact c_16)
            have hfl := fl_1 (v := E) (by omega)
            refine gs (pc' := 94) (fun _ _ _ _ _ hl => lv_lconst (v := lN 1) hx hb d_Mo_takeOff_93 (by decide)) ?_
            refine gs (pc' := 98) (fun _ _ _ _ _ hl => lv_goto (tgt := 98) hx hb d_Mo_takeOff_94 (by decide)) ?_
            refine gs (pc' := 99) (fun _ _ _ _ _ hl => lv_lsub hx hb d_Mo_takeOff_98) ?_
            refine g_eql (show (lI (E.tdiv 1000000000)) - (lN 1) = lI (E / 1000000000) from (lIN_sub _ _).trans (congrArg lI (show (E.tdiv 1000000000) - ((1 : Nat) : Int) = E / 1000000000 by omega))) ?_
            refine gst (pc' := 101) (L' := [(5, .long (lI (E / 1000000000))), (10, .long (lI E)), (9, .int (nI (4300 * r + (up + j)))), (8, .int (nI j)), (7, .int (nI z)), (0, .ref hm), (1, .int (nI r)), (2, .int (nI o)), (3, .int (nI gd)), (4, .int (nI up))]) (fun _ _ _ _ _ hl => lv_lstore hx hb d_Mo_takeOff_99 hl (by decide) rfl) ?_
            refine gs (pc' := 102) (fun _ _ _ _ _ hl => lv_aload_n hx hb d_Mo_takeOff_101 rfl (lv_at hl 5 rfl)) ?_
            refine g_get hx hb hts hin_Mo hown hK k1 rfl 8 (by decide) (hts _ wm762) (fun _ h9 => h9) rfl d_Mo_takeOff_102 ?_
            refine gs (pc' := 107) (fun _ _ _ _ _ hl => lv_iload hx hb d_Mo_takeOff_105 (lv_at hl 2 rfl)) ?_
            refine gs (pc' := 109) (fun _ _ _ _ _ hl => lv_lload hx hb d_Mo_takeOff_107 (lv_at hl 1 rfl)) ?_
            refine gs (pc' := 111) (fun _ _ _ _ _ hl => lv_lload hx hb d_Mo_takeOff_109 (lv_at hl 0 rfl)) ?_
            refine gs (pc' := 114) (fun _ _ _ _ _ hl => lv_ldc2 (v := 1000000000) hx hb hown (hts _ wm842) d_Mo_takeOff_111) ?_
            refine g_eql (show 1000000000 = lN 1000000000 from rfl) ?_
            refine gs (pc' := 115) (fun _ _ _ _ _ hl => lv_lmul hx hb d_Mo_takeOff_114) ?_
            refine g_eql (show (lI (E / 1000000000)) * (lN 1000000000) = lI ((E / 1000000000) * ((1000000000 : Nat) : Int)) from lIN_mul _ _) ?_
            refine gs (pc' := 116) (fun _ _ _ _ _ hl => lv_lsub hx hb d_Mo_takeOff_115) ?_
            refine g_eql (show (lI E) - (lI ((E / 1000000000) * ((1000000000 : Nat) : Int))) = lI (E % 1000000000) from (lI_sub _ _).trans (congrArg lI (show E - ((E / 1000000000) * ((1000000000 : Nat) : Int)) = E % 1000000000 by omega))) ?_
            refine gs (pc' := 117) (fun _ _ _ _ _ hl => lv_l2i (v := nI (E % 1000000000).toNat) hx hb d_Mo_takeOff_116 (lI_i (by omega))) ?_
            refine g_iast hx hb hK 0 k2 rfl (show vp_in (nI (4300 * r + (up + j))) 38700 from vp_in_nI (by omega) (by omega)) d_Mo_takeOff_117 (fun G_22 f_23 o_24 => ?_)
            rw [nI_clamp (by omega)] at f_23
            have f_25 : G_22 hm = some (70, .inr (9, [.int (I 0), .int (I 1), .ref (A 2), .ref (A 3), .ref (A 4), .ref (A 5), .int (I 6), .int (I 7), .ref (A 8), .ref (A 9), .int (I 10), .ref (A 11), .ref (A 12), .ref (A 13), .int (I 14), .ref (A 15), .ref (A 16), .ref (A 17), .ref (A 18), .int (I 19), .int (I 20), .int (I 21)])) := (o_24 _ (gne k1 k2 (fun e => by cases e))).trans k1
            have f_26 : G_22 (A 9) = some (76, .inl (cA 0, 9, .inl g)) := (o_24 _ (gne k3 k2 (by simp))).trans k3
            refine gst (pc' := 121) (L' := [(8, .int (nI (j + 1))), (5, .long (lI (E / 1000000000))), (10, .long (lI E)), (9, .int (nI (4300 * r + (up + j)))), (7, .int (nI z)), (0, .ref hm), (1, .int (nI r)), (2, .int (nI o)), (3, .int (nI gd)), (4, .int (nI up))]) (fun _ _ _ _ _ hl => lv_iinc (v := nI (j + 1)) hx hb d_Mo_takeOff_118 hl (k := 3) rfl (nI_add _ 1) (by decide) rfl) ?_
            refine gs (pc' := 14) (fun _ _ _ _ _ hl => lv_goto (tgt := 14) hx hb d_Mo_takeOff_121 (by decide)) ?_
            refine gsub [0, 4, 1, 5, 6, 7, 8, 9] rfl ?_
            have hww : wj = df (sh f r) (up + j) := by rw [hwj]; unfold df; rw [hun (up + j) (by omega)]
            rw [show E / 1000000000 = -(((-(E / 1000000000)).toNat : Nat) : Int) from by omega]
            exact ih (j + 1) ((-(E / 1000000000)).toNat) (upd f1 (4300 * r + (up + j)) (nI (E % 1000000000).toNat)) G_22 (by omega) (by omega) (by rw [sh_us]; exact lim_upd hl1 (by omega)) (by rw [dv_sh (by omega), dv_s, dv_s]; refine st_sub hdv ?_; rw [Nat.mul_comm (dx (sh f o) z j) gd, ← hpd]; show _ = df (sh f r) (up + j) + _; rw [← hww]; omega) (fun x9 h9 => by rw [sh_us, pk_un (by omega)]; exact hun x9 (by omega)) (oth_up hot (by omega)) (gfr_put hfr k2 rfl o_24) f_25 f_23 f_26
  exact loop (z + 1) 0 0 f G (by omega) (by omega) hlr (by simp [dv_0]) (fun _ _ => rfl) oth_rf gfr_rf hob hlm hsz
set_option maxHeartbeats 4000000 in
set_option maxRecDepth 100000 in
theorem c_Mo_putOn (l : Launch) (D : va_G) (cA : Nat → ClassId) (lo MC MS : Nat) (G : gT) (B : Nat × Nat) (hm : Nat) (A : Nat → Nat) (I : Nat → Int32) (hob : G hm = some (70, .inr (9, mfs A I))) (f g : Nat → Int32) (hlm : G (A 8) = some (75, .inl (cA 0, 38700, .inl f))) (hsz : G (A 9) = some (76, .inl (cA 0, 9, .inl g))) (r : Nat) (hb_r : r < 9) (o : Nat) (hb_o : o < 9) (hro : o ≠ r) (z : Nat) (hgo : g o = nI z) (hlo2 : lim (sh f o) z) (up : Nat) (hup : up + z + 1 ≤ 4300) (hlr : lim (sh f r) (up + z + 1)) (hB1 : B.1 ≤ MC) (hB2 : B.2 ≤ MS) : gMet l y_Mo_putOn w_Mo_putOn 0 0 D clS (gtys cA) lo MC MS [.ref hm, .int (nI r), .int (nI o), .int (nI up)] G B (gQv D clS lo (fun u => u.2 = B ∧ ∃ (f1 : Nat → Int32) (cy : Nat), u.1 hm = some (70, .inr (9, mfs A I)) ∧ u.1 (A 8) = some (75, .inl (cA 0, 38700, .inl f1)) ∧ u.1 (A 9) = some (76, .inl (cA 0, 9, .inl g)) ∧ lim (sh f1 r) (up + z + 1) ∧ (∀ x, x < up ∨ up + z + 1 ≤ x → sh f1 r x = sh f r x) ∧ oth r f f1 ∧ dv (dsh (df (sh f1 r)) up) (z + 1) + cy * 1000000000 ^ (z + 1) = dv (dsh (df (sh f r)) up) (z + 1) + dv (df (sh f o)) z ∧ gfr (fun x => x = 75) G u.1)) := by
  refine g_metv (cc := prog_11_method_14_code) (nL := 9) (L := [(0, .ref hm), (1, .int (nI r)), (2, .int (nI o)), (3, .int (nI up))]) (by decide +kernel) rfl (Nat.le_of_ble_eq_true rfl) rfl ?_
  intro p e R s m args below meth c Q hF hRc hRs hRf hRl hret
  obtain ⟨hx, hb, hr, hml, hts0, hown, hlocks, hin, hK, hlo, hZ⟩ := hF
  have hts : ∀ w ∈ tbg, w.before args s = true := fun w h => hts0 w (List.mem_cons_of_mem _ h)
  refine gs (pc' := 1) (fun _ _ _ _ _ hl => lv_iconst (v := nI 0) hx hb d_Mo_putOn_0 (by decide)) ?_
  refine gst (pc' := 3) (L' := [(4, .int (nI 0)), (0, .ref hm), (1, .int (nI r)), (2, .int (nI o)), (3, .int (nI up))]) (fun _ _ _ _ _ hl => lv_istore hx hb d_Mo_putOn_1 hl (by decide) rfl) ?_
  refine gs (pc' := 4) (fun _ _ _ _ _ hl => lv_aload_n hx hb d_Mo_putOn_3 rfl (lv_at hl 1 rfl)) ?_
  refine g_get hx hb hts hin_Mo hown hK hob rfl 9 (by decide) (hts _ wm763) (fun _ h9 => h9) rfl d_Mo_putOn_4 ?_
  refine gs (pc' := 8) (fun _ _ _ _ _ hl => lv_iload_n hx hb d_Mo_putOn_7 rfl (lv_at hl 3 rfl)) ?_
  refine g_iald hx hb hK 0 hsz rfl (show vp_in (nI o) 9 from vp_in_nI (by omega) (by omega)) d_Mo_putOn_8 ?_
  refine g_eqi (show g (nI o).toNatClampNeg = g o from by rw [nI_clamp (by omega)]) ?_
  refine g_eqi (show g o = nI z from hgo) ?_
  refine gst (pc' := 11) (L' := [(5, .int (nI z)), (4, .int (nI 0)), (0, .ref hm), (1, .int (nI r)), (2, .int (nI o)), (3, .int (nI up))]) (fun _ _ _ _ _ hl => lv_istore hx hb d_Mo_putOn_9 hl (by decide) rfl) ?_
  refine gs (pc' := 12) (fun _ _ _ _ _ hl => lv_iconst (v := nI 0) hx hb d_Mo_putOn_11 (by decide)) ?_
  refine gst (pc' := 14) (L' := [(6, .int (nI 0)), (5, .int (nI z)), (4, .int (nI 0)), (0, .ref hm), (1, .int (nI r)), (2, .int (nI o)), (3, .int (nI up))]) (fun _ _ _ _ _ hl => lv_istore hx hb d_Mo_putOn_12 hl (by decide) rfl) ?_
  refine gsub [0, 1, 2, 3, 4, 5, 6] rfl ?_
  have loop : ∀ (q j cy : Nat) (f1 : Nat → Int32) (Gk : gT), (j + q = z + 1) → (cy ≤ 1) → (lim (sh f1 r) (up + z + 1)) → (dv (dsh (df (sh f1 r)) up) j + cy * 1000000000 ^ j = dv (dsh (df (sh f r)) up) j + dv (dx (sh f o) z) j) → (∀ x, x < up ∨ up + j ≤ x → sh f1 r x = sh f r x) → (oth r f f1) → (gfr (fun x => x = 75) G Gk) → Gk hm = some (70, .inr (9, [.int (I 0), .int (I 1), .ref (A 2), .ref (A 3), .ref (A 4), .ref (A 5), .int (I 6), .int (I 7), .ref (A 8), .ref (A 9), .int (I 10), .ref (A 11), .ref (A 12), .ref (A 13), .int (I 14), .ref (A 15), .ref (A 16), .ref (A 17), .ref (A 18), .int (I 19), .int (I 20), .int (I 21)])) → Gk (A 8) = some (75, .inl (cA 0, 38700, .inl f1)) → Gk (A 9) = some (76, .inl (cA 0, 9, .inl g)) → gV p l e R s m args below meth c D clS lo 9 Q 14 [(6, .int (nI j)), (5, .int (nI z)), (4, .int (nI cy)), (0, .ref hm), (1, .int (nI r)), (2, .int (nI o)), (3, .int (nI up))] [] Gk B := by
    intro q
    induction q with
    | zero =>
      intro j cy f1 Gk hj hcy hl1 hdv hun hot hfr k1 k2 k3
      have hjn : j = z + 1 := by omega
      subst hjn
      rw [dv_dx (Nat.le_succ z)] at hdv
      refine gs (pc' := 16) (fun _ _ _ _ _ hl => lv_iload hx hb d_Mo_putOn_14 (lv_at hl 0 rfl)) ?_
      refine gs (pc' := 18) (fun _ _ _ _ _ hl => lv_iload hx hb d_Mo_putOn_16 (lv_at hl 1 rfl)) ?_
      refine gsb (pc1 := 113) (pc2 := 21) (fun _ _ _ _ _ => lv_icmp_gt (tgt := 113) hx hb d_Mo_putOn_18 (by decide)) (fun c_1 => ?_) (fun c_1 => ?_)
      · skip
        have nc_1 : (z + 1) > z := (nn_gt (a := (z + 1)) (b := z) (by omega) (by omega)).1 c_1
        exact hret 113 _ _ _ d_Mo_putOn_113 hB1 hB2 ⟨rfl, f1, cy, k1, k2, k3, hl1, (fun x9 h9 => hun x9 (by omega)), hot, hdv, hfr⟩
      · skip
        have nc_1 : (z + 1) ≤ z := (nn_gt (a := (z + 1)) (b := z) (by omega) (by omega)).2 c_1
        exact absurd nc_1 (by omega)
    | succ q ih =>
      intro j cy f1 Gk hj hcy hl1 hdv hun hot hfr k1 k2 k3
      obtain ⟨wj, hwj⟩ : ∃ y9, y9 = df (sh f1 r) (up + j) := ⟨_, rfl⟩
      have hwb : wj < 1000000000 := by rw [hwj]; exact (hl1 (up + j) (by omega)).2
      refine gs (pc' := 16) (fun _ _ _ _ _ hl => lv_iload hx hb d_Mo_putOn_14 (lv_at hl 0 rfl)) ?_
      refine gs (pc' := 18) (fun _ _ _ _ _ hl => lv_iload hx hb d_Mo_putOn_16 (lv_at hl 1 rfl)) ?_
      refine gsb (pc1 := 113) (pc2 := 21) (fun _ _ _ _ _ => lv_icmp_gt (tgt := 113) hx hb d_Mo_putOn_18 (by decide)) (fun c_2 => ?_) (fun c_2 => ?_)
      · skip
        have nc_2 : j > z := (nn_gt (a := j) (b := z) (by omega) (by omega)).1 c_2
        exact absurd nc_2 (by omega)
      · skip
        have nc_2 : j ≤ z := (nn_gt (a := j) (b := z) (by omega) (by omega)).2 c_2
        refine gs (pc' := 24) (fun _ _ _ _ _ hl => lv_sipush (v := nI 4300) hx hb d_Mo_putOn_21 (by decide)) ?_
        refine gs (pc' := 25) (fun _ _ _ _ _ hl => lv_iload_n hx hb d_Mo_putOn_24 rfl (lv_at hl 4 rfl)) ?_
        refine gs (pc' := 26) (fun _ _ _ _ _ hl => lv_imul hx hb d_Mo_putOn_25) ?_
        refine g_eqi (show (nI 4300) * (nI r) = nI (4300 * r) from pk_mul _ _) ?_
        refine gs (pc' := 27) (fun _ _ _ _ _ hl => lv_iload_n hx hb d_Mo_putOn_26 rfl (lv_at hl 6 rfl)) ?_
        refine gs (pc' := 28) (fun _ _ _ _ _ hl => lv_iadd hx hb d_Mo_putOn_27) ?_
        refine g_eqi (show (nI (4300 * r)) + (nI up) = nI ((4300 * r) + up) from nI_add _ _) ?_
        refine gs (pc' := 30) (fun _ _ _ _ _ hl => lv_iload hx hb d_Mo_putOn_28 (lv_at hl 0 rfl)) ?_
        refine gs (pc' := 31) (fun _ _ _ _ _ hl => lv_iadd hx hb d_Mo_putOn_30) ?_
        refine g_eqi (show (nI ((4300 * r) + up)) + (nI j) = nI (4300 * r + (up + j)) from (nI_add _ _).trans (congrArg nI (show ((4300 * r) + up) + j = 4300 * r + (up + j) by omega))) ?_
        refine gst (pc' := 33) (L' := [(7, .int (nI (4300 * r + (up + j)))), (6, .int (nI j)), (5, .int (nI z)), (4, .int (nI cy)), (0, .ref hm), (1, .int (nI r)), (2, .int (nI o)), (3, .int (nI up))]) (fun _ _ _ _ _ hl => lv_istore hx hb d_Mo_putOn_31 hl (by decide) rfl) ?_
        refine gs (pc' := 34) (fun _ _ _ _ _ hl => lv_aload_n hx hb d_Mo_putOn_33 rfl (lv_at hl 4 rfl)) ?_
        refine g_get hx hb hts hin_Mo hown hK k1 rfl 8 (by decide) (hts _ wm762) (fun _ h9 => h9) rfl d_Mo_putOn_34 ?_
        refine gs (pc' := 39) (fun _ _ _ _ _ hl => lv_iload hx hb d_Mo_putOn_37 (lv_at hl 0 rfl)) ?_
        refine g_iald hx hb hK 0 k2 rfl (show vp_in (nI (4300 * r + (up + j))) 38700 from vp_in_nI (by omega) (by omega)) d_Mo_putOn_39 ?_
        refine g_eqi (show f1 (nI (4300 * r + (up + j))).toNatClampNeg = f1 (4300 * r + (up + j)) from by rw [nI_clamp (by omega)]) ?_
        refine g_eqi (show f1 (4300 * r + (up + j)) = nI wj from by rw [hwj]; exact (hl1 (up + j) (by omega)).1) ?_
        refine gs (pc' := 42) (fun _ _ _ _ _ hl => lv_iload hx hb d_Mo_putOn_40 (lv_at hl 1 rfl)) ?_
        refine gs (pc' := 44) (fun _ _ _ _ _ hl => lv_iload hx hb d_Mo_putOn_42 (lv_at hl 2 rfl)) ?_
        refine gsb (pc1 := 63) (pc2 := 47) (fun _ _ _ _ _ => lv_icmp_ge (tgt := 63) hx hb d_Mo_putOn_44 (by decide)) (fun c_3 => ?_) (fun c_3 => ?_)
        · skip
          have nc_3 : j ≥ z := (nn_ge (a := j) (b := z) (by omega) (by omega)).1 c_3
          have hdx : 0 = dx (sh f o) z j := (dx_out (by omega)).symm
          refine gs (pc' := 64) (fun _ _ _ _ _ hl => lv_iconst (v := nI 0) hx hb d_Mo_putOn_63 (by decide)) ?_
          refine gs (pc' := 65) (fun _ _ _ _ _ hl => lv_iadd hx hb d_Mo_putOn_64) ?_
          refine g_eqi (show (nI wj) + (nI 0) = nI wj from (nI_add _ _).trans (congrArg nI (show wj + 0 = wj by omega))) ?_
          refine gs (pc' := 67) (fun _ _ _ _ _ hl => lv_iload hx hb d_Mo_putOn_65 (lv_at hl 3 rfl)) ?_
          refine gs (pc' := 68) (fun _ _ _ _ _ hl => lv_iadd hx hb d_Mo_putOn_67) ?_
          refine g_eqi (show (nI wj) + (nI cy) = nI (wj + cy) from nI_add _ _) ?_
          refine gs (pc' := 70) (fun _ _ _ _ _ hl => lv_ldc (v := 1000000000) hx hb hown (hts _ wm867) d_Mo_putOn_68) ?_
          refine g_eqi (show 1000000000 = nI 1000000000 from rfl) ?_
          refine gs (pc' := 71) (fun _ _ _ _ _ hl => lv_isub hx hb d_Mo_putOn_70) ?_
          refine g_eqi (show (nI (wj + cy)) - (nI 1000000000) = iI (((wj + cy : Nat) : Int) - 1000000000) from by rw [nI_iI, nI_iI]; exact iI_sub _ _) ?_
          refine gst (pc' := 73) (L' := [(8, .int (iI (((wj + cy : Nat) : Int) - 1000000000))), (7, .int (nI (4300 * r + (up + j)))), (6, .int (nI j)), (5, .int (nI z)), (4, .int (nI cy)), (0, .ref hm), (1, .int (nI r)), (2, .int (nI o)), (3, .int (nI up))]) (fun _ _ _ _ _ hl => lv_istore hx hb d_Mo_putOn_71 hl (by decide) rfl) ?_
          refine gs (pc' := 75) (fun _ _ _ _ _ hl => lv_iload hx hb d_Mo_putOn_73 (lv_at hl 0 rfl)) ?_
          refine gsb (pc1 := 82) (pc2 := 78) (fun _ _ _ _ _ => lv_if_lt (tgt := 82) hx hb d_Mo_putOn_75 (by decide)) (fun c_4 => ?_) (fun c_4 => ?_)
          · skip
            have nc_4 : (((wj + cy : Nat) : Int) - 1000000000) < 0 := (ii_lt (a := (((wj + cy : Nat) : Int) - 1000000000)) (b := 0) (by omega) (by omega) (by omega) (by omega)).1 (by first | exact c_4 | (have z9 := c_4; simp only [nI_iI] at z9; exact z9))
            refine gs (pc' := 83) (fun _ _ _ _ _ hl => lv_iconst (v := nI 0) hx hb d_Mo_putOn_82 (by decide)) ?_
            refine gst (pc' := 85) (L' := [(4, .int (nI 0)), (8, .int (iI (((wj + cy : Nat) : Int) - 1000000000))), (7, .int (nI (4300 * r + (up + j)))), (6, .int (nI j)), (5, .int (nI z)), (0, .ref hm), (1, .int (nI r)), (2, .int (nI o)), (3, .int (nI up))]) (fun _ _ _ _ _ hl => lv_istore hx hb d_Mo_putOn_83 hl (by decide) rfl) ?_
            refine gs (pc' := 86) (fun _ _ _ _ _ hl => lv_aload_n hx hb d_Mo_putOn_85 rfl (lv_at hl 5 rfl)) ?_
            refine g_get hx hb hts hin_Mo hown hK k1 rfl 8 (by decide) (hts _ wm762) (fun _ h9 => h9) rfl d_Mo_putOn_86 ?_
            refine gs (pc' := 91) (fun _ _ _ _ _ hl => lv_iload hx hb d_Mo_putOn_89 (lv_at hl 2 rfl)) ?_
            refine gs (pc' := 93) (fun _ _ _ _ _ hl => lv_iload hx hb d_Mo_putOn_91 (lv_at hl 1 rfl)) ?_
            refine gsb (pc1 := 101) (pc2 := 96) (fun _ _ _ _ _ => lv_if_lt (tgt := 101) hx hb d_Mo_putOn_93 (by decide)) (fun c_5 => ?_) (fun c_5 => ?_)
            · skip
              have nc_5 : (((wj + cy : Nat) : Int) - 1000000000) < 0 := (ii_lt (a := (((wj + cy : Nat) : Int) - 1000000000)) (b := 0) (by omega) (by omega) (by omega) (by omega)).1 (by first | exact c_5 | (have z9 := c_5; simp only [nI_iI] at z9; exact z9))
              refine gs (pc' := 103) (fun _ _ _ _ _ hl => lv_iload hx hb d_Mo_putOn_101 (lv_at hl 1 rfl)) ?_
              refine gs (pc' := 105) (fun _ _ _ _ _ hl => lv_ldc (v := 1000000000) hx hb hown (hts _ wm867) d_Mo_putOn_103) ?_
              refine g_eqi (show 1000000000 = nI 1000000000 from rfl) ?_
              refine gs (pc' := 106) (fun _ _ _ _ _ hl => lv_iadd hx hb d_Mo_putOn_105) ?_
              refine g_eqi (show (iI (((wj + cy : Nat) : Int) - 1000000000)) + (nI 1000000000) = iI ((((wj + cy : Nat) : Int) - 1000000000) + ((1000000000 : Nat) : Int)) from by rw [nI_iI]; exact iI_add _ _) ?_
              refine g_eqi (show iI ((((wj + cy : Nat) : Int) - 1000000000) + ((1000000000 : Nat) : Int)) = nI (wj + cy) from by rw [nI_iI]; congr 1; omega) ?_
              refine g_iast hx hb hK 0 k2 rfl (show vp_in (nI (4300 * r + (up + j))) 38700 from vp_in_nI (by omega) (by omega)) d_Mo_putOn_106 (fun G_6 f_7 o_8 => ?_)
              rw [nI_clamp (by omega)] at f_7
              have f_9 : G_6 hm = some (70, .inr (9, [.int (I 0), .int (I 1), .ref (A 2), .ref (A 3), .ref (A 4), .ref (A 5), .int (I 6), .int (I 7), .ref (A 8), .ref (A 9), .int (I 10), .ref (A 11), .ref (A 12), .ref (A 13), .int (I 14), .ref (A 15), .ref (A 16), .ref (A 17), .ref (A 18), .int (I 19), .int (I 20), .int (I 21)])) := (o_8 _ (gne k1 k2 (fun e => by cases e))).trans k1
              have f_10 : G_6 (A 9) = some (76, .inl (cA 0, 9, .inl g)) := (o_8 _ (gne k3 k2 (by simp))).trans k3
              refine gst (pc' := 110) (L' := [(6, .int (nI (j + 1))), (4, .int (nI 0)), (8, .int (iI (((wj + cy : Nat) : Int) - 1000000000))), (7, .int (nI (4300 * r + (up + j)))), (5, .int (nI z)), (0, .ref hm), (1, .int (nI r)), (2, .int (nI o)), (3, .int (nI up))]) (fun _ _ _ _ _ hl => lv_iinc (v := nI (j + 1)) hx hb d_Mo_putOn_107 hl (k := 3) rfl (nI_add _ 1) (by decide) rfl) ?_
              refine gs (pc' := 14) (fun _ _ _ _ _ hl => lv_goto (tgt := 14) hx hb d_Mo_putOn_110 (by decide)) ?_
              refine gsub [0, 4, 1, 5, 6, 7, 8] rfl ?_
              have hww : wj = df (sh f r) (up + j) := by rw [hwj]; unfold df; rw [hun (up + j) (by omega)]
              exact ih (j + 1) (0) (upd f1 (4300 * r + (up + j)) (nI (wj + cy))) G_6 (by omega) (by omega) (by rw [sh_us]; exact lim_upd hl1 (by omega)) (by rw [dv_sh (by omega), dv_s, dv_s, ← hdx]; refine st_sum hdv ?_; show df (sh f r) (up + j) + _ + _ = _; rw [← hww]; omega) (fun x9 h9 => by rw [sh_us, pk_un (by omega)]; exact hun x9 (by omega)) (oth_up hot (by omega)) (gfr_put hfr k2 rfl o_8) f_9 f_7 f_10
            · skip
              have nc_5 : (((wj + cy : Nat) : Int) - 1000000000) ≥ 0 := (ii_lt (a := (((wj + cy : Nat) : Int) - 1000000000)) (b := 0) (by omega) (by omega) (by omega) (by omega)).2 (by first | exact c_5 | (have z9 := c_5; simp only [nI_iI] at z9; exact z9))
              exact absurd nc_5 (by omega)
          · skip
            have nc_4 : (((wj + cy : Nat) : Int) - 1000000000) ≥ 0 := (ii_lt (a := (((wj + cy : Nat) : Int) - 1000000000)) (b := 0) (by omega) (by omega) (by omega) (by omega)).2 (by first | exact c_4 | (have z9 := c_4; simp only [nI_iI] at z9; exact z9))
            refine gs (pc' := 79) (fun _ _ _ _ _ hl => lv_iconst (v := nI 1) hx hb d_Mo_putOn_78 (by decide)) ?_
            refine gs (pc' := 83) (fun _ _ _ _ _ hl => lv_goto (tgt := 83) hx hb d_Mo_putOn_79 (by decide)) ?_
            refine gst (pc' := 85) (L' := [(4, .int (nI 1)), (8, .int (iI (((wj + cy : Nat) : Int) - 1000000000))), (7, .int (nI (4300 * r + (up + j)))), (6, .int (nI j)), (5, .int (nI z)), (0, .ref hm), (1, .int (nI r)), (2, .int (nI o)), (3, .int (nI up))]) (fun _ _ _ _ _ hl => lv_istore hx hb d_Mo_putOn_83 hl (by decide) rfl) ?_
            refine gs (pc' := 86) (fun _ _ _ _ _ hl => lv_aload_n hx hb d_Mo_putOn_85 rfl (lv_at hl 5 rfl)) ?_
            refine g_get hx hb hts hin_Mo hown hK k1 rfl 8 (by decide) (hts _ wm762) (fun _ h9 => h9) rfl d_Mo_putOn_86 ?_
            refine gs (pc' := 91) (fun _ _ _ _ _ hl => lv_iload hx hb d_Mo_putOn_89 (lv_at hl 2 rfl)) ?_
            refine gs (pc' := 93) (fun _ _ _ _ _ hl => lv_iload hx hb d_Mo_putOn_91 (lv_at hl 1 rfl)) ?_
            refine gsb (pc1 := 101) (pc2 := 96) (fun _ _ _ _ _ => lv_if_lt (tgt := 101) hx hb d_Mo_putOn_93 (by decide)) (fun c_11 => ?_) (fun c_11 => ?_)
            · skip
              have nc_11 : (((wj + cy : Nat) : Int) - 1000000000) < 0 := (ii_lt (a := (((wj + cy : Nat) : Int) - 1000000000)) (b := 0) (by omega) (by omega) (by omega) (by omega)).1 (by first | exact c_11 | (have z9 := c_11; simp only [nI_iI] at z9; exact z9))
              exact absurd nc_11 (by omega)
            · skip
              have nc_11 : (((wj + cy : Nat) : Int) - 1000000000) ≥ 0 := (ii_lt (a := (((wj + cy : Nat) : Int) - 1000000000)) (b := 0) (by omega) (by omega) (by omega) (by omega)).2 (by first | exact c_11 | (have z9 := c_11; simp only [nI_iI] at z9; exact z9))
              refine gs (pc' := 98) (fun _ _ _ _ _ hl => lv_iload hx hb d_Mo_putOn_96 (lv_at hl 1 rfl)) ?_
              refine gs (pc' := 106) (fun _ _ _ _ _ hl => lv_goto (tgt := 106) hx hb d_Mo_putOn_98 (by decide)) ?_
              refine g_eqi (show iI (((wj + cy : Nat) : Int) - 1000000000) = nI (wj + cy - 1000000000) from by rw [nI_iI]; congr 1; omega) ?_
              refine g_iast hx hb hK 0 k2 rfl (show vp_in (nI (4300 * r + (up + j))) 38700 from vp_in_nI (by omega) (by omega)) d_Mo_putOn_106 (fun G_12 f_13 o_14 => ?_)
              rw [nI_clamp (by omega)] at f_13
              have f_15 : G_12 hm = some (70, .inr (9, [.int (I 0), .int (I 1), .ref (A 2), .ref (A 3), .ref (A 4), .ref (A 5), .int (I 6), .int (I 7), .ref (A 8), .ref (A 9), .int (I 10), .ref (A 11), .ref (A 12), .ref (A 13), .int (I 14), .ref (A 15), .ref (A 16), .ref (A 17), .ref (A 18), .int (I 19), .int (I 20), .int (I 21)])) := (o_14 _ (gne k1 k2 (fun e => by cases e))).trans k1
              have f_16 : G_12 (A 9) = some (76, .inl (cA 0, 9, .inl g)) := (o_14 _ (gne k3 k2 (by simp))).trans k3
              refine gst (pc' := 110) (L' := [(6, .int (nI (j + 1))), (4, .int (nI 1)), (8, .int (iI (((wj + cy : Nat) : Int) - 1000000000))), (7, .int (nI (4300 * r + (up + j)))), (5, .int (nI z)), (0, .ref hm), (1, .int (nI r)), (2, .int (nI o)), (3, .int (nI up))]) (fun _ _ _ _ _ hl => lv_iinc (v := nI (j + 1)) hx hb d_Mo_putOn_107 hl (k := 3) rfl (nI_add _ 1) (by decide) rfl) ?_
              refine gs (pc' := 14) (fun _ _ _ _ _ hl => lv_goto (tgt := 14) hx hb d_Mo_putOn_110 (by decide)) ?_
              refine gsub [0, 4, 1, 5, 6, 7, 8] rfl ?_
              have hww : wj = df (sh f r) (up + j) := by rw [hwj]; unfold df; rw [hun (up + j) (by omega)]
              exact ih (j + 1) (1) (upd f1 (4300 * r + (up + j)) (nI (wj + cy - 1000000000))) G_12 (by omega) (by omega) (by rw [sh_us]; exact lim_upd hl1 (by omega)) (by rw [dv_sh (by omega), dv_s, dv_s, ← hdx]; refine st_sum hdv ?_; show df (sh f r) (up + j) + _ + _ = _; rw [← hww]; omega) (fun x9 h9 => by rw [sh_us, pk_un (by omega)]; exact hun x9 (by omega)) (oth_up hot (by omega)) (gfr_put hfr k2 rfl o_14) f_15 f_13 f_16
        · skip
          have nc_3 : j < z := (nn_ge (a := j) (b := z) (by omega) (by omega)).2 c_3
          obtain ⟨dj, hdj⟩ : ∃ y9, y9 = df (sh f o) j := ⟨_, rfl⟩
          have hdx : dj = dx (sh f o) z j := by rw [hdj]; exact (dx_in (by omega)).symm
          have hdb : dj < 1000000000 := by rw [hdj]; exact (hlo2 j (by omega)).2
          refine gs (pc' := 48) (fun _ _ _ _ _ hl => lv_aload_n hx hb d_Mo_putOn_47 rfl (lv_at hl 4 rfl)) ?_
          refine g_get hx hb hts hin_Mo hown hK k1 rfl 8 (by decide) (hts _ wm762) (fun _ h9 => h9) rfl d_Mo_putOn_48 ?_
          refine gs (pc' := 54) (fun _ _ _ _ _ hl => lv_sipush (v := nI 4300) hx hb d_Mo_putOn_51 (by decide)) ?_
          refine gs (pc' := 55) (fun _ _ _ _ _ hl => lv_iload_n hx hb d_Mo_putOn_54 rfl (lv_at hl 6 rfl)) ?_
          refine gs (pc' := 56) (fun _ _ _ _ _ hl => lv_imul hx hb d_Mo_putOn_55) ?_
          refine g_eqi (show (nI 4300) * (nI o) = nI (4300 * o) from pk_mul _ _) ?_
          refine gs (pc' := 58) (fun _ _ _ _ _ hl => lv_iload hx hb d_Mo_putOn_56 (lv_at hl 1 rfl)) ?_
          refine gs (pc' := 59) (fun _ _ _ _ _ hl => lv_iadd hx hb d_Mo_putOn_58) ?_
          refine g_eqi (show (nI (4300 * o)) + (nI j) = nI ((4300 * o) + j) from nI_add _ _) ?_
          refine g_iald hx hb hK 0 k2 rfl (show vp_in (nI ((4300 * o) + j)) 38700 from vp_in_nI (by omega) (by omega)) d_Mo_putOn_59 ?_
          refine g_eqi (show f1 (nI ((4300 * o) + j)).toNatClampNeg = f1 ((4300 * o) + j) from by rw [nI_clamp (by omega)]) ?_
          refine g_eqi (show f1 ((4300 * o) + j) = nI dj from by rw [hdj]; exact (hot o hro j (by omega)).trans (hlo2 j (by omega)).1) ?_
          refine gs (pc' := 64) (fun _ _ _ _ _ hl => lv_goto (tgt := 64) hx hb d_Mo_putOn_60 (by decide)) ?_
          refine gs (pc' := 65) (fun _ _ _ _ _ hl => lv_iadd hx hb d_Mo_putOn_64) ?_
          refine g_eqi (show (nI wj) + (nI dj) = nI (wj + dj) from nI_add _ _) ?_
          refine gs (pc' := 67) (fun _ _ _ _ _ hl => lv_iload hx hb d_Mo_putOn_65 (lv_at hl 3 rfl)) ?_
          refine gs (pc' := 68) (fun _ _ _ _ _ hl => lv_iadd hx hb d_Mo_putOn_67) ?_
          refine g_eqi (show (nI (wj + dj)) + (nI cy) = nI ((wj + dj) + cy) from nI_add _ _) ?_
          refine gs (pc' := 70) (fun _ _ _ _ _ hl => lv_ldc (v := 1000000000) hx hb hown (hts _ wm867) d_Mo_putOn_68) ?_
          refine g_eqi (show 1000000000 = nI 1000000000 from rfl) ?_
          refine gs (pc' := 71) (fun _ _ _ _ _ hl => lv_isub hx hb d_Mo_putOn_70) ?_
          refine g_eqi (show (nI ((wj + dj) + cy)) - (nI 1000000000) = iI ((((wj + dj) + cy : Nat) : Int) - 1000000000) from by rw [nI_iI, nI_iI]; exact iI_sub _ _) ?_
          refine gst (pc' := 73) (L' := [(8, .int (iI ((((wj + dj) + cy : Nat) : Int) - 1000000000))), (7, .int (nI (4300 * r + (up + j)))), (6, .int (nI j)), (5, .int (nI z)), (4, .int (nI cy)), (0, .ref hm), (1, .int (nI r)), (2, .int (nI o)), (3, .int (nI up))]) (fun _ _ _ _ _ hl => lv_istore hx hb d_Mo_putOn_71 hl (by decide) rfl) ?_
          refine gs (pc' := 75) (fun _ _ _ _ _ hl => lv_iload hx hb d_Mo_putOn_73 (lv_at hl 0 rfl)) ?_
          refine gsb (pc1 := 82) (pc2 := 78) (fun _ _ _ _ _ => lv_if_lt (tgt := 82) hx hb d_Mo_putOn_75 (by decide)) (fun c_17 => ?_) (fun c_17 => ?_)
          · skip
            have nc_17 : ((((wj + dj) + cy : Nat) : Int) - 1000000000) < 0 := (ii_lt (a := ((((wj + dj) + cy : Nat) : Int) - 1000000000)) (b := 0) (by omega) (by omega) (by omega) (by omega)).1 (by first | exact c_17 | (have z9 := c_17; simp only [nI_iI] at z9; exact z9))
            refine gs (pc' := 83) (fun _ _ _ _ _ hl => lv_iconst (v := nI 0) hx hb d_Mo_putOn_82 (by decide)) ?_
            refine gst (pc' := 85) (L' := [(4, .int (nI 0)), (8, .int (iI ((((wj + dj) + cy : Nat) : Int) - 1000000000))), (7, .int (nI (4300 * r + (up + j)))), (6, .int (nI j)), (5, .int (nI z)), (0, .ref hm), (1, .int (nI r)), (2, .int (nI o)), (3, .int (nI up))]) (fun _ _ _ _ _ hl => lv_istore hx hb d_Mo_putOn_83 hl (by decide) rfl) ?_
            refine gs (pc' := 86) (fun _ _ _ _ _ hl => lv_aload_n hx hb d_Mo_putOn_85 rfl (lv_at hl 5 rfl)) ?_
            refine g_get hx hb hts hin_Mo hown hK k1 rfl 8 (by decide) (hts _ wm762) (fun _ h9 => h9) rfl d_Mo_putOn_86 ?_
            refine gs (pc' := 91) (fun _ _ _ _ _ hl => lv_iload hx hb d_Mo_putOn_89 (lv_at hl 2 rfl)) ?_
            refine gs (pc' := 93) (fun _ _ _ _ _ hl => lv_iload hx hb d_Mo_putOn_91 (lv_at hl 1 rfl)) ?_
            refine gsb (pc1 := 101) (pc2 := 96) (fun _ _ _ _ _ => lv_if_lt (tgt := 101) hx hb d_Mo_putOn_93 (by decide)) (fun c_18 => ?_) (fun c_18 => ?_)
            · skip
              have nc_18 : ((((wj + dj) + cy : Nat) : Int) - 1000000000) < 0 := (ii_lt (a := ((((wj + dj) + cy : Nat) : Int) - 1000000000)) (b := 0) (by omega) (by omega) (by omega) (by omega)).1 (by first | exact c_18 | (have z9 := c_18; simp only [nI_iI] at z9; exact z9))
              refine gs (pc' := 103) (fun _ _ _ _ _ hl => lv_iload hx hb d_Mo_putOn_101 (lv_at hl 1 rfl)) ?_
              refine gs (pc' := 105) (fun _ _ _ _ _ hl => lv_ldc (v := 1000000000) hx hb hown (hts _ wm867) d_Mo_putOn_103) ?_
              refine g_eqi (show 1000000000 = nI 1000000000 from rfl) ?_
              refine gs (pc' := 106) (fun _ _ _ _ _ hl => lv_iadd hx hb d_Mo_putOn_105) ?_
              refine g_eqi (show (iI ((((wj + dj) + cy : Nat) : Int) - 1000000000)) + (nI 1000000000) = iI (((((wj + dj) + cy : Nat) : Int) - 1000000000) + ((1000000000 : Nat) : Int)) from by rw [nI_iI]; exact iI_add _ _) ?_
              refine g_eqi (show iI (((((wj + dj) + cy : Nat) : Int) - 1000000000) + ((1000000000 : Nat) : Int)) = nI ((wj + dj) + cy) from by rw [nI_iI]; congr 1; omega) ?_
              refine g_iast hx hb hK 0 k2 rfl (show vp_in (nI (4300 * r + (up + j))) 38700 from vp_in_nI (by omega) (by omega)) d_Mo_putOn_106 (fun G_19 f_20 o_21 => ?_)
              rw [nI_clamp (by omega)] at f_20
              have f_22 : G_19 hm = some (70, .inr (9, [.int (I 0), .int (I 1), .ref (A 2), .ref (A 3), .ref (A 4), .ref (A 5), .int (I 6), .int (I 7), .ref (A 8), .ref (A 9), .int (I 10), .ref (A 11), .ref (A 12), .ref (A 13), .int (I 14), .ref (A 15), .ref (A 16), .ref (A 17), .ref (A 18), .int (I 19), .int (I 20), .int (I 21)])) := (o_21 _ (gne k1 k2 (fun e => by cases e))).trans k1
              have f_23 : G_19 (A 9) = some (76, .inl (cA 0, 9, .inl g)) := (o_21 _ (gne k3 k2 (by simp))).trans k3
              refine gst (pc' := 110) (L' := [(6, .int (nI (j + 1))), (4, .int (nI 0)), (8, .int (iI ((((wj + dj) + cy : Nat) : Int) - 1000000000))), (7, .int (nI (4300 * r + (up + j)))), (5, .int (nI z)), (0, .ref hm), (1, .int (nI r)), (2, .int (nI o)), (3, .int (nI up))]) (fun _ _ _ _ _ hl => lv_iinc (v := nI (j + 1)) hx hb d_Mo_putOn_107 hl (k := 3) rfl (nI_add _ 1) (by decide) rfl) ?_
              refine gs (pc' := 14) (fun _ _ _ _ _ hl => lv_goto (tgt := 14) hx hb d_Mo_putOn_110 (by decide)) ?_
              refine gsub [0, 4, 1, 5, 6, 7, 8] rfl ?_
              have hww : wj = df (sh f r) (up + j) := by rw [hwj]; unfold df; rw [hun (up + j) (by omega)]
              exact ih (j + 1) (0) (upd f1 (4300 * r + (up + j)) (nI ((wj + dj) + cy))) G_19 (by omega) (by omega) (by rw [sh_us]; exact lim_upd hl1 (by omega)) (by rw [dv_sh (by omega), dv_s, dv_s, ← hdx]; refine st_sum hdv ?_; show df (sh f r) (up + j) + _ + _ = _; rw [← hww]; omega) (fun x9 h9 => by rw [sh_us, pk_un (by omega)]; exact hun x9 (by omega)) (oth_up hot (by omega)) (gfr_put hfr k2 rfl o_21) f_22 f_20 f_23
            · skip
              have nc_18 : ((((wj + dj) + cy : Nat) : Int) - 1000000000) ≥ 0 := (ii_lt (a := ((((wj + dj) + cy : Nat) : Int) - 1000000000)) (b := 0) (by omega) (by omega) (by omega) (by omega)).2 (by first | exact c_18 | (have z9 := c_18; simp only [nI_iI] at z9; exact z9))
              exact absurd nc_18 (by omega)
          · skip
            have nc_17 : ((((wj + dj) + cy : Nat) : Int) - 1000000000) ≥ 0 := (ii_lt (a := ((((wj + dj) + cy : Nat) : Int) - 1000000000)) (b := 0) (by omega) (by omega) (by omega) (by omega)).2 (by first | exact c_17 | (have z9 := c_17; simp only [nI_iI] at z9; exact z9))
            refine gs (pc' := 79) (fun _ _ _ _ _ hl => lv_iconst (v := nI 1) hx hb d_Mo_putOn_78 (by decide)) ?_
            refine gs (pc' := 83) (fun _ _ _ _ _ hl => lv_goto (tgt := 83) hx hb d_Mo_putOn_79 (by decide)) ?_
            refine gst (pc' := 85) (L' := [(4, .int (nI 1)), (8, .int (iI ((((wj + dj) + cy : Nat) : Int) - 1000000000))), (7, .int (nI (4300 * r + (up + j)))), (6, .int (nI j)), (5, .int (nI z)), (0, .ref hm), (1, .int (nI r)), (2, .int (nI o)), (3, .int (nI up))]) (fun _ _ _ _ _ hl => lv_istore hx hb d_Mo_putOn_83 hl (by decide) rfl) ?_
            refine gs (pc' := 86) (fun _ _ _ _ _ hl => lv_aload_n hx hb d_Mo_putOn_85 rfl (lv_at hl 5 rfl)) ?_
            refine g_get hx hb hts hin_Mo hown hK k1 rfl 8 (by decide) (hts _ wm762) (fun _ h9 => h9) rfl d_Mo_putOn_86 ?_
            refine gs (pc' := 91) (fun _ _ _ _ _ hl => lv_iload hx hb d_Mo_putOn_89 (lv_at hl 2 rfl)) ?_
            refine gs (pc' := 93) (fun _ _ _ _ _ hl => lv_iload hx hb d_Mo_putOn_91 (lv_at hl 1 rfl)) ?_
            refine gsb (pc1 := 101) (pc2 := 96) (fun _ _ _ _ _ => lv_if_lt (tgt := 101) hx hb d_Mo_putOn_93 (by decide)) (fun c_24 => ?_) (fun c_24 => ?_)
            · skip
              have nc_24 : ((((wj + dj) + cy : Nat) : Int) - 1000000000) < 0 := (ii_lt (a := ((((wj + dj) + cy : Nat) : Int) - 1000000000)) (b := 0) (by omega) (by omega) (by omega) (by omega)).1 (by first | exact c_24 | (have z9 := c_24; simp only [nI_iI] at z9; exact z9))
              exact absurd nc_24 (by omega)
            · skip
              have nc_24 : ((((wj + dj) + cy : Nat) : Int) - 1000000000) ≥ 0 := (ii_lt (a := ((((wj + dj) + cy : Nat) : Int) - 1000000000)) (b := 0) (by omega) (by omega) (by omega) (by omega)).2 (by first | exact c_24 | (have z9 := c_24; simp only [nI_iI] at z9; exact z9))
              refine gs (pc' := 98) (fun _ _ _ _ _ hl => lv_iload hx hb d_Mo_putOn_96 (lv_at hl 1 rfl)) ?_
              refine gs (pc' := 106) (fun _ _ _ _ _ hl => lv_goto (tgt := 106) hx hb d_Mo_putOn_98 (by decide)) ?_
              refine g_eqi (show iI ((((wj + dj) + cy : Nat) : Int) - 1000000000) = nI ((wj + dj) + cy - 1000000000) from by rw [nI_iI]; congr 1; omega) ?_
              refine g_iast hx hb hK 0 k2 rfl (show vp_in (nI (4300 * r + (up + j))) 38700 from vp_in_nI (by omega) (by omega)) d_Mo_putOn_106 (fun G_25 f_26 o_27 => ?_)
              rw [nI_clamp (by omega)] at f_26
              have f_28 : G_25 hm = some (70, .inr (9, [.int (I 0), .int (I 1), .ref (A 2), .ref (A 3), .ref (A 4), .ref (A 5), .int (I 6), .int (I 7), .ref (A 8), .ref (A 9), .int (I 10), .ref (A 11), .ref (A 12), .ref (A 13), .int (I 14), .ref (A 15), .ref (A 16), .ref (A 17), .ref (A 18), .int (I 19), .int (I 20), .int (I 21)])) := (o_27 _ (gne k1 k2 (fun e => by cases e))).trans k1
              have f_29 : G_25 (A 9) = some (76, .inl (cA 0, 9, .inl g)) := (o_27 _ (gne k3 k2 (by simp))).trans k3
              refine gst (pc' := 110) (L' := [(6, .int (nI (j + 1))), (4, .int (nI 1)), (8, .int (iI ((((wj + dj) + cy : Nat) : Int) - 1000000000))), (7, .int (nI (4300 * r + (up + j)))), (5, .int (nI z)), (0, .ref hm), (1, .int (nI r)), (2, .int (nI o)), (3, .int (nI up))]) (fun _ _ _ _ _ hl => lv_iinc (v := nI (j + 1)) hx hb d_Mo_putOn_107 hl (k := 3) rfl (nI_add _ 1) (by decide) rfl) ?_
              refine gs (pc' := 14) (fun _ _ _ _ _ hl => lv_goto (tgt := 14) hx hb d_Mo_putOn_110 (by decide)) ?_
              refine gsub [0, 4, 1, 5, 6, 7, 8] rfl ?_
              have hww : wj = df (sh f r) (up + j) := by rw [hwj]; unfold df; rw [hun (up + j) (by omega)]
              exact ih (j + 1) (1) (upd f1 (4300 * r + (up + j)) (nI ((wj + dj) + cy - 1000000000))) G_25 (by omega) (by omega) (by rw [sh_us]; exact lim_upd hl1 (by omega)) (by rw [dv_sh (by omega), dv_s, dv_s, ← hdx]; refine st_sum hdv ?_; show df (sh f r) (up + j) + _ + _ = _; rw [← hww]; omega) (fun x9 h9 => by rw [sh_us, pk_un (by omega)]; exact hun x9 (by omega)) (oth_up hot (by omega)) (gfr_put hfr k2 rfl o_27) f_28 f_26 f_29
  exact loop (z + 1) 0 0 f G (by omega) (by omega) hlr (by simp [dv_0]) (fun _ _ => rfl) oth_rf gfr_rf hob hlm hsz
