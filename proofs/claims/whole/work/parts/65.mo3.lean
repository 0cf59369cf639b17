set_option maxHeartbeats 4000000 in
set_option maxRecDepth 100000 in
theorem c_Mo_compare (l : Launch) (D : va_G) (cA : Nat → ClassId) (lo MC MS : Nat) (G : gT) (B : Nat × Nat) (hm : Nat) (A : Nat → Nat) (I : Nat → Int32) (hob : G hm = some (70, .inr (9, mfs A I))) (Rg : Nat → Nat) (hR : MR cA A Rg G) (r : Nat) (hb_r : r < 9) (o : Nat) (hb_o : o < 9) (hB1 : B.1 ≤ MC) (hB2 : B.2 ≤ MS) : gMet l y_Mo_compare w_Mo_compare 0 0 D clS (gtys cA) lo MC MS [.ref hm, .int (nI r), .int (nI o)] G B (gQi D clS lo (fun r9 u => u = (G, B) ∧ ((r9 = -1 ∧ Rg r < Rg o) ∨ (r9 = nI 0 ∧ Rg r = Rg o) ∨ (r9 = nI 1 ∧ Rg o < Rg r)))) := by
  refine g_meti (cc := prog_11_method_7_code) (nL := 4) (L := [(0, .ref hm), (1, .int (nI r)), (2, .int (nI o))]) (by decide +kernel) rfl (Nat.le_of_ble_eq_true rfl) rfl ?_
  intro p e R s m args below meth c Q hF hRc hRs hRf hRl hret
  obtain ⟨hx, hb, hr, hml, hts0, hown, hlocks, hin, hK, hlo, hZ⟩ := hF
  have hts : ∀ w ∈ tbg, w.before args s = true := fun w h => hts0 w (List.mem_cons_of_mem _ h)
  obtain ⟨f, g, hlm, hsz, hRG⟩ := hR
  obtain ⟨zr, hgr, hzr, hDr⟩ := hRG r hb_r
  obtain ⟨zo, hgo, hzo, hDo⟩ := hRG o hb_o
  have hlr := hDr.1
  have hlo2 := hDo.1
  refine gs (pc' := 1) (fun _ _ _ _ _ hl => lv_aload_n hx hb d_Mo_compare_0 rfl (lv_at hl 0 rfl)) ?_
  refine g_get hx hb hts hin_Mo hown hK hob rfl 9 (by decide) (hts _ wm763) (fun _ h9 => h9) rfl d_Mo_compare_1 ?_
  refine gs (pc' := 5) (fun _ _ _ _ _ hl => lv_iload_n hx hb d_Mo_compare_4 rfl (lv_at hl 1 rfl)) ?_
  refine g_iald hx hb hK 0 hsz rfl (show vp_in (nI r) 9 from vp_in_nI (by omega) (by omega)) d_Mo_compare_5 ?_
  refine g_eqi (show g (nI r).toNatClampNeg = g r from by rw [nI_clamp (by omega)]) ?_
  refine g_eqi (show g r = nI zr from hgr) ?_
  refine gs (pc' := 7) (fun _ _ _ _ _ hl => lv_aload_n hx hb d_Mo_compare_6 rfl (lv_at hl 0 rfl)) ?_
  refine g_get hx hb hts hin_Mo hown hK hob rfl 9 (by decide) (hts _ wm763) (fun _ h9 => h9) rfl d_Mo_compare_7 ?_
  refine gs (pc' := 11) (fun _ _ _ _ _ hl => lv_iload_n hx hb d_Mo_compare_10 rfl (lv_at hl 2 rfl)) ?_
  refine g_iald hx hb hK 0 hsz rfl (show vp_in (nI o) 9 from vp_in_nI (by omega) (by omega)) d_Mo_compare_11 ?_
  refine g_eqi (show g (nI o).toNatClampNeg = g o from by rw [nI_clamp (by omega)]) ?_
  refine g_eqi (show g o = nI zo from hgo) ?_
  refine gsb (pc1 := 36) (pc2 := 15) (fun _ _ _ _ _ => lv_icmp_eq (tgt := 36) hx hb d_Mo_compare_12 (by decide)) (fun c_1 => ?_) (fun c_1 => ?_)
  · skip
    have nc_1 : zr = zo := (nn_eq (a := zr) (b := zo) (by omega) (by omega)).1 c_1
    have hzz : zr = zo := nc_1
    refine gs (pc' := 37) (fun _ _ _ _ _ hl => lv_aload_n hx hb d_Mo_compare_36 rfl (lv_at hl 0 rfl)) ?_
    refine g_get hx hb hts hin_Mo hown hK hob rfl 9 (by decide) (hts _ wm763) (fun _ h9 => h9) rfl d_Mo_compare_37 ?_
    refine gs (pc' := 41) (fun _ _ _ _ _ hl => lv_iload_n hx hb d_Mo_compare_40 rfl (lv_at hl 1 rfl)) ?_
    refine g_iald hx hb hK 0 hsz rfl (show vp_in (nI r) 9 from vp_in_nI (by omega) (by omega)) d_Mo_compare_41 ?_
    refine g_eqi (show g (nI r).toNatClampNeg = g r from by rw [nI_clamp (by omega)]) ?_
    refine g_eqi (show g r = nI zr from hgr) ?_
    refine gs (pc' := 43) (fun _ _ _ _ _ hl => lv_iconst (v := nI 1) hx hb d_Mo_compare_42 (by decide)) ?_
    refine gs (pc' := 44) (fun _ _ _ _ _ hl => lv_isub hx hb d_Mo_compare_43) ?_
    refine gst (pc' := 45) (L' := [(3, .int ((nI zr) - (nI 1))), (0, .ref hm), (1, .int (nI r)), (2, .int (nI o))]) (fun _ _ _ _ _ hl => lv_istore_n hx hb d_Mo_compare_44 rfl hl (by decide) rfl) ?_
    refine gsub [0, 1, 2, 3] rfl ?_
    have loop : ∀ (j : Nat), j ≤ zr → (∀ x, j ≤ x → x < zr → df (sh f r) x = df (sh f o) x) → ∀ (iv : Int32), iv + nI 1 = nI j → gV p l e R s m args below meth c D clS lo 4 Q 45 [(3, .int iv), (0, .ref hm), (1, .int (nI r)), (2, .int (nI o))] [] G B := by
      intro j
      induction j with
      | zero =>
        intro hj hsame iv hiv
        have hm1 := iv_0 hiv
        subst hm1
        refine gs (pc' := 46) (fun _ _ _ _ _ hl => lv_iload_n hx hb d_Mo_compare_45 rfl (lv_at hl 0 rfl)) ?_
        refine gsb (pc1 := 82) (pc2 := 49) (fun _ _ _ _ _ => lv_if_lt (tgt := 82) hx hb d_Mo_compare_46 (by decide)) (fun c_2 => ?_) (fun c_2 => ?_)
        · skip
          refine gs (pc' := 83) (fun _ _ _ _ _ hl => lv_iload_n hx hb d_Mo_compare_82 rfl (lv_at hl 0 rfl)) ?_
          refine gsb (pc1 := 90) (pc2 := 86) (fun _ _ _ _ _ => lv_if_ge (tgt := 90) hx hb d_Mo_compare_83 (by decide)) (fun c_3 => ?_) (fun c_3 => ?_)
          · skip
            exact absurd c_3 (by decide)
          · skip
            refine gs (pc' := 87) (fun _ _ _ _ _ hl => lv_iconst (v := nI 0) hx hb d_Mo_compare_86 (by decide)) ?_
            refine gs (pc' := 122) (fun _ _ _ _ _ hl => lv_goto (tgt := 122) hx hb d_Mo_compare_87 (by decide)) ?_
            exact hret 122 _ _ _ _ d_Mo_compare_122 hB1 hB2 ⟨rfl, Or.inr (Or.inl ⟨rfl, by rw [← hDr.2.2, ← hDo.2.2, ← hzz]; exact dv_congr (fun i hi => hsame i (Nat.zero_le i) hi)⟩)⟩
        · skip
          exact absurd (show (-1 : Int32) < 0 by decide) c_2
      | succ j ih =>
        intro hj hsame iv hiv
        have hm1 := iv_s hiv
        subst hm1
        have hbr := (hlr j (by omega)).2
        have hbo := (hlo2 j (by omega)).2
        refine gs (pc' := 46) (fun _ _ _ _ _ hl => lv_iload_n hx hb d_Mo_compare_45 rfl (lv_at hl 0 rfl)) ?_
        refine gsb (pc1 := 82) (pc2 := 49) (fun _ _ _ _ _ => lv_if_lt (tgt := 82) hx hb d_Mo_compare_46 (by decide)) (fun c_4 => ?_) (fun c_4 => ?_)
        · skip
          have nc_4 : j < 0 := (n0_lt (a := j) (by omega)).1 c_4
          exact absurd nc_4 (by omega)
        · skip
          have nc_4 : j ≥ 0 := (n0_lt (a := j) (by omega)).2 c_4
          refine gs (pc' := 50) (fun _ _ _ _ _ hl => lv_aload_n hx hb d_Mo_compare_49 rfl (lv_at hl 1 rfl)) ?_
          refine g_get hx hb hts hin_Mo hown hK hob rfl 8 (by decide) (hts _ wm762) (fun _ h9 => h9) rfl d_Mo_compare_50 ?_
          refine gs (pc' := 56) (fun _ _ _ _ _ hl => lv_sipush (v := nI 4300) hx hb d_Mo_compare_53 (by decide)) ?_
          refine gs (pc' := 57) (fun _ _ _ _ _ hl => lv_iload_n hx hb d_Mo_compare_56 rfl (lv_at hl 2 rfl)) ?_
          refine gs (pc' := 58) (fun _ _ _ _ _ hl => lv_imul hx hb d_Mo_compare_57) ?_
          refine g_eqi (show (nI 4300) * (nI r) = nI (4300 * r) from pk_mul _ _) ?_
          refine gs (pc' := 59) (fun _ _ _ _ _ hl => lv_iload_n hx hb d_Mo_compare_58 rfl (lv_at hl 0 rfl)) ?_
          refine gs (pc' := 60) (fun _ _ _ _ _ hl => lv_iadd hx hb d_Mo_compare_59) ?_
          refine g_eqi (show (nI (4300 * r)) + (nI j) = nI ((4300 * r) + j) from nI_add _ _) ?_
          refine g_iald hx hb hK 0 hlm rfl (show vp_in (nI ((4300 * r) + j)) 38700 from vp_in_nI (by omega) (by omega)) d_Mo_compare_60 ?_
          refine g_eqi (show f (nI ((4300 * r) + j)).toNatClampNeg = f ((4300 * r) + j) from by rw [nI_clamp (by omega)]) ?_
          refine g_eqi (show f ((4300 * r) + j) = nI (df (sh f r) j) from (hlr j (by omega)).1) ?_
          refine gs (pc' := 62) (fun _ _ _ _ _ hl => lv_aload_n hx hb d_Mo_compare_61 rfl (lv_at hl 1 rfl)) ?_
          refine g_get hx hb hts hin_Mo hown hK hob rfl 8 (by decide) (hts _ wm762) (fun _ h9 => h9) rfl d_Mo_compare_62 ?_
          refine gs (pc' := 68) (fun _ _ _ _ _ hl => lv_sipush (v := nI 4300) hx hb d_Mo_compare_65 (by decide)) ?_
          refine gs (pc' := 69) (fun _ _ _ _ _ hl => lv_iload_n hx hb d_Mo_compare_68 rfl (lv_at hl 3 rfl)) ?_
          refine gs (pc' := 70) (fun _ _ _ _ _ hl => lv_imul hx hb d_Mo_compare_69) ?_
          refine g_eqi (show (nI 4300) * (nI o) = nI (4300 * o) from pk_mul _ _) ?_
          refine gs (pc' := 71) (fun _ _ _ _ _ hl => lv_iload_n hx hb d_Mo_compare_70 rfl (lv_at hl 0 rfl)) ?_
          refine gs (pc' := 72) (fun _ _ _ _ _ hl => lv_iadd hx hb d_Mo_compare_71) ?_
          refine g_eqi (show (nI (4300 * o)) + (nI j) = nI ((4300 * o) + j) from nI_add _ _) ?_
          refine g_iald hx hb hK 0 hlm rfl (show vp_in (nI ((4300 * o) + j)) 38700 from vp_in_nI (by omega) (by omega)) d_Mo_compare_72 ?_
          refine g_eqi (show f (nI ((4300 * o) + j)).toNatClampNeg = f ((4300 * o) + j) from by rw [nI_clamp (by omega)]) ?_
          refine g_eqi (show f ((4300 * o) + j) = nI (df (sh f o) j) from (hlo2 j (by omega)).1) ?_
          refine gsb (pc1 := 82) (pc2 := 76) (fun _ _ _ _ _ => lv_icmp_ne (tgt := 82) hx hb d_Mo_compare_73 (by decide)) (fun c_5 => ?_) (fun c_5 => ?_)
          · skip
            have nc_5 : (df (sh f r) j) ≠ (df (sh f o) j) := (nn_ne (a := (df (sh f r) j)) (b := (df (sh f o) j)) (by omega) (by omega)).1 c_5
            refine gs (pc' := 83) (fun _ _ _ _ _ hl => lv_iload_n hx hb d_Mo_compare_82 rfl (lv_at hl 0 rfl)) ?_
            refine gsb (pc1 := 90) (pc2 := 86) (fun _ _ _ _ _ => lv_if_ge (tgt := 90) hx hb d_Mo_compare_83 (by decide)) (fun c_6 => ?_) (fun c_6 => ?_)
            · skip
              have nc_6 : j ≥ 0 := (n0_ge (a := j) (by omega)).1 c_6
              refine gs (pc' := 91) (fun _ _ _ _ _ hl => lv_aload_n hx hb d_Mo_compare_90 rfl (lv_at hl 1 rfl)) ?_
              refine g_get hx hb hts hin_Mo hown hK hob rfl 8 (by decide) (hts _ wm762) (fun _ h9 => h9) rfl d_Mo_compare_91 ?_
              refine gs (pc' := 97) (fun _ _ _ _ _ hl => lv_sipush (v := nI 4300) hx hb d_Mo_compare_94 (by decide)) ?_
              refine gs (pc' := 98) (fun _ _ _ _ _ hl => lv_iload_n hx hb d_Mo_compare_97 rfl (lv_at hl 2 rfl)) ?_
              refine gs (pc' := 99) (fun _ _ _ _ _ hl => lv_imul hx hb d_Mo_compare_98) ?_
              refine g_eqi (show (nI 4300) * (nI r) = nI (4300 * r) from pk_mul _ _) ?_
              refine gs (pc' := 100) (fun _ _ _ _ _ hl => lv_iload_n hx hb d_Mo_compare_99 rfl (lv_at hl 0 rfl)) ?_
              refine gs (pc' := 101) (fun _ _ _ _ _ hl => lv_iadd hx hb d_Mo_compare_100) ?_
              refine g_eqi (show (nI (4300 * r)) + (nI j) = nI ((4300 * r) + j) from nI_add _ _) ?_
              refine g_iald hx hb hK 0 hlm rfl (show vp_in (nI ((4300 * r) + j)) 38700 from vp_in_nI (by omega) (by omega)) d_Mo_compare_101 ?_
              refine g_eqi (show f (nI ((4300 * r) + j)).toNatClampNeg = f ((4300 * r) + j) from by rw [nI_clamp (by omega)]) ?_
              refine g_eqi (show f ((4300 * r) + j) = nI (df (sh f r) j) from (hlr j (by omega)).1) ?_
              refine gs (pc' := 103) (fun _ _ _ _ _ hl => lv_aload_n hx hb d_Mo_compare_102 rfl (lv_at hl 1 rfl)) ?_
              refine g_get hx hb hts hin_Mo hown hK hob rfl 8 (by decide) (hts _ wm762) (fun _ h9 => h9) rfl d_Mo_compare_103 ?_
              refine gs (pc' := 109) (fun _ _ _ _ _ hl => lv_sipush (v := nI 4300) hx hb d_Mo_compare_106 (by decide)) ?_
              refine gs (pc' := 110) (fun _ _ _ _ _ hl => lv_iload_n hx hb d_Mo_compare_109 rfl (lv_at hl 3 rfl)) ?_
              refine gs (pc' := 111) (fun _ _ _ _ _ hl => lv_imul hx hb d_Mo_compare_110) ?_
              refine g_eqi (show (nI 4300) * (nI o) = nI (4300 * o) from pk_mul _ _) ?_
              refine gs (pc' := 112) (fun _ _ _ _ _ hl => lv_iload_n hx hb d_Mo_compare_111 rfl (lv_at hl 0 rfl)) ?_
              refine gs (pc' := 113) (fun _ _ _ _ _ hl => lv_iadd hx hb d_Mo_compare_112) ?_
              refine g_eqi (show (nI (4300 * o)) + (nI j) = nI ((4300 * o) + j) from nI_add _ _) ?_
              refine g_iald hx hb hK 0 hlm rfl (show vp_in (nI ((4300 * o) + j)) 38700 from vp_in_nI (by omega) (by omega)) d_Mo_compare_113 ?_
              refine g_eqi (show f (nI ((4300 * o) + j)).toNatClampNeg = f ((4300 * o) + j) from by rw [nI_clamp (by omega)]) ?_
              refine g_eqi (show f ((4300 * o) + j) = nI (df (sh f o) j) from (hlo2 j (by omega)).1) ?_
              refine gsb (pc1 := 121) (pc2 := 117) (fun _ _ _ _ _ => lv_icmp_ge (tgt := 121) hx hb d_Mo_compare_114 (by decide)) (fun c_7 => ?_) (fun c_7 => ?_)
              · skip
                have nc_7 : (df (sh f r) j) ≥ (df (sh f o) j) := (nn_ge (a := (df (sh f r) j)) (b := (df (sh f o) j)) (by omega) (by omega)).1 c_7
                refine gs (pc' := 122) (fun _ _ _ _ _ hl => lv_iconst (v := nI 1) hx hb d_Mo_compare_121 (by decide)) ?_
                exact hret 122 _ _ _ _ d_Mo_compare_122 hB1 hB2 ⟨rfl, Or.inr (Or.inr ⟨rfl, by rw [← hDr.2.2, ← hDo.2.2, ← hzz]; exact dv_cmp (lim_dok (by rw [hzz]; exact hlo2)) (lim_dok hlr) (show j < zr by omega) (fun x h1 h2 => (hsame x (by omega) h2).symm) (by omega)⟩)⟩
              · skip
                have nc_7 : (df (sh f r) j) < (df (sh f o) j) := (nn_ge (a := (df (sh f r) j)) (b := (df (sh f o) j)) (by omega) (by omega)).2 c_7
                refine gs (pc' := 118) (fun _ _ _ _ _ hl => lv_iconst (v := (-1)) hx hb d_Mo_compare_117 (by decide)) ?_
                refine gs (pc' := 122) (fun _ _ _ _ _ hl => lv_goto (tgt := 122) hx hb d_Mo_compare_118 (by decide)) ?_
                exact hret 122 _ _ _ _ d_Mo_compare_122 hB1 hB2 ⟨rfl, Or.inl ⟨rfl, by rw [← hDr.2.2, ← hDo.2.2, ← hzz]; exact dv_cmp (lim_dok hlr) (lim_dok (by rw [hzz]; exact hlo2)) (show j < zr by omega) (fun x h1 h2 => hsame x (by omega) h2) (by omega)⟩⟩
            · skip
              have nc_6 : j < 0 := (n0_ge (a := j) (by omega)).2 c_6
              exact absurd nc_6 (by omega)
          · skip
            have nc_5 : (df (sh f r) j) = (df (sh f o) j) := (nn_ne (a := (df (sh f r) j)) (b := (df (sh f o) j)) (by omega) (by omega)).2 c_5
            refine gst (pc' := 79) (L' := [(3, .int (nI j + (-1))), (0, .ref hm), (1, .int (nI r)), (2, .int (nI o))]) (fun _ _ _ _ _ hl => lv_iinc (v := nI j + (-1)) hx hb d_Mo_compare_76 hl (k := 0) rfl (rfl) (by decide) rfl) ?_
            refine gs (pc' := 45) (fun _ _ _ _ _ hl => lv_goto (tgt := 45) hx hb d_Mo_compare_79 (by decide)) ?_
            refine gsub [0, 1, 2, 3] rfl ?_
            exact ih (by omega) (fun x h1 h2 => by
                by_cases e : x = j
                · subst e; omega
                · exact hsame x (by omega) h2) _ (by rw [Int32.add_assoc]; exact Int32.add_zero _)
    exact loop zr (Nat.le_refl _) (fun x h1 h2 => absurd h1 (by omega)) _ (Int32.sub_add_cancel _ _)
  · skip
    have nc_1 : zr ≠ zo := (nn_eq (a := zr) (b := zo) (by omega) (by omega)).2 c_1
    refine gs (pc' := 16) (fun _ _ _ _ _ hl => lv_aload_n hx hb d_Mo_compare_15 rfl (lv_at hl 0 rfl)) ?_
    refine g_get hx hb hts hin_Mo hown hK hob rfl 9 (by decide) (hts _ wm763) (fun _ h9 => h9) rfl d_Mo_compare_16 ?_
    refine gs (pc' := 20) (fun _ _ _ _ _ hl => lv_iload_n hx hb d_Mo_compare_19 rfl (lv_at hl 1 rfl)) ?_
    refine g_iald hx hb hK 0 hsz rfl (show vp_in (nI r) 9 from vp_in_nI (by omega) (by omega)) d_Mo_compare_20 ?_
    refine g_eqi (show g (nI r).toNatClampNeg = g r from by rw [nI_clamp (by omega)]) ?_
    refine g_eqi (show g r = nI zr from hgr) ?_
    refine gs (pc' := 22) (fun _ _ _ _ _ hl => lv_aload_n hx hb d_Mo_compare_21 rfl (lv_at hl 0 rfl)) ?_
    refine g_get hx hb hts hin_Mo hown hK hob rfl 9 (by decide) (hts _ wm763) (fun _ h9 => h9) rfl d_Mo_compare_22 ?_
    refine gs (pc' := 26) (fun _ _ _ _ _ hl => lv_iload_n hx hb d_Mo_compare_25 rfl (lv_at hl 2 rfl)) ?_
    refine g_iald hx hb hK 0 hsz rfl (show vp_in (nI o) 9 from vp_in_nI (by omega) (by omega)) d_Mo_compare_26 ?_
    refine g_eqi (show g (nI o).toNatClampNeg = g o from by rw [nI_clamp (by omega)]) ?_
    refine g_eqi (show g o = nI zo from hgo) ?_
    refine gsb (pc1 := 34) (pc2 := 30) (fun _ _ _ _ _ => lv_icmp_ge (tgt := 34) hx hb d_Mo_compare_27 (by decide)) (fun c_8 => ?_) (fun c_8 => ?_)
    · skip
      have nc_8 : zr ≥ zo := (nn_ge (a := zr) (b := zo) (by omega) (by omega)).1 c_8
      refine gs (pc' := 35) (fun _ _ _ _ _ hl => lv_iconst (v := nI 1) hx hb d_Mo_compare_34 (by decide)) ?_
      exact hret 35 _ _ _ _ d_Mo_compare_35 hB1 hB2 ⟨rfl, Or.inr (Or.inr ⟨rfl, by rw [← hDr.2.2, ← hDo.2.2]; exact dv_size (lim_dok hlo2) (by omega) (by rcases hDr.2.1 with q | q; exact absurd q (by omega); exact q)⟩)⟩
    · skip
      have nc_8 : zr < zo := (nn_ge (a := zr) (b := zo) (by omega) (by omega)).2 c_8
      refine gs (pc' := 31) (fun _ _ _ _ _ hl => lv_iconst (v := (-1)) hx hb d_Mo_compare_30 (by decide)) ?_
      refine gs (pc' := 35) (fun _ _ _ _ _ hl => lv_goto (tgt := 35) hx hb d_Mo_compare_31 (by decide)) ?_
      exact hret 35 _ _ _ _ d_Mo_compare_35 hB1 hB2 ⟨rfl, Or.inl ⟨rfl, by rw [← hDr.2.2, ← hDo.2.2]; exact dv_size (lim_dok hlr) (by omega) (by rcases hDo.2.1 with q | q; exact absurd q (by omega); exact q)⟩⟩
set_option maxHeartbeats 4000000 in
set_option maxRecDepth 100000 in
theorem c_Mo_plus (l : Launch) (D : va_G) (cA : Nat → ClassId) (lo MC MS : Nat) (G : gT) (B : Nat × Nat) (hm : Nat) (A : Nat → Nat) (I : Nat → Int32) (hob : G hm = some (70, .inr (9, mfs A I))) (Rg : Nat → Nat) (hR : MR cA A Rg G) (r : Nat) (hb_r : r < 9) (o : Nat) (hb_o : o < 9) (hro : o ≠ r) (k : Nat) (hkr : Rg r < 1000000000 ^ k) (hko : Rg o < 1000000000 ^ k) (hk : k ≤ 4290) (hB1 : B.1 ≤ MC) (hB2 : B.2 ≤ MS) : gMet l y_Mo_plus w_Mo_plus 1 22 D clS (gtys cA) lo MC MS [.ref hm, .int (nI r), .int (nI o)] G B (gQv D clS lo (fun u => u.2 = B ∧ MR cA A (fup Rg r (Rg r + Rg o)) u.1 ∧ u.1 hm = some (70, .inr (9, mfs A I)) ∧ gfr (fun x => x = 75 ∨ x = 76) G u.1)) := by
  refine g_metv (cc := prog_11_method_8_code) (nL := 7) (L := [(0, .ref hm), (1, .int (nI r)), (2, .int (nI o))]) (by decide +kernel) rfl (Nat.le_of_ble_eq_true rfl) rfl ?_
  intro p e R s m args below meth c Q hF hRc hRs hRf hRl hret
  obtain ⟨hx, hb, hr, hml, hts0, hown, hlocks, hin, hK, hlo, hZ⟩ := hF
  have hts : ∀ w ∈ tbg, w.before args s = true := fun w h => hts0 w (List.mem_cons_of_mem _ h)
  obtain ⟨f, g, hlm, hsz, hRG⟩ := hR
  obtain ⟨zr, hgr, hzr, hDr⟩ := hRG r hb_r
  obtain ⟨zo, hgo, hzo, hDo⟩ := hRG o hb_o
  have hlr := hDr.1
  have hlo2 := hDo.1
  have hzrk : zr ≤ k := isD_size hDr hkr
  have hzok : zo ≤ k := isD_size hDo hko
  have tail : ∀ n : Nat, zr ≤ n → zo ≤ n → (n = zr ∨ n = zo) → gV p l e R s m args below meth c D clS lo 7 Q 30 [(0, .ref hm), (1, .int (nI r)), (2, .int (nI o))] [.int (nI n)] G B := by
    intro n hn1 hn2 hn3
    refine gst (pc' := 31) (L' := [(3, .int (nI n)), (0, .ref hm), (1, .int (nI r)), (2, .int (nI o))]) (fun _ _ _ _ _ hl => lv_istore_n hx hb d_Mo_plus_30 rfl hl (by decide) rfl) ?_
    refine gs (pc' := 32) (fun _ _ _ _ _ hl => lv_iconst (v := nI 0) hx hb d_Mo_plus_31 (by decide)) ?_
    refine gst (pc' := 34) (L' := [(4, .int (nI 0)), (3, .int (nI n)), (0, .ref hm), (1, .int (nI r)), (2, .int (nI o))]) (fun _ _ _ _ _ hl => lv_istore hx hb d_Mo_plus_32 hl (by decide) rfl) ?_
    refine gs (pc' := 35) (fun _ _ _ _ _ hl => lv_iconst (v := nI 0) hx hb d_Mo_plus_34 (by decide)) ?_
    refine gst (pc' := 37) (L' := [(5, .int (nI 0)), (4, .int (nI 0)), (3, .int (nI n)), (0, .ref hm), (1, .int (nI r)), (2, .int (nI o))]) (fun _ _ _ _ _ hl => lv_istore hx hb d_Mo_plus_35 hl (by decide) rfl) ?_
    refine gsub [0, 1, 2, 3, 4, 5] rfl ?_
    have loop : ∀ (q j cy : Nat) (f1 : Nat → Int32) (Gk : gT), (j + q = n) → (cy ≤ 1) → (lim (sh f1 r) j) → (lim (sh f1 r) zr) → (dv (df (sh f1 r)) j + cy * 1000000000 ^ j = dv (dx (sh f r) zr) j + dv (dx (sh f o) zo) j) → (∀ x, j ≤ x → sh f1 r x = sh f r x) → (oth r f f1) → (gfr (fun x => x = 75 ∨ x = 76) G Gk) → Gk hm = some (70, .inr (9, [.int (I 0), .int (I 1), .ref (A 2), .ref (A 3), .ref (A 4), .ref (A 5), .int (I 6), .int (I 7), .ref (A 8), .ref (A 9), .int (I 10), .ref (A 11), .ref (A 12), .ref (A 13), .int (I 14), .ref (A 15), .ref (A 16), .ref (A 17), .ref (A 18), .int (I 19), .int (I 20), .int (I 21)])) → Gk (A 8) = some (75, .inl (cA 0, 38700, .inl f1)) → Gk (A 9) = some (76, .inl (cA 0, 9, .inl g)) → gV p l e R s m args below meth c D clS lo 7 Q 37 [(5, .int (nI j)), (4, .int (nI cy)), (3, .int (nI n)), (0, .ref hm), (1, .int (nI r)), (2, .int (nI o))] [] Gk B := by
      intro q
      induction q with
      | zero =>
        intro j cy f1 Gk hj hcy hl1 hlz hsum hup hot hfr k1 k2 k3
        have hjn : n = j := by omega
        subst hjn
        rw [dv_dx hn1, dv_dx hn2, hDr.2.2, hDo.2.2] at hsum
        have hlow := dv_lt (lim_dok hl1)
        refine gs (pc' := 39) (fun _ _ _ _ _ hl => lv_iload hx hb d_Mo_plus_37 (lv_at hl 0 rfl)) ?_
        refine gs (pc' := 40) (fun _ _ _ _ _ hl => lv_iload_n hx hb d_Mo_plus_39 rfl (lv_at hl 2 rfl)) ?_
        refine gsb (pc1 := 112) (pc2 := 43) (fun _ _ _ _ _ => lv_icmp_ge (tgt := 112) hx hb d_Mo_plus_40 (by decide)) (fun c_1 => ?_) (fun c_1 => ?_)
        · skip
          have nc_1 : n ≥ n := (nn_ge (a := n) (b := n) (by omega) (by omega)).1 c_1
          refine gs (pc' := 113) (fun _ _ _ _ _ hl => lv_aload_n hx hb d_Mo_plus_112 rfl (lv_at hl 3 rfl)) ?_
          refine g_get hx hb hts hin_Mo hown hK k1 rfl 9 (by decide) (hts _ wm763) (fun _ h9 => h9) rfl d_Mo_plus_113 ?_
          refine gs (pc' := 117) (fun _ _ _ _ _ hl => lv_iload_n hx hb d_Mo_plus_116 rfl (lv_at hl 4 rfl)) ?_
          refine gs (pc' := 118) (fun _ _ _ _ _ hl => lv_iload_n hx hb d_Mo_plus_117 rfl (lv_at hl 2 rfl)) ?_
          refine g_iast hx hb hK 0 k3 rfl (show vp_in (nI r) 9 from vp_in_nI (by omega) (by omega)) d_Mo_plus_118 (fun G_2 f_3 o_4 => ?_)
          rw [nI_clamp (by omega)] at f_3
          have f_5 : G_2 hm = some (70, .inr (9, [.int (I 0), .int (I 1), .ref (A 2), .ref (A 3), .ref (A 4), .ref (A 5), .int (I 6), .int (I 7), .ref (A 8), .ref (A 9), .int (I 10), .ref (A 11), .ref (A 12), .ref (A 13), .int (I 14), .ref (A 15), .ref (A 16), .ref (A 17), .ref (A 18), .int (I 19), .int (I 20), .int (I 21)])) := (o_4 _ (gne k1 k3 (fun e => by cases e))).trans k1
          have f_6 : G_2 (A 8) = some (75, .inl (cA 0, 38700, .inl f1)) := (o_4 _ (gne k2 k3 (by simp))).trans k2
          have gf_7 : gfr (fun x => x = 75 ∨ x = 76) G G_2 := gfr_put hfr k3 (show (76 : Nat) = 75 ∨ (76 : Nat) = 76 by simp) o_4
          refine gs (pc' := 121) (fun _ _ _ _ _ hl => lv_iload hx hb d_Mo_plus_119 (lv_at hl 1 rfl)) ?_
          refine gsb (pc1 := 147) (pc2 := 124) (fun _ _ _ _ _ => lv_if_le (tgt := 147) hx hb d_Mo_plus_121 (by decide)) (fun c_8 => ?_) (fun c_8 => ?_)
          · skip
            have nc_8 : cy ≤ 0 := (n0_le (a := cy) (by omega)).1 c_8
            have hc0 : cy = 0 := by omega
            rw [hc0, Nat.zero_mul, Nat.add_zero] at hsum
            exact hret 147 _ _ _ d_Mo_plus_147 hB1 hB2 ⟨rfl, ⟨_, _, f_6, f_3, RG_set hRG hot (by omega) ⟨hl1, (by rcases Nat.eq_zero_or_pos n with z9 | z9; (exact Or.inl z9); (exact dtop_of hl1 (by rw [hsum]; rcases hn3 with e9 | e9; (have h8 := isD_ge hDr (by omega); rw [← e9] at h8; omega); (have h8 := isD_ge hDo (by omega); rw [← e9] at h8; omega)))), hsum⟩⟩, f_5, gfr_mono gf_7 (fun x h9 => by omega)⟩
          · skip
            have nc_8 : cy > 0 := (n0_le (a := cy) (by omega)).2 c_8
            have hc1 : cy = 1 := by omega
            rw [hc1, Nat.one_mul] at hsum
            refine gs (pc' := 125) (fun _ _ _ _ _ hl => lv_aload_n hx hb d_Mo_plus_124 rfl (lv_at hl 3 rfl)) ?_
            refine g_get hx hb hts hin_Mo hown hK f_5 rfl 8 (by decide) (hts _ wm762) (fun _ h9 => h9) rfl d_Mo_plus_125 ?_
            refine gs (pc' := 131) (fun _ _ _ _ _ hl => lv_sipush (v := nI 4300) hx hb d_Mo_plus_128 (by decide)) ?_
            refine gs (pc' := 132) (fun _ _ _ _ _ hl => lv_iload_n hx hb d_Mo_plus_131 rfl (lv_at hl 4 rfl)) ?_
            refine gs (pc' := 133) (fun _ _ _ _ _ hl => lv_imul hx hb d_Mo_plus_132) ?_
            refine g_eqi (show (nI 4300) * (nI r) = nI (4300 * r) from pk_mul _ _) ?_
            refine gs (pc' := 134) (fun _ _ _ _ _ hl => lv_iload_n hx hb d_Mo_plus_133 rfl (lv_at hl 2 rfl)) ?_
            refine gs (pc' := 135) (fun _ _ _ _ _ hl => lv_iadd hx hb d_Mo_plus_134) ?_
            refine g_eqi (show (nI (4300 * r)) + (nI n) = nI ((4300 * r) + n) from nI_add _ _) ?_
            refine gs (pc' := 136) (fun _ _ _ _ _ hl => lv_iconst (v := nI 1) hx hb d_Mo_plus_135 (by decide)) ?_
            refine g_iast hx hb hK 0 f_6 rfl (show vp_in (nI ((4300 * r) + n)) 38700 from vp_in_nI (by omega) (by omega)) d_Mo_plus_136 (fun G_9 f_10 o_11 => ?_)
            rw [nI_clamp (by omega)] at f_10
            have f_12 : G_9 hm = some (70, .inr (9, [.int (I 0), .int (I 1), .ref (A 2), .ref (A 3), .ref (A 4), .ref (A 5), .int (I 6), .int (I 7), .ref (A 8), .ref (A 9), .int (I 10), .ref (A 11), .ref (A 12), .ref (A 13), .int (I 14), .ref (A 15), .ref (A 16), .ref (A 17), .ref (A 18), .int (I 19), .int (I 20), .int (I 21)])) := (o_11 _ (gne f_5 f_6 (fun e => by cases e))).trans f_5
            have f_13 : G_9 (A 9) = some (76, .inl (cA 0, 9, .inl (upd g r (nI n)))) := (o_11 _ (gne f_3 f_6 (by simp))).trans f_3
            have gf_14 : gfr (fun x => x = 75 ∨ x = 76) G G_9 := gfr_put gf_7 f_6 (show (75 : Nat) = 75 ∨ (75 : Nat) = 76 by simp) o_11
            refine gs (pc' := 138) (fun _ _ _ _ _ hl => lv_aload_n hx hb d_Mo_plus_137 rfl (lv_at hl 3 rfl)) ?_
            refine g_get hx hb hts hin_Mo hown hK f_12 rfl 9 (by decide) (hts _ wm763) (fun _ h9 => h9) rfl d_Mo_plus_138 ?_
            refine gs (pc' := 142) (fun _ _ _ _ _ hl => lv_iload_n hx hb d_Mo_plus_141 rfl (lv_at hl 4 rfl)) ?_
            refine gs (pc' := 143) (fun _ _ _ _ _ hl => lv_dup2_11 hx hb d_Mo_plus_142 rfl rfl) ?_
            refine g_iald hx hb hK 0 f_13 rfl (show vp_in (nI r) 9 from vp_in_nI (by omega) (by omega)) d_Mo_plus_143 ?_
            refine g_eqi (show (upd g r (nI n)) (nI r).toNatClampNeg = (upd g r (nI n)) r from by rw [nI_clamp (by omega)]) ?_
            refine g_eqi (show (upd g r (nI n)) r = nI n from pk_us) ?_
            refine gs (pc' := 145) (fun _ _ _ _ _ hl => lv_iconst (v := nI 1) hx hb d_Mo_plus_144 (by decide)) ?_
            refine gs (pc' := 146) (fun _ _ _ _ _ hl => lv_iadd hx hb d_Mo_plus_145) ?_
            refine g_eqi (show (nI n) + (nI 1) = nI (n + 1) from nI_add _ _) ?_
            refine g_iast hx hb hK 0 f_13 rfl (show vp_in (nI r) 9 from vp_in_nI (by omega) (by omega)) d_Mo_plus_146 (fun G_15 f_16 o_17 => ?_)
            rw [nI_clamp (by omega)] at f_16
            have f_18 : G_15 hm = some (70, .inr (9, [.int (I 0), .int (I 1), .ref (A 2), .ref (A 3), .ref (A 4), .ref (A 5), .int (I 6), .int (I 7), .ref (A 8), .ref (A 9), .int (I 10), .ref (A 11), .ref (A 12), .ref (A 13), .int (I 14), .ref (A 15), .ref (A 16), .ref (A 17), .ref (A 18), .int (I 19), .int (I 20), .int (I 21)])) := (o_17 _ (gne f_12 f_13 (fun e => by cases e))).trans f_12
            have f_19 : G_15 (A 8) = some (75, .inl (cA 0, 38700, .inl (upd f1 ((4300 * r) + n) (nI 1)))) := (o_17 _ (gne f_10 f_13 (by simp))).trans f_10
            have gf_20 : gfr (fun x => x = 75 ∨ x = 76) G G_15 := gfr_put gf_14 f_13 (show (76 : Nat) = 75 ∨ (76 : Nat) = 76 by simp) o_17
            exact hret 147 _ _ _ d_Mo_plus_147 hB1 hB2 ⟨rfl, ⟨_, _, f_19, f_16, RG_set' (z := n + 1) hRG (oth_up hot (by omega)) pk_us (fun q9 h9 => (pk_un h9).trans (pk_un h9)) (by omega) (by rw [sh_us]; exact ⟨lim_upd_s hl1 (by decide), Or.inr (by rw [Nat.add_sub_cancel, df_us (by decide)]; decide), by rw [dv_upd_s (by decide), Nat.one_mul]; exact hsum⟩)⟩, f_18, gfr_mono gf_20 (fun x h9 => by omega)⟩
        · skip
          have nc_1 : n < n := (nn_ge (a := n) (b := n) (by omega) (by omega)).2 c_1
          exact absurd nc_1 (by omega)
      | succ q ih =>
        intro j cy f1 Gk hj hcy hl1 hlz hsum hup hot hfr k1 k2 k3
        refine gs (pc' := 39) (fun _ _ _ _ _ hl => lv_iload hx hb d_Mo_plus_37 (lv_at hl 0 rfl)) ?_
        refine gs (pc' := 40) (fun _ _ _ _ _ hl => lv_iload_n hx hb d_Mo_plus_39 rfl (lv_at hl 2 rfl)) ?_
        refine gsb (pc1 := 112) (pc2 := 43) (fun _ _ _ _ _ => lv_icmp_ge (tgt := 112) hx hb d_Mo_plus_40 (by decide)) (fun c_21 => ?_) (fun c_21 => ?_)
        · skip
          have nc_21 : j ≥ n := (nn_ge (a := j) (b := n) (by omega) (by omega)).1 c_21
          exact absurd nc_21 (by omega)
        · skip
          have nc_21 : j < n := (nn_ge (a := j) (b := n) (by omega) (by omega)).2 c_21
          refine gs (pc' := 44) (fun _ _ _ _ _ hl => lv_aload_n hx hb d_Mo_plus_43 rfl (lv_at hl 3 rfl)) ?_
          refine gs (pc' := 45) (fun _ _ _ _ _ hl => lv_iload_n hx hb d_Mo_plus_44 rfl (lv_at hl 4 rfl)) ?_
          refine gs (pc' := 47) (fun _ _ _ _ _ hl => lv_iload hx hb d_Mo_plus_45 (lv_at hl 0 rfl)) ?_
          refine g_outi hlo (g_runV (As := [.int (nI r), .int (nI j)]) (rest := []) ⟨hx, hb, hml, hown, hts⟩ hK hZ hRc hRs (c_Mo_limb l D cA lo MC MS Gk B hm A I k1 f1 g k2 k3 r hb_r zr hgr hzr hlz j (by omega) hB1 hB2) (fun _ _ => cwV 2 hts (tb_good (tb_cons wm921 (tb_cons wm923 (tb_cons ws40 (tb_cons wm12 k_Mo_limb))))) rfl rfl rfl (by decide +kernel) ⟨by rw [hRf]; exact Nat.le_of_ble_eq_true rfl, by rw [hRl]; exact Nat.le_of_ble_eq_true rfl⟩) k1 rfl hB1 hB2 rfl (Nat.le_of_ble_eq_true rfl) d_Mo_plus_47) (fun r_25 G_22 B_23 p_24 => ?_)
          obtain ⟨u_26, e_27⟩ := p_24
          cases u_26
          obtain ⟨v_28, ev_29⟩ : ∃ y9, y9 = dx (sh f1 r) zr j := ⟨_, rfl⟩
          rw [← ev_29] at e_27
          subst e_27
          have v_28b : v_28 < 1000000000 := by rw [ev_29]; exact dx_lt hlz
          refine gs (pc' := 51) (fun _ _ _ _ _ hl => lv_aload_n hx hb d_Mo_plus_50 rfl (lv_at hl 3 rfl)) ?_
          refine gs (pc' := 52) (fun _ _ _ _ _ hl => lv_iload_n hx hb d_Mo_plus_51 rfl (lv_at hl 5 rfl)) ?_
          refine gs (pc' := 54) (fun _ _ _ _ _ hl => lv_iload hx hb d_Mo_plus_52 (lv_at hl 0 rfl)) ?_
          refine g_outi hlo (g_runV (As := [.int (nI o), .int (nI j)]) (rest := [.int (nI v_28)]) ⟨hx, hb, hml, hown, hts⟩ hK hZ hRc hRs (c_Mo_limb l D cA lo MC MS Gk B hm A I k1 f1 g k2 k3 o hb_o zo hgo hzo (lim_oth hot hro hzo hlo2) j (by omega) hB1 hB2) (fun _ _ => cwV 2 hts (tb_good (tb_cons wm921 (tb_cons wm923 (tb_cons ws40 (tb_cons wm12 k_Mo_limb))))) rfl rfl rfl (by decide +kernel) ⟨by rw [hRf]; exact Nat.le_of_ble_eq_true rfl, by rw [hRl]; exact Nat.le_of_ble_eq_true rfl⟩) k1 rfl hB1 hB2 rfl (Nat.le_of_ble_eq_true rfl) d_Mo_plus_54) (fun r_33 G_30 B_31 p_32 => ?_)
          obtain ⟨u_34, e_35⟩ := p_32
          cases u_34
          obtain ⟨v_36, ev_37⟩ : ∃ y9, y9 = dx (sh f1 o) zo j := ⟨_, rfl⟩
          rw [← ev_37] at e_35
          subst e_35
          have v_36b : v_36 < 1000000000 := by rw [ev_37]; exact dx_lt (lim_oth hot hro hzo hlo2)
          refine gs (pc' := 58) (fun _ _ _ _ _ hl => lv_iadd hx hb d_Mo_plus_57) ?_
          refine g_eqi (show (nI v_28) + (nI v_36) = nI (v_28 + v_36) from nI_add _ _) ?_
          refine gs (pc' := 60) (fun _ _ _ _ _ hl => lv_iload hx hb d_Mo_plus_58 (lv_at hl 1 rfl)) ?_
          refine gs (pc' := 61) (fun _ _ _ _ _ hl => lv_iadd hx hb d_Mo_plus_60) ?_
          refine g_eqi (show (nI (v_28 + v_36)) + (nI cy) = nI ((v_28 + v_36) + cy) from nI_add _ _) ?_
          refine gs (pc' := 63) (fun _ _ _ _ _ hl => lv_ldc (v := 1000000000) hx hb hown (hts _ wm867) d_Mo_plus_61) ?_
          refine g_eqi (show 1000000000 = nI 1000000000 from rfl) ?_
          refine gs (pc' := 64) (fun _ _ _ _ _ hl => lv_isub hx hb d_Mo_plus_63) ?_
          refine g_eqi (show (nI ((v_28 + v_36) + cy)) - (nI 1000000000) = iI (((v_28 + v_36 + cy : Nat) : Int) - 1000000000) from by rw [nI_iI, nI_iI]; exact iI_sub _ _) ?_
          refine gst (pc' := 66) (L' := [(6, .int (iI (((v_28 + v_36 + cy : Nat) : Int) - 1000000000))), (5, .int (nI j)), (4, .int (nI cy)), (3, .int (nI n)), (0, .ref hm), (1, .int (nI r)), (2, .int (nI o))]) (fun _ _ _ _ _ hl => lv_istore hx hb d_Mo_plus_64 hl (by decide) rfl) ?_
          refine gs (pc' := 68) (fun _ _ _ _ _ hl => lv_iload hx hb d_Mo_plus_66 (lv_at hl 0 rfl)) ?_
          refine gsb (pc1 := 75) (pc2 := 71) (fun _ _ _ _ _ => lv_if_lt (tgt := 75) hx hb d_Mo_plus_68 (by decide)) (fun c_38 => ?_) (fun c_38 => ?_)
          · skip
            have nc_38 : (((v_28 + v_36 + cy : Nat) : Int) - 1000000000) < 0 := (ii_lt (a := (((v_28 + v_36 + cy : Nat) : Int) - 1000000000)) (b := 0) (by omega) (by omega) (by omega) (by omega)).1 (by first | exact c_38 | (have z9 := c_38; simp only [nI_iI] at z9; exact z9))
            refine gs (pc' := 76) (fun _ _ _ _ _ hl => lv_iconst (v := nI 0) hx hb d_Mo_plus_75 (by decide)) ?_
            refine gst (pc' := 78) (L' := [(4, .int (nI 0)), (6, .int (iI (((v_28 + v_36 + cy : Nat) : Int) - 1000000000))), (5, .int (nI j)), (3, .int (nI n)), (0, .ref hm), (1, .int (nI r)), (2, .int (nI o))]) (fun _ _ _ _ _ hl => lv_istore hx hb d_Mo_plus_76 hl (by decide) rfl) ?_
            refine gs (pc' := 79) (fun _ _ _ _ _ hl => lv_aload_n hx hb d_Mo_plus_78 rfl (lv_at hl 4 rfl)) ?_
            refine g_get hx hb hts hin_Mo hown hK k1 rfl 8 (by decide) (hts _ wm762) (fun _ h9 => h9) rfl d_Mo_plus_79 ?_
            refine gs (pc' := 85) (fun _ _ _ _ _ hl => lv_sipush (v := nI 4300) hx hb d_Mo_plus_82 (by decide)) ?_
            refine gs (pc' := 86) (fun _ _ _ _ _ hl => lv_iload_n hx hb d_Mo_plus_85 rfl (lv_at hl 5 rfl)) ?_
            refine gs (pc' := 87) (fun _ _ _ _ _ hl => lv_imul hx hb d_Mo_plus_86) ?_
            refine g_eqi (show (nI 4300) * (nI r) = nI (4300 * r) from pk_mul _ _) ?_
            refine gs (pc' := 89) (fun _ _ _ _ _ hl => lv_iload hx hb d_Mo_plus_87 (lv_at hl 2 rfl)) ?_
            refine gs (pc' := 90) (fun _ _ _ _ _ hl => lv_iadd hx hb d_Mo_plus_89) ?_
            refine g_eqi (show (nI (4300 * r)) + (nI j) = nI ((4300 * r) + j) from nI_add _ _) ?_
            refine gs (pc' := 92) (fun _ _ _ _ _ hl => lv_iload hx hb d_Mo_plus_90 (lv_at hl 1 rfl)) ?_
            refine gsb (pc1 := 100) (pc2 := 95) (fun _ _ _ _ _ => lv_if_lt (tgt := 100) hx hb d_Mo_plus_92 (by decide)) (fun c_39 => ?_) (fun c_39 => ?_)
            · skip
              have nc_39 : (((v_28 + v_36 + cy : Nat) : Int) - 1000000000) < 0 := (ii_lt (a := (((v_28 + v_36 + cy : Nat) : Int) - 1000000000)) (b := 0) (by omega) (by omega) (by omega) (by omega)).1 (by first | exact c_39 | (have z9 := c_39; simp only [nI_iI] at z9; exact z9))
              refine gs (pc' := 102) (fun _ _ _ _ _ hl => lv_iload hx hb d_Mo_plus_100 (lv_at hl 1 rfl)) ?_
              refine gs (pc' := 104) (fun _ _ _ _ _ hl => lv_ldc (v := 1000000000) hx hb hown (hts _ wm867) d_Mo_plus_102) ?_
              refine g_eqi (show 1000000000 = nI 1000000000 from rfl) ?_
              refine gs (pc' := 105) (fun _ _ _ _ _ hl => lv_iadd hx hb d_Mo_plus_104) ?_
              refine g_eqi (show (iI (((v_28 + v_36 + cy : Nat) : Int) - 1000000000)) + (nI 1000000000) = iI ((((v_28 + v_36 + cy : Nat) : Int) - 1000000000) + ((1000000000 : Nat) : Int)) from by rw [nI_iI]; exact iI_add _ _) ?_
              refine g_eqi (show iI ((((v_28 + v_36 + cy : Nat) : Int) - 1000000000) + ((1000000000 : Nat) : Int)) = nI (v_28 + v_36 + cy) from by rw [nI_iI]; congr 1; omega) ?_
              refine g_iast hx hb hK 0 k2 rfl (show vp_in (nI ((4300 * r) + j)) 38700 from vp_in_nI (by omega) (by omega)) d_Mo_plus_105 (fun G_40 f_41 o_42 => ?_)
              rw [nI_clamp (by omega)] at f_41
              have f_43 : G_40 hm = some (70, .inr (9, [.int (I 0), .int (I 1), .ref (A 2), .ref (A 3), .ref (A 4), .ref (A 5), .int (I 6), .int (I 7), .ref (A 8), .ref (A 9), .int (I 10), .ref (A 11), .ref (A 12), .ref (A 13), .int (I 14), .ref (A 15), .ref (A 16), .ref (A 17), .ref (A 18), .int (I 19), .int (I 20), .int (I 21)])) := (o_42 _ (gne k1 k2 (fun e => by cases e))).trans k1
              have f_44 : G_40 (A 9) = some (76, .inl (cA 0, 9, .inl g)) := (o_42 _ (gne k3 k2 (by simp))).trans k3
              refine gst (pc' := 109) (L' := [(5, .int (nI (j + 1))), (4, .int (nI 0)), (6, .int (iI (((v_28 + v_36 + cy : Nat) : Int) - 1000000000))), (3, .int (nI n)), (0, .ref hm), (1, .int (nI r)), (2, .int (nI o))]) (fun _ _ _ _ _ hl => lv_iinc (v := nI (j + 1)) hx hb d_Mo_plus_106 hl (k := 2) rfl (nI_add _ 1) (by decide) rfl) ?_
              refine gs (pc' := 37) (fun _ _ _ _ _ hl => lv_goto (tgt := 37) hx hb d_Mo_plus_109 (by decide)) ?_
              refine gsub [0, 1, 3, 4, 5, 6] rfl ?_
              have hea : v_28 = dx (sh f r) zr j := by rw [ev_29]; exact dx_eq (hup j (Nat.le_refl _))
              have heb : v_36 = dx (sh f o) zo j := by rw [ev_37]; exact dx_eq (hot o hro j (by omega))
              exact ih (j + 1) (0) (upd f1 ((4300 * r) + j) (nI (v_28 + v_36 + cy))) G_40 (by omega) (by omega) (by rw [sh_us]; exact lim_upd_s hl1 (by omega)) (by rw [sh_us]; exact lim_upd hlz (by omega)) (by rw [sh_us, dv_upd_s (by omega), dv_s, dv_s, ← hea, ← heb]; exact st_sum hsum (by omega)) (fun x9 h9 => by rw [sh_us, pk_un (by omega)]; exact hup x9 (by omega)) (oth_up hot (by omega)) (gfr_put hfr k2 (Or.inl rfl) o_42) f_43 f_41 f_44
            · skip
              have nc_39 : (((v_28 + v_36 + cy : Nat) : Int) - 1000000000) ≥ 0 := (ii_lt (a := (((v_28 + v_36 + cy : Nat) : Int) - 1000000000)) (b := 0) (by omega) (by omega) (by omega) (by omega)).2 (by first | exact c_39 | (have z9 := c_39; simp only [nI_iI] at z9; exact z9))
              exact absurd nc_39 (by omega)
          · skip
            have nc_38 : (((v_28 + v_36 + cy : Nat) : Int) - 1000000000) ≥ 0 := (ii_lt (a := (((v_28 + v_36 + cy : Nat) : Int) - 1000000000)) (b := 0) (by omega) (by omega) (by omega) (by omega)).2 (by first | exact c_38 | (have z9 := c_38; simp only [nI_iI] at z9; exact z9))
            refine gs (pc' := 72) (fun _ _ _ _ _ hl => lv_iconst (v := nI 1) hx hb d_Mo_plus_71 (by decide)) ?_
            refine gs (pc' := 76) (fun _ _ _ _ _ hl => lv_goto (tgt := 76) hx hb d_Mo_plus_72 (by decide)) ?_
            refine gst (pc' := 78) (L' := [(4, .int (nI 1)), (6, .int (iI (((v_28 + v_36 + cy : Nat) : Int) - 1000000000))), (5, .int (nI j)), (3, .int (nI n)), (0, .ref hm), (1, .int (nI r)), (2, .int (nI o))]) (fun _ _ _ _ _ hl => lv_istore hx hb d_Mo_plus_76 hl (by decide) rfl) ?_
            refine gs (pc' := 79) (fun _ _ _ _ _ hl => lv_aload_n hx hb d_Mo_plus_78 rfl (lv_at hl 4 rfl)) ?_
            refine g_get hx hb hts hin_Mo hown hK k1 rfl 8 (by decide) (hts _ wm762) (fun _ h9 => h9) rfl d_Mo_plus_79 ?_
            refine gs (pc' := 85) (fun _ _ _ _ _ hl => lv_sipush (v := nI 4300) hx hb d_Mo_plus_82 (by decide)) ?_
            refine gs (pc' := 86) (fun _ _ _ _ _ hl => lv_iload_n hx hb d_Mo_plus_85 rfl (lv_at hl 5 rfl)) ?_
            refine gs (pc' := 87) (fun _ _ _ _ _ hl => lv_imul hx hb d_Mo_plus_86) ?_
            refine g_eqi (show (nI 4300) * (nI r) = nI (4300 * r) from pk_mul _ _) ?_
            refine gs (pc' := 89) (fun _ _ _ _ _ hl => lv_iload hx hb d_Mo_plus_87 (lv_at hl 2 rfl)) ?_
            refine gs (pc' := 90) (fun _ _ _ _ _ hl => lv_iadd hx hb d_Mo_plus_89) ?_
            refine g_eqi (show (nI (4300 * r)) + (nI j) = nI ((4300 * r) + j) from nI_add _ _) ?_
            refine gs (pc' := 92) (fun _ _ _ _ _ hl => lv_iload hx hb d_Mo_plus_90 (lv_at hl 1 rfl)) ?_
            refine gsb (pc1 := 100) (pc2 := 95) (fun _ _ _ _ _ => lv_if_lt (tgt := 100) hx hb d_Mo_plus_92 (by decide)) (fun c_45 => ?_) (fun c_45 => ?_)
            · skip
              have nc_45 : (((v_28 + v_36 + cy : Nat) : Int) - 1000000000) < 0 := (ii_lt (a := (((v_28 + v_36 + cy : Nat) : Int) - 1000000000)) (b := 0) (by omega) (by omega) (by omega) (by omega)).1 (by first | exact c_45 | (have z9 := c_45; simp only [nI_iI] at z9; exact z9))
              exact absurd nc_45 (by omega)
            · skip
              have nc_45 : (((v_28 + v_36 + cy : Nat) : Int) - 1000000000) ≥ 0 := (ii_lt (a := (((v_28 + v_36 + cy : Nat) : Int) - 1000000000)) (b := 0) (by omega) (by omega) (by omega) (by omega)).2 (by first | exact c_45 | (have z9 := c_45; simp only [nI_iI] at z9; exact z9))
              refine gs (pc' := 97) (fun _ _ _ _ _ hl => lv_iload hx hb d_Mo_plus_95 (lv_at hl 1 rfl)) ?_
              refine gs (pc' := 105) (fun _ _ _ _ _ hl => lv_goto (tgt := 105) hx hb d_Mo_plus_97 (by decide)) ?_
              refine g_eqi (show iI (((v_28 + v_36 + cy : Nat) : Int) - 1000000000) = nI (v_28 + v_36 + cy - 1000000000) from by rw [nI_iI]; congr 1; omega) ?_
              refine g_iast hx hb hK 0 k2 rfl (show vp_in (nI ((4300 * r) + j)) 38700 from vp_in_nI (by omega) (by omega)) d_Mo_plus_105 (fun G_46 f_47 o_48 => ?_)
              rw [nI_clamp (by omega)] at f_47
              have f_49 : G_46 hm = some (70, .inr (9, [.int (I 0), .int (I 1), .ref (A 2), .ref (A 3), .ref (A 4), .ref (A 5), .int (I 6), .int (I 7), .ref (A 8), .ref (A 9), .int (I 10), .ref (A 11), .ref (A 12), .ref (A 13), .int (I 14), .ref (A 15), .ref (A 16), .ref (A 17), .ref (A 18), .int (I 19), .int (I 20), .int (I 21)])) := (o_48 _ (gne k1 k2 (fun e => by cases e))).trans k1
              have f_50 : G_46 (A 9) = some (76, .inl (cA 0, 9, .inl g)) := (o_48 _ (gne k3 k2 (by simp))).trans k3
              refine gst (pc' := 109) (L' := [(5, .int (nI (j + 1))), (4, .int (nI 1)), (6, .int (iI (((v_28 + v_36 + cy : Nat) : Int) - 1000000000))), (3, .int (nI n)), (0, .ref hm), (1, .int (nI r)), (2, .int (nI o))]) (fun _ _ _ _ _ hl => lv_iinc (v := nI (j + 1)) hx hb d_Mo_plus_106 hl (k := 2) rfl (nI_add _ 1) (by decide) rfl) ?_
              refine gs (pc' := 37) (fun _ _ _ _ _ hl => lv_goto (tgt := 37) hx hb d_Mo_plus_109 (by decide)) ?_
              refine gsub [0, 1, 3, 4, 5, 6] rfl ?_
              have hea : v_28 = dx (sh f r) zr j := by rw [ev_29]; exact dx_eq (hup j (Nat.le_refl _))
              have heb : v_36 = dx (sh f o) zo j := by rw [ev_37]; exact dx_eq (hot o hro j (by omega))
              exact ih (j + 1) (1) (upd f1 ((4300 * r) + j) (nI (v_28 + v_36 + cy - 1000000000))) G_46 (by omega) (by omega) (by rw [sh_us]; exact lim_upd_s hl1 (by omega)) (by rw [sh_us]; exact lim_upd hlz (by omega)) (by rw [sh_us, dv_upd_s (by omega), dv_s, dv_s, ← hea, ← heb]; exact st_sum hsum (by omega)) (fun x9 h9 => by rw [sh_us, pk_un (by omega)]; exact hup x9 (by omega)) (oth_up hot (by omega)) (gfr_put hfr k2 (Or.inl rfl) o_48) f_49 f_47 f_50
    exact loop n 0 0 f G (by omega) (by omega) (fun i9 h9 => absurd h9 (Nat.not_lt_zero _)) hlr (by simp [dv_0]) (fun _ _ => rfl) oth_rf gfr_rf hob hlm hsz
  refine gs (pc' := 1) (fun _ _ _ _ _ hl => lv_aload_n hx hb d_Mo_plus_0 rfl (lv_at hl 0 rfl)) ?_
  refine g_get hx hb hts hin_Mo hown hK hob rfl 9 (by decide) (hts _ wm763) (fun _ h9 => h9) rfl d_Mo_plus_1 ?_
  refine gs (pc' := 5) (fun _ _ _ _ _ hl => lv_iload_n hx hb d_Mo_plus_4 rfl (lv_at hl 1 rfl)) ?_
  refine g_iald hx hb hK 0 hsz rfl (show vp_in (nI r) 9 from vp_in_nI (by omega) (by omega)) d_Mo_plus_5 ?_
  refine g_eqi (show g (nI r).toNatClampNeg = g r from by rw [nI_clamp (by omega)]) ?_
  refine g_eqi (show g r = nI zr from hgr) ?_
  refine gs (pc' := 7) (fun _ _ _ _ _ hl => lv_aload_n hx hb d_Mo_plus_6 rfl (lv_at hl 0 rfl)) ?_
  refine g_get hx hb hts hin_Mo hown hK hob rfl 9 (by decide) (hts _ wm763) (fun _ h9 => h9) rfl d_Mo_plus_7 ?_
  refine gs (pc' := 11) (fun _ _ _ _ _ hl => lv_iload_n hx hb d_Mo_plus_10 rfl (lv_at hl 2 rfl)) ?_
  refine g_iald hx hb hK 0 hsz rfl (show vp_in (nI o) 9 from vp_in_nI (by omega) (by omega)) d_Mo_plus_11 ?_
  refine g_eqi (show g (nI o).toNatClampNeg = g o from by rw [nI_clamp (by omega)]) ?_
  refine g_eqi (show g o = nI zo from hgo) ?_
  refine gsb (pc1 := 24) (pc2 := 15) (fun _ _ _ _ _ => lv_icmp_le (tgt := 24) hx hb d_Mo_plus_12 (by decide)) (fun c_51 => ?_) (fun c_51 => ?_)
  · skip
    have nc_51 : zr ≤ zo := (nn_le (a := zr) (b := zo) (by omega) (by omega)).1 c_51
    refine gs (pc' := 25) (fun _ _ _ _ _ hl => lv_aload_n hx hb d_Mo_plus_24 rfl (lv_at hl 0 rfl)) ?_
    refine g_get hx hb hts hin_Mo hown hK hob rfl 9 (by decide) (hts _ wm763) (fun _ h9 => h9) rfl d_Mo_plus_25 ?_
    refine gs (pc' := 29) (fun _ _ _ _ _ hl => lv_iload_n hx hb d_Mo_plus_28 rfl (lv_at hl 2 rfl)) ?_
    refine g_iald hx hb hK 0 hsz rfl (show vp_in (nI o) 9 from vp_in_nI (by omega) (by omega)) d_Mo_plus_29 ?_
    refine g_eqi (show g (nI o).toNatClampNeg = g o from by rw [nI_clamp (by omega)]) ?_
    refine g_eqi (show g o = nI zo from hgo) ?_
    exact tail zo (by omega) (by omega) (by omega)
  · skip
    have nc_51 : zr > zo := (nn_le (a := zr) (b := zo) (by omega) (by omega)).2 c_51
    refine gs (pc' := 16) (fun _ _ _ _ _ hl => lv_aload_n hx hb d_Mo_plus_15 rfl (lv_at hl 0 rfl)) ?_
    refine g_get hx hb hts hin_Mo hown hK hob rfl 9 (by decide) (hts _ wm763) (fun _ h9 => h9) rfl d_Mo_plus_16 ?_
    refine gs (pc' := 20) (fun _ _ _ _ _ hl => lv_iload_n hx hb d_Mo_plus_19 rfl (lv_at hl 1 rfl)) ?_
    refine g_iald hx hb hK 0 hsz rfl (show vp_in (nI r) 9 from vp_in_nI (by omega) (by omega)) d_Mo_plus_20 ?_
    refine g_eqi (show g (nI r).toNatClampNeg = g r from by rw [nI_clamp (by omega)]) ?_
    refine g_eqi (show g r = nI zr from hgr) ?_
    refine gs (pc' := 30) (fun _ _ _ _ _ hl => lv_goto (tgt := 30) hx hb d_Mo_plus_21 (by decide)) ?_
    exact tail zr (by omega) (by omega) (by omega)
