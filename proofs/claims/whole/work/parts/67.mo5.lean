set_option maxHeartbeats 4000000 in
set_option maxRecDepth 100000 in
theorem c_Mo_multiply (l : Launch) (D : va_G) (cA : Nat → ClassId) (lo MC MS : Nat) (G : gT) (B : Nat × Nat) (hm : Nat) (A : Nat → Nat) (I : Nat → Int32) (hob : G hm = some (70, .inr (9, mfs A I))) (Rg : Nat → Nat) (hR : MR cA A Rg G) (r : Nat) (hb_r : r < 9) (p9 : Nat) (hb_p9 : p9 < 9) (q9 : Nat) (hb_q9 : q9 < 9) (hpr : p9 ≠ r) (hqr : q9 ≠ r) (k1 k2 : Nat) (hk1 : Rg p9 < 1000000000 ^ k1) (hk2 : Rg q9 < 1000000000 ^ k2) (hk : k1 + k2 ≤ 4290) (hB1 : B.1 ≤ MC) (hB2 : B.2 ≤ MS) : gMet l y_Mo_multiply w_Mo_multiply 1 21 D clS (gtys cA) lo MC MS [.ref hm, .int (nI r), .int (nI p9), .int (nI q9)] G B (gQv D clS lo (fun u => u.2 = B ∧ MR cA A (fup Rg r (Rg p9 * Rg q9)) u.1 ∧ u.1 hm = some (70, .inr (9, mfs A I)) ∧ gfr (fun x => x = 75 ∨ x = 76) G u.1)) := by
  refine g_metv (cc := prog_11_method_10_code) (nL := 13) (L := [(0, .ref hm), (1, .int (nI r)), (2, .int (nI p9)), (3, .int (nI q9))]) (by decide +kernel) rfl (Nat.le_of_ble_eq_true rfl) rfl ?_
  intro p e R s m args below meth c Q hF hRc hRs hRf hRl hret
  obtain ⟨hx, hb, hr, hml, hts0, hown, hlocks, hin, hK, hlo, hZ⟩ := hF
  have hts : ∀ w ∈ tbg, w.before args s = true := fun w h => hts0 w (List.mem_cons_of_mem _ h)
  obtain ⟨f, g, hlm, hsz, hRG⟩ := hR
  obtain ⟨zr, hgr, hzr, hDr⟩ := hRG r hb_r
  obtain ⟨zp9, hgp9, hzp9, hDp9⟩ := hRG p9 hb_p9
  obtain ⟨zq9, hgq9, hzq9, hDq9⟩ := hRG q9 hb_q9
  have hlp := hDp9.1
  have hlq := hDq9.1
  have hzpk : zp9 ≤ k1 := isD_size hDp9 hk1
  have hzqk : zq9 ≤ k2 := isD_size hDq9 hk2
  refine gs (pc' := 1) (fun _ _ _ _ _ hl => lv_aload_n hx hb d_Mo_multiply_0 rfl (lv_at hl 0 rfl)) ?_
  refine g_get hx hb hts hin_Mo hown hK hob rfl 9 (by decide) (hts _ wm763) (fun _ h9 => h9) rfl d_Mo_multiply_1 ?_
  refine gs (pc' := 5) (fun _ _ _ _ _ hl => lv_iload_n hx hb d_Mo_multiply_4 rfl (lv_at hl 1 rfl)) ?_
  refine gs (pc' := 6) (fun _ _ _ _ _ hl => lv_aload_n hx hb d_Mo_multiply_5 rfl (lv_at hl 0 rfl)) ?_
  refine g_get hx hb hts hin_Mo hown hK hob rfl 9 (by decide) (hts _ wm763) (fun _ h9 => h9) rfl d_Mo_multiply_6 ?_
  refine gs (pc' := 10) (fun _ _ _ _ _ hl => lv_iload_n hx hb d_Mo_multiply_9 rfl (lv_at hl 2 rfl)) ?_
  refine g_iald hx hb hK 0 hsz rfl (show vp_in (nI p9) 9 from vp_in_nI (by omega) (by omega)) d_Mo_multiply_10 ?_
  refine g_eqi (show g (nI p9).toNatClampNeg = g p9 from by rw [nI_clamp (by omega)]) ?_
  refine g_eqi (show g p9 = nI zp9 from hgp9) ?_
  refine gs (pc' := 12) (fun _ _ _ _ _ hl => lv_aload_n hx hb d_Mo_multiply_11 rfl (lv_at hl 0 rfl)) ?_
  refine g_get hx hb hts hin_Mo hown hK hob rfl 9 (by decide) (hts _ wm763) (fun _ h9 => h9) rfl d_Mo_multiply_12 ?_
  refine gs (pc' := 16) (fun _ _ _ _ _ hl => lv_iload_n hx hb d_Mo_multiply_15 rfl (lv_at hl 3 rfl)) ?_
  refine g_iald hx hb hK 0 hsz rfl (show vp_in (nI q9) 9 from vp_in_nI (by omega) (by omega)) d_Mo_multiply_16 ?_
  refine g_eqi (show g (nI q9).toNatClampNeg = g q9 from by rw [nI_clamp (by omega)]) ?_
  refine g_eqi (show g q9 = nI zq9 from hgq9) ?_
  refine gs (pc' := 18) (fun _ _ _ _ _ hl => lv_iadd hx hb d_Mo_multiply_17) ?_
  refine g_eqi (show (nI zp9) + (nI zq9) = nI (zp9 + zq9) from nI_add _ _) ?_
  refine g_iast hx hb hK 0 hsz rfl (show vp_in (nI r) 9 from vp_in_nI (by omega) (by omega)) d_Mo_multiply_18 (fun G_1 f_2 o_3 => ?_)
  rw [nI_clamp (by omega)] at f_2
  have f_4 : G_1 hm = some (70, .inr (9, [.int (I 0), .int (I 1), .ref (A 2), .ref (A 3), .ref (A 4), .ref (A 5), .int (I 6), .int (I 7), .ref (A 8), .ref (A 9), .int (I 10), .ref (A 11), .ref (A 12), .ref (A 13), .int (I 14), .ref (A 15), .ref (A 16), .ref (A 17), .ref (A 18), .int (I 19), .int (I 20), .int (I 21)])) := (o_3 _ (gne hob hsz (fun e => by cases e))).trans hob
  have f_5 : G_1 (A 8) = some (75, .inl (cA 0, 38700, .inl f)) := (o_3 _ (gne hlm hsz (by simp))).trans hlm
  have gf_6 : gfr (fun x => x = 75 ∨ x = 76) G G_1 := gfr_put gfr_rf hsz (show (76 : Nat) = 75 ∨ (76 : Nat) = 76 by simp) o_3
  obtain ⟨g1, hg1⟩ : ∃ y9, y9 = upd g r (nI (zp9 + zq9)) := ⟨_, rfl⟩
  rw [← hg1] at f_2
  have hg1r : g1 r = nI (zp9 + zq9) := by rw [hg1]; exact pk_us
  have hg1p : g1 p9 = nI zp9 := by rw [hg1]; exact (pk_un hpr).trans hgp9
  have hg1q : g1 q9 = nI zq9 := by rw [hg1]; exact (pk_un hqr).trans hgq9
  have hg1o : ∀ o, o ≠ r → g1 o = g o := fun o9 h9 => by rw [hg1]; exact pk_un h9
  refine gs (pc' := 20) (fun _ _ _ _ _ hl => lv_iconst (v := nI 0) hx hb d_Mo_multiply_19 (by decide)) ?_
  refine gst (pc' := 22) (L' := [(4, .int (nI 0)), (0, .ref hm), (1, .int (nI r)), (2, .int (nI p9)), (3, .int (nI q9))]) (fun _ _ _ _ _ hl => lv_istore hx hb d_Mo_multiply_20 hl (by decide) rfl) ?_
  refine gsub [0, 1, 2, 3, 4] rfl ?_
  have loop : ∀ (n j : Nat) (f1 : Nat → Int32) (Gk : gT), (j + n = zp9 + zq9) → (∀ x, x < j → sh f1 r x = nI 0) → (oth r f f1) → (gfr (fun x => x = 75 ∨ x = 76) G Gk) → Gk hm = some (70, .inr (9, [.int (I 0), .int (I 1), .ref (A 2), .ref (A 3), .ref (A 4), .ref (A 5), .int (I 6), .int (I 7), .ref (A 8), .ref (A 9), .int (I 10), .ref (A 11), .ref (A 12), .ref (A 13), .int (I 14), .ref (A 15), .ref (A 16), .ref (A 17), .ref (A 18), .int (I 19), .int (I 20), .int (I 21)])) → Gk (A 8) = some (75, .inl (cA 0, 38700, .inl f1)) → Gk (A 9) = some (76, .inl (cA 0, 9, .inl g1)) → gV p l e R s m args below meth c D clS lo 13 Q 22 [(4, .int (nI j)), (0, .ref hm), (1, .int (nI r)), (2, .int (nI p9)), (3, .int (nI q9))] [] Gk B := by
    intro n
    induction n with
    | zero =>
      intro j f1 Gk hj hz0 hot hfr k1 k2 k3
      have hjn : zp9 + zq9 = j := by omega
      refine gs (pc' := 24) (fun _ _ _ _ _ hl => lv_iload hx hb d_Mo_multiply_22 (lv_at hl 0 rfl)) ?_
      refine gs (pc' := 25) (fun _ _ _ _ _ hl => lv_aload_n hx hb d_Mo_multiply_24 rfl (lv_at hl 1 rfl)) ?_
      refine g_get hx hb hts hin_Mo hown hK k1 rfl 9 (by decide) (hts _ wm763) (fun _ h9 => h9) rfl d_Mo_multiply_25 ?_
      refine gs (pc' := 29) (fun _ _ _ _ _ hl => lv_iload_n hx hb d_Mo_multiply_28 rfl (lv_at hl 2 rfl)) ?_
      refine g_iald hx hb hK 0 k3 rfl (show vp_in (nI r) 9 from vp_in_nI (by omega) (by omega)) d_Mo_multiply_29 ?_
      refine g_eqi (show g1 (nI r).toNatClampNeg = g1 r from by rw [nI_clamp (by omega)]) ?_
      refine g_eqi (show g1 r = nI (zp9 + zq9) from hg1r) ?_
      refine gsb (pc1 := 53) (pc2 := 33) (fun _ _ _ _ _ => lv_icmp_ge (tgt := 53) hx hb d_Mo_multiply_30 (by decide)) (fun c_7 => ?_) (fun c_7 => ?_)
      · skip
        have nc_7 : j ≥ (zp9 + zq9) := (nn_ge (a := j) (b := (zp9 + zq9)) (by omega) (by omega)).1 c_7
        refine gs (pc' := 54) (fun _ _ _ _ _ hl => lv_iconst (v := nI 0) hx hb d_Mo_multiply_53 (by decide)) ?_
        refine gst (pc' := 56) (L' := [(4, .int (nI 0)), (0, .ref hm), (1, .int (nI r)), (2, .int (nI p9)), (3, .int (nI q9))]) (fun _ _ _ _ _ hl => lv_istore hx hb d_Mo_multiply_54 hl (by decide) rfl) ?_
        refine gsub [0, 1, 2, 3, 4] rfl ?_
        have hzz := sh0_dv (z := zp9 + zq9) (fun x9 h9 => hz0 x9 (by omega))
        have outer : ∀ (n2 i : Nat) (f2 : Nat → Int32) (Gm : gT), (i + n2 = zp9) → (lim (sh f2 r) (zp9 + zq9)) → (dv (df (sh f2 r)) (i + zq9) = dv (df (sh f p9)) i * Rg q9) → (∀ x, i + zq9 ≤ x → x < zp9 + zq9 → df (sh f2 r) x = 0) → (oth r f f2) → (gfr (fun x => x = 75 ∨ x = 76) G Gm) → Gm hm = some (70, .inr (9, [.int (I 0), .int (I 1), .ref (A 2), .ref (A 3), .ref (A 4), .ref (A 5), .int (I 6), .int (I 7), .ref (A 8), .ref (A 9), .int (I 10), .ref (A 11), .ref (A 12), .ref (A 13), .int (I 14), .ref (A 15), .ref (A 16), .ref (A 17), .ref (A 18), .int (I 19), .int (I 20), .int (I 21)])) → Gm (A 8) = some (75, .inl (cA 0, 38700, .inl f2)) → Gm (A 9) = some (76, .inl (cA 0, 9, .inl g1)) → gV p l e R s m args below meth c D clS lo 13 Q 56 [(4, .int (nI i)), (0, .ref hm), (1, .int (nI r)), (2, .int (nI p9)), (3, .int (nI q9))] [] Gm B := by
          intro n2
          induction n2 with
          | zero =>
            intro i f2 Gm hi hlh hv hzr hot2 hfr2 m1 m2 m3
            have hin : zp9 = i := by omega
            refine gs (pc' := 58) (fun _ _ _ _ _ hl => lv_iload hx hb d_Mo_multiply_56 (lv_at hl 0 rfl)) ?_
            refine gs (pc' := 59) (fun _ _ _ _ _ hl => lv_aload_n hx hb d_Mo_multiply_58 rfl (lv_at hl 1 rfl)) ?_
            refine g_get hx hb hts hin_Mo hown hK m1 rfl 9 (by decide) (hts _ wm763) (fun _ h9 => h9) rfl d_Mo_multiply_59 ?_
            refine gs (pc' := 63) (fun _ _ _ _ _ hl => lv_iload_n hx hb d_Mo_multiply_62 rfl (lv_at hl 3 rfl)) ?_
            refine g_iald hx hb hK 0 m3 rfl (show vp_in (nI p9) 9 from vp_in_nI (by omega) (by omega)) d_Mo_multiply_63 ?_
            refine g_eqi (show g1 (nI p9).toNatClampNeg = g1 p9 from by rw [nI_clamp (by omega)]) ?_
            refine g_eqi (show g1 p9 = nI zp9 from hg1p) ?_
            refine gsb (pc1 := 204) (pc2 := 67) (fun _ _ _ _ _ => lv_icmp_ge (tgt := 204) hx hb d_Mo_multiply_64 (by decide)) (fun c_8 => ?_) (fun c_8 => ?_)
            · skip
              have nc_8 : i ≥ zp9 := (nn_ge (a := i) (b := zp9) (by omega) (by omega)).1 c_8
              refine gs (pc' := 205) (fun _ _ _ _ _ hl => lv_aload_n hx hb d_Mo_multiply_204 rfl (lv_at hl 1 rfl)) ?_
              refine gs (pc' := 206) (fun _ _ _ _ _ hl => lv_iload_n hx hb d_Mo_multiply_205 rfl (lv_at hl 2 rfl)) ?_
              refine g_outv hlo (g_runV (As := [.int (nI r)]) (rest := []) ⟨hx, hb, hml, hown, hts⟩ hK hZ hRc hRs (c_Mo_trim l D cA lo MC MS Gm B hm A I m1 f2 g1 m2 m3 r hb_r (zp9 + zq9) hg1r (by omega) hlh (Rg p9 * Rg q9) (by rw [hin, hv, ← hin, hDp9.2.2]) hB1 hB2) (fun _ _ => cwV 1 hts (tb_good (tb_cons wm863 (tb_cons wm865 (tb_cons ws27 (tb_cons wm12 k_Mo_trim))))) rfl rfl rfl (by decide +kernel) ⟨by rw [hRf]; exact Nat.le_of_ble_eq_true rfl, by rw [hRl]; exact Nat.le_of_ble_eq_true rfl⟩) m1 rfl hB1 hB2 rfl (Nat.le_of_ble_eq_true rfl) d_Mo_multiply_206) (fun G_9 B_10 p_11 => ?_)
              obtain ⟨e_12, g_13, y_14, f_15, f_16, f_17, tg_18, to_19, ty_20, tD_21, tf_22⟩ := p_11
              have e_12b : B_10 = B := e_12
              subst e_12b
              have gf_23 : gfr (fun x => x = 75 ∨ x = 76) G G_9 := gfr_mono (gfr_tr hfr2 tf_22) (fun x h9 => by rcases h9 with h9 | h9; exact h9; exact Or.inr h9)
              exact hret 209 _ _ _ d_Mo_multiply_209 hB1 hB2 ⟨rfl, ⟨_, _, f_16, f_17, RG_set' hRG hot2 tg_18 (fun o9 h9 => (to_19 o9 h9).trans (hg1o o9 h9)) (by have := ty_20; omega) tD_21⟩, f_15, gfr_mono gf_23 (fun x h9 => by omega)⟩
            · skip
              have nc_8 : i < zp9 := (nn_ge (a := i) (b := zp9) (by omega) (by omega)).2 c_8
              exact absurd nc_8 (by omega)
          | succ n2 ih2 =>
            intro i f2 Gm hi hlh hv hzr hot2 hfr2 m1 m2 m3
            have hb1 : df (sh f p9) i < 1000000000 := (hlp i (by omega)).2
            refine gs (pc' := 58) (fun _ _ _ _ _ hl => lv_iload hx hb d_Mo_multiply_56 (lv_at hl 0 rfl)) ?_
            refine gs (pc' := 59) (fun _ _ _ _ _ hl => lv_aload_n hx hb d_Mo_multiply_58 rfl (lv_at hl 1 rfl)) ?_
            refine g_get hx hb hts hin_Mo hown hK m1 rfl 9 (by decide) (hts _ wm763) (fun _ h9 => h9) rfl d_Mo_multiply_59 ?_
            refine gs (pc' := 63) (fun _ _ _ _ _ hl => lv_iload_n hx hb d_Mo_multiply_62 rfl (lv_at hl 3 rfl)) ?_
            refine g_iald hx hb hK 0 m3 rfl (show vp_in (nI p9) 9 from vp_in_nI (by omega) (by omega)) d_Mo_multiply_63 ?_
            refine g_eqi (show g1 (nI p9).toNatClampNeg = g1 p9 from by rw [nI_clamp (by omega)]) ?_
            refine g_eqi (show g1 p9 = nI zp9 from hg1p) ?_
            refine gsb (pc1 := 204) (pc2 := 67) (fun _ _ _ _ _ => lv_icmp_ge (tgt := 204) hx hb d_Mo_multiply_64 (by decide)) (fun c_24 => ?_) (fun c_24 => ?_)
            · skip
              have nc_24 : i ≥ zp9 := (nn_ge (a := i) (b := zp9) (by omega) (by omega)).1 c_24
              exact absurd nc_24 (by omega)
            · skip
              have nc_24 : i < zp9 := (nn_ge (a := i) (b := zp9) (by omega) (by omega)).2 c_24
              refine gs (pc' := 68) (fun _ _ _ _ _ hl => lv_lconst (v := lN 0) hx hb d_Mo_multiply_67 (by decide)) ?_
              refine gst (pc' := 70) (L' := [(5, .long (lN 0)), (4, .int (nI i)), (0, .ref hm), (1, .int (nI r)), (2, .int (nI p9)), (3, .int (nI q9))]) (fun _ _ _ _ _ hl => lv_lstore hx hb d_Mo_multiply_68 hl (by decide) rfl) ?_
              refine gs (pc' := 71) (fun _ _ _ _ _ hl => lv_aload_n hx hb d_Mo_multiply_70 rfl (lv_at hl 2 rfl)) ?_
              refine g_get hx hb hts hin_Mo hown hK m1 rfl 8 (by decide) (hts _ wm762) (fun _ h9 => h9) rfl d_Mo_multiply_71 ?_
              refine gs (pc' := 77) (fun _ _ _ _ _ hl => lv_sipush (v := nI 4300) hx hb d_Mo_multiply_74 (by decide)) ?_
              refine gs (pc' := 78) (fun _ _ _ _ _ hl => lv_iload_n hx hb d_Mo_multiply_77 rfl (lv_at hl 4 rfl)) ?_
              refine gs (pc' := 79) (fun _ _ _ _ _ hl => lv_imul hx hb d_Mo_multiply_78) ?_
              refine g_eqi (show (nI 4300) * (nI p9) = nI (4300 * p9) from pk_mul _ _) ?_
              refine gs (pc' := 81) (fun _ _ _ _ _ hl => lv_iload hx hb d_Mo_multiply_79 (lv_at hl 1 rfl)) ?_
              refine gs (pc' := 82) (fun _ _ _ _ _ hl => lv_iadd hx hb d_Mo_multiply_81) ?_
              refine g_eqi (show (nI (4300 * p9)) + (nI i) = nI ((4300 * p9) + i) from nI_add _ _) ?_
              refine g_iald hx hb hK 0 m2 rfl (show vp_in (nI ((4300 * p9) + i)) 38700 from vp_in_nI (by omega) (by omega)) d_Mo_multiply_82 ?_
              refine g_eqi (show f2 (nI ((4300 * p9) + i)).toNatClampNeg = f2 ((4300 * p9) + i) from by rw [nI_clamp (by omega)]) ?_
              refine g_eqi (show f2 ((4300 * p9) + i) = nI (df (sh f p9) i) from (hot2 p9 hpr i (by omega)).trans (hlp i (by omega)).1) ?_
              refine gs (pc' := 84) (fun _ _ _ _ _ hl => lv_i2l (v := lN (df (sh f p9) i)) hx hb d_Mo_multiply_83 (nI_l (by omega))) ?_
              refine gst (pc' := 86) (L' := [(7, .long (lN (df (sh f p9) i))), (5, .long (lN 0)), (4, .int (nI i)), (0, .ref hm), (1, .int (nI r)), (2, .int (nI p9)), (3, .int (nI q9))]) (fun _ _ _ _ _ hl => lv_lstore hx hb d_Mo_multiply_84 hl (by decide) rfl) ?_
              refine gs (pc' := 87) (fun _ _ _ _ _ hl => lv_iconst (v := nI 0) hx hb d_Mo_multiply_86 (by decide)) ?_
              refine gst (pc' := 89) (L' := [(9, .int (nI 0)), (7, .long (lN (df (sh f p9) i))), (5, .long (lN 0)), (4, .int (nI i)), (0, .ref hm), (1, .int (nI r)), (2, .int (nI p9)), (3, .int (nI q9))]) (fun _ _ _ _ _ hl => lv_istore hx hb d_Mo_multiply_87 hl (by decide) rfl) ?_
              refine gsub [0, 2, 1, 3, 4, 5, 6, 7] rfl ?_
              have inner : ∀ (n3 j c0 : Nat) (f3 : Nat → Int32) (Gn : gT), (j + n3 = zq9) → (c0 < 1000000000) → (lim (sh f3 r) (zp9 + zq9)) → (dv (df (sh f3 r)) (i + j) + c0 * 1000000000 ^ (i + j) = dv (df (sh f2 r)) (i + j) + df (sh f p9) i * dv (df (sh f q9)) j * 1000000000 ^ i) → (∀ x, i + j ≤ x → x < zp9 + zq9 → df (sh f3 r) x = df (sh f2 r) x) → (oth r f f3) → (gfr (fun x => x = 75 ∨ x = 76) G Gn) → Gn hm = some (70, .inr (9, [.int (I 0), .int (I 1), .ref (A 2), .ref (A 3), .ref (A 4), .ref (A 5), .int (I 6), .int (I 7), .ref (A 8), .ref (A 9), .int (I 10), .ref (A 11), .ref (A 12), .ref (A 13), .int (I 14), .ref (A 15), .ref (A 16), .ref (A 17), .ref (A 18), .int (I 19), .int (I 20), .int (I 21)])) → Gn (A 8) = some (75, .inl (cA 0, 38700, .inl f3)) → Gn (A 9) = some (76, .inl (cA 0, 9, .inl g1)) → gV p l e R s m args below meth c D clS lo 13 Q 89 [(9, .int (nI j)), (5, .long (lN c0)), (7, .long (lN (df (sh f p9) i))), (4, .int (nI i)), (0, .ref hm), (1, .int (nI r)), (2, .int (nI p9)), (3, .int (nI q9))] [] Gn B := by
                intro n3
                induction n3 with
                | zero =>
                  intro j c0 f3 Gn hj2 hc0 hl3 hin hrest hot3 hfr3 n1 n2_ n3_
                  have hjM : zq9 = j := by omega
                  rw [← hjM] at hin hrest
                  refine gs (pc' := 91) (fun _ _ _ _ _ hl => lv_iload hx hb d_Mo_multiply_89 (lv_at hl 0 rfl)) ?_
                  refine gs (pc' := 92) (fun _ _ _ _ _ hl => lv_aload_n hx hb d_Mo_multiply_91 rfl (lv_at hl 4 rfl)) ?_
                  refine g_get hx hb hts hin_Mo hown hK n1 rfl 9 (by decide) (hts _ wm763) (fun _ h9 => h9) rfl d_Mo_multiply_92 ?_
                  refine gs (pc' := 96) (fun _ _ _ _ _ hl => lv_iload_n hx hb d_Mo_multiply_95 rfl (lv_at hl 7 rfl)) ?_
                  refine g_iald hx hb hK 0 n3_ rfl (show vp_in (nI q9) 9 from vp_in_nI (by omega) (by omega)) d_Mo_multiply_96 ?_
                  refine g_eqi (show g1 (nI q9).toNatClampNeg = g1 q9 from by rw [nI_clamp (by omega)]) ?_
                  refine g_eqi (show g1 q9 = nI zq9 from hg1q) ?_
                  refine gsb (pc1 := 175) (pc2 := 100) (fun _ _ _ _ _ => lv_icmp_ge (tgt := 175) hx hb d_Mo_multiply_97 (by decide)) (fun c_25 => ?_) (fun c_25 => ?_)
                  · skip
                    have nc_25 : j ≥ zq9 := (nn_ge (a := j) (b := zq9) (by omega) (by omega)).1 c_25
                    refine gs (pc' := 176) (fun _ _ _ _ _ hl => lv_aload_n hx hb d_Mo_multiply_175 rfl (lv_at hl 4 rfl)) ?_
                    refine g_get hx hb hts hin_Mo hown hK n1 rfl 8 (by decide) (hts _ wm762) (fun _ h9 => h9) rfl d_Mo_multiply_176 ?_
                    refine gs (pc' := 182) (fun _ _ _ _ _ hl => lv_sipush (v := nI 4300) hx hb d_Mo_multiply_179 (by decide)) ?_
                    refine gs (pc' := 183) (fun _ _ _ _ _ hl => lv_iload_n hx hb d_Mo_multiply_182 rfl (lv_at hl 5 rfl)) ?_
                    refine gs (pc' := 184) (fun _ _ _ _ _ hl => lv_imul hx hb d_Mo_multiply_183) ?_
                    refine g_eqi (show (nI 4300) * (nI r) = nI (4300 * r) from pk_mul _ _) ?_
                    refine gs (pc' := 186) (fun _ _ _ _ _ hl => lv_iload hx hb d_Mo_multiply_184 (lv_at hl 3 rfl)) ?_
                    refine gs (pc' := 187) (fun _ _ _ _ _ hl => lv_iadd hx hb d_Mo_multiply_186) ?_
                    refine g_eqi (show (nI (4300 * r)) + (nI i) = nI ((4300 * r) + i) from nI_add _ _) ?_
                    refine gs (pc' := 188) (fun _ _ _ _ _ hl => lv_aload_n hx hb d_Mo_multiply_187 rfl (lv_at hl 4 rfl)) ?_
                    refine g_get hx hb hts hin_Mo hown hK n1 rfl 9 (by decide) (hts _ wm763) (fun _ h9 => h9) rfl d_Mo_multiply_188 ?_
                    refine gs (pc' := 192) (fun _ _ _ _ _ hl => lv_iload_n hx hb d_Mo_multiply_191 rfl (lv_at hl 7 rfl)) ?_
                    refine g_iald hx hb hK 0 n3_ rfl (show vp_in (nI q9) 9 from vp_in_nI (by omega) (by omega)) d_Mo_multiply_192 ?_
                    refine g_eqi (show g1 (nI q9).toNatClampNeg = g1 q9 from by rw [nI_clamp (by omega)]) ?_
                    refine g_eqi (show g1 q9 = nI zq9 from hg1q) ?_
                    refine gs (pc' := 194) (fun _ _ _ _ _ hl => lv_iadd hx hb d_Mo_multiply_193) ?_
                    refine g_eqi (show (nI ((4300 * r) + i)) + (nI zq9) = nI (4300 * r + (i + zq9)) from (nI_add _ _).trans (congrArg nI (show ((4300 * r) + i) + zq9 = 4300 * r + (i + zq9) by omega))) ?_
                    refine gs (pc' := 196) (fun _ _ _ _ _ hl => lv_lload hx hb d_Mo_multiply_194 (lv_at hl 1 rfl)) ?_
                    refine gs (pc' := 197) (fun _ _ _ _ _ hl => lv_l2i (v := nI c0) hx hb d_Mo_multiply_196 (lN_i _)) ?_
                    refine g_iast hx hb hK 0 n2_ rfl (show vp_in (nI (4300 * r + (i + zq9))) 38700 from vp_in_nI (by omega) (by omega)) d_Mo_multiply_197 (fun G_26 f_27 o_28 => ?_)
                    rw [nI_clamp (by omega)] at f_27
                    have f_29 : G_26 hm = some (70, .inr (9, [.int (I 0), .int (I 1), .ref (A 2), .ref (A 3), .ref (A 4), .ref (A 5), .int (I 6), .int (I 7), .ref (A 8), .ref (A 9), .int (I 10), .ref (A 11), .ref (A 12), .ref (A 13), .int (I 14), .ref (A 15), .ref (A 16), .ref (A 17), .ref (A 18), .int (I 19), .int (I 20), .int (I 21)])) := (o_28 _ (gne n1 n2_ (fun e => by cases e))).trans n1
                    have f_30 : G_26 (A 9) = some (76, .inl (cA 0, 9, .inl g1)) := (o_28 _ (gne n3_ n2_ (by simp))).trans n3_
                    refine gst (pc' := 201) (L' := [(4, .int (nI (i + 1))), (9, .int (nI j)), (5, .long (lN c0)), (7, .long (lN (df (sh f p9) i))), (0, .ref hm), (1, .int (nI r)), (2, .int (nI p9)), (3, .int (nI q9))]) (fun _ _ _ _ _ hl => lv_iinc (v := nI (i + 1)) hx hb d_Mo_multiply_198 hl (k := 3) rfl (nI_add _ 1) (by decide) rfl) ?_
                    refine gs (pc' := 56) (fun _ _ _ _ _ hl => lv_goto (tgt := 56) hx hb d_Mo_multiply_201 (by decide)) ?_
                    refine gsub [0, 4, 5, 6, 7] rfl ?_
                    exact ih2 (i + 1) (upd f3 (4300 * r + (i + zq9)) (nI c0)) G_26 (by omega) (by rw [sh_us]; exact lim_upd hl3 hc0) (by rw [sh_us, show i + 1 + zq9 = i + zq9 + 1 by omega, dv_upd_s (by omega), hin, hv, hDq9.2.2, dv_s]; grind) (fun x9 h1 h2 => by rw [sh_us, df_un (by omega), hrest x9 (by omega) h2]; exact hzr x9 (by omega) h2) (oth_up hot3 (by omega)) (gfr_put hfr3 n2_ (Or.inl rfl) o_28) f_29 f_27 f_30
                  · skip
                    have nc_25 : j < zq9 := (nn_ge (a := j) (b := zq9) (by omega) (by omega)).2 c_25
                    exact absurd nc_25 (by omega)
                | succ n3 ih3 =>
                  intro j c0 f3 Gn hj2 hc0 hl3 hin hrest hot3 hfr3 n1 n2_ n3_
                  have hb2 : df (sh f q9) j < 1000000000 := (hlq j (by omega)).2
                  have hb3 : df (sh f3 r) (i + j) < 1000000000 := (hl3 (i + j) (by omega)).2
                  have hmu : df (sh f p9) i * df (sh f q9) j ≤ 999999999 * 999999999 := Nat.mul_le_mul (by omega) (by omega)
                  refine gs (pc' := 91) (fun _ _ _ _ _ hl => lv_iload hx hb d_Mo_multiply_89 (lv_at hl 0 rfl)) ?_
                  refine gs (pc' := 92) (fun _ _ _ _ _ hl => lv_aload_n hx hb d_Mo_multiply_91 rfl (lv_at hl 4 rfl)) ?_
                  refine g_get hx hb hts hin_Mo hown hK n1 rfl 9 (by decide) (hts _ wm763) (fun _ h9 => h9) rfl d_Mo_multiply_92 ?_
                  refine gs (pc' := 96) (fun _ _ _ _ _ hl => lv_iload_n hx hb d_Mo_multiply_95 rfl (lv_at hl 7 rfl)) ?_
                  refine g_iald hx hb hK 0 n3_ rfl (show vp_in (nI q9) 9 from vp_in_nI (by omega) (by omega)) d_Mo_multiply_96 ?_
                  refine g_eqi (show g1 (nI q9).toNatClampNeg = g1 q9 from by rw [nI_clamp (by omega)]) ?_
                  refine g_eqi (show g1 q9 = nI zq9 from hg1q) ?_
                  refine gsb (pc1 := 175) (pc2 := 100) (fun _ _ _ _ _ => lv_icmp_ge (tgt := 175) hx hb d_Mo_multiply_97 (by decide)) (fun c_31 => ?_) (fun c_31 => ?_)
                  · skip
                    have nc_31 : j ≥ zq9 := (nn_ge (a := j) (b := zq9) (by omega) (by omega)).1 c_31
                    exact absurd nc_31 (by omega)
                  · skip
                    have nc_31 : j < zq9 := (nn_ge (a := j) (b := zq9) (by omega) (by omega)).2 c_31
                    refine gs (pc' := 103) (fun _ _ _ _ _ hl => lv_sipush (v := nI 4300) hx hb d_Mo_multiply_100 (by decide)) ?_
                    refine gs (pc' := 104) (fun _ _ _ _ _ hl => lv_iload_n hx hb d_Mo_multiply_103 rfl (lv_at hl 5 rfl)) ?_
                    refine gs (pc' := 105) (fun _ _ _ _ _ hl => lv_imul hx hb d_Mo_multiply_104) ?_
                    refine g_eqi (show (nI 4300) * (nI r) = nI (4300 * r) from pk_mul _ _) ?_
                    refine gs (pc' := 107) (fun _ _ _ _ _ hl => lv_iload hx hb d_Mo_multiply_105 (lv_at hl 3 rfl)) ?_
                    refine gs (pc' := 108) (fun _ _ _ _ _ hl => lv_iadd hx hb d_Mo_multiply_107) ?_
                    refine g_eqi (show (nI (4300 * r)) + (nI i) = nI ((4300 * r) + i) from nI_add _ _) ?_
                    refine gs (pc' := 110) (fun _ _ _ _ _ hl => lv_iload hx hb d_Mo_multiply_108 (lv_at hl 0 rfl)) ?_
                    refine gs (pc' := 111) (fun _ _ _ _ _ hl => lv_iadd hx hb d_Mo_multiply_110) ?_
                    refine g_eqi (show (nI ((4300 * r) + i)) + (nI j) = nI (4300 * r + (i + j)) from (nI_add _ _).trans (congrArg nI (show ((4300 * r) + i) + j = 4300 * r + (i + j) by omega))) ?_
                    refine gst (pc' := 113) (L' := [(10, .int (nI (4300 * r + (i + j)))), (9, .int (nI j)), (5, .long (lN c0)), (7, .long (lN (df (sh f p9) i))), (4, .int (nI i)), (0, .ref hm), (1, .int (nI r)), (2, .int (nI p9)), (3, .int (nI q9))]) (fun _ _ _ _ _ hl => lv_istore hx hb d_Mo_multiply_111 hl (by decide) rfl) ?_
                    refine gs (pc' := 115) (fun _ _ _ _ _ hl => lv_lload hx hb d_Mo_multiply_113 (lv_at hl 3 rfl)) ?_
                    refine gs (pc' := 116) (fun _ _ _ _ _ hl => lv_aload_n hx hb d_Mo_multiply_115 rfl (lv_at hl 5 rfl)) ?_
                    refine g_get hx hb hts hin_Mo hown hK n1 rfl 8 (by decide) (hts _ wm762) (fun _ h9 => h9) rfl d_Mo_multiply_116 ?_
                    refine gs (pc' := 122) (fun _ _ _ _ _ hl => lv_sipush (v := nI 4300) hx hb d_Mo_multiply_119 (by decide)) ?_
                    refine gs (pc' := 123) (fun _ _ _ _ _ hl => lv_iload_n hx hb d_Mo_multiply_122 rfl (lv_at hl 8 rfl)) ?_
                    refine gs (pc' := 124) (fun _ _ _ _ _ hl => lv_imul hx hb d_Mo_multiply_123) ?_
                    refine g_eqi (show (nI 4300) * (nI q9) = nI (4300 * q9) from pk_mul _ _) ?_
                    refine gs (pc' := 126) (fun _ _ _ _ _ hl => lv_iload hx hb d_Mo_multiply_124 (lv_at hl 1 rfl)) ?_
                    refine gs (pc' := 127) (fun _ _ _ _ _ hl => lv_iadd hx hb d_Mo_multiply_126) ?_
                    refine g_eqi (show (nI (4300 * q9)) + (nI j) = nI ((4300 * q9) + j) from nI_add _ _) ?_
                    refine g_iald hx hb hK 0 n2_ rfl (show vp_in (nI ((4300 * q9) + j)) 38700 from vp_in_nI (by omega) (by omega)) d_Mo_multiply_127 ?_
                    refine g_eqi (show f3 (nI ((4300 * q9) + j)).toNatClampNeg = f3 ((4300 * q9) + j) from by rw [nI_clamp (by omega)]) ?_
                    refine g_eqi (show f3 ((4300 * q9) + j) = nI (df (sh f q9) j) from (hot3 q9 hqr j (by omega)).trans (hlq j (by omega)).1) ?_
                    refine gs (pc' := 129) (fun _ _ _ _ _ hl => lv_i2l (v := lN (df (sh f q9) j)) hx hb d_Mo_multiply_128 (nI_l (by omega))) ?_
                    refine gs (pc' := 130) (fun _ _ _ _ _ hl => lv_lmul hx hb d_Mo_multiply_129) ?_
                    refine g_eql (show (lN (df (sh f p9) i)) * (lN (df (sh f q9) j)) = lN ((df (sh f p9) i) * (df (sh f q9) j)) from lN_mul _ _) ?_
                    refine gs (pc' := 131) (fun _ _ _ _ _ hl => lv_aload_n hx hb d_Mo_multiply_130 rfl (lv_at hl 5 rfl)) ?_
                    refine g_get hx hb hts hin_Mo hown hK n1 rfl 8 (by decide) (hts _ wm762) (fun _ h9 => h9) rfl d_Mo_multiply_131 ?_
                    refine gs (pc' := 136) (fun _ _ _ _ _ hl => lv_iload hx hb d_Mo_multiply_134 (lv_at hl 0 rfl)) ?_
                    refine g_iald hx hb hK 0 n2_ rfl (show vp_in (nI (4300 * r + (i + j))) 38700 from vp_in_nI (by omega) (by omega)) d_Mo_multiply_136 ?_
                    refine g_eqi (show f3 (nI (4300 * r + (i + j))).toNatClampNeg = f3 (4300 * r + (i + j)) from by rw [nI_clamp (by omega)]) ?_
                    refine g_eqi (show f3 (4300 * r + (i + j)) = nI (df (sh f3 r) (i + j)) from (hl3 (i + j) (by omega)).1) ?_
                    refine gs (pc' := 138) (fun _ _ _ _ _ hl => lv_i2l (v := lN (df (sh f3 r) (i + j))) hx hb d_Mo_multiply_137 (nI_l (by omega))) ?_
                    refine gs (pc' := 139) (fun _ _ _ _ _ hl => lv_ladd hx hb d_Mo_multiply_138) ?_
                    refine g_eql (show (lN ((df (sh f p9) i) * (df (sh f q9) j))) + (lN (df (sh f3 r) (i + j))) = lN (((df (sh f p9) i) * (df (sh f q9) j)) + (df (sh f3 r) (i + j))) from lN_add _ _) ?_
                    refine gs (pc' := 141) (fun _ _ _ _ _ hl => lv_lload hx hb d_Mo_multiply_139 (lv_at hl 2 rfl)) ?_
                    refine gs (pc' := 142) (fun _ _ _ _ _ hl => lv_ladd hx hb d_Mo_multiply_141) ?_
                    refine g_eql (show (lN (((df (sh f p9) i) * (df (sh f q9) j)) + (df (sh f3 r) (i + j)))) + (lN c0) = lN ((((df (sh f p9) i) * (df (sh f q9) j)) + (df (sh f3 r) (i + j))) + c0) from lN_add _ _) ?_
                    refine gst (pc' := 144) (L' := [(11, .long (lN ((((df (sh f p9) i) * (df (sh f q9) j)) + (df (sh f3 r) (i + j))) + c0))), (10, .int (nI (4300 * r + (i + j)))), (9, .int (nI j)), (5, .long (lN c0)), (7, .long (lN (df (sh f p9) i))), (4, .int (nI i)), (0, .ref hm), (1, .int (nI r)), (2, .int (nI p9)), (3, .int (nI q9))]) (fun _ _ _ _ _ hl => lv_lstore hx hb d_Mo_multiply_142 hl (by decide) rfl) ?_
                    refine gs (pc' := 146) (fun _ _ _ _ _ hl => lv_lload hx hb d_Mo_multiply_144 (lv_at hl 0 rfl)) ?_
                    refine gs (pc' := 149) (fun _ _ _ _ _ hl => lv_ldc2 (v := 1000000000) hx hb hown (hts _ wm842) d_Mo_multiply_146) ?_
                    refine g_eql (show 1000000000 = lN 1000000000 from rfl) ?_
                    refine gs (pc' := 150) (fun _ _ _ _ _ hl => lv_ldiv hx hb d_Mo_multiply_149 (by decide)) ?_
                    refine g_eql (show (lN ((((df (sh f p9) i) * (df (sh f q9) j)) + (df (sh f3 r) (i + j))) + c0)) / (lN 1000000000) = lN (((((df (sh f p9) i) * (df (sh f q9) j)) + (df (sh f3 r) (i + j))) + c0) / 1000000000) from pk_lDiv (by omega) (by omega) (by omega)) ?_
                    refine gst (pc' := 152) (L' := [(5, .long (lN (((((df (sh f p9) i) * (df (sh f q9) j)) + (df (sh f3 r) (i + j))) + c0) / 1000000000))), (11, .long (lN ((((df (sh f p9) i) * (df (sh f q9) j)) + (df (sh f3 r) (i + j))) + c0))), (10, .int (nI (4300 * r + (i + j)))), (9, .int (nI j)), (7, .long (lN (df (sh f p9) i))), (4, .int (nI i)), (0, .ref hm), (1, .int (nI r)), (2, .int (nI p9)), (3, .int (nI q9))]) (fun _ _ _ _ _ hl => lv_lstore hx hb d_Mo_multiply_150 hl (by decide) rfl) ?_
                    refine gs (pc' := 153) (fun _ _ _ _ _ hl => lv_aload_n hx hb d_Mo_multiply_152 rfl (lv_at hl 6 rfl)) ?_
                    refine g_get hx hb hts hin_Mo hown hK n1 rfl 8 (by decide) (hts _ wm762) (fun _ h9 => h9) rfl d_Mo_multiply_153 ?_
                    refine gs (pc' := 158) (fun _ _ _ _ _ hl => lv_iload hx hb d_Mo_multiply_156 (lv_at hl 2 rfl)) ?_
                    refine gs (pc' := 160) (fun _ _ _ _ _ hl => lv_lload hx hb d_Mo_multiply_158 (lv_at hl 1 rfl)) ?_
                    refine gs (pc' := 162) (fun _ _ _ _ _ hl => lv_lload hx hb d_Mo_multiply_160 (lv_at hl 0 rfl)) ?_
                    refine gs (pc' := 165) (fun _ _ _ _ _ hl => lv_ldc2 (v := 1000000000) hx hb hown (hts _ wm842) d_Mo_multiply_162) ?_
                    refine g_eql (show 1000000000 = lN 1000000000 from rfl) ?_
                    refine gs (pc' := 166) (fun _ _ _ _ _ hl => lv_lmul hx hb d_Mo_multiply_165) ?_
                    refine g_eql (show (lN (((((df (sh f p9) i) * (df (sh f q9) j)) + (df (sh f3 r) (i + j))) + c0) / 1000000000)) * (lN 1000000000) = lN ((((((df (sh f p9) i) * (df (sh f q9) j)) + (df (sh f3 r) (i + j))) + c0) / 1000000000) * 1000000000) from lN_mul _ _) ?_
                    refine gs (pc' := 167) (fun _ _ _ _ _ hl => lv_lsub hx hb d_Mo_multiply_166) ?_
                    refine g_eql (show (lN ((((df (sh f p9) i) * (df (sh f q9) j)) + (df (sh f3 r) (i + j))) + c0)) - (lN ((((((df (sh f p9) i) * (df (sh f q9) j)) + (df (sh f3 r) (i + j))) + c0) / 1000000000) * 1000000000)) = lN ((df (sh f p9) i * df (sh f q9) j + df (sh f3 r) (i + j) + c0) % 1000000000) from (lN_sub (by omega)).trans (congrArg lN (show ((((df (sh f p9) i) * (df (sh f q9) j)) + (df (sh f3 r) (i + j))) + c0) - ((((((df (sh f p9) i) * (df (sh f q9) j)) + (df (sh f3 r) (i + j))) + c0) / 1000000000) * 1000000000) = (df (sh f p9) i * df (sh f q9) j + df (sh f3 r) (i + j) + c0) % 1000000000 by omega))) ?_
                    refine gs (pc' := 168) (fun _ _ _ _ _ hl => lv_l2i (v := nI ((df (sh f p9) i * df (sh f q9) j + df (sh f3 r) (i + j) + c0) % 1000000000)) hx hb d_Mo_multiply_167 (lN_i _)) ?_
                    refine g_iast hx hb hK 0 n2_ rfl (show vp_in (nI (4300 * r + (i + j))) 38700 from vp_in_nI (by omega) (by omega)) d_Mo_multiply_168 (fun G_32 f_33 o_34 => ?_)
                    rw [nI_clamp (by omega)] at f_33
                    have f_35 : G_32 hm = some (70, .inr (9, [.int (I 0), .int (I 1), .ref (A 2), .ref (A 3), .ref (A 4), .ref (A 5), .int (I 6), .int (I 7), .ref (A 8), .ref (A 9), .int (I 10), .ref (A 11), .ref (A 12), .ref (A 13), .int (I 14), .ref (A 15), .ref (A 16), .ref (A 17), .ref (A 18), .int (I 19), .int (I 20), .int (I 21)])) := (o_34 _ (gne n1 n2_ (fun e => by cases e))).trans n1
                    have f_36 : G_32 (A 9) = some (76, .inl (cA 0, 9, .inl g1)) := (o_34 _ (gne n3_ n2_ (by simp))).trans n3_
                    refine gst (pc' := 172) (L' := [(9, .int (nI (j + 1))), (5, .long (lN (((((df (sh f p9) i) * (df (sh f q9) j)) + (df (sh f3 r) (i + j))) + c0) / 1000000000))), (11, .long (lN ((((df (sh f p9) i) * (df (sh f q9) j)) + (df (sh f3 r) (i + j))) + c0))), (10, .int (nI (4300 * r + (i + j)))), (7, .long (lN (df (sh f p9) i))), (4, .int (nI i)), (0, .ref hm), (1, .int (nI r)), (2, .int (nI p9)), (3, .int (nI q9))]) (fun _ _ _ _ _ hl => lv_iinc (v := nI (j + 1)) hx hb d_Mo_multiply_169 hl (k := 3) rfl (nI_add _ 1) (by decide) rfl) ?_
                    refine gs (pc' := 89) (fun _ _ _ _ _ hl => lv_goto (tgt := 89) hx hb d_Mo_multiply_172 (by decide)) ?_
                    refine gsub [0, 1, 4, 5, 6, 7, 8, 9] rfl ?_
                    have hq := hrest (i + j) (Nat.le_refl _) (by omega)
                    exact ih3 (j + 1) (((((df (sh f p9) i) * (df (sh f q9) j)) + (df (sh f3 r) (i + j))) + c0) / 1000000000) (upd f3 (4300 * r + (i + j)) (nI ((df (sh f p9) i * df (sh f q9) j + df (sh f3 r) (i + j) + c0) % 1000000000))) G_32 (by omega) (by omega) (by rw [sh_us]; exact lim_upd hl3 (by omega)) (by rw [sh_us, show i + (j + 1) = i + j + 1 by omega, dv_upd_s (by omega), dv_s, dv_s]; exact st_prd hin (by rw [← hq]; omega)) (fun x9 h1 h2 => by rw [sh_us, df_un (by omega)]; exact hrest x9 (by omega) h2) (oth_up hot3 (by omega)) (gfr_put hfr3 n2_ (Or.inl rfl) o_34) f_35 f_33 f_36
              exact inner zq9 0 0 f2 Gm (by omega) (by omega) hlh (by simp [dv_0]) (fun _ _ _ => rfl) hot2 hfr2 m1 m2 m3
        exact outer zp9 0 f1 Gk (by omega) hzz.1 (by rw [hzz.2 _ (by omega), dv_0, Nat.zero_mul]) (fun x9 h1 h2 => by unfold df; rw [hz0 x9 (by omega)]; rfl) hot hfr k1 k2 k3
      · skip
        have nc_7 : j < (zp9 + zq9) := (nn_ge (a := j) (b := (zp9 + zq9)) (by omega) (by omega)).2 c_7
        exact absurd nc_7 (by omega)
    | succ n ih =>
      intro j f1 Gk hj hz0 hot hfr k1 k2 k3
      refine gs (pc' := 24) (fun _ _ _ _ _ hl => lv_iload hx hb d_Mo_multiply_22 (lv_at hl 0 rfl)) ?_
      refine gs (pc' := 25) (fun _ _ _ _ _ hl => lv_aload_n hx hb d_Mo_multiply_24 rfl (lv_at hl 1 rfl)) ?_
      refine g_get hx hb hts hin_Mo hown hK k1 rfl 9 (by decide) (hts _ wm763) (fun _ h9 => h9) rfl d_Mo_multiply_25 ?_
      refine gs (pc' := 29) (fun _ _ _ _ _ hl => lv_iload_n hx hb d_Mo_multiply_28 rfl (lv_at hl 2 rfl)) ?_
      refine g_iald hx hb hK 0 k3 rfl (show vp_in (nI r) 9 from vp_in_nI (by omega) (by omega)) d_Mo_multiply_29 ?_
      refine g_eqi (show g1 (nI r).toNatClampNeg = g1 r from by rw [nI_clamp (by omega)]) ?_
      refine g_eqi (show g1 r = nI (zp9 + zq9) from hg1r) ?_
      refine gsb (pc1 := 53) (pc2 := 33) (fun _ _ _ _ _ => lv_icmp_ge (tgt := 53) hx hb d_Mo_multiply_30 (by decide)) (fun c_37 => ?_) (fun c_37 => ?_)
      · skip
        have nc_37 : j ≥ (zp9 + zq9) := (nn_ge (a := j) (b := (zp9 + zq9)) (by omega) (by omega)).1 c_37
        exact absurd nc_37 (by omega)
      · skip
        have nc_37 : j < (zp9 + zq9) := (nn_ge (a := j) (b := (zp9 + zq9)) (by omega) (by omega)).2 c_37
        refine gs (pc' := 34) (fun _ _ _ _ _ hl => lv_aload_n hx hb d_Mo_multiply_33 rfl (lv_at hl 1 rfl)) ?_
        refine g_get hx hb hts hin_Mo hown hK k1 rfl 8 (by decide) (hts _ wm762) (fun _ h9 => h9) rfl d_Mo_multiply_34 ?_
        refine gs (pc' := 40) (fun _ _ _ _ _ hl => lv_sipush (v := nI 4300) hx hb d_Mo_multiply_37 (by decide)) ?_
        refine gs (pc' := 41) (fun _ _ _ _ _ hl => lv_iload_n hx hb d_Mo_multiply_40 rfl (lv_at hl 2 rfl)) ?_
        refine gs (pc' := 42) (fun _ _ _ _ _ hl => lv_imul hx hb d_Mo_multiply_41) ?_
        refine g_eqi (show (nI 4300) * (nI r) = nI (4300 * r) from pk_mul _ _) ?_
        refine gs (pc' := 44) (fun _ _ _ _ _ hl => lv_iload hx hb d_Mo_multiply_42 (lv_at hl 0 rfl)) ?_
        refine gs (pc' := 45) (fun _ _ _ _ _ hl => lv_iadd hx hb d_Mo_multiply_44) ?_
        refine g_eqi (show (nI (4300 * r)) + (nI j) = nI ((4300 * r) + j) from nI_add _ _) ?_
        refine gs (pc' := 46) (fun _ _ _ _ _ hl => lv_iconst (v := nI 0) hx hb d_Mo_multiply_45 (by decide)) ?_
        refine g_iast hx hb hK 0 k2 rfl (show vp_in (nI ((4300 * r) + j)) 38700 from vp_in_nI (by omega) (by omega)) d_Mo_multiply_46 (fun G_38 f_39 o_40 => ?_)
        rw [nI_clamp (by omega)] at f_39
        have f_41 : G_38 hm = some (70, .inr (9, [.int (I 0), .int (I 1), .ref (A 2), .ref (A 3), .ref (A 4), .ref (A 5), .int (I 6), .int (I 7), .ref (A 8), .ref (A 9), .int (I 10), .ref (A 11), .ref (A 12), .ref (A 13), .int (I 14), .ref (A 15), .ref (A 16), .ref (A 17), .ref (A 18), .int (I 19), .int (I 20), .int (I 21)])) := (o_40 _ (gne k1 k2 (fun e => by cases e))).trans k1
        have f_42 : G_38 (A 9) = some (76, .inl (cA 0, 9, .inl g1)) := (o_40 _ (gne k3 k2 (by simp))).trans k3
        refine gst (pc' := 50) (L' := [(4, .int (nI (j + 1))), (0, .ref hm), (1, .int (nI r)), (2, .int (nI p9)), (3, .int (nI q9))]) (fun _ _ _ _ _ hl => lv_iinc (v := nI (j + 1)) hx hb d_Mo_multiply_47 hl (k := 0) rfl (nI_add _ 1) (by decide) rfl) ?_
        refine gs (pc' := 22) (fun _ _ _ _ _ hl => lv_goto (tgt := 22) hx hb d_Mo_multiply_50 (by decide)) ?_
        refine gsub [0, 1, 2, 3, 4] rfl ?_
        exact ih (j + 1) (upd f1 ((4300 * r) + j) (nI 0)) G_38 (by omega) (fun x9 h9 => by
          rw [sh_us]
          by_cases e9 : x9 = j
          · subst e9; exact pk_us
          · rw [pk_un e9]; exact hz0 x9 (by omega)) (oth_up hot (by omega)) (gfr_put hfr k2 (Or.inl rfl) o_40) f_41 f_39 f_42
  exact loop (zp9 + zq9) 0 f G_1 (by omega) (fun x9 h9 => absurd h9 (Nat.not_lt_zero _)) oth_rf gf_6 f_4 f_5 f_2
