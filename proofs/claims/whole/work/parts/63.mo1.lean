set_option maxHeartbeats 4000000 in
set_option maxRecDepth 100000 in
theorem c_Mo_limb (l : Launch) (D : va_G) (cA : Nat → ClassId) (lo MC MS : Nat) (G : gT) (B : Nat × Nat) (hm : Nat) (A : Nat → Nat) (I : Nat → Int32) (hob : G hm = some (70, .inr (9, mfs A I))) (f g : Nat → Int32) (hlm : G (A 8) = some (75, .inl (cA 0, 38700, .inl f))) (hsz : G (A 9) = some (76, .inl (cA 0, 9, .inl g))) (r : Nat) (hr : r < 9) (z : Nat) (hg : g r = nI z) (hz : z ≤ 4300) (hl : lim (sh f r) z) (k : Nat) (hk : k < 5000) (hB1 : B.1 ≤ MC) (hB2 : B.2 ≤ MS) : gMet l y_Mo_limb w_Mo_limb 0 0 D clS (gtys cA) lo MC MS [.ref hm, .int (nI r), .int (nI k)] G B (gQi D clS lo (fun r9 u => u = (G, B) ∧ r9 = nI (dx (sh f r) z k))) := by
  refine g_meti (cc := prog_11_method_3_code) (nL := 3) (L := [(0, .ref hm), (1, .int (nI r)), (2, .int (nI k))]) (by decide +kernel) rfl (Nat.le_of_ble_eq_true rfl) rfl ?_
  intro p e R s m args below meth c Q hF hRc hRs hRf hRl hret
  obtain ⟨hx, hb, hr, hml, hts0, hown, hlocks, hin, hK, hlo, hZ⟩ := hF
  have hts : ∀ w ∈ tbg, w.before args s = true := fun w h => hts0 w (List.mem_cons_of_mem _ h)
  refine gs (pc' := 1) (fun _ _ _ _ _ hl => lv_iload_n hx hb d_Mo_limb_0 rfl (lv_at hl 2 rfl)) ?_
  refine gs (pc' := 2) (fun _ _ _ _ _ hl => lv_aload_n hx hb d_Mo_limb_1 rfl (lv_at hl 0 rfl)) ?_
  refine g_get hx hb hts hin_Mo hown hK hob rfl 9 (by decide) (hts _ wm763) (fun _ h9 => h9) rfl d_Mo_limb_2 ?_
  refine gs (pc' := 6) (fun _ _ _ _ _ hl => lv_iload_n hx hb d_Mo_limb_5 rfl (lv_at hl 1 rfl)) ?_
  refine g_iald hx hb hK 0 hsz rfl (show vp_in (nI r) 9 from vp_in_nI (by omega) (by omega)) d_Mo_limb_6 ?_
  refine g_eqi (show g (nI r).toNatClampNeg = g r from by rw [nI_clamp (by omega)]) ?_
  refine g_eqi (show g r = nI z from hg) ?_
  refine gsb (pc1 := 25) (pc2 := 10) (fun _ _ _ _ _ => lv_icmp_ge (tgt := 25) hx hb d_Mo_limb_7 (by decide)) (fun c_1 => ?_) (fun c_1 => ?_)
  · skip
    have nc_1 : k ≥ z := (nn_ge (a := k) (b := z) (by omega) (by omega)).1 c_1
    have hd : dx (sh f r) z k = 0 := dx_out (by omega)
    refine gs (pc' := 26) (fun _ _ _ _ _ hl => lv_iconst (v := nI 0) hx hb d_Mo_limb_25 (by decide)) ?_
    exact hret 26 _ _ _ _ d_Mo_limb_26 hB1 hB2 ⟨rfl, by rw [hd]⟩
  · skip
    have nc_1 : k < z := (nn_ge (a := k) (b := z) (by omega) (by omega)).2 c_1
    have hd : dx (sh f r) z k = df (sh f r) k := dx_in (by omega)
    refine gs (pc' := 11) (fun _ _ _ _ _ hl => lv_aload_n hx hb d_Mo_limb_10 rfl (lv_at hl 0 rfl)) ?_
    refine g_get hx hb hts hin_Mo hown hK hob rfl 8 (by decide) (hts _ wm762) (fun _ h9 => h9) rfl d_Mo_limb_11 ?_
    refine gs (pc' := 17) (fun _ _ _ _ _ hl => lv_sipush (v := nI 4300) hx hb d_Mo_limb_14 (by decide)) ?_
    refine gs (pc' := 18) (fun _ _ _ _ _ hl => lv_iload_n hx hb d_Mo_limb_17 rfl (lv_at hl 1 rfl)) ?_
    refine gs (pc' := 19) (fun _ _ _ _ _ hl => lv_imul hx hb d_Mo_limb_18) ?_
    refine g_eqi (show (nI 4300) * (nI r) = nI (4300 * r) from pk_mul _ _) ?_
    refine gs (pc' := 20) (fun _ _ _ _ _ hl => lv_iload_n hx hb d_Mo_limb_19 rfl (lv_at hl 2 rfl)) ?_
    refine gs (pc' := 21) (fun _ _ _ _ _ hl => lv_iadd hx hb d_Mo_limb_20) ?_
    refine g_eqi (show (nI (4300 * r)) + (nI k) = nI ((4300 * r) + k) from nI_add _ _) ?_
    refine g_iald hx hb hK 0 hlm rfl (show vp_in (nI ((4300 * r) + k)) 38700 from vp_in_nI (by omega) (by omega)) d_Mo_limb_21 ?_
    refine g_eqi (show f (nI ((4300 * r) + k)).toNatClampNeg = f ((4300 * r) + k) from by rw [nI_clamp (by omega)]) ?_
    refine g_eqi (show f ((4300 * r) + k) = nI (df (sh f r) k) from (hl k (by omega)).1) ?_
    refine gs (pc' := 26) (fun _ _ _ _ _ hl => lv_goto (tgt := 26) hx hb d_Mo_limb_22 (by decide)) ?_
    exact hret 26 _ _ _ _ d_Mo_limb_26 hB1 hB2 ⟨rfl, by rw [hd]⟩
set_option maxHeartbeats 4000000 in
set_option maxRecDepth 100000 in
theorem c_Mo_trim (l : Launch) (D : va_G) (cA : Nat → ClassId) (lo MC MS : Nat) (G : gT) (B : Nat × Nat) (hm : Nat) (A : Nat → Nat) (I : Nat → Int32) (hob : G hm = some (70, .inr (9, mfs A I))) (f g : Nat → Int32) (hlm : G (A 8) = some (75, .inl (cA 0, 38700, .inl f))) (hsz : G (A 9) = some (76, .inl (cA 0, 9, .inl g))) (r : Nat) (hr : r < 9) (z : Nat) (hg : g r = nI z) (hz : z ≤ 4300) (hl : lim (sh f r) z) (v : Nat) (hv : dv (df (sh f r)) z = v) (hB1 : B.1 ≤ MC) (hB2 : B.2 ≤ MS) : gMet l y_Mo_trim w_Mo_trim 0 0 D clS (gtys cA) lo MC MS [.ref hm, .int (nI r)] G B (gQv D clS lo (fun u => u.2 = B ∧ ∃ (g1 : Nat → Int32) (y : Nat), u.1 hm = some (70, .inr (9, mfs A I)) ∧ u.1 (A 8) = some (75, .inl (cA 0, 38700, .inl f)) ∧ u.1 (A 9) = some (76, .inl (cA 0, 9, .inl g1)) ∧ g1 r = nI y ∧ (∀ o, o ≠ r → g1 o = g o) ∧ y ≤ z ∧ isD (sh f r) y v ∧ gfr (fun x => x = 76) G u.1)) := by
  refine g_metv (cc := prog_11_method_4_code) (nL := 2) (L := [(0, .ref hm), (1, .int (nI r))]) (by decide +kernel) rfl (Nat.le_of_ble_eq_true rfl) rfl ?_
  intro p e R s m args below meth c Q hF hRc hRs hRf hRl hret
  obtain ⟨hx, hb, hr, hml, hts0, hown, hlocks, hin, hK, hlo, hZ⟩ := hF
  have hts : ∀ w ∈ tbg, w.before args s = true := fun w h => hts0 w (List.mem_cons_of_mem _ h)
  have loop : ∀ (q y : Nat) (g1 : Nat → Int32) (Gk : gT), (y = q) → (g1 r = nI y) → (∀ o, o ≠ r → g1 o = g o) → (y ≤ z) → (dv (df (sh f r)) y = v) → (gfr (fun x => x = 76) G Gk) → Gk hm = some (70, .inr (9, [.int (I 0), .int (I 1), .ref (A 2), .ref (A 3), .ref (A 4), .ref (A 5), .int (I 6), .int (I 7), .ref (A 8), .ref (A 9), .int (I 10), .ref (A 11), .ref (A 12), .ref (A 13), .int (I 14), .ref (A 15), .ref (A 16), .ref (A 17), .ref (A 18), .int (I 19), .int (I 20), .int (I 21)])) → Gk (A 8) = some (75, .inl (cA 0, 38700, .inl f)) → Gk (A 9) = some (76, .inl (cA 0, 9, .inl g1)) → gV p l e R s m args below meth c D clS lo 2 Q 0 [(0, .ref hm), (1, .int (nI r))] [] Gk B := by
    intro q
    induction q with
    | zero =>
      intro y g1 Gk hzn hgr hgo hyz hdv hfr k1 k2 k3
      subst hzn
      refine gs (pc' := 1) (fun _ _ _ _ _ hl => lv_aload_n hx hb d_Mo_trim_0 rfl (lv_at hl 0 rfl)) ?_
      refine g_get hx hb hts hin_Mo hown hK k1 rfl 9 (by decide) (hts _ wm763) (fun _ h9 => h9) rfl d_Mo_trim_1 ?_
      refine gs (pc' := 5) (fun _ _ _ _ _ hl => lv_iload_n hx hb d_Mo_trim_4 rfl (lv_at hl 1 rfl)) ?_
      refine g_iald hx hb hK 0 k3 rfl (show vp_in (nI r) 9 from vp_in_nI (by omega) (by omega)) d_Mo_trim_5 ?_
      refine g_eqi (show g1 (nI r).toNatClampNeg = g1 r from by rw [nI_clamp (by omega)]) ?_
      refine g_eqi (show g1 r = nI 0 from hgr) ?_
      refine gsb (pc1 := 44) (pc2 := 9) (fun _ _ _ _ _ => lv_if_le (tgt := 44) hx hb d_Mo_trim_6 (by decide)) (fun c_1 => ?_) (fun c_1 => ?_)
      · skip
        have nc_1 : 0 ≤ 0 := (n0_le (a := 0) (by omega)).1 c_1
        exact hret 44 _ _ _ d_Mo_trim_44 hB1 hB2 ⟨rfl, g1, 0, k1, k2, k3, hgr, hgo, hyz, ⟨lim_le hl hyz, Or.inl rfl, hdv⟩, hfr⟩
      · skip
        have nc_1 : 0 > 0 := (n0_le (a := 0) (by omega)).2 c_1
        exact absurd nc_1 (by omega)
    | succ q ih =>
      intro y g1 Gk hzn hgr hgo hyz hdv hfr k1 k2 k3
      subst hzn
      have hql := (hl q (by omega)).2
      refine gs (pc' := 1) (fun _ _ _ _ _ hl => lv_aload_n hx hb d_Mo_trim_0 rfl (lv_at hl 0 rfl)) ?_
      refine g_get hx hb hts hin_Mo hown hK k1 rfl 9 (by decide) (hts _ wm763) (fun _ h9 => h9) rfl d_Mo_trim_1 ?_
      refine gs (pc' := 5) (fun _ _ _ _ _ hl => lv_iload_n hx hb d_Mo_trim_4 rfl (lv_at hl 1 rfl)) ?_
      refine g_iald hx hb hK 0 k3 rfl (show vp_in (nI r) 9 from vp_in_nI (by omega) (by omega)) d_Mo_trim_5 ?_
      refine g_eqi (show g1 (nI r).toNatClampNeg = g1 r from by rw [nI_clamp (by omega)]) ?_
      refine g_eqi (show g1 r = nI (q + 1) from hgr) ?_
      refine gsb (pc1 := 44) (pc2 := 9) (fun _ _ _ _ _ => lv_if_le (tgt := 44) hx hb d_Mo_trim_6 (by decide)) (fun c_2 => ?_) (fun c_2 => ?_)
      · skip
        have nc_2 : (q + 1) ≤ 0 := (n0_le (a := (q + 1)) (by omega)).1 c_2
        exact absurd nc_2 (by omega)
      · skip
        have nc_2 : (q + 1) > 0 := (n0_le (a := (q + 1)) (by omega)).2 c_2
        refine gs (pc' := 10) (fun _ _ _ _ _ hl => lv_aload_n hx hb d_Mo_trim_9 rfl (lv_at hl 0 rfl)) ?_
        refine g_get hx hb hts hin_Mo hown hK k1 rfl 8 (by decide) (hts _ wm762) (fun _ h9 => h9) rfl d_Mo_trim_10 ?_
        refine gs (pc' := 16) (fun _ _ _ _ _ hl => lv_sipush (v := nI 4300) hx hb d_Mo_trim_13 (by decide)) ?_
        refine gs (pc' := 17) (fun _ _ _ _ _ hl => lv_iload_n hx hb d_Mo_trim_16 rfl (lv_at hl 1 rfl)) ?_
        refine gs (pc' := 18) (fun _ _ _ _ _ hl => lv_imul hx hb d_Mo_trim_17) ?_
        refine g_eqi (show (nI 4300) * (nI r) = nI (4300 * r) from pk_mul _ _) ?_
        refine gs (pc' := 19) (fun _ _ _ _ _ hl => lv_aload_n hx hb d_Mo_trim_18 rfl (lv_at hl 0 rfl)) ?_
        refine g_get hx hb hts hin_Mo hown hK k1 rfl 9 (by decide) (hts _ wm763) (fun _ h9 => h9) rfl d_Mo_trim_19 ?_
        refine gs (pc' := 23) (fun _ _ _ _ _ hl => lv_iload_n hx hb d_Mo_trim_22 rfl (lv_at hl 1 rfl)) ?_
        refine g_iald hx hb hK 0 k3 rfl (show vp_in (nI r) 9 from vp_in_nI (by omega) (by omega)) d_Mo_trim_23 ?_
        refine g_eqi (show g1 (nI r).toNatClampNeg = g1 r from by rw [nI_clamp (by omega)]) ?_
        refine g_eqi (show g1 r = nI (q + 1) from hgr) ?_
        refine gs (pc' := 25) (fun _ _ _ _ _ hl => lv_iadd hx hb d_Mo_trim_24) ?_
        refine g_eqi (show (nI (4300 * r)) + (nI (q + 1)) = nI ((4300 * r) + (q + 1)) from nI_add _ _) ?_
        refine gs (pc' := 26) (fun _ _ _ _ _ hl => lv_iconst (v := nI 1) hx hb d_Mo_trim_25 (by decide)) ?_
        refine gs (pc' := 27) (fun _ _ _ _ _ hl => lv_isub hx hb d_Mo_trim_26) ?_
        refine g_eqi (show (nI ((4300 * r) + (q + 1))) - (nI 1) = nI (4300 * r + q) from (pk_sub (by omega)).trans (congrArg nI (show ((4300 * r) + (q + 1)) - 1 = 4300 * r + q by omega))) ?_
        refine g_iald hx hb hK 0 k2 rfl (show vp_in (nI (4300 * r + q)) 38700 from vp_in_nI (by omega) (by omega)) d_Mo_trim_27 ?_
        refine g_eqi (show f (nI (4300 * r + q)).toNatClampNeg = f (4300 * r + q) from by rw [nI_clamp (by omega)]) ?_
        refine g_eqi (show f (4300 * r + q) = nI (df (sh f r) q) from (hl q (by omega)).1) ?_
        refine gsb (pc1 := 44) (pc2 := 31) (fun _ _ _ _ _ => lv_if_ne (tgt := 44) hx hb d_Mo_trim_28 (by decide)) (fun c_3 => ?_) (fun c_3 => ?_)
        · skip
          have nc_3 : (df (sh f r) q) ≠ 0 := (n0_ne (a := (df (sh f r) q)) (by omega)).1 c_3
          have htop : df (sh f r) q ≠ 0 := nc_3
          exact hret 44 _ _ _ d_Mo_trim_44 hB1 hB2 ⟨rfl, g1, q + 1, k1, k2, k3, hgr, hgo, hyz, ⟨lim_le hl hyz, Or.inr (by rw [Nat.add_sub_cancel]; exact htop), hdv⟩, hfr⟩
        · skip
          have nc_3 : (df (sh f r) q) = 0 := (n0_ne (a := (df (sh f r) q)) (by omega)).2 c_3
          have htop : df (sh f r) q = 0 := nc_3
          refine gs (pc' := 32) (fun _ _ _ _ _ hl => lv_aload_n hx hb d_Mo_trim_31 rfl (lv_at hl 0 rfl)) ?_
          refine g_get hx hb hts hin_Mo hown hK k1 rfl 9 (by decide) (hts _ wm763) (fun _ h9 => h9) rfl d_Mo_trim_32 ?_
          refine gs (pc' := 36) (fun _ _ _ _ _ hl => lv_iload_n hx hb d_Mo_trim_35 rfl (lv_at hl 1 rfl)) ?_
          refine gs (pc' := 37) (fun _ _ _ _ _ hl => lv_dup2_11 hx hb d_Mo_trim_36 rfl rfl) ?_
          refine g_iald hx hb hK 0 k3 rfl (show vp_in (nI r) 9 from vp_in_nI (by omega) (by omega)) d_Mo_trim_37 ?_
          refine g_eqi (show g1 (nI r).toNatClampNeg = g1 r from by rw [nI_clamp (by omega)]) ?_
          refine g_eqi (show g1 r = nI (q + 1) from hgr) ?_
          refine gs (pc' := 39) (fun _ _ _ _ _ hl => lv_iconst (v := nI 1) hx hb d_Mo_trim_38 (by decide)) ?_
          refine gs (pc' := 40) (fun _ _ _ _ _ hl => lv_isub hx hb d_Mo_trim_39) ?_
          refine g_eqi (show (nI (q + 1)) - (nI 1) = nI q from (pk_sub (by omega)).trans (congrArg nI (show (q + 1) - 1 = q by omega))) ?_
          refine g_iast hx hb hK 0 k3 rfl (show vp_in (nI r) 9 from vp_in_nI (by omega) (by omega)) d_Mo_trim_40 (fun G_4 f_5 o_6 => ?_)
          rw [nI_clamp (by omega)] at f_5
          have f_7 : G_4 hm = some (70, .inr (9, [.int (I 0), .int (I 1), .ref (A 2), .ref (A 3), .ref (A 4), .ref (A 5), .int (I 6), .int (I 7), .ref (A 8), .ref (A 9), .int (I 10), .ref (A 11), .ref (A 12), .ref (A 13), .int (I 14), .ref (A 15), .ref (A 16), .ref (A 17), .ref (A 18), .int (I 19), .int (I 20), .int (I 21)])) := (o_6 _ (gne k1 k3 (fun e => by cases e))).trans k1
          have f_8 : G_4 (A 8) = some (75, .inl (cA 0, 38700, .inl f)) := (o_6 _ (gne k2 k3 (by simp))).trans k2
          refine gs (pc' := 0) (fun _ _ _ _ _ hl => lv_goto (tgt := 0) hx hb d_Mo_trim_41 (by decide)) ?_
          exact ih q (upd g1 r (nI q)) G_4 rfl pk_us (fun o ho => (pk_un ho).trans (hgo o ho)) (by omega) (by rw [← hdv, dv_s, htop, Nat.zero_mul, Nat.add_zero]) (gfr_put hfr k3 rfl o_6) f_7 f_8 f_5
  exact loop z z g G rfl hg (fun _ _ => rfl) (Nat.le_refl _) hv gfr_rf hob hlm hsz
