set_option maxHeartbeats 4000000 in
set_option maxRecDepth 100000 in
theorem c_Mo_subtract (l : Launch) (D : va_G) (cA : Nat → ClassId) (lo MC MS : Nat) (G : gT) (B : Nat × Nat) (hm : Nat) (A : Nat → Nat) (I : Nat → Int32) (hob : G hm = some (70, .inr (9, mfs A I))) (Rg : Nat → Nat) (hR : MR cA A Rg G) (r : Nat) (hb_r : r < 9) (o : Nat) (hb_o : o < 9) (hro : o ≠ r) (hle : Rg o ≤ Rg r) (hB1 : B.1 ≤ MC) (hB2 : B.2 ≤ MS) : gMet l y_Mo_subtract w_Mo_subtract 1 22 D clS (gtys cA) lo MC MS [.ref hm, .int (nI r), .int (nI o)] G B (gQv D clS lo (fun u => u.2 = B ∧ MR cA A (fup Rg r (Rg r - Rg o)) u.1 ∧ u.1 hm = some (70, .inr (9, mfs A I)) ∧ gfr (fun x => x = 75 ∨ x = 76) G u.1)) := by
  refine g_metv (cc := prog_11_method_9_code) (nL := 6) (L := [(0, .ref hm), (1, .int (nI r)), (2, .int (nI o))]) (by decide +kernel) rfl (Nat.le_of_ble_eq_true rfl) rfl ?_
  intro p e R s m args below meth c Q hF hRc hRs hRf hRl hret
  obtain ⟨hx, hb, hr, hml, hts0, hown, hlocks, hin, hK, hlo, hZ⟩ := hF
  have hts : ∀ w ∈ tbg, w.before args s = true := fun w h => hts0 w (List.mem_cons_of_mem _ h)
  obtain ⟨f, g, hlm, hsz, hRG⟩ := hR
  obtain ⟨zr, hgr, hzr, hDr⟩ := hRG r hb_r
  obtain ⟨zo, hgo, hzo, hDo⟩ := hRG o hb_o
  have hlr := hDr.1
  have hlo2 := hDo.1
  have hzor : zo ≤ zr := isD_size hDo (Nat.lt_of_le_of_lt hle (isD_lt hDr))
  refine gs (pc' := 1) (fun _ _ _ _ _ hl => lv_iconst (v := nI 0) hx hb d_Mo_subtract_0 (by decide)) ?_
  refine gst (pc' := 2) (L' := [(3, .int (nI 0)), (0, .ref hm), (1, .int (nI r)), (2, .int (nI o))]) (fun _ _ _ _ _ hl => lv_istore_n hx hb d_Mo_subtract_1 rfl hl (by decide) rfl) ?_
  refine gs (pc' := 3) (fun _ _ _ _ _ hl => lv_iconst (v := nI 0) hx hb d_Mo_subtract_2 (by decide)) ?_
  refine gst (pc' := 5) (L' := [(4, .int (nI 0)), (3, .int (nI 0)), (0, .ref hm), (1, .int (nI r)), (2, .int (nI o))]) (fun _ _ _ _ _ hl => lv_istore hx hb d_Mo_subtract_3 hl (by decide) rfl) ?_
  refine gsub [0, 1, 2, 3, 4] rfl ?_
  have loop : ∀ (q j bw : Nat) (f1 : Nat → Int32) (Gk : gT), (j + q = zr) → (bw ≤ 1) → (lim (sh f1 r) zr) → (dv (df (sh f1 r)) j + dv (dx (sh f o) zo) j = dv (df (sh f r)) j + bw * 1000000000 ^ j) → (∀ x, j ≤ x → sh f1 r x = sh f r x) → (oth r f f1) → (gfr (fun x => x = 75 ∨ x = 76) G Gk) → Gk hm = some (70, .inr (9, [.int (I 0), .int (I 1), .ref (A 2), .ref (A 3), .ref (A 4), .ref (A 5), .int (I 6), .int (I 7), .ref (A 8), .ref (A 9), .int (I 10), .ref (A 11), .ref (A 12), .ref (A 13), .int (I 14), .ref (A 15), .ref (A 16), .ref (A 17), .ref (A 18), .int (I 19), .int (I 20), .int (I 21)])) → Gk (A 8) = some (75, .inl (cA 0, 38700, .inl f1)) → Gk (A 9) = some (76, .inl (cA 0, 9, .inl g)) → gV p l e R s m args below meth c D clS lo 6 Q 5 [(4, .int (nI j)), (3, .int (nI bw)), (0, .ref hm), (1, .int (nI r)), (2, .int (nI o))] [] Gk B := by
    intro q
    induction q with
    | zero =>
      intro j bw f1 Gk hj hbw hl1 hdif hup hot hfr k1 k2 k3
      have hjn : zr = j := by omega
      subst hjn
      rw [dv_dx hzor, hDr.2.2, hDo.2.2] at hdif
      have hlow := dv_lt (lim_dok hl1)
      have hb0 : bw = 0 := by
        rcases Nat.lt_or_ge bw 1 with z9 | z9
        · omega
        · have e9 : bw = 1 := by omega
          rw [e9, Nat.one_mul] at hdif
          omega
      rw [hb0, Nat.zero_mul, Nat.add_zero] at hdif
      refine gs (pc' := 7) (fun _ _ _ _ _ hl => lv_iload hx hb d_Mo_subtract_5 (lv_at hl 0 rfl)) ?_
      refine gs (pc' := 8) (fun _ _ _ _ _ hl => lv_aload_n hx hb d_Mo_subtract_7 rfl (lv_at hl 2 rfl)) ?_
      refine g_get hx hb hts hin_Mo hown hK k1 rfl 9 (by decide) (hts _ wm763) (fun _ h9 => h9) rfl d_Mo_subtract_8 ?_
      refine gs (pc' := 12) (fun _ _ _ _ _ hl => lv_iload_n hx hb d_Mo_subtract_11 rfl (lv_at hl 3 rfl)) ?_
      refine g_iald hx hb hK 0 k3 rfl (show vp_in (nI r) 9 from vp_in_nI (by omega) (by omega)) d_Mo_subtract_12 ?_
      refine g_eqi (show g (nI r).toNatClampNeg = g r from by rw [nI_clamp (by omega)]) ?_
      refine g_eqi (show g r = nI zr from hgr) ?_
      refine gsb (pc1 := 86) (pc2 := 16) (fun _ _ _ _ _ => lv_icmp_ge (tgt := 86) hx hb d_Mo_subtract_13 (by decide)) (fun c_1 => ?_) (fun c_1 => ?_)
      · skip
        have nc_1 : zr ≥ zr := (nn_ge (a := zr) (b := zr) (by omega) (by omega)).1 c_1
        refine gs (pc' := 87) (fun _ _ _ _ _ hl => lv_aload_n hx hb d_Mo_subtract_86 rfl (lv_at hl 2 rfl)) ?_
        refine gs (pc' := 88) (fun _ _ _ _ _ hl => lv_iload_n hx hb d_Mo_subtract_87 rfl (lv_at hl 3 rfl)) ?_
        refine g_outv hlo (g_runV (As := [.int (nI r)]) (rest := []) ⟨hx, hb, hml, hown, hts⟩ hK hZ hRc hRs (c_Mo_trim l D cA lo MC MS Gk B hm A I k1 f1 g k2 k3 r hb_r zr hgr hzr hl1 (Rg r - Rg o) (by omega) hB1 hB2) (fun _ _ => cwV 1 hts (tb_good (tb_cons wm863 (tb_cons wm865 (tb_cons ws27 (tb_cons wm12 k_Mo_trim))))) rfl rfl rfl (by decide +kernel) ⟨by rw [hRf]; exact Nat.le_of_ble_eq_true rfl, by rw [hRl]; exact Nat.le_of_ble_eq_true rfl⟩) k1 rfl hB1 hB2 rfl (Nat.le_of_ble_eq_true rfl) d_Mo_subtract_88) (fun G_2 B_3 p_4 => ?_)
        obtain ⟨e_5, g_6, y_7, f_8, f_9, f_10, tg_11, to_12, ty_13, tD_14, tf_15⟩ := p_4
        have e_5b : B_3 = B := e_5
        subst e_5b
        have gf_16 : gfr (fun x => x = 75 ∨ x = 76) G G_2 := gfr_mono (gfr_tr hfr tf_15) (fun x h9 => by rcases h9 with h9 | h9; exact h9; exact Or.inr h9)
        exact hret 91 _ _ _ d_Mo_subtract_91 hB1 hB2 ⟨rfl, ⟨_, _, f_9, f_10, RG_set' hRG hot tg_11 to_12 (by have := ty_13; omega) tD_14⟩, f_8, gfr_mono gf_16 (fun x h9 => by omega)⟩
      · skip
        have nc_1 : zr < zr := (nn_ge (a := zr) (b := zr) (by omega) (by omega)).2 c_1
        exact absurd nc_1 (by omega)
    | succ q ih =>
      intro j bw f1 Gk hj hbw hl1 hdif hup hot hfr k1 k2 k3
      obtain ⟨xj, exj⟩ : ∃ xj, xj = df (sh f1 r) j := ⟨_, rfl⟩
      have hxb : xj < 1000000000 := by rw [exj]; exact (hl1 j (by omega)).2
      refine gs (pc' := 7) (fun _ _ _ _ _ hl => lv_iload hx hb d_Mo_subtract_5 (lv_at hl 0 rfl)) ?_
      refine gs (pc' := 8) (fun _ _ _ _ _ hl => lv_aload_n hx hb d_Mo_subtract_7 rfl (lv_at hl 2 rfl)) ?_
      refine g_get hx hb hts hin_Mo hown hK k1 rfl 9 (by decide) (hts _ wm763) (fun _ h9 => h9) rfl d_Mo_subtract_8 ?_
      refine gs (pc' := 12) (fun _ _ _ _ _ hl => lv_iload_n hx hb d_Mo_subtract_11 rfl (lv_at hl 3 rfl)) ?_
      refine g_iald hx hb hK 0 k3 rfl (show vp_in (nI r) 9 from vp_in_nI (by omega) (by omega)) d_Mo_subtract_12 ?_
      refine g_eqi (show g (nI r).toNatClampNeg = g r from by rw [nI_clamp (by omega)]) ?_
      refine g_eqi (show g r = nI zr from hgr) ?_
      refine gsb (pc1 := 86) (pc2 := 16) (fun _ _ _ _ _ => lv_icmp_ge (tgt := 86) hx hb d_Mo_subtract_13 (by decide)) (fun c_17 => ?_) (fun c_17 => ?_)
      · skip
        have nc_17 : j ≥ zr := (nn_ge (a := j) (b := zr) (by omega) (by omega)).1 c_17
        exact absurd nc_17 (by omega)
      · skip
        have nc_17 : j < zr := (nn_ge (a := j) (b := zr) (by omega) (by omega)).2 c_17
        refine gs (pc' := 17) (fun _ _ _ _ _ hl => lv_aload_n hx hb d_Mo_subtract_16 rfl (lv_at hl 2 rfl)) ?_
        refine g_get hx hb hts hin_Mo hown hK k1 rfl 8 (by decide) (hts _ wm762) (fun _ h9 => h9) rfl d_Mo_subtract_17 ?_
        refine gs (pc' := 23) (fun _ _ _ _ _ hl => lv_sipush (v := nI 4300) hx hb d_Mo_subtract_20 (by decide)) ?_
        refine gs (pc' := 24) (fun _ _ _ _ _ hl => lv_iload_n hx hb d_Mo_subtract_23 rfl (lv_at hl 3 rfl)) ?_
        refine gs (pc' := 25) (fun _ _ _ _ _ hl => lv_imul hx hb d_Mo_subtract_24) ?_
        refine g_eqi (show (nI 4300) * (nI r) = nI (4300 * r) from pk_mul _ _) ?_
        refine gs (pc' := 27) (fun _ _ _ _ _ hl => lv_iload hx hb d_Mo_subtract_25 (lv_at hl 0 rfl)) ?_
        refine gs (pc' := 28) (fun _ _ _ _ _ hl => lv_iadd hx hb d_Mo_subtract_27) ?_
        refine g_eqi (show (nI (4300 * r)) + (nI j) = nI ((4300 * r) + j) from nI_add _ _) ?_
        refine g_iald hx hb hK 0 k2 rfl (show vp_in (nI ((4300 * r) + j)) 38700 from vp_in_nI (by omega) (by omega)) d_Mo_subtract_28 ?_
        refine g_eqi (show f1 (nI ((4300 * r) + j)).toNatClampNeg = f1 ((4300 * r) + j) from by rw [nI_clamp (by omega)]) ?_
        refine g_eqi (show f1 ((4300 * r) + j) = nI xj from by rw [exj]; exact (hl1 j (by omega)).1) ?_
        refine gs (pc' := 30) (fun _ _ _ _ _ hl => lv_aload_n hx hb d_Mo_subtract_29 rfl (lv_at hl 2 rfl)) ?_
        refine gs (pc' := 31) (fun _ _ _ _ _ hl => lv_iload_n hx hb d_Mo_subtract_30 rfl (lv_at hl 4 rfl)) ?_
        refine gs (pc' := 33) (fun _ _ _ _ _ hl => lv_iload hx hb d_Mo_subtract_31 (lv_at hl 0 rfl)) ?_
        refine g_outi hlo (g_runV (As := [.int (nI o), .int (nI j)]) (rest := [.int (nI xj)]) ⟨hx, hb, hml, hown, hts⟩ hK hZ hRc hRs (c_Mo_limb l D cA lo MC MS Gk B hm A I k1 f1 g k2 k3 o hb_o zo hgo hzo (lim_oth hot hro hzo hlo2) j (by omega) hB1 hB2) (fun _ _ => cwV 2 hts (tb_good (tb_cons wm921 (tb_cons wm923 (tb_cons ws40 (tb_cons wm12 k_Mo_limb))))) rfl rfl rfl (by decide +kernel) ⟨by rw [hRf]; exact Nat.le_of_ble_eq_true rfl, by rw [hRl]; exact Nat.le_of_ble_eq_true rfl⟩) k1 rfl hB1 hB2 rfl (Nat.le_of_ble_eq_true rfl) d_Mo_subtract_33) (fun r_21 G_18 B_19 p_20 => ?_)
        obtain ⟨u_22, e_23⟩ := p_20
        cases u_22
        obtain ⟨v_24, ev_25⟩ : ∃ y9, y9 = dx (sh f1 o) zo j := ⟨_, rfl⟩
        rw [← ev_25] at e_23
        subst e_23
        have v_24b : v_24 < 1000000000 := by rw [ev_25]; exact dx_lt (lim_oth hot hro hzo hlo2)
        refine gs (pc' := 37) (fun _ _ _ _ _ hl => lv_isub hx hb d_Mo_subtract_36) ?_
        refine g_eqi (show (nI xj) - (nI v_24) = iI (((xj : Nat) : Int) - ((v_24 : Nat) : Int)) from by rw [nI_iI, nI_iI]; exact iI_sub _ _) ?_
        refine gs (pc' := 38) (fun _ _ _ _ _ hl => lv_iload_n hx hb d_Mo_subtract_37 rfl (lv_at hl 1 rfl)) ?_
        refine gs (pc' := 39) (fun _ _ _ _ _ hl => lv_isub hx hb d_Mo_subtract_38) ?_
        refine g_eqi (show (iI (((xj : Nat) : Int) - ((v_24 : Nat) : Int))) - (nI bw) = iI ((((xj : Nat) : Int) - ((v_24 : Nat) : Int)) - ((bw : Nat) : Int)) from by rw [nI_iI]; exact iI_sub _ _) ?_
        refine gst (pc' := 41) (L' := [(5, .int (iI ((((xj : Nat) : Int) - ((v_24 : Nat) : Int)) - ((bw : Nat) : Int)))), (4, .int (nI j)), (3, .int (nI bw)), (0, .ref hm), (1, .int (nI r)), (2, .int (nI o))]) (fun _ _ _ _ _ hl => lv_istore hx hb d_Mo_subtract_39 hl (by decide) rfl) ?_
        refine gs (pc' := 43) (fun _ _ _ _ _ hl => lv_iload hx hb d_Mo_subtract_41 (lv_at hl 0 rfl)) ?_
        refine gsb (pc1 := 50) (pc2 := 46) (fun _ _ _ _ _ => lv_if_ge (tgt := 50) hx hb d_Mo_subtract_43 (by decide)) (fun c_26 => ?_) (fun c_26 => ?_)
        · skip
          have nc_26 : ((((xj : Nat) : Int) - ((v_24 : Nat) : Int)) - ((bw : Nat) : Int)) ≥ 0 := (ii_ge (a := ((((xj : Nat) : Int) - ((v_24 : Nat) : Int)) - ((bw : Nat) : Int))) (b := 0) (by omega) (by omega) (by omega) (by omega)).1 (by first | exact c_26 | (have z9 := c_26; simp only [nI_iI] at z9; exact z9))
          refine gs (pc' := 51) (fun _ _ _ _ _ hl => lv_iconst (v := nI 0) hx hb d_Mo_subtract_50 (by decide)) ?_
          refine gst (pc' := 52) (L' := [(3, .int (nI 0)), (5, .int (iI ((((xj : Nat) : Int) - ((v_24 : Nat) : Int)) - ((bw : Nat) : Int)))), (4, .int (nI j)), (0, .ref hm), (1, .int (nI r)), (2, .int (nI o))]) (fun _ _ _ _ _ hl => lv_istore_n hx hb d_Mo_subtract_51 rfl hl (by decide) rfl) ?_
          refine gs (pc' := 53) (fun _ _ _ _ _ hl => lv_aload_n hx hb d_Mo_subtract_52 rfl (lv_at hl 3 rfl)) ?_
          refine g_get hx hb hts hin_Mo hown hK k1 rfl 8 (by decide) (hts _ wm762) (fun _ h9 => h9) rfl d_Mo_subtract_53 ?_
          refine gs (pc' := 59) (fun _ _ _ _ _ hl => lv_sipush (v := nI 4300) hx hb d_Mo_subtract_56 (by decide)) ?_
          refine gs (pc' := 60) (fun _ _ _ _ _ hl => lv_iload_n hx hb d_Mo_subtract_59 rfl (lv_at hl 4 rfl)) ?_
          refine gs (pc' := 61) (fun _ _ _ _ _ hl => lv_imul hx hb d_Mo_subtract_60) ?_
          refine g_eqi (show (nI 4300) * (nI r) = nI (4300 * r) from pk_mul _ _) ?_
          refine gs (pc' := 63) (fun _ _ _ _ _ hl => lv_iload hx hb d_Mo_subtract_61 (lv_at hl 2 rfl)) ?_
          refine gs (pc' := 64) (fun _ _ _ _ _ hl => lv_iadd hx hb d_Mo_subtract_63) ?_
          refine g_eqi (show (nI (4300 * r)) + (nI j) = nI ((4300 * r) + j) from nI_add _ _) ?_
          refine gs (pc' := 66) (fun _ _ _ _ _ hl => lv_iload hx hb d_Mo_subtract_64 (lv_at hl 1 rfl)) ?_
          refine gsb (pc1 := 77) (pc2 := 69) (fun _ _ _ _ _ => lv_if_ge (tgt := 77) hx hb d_Mo_subtract_66 (by decide)) (fun c_27 => ?_) (fun c_27 => ?_)
          · skip
            have nc_27 : ((((xj : Nat) : Int) - ((v_24 : Nat) : Int)) - ((bw : Nat) : Int)) ≥ 0 := (ii_ge (a := ((((xj : Nat) : Int) - ((v_24 : Nat) : Int)) - ((bw : Nat) : Int))) (b := 0) (by omega) (by omega) (by omega) (by omega)).1 (by first | exact c_27 | (have z9 := c_27; simp only [nI_iI] at z9; exact z9))
            refine gs (pc' := 79) (fun _ _ _ _ _ hl => lv_iload hx hb d_Mo_subtract_77 (lv_at hl 1 rfl)) ?_
            refine g_eqi (show iI ((((xj : Nat) : Int) - ((v_24 : Nat) : Int)) - ((bw : Nat) : Int)) = nI (xj - v_24 - bw) from by rw [nI_iI]; congr 1; omega) ?_
            refine g_iast hx hb hK 0 k2 rfl (show vp_in (nI ((4300 * r) + j)) 38700 from vp_in_nI (by omega) (by omega)) d_Mo_subtract_79 (fun G_28 f_29 o_30 => ?_)
            rw [nI_clamp (by omega)] at f_29
            have f_31 : G_28 hm = some (70, .inr (9, [.int (I 0), .int (I 1), .ref (A 2), .ref (A 3), .ref (A 4), .ref (A 5), .int (I 6), .int (I 7), .ref (A 8), .ref (A 9), .int (I 10), .ref (A 11), .ref (A 12), .ref (A 13), .int (I 14), .ref (A 15), .ref (A 16), .ref (A 17), .ref (A 18), .int (I 19), .int (I 20), .int (I 21)])) := (o_30 _ (gne k1 k2 (fun e => by cases e))).trans k1
            have f_32 : G_28 (A 9) = some (76, .inl (cA 0, 9, .inl g)) := (o_30 _ (gne k3 k2 (by simp))).trans k3
            refine gst (pc' := 83) (L' := [(4, .int (nI (j + 1))), (3, .int (nI 0)), (5, .int (iI ((((xj : Nat) : Int) - ((v_24 : Nat) : Int)) - ((bw : Nat) : Int)))), (0, .ref hm), (1, .int (nI r)), (2, .int (nI o))]) (fun _ _ _ _ _ hl => lv_iinc (v := nI (j + 1)) hx hb d_Mo_subtract_80 hl (k := 2) rfl (nI_add _ 1) (by decide) rfl) ?_
            refine gs (pc' := 5) (fun _ _ _ _ _ hl => lv_goto (tgt := 5) hx hb d_Mo_subtract_83 (by decide)) ?_
            refine gsub [0, 1, 3, 4, 5] rfl ?_
            have heb : v_24 = dx (sh f o) zo j := by rw [ev_25]; exact dx_eq (hot o hro j (by omega))
            have hxj : xj = df (sh f r) j := by rw [exj]; unfold df; rw [hup j (Nat.le_refl _)]
            exact ih (j + 1) (0) (upd f1 ((4300 * r) + j) (nI (xj - v_24 - bw))) G_28 (by omega) (by omega) (by rw [sh_us]; exact lim_upd hl1 (by omega)) (by rw [sh_us, dv_upd_s (by omega), dv_s, dv_s, ← heb, ← hxj]; exact st_dif hdif (by omega)) (fun x9 h9 => by rw [sh_us, pk_un (by omega)]; exact hup x9 (by omega)) (oth_up hot (by omega)) (gfr_put hfr k2 (Or.inl rfl) o_30) f_31 f_29 f_32
          · skip
            have nc_27 : ((((xj : Nat) : Int) - ((v_24 : Nat) : Int)) - ((bw : Nat) : Int)) < 0 := (ii_ge (a := ((((xj : Nat) : Int) - ((v_24 : Nat) : Int)) - ((bw : Nat) : Int))) (b := 0) (by omega) (by omega) (by omega) (by omega)).2 (by first | exact c_27 | (have z9 := c_27; simp only [nI_iI] at z9; exact z9))
            exact absurd nc_27 (by omega)
        · skip
          have nc_26 : ((((xj : Nat) : Int) - ((v_24 : Nat) : Int)) - ((bw : Nat) : Int)) < 0 := (ii_ge (a := ((((xj : Nat) : Int) - ((v_24 : Nat) : Int)) - ((bw : Nat) : Int))) (b := 0) (by omega) (by omega) (by omega) (by omega)).2 (by first | exact c_26 | (have z9 := c_26; simp only [nI_iI] at z9; exact z9))
          refine gs (pc' := 47) (fun _ _ _ _ _ hl => lv_iconst (v := nI 1) hx hb d_Mo_subtract_46 (by decide)) ?_
          refine gs (pc' := 51) (fun _ _ _ _ _ hl => lv_goto (tgt := 51) hx hb d_Mo_subtract_47 (by decide)) ?_
          refine gst (pc' := 52) (L' := [(3, .int (nI 1)), (5, .int (iI ((((xj : Nat) : Int) - ((v_24 : Nat) : Int)) - ((bw : Nat) : Int)))), (4, .int (nI j)), (0, .ref hm), (1, .int (nI r)), (2, .int (nI o))]) (fun _ _ _ _ _ hl => lv_istore_n hx hb d_Mo_subtract_51 rfl hl (by decide) rfl) ?_
          refine gs (pc' := 53) (fun _ _ _ _ _ hl => lv_aload_n hx hb d_Mo_subtract_52 rfl (lv_at hl 3 rfl)) ?_
          refine g_get hx hb hts hin_Mo hown hK k1 rfl 8 (by decide) (hts _ wm762) (fun _ h9 => h9) rfl d_Mo_subtract_53 ?_
          refine gs (pc' := 59) (fun _ _ _ _ _ hl => lv_sipush (v := nI 4300) hx hb d_Mo_subtract_56 (by decide)) ?_
          refine gs (pc' := 60) (fun _ _ _ _ _ hl => lv_iload_n hx hb d_Mo_subtract_59 rfl (lv_at hl 4 rfl)) ?_
          refine gs (pc' := 61) (fun _ _ _ _ _ hl => lv_imul hx hb d_Mo_subtract_60) ?_
          refine g_eqi (show (nI 4300) * (nI r) = nI (4300 * r) from pk_mul _ _) ?_
          refine gs (pc' := 63) (fun _ _ _ _ _ hl => lv_iload hx hb d_Mo_subtract_61 (lv_at hl 2 rfl)) ?_
          refine gs (pc' := 64) (fun _ _ _ _ _ hl => lv_iadd hx hb d_Mo_subtract_63) ?_
          refine g_eqi (show (nI (4300 * r)) + (nI j) = nI ((4300 * r) + j) from nI_add _ _) ?_
          refine gs (pc' := 66) (fun _ _ _ _ _ hl => lv_iload hx hb d_Mo_subtract_64 (lv_at hl 1 rfl)) ?_
          refine gsb (pc1 := 77) (pc2 := 69) (fun _ _ _ _ _ => lv_if_ge (tgt := 77) hx hb d_Mo_subtract_66 (by decide)) (fun c_33 => ?_) (fun c_33 => ?_)
          · skip
            have nc_33 : ((((xj : Nat) : Int) - ((v_24 : Nat) : Int)) - ((bw : Nat) : Int)) ≥ 0 := (ii_ge (a := ((((xj : Nat) : Int) - ((v_24 : Nat) : Int)) - ((bw : Nat) : Int))) (b := 0) (by omega) (by omega) (by omega) (by omega)).1 (by first | exact c_33 | (have z9 := c_33; simp only [nI_iI] at z9; exact z9))
            exact absurd nc_33 (by omega)
          · skip
            have nc_33 : ((((xj : Nat) : Int) - ((v_24 : Nat) : Int)) - ((bw : Nat) : Int)) < 0 := (ii_ge (a := ((((xj : Nat) : Int) - ((v_24 : Nat) : Int)) - ((bw : Nat) : Int))) (b := 0) (by omega) (by omega) (by omega) (by omega)).2 (by first | exact c_33 | (have z9 := c_33; simp only [nI_iI] at z9; exact z9))
            refine gs (pc' := 71) (fun _ _ _ _ _ hl => lv_iload hx hb d_Mo_subtract_69 (lv_at hl 1 rfl)) ?_
            refine gs (pc' := 73) (fun _ _ _ _ _ hl => lv_ldc (v := 1000000000) hx hb hown (hts _ wm867) d_Mo_subtract_71) ?_
            refine g_eqi (show 1000000000 = nI 1000000000 from rfl) ?_
            refine gs (pc' := 74) (fun _ _ _ _ _ hl => lv_iadd hx hb d_Mo_subtract_73) ?_
            refine g_eqi (show (iI ((((xj : Nat) : Int) - ((v_24 : Nat) : Int)) - ((bw : Nat) : Int))) + (nI 1000000000) = iI (((((xj : Nat) : Int) - ((v_24 : Nat) : Int)) - ((bw : Nat) : Int)) + ((1000000000 : Nat) : Int)) from by rw [nI_iI]; exact iI_add _ _) ?_
            refine gs (pc' := 79) (fun _ _ _ _ _ hl => lv_goto (tgt := 79) hx hb d_Mo_subtract_74 (by decide)) ?_
            refine g_eqi (show iI (((((xj : Nat) : Int) - ((v_24 : Nat) : Int)) - ((bw : Nat) : Int)) + ((1000000000 : Nat) : Int)) = nI (xj + 1000000000 - v_24 - bw) from by rw [nI_iI]; congr 1; omega) ?_
            refine g_iast hx hb hK 0 k2 rfl (show vp_in (nI ((4300 * r) + j)) 38700 from vp_in_nI (by omega) (by omega)) d_Mo_subtract_79 (fun G_34 f_35 o_36 => ?_)
            rw [nI_clamp (by omega)] at f_35
            have f_37 : G_34 hm = some (70, .inr (9, [.int (I 0), .int (I 1), .ref (A 2), .ref (A 3), .ref (A 4), .ref (A 5), .int (I 6), .int (I 7), .ref (A 8), .ref (A 9), .int (I 10), .ref (A 11), .ref (A 12), .ref (A 13), .int (I 14), .ref (A 15), .ref (A 16), .ref (A 17), .ref (A 18), .int (I 19), .int (I 20), .int (I 21)])) := (o_36 _ (gne k1 k2 (fun e => by cases e))).trans k1
            have f_38 : G_34 (A 9) = some (76, .inl (cA 0, 9, .inl g)) := (o_36 _ (gne k3 k2 (by simp))).trans k3
            refine gst (pc' := 83) (L' := [(4, .int (nI (j + 1))), (3, .int (nI 1)), (5, .int (iI ((((xj : Nat) : Int) - ((v_24 : Nat) : Int)) - ((bw : Nat) : Int)))), (0, .ref hm), (1, .int (nI r)), (2, .int (nI o))]) (fun _ _ _ _ _ hl => lv_iinc (v := nI (j + 1)) hx hb d_Mo_subtract_80 hl (k := 2) rfl (nI_add _ 1) (by decide) rfl) ?_
            refine gs (pc' := 5) (fun _ _ _ _ _ hl => lv_goto (tgt := 5) hx hb d_Mo_subtract_83 (by decide)) ?_
            refine gsub [0, 1, 3, 4, 5] rfl ?_
            have heb : v_24 = dx (sh f o) zo j := by rw [ev_25]; exact dx_eq (hot o hro j (by omega))
            have hxj : xj = df (sh f r) j := by rw [exj]; unfold df; rw [hup j (Nat.le_refl _)]
            exact ih (j + 1) (1) (upd f1 ((4300 * r) + j) (nI (xj + 1000000000 - v_24 - bw))) G_34 (by omega) (by omega) (by rw [sh_us]; exact lim_upd hl1 (by omega)) (by rw [sh_us, dv_upd_s (by omega), dv_s, dv_s, ← heb, ← hxj]; exact st_dif hdif (by omega)) (fun x9 h9 => by rw [sh_us, pk_un (by omega)]; exact hup x9 (by omega)) (oth_up hot (by omega)) (gfr_put hfr k2 (Or.inl rfl) o_36) f_37 f_35 f_38
  exact loop zr 0 0 f G (by omega) (by omega) hlr (by simp [dv_0]) (fun _ _ => rfl) oth_rf gfr_rf hob hlm hsz
