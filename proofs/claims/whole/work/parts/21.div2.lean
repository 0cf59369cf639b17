set_option maxHeartbeats 4000000 in
set_option maxRecDepth 100000 in
theorem c_Di_giveBack (l : Launch) (D : va_G) (cA : Nat → ClassId) (lo MC MS : Nat) (G : gT) (B : Nat × Nat) (td hd hqu hre hdv : Nat) (hhd : G hd = some (td, .inr (2, [.ref hqu, .ref hre, .ref hdv]))) (tv av capv md : Nat) (fv : Nat → Int32) (hhv : G hdv = some (tv, .inr (4, [.ref av, .int (nI (md + 2))]))) (hav : G av = some (tv, .inl (cA 0, capv, .inl fv))) (hcv : md + 2 ≤ capv) (hcv2 : capv ≤ 100000) (hlv : lim fv (md + 2)) (tr ar capr : Nat) (zr : Int32) (fr : Nat → Int32) (hhr : G hre = some (tr, .inr (4, [.ref ar, .int zr]))) (har : G ar = some (tr, .inl (cA 0, capr, .inl fr))) (hcr2 : capr ≤ 100000) (i w : Nat) (hi2 : i + md + 3 ≤ capr) (hlr : lim fr (i + md + 3)) (hnv : ¬ tv = tr) (hnd : ¬ td = tr) (hw : dv (dsh (df fr) i) (md + 2) + dv (df fv) (md + 2) = w + 1000000000 ^ (md + 2)) (hwl : w < 1000000000 ^ (md + 2)) (hB1 : B.1 ≤ MC) (hB2 : B.2 ≤ MS) : gMet l y_Di_giveBack w_Di_giveBack 0 0 D clS (gtys cA) lo MC MS [.ref hd, .int (nI i)] G B (gQv D clS lo (fun u => u.2 = B ∧ ∃ f1 : Nat → Int32, u.1 hre = some (tr, .inr (4, [.ref ar, .int zr])) ∧ u.1 ar = some (tr, .inl (cA 0, capr, .inl f1)) ∧ lim f1 (i + md + 3) ∧ (∀ x, i + md + 2 ≤ x → f1 x = fr x) ∧ (∀ x, x < i → f1 x = fr x) ∧ gfr (fun x => x = tr) G u.1 ∧ dv (dsh (df f1) i) (md + 2) = w)) := by
  refine g_metv (cc := prog_4_method_6_code) (nL := 7) (L := [(0, .ref hd), (1, .int (nI i))]) (by decide +kernel) rfl (Nat.le_of_ble_eq_true rfl) rfl ?_
  intro p e R s m args below meth c Q hF hRc hRs hRf hRl hret
  obtain ⟨hx, hb, hr, hml, hts0, hown, hlocks, hin, hK, hlo, hZ⟩ := hF
  have hts : ∀ w ∈ tbg, w.before args s = true := fun w h => hts0 w (List.mem_cons_of_mem _ h)
  refine gs (pc' := 1) (fun _ _ _ _ _ hl => lv_lconst (v := lN 0) hx hb d_Di_giveBack_0 (by decide)) ?_
  refine gst (pc' := 2) (L' := [(2, .long (lN 0)), (0, .ref hd), (1, .int (nI i))]) (fun _ _ _ _ _ hl => lv_lstore_n hx hb d_Di_giveBack_1 rfl hl (by decide) rfl) ?_
  refine gs (pc' := 3) (fun _ _ _ _ _ hl => lv_iconst (v := nI 0) hx hb d_Di_giveBack_2 (by decide)) ?_
  refine gst (pc' := 5) (L' := [(4, .int (nI 0)), (2, .long (lN 0)), (0, .ref hd), (1, .int (nI i))]) (fun _ _ _ _ _ hl => lv_istore hx hb d_Di_giveBack_3 hl (by decide) rfl) ?_
  refine gsub [0, 1, 2, 3] rfl ?_
  have loop : ∀ (n j c0 : Nat) (f1 : Nat → Int32) (Gk : gT), (j + n = md + 2) → (c0 ≤ 1) → (lim f1 (i + md + 3)) → (dv (dsh (df f1) i) j + c0 * 1000000000 ^ j = dv (dsh (df fr) i) j + dv (df fv) j) → (∀ x, i + j ≤ x → f1 x = fr x) → (∀ x, x < i → f1 x = fr x) → (gfr (fun x => x = tr) G Gk) → Gk hd = some (td, .inr (2, [.ref hqu, .ref hre, .ref hdv])) → Gk hdv = some (tv, .inr (4, [.ref av, .int (nI (md + 2))])) → Gk av = some (tv, .inl (cA 0, capv, .inl fv)) → Gk hre = some (tr, .inr (4, [.ref ar, .int zr])) → Gk ar = some (tr, .inl (cA 0, capr, .inl f1)) → gV p l e R s m args below meth c D clS lo 7 Q 5 [(4, .int (nI j)), (2, .long (lN c0)), (0, .ref hd), (1, .int (nI i))] [] Gk B := by
    intro n
    induction n with
    | zero =>
      intro j c0 f1 Gk hj hc0 hl1 hv1 hup hdn hfr k1 k2 k3 k4 k5
      have hjM : j = md + 2 := by omega
      rw [hjM] at hv1 hup
      have hnew : dv (dsh (df f1) i) (md + 2) < 1000000000 ^ (md + 2) := dv_lt (fun x hx2 => (hl1 (i + x) (by omega)).2)
      rw [hw] at hv1
      have hww : dv (dsh (df f1) i) (md + 2) = w := by
        rcases (show c0 = 0 ∨ c0 = 1 by omega) with q | q
        · subst q; omega
        · subst q; omega
      refine gs (pc' := 7) (fun _ _ _ _ _ hl => lv_iload hx hb d_Di_giveBack_5 (lv_at hl 0 rfl)) ?_
      refine gs (pc' := 8) (fun _ _ _ _ _ hl => lv_aload_n hx hb d_Di_giveBack_7 rfl (lv_at hl 2 rfl)) ?_
      refine g_get hx hb hts hin_Di hown hK k1 rfl 2 (by decide) (hts _ wm90) (fun _ h9 => h9) rfl d_Di_giveBack_8 ?_
      refine g_get hx hb hts hin_Na hown hK k2 rfl 1 (by decide) (hts _ wm76) (fun _ h9 => h9) rfl d_Di_giveBack_11 ?_
      refine gsb (pc1 := 80) (pc2 := 17) (fun _ _ _ _ _ => lv_icmp_ge (tgt := 80) hx hb d_Di_giveBack_14 (by decide)) (fun c_1 => ?_) (fun c_1 => ?_)
      · skip
        have nc_1 : j ≥ (md + 2) := (nn_ge (a := j) (b := (md + 2)) (by omega) (by omega)).1 c_1
        exact hret 80 _ _ _ d_Di_giveBack_80 hB1 hB2 ⟨rfl, f1, k4, k5, hl1, (fun x hx2 => hup x (by omega)), hdn, hfr, hww⟩
      · skip
        have nc_1 : j < (md + 2) := (nn_ge (a := j) (b := (md + 2)) (by omega) (by omega)).2 c_1
        exact absurd nc_1 (by omega)
    | succ n ih =>
      intro j c0 f1 Gk hj hc0 hl1 hv1 hup hdn hfr k1 k2 k3 k4 k5
      have hdj : df fv j < 1000000000 := (hlv j (by omega)).2
      have hrj : df f1 (i + j) < 1000000000 := (hl1 (i + j) (by omega)).2
      have hsm : df f1 (i + j) = df fr (i + j) := by unfold df; rw [hup _ (Nat.le_refl _)]
      refine gs (pc' := 7) (fun _ _ _ _ _ hl => lv_iload hx hb d_Di_giveBack_5 (lv_at hl 0 rfl)) ?_
      refine gs (pc' := 8) (fun _ _ _ _ _ hl => lv_aload_n hx hb d_Di_giveBack_7 rfl (lv_at hl 2 rfl)) ?_
      refine g_get hx hb hts hin_Di hown hK k1 rfl 2 (by decide) (hts _ wm90) (fun _ h9 => h9) rfl d_Di_giveBack_8 ?_
      refine g_get hx hb hts hin_Na hown hK k2 rfl 1 (by decide) (hts _ wm76) (fun _ h9 => h9) rfl d_Di_giveBack_11 ?_
      refine gsb (pc1 := 80) (pc2 := 17) (fun _ _ _ _ _ => lv_icmp_ge (tgt := 80) hx hb d_Di_giveBack_14 (by decide)) (fun c_2 => ?_) (fun c_2 => ?_)
      · skip
        have nc_2 : j ≥ (md + 2) := (nn_ge (a := j) (b := (md + 2)) (by omega) (by omega)).1 c_2
        exact absurd nc_2 (by omega)
      · skip
        have nc_2 : j < (md + 2) := (nn_ge (a := j) (b := (md + 2)) (by omega) (by omega)).2 c_2
        refine gs (pc' := 18) (fun _ _ _ _ _ hl => lv_aload_n hx hb d_Di_giveBack_17 rfl (lv_at hl 2 rfl)) ?_
        refine g_get hx hb hts hin_Di hown hK k1 rfl 1 (by decide) (hts _ wm87) (fun _ h9 => h9) rfl d_Di_giveBack_18 ?_
        refine g_get hx hb hts hin_Na hown hK k4 rfl 0 (by decide) (hts _ wm73) (fun _ h9 => h9) rfl d_Di_giveBack_21 ?_
        refine gs (pc' := 25) (fun _ _ _ _ _ hl => lv_iload_n hx hb d_Di_giveBack_24 rfl (lv_at hl 3 rfl)) ?_
        refine gs (pc' := 27) (fun _ _ _ _ _ hl => lv_iload hx hb d_Di_giveBack_25 (lv_at hl 0 rfl)) ?_
        refine gs (pc' := 28) (fun _ _ _ _ _ hl => lv_iadd hx hb d_Di_giveBack_27) ?_
        refine g_eqi (show (nI i) + (nI j) = nI (i + j) from nI_add _ _) ?_
        refine g_iald hx hb hK 0 k5 rfl (show vp_in (nI (i + j)) capr from vp_in_nI (by omega) (by omega)) d_Di_giveBack_28 ?_
        refine g_eqi (show f1 (nI (i + j)).toNatClampNeg = f1 (i + j) from by rw [nI_clamp (by omega)]) ?_
        have b_3 : df f1 (i + j) < 1000000000 := (hl1 (i + j) (by omega)).2
        refine g_eqi (show f1 (i + j) = nI (df f1 (i + j)) from (hl1 (i + j) (by omega)).1) ?_
        refine gs (pc' := 30) (fun _ _ _ _ _ hl => lv_i2l (v := lN (df f1 (i + j))) hx hb d_Di_giveBack_29 (nI_l (by omega))) ?_
        refine gs (pc' := 31) (fun _ _ _ _ _ hl => lv_aload_n hx hb d_Di_giveBack_30 rfl (lv_at hl 2 rfl)) ?_
        refine g_get hx hb hts hin_Di hown hK k1 rfl 2 (by decide) (hts _ wm90) (fun _ h9 => h9) rfl d_Di_giveBack_31 ?_
        refine g_get hx hb hts hin_Na hown hK k2 rfl 0 (by decide) (hts _ wm73) (fun _ h9 => h9) rfl d_Di_giveBack_34 ?_
        refine gs (pc' := 39) (fun _ _ _ _ _ hl => lv_iload hx hb d_Di_giveBack_37 (lv_at hl 0 rfl)) ?_
        refine g_iald hx hb hK 0 k3 rfl (show vp_in (nI j) capv from vp_in_nI (by omega) (by omega)) d_Di_giveBack_39 ?_
        refine g_eqi (show fv (nI j).toNatClampNeg = fv j from by rw [nI_clamp (by omega)]) ?_
        have b_4 : df fv j < 1000000000 := (hlv j (by omega)).2
        refine g_eqi (show fv j = nI (df fv j) from (hlv j (by omega)).1) ?_
        refine gs (pc' := 41) (fun _ _ _ _ _ hl => lv_i2l (v := lN (df fv j)) hx hb d_Di_giveBack_40 (nI_l (by omega))) ?_
        refine gs (pc' := 42) (fun _ _ _ _ _ hl => lv_ladd hx hb d_Di_giveBack_41) ?_
        refine g_eql (show (lN (df f1 (i + j))) + (lN (df fv j)) = lN ((df f1 (i + j)) + (df fv j)) from lN_add _ _) ?_
        refine gs (pc' := 43) (fun _ _ _ _ _ hl => lv_lload_n hx hb d_Di_giveBack_42 rfl (lv_at hl 1 rfl)) ?_
        refine gs (pc' := 44) (fun _ _ _ _ _ hl => lv_ladd hx hb d_Di_giveBack_43) ?_
        refine g_eql (show (lN ((df f1 (i + j)) + (df fv j))) + (lN c0) = lN (((df f1 (i + j)) + (df fv j)) + c0) from lN_add _ _) ?_
        refine gst (pc' := 46) (L' := [(5, .long (lN (((df f1 (i + j)) + (df fv j)) + c0))), (4, .int (nI j)), (2, .long (lN c0)), (0, .ref hd), (1, .int (nI i))]) (fun _ _ _ _ _ hl => lv_lstore hx hb d_Di_giveBack_44 hl (by decide) rfl) ?_
        refine gs (pc' := 48) (fun _ _ _ _ _ hl => lv_lload hx hb d_Di_giveBack_46 (lv_at hl 0 rfl)) ?_
        refine gs (pc' := 51) (fun _ _ _ _ _ hl => lv_ldc2 (v := 1000000000) hx hb hown (hts _ wm458) d_Di_giveBack_48) ?_
        refine g_eql (show 1000000000 = lN 1000000000 from rfl) ?_
        refine gs (pc' := 52) (fun _ _ _ _ _ hl => lv_ldiv hx hb d_Di_giveBack_51 (by decide)) ?_
        refine g_eql (show (lN (((df f1 (i + j)) + (df fv j)) + c0)) / (lN 1000000000) = lN ((((df f1 (i + j)) + (df fv j)) + c0) / 1000000000) from pk_lDiv (by omega) (by omega) (by omega)) ?_
        refine gst (pc' := 53) (L' := [(2, .long (lN ((((df f1 (i + j)) + (df fv j)) + c0) / 1000000000))), (5, .long (lN (((df f1 (i + j)) + (df fv j)) + c0))), (4, .int (nI j)), (0, .ref hd), (1, .int (nI i))]) (fun _ _ _ _ _ hl => lv_lstore_n hx hb d_Di_giveBack_52 rfl hl (by decide) rfl) ?_
        refine gs (pc' := 54) (fun _ _ _ _ _ hl => lv_aload_n hx hb d_Di_giveBack_53 rfl (lv_at hl 3 rfl)) ?_
        refine g_get hx hb hts hin_Di hown hK k1 rfl 1 (by decide) (hts _ wm87) (fun _ h9 => h9) rfl d_Di_giveBack_54 ?_
        refine g_get hx hb hts hin_Na hown hK k4 rfl 0 (by decide) (hts _ wm73) (fun _ h9 => h9) rfl d_Di_giveBack_57 ?_
        refine gs (pc' := 61) (fun _ _ _ _ _ hl => lv_iload_n hx hb d_Di_giveBack_60 rfl (lv_at hl 4 rfl)) ?_
        refine gs (pc' := 63) (fun _ _ _ _ _ hl => lv_iload hx hb d_Di_giveBack_61 (lv_at hl 2 rfl)) ?_
        refine gs (pc' := 64) (fun _ _ _ _ _ hl => lv_iadd hx hb d_Di_giveBack_63) ?_
        refine g_eqi (show (nI i) + (nI j) = nI (i + j) from nI_add _ _) ?_
        refine gs (pc' := 66) (fun _ _ _ _ _ hl => lv_lload hx hb d_Di_giveBack_64 (lv_at hl 1 rfl)) ?_
        refine gs (pc' := 67) (fun _ _ _ _ _ hl => lv_lload_n hx hb d_Di_giveBack_66 rfl (lv_at hl 0 rfl)) ?_
        refine gs (pc' := 70) (fun _ _ _ _ _ hl => lv_ldc2 (v := 1000000000) hx hb hown (hts _ wm458) d_Di_giveBack_67) ?_
        refine g_eql (show 1000000000 = lN 1000000000 from rfl) ?_
        refine gs (pc' := 71) (fun _ _ _ _ _ hl => lv_lmul hx hb d_Di_giveBack_70) ?_
        refine g_eql (show (lN ((((df f1 (i + j)) + (df fv j)) + c0) / 1000000000)) * (lN 1000000000) = lN (((((df f1 (i + j)) + (df fv j)) + c0) / 1000000000) * 1000000000) from lN_mul _ _) ?_
        refine gs (pc' := 72) (fun _ _ _ _ _ hl => lv_lsub hx hb d_Di_giveBack_71) ?_
        refine g_eql (show (lN (((df f1 (i + j)) + (df fv j)) + c0)) - (lN (((((df f1 (i + j)) + (df fv j)) + c0) / 1000000000) * 1000000000)) = lN ((df f1 (i + j) + df fv j + c0) % 1000000000) from (lN_sub (by omega)).trans (congrArg lN (show (((df f1 (i + j)) + (df fv j)) + c0) - (((((df f1 (i + j)) + (df fv j)) + c0) / 1000000000) * 1000000000) = (df f1 (i + j) + df fv j + c0) % 1000000000 by omega))) ?_
        refine gs (pc' := 73) (fun _ _ _ _ _ hl => lv_l2i (v := nI ((df f1 (i + j) + df fv j + c0) % 1000000000)) hx hb d_Di_giveBack_72 (lN_i _)) ?_
        refine g_iast hx hb hK 0 k5 rfl (show vp_in (nI (i + j)) capr from vp_in_nI (by omega) (by omega)) d_Di_giveBack_73 (fun G_5 f_6 o_7 => ?_)
        rw [nI_clamp (by omega)] at f_6
        have f_8 : G_5 hd = some (td, .inr (2, [.ref hqu, .ref hre, .ref hdv])) := (o_7 _ (gne k1 k5 (fun e => by cases e))).trans k1
        have f_9 : G_5 hdv = some (tv, .inr (4, [.ref av, .int (nI (md + 2))])) := (o_7 _ (gne k2 k5 (fun e => by cases e))).trans k2
        have f_10 : G_5 av = some (tv, .inl (cA 0, capv, .inl fv)) := (o_7 _ (gne k3 k5 (fun e => hnv (congrArg Prod.fst e)))).trans k3
        have f_11 : G_5 hre = some (tr, .inr (4, [.ref ar, .int zr])) := (o_7 _ (gne k4 k5 (fun e => by cases e))).trans k4
        refine gst (pc' := 77) (L' := [(4, .int (nI (j + 1))), (2, .long (lN ((((df f1 (i + j)) + (df fv j)) + c0) / 1000000000))), (5, .long (lN (((df f1 (i + j)) + (df fv j)) + c0))), (0, .ref hd), (1, .int (nI i))]) (fun _ _ _ _ _ hl => lv_iinc (v := nI (j + 1)) hx hb d_Di_giveBack_74 hl (k := 2) rfl (nI_add _ 1) (by decide) rfl) ?_
        refine gs (pc' := 5) (fun _ _ _ _ _ hl => lv_goto (tgt := 5) hx hb d_Di_giveBack_77 (by decide)) ?_
        refine gsub [0, 1, 3, 4] rfl ?_
        exact ih (j + 1) ((((df f1 (i + j)) + (df fv j)) + c0) / 1000000000) (upd f1 (i + j) (nI ((df f1 (i + j) + df fv j + c0) % 1000000000))) G_5 (by omega) (by omega) (lim_upd hl1 (by omega)) (by rw [dsh_upd (by omega), dv_s, dv_s]; exact st_sum hv1 (by show df fr (i + j) + _ + _ = _; omega)) (fun x h1 => by rw [pk_un (by omega)]; exact hup x (by omega)) (fun x h1 => by rw [pk_un (by omega)]; exact hdn x h1) (gfr_put hfr k5 rfl o_7) f_8 f_9 f_10 f_11 f_6
  exact loop (md + 2) 0 0 fr G (by omega) (by omega) hlr (by simp [dv_0]) (fun _ _ => rfl) (fun _ _ => rfl) gfr_rf hhd hhv hav hhr har
set_option maxHeartbeats 4000000 in
set_option maxRecDepth 100000 in
theorem c_Di_divideScaled (l : Launch) (D : va_G) (cA : Nat → ClassId) (lo MC MS : Nat) (G : gT) (B : Nat × Nat) (td hd hqu hre hdv : Nat) (hhd : G hd = some (td, .inr (2, [.ref hqu, .ref hre, .ref hdv]))) (tv av capv md : Nat) (fv : Nat → Int32) (hhv : G hdv = some (tv, .inr (4, [.ref av, .int (nI (md + 2))]))) (hav : G av = some (tv, .inl (cA 0, capv, .inl fv))) (hcv : md + 2 ≤ capv) (hcv2 : capv ≤ 100000) (hlv : lim fv (md + 2)) (tr ar capr : Nat) (zr : Int32) (fr : Nat → Int32) (hhr : G hre = some (tr, .inr (4, [.ref ar, .int zr]))) (har : G ar = some (tr, .inl (cA 0, capr, .inl fr))) (hcr2 : capr ≤ 100000) (tq aq capq sh v uu : Nat) (zq : Int32) (fq : Nat → Int32) (hhq : G hqu = some (tq, .inr (4, [.ref aq, .int zq]))) (haq : G aq = some (tq, .inl (cA 0, capq, .inl fq))) (hcq : capq ≤ 50000) (hnvr : ¬ tv = tr) (hndr : ¬ td = tr) (hnqr : ¬ tq = tr) (hnvq : ¬ tv = tq) (hndq : ¬ td = tq) (hnrq : ¬ tr = tq) (hsh : sh + md + 3 ≤ capr) (hshb : sh + 1 ≤ 50000) (hlr : lim fr (sh + md + 3)) (hvv : dv (df fv) (md + 2) = v) (hv0 : 0 < v) (hvM : v ≤ 1000000000 ^ (md + 2)) (htop : 500000000 ≤ df fv (md + 1)) (hR0 : dv (dsh (df fr) (sh + 1)) (md + 2) < v) (huu : uu = dv (df fr) (sh + md + 3)) (hC : B.1 + (gcap capq (sh + 1) - capq) ≤ MC) (hS : B.2 + 2 * (gcap capq (sh + 1) - capq) ≤ MS) (hB1 : B.1 ≤ MC) (hB2 : B.2 ≤ MS) : gMet l y_Di_divideScaled w_Di_divideScaled 3 83 D clS (gtys cA) lo MC MS [.ref hd, .int (nI sh)] G B (gQv D clS lo (fun u => ∃ (a2 z2 : Nat) (f2 g2 : Nat → Int32), u.1 hqu = some (tq, .inr (4, [.ref a2, .int (nI z2)])) ∧ u.1 a2 = some (tq, .inl (cA 0, gcap capq (sh + 1), .inl f2)) ∧ z2 ≤ sh + 1 ∧ isD f2 z2 (uu / v) ∧ u.1 hre = some (tr, .inr (4, [.ref ar, .int (nI (md + 2))])) ∧ u.1 ar = some (tr, .inl (cA 0, capr, .inl g2)) ∧ lim g2 (md + 2) ∧ dv (df g2) (md + 2) = uu % v ∧ gfr (fun x => x = tr ∨ x = tq) G u.1 ∧ u.2.1 + capq ≤ B.1 + gcap capq (sh + 1) ∧ u.2.2 + 2 * capq ≤ B.2 + 2 * gcap capq (sh + 1))) := by
  refine g_metv (cc := prog_4_method_3_code) (nL := 5) (L := [(0, .ref hd), (1, .int (nI sh))]) (by decide +kernel) rfl (Nat.le_of_ble_eq_true rfl) rfl ?_
  intro p e R s m args below meth c Q hF hRc hRs hRf hRl hret
  obtain ⟨hx, hb, hr, hml, hts0, hown, hlocks, hin, hK, hlo, hZ⟩ := hF
  have hts : ∀ w ∈ tbg, w.before args s = true := fun w h => hts0 w (List.mem_cons_of_mem _ h)
  refine gs (pc' := 1) (fun _ _ _ _ _ hl => lv_aload_n hx hb d_Di_divideScaled_0 rfl (lv_at hl 0 rfl)) ?_
  refine g_get hx hb hts hin_Di hown hK hhd rfl 2 (by decide) (hts _ wm90) (fun _ h9 => h9) rfl d_Di_divideScaled_1 ?_
  refine g_get hx hb hts hin_Na hown hK hhv rfl 1 (by decide) (hts _ wm76) (fun _ h9 => h9) rfl d_Di_divideScaled_4 ?_
  refine gst (pc' := 8) (L' := [(2, .int (nI (md + 2))), (0, .ref hd), (1, .int (nI sh))]) (fun _ _ _ _ _ hl => lv_istore_n hx hb d_Di_divideScaled_7 rfl hl (by decide) rfl) ?_
  refine gs (pc' := 9) (fun _ _ _ _ _ hl => lv_aload_n hx hb d_Di_divideScaled_8 rfl (lv_at hl 1 rfl)) ?_
  refine g_get hx hb hts hin_Di hown hK hhd rfl 0 (by decide) (hts _ wm85) (fun _ h9 => h9) rfl d_Di_divideScaled_9 ?_
  refine gs (pc' := 13) (fun _ _ _ _ _ hl => lv_iload_n hx hb d_Di_divideScaled_12 rfl (lv_at hl 2 rfl)) ?_
  refine gs (pc' := 14) (fun _ _ _ _ _ hl => lv_iconst (v := nI 1) hx hb d_Di_divideScaled_13 (by decide)) ?_
  refine gs (pc' := 15) (fun _ _ _ _ _ hl => lv_iadd hx hb d_Di_divideScaled_14) ?_
  refine g_eqi (show (nI sh) + (nI 1) = nI (sh + 1) from nI_add _ _) ?_
  refine g_outv hlo (g_runV (As := [.int (nI (sh + 1))]) (rest := []) ⟨hx, hb, hml, hown, hts⟩ hK hZ hRc hRs (c_Na_grow l D cA lo MC MS G B tq hqu aq capq (sh + 1) zq fq hhq haq (by omega) (by omega) (by omega) (by omega) hB1 hB2) (fun _ _ => cwV 1 hts (tb_good (tb_cons wm467 (tb_cons wm189 (tb_cons wm190 (tb_cons wm5 k_Na_grow))))) rfl rfl rfl (by decide +kernel) ⟨by rw [hRf]; exact Nat.le_of_ble_eq_true rfl, by rw [hRl]; exact Nat.le_of_ble_eq_true rfl⟩) hhq rfl hB1 hB2 rfl (Nat.le_of_ble_eq_true rfl) d_Di_divideScaled_15) (fun G_1 B_2 p_3 => ?_)
  obtain ⟨a_4, g_5, e_6, e_7, e_8, e_9, e_10, e_11⟩ := p_3
  have e_10 : B_2.1 + capq ≤ B.1 + gcap capq (sh + 1) := e_10
  have e_11 : B_2.2 + 2 * capq ≤ B.2 + 2 * gcap capq (sh + 1) := e_11
  have gg_12 := gcap_ge capq (sh + 1)
  have gg_13 : gcap capq (sh + 1) ≤ 2 * 50000 := gcap_le (by omega) (by omega)
  have f_14 : G_1 hd = some (td, .inr (2, [.ref hqu, .ref hre, .ref hdv])) := e_9 _ _ hhd hndq
  have f_15 : G_1 hdv = some (tv, .inr (4, [.ref av, .int (nI (md + 2))])) := e_9 _ _ hhv hnvq
  have f_16 : G_1 av = some (tv, .inl (cA 0, capv, .inl fv)) := e_9 _ _ hav hnvq
  have f_17 : G_1 hre = some (tr, .inr (4, [.ref ar, .int zr])) := e_9 _ _ hhr hnrq
  have f_18 : G_1 ar = some (tr, .inl (cA 0, capr, .inl fr)) := e_9 _ _ har hnrq
  refine gs (pc' := 19) (fun _ _ _ _ _ hl => lv_iload_n hx hb d_Di_divideScaled_18 rfl (lv_at hl 2 rfl)) ?_
  refine gst (pc' := 20) (L' := [(3, .int (nI sh)), (2, .int (nI (md + 2))), (0, .ref hd), (1, .int (nI sh))]) (fun _ _ _ _ _ hl => lv_istore_n hx hb d_Di_divideScaled_19 rfl hl (by decide) rfl) ?_
  refine gsub [0, 2, 3, 1] rfl ?_
  have loop : ∀ (j : Nat) (g p1 : Nat → Int32) (Gk : gT), (j ≤ sh + 1) → (lim g (sh + md + 3)) → (∀ x, x < j → g x = fr x) → (dv (dsh (df g) j) (md + 2) < v) → (∀ x, j ≤ x → x < sh + 1 → p1 x = nI (df p1 x) ∧ df p1 x < 1000000000) → (uu = dv (dsh (df p1) j) (sh + 1 - j) * v * 1000000000 ^ j + dv (dsh (df g) j) (md + 2) * 1000000000 ^ j + dv (df fr) j) → (gfr (fun x => x = tr ∨ x = tq) G Gk) → Gk hd = some (td, .inr (2, [.ref hqu, .ref hre, .ref hdv])) → Gk hdv = some (tv, .inr (4, [.ref av, .int (nI (md + 2))])) → Gk av = some (tv, .inl (cA 0, capv, .inl fv)) → Gk hre = some (tr, .inr (4, [.ref ar, .int zr])) → Gk ar = some (tr, .inl (cA 0, capr, .inl g)) → Gk hqu = some (tq, .inr (4, [.ref a_4, .int zq])) → Gk a_4 = some (tq, .inl (cA 0, (gcap capq (sh + 1)), .inl p1)) → ∀ (iv : Int32), iv + nI 1 = nI j → gV p l e R s m args below meth c D clS lo 5 Q 20 [(3, .int iv), (0, .ref hd), (1, .int (nI sh)), (2, .int (nI (md + 2)))] [] Gk B_2 := by
    intro j
    induction j with
    | zero =>
      intro g p1 Gk hj hg hsm hR hp1 hu hfr k1 k2 k3 k4 k5 k6 k7 iv hiv
      have hm1 := iv_0 hiv
      subst hm1
      have hlp : lim p1 (sh + 1) := fun x hx2 => hp1 x (Nat.zero_le _) hx2
      rw [dsh_0, dsh_0, dv_0, Nat.pow_zero, Nat.mul_one, Nat.mul_one, Nat.add_zero, Nat.sub_zero] at hu
      rw [dsh_0] at hR
      have hqr := qr_of hu hR
      refine gs (pc' := 21) (fun _ _ _ _ _ hl => lv_iload_n hx hb d_Di_divideScaled_20 rfl (lv_at hl 0 rfl)) ?_
      refine gsb (pc1 := 69) (pc2 := 24) (fun _ _ _ _ _ => lv_if_lt (tgt := 69) hx hb d_Di_divideScaled_21 (by decide)) (fun c_19 => ?_) (fun c_19 => ?_)
      · skip
        refine gs (pc' := 70) (fun _ _ _ _ _ hl => lv_aload_n hx hb d_Di_divideScaled_69 rfl (lv_at hl 1 rfl)) ?_
        refine g_get hx hb hts hin_Di hown hK k1 rfl 0 (by decide) (hts _ wm85) (fun _ h9 => h9) rfl d_Di_divideScaled_70 ?_
        refine gs (pc' := 74) (fun _ _ _ _ _ hl => lv_iload_n hx hb d_Di_divideScaled_73 rfl (lv_at hl 2 rfl)) ?_
        refine gs (pc' := 75) (fun _ _ _ _ _ hl => lv_iconst (v := nI 1) hx hb d_Di_divideScaled_74 (by decide)) ?_
        refine gs (pc' := 76) (fun _ _ _ _ _ hl => lv_iadd hx hb d_Di_divideScaled_75) ?_
        refine g_eqi (show (nI sh) + (nI 1) = nI (sh + 1) from nI_add _ _) ?_
        refine g_put (ty := .int) hx hb hts hin_Na ty_Na ty_Na_ok nm_Na hown hK k6 rfl 1 (by decide) (hts _ wm76) (fun _ h9 => h9) rfl (by decide +kernel) rfl rfl (Nat.le_of_ble_eq_true rfl) d_Di_divideScaled_76 (fun G_20 f_21 o_22 => ?_)
        have f_23 : G_20 hqu = some (tq, .inr (4, [.ref a_4, .int (nI (sh + 1))])) := f_21
        have f_24 : G_20 hd = some (td, .inr (2, [.ref hqu, .ref hre, .ref hdv])) := (o_22 _ (gne k1 k6 (fun e => by cases e))).trans k1
        have f_25 : G_20 hdv = some (tv, .inr (4, [.ref av, .int (nI (md + 2))])) := (o_22 _ (gne k2 k6 (fun e => hnvq (congrArg Prod.fst e)))).trans k2
        have f_26 : G_20 av = some (tv, .inl (cA 0, capv, .inl fv)) := (o_22 _ (gne k3 k6 (fun e => by cases e))).trans k3
        have f_27 : G_20 hre = some (tr, .inr (4, [.ref ar, .int zr])) := (o_22 _ (gne k4 k6 (fun e => hnrq (congrArg Prod.fst e)))).trans k4
        have f_28 : G_20 ar = some (tr, .inl (cA 0, capr, .inl g)) := (o_22 _ (gne k5 k6 (fun e => by cases e))).trans k5
        have f_29 : G_20 a_4 = some (tq, .inl (cA 0, (gcap capq (sh + 1)), .inl p1)) := (o_22 _ (gne k7 k6 (fun e => by cases e))).trans k7
        have w_30 : gfr (fun x => x = tr ∨ x = tq) G G_20 := gfr_put hfr k6 (Or.inr rfl) o_22
        refine gs (pc' := 80) (fun _ _ _ _ _ hl => lv_aload_n hx hb d_Di_divideScaled_79 rfl (lv_at hl 1 rfl)) ?_
        refine g_get hx hb hts hin_Di hown hK f_24 rfl 0 (by decide) (hts _ wm85) (fun _ h9 => h9) rfl d_Di_divideScaled_80 ?_
        refine g_outv hlo (g_runV (As := []) (rest := []) ⟨hx, hb, hml, hown, hts⟩ hK hZ hRc hRs (c_Na_trim l D cA lo MC MS G_20 B_2 tq hqu a_4 (sh + 1) (gcap capq (sh + 1)) p1 f_23 f_29 (by omega) (by omega) hlp (show B_2.1 ≤ MC by omega) (show B_2.2 ≤ MS by omega)) (fun _ _ => cwV 0 hts (tb_good (tb_cons wm480 (tb_cons wm213 (tb_cons wm214 (tb_cons wm5 k_Na_trim))))) rfl rfl rfl (by decide +kernel) ⟨by rw [hRf]; exact Nat.le_of_ble_eq_true rfl, by rw [hRl]; exact Nat.le_of_ble_eq_true rfl⟩) f_23 rfl (show B_2.1 ≤ MC by omega) (show B_2.2 ≤ MS by omega) rfl (Nat.le_of_ble_eq_true rfl) d_Di_divideScaled_83) (fun G_31 B_32 p_33 => ?_)
        obtain ⟨e_34, z_35, e_36, e_37, e_38, f_39, o_40⟩ := p_33
        have e_34 : B_2 = B_32 := (show B_32 = B_2 from e_34).symm
        subst e_34
        have f_41 : G_31 hd = some (td, .inr (2, [.ref hqu, .ref hre, .ref hdv])) := (o_40 _ (gne f_24 f_23 (fun e => by cases e))).trans f_24
        have f_42 : G_31 hdv = some (tv, .inr (4, [.ref av, .int (nI (md + 2))])) := (o_40 _ (gne f_25 f_23 (fun e => hnvq (congrArg Prod.fst e)))).trans f_25
        have f_43 : G_31 av = some (tv, .inl (cA 0, capv, .inl fv)) := (o_40 _ (gne f_26 f_23 (fun e => by cases e))).trans f_26
        have f_44 : G_31 hre = some (tr, .inr (4, [.ref ar, .int zr])) := (o_40 _ (gne f_27 f_23 (fun e => hnrq (congrArg Prod.fst e)))).trans f_27
        have f_45 : G_31 ar = some (tr, .inl (cA 0, capr, .inl g)) := (o_40 _ (gne f_28 f_23 (fun e => by cases e))).trans f_28
        have f_46 : G_31 a_4 = some (tq, .inl (cA 0, (gcap capq (sh + 1)), .inl p1)) := (o_40 _ (gne f_29 f_23 (fun e => by cases e))).trans f_29
        have w_47 : gfr (fun x => x = tr ∨ x = tq) G G_31 := gfr_put w_30 f_23 (Or.inr rfl) o_40
        refine gs (pc' := 87) (fun _ _ _ _ _ hl => lv_aload_n hx hb d_Di_divideScaled_86 rfl (lv_at hl 1 rfl)) ?_
        refine g_get hx hb hts hin_Di hown hK f_41 rfl 1 (by decide) (hts _ wm87) (fun _ h9 => h9) rfl d_Di_divideScaled_87 ?_
        refine gs (pc' := 91) (fun _ _ _ _ _ hl => lv_iload_n hx hb d_Di_divideScaled_90 rfl (lv_at hl 3 rfl)) ?_
        refine g_put (ty := .int) hx hb hts hin_Na ty_Na ty_Na_ok nm_Na hown hK f_44 rfl 1 (by decide) (hts _ wm76) (fun _ h9 => h9) rfl (by decide +kernel) rfl rfl (Nat.le_of_ble_eq_true rfl) d_Di_divideScaled_91 (fun G_48 f_49 o_50 => ?_)
        have f_51 : G_48 hre = some (tr, .inr (4, [.ref ar, .int (nI (md + 2))])) := f_49
        have f_52 : G_48 hd = some (td, .inr (2, [.ref hqu, .ref hre, .ref hdv])) := (o_50 _ (gne f_41 f_44 (fun e => by cases e))).trans f_41
        have f_53 : G_48 hdv = some (tv, .inr (4, [.ref av, .int (nI (md + 2))])) := (o_50 _ (gne f_42 f_44 (fun e => hnvr (congrArg Prod.fst e)))).trans f_42
        have f_54 : G_48 av = some (tv, .inl (cA 0, capv, .inl fv)) := (o_50 _ (gne f_43 f_44 (fun e => by cases e))).trans f_43
        have f_55 : G_48 ar = some (tr, .inl (cA 0, capr, .inl g)) := (o_50 _ (gne f_45 f_44 (fun e => by cases e))).trans f_45
        have f_56 : G_48 a_4 = some (tq, .inl (cA 0, (gcap capq (sh + 1)), .inl p1)) := (o_50 _ (gne f_46 f_44 (fun e => by cases e))).trans f_46
        have f_57 : G_48 hqu = some (tq, .inr (4, [.ref a_4, .int (nI z_35)])) := (o_50 _ (gne f_39 f_44 (fun e => hnqr (congrArg Prod.fst e)))).trans f_39
        have w_58 : gfr (fun x => x = tr ∨ x = tq) G G_48 := gfr_put w_47 f_44 (Or.inl rfl) o_50
        exact hret 94 _ _ _ d_Di_divideScaled_94 (show B_2.1 ≤ MC by omega) (show B_2.2 ≤ MS by omega) ⟨a_4, z_35, p1, g, f_57, f_56, e_36, ⟨lim_le hlp e_36, e_37, by rw [e_38]; exact hqr.1⟩, f_51, f_55, lim_le hg (by omega), hqr.2, w_58, e_10, e_11⟩
      · skip
        exact absurd (show (-1 : Int32) < 0 by decide) c_19
    | succ j ih =>
      intro g p1 Gk hj hg hsm hR hp1 hu hfr k1 k2 k3 k4 k5 k6 k7 iv hiv
      have hm1 := iv_s hiv
      subst hm1
      obtain ⟨U, hU⟩ : ∃ U, U = dv (dsh (df g) j) (md + 3) := ⟨_, rfl⟩
      have hUs : U = df g j + 1000000000 * dv (dsh (df g) (j + 1)) (md + 2) := hU.trans (dsh_s j (md + 2))
      have hdj : df g j < 1000000000 := (hg j (by omega)).2
      have hUlt : U < 1000000000 * v := by omega
      refine gs (pc' := 21) (fun _ _ _ _ _ hl => lv_iload_n hx hb d_Di_divideScaled_20 rfl (lv_at hl 0 rfl)) ?_
      refine gsb (pc1 := 69) (pc2 := 24) (fun _ _ _ _ _ => lv_if_lt (tgt := 69) hx hb d_Di_divideScaled_21 (by decide)) (fun c_59 => ?_) (fun c_59 => ?_)
      · skip
        have nc_59 : j < 0 := (n0_lt (a := j) (by omega)).1 c_59
        exact absurd nc_59 (by omega)
      · skip
        have nc_59 : j ≥ 0 := (n0_lt (a := j) (by omega)).2 c_59
        refine gs (pc' := 25) (fun _ _ _ _ _ hl => lv_aload_n hx hb d_Di_divideScaled_24 rfl (lv_at hl 1 rfl)) ?_
        refine gs (pc' := 26) (fun _ _ _ _ _ hl => lv_iload_n hx hb d_Di_divideScaled_25 rfl (lv_at hl 0 rfl)) ?_
        refine gs (pc' := 27) (fun _ _ _ _ _ hl => lv_iload_n hx hb d_Di_divideScaled_26 rfl (lv_at hl 3 rfl)) ?_
        refine gs (pc' := 28) (fun _ _ _ _ _ hl => lv_iadd hx hb d_Di_divideScaled_27) ?_
        refine g_eqi (show (nI j) + (nI (md + 2)) = nI (j + md + 2) from (nI_add _ _).trans (congrArg nI (show j + (md + 2) = j + md + 2 by omega))) ?_
        refine g_outi hlo (g_runV (As := [.int (nI (j + md + 2))]) (rest := []) ⟨hx, hb, hml, hown, hts⟩ hK hZ hRc hRs (c_Di_guessLimb l D cA lo MC MS Gk B_2 td hd hqu hre hdv k1 tv av capv md fv k2 k3 (by omega) (by omega) hlv tr ar capr zr g k4 k5 (by omega) j v U (by omega) (lim_le hg (by omega)) hvv hU hUlt htop (show B_2.1 ≤ MC by omega) (show B_2.2 ≤ MS by omega)) (fun _ _ => cwV 1 hts (tb_good (tb_cons wm468 (tb_cons wm470 (tb_cons ws6 (tb_cons wm4 k_Di_guessLimb))))) rfl rfl rfl (by decide +kernel) ⟨by rw [hRf]; exact Nat.le_of_ble_eq_true rfl, by rw [hRl]; exact Nat.le_of_ble_eq_true rfl⟩) k1 rfl (show B_2.1 ≤ MC by omega) (show B_2.2 ≤ MS by omega) rfl (Nat.le_of_ble_eq_true rfl) d_Di_divideScaled_28) (fun r_63 G_60 B_61 p_62 => ?_)
        obtain ⟨hu9, gu, hr9, hgb, hg1, hg2⟩ := p_62
        cases hu9
        subst hr9
        refine gst (pc' := 33) (L' := [(4, .int (nI gu)), (3, .int (nI j)), (0, .ref hd), (1, .int (nI sh)), (2, .int (nI (md + 2)))]) (fun _ _ _ _ _ hl => lv_istore hx hb d_Di_divideScaled_31 hl (by decide) rfl) ?_
        refine gs (pc' := 34) (fun _ _ _ _ _ hl => lv_aload_n hx hb d_Di_divideScaled_33 rfl (lv_at hl 2 rfl)) ?_
        refine gs (pc' := 35) (fun _ _ _ _ _ hl => lv_iload_n hx hb d_Di_divideScaled_34 rfl (lv_at hl 1 rfl)) ?_
        refine gs (pc' := 37) (fun _ _ _ _ _ hl => lv_iload hx hb d_Di_divideScaled_35 (lv_at hl 0 rfl)) ?_
        refine gs (pc' := 38) (fun _ _ _ _ _ hl => lv_i2l (v := lN gu) hx hb d_Di_divideScaled_37 (nI_l (by omega))) ?_
        refine g_outi hlo (g_runV (As := [.int (nI j), .long (lN gu)]) (rest := []) ⟨hx, hb, hml, hown, hts⟩ hK hZ hRc hRs (c_Di_subtract l D cA lo MC MS Gk B_2 td hd hqu hre hdv k1 tv av capv md fv k2 k3 (by omega) (by omega) hlv tr ar capr zr g k4 k5 (by omega) j v U gu (by omega) (lim_le hg (by omega)) hnvr hndr hvv hv0 hvM hU hgb hg1 hg2 (show B_2.1 ≤ MC by omega) (show B_2.2 ≤ MS by omega)) (fun _ _ => cwV 2 hts (tb_good (tb_cons wm472 (tb_cons wm474 (tb_cons ws7 (tb_cons wm4 k_Di_subtract))))) rfl rfl rfl (by decide +kernel) ⟨by rw [hRf]; exact Nat.le_of_ble_eq_true rfl, by rw [hRl]; exact Nat.le_of_ble_eq_true rfl⟩) k1 rfl (show B_2.1 ≤ MC by omega) (show B_2.2 ≤ MS by omega) rfl (Nat.le_of_ble_eq_true rfl) d_Di_divideScaled_38) (fun r_67 G_64 B_65 p_66 => ?_)
        obtain ⟨hb7, f7, hs1, hs2, hs3, hs4, hs5, hs6, hor⟩ := p_66
        have hb7 : B_2 = B_65 := (show B_65 = B_2 from hb7).symm
        subst hb7
        have f_68 : G_64 hd = some (td, .inr (2, [.ref hqu, .ref hre, .ref hdv])) := hs6 _ _ k1 hndr
        have f_69 : G_64 hdv = some (tv, .inr (4, [.ref av, .int (nI (md + 2))])) := hs6 _ _ k2 hnvr
        have f_70 : G_64 av = some (tv, .inl (cA 0, capv, .inl fv)) := hs6 _ _ k3 hnvr
        have f_71 : G_64 hqu = some (tq, .inr (4, [.ref a_4, .int zq])) := hs6 _ _ k6 hnqr
        have f_72 : G_64 a_4 = some (tq, .inl (cA 0, (gcap capq (sh + 1)), .inl p1)) := hs6 _ _ k7 hnqr
        rcases hor with ⟨hr7, hsub⟩ | ⟨hr7, hsub⟩
        · skip
          subst hr7
          have hfs : gfr (fun x => x = tr) Gk G_64 := hs6
          refine gsb (pc1 := 52) (pc2 := 44) (fun _ _ _ _ _ => lv_if_eq (tgt := 52) hx hb d_Di_divideScaled_41 (by decide)) (fun c_73 => ?_) (fun c_73 => ?_)
          · skip
            have nc_73 : 0 = 0 := (n0_eq (a := 0) (by omega)).1 c_73
            refine gs (pc' := 53) (fun _ _ _ _ _ hl => lv_aload_n hx hb d_Di_divideScaled_52 rfl (lv_at hl 2 rfl)) ?_
            refine g_get hx hb hts hin_Di hown hK f_68 rfl 0 (by decide) (hts _ wm85) (fun _ h9 => h9) rfl d_Di_divideScaled_53 ?_
            refine g_get hx hb hts hin_Na hown hK f_71 rfl 0 (by decide) (hts _ wm73) (fun _ h9 => h9) rfl d_Di_divideScaled_56 ?_
            refine gs (pc' := 60) (fun _ _ _ _ _ hl => lv_iload_n hx hb d_Di_divideScaled_59 rfl (lv_at hl 1 rfl)) ?_
            refine gs (pc' := 62) (fun _ _ _ _ _ hl => lv_iload hx hb d_Di_divideScaled_60 (lv_at hl 0 rfl)) ?_
            refine g_iast hx hb hK 0 f_72 rfl (show vp_in (nI j) (gcap capq (sh + 1)) from vp_in_nI (by omega) (by omega)) d_Di_divideScaled_62 (fun G_74 f_75 o_76 => ?_)
            rw [nI_clamp (by omega)] at f_75
            have f_77 : G_74 hd = some (td, .inr (2, [.ref hqu, .ref hre, .ref hdv])) := (o_76 _ (gne f_68 f_72 (fun e => by cases e))).trans f_68
            have f_78 : G_74 hdv = some (tv, .inr (4, [.ref av, .int (nI (md + 2))])) := (o_76 _ (gne f_69 f_72 (fun e => by cases e))).trans f_69
            have f_79 : G_74 av = some (tv, .inl (cA 0, capv, .inl fv)) := (o_76 _ (gne f_70 f_72 (fun e => hnvq (congrArg Prod.fst e)))).trans f_70
            have f_80 : G_74 hqu = some (tq, .inr (4, [.ref a_4, .int zq])) := (o_76 _ (gne f_71 f_72 (fun e => by cases e))).trans f_71
            have f_81 : G_74 hre = some (tr, .inr (4, [.ref ar, .int zr])) := (o_76 _ (gne hs1 f_72 (fun e => by cases e))).trans hs1
            have f_82 : G_74 ar = some (tr, .inl (cA 0, capr, .inl f7)) := (o_76 _ (gne hs2 f_72 (fun e => hnrq (congrArg Prod.fst e)))).trans hs2
            refine gst (pc' := 66) (L' := [(3, .int (nI j + (-1))), (4, .int (nI gu)), (0, .ref hd), (1, .int (nI sh)), (2, .int (nI (md + 2)))]) (fun _ _ _ _ _ hl => lv_iinc (v := nI j + (-1)) hx hb d_Di_divideScaled_63 hl (k := 1) rfl (rfl) (by decide) rfl) ?_
            refine gs (pc' := 20) (fun _ _ _ _ _ hl => lv_goto (tgt := 20) hx hb d_Di_divideScaled_66 (by decide)) ?_
            refine gsub [0, 2, 3, 4] rfl ?_
            have hqd : gu = U / v := hsub.1
            have hdm := Nat.div_add_mod U v
            rw [← hqd] at hdm
            have hRn : dv (dsh (df f7) j) (md + 2) = U % v := hsub.2
            have hsame : ∀ x, x < j → f7 x = fr x := fun x hx2 => (hs5 x hx2).trans (hsm x (by omega))
            have hlim : lim f7 (sh + md + 3) := fun x hx2 => by
              by_cases e : x < j + md + 3
              · exact hs3 x e
              · have e9 : f7 x = g x := hs4 x (by omega)
                have := hg x hx2
                unfold df at *
                rw [e9]
                exact this
            have hfj : df g j = df fr j := by unfold df; rw [hsm j (by omega)]
            have hqq : gu < 1000000000 := by rw [hqd]; exact Nat.div_lt_of_lt_mul (by rw [Nat.mul_comm]; exact hUlt)
            have hpu : dv (dsh (df (upd p1 j (nI (gu)))) j) (sh + 1 - j) = (gu) + 1000000000 * dv (dsh (df p1) (j + 1)) (sh + 1 - (j + 1)) := by
              rw [show sh + 1 - j = sh + 1 - (j + 1) + 1 by omega, dsh_s, df_us (by omega), dsh_congr (fun x h1 _ => df_un (by omega))]
            have hfrn : gfr (fun x => x = tr ∨ x = tq) G G_74 := gfr_put (gfr_mono (gfr_tr hfr hfs) (fun _ h => h.elim id Or.inl)) f_72 (Or.inr rfl) o_76
            exact ih f7 (upd p1 j (nI (gu))) G_74 (by omega) hlim hsame (by rw [hRn]; exact Nat.mod_lt _ hv0) (fun x h1 h2 => by
                by_cases e : x = j
                · subst e; rw [df_us (by omega), pk_us]; exact ⟨rfl, hqq⟩
                · rw [df_un e, pk_un e]; exact hp1 x (by omega) h2) (by rw [hpu, hRn]; rw [dv_s (df fr) j, pB_s] at hu; exact st_div hu (by rw [hUs, hfj]) hdm) hfrn f_77 f_78 f_79 f_81 f_82 f_80 f_75 _ (by rw [Int32.add_assoc]; exact Int32.add_zero _)
          · skip
            have nc_73 : 0 ≠ 0 := (n0_eq (a := 0) (by omega)).2 c_73
            exact absurd nc_73 (by omega)
        · skip
          subst hr7
          refine gsb (pc1 := 52) (pc2 := 44) (fun _ _ _ _ _ => lv_if_eq (tgt := 52) hx hb d_Di_divideScaled_41 (by decide)) (fun c_83 => ?_) (fun c_83 => ?_)
          · skip
            have nc_83 : 1 = 0 := (n0_eq (a := 1) (by omega)).1 c_83
            exact absurd nc_83 (by omega)
          · skip
            have nc_83 : 1 ≠ 0 := (n0_eq (a := 1) (by omega)).2 c_83
            refine gs (pc' := 45) (fun _ _ _ _ _ hl => lv_aload_n hx hb d_Di_divideScaled_44 rfl (lv_at hl 2 rfl)) ?_
            refine gs (pc' := 46) (fun _ _ _ _ _ hl => lv_iload_n hx hb d_Di_divideScaled_45 rfl (lv_at hl 1 rfl)) ?_
            refine g_outv hlo (g_runV (As := [.int (nI j)]) (rest := []) ⟨hx, hb, hml, hown, hts⟩ hK hZ hRc hRs (c_Di_giveBack l D cA lo MC MS G_64 B_2 td hd hqu hre hdv f_68 tv av capv md fv f_69 f_70 (by omega) (by omega) hlv tr ar capr zr f7 hs1 hs2 (by omega) j (U % v) (by omega) hs3 hnvr hndr (by rw [hvv]; exact hsub.2) (Nat.lt_of_lt_of_le (Nat.mod_lt _ hv0) hvM) (show B_2.1 ≤ MC by omega) (show B_2.2 ≤ MS by omega)) (fun _ _ => cwV 1 hts (tb_good (tb_cons wm476 (tb_cons wm478 (tb_cons ws8 (tb_cons wm4 k_Di_giveBack))))) rfl rfl rfl (by decide +kernel) ⟨by rw [hRf]; exact Nat.le_of_ble_eq_true rfl, by rw [hRl]; exact Nat.le_of_ble_eq_true rfl⟩) f_68 rfl (show B_2.1 ≤ MC by omega) (show B_2.2 ≤ MS by omega) rfl (Nat.le_of_ble_eq_true rfl) d_Di_divideScaled_46) (fun G_84 B_85 p_86 => ?_)
            obtain ⟨hb8, f8, ht1, ht2, ht3, ht4, ht5, ht6, ht7⟩ := p_86
            have hb8 : B_2 = B_85 := (show B_85 = B_2 from hb8).symm
            subst hb8
            have f_87 : G_84 hd = some (td, .inr (2, [.ref hqu, .ref hre, .ref hdv])) := ht6 _ _ f_68 hndr
            have f_88 : G_84 hdv = some (tv, .inr (4, [.ref av, .int (nI (md + 2))])) := ht6 _ _ f_69 hnvr
            have f_89 : G_84 av = some (tv, .inl (cA 0, capv, .inl fv)) := ht6 _ _ f_70 hnvr
            have f_90 : G_84 hqu = some (tq, .inr (4, [.ref a_4, .int zq])) := ht6 _ _ f_71 hnqr
            have f_91 : G_84 a_4 = some (tq, .inl (cA 0, (gcap capq (sh + 1)), .inl p1)) := ht6 _ _ f_72 hnqr
            have hfs : gfr (fun x => x = tr) Gk G_84 := gfr_mono (gfr_tr hs6 ht6) (fun _ h => h.elim id id)
            refine gst (pc' := 52) (L' := [(4, .int (nI (gu - 1))), (3, .int (nI j)), (0, .ref hd), (1, .int (nI sh)), (2, .int (nI (md + 2)))]) (fun _ _ _ _ _ hl => lv_iinc (v := nI (gu - 1)) hx hb d_Di_divideScaled_49 hl (k := 0) rfl (nI_m1 (by rw [hsub.1]; exact Nat.le_add_left 1 _)) (by decide) rfl) ?_
            refine gs (pc' := 53) (fun _ _ _ _ _ hl => lv_aload_n hx hb d_Di_divideScaled_52 rfl (lv_at hl 2 rfl)) ?_
            refine g_get hx hb hts hin_Di hown hK f_87 rfl 0 (by decide) (hts _ wm85) (fun _ h9 => h9) rfl d_Di_divideScaled_53 ?_
            refine g_get hx hb hts hin_Na hown hK f_90 rfl 0 (by decide) (hts _ wm73) (fun _ h9 => h9) rfl d_Di_divideScaled_56 ?_
            refine gs (pc' := 60) (fun _ _ _ _ _ hl => lv_iload_n hx hb d_Di_divideScaled_59 rfl (lv_at hl 1 rfl)) ?_
            refine gs (pc' := 62) (fun _ _ _ _ _ hl => lv_iload hx hb d_Di_divideScaled_60 (lv_at hl 0 rfl)) ?_
            refine g_iast hx hb hK 0 f_91 rfl (show vp_in (nI j) (gcap capq (sh + 1)) from vp_in_nI (by omega) (by omega)) d_Di_divideScaled_62 (fun G_92 f_93 o_94 => ?_)
            rw [nI_clamp (by omega)] at f_93
            have f_95 : G_92 hd = some (td, .inr (2, [.ref hqu, .ref hre, .ref hdv])) := (o_94 _ (gne f_87 f_91 (fun e => by cases e))).trans f_87
            have f_96 : G_92 hdv = some (tv, .inr (4, [.ref av, .int (nI (md + 2))])) := (o_94 _ (gne f_88 f_91 (fun e => by cases e))).trans f_88
            have f_97 : G_92 av = some (tv, .inl (cA 0, capv, .inl fv)) := (o_94 _ (gne f_89 f_91 (fun e => hnvq (congrArg Prod.fst e)))).trans f_89
            have f_98 : G_92 hqu = some (tq, .inr (4, [.ref a_4, .int zq])) := (o_94 _ (gne f_90 f_91 (fun e => by cases e))).trans f_90
            have f_99 : G_92 hre = some (tr, .inr (4, [.ref ar, .int zr])) := (o_94 _ (gne ht1 f_91 (fun e => by cases e))).trans ht1
            have f_100 : G_92 ar = some (tr, .inl (cA 0, capr, .inl f8)) := (o_94 _ (gne ht2 f_91 (fun e => hnrq (congrArg Prod.fst e)))).trans ht2
            refine gst (pc' := 66) (L' := [(3, .int (nI j + (-1))), (4, .int (nI (gu - 1))), (0, .ref hd), (1, .int (nI sh)), (2, .int (nI (md + 2)))]) (fun _ _ _ _ _ hl => lv_iinc (v := nI j + (-1)) hx hb d_Di_divideScaled_63 hl (k := 1) rfl (rfl) (by decide) rfl) ?_
            refine gs (pc' := 20) (fun _ _ _ _ _ hl => lv_goto (tgt := 20) hx hb d_Di_divideScaled_66 (by decide)) ?_
            refine gsub [0, 2, 3, 4] rfl ?_
            have hqd : gu - 1 = U / v := by rw [hsub.1]; exact Nat.add_sub_cancel _ _
            have hdm := Nat.div_add_mod U v
            rw [← hqd] at hdm
            have hRn : dv (dsh (df f8) j) (md + 2) = U % v := ht7
            have hsame : ∀ x, x < j → f8 x = fr x := fun x hx2 => ((ht5 x hx2).trans (hs5 x hx2)).trans (hsm x (by omega))
            have hlim : lim f8 (sh + md + 3) := fun x hx2 => by
              by_cases e : x < j + md + 3
              · exact ht3 x e
              · have e9 : f8 x = g x := (ht4 x (by omega)).trans (hs4 x (by omega))
                have := hg x hx2
                unfold df at *
                rw [e9]
                exact this
            have hfj : df g j = df fr j := by unfold df; rw [hsm j (by omega)]
            have hqq : gu - 1 < 1000000000 := by rw [hqd]; exact Nat.div_lt_of_lt_mul (by rw [Nat.mul_comm]; exact hUlt)
            have hpu : dv (dsh (df (upd p1 j (nI (gu - 1)))) j) (sh + 1 - j) = (gu - 1) + 1000000000 * dv (dsh (df p1) (j + 1)) (sh + 1 - (j + 1)) := by
              rw [show sh + 1 - j = sh + 1 - (j + 1) + 1 by omega, dsh_s, df_us (by omega), dsh_congr (fun x h1 _ => df_un (by omega))]
            have hfrn : gfr (fun x => x = tr ∨ x = tq) G G_92 := gfr_put (gfr_mono (gfr_tr hfr hfs) (fun _ h => h.elim id Or.inl)) f_91 (Or.inr rfl) o_94
            exact ih f8 (upd p1 j (nI (gu - 1))) G_92 (by omega) hlim hsame (by rw [hRn]; exact Nat.mod_lt _ hv0) (fun x h1 h2 => by
                by_cases e : x = j
                · subst e; rw [df_us (by omega), pk_us]; exact ⟨rfl, hqq⟩
                · rw [df_un e, pk_un e]; exact hp1 x (by omega) h2) (by rw [hpu, hRn]; rw [dv_s (df fr) j, pB_s] at hu; exact st_div hu (by rw [hUs, hfj]) hdm) hfrn f_95 f_96 f_97 f_99 f_100 f_98 f_93 _ (by rw [Int32.add_assoc]; exact Int32.add_zero _)
  exact loop (sh + 1) fr g_5 G_1 (Nat.le_refl _) hlr (fun _ _ => rfl) hR0 (fun x h1 h2 => absurd h1 (by omega)) (by rw [Nat.sub_self, dv_0, Nat.zero_mul, Nat.zero_mul, Nat.zero_add, huu, show sh + md + 3 = (sh + 1) + (md + 2) by omega, dv_split, Nat.add_comm, Nat.mul_comm]) (gfr_mono e_9 (fun _ h => Or.inr h)) f_14 f_15 f_16 f_17 f_18 e_6 e_7 _ (nI_add _ _)
