theorem rst_bd {f : Nat → Nat} {ch : Nat → Bool} {i M : Nat} (h : f i < M) : -1 ≤ rst f ch i ∧ rst f ch i < M := by
  unfold rst
  split <;> omega
set_option maxHeartbeats 4000000 in
set_option maxRecDepth 100000 in
theorem c_Mo_share (l : Launch) (D : va_G) (cA : Nat → ClassId) (lo MC MS : Nat) (G : gT) (B : Nat × Nat) (hm : Nat) (A : Nat → Nat) (S : St) (th : Nat) (qm qo qk : Option Rat) (hV : MW cA hm A S th qm qo qk G) (hW : WF S) (wh : Int) (hwh1 : -9223372036854775808 ≤ wh) (hwh2 : wh < 9223372036854775808) (kq : Int) (hkq1 : -2147483648 ≤ kq) (hkq2 : kq < 2147483648) (hB1 : B.1 ≤ MC) (hB2 : B.2 ≤ MS) : gMet l y_Mo_share w_Mo_share 0 0 D clS (gtys cA) lo MC MS [.ref hm, .long (lI wh), .int (iI kq)] G B (gQl D clS lo (fun r9 u => u.2 = B ∧ ((sp_share S wh (iI kq)).1 = 0 → r9 = lI (sp_share S wh (iI kq)).2.1) ∧ MW cA hm A (sp_share S wh (iI kq)).2.2 (sp_share S wh (iI kq)).1 none none none u.1 ∧ gfr mT G u.1)) := by
  refine g_metl (cc := prog_11_method_50_code) (nL := 15) (L := [(0, .ref hm), (1, .long (lI wh)), (3, .int (iI kq))]) (by decide +kernel) rfl (Nat.le_of_ble_eq_true rfl) rfl ?_
  intro p e R s m args below meth c Q hF hRc hRs hRf hRl hret
  obtain ⟨hx, hb, hr, hml, hts0, hown, hlocks, hin, hK, hlo, hZ⟩ := hF
  have hts : ∀ w ∈ tbg, w.before args s = true := fun w h => hts0 w (List.mem_cons_of_mem _ h)
  have hn := hW.n
  have hrn := hW.rn
  have hwn := hW.wn
  refine gs (pc' := 1) (fun _ _ _ _ _ hl => lv_aload_n hx hb d_Mo_share_0 rfl (lv_at hl 0 rfl)) ?_
  refine gs (pc' := 2) (fun _ _ _ _ _ hl => lv_iload_n hx hb d_Mo_share_1 rfl (lv_at hl 2 rfl)) ?_
  refine gsb (pc1 := 13) (pc2 := 5) (fun _ _ _ _ _ => lv_if_lt (tgt := 13) hx hb d_Mo_share_2 (by decide)) (fun c_1 => ?_) (fun c_1 => ?_)
  · skip
    have nc_1 : kq < 0 := (ii_lt (a := kq) (b := 0) (by omega) (by omega) (by omega) (by omega)).1 (by first | exact c_1 | (have z9 := c_1; simp only [nI_iI] at z9; exact z9))
    have hb_k : ¬ (0 ≤ kq ∧ kq < S.wn) := by omega
    refine gs (pc' := 14) (fun _ _ _ _ _ hl => lv_iconst (v := nI 1) hx hb d_Mo_share_13 (by decide)) ?_
    refine gs (pc' := 36) (fun _ _ _ _ _ hl => lv_goto (tgt := 36) hx hb d_Mo_share_14 (by decide)) ?_
    obtain ⟨sg_2, sh_3, kt_4, kb_5, ks_6, Rr_7, kf_8, v_9, v_10, v_11, v_12, v_13, v_14, v_15⟩ := id hV
    have f_16 : G hm = some (70, .inr (9, [.int (nI th), .int (nI S.n), .ref (A 2), .ref (A 3), .ref (A 4), .ref (A 5), .int sg_2, .int sh_3, .ref (A 8), .ref (A 9), .int (nI S.rn), .ref (A 11), .ref (A 12), .ref (A 13), .int (nI S.wn), .ref (A 15), .ref (A 16), .ref (A 17), .ref (A 18), .int kt_4, .int kb_5, .int ks_6])) := v_9
    refine g_put (ty := .int) hx hb hts hin_Mo ty_Mo ty_Mo_ok nm_Mo hown hK f_16 rfl 0 (by decide) (hts _ wm754) (fun _ h9 => h9) rfl (by decide +kernel) rfl rfl (Nat.le_of_ble_eq_true rfl) d_Mo_share_36 (fun G_17 f_18 o_19 => ?_)
    have f_20 : G_17 hm = some (70, .inr (9, [.int (nI 1), .int (nI S.n), .ref (A 2), .ref (A 3), .ref (A 4), .ref (A 5), .int sg_2, .int sh_3, .ref (A 8), .ref (A 9), .int (nI S.rn), .ref (A 11), .ref (A 12), .ref (A 13), .int (nI S.wn), .ref (A 15), .ref (A 16), .ref (A 17), .ref (A 18), .int kt_4, .int kb_5, .int ks_6])) := f_18
    have f_21 : G_17 (A 18) = some (83, .inl (cA 0, 8600, .inl kf_8)) := (o_19 _ (gne v_11 f_16 (fun e => by cases e))).trans v_11
    have gf_22 : gfr mT G G_17 := gfr_put gfr_rf f_16 (show mT 70 by decide) o_19
    have gf_23 : gfr (fun x => x = 70) _ G_17 := gfr_put gfr_rf f_16 rfl o_19
    have mr_24 : MR cA A Rr_7 G_17 := MR_fr v_10 gf_23 (show ¬ (75 : Nat) = 70 by decide) (show ¬ (76 : Nat) = 70 by decide)
    have mb_25 : MB cA A S G_17 := MB_fr v_15 gf_23 (fun x h9 => by omega)
    refine gs (pc' := 40) (fun _ _ _ _ _ hl => lv_aload_n hx hb d_Mo_share_39 rfl (lv_at hl 0 rfl)) ?_
    refine g_get hx hb hts hin_Mo hown hK f_20 rfl 0 (by decide) (hts _ wm754) (fun _ h9 => h9) rfl d_Mo_share_40 ?_
    refine gsb (pc1 := 48) (pc2 := 46) (fun _ _ _ _ _ => lv_if_le (tgt := 48) hx hb d_Mo_share_43 (by decide)) (fun c_26 => ?_) (fun c_26 => ?_)
    · skip
      have nc_26 : 1 ≤ 0 := (n0_le (a := 1) (by omega)).1 c_26
      exact absurd nc_26 (by decide)
    · skip
      have nc_26 : 1 > 0 := (n0_le (a := 1) (by omega)).2 c_26
      refine gs (pc' := 47) (fun _ _ _ _ _ hl => lv_lconst (v := lN 0) hx hb d_Mo_share_46 (by decide)) ?_
      have hV_27 : MW cA hm A S 1 none none none G_17 := ⟨sg_2, sh_3, kt_4, kb_5, ks_6, Rr_7, _, f_20, mr_24, f_21, sn_, sn_, sn_, mb_25⟩
      rw [st_share hkq1 hkq2, if_pos hb_k] at hret
      exact hret 47 _ _ _ _ d_Mo_share_47 hB1 hB2 ⟨rfl, fun h9 => absurd (show (1 : Nat) = 0 from h9) (by decide), hV_27, gf_22⟩
  · skip
    have nc_1 : kq ≥ 0 := (ii_lt (a := kq) (b := 0) (by omega) (by omega) (by omega) (by omega)).2 (by first | exact c_1 | (have z9 := c_1; simp only [nI_iI] at z9; exact z9))
    refine gs (pc' := 6) (fun _ _ _ _ _ hl => lv_iload_n hx hb d_Mo_share_5 rfl (lv_at hl 2 rfl)) ?_
    refine gs (pc' := 7) (fun _ _ _ _ _ hl => lv_aload_n hx hb d_Mo_share_6 rfl (lv_at hl 0 rfl)) ?_
    obtain ⟨sg_28, sh_29, kt_30, kb_31, ks_32, Rr_33, kf_34, v_35, v_36, v_37, v_38, v_39, v_40, v_41⟩ := id hV
    have f_42 : G hm = some (70, .inr (9, [.int (nI th), .int (nI S.n), .ref (A 2), .ref (A 3), .ref (A 4), .ref (A 5), .int sg_28, .int sh_29, .ref (A 8), .ref (A 9), .int (nI S.rn), .ref (A 11), .ref (A 12), .ref (A 13), .int (nI S.wn), .ref (A 15), .ref (A 16), .ref (A 17), .ref (A 18), .int kt_30, .int kb_31, .int ks_32])) := v_35
    refine g_get hx hb hts hin_Mo hown hK f_42 rfl 14 (by decide) (hts _ wm768) (fun _ h9 => h9) rfl d_Mo_share_7 ?_
    refine gsb (pc1 := 17) (pc2 := 13) (fun _ _ _ _ _ => lv_icmp_lt (tgt := 17) hx hb d_Mo_share_10 (by decide)) (fun c_43 => ?_) (fun c_43 => ?_)
    · skip
      have nc_43 : kq < ((S.wn : Nat) : Int) := (ii_lt (a := kq) (b := ((S.wn : Nat) : Int)) (by omega) (by omega) (by omega) (by omega)).1 (by first | exact c_43 | (have z9 := c_43; simp only [nI_iI] at z9; exact z9))
      have hg_k : 0 ≤ kq ∧ kq < S.wn := by omega
      obtain ⟨kn, hxe_k⟩ : ∃ kn : Nat, kq = (kn : Int) := ⟨kq.toNat, by omega⟩
      subst hxe_k
      rw [← nI_iI kn]
      have hkn : kn < S.wn := by omega
      refine gs (pc' := 18) (fun _ _ _ _ _ hl => lv_lload_n hx hb d_Mo_share_17 rfl (lv_at hl 1 rfl)) ?_
      refine gs (pc' := 19) (fun _ _ _ _ _ hl => lv_lconst (v := lN 0) hx hb d_Mo_share_18 (by decide)) ?_
      refine gs (pc' := 20) (fun _ _ _ _ _ hl => W.lcmp hx hb d_Mo_share_19) ?_
      refine gsb (pc1 := 31) (pc2 := 23) (fun _ _ _ _ _ => lv_if_lt (tgt := 31) hx hb d_Mo_share_20 (by decide)) (fun c_44 => ?_) (fun c_44 => ?_)
      · skip
        have nc_44 : wh < ((0 : Nat) : Int) := (lcI_lt (a := wh) (b := ((0 : Nat) : Int)) (by omega) (by omega) (by omega) (by omega)).1 (by rw [cmp_IN] at c_44; exact c_44)
        have hb_w : ¬ (0 ≤ wh ∧ wh ≤ 1000000000000) := by omega
        refine gs (pc' := 32) (fun _ _ _ _ _ hl => lv_iconst (v := nI 2) hx hb d_Mo_share_31 (by decide)) ?_
        refine gs (pc' := 36) (fun _ _ _ _ _ hl => lv_goto (tgt := 36) hx hb d_Mo_share_32 (by decide)) ?_
        refine g_put (ty := .int) hx hb hts hin_Mo ty_Mo ty_Mo_ok nm_Mo hown hK f_42 rfl 0 (by decide) (hts _ wm754) (fun _ h9 => h9) rfl (by decide +kernel) rfl rfl (Nat.le_of_ble_eq_true rfl) d_Mo_share_36 (fun G_45 f_46 o_47 => ?_)
        have f_48 : G_45 hm = some (70, .inr (9, [.int (nI 2), .int (nI S.n), .ref (A 2), .ref (A 3), .ref (A 4), .ref (A 5), .int sg_28, .int sh_29, .ref (A 8), .ref (A 9), .int (nI S.rn), .ref (A 11), .ref (A 12), .ref (A 13), .int (nI S.wn), .ref (A 15), .ref (A 16), .ref (A 17), .ref (A 18), .int kt_30, .int kb_31, .int ks_32])) := f_46
        have f_49 : G_45 (A 18) = some (83, .inl (cA 0, 8600, .inl kf_34)) := (o_47 _ (gne v_37 f_42 (fun e => by cases e))).trans v_37
        have gf_50 : gfr mT G G_45 := gfr_put gfr_rf f_42 (show mT 70 by decide) o_47
        have gf_51 : gfr (fun x => x = 70) _ G_45 := gfr_put gfr_rf f_42 rfl o_47
        have mr_52 : MR cA A Rr_33 G_45 := MR_fr v_36 gf_51 (show ¬ (75 : Nat) = 70 by decide) (show ¬ (76 : Nat) = 70 by decide)
        have mb_53 : MB cA A S G_45 := MB_fr v_41 gf_51 (fun x h9 => by omega)
        refine gs (pc' := 40) (fun _ _ _ _ _ hl => lv_aload_n hx hb d_Mo_share_39 rfl (lv_at hl 0 rfl)) ?_
        refine g_get hx hb hts hin_Mo hown hK f_48 rfl 0 (by decide) (hts _ wm754) (fun _ h9 => h9) rfl d_Mo_share_40 ?_
        refine gsb (pc1 := 48) (pc2 := 46) (fun _ _ _ _ _ => lv_if_le (tgt := 48) hx hb d_Mo_share_43 (by decide)) (fun c_54 => ?_) (fun c_54 => ?_)
        · skip
          have nc_54 : 2 ≤ 0 := (n0_le (a := 2) (by omega)).1 c_54
          exact absurd nc_54 (by decide)
        · skip
          have nc_54 : 2 > 0 := (n0_le (a := 2) (by omega)).2 c_54
          refine gs (pc' := 47) (fun _ _ _ _ _ hl => lv_lconst (v := lN 0) hx hb d_Mo_share_46 (by decide)) ?_
          have hV_55 : MW cA hm A S 2 none none none G_45 := ⟨sg_28, sh_29, kt_30, kb_31, ks_32, Rr_33, _, f_48, mr_52, f_49, sn_, sn_, sn_, mb_53⟩
          rw [st_share hkq1 hkq2, if_neg (Decidable.not_not.mpr hg_k), if_pos hb_w] at hret
          exact hret 47 _ _ _ _ d_Mo_share_47 hB1 hB2 ⟨rfl, fun h9 => absurd (show (2 : Nat) = 0 from h9) (by decide), hV_55, gf_50⟩
      · skip
        have nc_44 : wh ≥ ((0 : Nat) : Int) := (lcI_lt (a := wh) (b := ((0 : Nat) : Int)) (by omega) (by omega) (by omega) (by omega)).2 (by rw [cmp_IN] at c_44; exact c_44)
        refine gs (pc' := 24) (fun _ _ _ _ _ hl => lv_lload_n hx hb d_Mo_share_23 rfl (lv_at hl 1 rfl)) ?_
        refine gs (pc' := 27) (fun _ _ _ _ _ hl => lv_ldc2 (v := 1000000000000) hx hb hown (hts _ wm1024) d_Mo_share_24) ?_
        refine g_eql (show 1000000000000 = lN 1000000000000 from rfl) ?_
        refine gs (pc' := 28) (fun _ _ _ _ _ hl => W.lcmp hx hb d_Mo_share_27) ?_
        refine gsb (pc1 := 35) (pc2 := 31) (fun _ _ _ _ _ => lv_if_le (tgt := 35) hx hb d_Mo_share_28 (by decide)) (fun c_56 => ?_) (fun c_56 => ?_)
        · skip
          have nc_56 : wh ≤ ((1000000000000 : Nat) : Int) := (lcI_le (a := wh) (b := ((1000000000000 : Nat) : Int)) (by omega) (by omega) (by omega) (by omega)).1 (by rw [cmp_IN] at c_56; exact c_56)
          have hg_w : 0 ≤ wh ∧ wh ≤ 1000000000000 := by omega
          obtain ⟨Wn, hxe_w⟩ : ∃ Wn : Nat, wh = (Wn : Int) := ⟨wh.toNat, by omega⟩
          subst hxe_w
          rw [← lN_lI Wn]
          have hWb : Wn ≤ 1000000000000 := by omega
          refine gs (pc' := 36) (fun _ _ _ _ _ hl => lv_iconst (v := nI 0) hx hb d_Mo_share_35 (by decide)) ?_
          refine g_put (ty := .int) hx hb hts hin_Mo ty_Mo ty_Mo_ok nm_Mo hown hK f_42 rfl 0 (by decide) (hts _ wm754) (fun _ h9 => h9) rfl (by decide +kernel) rfl rfl (Nat.le_of_ble_eq_true rfl) d_Mo_share_36 (fun G_57 f_58 o_59 => ?_)
          have f_60 : G_57 hm = some (70, .inr (9, [.int (nI 0), .int (nI S.n), .ref (A 2), .ref (A 3), .ref (A 4), .ref (A 5), .int sg_28, .int sh_29, .ref (A 8), .ref (A 9), .int (nI S.rn), .ref (A 11), .ref (A 12), .ref (A 13), .int (nI S.wn), .ref (A 15), .ref (A 16), .ref (A 17), .ref (A 18), .int kt_30, .int kb_31, .int ks_32])) := f_58
          have f_61 : G_57 (A 18) = some (83, .inl (cA 0, 8600, .inl kf_34)) := (o_59 _ (gne v_37 f_42 (fun e => by cases e))).trans v_37
          have gf_62 : gfr mT G G_57 := gfr_put gfr_rf f_42 (show mT 70 by decide) o_59
          have gf_63 : gfr (fun x => x = 70) _ G_57 := gfr_put gfr_rf f_42 rfl o_59
          have mr_64 : MR cA A Rr_33 G_57 := MR_fr v_36 gf_63 (show ¬ (75 : Nat) = 70 by decide) (show ¬ (76 : Nat) = 70 by decide)
          have mb_65 : MB cA A S G_57 := MB_fr v_41 gf_63 (fun x h9 => by omega)
          refine gs (pc' := 40) (fun _ _ _ _ _ hl => lv_aload_n hx hb d_Mo_share_39 rfl (lv_at hl 0 rfl)) ?_
          refine g_get hx hb hts hin_Mo hown hK f_60 rfl 0 (by decide) (hts _ wm754) (fun _ h9 => h9) rfl d_Mo_share_40 ?_
          refine gsb (pc1 := 48) (pc2 := 46) (fun _ _ _ _ _ => lv_if_le (tgt := 48) hx hb d_Mo_share_43 (by decide)) (fun c_66 => ?_) (fun c_66 => ?_)
          · skip
            have nc_66 : 0 ≤ 0 := (n0_le (a := 0) (by omega)).1 c_66
            refine gs (pc' := 49) (fun _ _ _ _ _ hl => lv_lconst (v := lN 0) hx hb d_Mo_share_48 (by decide)) ?_
            refine gst (pc' := 51) (L' := [(4, .long (lN 0)), (0, .ref hm), (1, .long (lN Wn)), (3, .int (nI kn))]) (fun _ _ _ _ _ hl => lv_lstore hx hb d_Mo_share_49 hl (by decide) rfl) ?_
            refine gs (pc' := 52) (fun _ _ _ _ _ hl => lv_iconst (v := nI 0) hx hb d_Mo_share_51 (by decide)) ?_
            refine gst (pc' := 54) (L' := [(6, .int (nI 0)), (4, .long (lN 0)), (0, .ref hm), (1, .long (lN Wn)), (3, .int (nI kn))]) (fun _ _ _ _ _ hl => lv_istore hx hb d_Mo_share_52 hl (by decide) rfl) ?_
            obtain ⟨wei_67, sha_68, res_69, f_70, f_71, f_72, he_73⟩ := id mb_65.2.2
            have htb : tot S.w S.wn ≤ 12 * 1000000000 := Nat.le_trans (tot_bd (fun i9 h9 => (hW.w i9 h9).2)) (Nat.mul_le_mul_right _ hwn)
            have ht0 : 0 < tot S.w S.wn := Nat.lt_of_lt_of_le (show 0 < S.w kn by have := hW.w kn hkn; omega) (tot_le hkn)
            have hsl := (sh_left (w := S.w) (n := S.wn) (W := Wn) ht0).1
            have hsl2 := (sh_left (w := S.w) (n := S.wn) (W := Wn) ht0).2
            obtain ⟨L0, hL0⟩ : ∃ y9, y9 = Wn - tot (shp S.w S.wn Wn) S.wn := ⟨_, rfl⟩
            rw [← hL0] at hsl2
            refine gsub [0, 1, 3, 4, 2] rfl ?_
            have loop1 : ∀ (q j : Nat), j + q = S.wn → gV p l e R s m args below meth c D clS lo 15 Q 54 [(6, .int (nI j)), (4, .long (lN (tot S.w j))), (1, .long (lN Wn)), (3, .int (nI kn)), (0, .ref hm)] [] G_57 B := by
              intro q
              induction q with
              | zero =>
                intro j hj
                have hjn : j = S.wn := by omega
                rw [hjn]
                refine gs (pc' := 56) (fun _ _ _ _ _ hl => lv_iload hx hb d_Mo_share_54 (lv_at hl 0 rfl)) ?_
                refine gs (pc' := 57) (fun _ _ _ _ _ hl => lv_aload_n hx hb d_Mo_share_56 rfl (lv_at hl 4 rfl)) ?_
                refine g_get hx hb hts hin_Mo hown hK f_60 rfl 14 (by decide) (hts _ wm768) (fun _ h9 => h9) rfl d_Mo_share_57 ?_
                refine gsb (pc1 := 81) (pc2 := 63) (fun _ _ _ _ _ => lv_icmp_ge (tgt := 81) hx hb d_Mo_share_60 (by decide)) (fun c_74 => ?_) (fun c_74 => ?_)
                · skip
                  have nc_74 : S.wn ≥ S.wn := (nn_ge (a := S.wn) (b := S.wn) (by omega) (by omega)).1 c_74
                  refine gs (pc' := 82) (fun _ _ _ _ _ hl => lv_lload_n hx hb d_Mo_share_81 rfl (lv_at hl 2 rfl)) ?_
                  refine gst (pc' := 84) (L' := [(6, .long (lN Wn)), (4, .long (lN (tot S.w S.wn))), (1, .long (lN Wn)), (3, .int (nI kn)), (0, .ref hm)]) (fun _ _ _ _ _ hl => lv_lstore hx hb d_Mo_share_82 hl (by decide) rfl) ?_
                  refine gs (pc' := 85) (fun _ _ _ _ _ hl => lv_iconst (v := nI 0) hx hb d_Mo_share_84 (by decide)) ?_
                  refine gst (pc' := 87) (L' := [(8, .int (nI 0)), (6, .long (lN Wn)), (4, .long (lN (tot S.w S.wn))), (1, .long (lN Wn)), (3, .int (nI kn)), (0, .ref hm)]) (fun _ _ _ _ _ hl => lv_istore hx hb d_Mo_share_85 hl (by decide) rfl) ?_
                  refine gsub [0, 1, 2, 3, 4, 5] rfl ?_
                  have loop2 : ∀ (q2 j2 lf : Nat) (sa2 re2 : Nat → Int64) (Gk : gT), (j2 + q2 = S.wn) → (lf + tot (shp S.w S.wn Wn) j2 = Wn) → (∀ i, i < j2 → sa2 i = lN (shp S.w S.wn Wn i)) → (∀ i, i < j2 → re2 i = lN (shr S.w S.wn Wn i)) → (gfr (fun x => x = 81 ∨ x = 82) G_57 Gk) → Gk hm = some (70, .inr (9, [.int (nI 0), .int (nI S.n), .ref (A 2), .ref (A 3), .ref (A 4), .ref (A 5), .int sg_28, .int sh_29, .ref (A 8), .ref (A 9), .int (nI S.rn), .ref (A 11), .ref (A 12), .ref (A 13), .int (nI S.wn), .ref (A 15), .ref (A 16), .ref (A 17), .ref (A 18), .int kt_30, .int kb_31, .int ks_32])) → Gk (A 15) = some (80, .inl (cA 1, 12, .inr (.inl wei_67))) → Gk (A 16) = some (81, .inl (cA 1, 12, .inr (.inl sa2))) → Gk (A 17) = some (82, .inl (cA 1, 12, .inr (.inl re2))) → gV p l e R s m args below meth c D clS lo 15 Q 87 [(8, .int (nI j2)), (6, .long (lN lf)), (4, .long (lN (tot S.w S.wn))), (1, .long (lN Wn)), (3, .int (nI kn)), (0, .ref hm)] [] Gk B := by
                    intro q2
                    induction q2 with
                    | zero =>
                      intro j2 lf sa2 re2 Gk hj2 hlf hsa hre hfr k1 k2 k3 k4
                      have hjn2 : j2 = S.wn := by omega
                      rw [hjn2] at hlf hsa hre ⊢
                      have hlL : lf = L0 := by omega
                      rw [hlL]
                      refine gs (pc' := 89) (fun _ _ _ _ _ hl => lv_iload hx hb d_Mo_share_87 (lv_at hl 0 rfl)) ?_
                      refine gs (pc' := 90) (fun _ _ _ _ _ hl => lv_aload_n hx hb d_Mo_share_89 rfl (lv_at hl 5 rfl)) ?_
                      refine g_get hx hb hts hin_Mo hown hK k1 rfl 14 (by decide) (hts _ wm768) (fun _ h9 => h9) rfl d_Mo_share_90 ?_
                      refine gsb (pc1 := 209) (pc2 := 96) (fun _ _ _ _ _ => lv_icmp_ge (tgt := 209) hx hb d_Mo_share_93 (by decide)) (fun c_75 => ?_) (fun c_75 => ?_)
                      · skip
                        have nc_75 : S.wn ≥ S.wn := (nn_ge (a := S.wn) (b := S.wn) (by omega) (by omega)).1 c_75
                        refine gsub [1, 4, 5] rfl ?_
                        have loop3 : ∀ (q3 : Nat) (ch : Nat → Bool) (d : Nat) (sa3 re3 : Nat → Int64) (Gl : gT), (d + q3 = L0) → (chs (shr S.w S.wn Wn) S.wn d ch) → (∀ i, i < S.wn → sa3 i = lN (shp S.w S.wn Wn i + if ch i then 1 else 0)) → (∀ i, i < S.wn → re3 i = lI (rst (shr S.w S.wn Wn) ch i)) → (gfr (fun x => x = 81 ∨ x = 82) G_57 Gl) → Gl hm = some (70, .inr (9, [.int (nI 0), .int (nI S.n), .ref (A 2), .ref (A 3), .ref (A 4), .ref (A 5), .int sg_28, .int sh_29, .ref (A 8), .ref (A 9), .int (nI S.rn), .ref (A 11), .ref (A 12), .ref (A 13), .int (nI S.wn), .ref (A 15), .ref (A 16), .ref (A 17), .ref (A 18), .int kt_30, .int kb_31, .int ks_32])) → Gl (A 15) = some (80, .inl (cA 1, 12, .inr (.inl wei_67))) → Gl (A 16) = some (81, .inl (cA 1, 12, .inr (.inl sa3))) → Gl (A 17) = some (82, .inl (cA 1, 12, .inr (.inl re3))) → gV p l e R s m args below meth c D clS lo 15 Q 209 [(6, .long (lN q3)), (3, .int (nI kn)), (0, .ref hm)] [] Gl B := by
                          intro q3
                          induction q3 with
                          | zero =>
                            intro ch d sa3 re3 Gl hd hchs hsa3 hre3 hfr3 l1 l2 l3 l4
                            have hres : shareOf S.w S.wn Wn kn = shp S.w S.wn Wn kn + if ch kn then 1 else 0 := by
                              unfold shareOf
                              rw [← hL0]
                              have hce := chs_end hchs hkn
                              rw [show d = L0 by omega] at hce
                              by_cases z9 : ch kn = true
                              · rw [if_pos z9, if_pos (hce.mp z9)]
                              · rw [if_neg z9, if_neg (fun q9 => z9 (hce.mpr q9))]
                            refine gs (pc' := 211) (fun _ _ _ _ _ hl => lv_lload hx hb d_Mo_share_209 (lv_at hl 0 rfl)) ?_
                            refine gs (pc' := 212) (fun _ _ _ _ _ hl => lv_lconst (v := lN 0) hx hb d_Mo_share_211 (by decide)) ?_
                            refine gs (pc' := 213) (fun _ _ _ _ _ hl => W.lcmp hx hb d_Mo_share_212) ?_
                            refine gsb (pc1 := 294) (pc2 := 216) (fun _ _ _ _ _ => lv_if_le (tgt := 294) hx hb d_Mo_share_213 (by decide)) (fun c_76 => ?_) (fun c_76 => ?_)
                            · skip
                              have nc_76 : 0 ≤ 0 := (lcN_le (a := 0) (b := 0) (by omega) (by omega)).1 c_76
                              refine gs (pc' := 295) (fun _ _ _ _ _ hl => lv_aload_n hx hb d_Mo_share_294 rfl (lv_at hl 2 rfl)) ?_
                              refine g_get hx hb hts hin_Mo hown hK l1 rfl 16 (by decide) (hts _ wm770) (fun _ h9 => h9) rfl d_Mo_share_295 ?_
                              refine gs (pc' := 299) (fun _ _ _ _ _ hl => lv_iload_n hx hb d_Mo_share_298 rfl (lv_at hl 1 rfl)) ?_
                              refine g_lald hx hb hK 1 l3 rfl (show vp_in (nI kn) 12 from vp_in_nI (by omega) (by omega)) d_Mo_share_299 ?_
                              refine g_eql (show sa3 (nI kn).toNatClampNeg = sa3 kn from by rw [nI_clamp (by omega)]) ?_
                              refine g_eql (show sa3 kn = lN (shareOf S.w S.wn Wn kn) from (hsa3 kn hkn).trans (congrArg lN hres.symm)) ?_
                              have hmr9 := MR_fr mr_64 hfr3 (show ¬ ((75 : Nat) = 81 ∨ (75 : Nat) = 82) by decide) (show ¬ ((76 : Nat) = 81 ∨ (76 : Nat) = 82) by decide)
                              have hmv9 : MV cA A S Gl := MV_fr mb_65.1 hfr3 (show ¬ ((71 : Nat) = 81 ∨ (71 : Nat) = 82) by decide) (show ¬ ((72 : Nat) = 81 ∨ (72 : Nat) = 82) by decide) (show ¬ ((73 : Nat) = 81 ∨ (73 : Nat) = 82) by decide) (show ¬ ((74 : Nat) = 81 ∨ (74 : Nat) = 82) by decide)
                              have hmo9 : MO cA A S Gl := MO_fr mb_65.2.1 hfr3 (show ¬ ((77 : Nat) = 81 ∨ (77 : Nat) = 82) by decide) (show ¬ ((78 : Nat) = 81 ∨ (78 : Nat) = 82) by decide) (show ¬ ((79 : Nat) = 81 ∨ (79 : Nat) = 82) by decide)
                              have hme9 : ME cA A S Gl := ⟨_, _, _, l2, l3, l4, he_73⟩
                              have hk9 : Gl (A 18) = some (83, .inl (cA 0, 8600, .inl kf_34)) := hfr3 _ _ f_61 (show ¬ ((83 : Nat) = 81 ∨ (83 : Nat) = 82) by decide)
                              have hgf9 : gfr mT G Gl := mT_mT gf_62 (gfr_mono hfr3 (fun x h9 => ⟨by omega, by omega⟩))
                              have hV_77 : MW cA hm A S 0 none none none Gl := ⟨sg_28, sh_29, kt_30, kb_31, ks_32, Rr_33, _, l1, hmr9, hk9, sn_, sn_, sn_, ⟨hmv9, hmo9, hme9⟩⟩
                              rw [st_share hkq1 hkq2, if_neg (Decidable.not_not.mpr hg_k), if_neg (Decidable.not_not.mpr hg_w)] at hret
                              exact hret 300 _ _ _ _ d_Mo_share_300 hB1 hB2 ⟨rfl, fun _ => lN_lI _, hV_77, hgf9⟩
                            · skip
                              have nc_76 : 0 > 0 := (lcN_le (a := 0) (b := 0) (by omega) (by omega)).2 c_76
                              exact absurd nc_76 (by decide)
                          | succ q3 ih3 =>
                            intro ch d sa3 re3 Gl hd hchs hsa3 hre3 hfr3 l1 l2 l3 l4
                            refine gs (pc' := 211) (fun _ _ _ _ _ hl => lv_lload hx hb d_Mo_share_209 (lv_at hl 0 rfl)) ?_
                            refine gs (pc' := 212) (fun _ _ _ _ _ hl => lv_lconst (v := lN 0) hx hb d_Mo_share_211 (by decide)) ?_
                            refine gs (pc' := 213) (fun _ _ _ _ _ hl => W.lcmp hx hb d_Mo_share_212) ?_
                            refine gsb (pc1 := 294) (pc2 := 216) (fun _ _ _ _ _ => lv_if_le (tgt := 294) hx hb d_Mo_share_213 (by decide)) (fun c_78 => ?_) (fun c_78 => ?_)
                            · skip
                              have nc_78 : (q3 + 1) ≤ 0 := (lcN_le (a := (q3 + 1)) (b := 0) (by omega) (by omega)).1 c_78
                              exact absurd nc_78 (by omega)
                            · skip
                              have nc_78 : (q3 + 1) > 0 := (lcN_le (a := (q3 + 1)) (b := 0) (by omega) (by omega)).2 c_78
                              refine gs (pc' := 217) (fun _ _ _ _ _ hl => lv_iconst (v := nI 0) hx hb d_Mo_share_216 (by decide)) ?_
                              refine gst (pc' := 219) (L' := [(8, .int (nI 0)), (6, .long (lN (q3 + 1))), (3, .int (nI kn)), (0, .ref hm)]) (fun _ _ _ _ _ hl => lv_istore hx hb d_Mo_share_217 hl (by decide) rfl) ?_
                              refine gs (pc' := 220) (fun _ _ _ _ _ hl => lv_iconst (v := nI 1) hx hb d_Mo_share_219 (by decide)) ?_
                              refine gst (pc' := 222) (L' := [(9, .int (nI 1)), (8, .int (nI 0)), (6, .long (lN (q3 + 1))), (3, .int (nI kn)), (0, .ref hm)]) (fun _ _ _ _ _ hl => lv_istore hx hb d_Mo_share_220 hl (by decide) rfl) ?_
                              refine gsub [0, 1, 2, 3, 4] rfl ?_
                              have loop4 : ∀ (q4 j4 b4 : Nat), j4 + q4 = S.wn → b4 < j4 → (∀ i, i < j4 → rst (shr S.w S.wn Wn) ch i ≤ rst (shr S.w S.wn Wn) ch b4 ∧ (rst (shr S.w S.wn Wn) ch i = rst (shr S.w S.wn Wn) ch b4 → b4 ≤ i)) → gV p l e R s m args below meth c D clS lo 15 Q 222 [(9, .int (nI j4)), (8, .int (nI b4)), (6, .long (lN (q3 + 1))), (3, .int (nI kn)), (0, .ref hm)] [] Gl B := by
                                intro q4
                                induction q4 with
                                | zero =>
                                  intro j4 b4 hj4 hb4 hmx
                                  obtain ⟨hch2, hchb⟩ := rst_best hchs (show d < S.wn by omega) (show b4 < S.wn by omega) (fun i9 h9 => hmx i9 (by omega))
                                  refine gs (pc' := 224) (fun _ _ _ _ _ hl => lv_iload hx hb d_Mo_share_222 (lv_at hl 0 rfl)) ?_
                                  refine gs (pc' := 225) (fun _ _ _ _ _ hl => lv_aload_n hx hb d_Mo_share_224 rfl (lv_at hl 4 rfl)) ?_
                                  refine g_get hx hb hts hin_Mo hown hK l1 rfl 14 (by decide) (hts _ wm768) (fun _ h9 => h9) rfl d_Mo_share_225 ?_
                                  refine gsb (pc1 := 264) (pc2 := 231) (fun _ _ _ _ _ => lv_icmp_ge (tgt := 264) hx hb d_Mo_share_228 (by decide)) (fun c_79 => ?_) (fun c_79 => ?_)
                                  · skip
                                    have nc_79 : j4 ≥ S.wn := (nn_ge (a := j4) (b := S.wn) (by omega) (by omega)).1 c_79
                                    refine gs (pc' := 265) (fun _ _ _ _ _ hl => lv_aload_n hx hb d_Mo_share_264 rfl (lv_at hl 4 rfl)) ?_
                                    refine g_get hx hb hts hin_Mo hown hK l1 rfl 16 (by decide) (hts _ wm770) (fun _ h9 => h9) rfl d_Mo_share_265 ?_
                                    refine gs (pc' := 270) (fun _ _ _ _ _ hl => lv_iload hx hb d_Mo_share_268 (lv_at hl 1 rfl)) ?_
                                    refine gs (pc' := 271) (fun _ _ _ _ _ hl => lv_dup2_11 hx hb d_Mo_share_270 rfl rfl) ?_
                                    refine g_lald hx hb hK 1 l3 rfl (show vp_in (nI b4) 12 from vp_in_nI (by omega) (by omega)) d_Mo_share_271 ?_
                                    refine g_eql (show sa3 (nI b4).toNatClampNeg = sa3 b4 from by rw [nI_clamp (by omega)]) ?_
                                    refine g_eql (show sa3 b4 = lN (shp S.w S.wn Wn b4) from (hsa3 b4 (by omega)).trans (by rw [hchb]; rfl)) ?_
                                    refine gs (pc' := 273) (fun _ _ _ _ _ hl => lv_lconst (v := lN 1) hx hb d_Mo_share_272 (by decide)) ?_
                                    refine gs (pc' := 274) (fun _ _ _ _ _ hl => lv_ladd hx hb d_Mo_share_273) ?_
                                    refine g_eql (show (lN (shp S.w S.wn Wn b4)) + (lN 1) = lN ((shp S.w S.wn Wn b4) + 1) from lN_add _ _) ?_
                                    refine g_last hx hb hK 1 l3 rfl (show vp_in (nI b4) 12 from vp_in_nI (by omega) (by omega)) d_Mo_share_274 (fun G_80 f_81 o_82 => ?_)
                                    rw [nI_clamp (by omega)] at f_81
                                    have f_83 : G_80 hm = some (70, .inr (9, [.int (nI 0), .int (nI S.n), .ref (A 2), .ref (A 3), .ref (A 4), .ref (A 5), .int sg_28, .int sh_29, .ref (A 8), .ref (A 9), .int (nI S.rn), .ref (A 11), .ref (A 12), .ref (A 13), .int (nI S.wn), .ref (A 15), .ref (A 16), .ref (A 17), .ref (A 18), .int kt_30, .int kb_31, .int ks_32])) := (o_82 _ (gne l1 l3 (fun e => by cases e))).trans l1
                                    have f_84 : G_80 (A 15) = some (80, .inl (cA 1, 12, .inr (.inl wei_67))) := (o_82 _ (gne l2 l3 (by simp))).trans l2
                                    have f_85 : G_80 (A 17) = some (82, .inl (cA 1, 12, .inr (.inl re3))) := (o_82 _ (gne l4 l3 (by simp))).trans l4
                                    have gf_86 : gfr (fun x => x = 81 ∨ x = 82) G_57 G_80 := gfr_put hfr3 l3 (show (81 : Nat) = 81 ∨ (81 : Nat) = 82 by decide) o_82
                                    refine gs (pc' := 276) (fun _ _ _ _ _ hl => lv_aload_n hx hb d_Mo_share_275 rfl (lv_at hl 4 rfl)) ?_
                                    refine g_get hx hb hts hin_Mo hown hK f_83 rfl 17 (by decide) (hts _ wm771) (fun _ h9 => h9) rfl d_Mo_share_276 ?_
                                    refine gs (pc' := 281) (fun _ _ _ _ _ hl => lv_iload hx hb d_Mo_share_279 (lv_at hl 1 rfl)) ?_
                                    refine gs (pc' := 284) (fun _ _ _ _ _ hl => lv_ldc2 (v := (-1)) hx hb hown (hts _ wm1026) d_Mo_share_281) ?_
                                    refine g_last hx hb hK 1 f_85 rfl (show vp_in (nI b4) 12 from vp_in_nI (by omega) (by omega)) d_Mo_share_284 (fun G_87 f_88 o_89 => ?_)
                                    rw [nI_clamp (by omega)] at f_88
                                    have f_90 : G_87 hm = some (70, .inr (9, [.int (nI 0), .int (nI S.n), .ref (A 2), .ref (A 3), .ref (A 4), .ref (A 5), .int sg_28, .int sh_29, .ref (A 8), .ref (A 9), .int (nI S.rn), .ref (A 11), .ref (A 12), .ref (A 13), .int (nI S.wn), .ref (A 15), .ref (A 16), .ref (A 17), .ref (A 18), .int kt_30, .int kb_31, .int ks_32])) := (o_89 _ (gne f_83 f_85 (fun e => by cases e))).trans f_83
                                    have f_91 : G_87 (A 15) = some (80, .inl (cA 1, 12, .inr (.inl wei_67))) := (o_89 _ (gne f_84 f_85 (by simp))).trans f_84
                                    have f_92 : G_87 (A 16) = some (81, .inl (cA 1, 12, .inr (.inl (vp_updL sa3 b4 (lN ((shp S.w S.wn Wn b4) + 1)))))) := (o_89 _ (gne f_81 f_85 (by simp))).trans f_81
                                    have gf_93 : gfr (fun x => x = 81 ∨ x = 82) G_57 G_87 := gfr_put gf_86 f_85 (show (82 : Nat) = 81 ∨ (82 : Nat) = 82 by decide) o_89
                                    refine gs (pc' := 287) (fun _ _ _ _ _ hl => lv_lload hx hb d_Mo_share_285 (lv_at hl 2 rfl)) ?_
                                    refine gs (pc' := 288) (fun _ _ _ _ _ hl => lv_lconst (v := lN 1) hx hb d_Mo_share_287 (by decide)) ?_
                                    refine gs (pc' := 289) (fun _ _ _ _ _ hl => lv_lsub hx hb d_Mo_share_288) ?_
                                    refine g_eql (show (lN (q3 + 1)) - (lN 1) = lN q3 from (lN_sub (by omega)).trans (congrArg lN (show (q3 + 1) - 1 = q3 by omega))) ?_
                                    refine gst (pc' := 291) (L' := [(6, .long (lN q3)), (9, .int (nI j4)), (8, .int (nI b4)), (3, .int (nI kn)), (0, .ref hm)]) (fun _ _ _ _ _ hl => lv_lstore hx hb d_Mo_share_289 hl (by decide) rfl) ?_
                                    refine gs (pc' := 209) (fun _ _ _ _ _ hl => lv_goto (tgt := 209) hx hb d_Mo_share_291 (by decide)) ?_
                                    refine gsub [0, 3, 4] rfl ?_
                                    exact ih3 (fup ch b4 true) (d + 1) (vp_updL sa3 b4 (lN ((shp S.w S.wn Wn b4) + 1))) (vp_updL re3 b4 (-1)) G_87 (by omega) hch2 (fun i9 h9 => by
                                      by_cases e9 : i9 = b4
                                      · subst e9; rw [fup_s]; exact if_pos rfl
                                      · rw [fup_n e9]; exact (if_neg e9).trans (hsa3 i9 h9)) (fun i9 h9 => by
                                      rw [rst_up]
                                      by_cases e9 : i9 = b4
                                      · rw [if_pos e9]; subst e9; exact (if_pos rfl).trans (by decide)
                                      · rw [if_neg e9]; exact (if_neg e9).trans (hre3 i9 h9)) gf_93 f_90 f_91 f_92 f_88
                                  · skip
                                    have nc_79 : j4 < S.wn := (nn_ge (a := j4) (b := S.wn) (by omega) (by omega)).2 c_79
                                    exact absurd nc_79 (by omega)
                                | succ q4 ih4 =>
                                  intro j4 b4 hj4 hb4 hmx
                                  have hrb1 := rst_bd (f := shr S.w S.wn Wn) (ch := ch) (i := j4) (M := 12000000001) (Nat.lt_of_lt_of_le (Nat.mod_lt _ ht0) (by omega))
                                  have hrb2 := rst_bd (f := shr S.w S.wn Wn) (ch := ch) (i := b4) (M := 12000000001) (Nat.lt_of_lt_of_le (Nat.mod_lt _ ht0) (by omega))
                                  refine gs (pc' := 224) (fun _ _ _ _ _ hl => lv_iload hx hb d_Mo_share_222 (lv_at hl 0 rfl)) ?_
                                  refine gs (pc' := 225) (fun _ _ _ _ _ hl => lv_aload_n hx hb d_Mo_share_224 rfl (lv_at hl 4 rfl)) ?_
                                  refine g_get hx hb hts hin_Mo hown hK l1 rfl 14 (by decide) (hts _ wm768) (fun _ h9 => h9) rfl d_Mo_share_225 ?_
                                  refine gsb (pc1 := 264) (pc2 := 231) (fun _ _ _ _ _ => lv_icmp_ge (tgt := 264) hx hb d_Mo_share_228 (by decide)) (fun c_94 => ?_) (fun c_94 => ?_)
                                  · skip
                                    have nc_94 : j4 ≥ S.wn := (nn_ge (a := j4) (b := S.wn) (by omega) (by omega)).1 c_94
                                    exact absurd nc_94 (by omega)
                                  · skip
                                    have nc_94 : j4 < S.wn := (nn_ge (a := j4) (b := S.wn) (by omega) (by omega)).2 c_94
                                    refine gs (pc' := 232) (fun _ _ _ _ _ hl => lv_aload_n hx hb d_Mo_share_231 rfl (lv_at hl 4 rfl)) ?_
                                    refine g_get hx hb hts hin_Mo hown hK l1 rfl 17 (by decide) (hts _ wm771) (fun _ h9 => h9) rfl d_Mo_share_232 ?_
                                    refine gs (pc' := 237) (fun _ _ _ _ _ hl => lv_iload hx hb d_Mo_share_235 (lv_at hl 0 rfl)) ?_
                                    refine g_lald hx hb hK 1 l4 rfl (show vp_in (nI j4) 12 from vp_in_nI (by omega) (by omega)) d_Mo_share_237 ?_
                                    refine g_eql (show re3 (nI j4).toNatClampNeg = re3 j4 from by rw [nI_clamp (by omega)]) ?_
                                    refine g_eql (show re3 j4 = lI (rst (shr S.w S.wn Wn) ch j4) from hre3 j4 (by omega)) ?_
                                    refine gs (pc' := 239) (fun _ _ _ _ _ hl => lv_aload_n hx hb d_Mo_share_238 rfl (lv_at hl 4 rfl)) ?_
                                    refine g_get hx hb hts hin_Mo hown hK l1 rfl 17 (by decide) (hts _ wm771) (fun _ h9 => h9) rfl d_Mo_share_239 ?_
                                    refine gs (pc' := 244) (fun _ _ _ _ _ hl => lv_iload hx hb d_Mo_share_242 (lv_at hl 1 rfl)) ?_
                                    refine g_lald hx hb hK 1 l4 rfl (show vp_in (nI b4) 12 from vp_in_nI (by omega) (by omega)) d_Mo_share_244 ?_
                                    refine g_eql (show re3 (nI b4).toNatClampNeg = re3 b4 from by rw [nI_clamp (by omega)]) ?_
                                    refine g_eql (show re3 b4 = lI (rst (shr S.w S.wn Wn) ch b4) from hre3 b4 (by omega)) ?_
                                    refine gs (pc' := 246) (fun _ _ _ _ _ hl => W.lcmp hx hb d_Mo_share_245) ?_
                                    refine gsb (pc1 := 254) (pc2 := 249) (fun _ _ _ _ _ => lv_if_le (tgt := 254) hx hb d_Mo_share_246 (by decide)) (fun c_95 => ?_) (fun c_95 => ?_)
                                    · skip
                                      have nc_95 : (rst (shr S.w S.wn Wn) ch j4) ≤ (rst (shr S.w S.wn Wn) ch b4) := (lcI_le (a := (rst (shr S.w S.wn Wn) ch j4)) (b := (rst (shr S.w S.wn Wn) ch b4)) (by omega) (by omega) (by omega) (by omega)).1 c_95
                                      refine gs (pc' := 256) (fun _ _ _ _ _ hl => lv_iload hx hb d_Mo_share_254 (lv_at hl 1 rfl)) ?_
                                      refine gst (pc' := 258) (L' := [(8, .int (nI b4)), (9, .int (nI j4)), (6, .long (lN (q3 + 1))), (3, .int (nI kn)), (0, .ref hm)]) (fun _ _ _ _ _ hl => lv_istore hx hb d_Mo_share_256 hl (by decide) rfl) ?_
                                      refine gst (pc' := 261) (L' := [(9, .int (nI (j4 + 1))), (8, .int (nI b4)), (6, .long (lN (q3 + 1))), (3, .int (nI kn)), (0, .ref hm)]) (fun _ _ _ _ _ hl => lv_iinc (v := nI (j4 + 1)) hx hb d_Mo_share_258 hl (k := 1) rfl (nI_add _ 1) (by decide) rfl) ?_
                                      refine gs (pc' := 222) (fun _ _ _ _ _ hl => lv_goto (tgt := 222) hx hb d_Mo_share_261 (by decide)) ?_
                                      refine gsub [0, 1, 2, 3, 4] rfl ?_
                                      exact ih4 (j4 + 1) b4 (by omega) (by omega) (fun i9 h9 => by
                                        by_cases e9 : i9 = j4
                                        · subst e9; constructor <;> omega
                                        · have hq9 := hmx i9 (by omega)
                                          constructor <;> omega)
                                    · skip
                                      have nc_95 : (rst (shr S.w S.wn Wn) ch j4) > (rst (shr S.w S.wn Wn) ch b4) := (lcI_le (a := (rst (shr S.w S.wn Wn) ch j4)) (b := (rst (shr S.w S.wn Wn) ch b4)) (by omega) (by omega) (by omega) (by omega)).2 c_95
                                      refine gs (pc' := 251) (fun _ _ _ _ _ hl => lv_iload hx hb d_Mo_share_249 (lv_at hl 0 rfl)) ?_
                                      refine gs (pc' := 256) (fun _ _ _ _ _ hl => lv_goto (tgt := 256) hx hb d_Mo_share_251 (by decide)) ?_
                                      refine gst (pc' := 258) (L' := [(8, .int (nI j4)), (9, .int (nI j4)), (6, .long (lN (q3 + 1))), (3, .int (nI kn)), (0, .ref hm)]) (fun _ _ _ _ _ hl => lv_istore hx hb d_Mo_share_256 hl (by decide) rfl) ?_
                                      refine gst (pc' := 261) (L' := [(9, .int (nI (j4 + 1))), (8, .int (nI j4)), (6, .long (lN (q3 + 1))), (3, .int (nI kn)), (0, .ref hm)]) (fun _ _ _ _ _ hl => lv_iinc (v := nI (j4 + 1)) hx hb d_Mo_share_258 hl (k := 1) rfl (nI_add _ 1) (by decide) rfl) ?_
                                      refine gs (pc' := 222) (fun _ _ _ _ _ hl => lv_goto (tgt := 222) hx hb d_Mo_share_261 (by decide)) ?_
                                      refine gsub [0, 1, 2, 3, 4] rfl ?_
                                      exact ih4 (j4 + 1) j4 (by omega) (by omega) (fun i9 h9 => by
                                        by_cases e9 : i9 = j4
                                        · subst e9; constructor <;> omega
                                        · have hq9 := hmx i9 (by omega)
                                          constructor <;> omega)
                              exact loop4 (S.wn - 1) 1 0 (by omega) (by omega) (fun i9 h9 => by
                                have e9 : i9 = 0 := by omega
                                subst e9; exact ⟨Int.le_refl _, fun _ => Nat.le_refl _⟩)
                        exact loop3 L0 (fun _ => false) 0 sa2 re2 Gk (by omega) chs_0 (fun i9 h9 => (hsa i9 h9).trans (by simp)) (fun i9 h9 => (hre i9 h9).trans (lN_lI _)) hfr k1 k2 k3 k4
                      · skip
                        have nc_75 : S.wn < S.wn := (nn_ge (a := S.wn) (b := S.wn) (by omega) (by omega)).2 c_75
                        exact absurd nc_75 (by omega)
                    | succ q2 ih2 =>
                      intro j2 lf sa2 re2 Gk hj2 hlf hsa hre hfr k1 k2 k3 k4
                      have hwj := hW.w j2 (by omega)
                      have a1 : Wn % (tot S.w S.wn) < tot S.w S.wn := Nat.mod_lt _ ht0
                      have a2 : Wn % (tot S.w S.wn) * (S.w j2 / 100000) ≤ 12000000000 * 10000 := Nat.mul_le_mul (by omega) (by omega)
                      have a3 := Nat.mod_lt (Wn % (tot S.w S.wn) * (S.w j2 / 100000)) ht0
                      have a4 : Wn % (tot S.w S.wn) * (S.w j2 % 100000) ≤ 12000000000 * 100000 := Nat.mul_le_mul (by omega) (by omega)
                      have hsm := tot_mono (f := shp S.w S.wn Wn) (show j2 + 1 ≤ S.wn by omega)
                      have hst : tot (shp S.w S.wn Wn) (j2 + 1) = tot (shp S.w S.wn Wn) j2 + shp S.w S.wn Wn j2 := rfl
                      refine gs (pc' := 89) (fun _ _ _ _ _ hl => lv_iload hx hb d_Mo_share_87 (lv_at hl 0 rfl)) ?_
                      refine gs (pc' := 90) (fun _ _ _ _ _ hl => lv_aload_n hx hb d_Mo_share_89 rfl (lv_at hl 5 rfl)) ?_
                      refine g_get hx hb hts hin_Mo hown hK k1 rfl 14 (by decide) (hts _ wm768) (fun _ h9 => h9) rfl d_Mo_share_90 ?_
                      refine gsb (pc1 := 209) (pc2 := 96) (fun _ _ _ _ _ => lv_icmp_ge (tgt := 209) hx hb d_Mo_share_93 (by decide)) (fun c_96 => ?_) (fun c_96 => ?_)
                      · skip
                        have nc_96 : j2 ≥ S.wn := (nn_ge (a := j2) (b := S.wn) (by omega) (by omega)).1 c_96
                        exact absurd nc_96 (by omega)
                      · skip
                        have nc_96 : j2 < S.wn := (nn_ge (a := j2) (b := S.wn) (by omega) (by omega)).2 c_96
                        refine gs (pc' := 97) (fun _ _ _ _ _ hl => lv_lload_n hx hb d_Mo_share_96 rfl (lv_at hl 3 rfl)) ?_
                        refine gs (pc' := 99) (fun _ _ _ _ _ hl => lv_lload hx hb d_Mo_share_97 (lv_at hl 2 rfl)) ?_
                        refine gs (pc' := 100) (fun _ _ _ _ _ hl => lv_lrem hx hb d_Mo_share_99 (fun e => absurd ((pk_lEQ (by omega) (by omega)).mp (e.trans (show _ = lN 0 from rfl))) (by omega))) ?_
                        refine g_eql (show (lN Wn) - (lN Wn) / (lN (tot S.w S.wn)) * (lN (tot S.w S.wn)) = lN (Wn % (tot S.w S.wn)) from pk_lRem (by omega) (by omega) (by omega)) ?_
                        refine gst (pc' := 102) (L' := [(9, .long (lN (Wn % (tot S.w S.wn)))), (8, .int (nI j2)), (6, .long (lN lf)), (4, .long (lN (tot S.w S.wn))), (1, .long (lN Wn)), (3, .int (nI kn)), (0, .ref hm)]) (fun _ _ _ _ _ hl => lv_lstore hx hb d_Mo_share_100 hl (by decide) rfl) ?_
                        refine gs (pc' := 104) (fun _ _ _ _ _ hl => lv_lload hx hb d_Mo_share_102 (lv_at hl 0 rfl)) ?_
                        refine gs (pc' := 105) (fun _ _ _ _ _ hl => lv_aload_n hx hb d_Mo_share_104 rfl (lv_at hl 6 rfl)) ?_
                        refine g_get hx hb hts hin_Mo hown hK k1 rfl 15 (by decide) (hts _ wm769) (fun _ h9 => h9) rfl d_Mo_share_105 ?_
                        refine gs (pc' := 110) (fun _ _ _ _ _ hl => lv_iload hx hb d_Mo_share_108 (lv_at hl 1 rfl)) ?_
                        refine g_lald hx hb hK 1 k2 rfl (show vp_in (nI j2) 12 from vp_in_nI (by omega) (by omega)) d_Mo_share_110 ?_
                        refine g_eql (show wei_67 (nI j2).toNatClampNeg = wei_67 j2 from by rw [nI_clamp (by omega)]) ?_
                        refine g_eql (show wei_67 j2 = lN (S.w j2) from he_73 j2 (by omega)) ?_
                        refine gs (pc' := 114) (fun _ _ _ _ _ hl => lv_ldc2 (v := 100000) hx hb hown (hts _ wm1025) d_Mo_share_111) ?_
                        refine g_eql (show 100000 = lN 100000 from rfl) ?_
                        refine gs (pc' := 115) (fun _ _ _ _ _ hl => lv_ldiv hx hb d_Mo_share_114 (by decide)) ?_
                        refine g_eql (show (lN (S.w j2)) / (lN 100000) = lN ((S.w j2) / 100000) from pk_lDiv (by omega) (by omega) (by omega)) ?_
                        refine gs (pc' := 116) (fun _ _ _ _ _ hl => lv_lmul hx hb d_Mo_share_115) ?_
                        refine g_eql (show (lN (Wn % (tot S.w S.wn))) * (lN ((S.w j2) / 100000)) = lN ((Wn % (tot S.w S.wn)) * ((S.w j2) / 100000)) from lN_mul _ _) ?_
                        refine gst (pc' := 118) (L' := [(11, .long (lN ((Wn % (tot S.w S.wn)) * ((S.w j2) / 100000)))), (9, .long (lN (Wn % (tot S.w S.wn)))), (8, .int (nI j2)), (6, .long (lN lf)), (4, .long (lN (tot S.w S.wn))), (1, .long (lN Wn)), (3, .int (nI kn)), (0, .ref hm)]) (fun _ _ _ _ _ hl => lv_lstore hx hb d_Mo_share_116 hl (by decide) rfl) ?_
                        refine gs (pc' := 120) (fun _ _ _ _ _ hl => lv_lload hx hb d_Mo_share_118 (lv_at hl 0 rfl)) ?_
                        refine gs (pc' := 122) (fun _ _ _ _ _ hl => lv_lload hx hb d_Mo_share_120 (lv_at hl 4 rfl)) ?_
                        refine gs (pc' := 123) (fun _ _ _ _ _ hl => lv_lrem hx hb d_Mo_share_122 (fun e => absurd ((pk_lEQ (by omega) (by omega)).mp (e.trans (show _ = lN 0 from rfl))) (by omega))) ?_
                        refine g_eql (show (lN ((Wn % (tot S.w S.wn)) * ((S.w j2) / 100000))) - (lN ((Wn % (tot S.w S.wn)) * ((S.w j2) / 100000))) / (lN (tot S.w S.wn)) * (lN (tot S.w S.wn)) = lN (((Wn % (tot S.w S.wn)) * ((S.w j2) / 100000)) % (tot S.w S.wn)) from pk_lRem (by omega) (by omega) (by omega)) ?_
                        refine gs (pc' := 126) (fun _ _ _ _ _ hl => lv_ldc2 (v := 100000) hx hb hown (hts _ wm1025) d_Mo_share_123) ?_
                        refine g_eql (show 100000 = lN 100000 from rfl) ?_
                        refine gs (pc' := 127) (fun _ _ _ _ _ hl => lv_lmul hx hb d_Mo_share_126) ?_
                        refine g_eql (show (lN (((Wn % (tot S.w S.wn)) * ((S.w j2) / 100000)) % (tot S.w S.wn))) * (lN 100000) = lN ((((Wn % (tot S.w S.wn)) * ((S.w j2) / 100000)) % (tot S.w S.wn)) * 100000) from lN_mul _ _) ?_
                        refine gs (pc' := 129) (fun _ _ _ _ _ hl => lv_lload hx hb d_Mo_share_127 (lv_at hl 1 rfl)) ?_
                        refine gs (pc' := 130) (fun _ _ _ _ _ hl => lv_aload_n hx hb d_Mo_share_129 rfl (lv_at hl 7 rfl)) ?_
                        refine g_get hx hb hts hin_Mo hown hK k1 rfl 15 (by decide) (hts _ wm769) (fun _ h9 => h9) rfl d_Mo_share_130 ?_
                        refine gs (pc' := 135) (fun _ _ _ _ _ hl => lv_iload hx hb d_Mo_share_133 (lv_at hl 2 rfl)) ?_
                        refine g_lald hx hb hK 1 k2 rfl (show vp_in (nI j2) 12 from vp_in_nI (by omega) (by omega)) d_Mo_share_135 ?_
                        refine g_eql (show wei_67 (nI j2).toNatClampNeg = wei_67 j2 from by rw [nI_clamp (by omega)]) ?_
                        refine g_eql (show wei_67 j2 = lN (S.w j2) from he_73 j2 (by omega)) ?_
                        refine gs (pc' := 139) (fun _ _ _ _ _ hl => lv_ldc2 (v := 100000) hx hb hown (hts _ wm1025) d_Mo_share_136) ?_
                        refine g_eql (show 100000 = lN 100000 from rfl) ?_
                        refine gs (pc' := 140) (fun _ _ _ _ _ hl => lv_lrem hx hb d_Mo_share_139 (by decide)) ?_
                        refine g_eql (show (lN (S.w j2)) - (lN (S.w j2)) / (lN 100000) * (lN 100000) = lN ((S.w j2) % 100000) from pk_lRem (by omega) (by omega) (by omega)) ?_
                        refine gs (pc' := 141) (fun _ _ _ _ _ hl => lv_lmul hx hb d_Mo_share_140) ?_
                        refine g_eql (show (lN (Wn % (tot S.w S.wn))) * (lN ((S.w j2) % 100000)) = lN ((Wn % (tot S.w S.wn)) * ((S.w j2) % 100000)) from lN_mul _ _) ?_
                        refine gs (pc' := 142) (fun _ _ _ _ _ hl => lv_ladd hx hb d_Mo_share_141) ?_
                        refine g_eql (show (lN ((((Wn % (tot S.w S.wn)) * ((S.w j2) / 100000)) % (tot S.w S.wn)) * 100000)) + (lN ((Wn % (tot S.w S.wn)) * ((S.w j2) % 100000))) = lN (((((Wn % (tot S.w S.wn)) * ((S.w j2) / 100000)) % (tot S.w S.wn)) * 100000) + ((Wn % (tot S.w S.wn)) * ((S.w j2) % 100000))) from lN_add _ _) ?_
                        refine gst (pc' := 144) (L' := [(13, .long (lN (((((Wn % (tot S.w S.wn)) * ((S.w j2) / 100000)) % (tot S.w S.wn)) * 100000) + ((Wn % (tot S.w S.wn)) * ((S.w j2) % 100000))))), (11, .long (lN ((Wn % (tot S.w S.wn)) * ((S.w j2) / 100000)))), (9, .long (lN (Wn % (tot S.w S.wn)))), (8, .int (nI j2)), (6, .long (lN lf)), (4, .long (lN (tot S.w S.wn))), (1, .long (lN Wn)), (3, .int (nI kn)), (0, .ref hm)]) (fun _ _ _ _ _ hl => lv_lstore hx hb d_Mo_share_142 hl (by decide) rfl) ?_
                        refine gs (pc' := 145) (fun _ _ _ _ _ hl => lv_aload_n hx hb d_Mo_share_144 rfl (lv_at hl 8 rfl)) ?_
                        refine g_get hx hb hts hin_Mo hown hK k1 rfl 16 (by decide) (hts _ wm770) (fun _ h9 => h9) rfl d_Mo_share_145 ?_
                        refine gs (pc' := 150) (fun _ _ _ _ _ hl => lv_iload hx hb d_Mo_share_148 (lv_at hl 3 rfl)) ?_
                        refine gs (pc' := 151) (fun _ _ _ _ _ hl => lv_lload_n hx hb d_Mo_share_150 rfl (lv_at hl 6 rfl)) ?_
                        refine gs (pc' := 153) (fun _ _ _ _ _ hl => lv_lload hx hb d_Mo_share_151 (lv_at hl 5 rfl)) ?_
                        refine gs (pc' := 154) (fun _ _ _ _ _ hl => lv_ldiv hx hb d_Mo_share_153 (fun e => absurd ((pk_lEQ (by omega) (by omega)).mp (e.trans (show _ = lN 0 from rfl))) (by omega))) ?_
                        refine g_eql (show (lN Wn) / (lN (tot S.w S.wn)) = lN (Wn / (tot S.w S.wn)) from pk_lDiv (by omega) (by omega) (by omega)) ?_
                        refine gs (pc' := 155) (fun _ _ _ _ _ hl => lv_aload_n hx hb d_Mo_share_154 rfl (lv_at hl 8 rfl)) ?_
                        refine g_get hx hb hts hin_Mo hown hK k1 rfl 15 (by decide) (hts _ wm769) (fun _ h9 => h9) rfl d_Mo_share_155 ?_
                        refine gs (pc' := 160) (fun _ _ _ _ _ hl => lv_iload hx hb d_Mo_share_158 (lv_at hl 3 rfl)) ?_
                        refine g_lald hx hb hK 1 k2 rfl (show vp_in (nI j2) 12 from vp_in_nI (by omega) (by omega)) d_Mo_share_160 ?_
                        refine g_eql (show wei_67 (nI j2).toNatClampNeg = wei_67 j2 from by rw [nI_clamp (by omega)]) ?_
                        refine g_eql (show wei_67 j2 = lN (S.w j2) from he_73 j2 (by omega)) ?_
                        refine gs (pc' := 162) (fun _ _ _ _ _ hl => lv_lmul hx hb d_Mo_share_161) ?_
                        refine g_eql (show (lN (Wn / (tot S.w S.wn))) * (lN (S.w j2)) = lN ((Wn / (tot S.w S.wn)) * (S.w j2)) from lN_mul _ _) ?_
                        refine gs (pc' := 164) (fun _ _ _ _ _ hl => lv_lload hx hb d_Mo_share_162 (lv_at hl 1 rfl)) ?_
                        refine gs (pc' := 166) (fun _ _ _ _ _ hl => lv_lload hx hb d_Mo_share_164 (lv_at hl 5 rfl)) ?_
                        refine gs (pc' := 167) (fun _ _ _ _ _ hl => lv_ldiv hx hb d_Mo_share_166 (fun e => absurd ((pk_lEQ (by omega) (by omega)).mp (e.trans (show _ = lN 0 from rfl))) (by omega))) ?_
                        refine g_eql (show (lN ((Wn % (tot S.w S.wn)) * ((S.w j2) / 100000))) / (lN (tot S.w S.wn)) = lN (((Wn % (tot S.w S.wn)) * ((S.w j2) / 100000)) / (tot S.w S.wn)) from pk_lDiv (by omega) (by omega) (by omega)) ?_
                        refine gs (pc' := 170) (fun _ _ _ _ _ hl => lv_ldc2 (v := 100000) hx hb hown (hts _ wm1025) d_Mo_share_167) ?_
                        refine g_eql (show 100000 = lN 100000 from rfl) ?_
                        refine gs (pc' := 171) (fun _ _ _ _ _ hl => lv_lmul hx hb d_Mo_share_170) ?_
                        refine g_eql (show (lN (((Wn % (tot S.w S.wn)) * ((S.w j2) / 100000)) / (tot S.w S.wn))) * (lN 100000) = lN ((((Wn % (tot S.w S.wn)) * ((S.w j2) / 100000)) / (tot S.w S.wn)) * 100000) from lN_mul _ _) ?_
                        refine gs (pc' := 172) (fun _ _ _ _ _ hl => lv_ladd hx hb d_Mo_share_171) ?_
                        refine g_eql (show (lN ((Wn / (tot S.w S.wn)) * (S.w j2))) + (lN ((((Wn % (tot S.w S.wn)) * ((S.w j2) / 100000)) / (tot S.w S.wn)) * 100000)) = lN (((Wn / (tot S.w S.wn)) * (S.w j2)) + ((((Wn % (tot S.w S.wn)) * ((S.w j2) / 100000)) / (tot S.w S.wn)) * 100000)) from lN_add _ _) ?_
                        refine gs (pc' := 174) (fun _ _ _ _ _ hl => lv_lload hx hb d_Mo_share_172 (lv_at hl 0 rfl)) ?_
                        refine gs (pc' := 176) (fun _ _ _ _ _ hl => lv_lload hx hb d_Mo_share_174 (lv_at hl 5 rfl)) ?_
                        refine gs (pc' := 177) (fun _ _ _ _ _ hl => lv_ldiv hx hb d_Mo_share_176 (fun e => absurd ((pk_lEQ (by omega) (by omega)).mp (e.trans (show _ = lN 0 from rfl))) (by omega))) ?_
                        refine g_eql (show (lN (((((Wn % (tot S.w S.wn)) * ((S.w j2) / 100000)) % (tot S.w S.wn)) * 100000) + ((Wn % (tot S.w S.wn)) * ((S.w j2) % 100000)))) / (lN (tot S.w S.wn)) = lN ((((((Wn % (tot S.w S.wn)) * ((S.w j2) / 100000)) % (tot S.w S.wn)) * 100000) + ((Wn % (tot S.w S.wn)) * ((S.w j2) % 100000))) / (tot S.w S.wn)) from pk_lDiv (by omega) (by omega) (by omega)) ?_
                        refine gs (pc' := 178) (fun _ _ _ _ _ hl => lv_ladd hx hb d_Mo_share_177) ?_
                        refine g_eql (show (lN (((Wn / (tot S.w S.wn)) * (S.w j2)) + ((((Wn % (tot S.w S.wn)) * ((S.w j2) / 100000)) / (tot S.w S.wn)) * 100000))) + (lN ((((((Wn % (tot S.w S.wn)) * ((S.w j2) / 100000)) % (tot S.w S.wn)) * 100000) + ((Wn % (tot S.w S.wn)) * ((S.w j2) % 100000))) / (tot S.w S.wn))) = lN ((((Wn / (tot S.w S.wn)) * (S.w j2)) + ((((Wn % (tot S.w S.wn)) * ((S.w j2) / 100000)) / (tot S.w S.wn)) * 100000)) + ((((((Wn % (tot S.w S.wn)) * ((S.w j2) / 100000)) % (tot S.w S.wn)) * 100000) + ((Wn % (tot S.w S.wn)) * ((S.w j2) % 100000))) / (tot S.w S.wn))) from lN_add _ _) ?_
                        refine g_eql (show lN ((((Wn / (tot S.w S.wn)) * (S.w j2)) + ((((Wn % (tot S.w S.wn)) * ((S.w j2) / 100000)) / (tot S.w S.wn)) * 100000)) + ((((((Wn % (tot S.w S.wn)) * ((S.w j2) / 100000)) % (tot S.w S.wn)) * 100000) + ((Wn % (tot S.w S.wn)) * ((S.w j2) % 100000))) / (tot S.w S.wn))) = lN (shp S.w S.wn Wn j2) from congrArg lN (sh_split ht0).1) ?_
                        refine g_last hx hb hK 1 k3 rfl (show vp_in (nI j2) 12 from vp_in_nI (by omega) (by omega)) d_Mo_share_178 (fun G_97 f_98 o_99 => ?_)
                        rw [nI_clamp (by omega)] at f_98
                        have f_100 : G_97 hm = some (70, .inr (9, [.int (nI 0), .int (nI S.n), .ref (A 2), .ref (A 3), .ref (A 4), .ref (A 5), .int sg_28, .int sh_29, .ref (A 8), .ref (A 9), .int (nI S.rn), .ref (A 11), .ref (A 12), .ref (A 13), .int (nI S.wn), .ref (A 15), .ref (A 16), .ref (A 17), .ref (A 18), .int kt_30, .int kb_31, .int ks_32])) := (o_99 _ (gne k1 k3 (fun e => by cases e))).trans k1
                        have f_101 : G_97 (A 15) = some (80, .inl (cA 1, 12, .inr (.inl wei_67))) := (o_99 _ (gne k2 k3 (by simp))).trans k2
                        have f_102 : G_97 (A 17) = some (82, .inl (cA 1, 12, .inr (.inl re2))) := (o_99 _ (gne k4 k3 (by simp))).trans k4
                        have gf_103 : gfr (fun x => x = 81 ∨ x = 82) G_57 G_97 := gfr_put hfr k3 (show (81 : Nat) = 81 ∨ (81 : Nat) = 82 by decide) o_99
                        refine gs (pc' := 180) (fun _ _ _ _ _ hl => lv_aload_n hx hb d_Mo_share_179 rfl (lv_at hl 8 rfl)) ?_
                        refine g_get hx hb hts hin_Mo hown hK f_100 rfl 17 (by decide) (hts _ wm771) (fun _ h9 => h9) rfl d_Mo_share_180 ?_
                        refine gs (pc' := 185) (fun _ _ _ _ _ hl => lv_iload hx hb d_Mo_share_183 (lv_at hl 3 rfl)) ?_
                        refine gs (pc' := 187) (fun _ _ _ _ _ hl => lv_lload hx hb d_Mo_share_185 (lv_at hl 0 rfl)) ?_
                        refine gs (pc' := 189) (fun _ _ _ _ _ hl => lv_lload hx hb d_Mo_share_187 (lv_at hl 5 rfl)) ?_
                        refine gs (pc' := 190) (fun _ _ _ _ _ hl => lv_lrem hx hb d_Mo_share_189 (fun e => absurd ((pk_lEQ (by omega) (by omega)).mp (e.trans (show _ = lN 0 from rfl))) (by omega))) ?_
                        refine g_eql (show (lN (((((Wn % (tot S.w S.wn)) * ((S.w j2) / 100000)) % (tot S.w S.wn)) * 100000) + ((Wn % (tot S.w S.wn)) * ((S.w j2) % 100000)))) - (lN (((((Wn % (tot S.w S.wn)) * ((S.w j2) / 100000)) % (tot S.w S.wn)) * 100000) + ((Wn % (tot S.w S.wn)) * ((S.w j2) % 100000)))) / (lN (tot S.w S.wn)) * (lN (tot S.w S.wn)) = lN ((((((Wn % (tot S.w S.wn)) * ((S.w j2) / 100000)) % (tot S.w S.wn)) * 100000) + ((Wn % (tot S.w S.wn)) * ((S.w j2) % 100000))) % (tot S.w S.wn)) from pk_lRem (by omega) (by omega) (by omega)) ?_
                        refine g_eql (show lN ((((((Wn % (tot S.w S.wn)) * ((S.w j2) / 100000)) % (tot S.w S.wn)) * 100000) + ((Wn % (tot S.w S.wn)) * ((S.w j2) % 100000))) % (tot S.w S.wn)) = lN (shr S.w S.wn Wn j2) from congrArg lN (sh_split ht0).2) ?_
                        refine g_last hx hb hK 1 f_102 rfl (show vp_in (nI j2) 12 from vp_in_nI (by omega) (by omega)) d_Mo_share_190 (fun G_104 f_105 o_106 => ?_)
                        rw [nI_clamp (by omega)] at f_105
                        have f_107 : G_104 hm = some (70, .inr (9, [.int (nI 0), .int (nI S.n), .ref (A 2), .ref (A 3), .ref (A 4), .ref (A 5), .int sg_28, .int sh_29, .ref (A 8), .ref (A 9), .int (nI S.rn), .ref (A 11), .ref (A 12), .ref (A 13), .int (nI S.wn), .ref (A 15), .ref (A 16), .ref (A 17), .ref (A 18), .int kt_30, .int kb_31, .int ks_32])) := (o_106 _ (gne f_100 f_102 (fun e => by cases e))).trans f_100
                        have f_108 : G_104 (A 15) = some (80, .inl (cA 1, 12, .inr (.inl wei_67))) := (o_106 _ (gne f_101 f_102 (by simp))).trans f_101
                        have f_109 : G_104 (A 16) = some (81, .inl (cA 1, 12, .inr (.inl (vp_updL sa2 j2 (lN (shp S.w S.wn Wn j2)))))) := (o_106 _ (gne f_98 f_102 (by simp))).trans f_98
                        have gf_110 : gfr (fun x => x = 81 ∨ x = 82) G_57 G_104 := gfr_put gf_103 f_102 (show (82 : Nat) = 81 ∨ (82 : Nat) = 82 by decide) o_106
                        refine gs (pc' := 193) (fun _ _ _ _ _ hl => lv_lload hx hb d_Mo_share_191 (lv_at hl 4 rfl)) ?_
                        refine gs (pc' := 194) (fun _ _ _ _ _ hl => lv_aload_n hx hb d_Mo_share_193 rfl (lv_at hl 8 rfl)) ?_
                        refine g_get hx hb hts hin_Mo hown hK f_107 rfl 16 (by decide) (hts _ wm770) (fun _ h9 => h9) rfl d_Mo_share_194 ?_
                        refine gs (pc' := 199) (fun _ _ _ _ _ hl => lv_iload hx hb d_Mo_share_197 (lv_at hl 3 rfl)) ?_
                        refine g_lald hx hb hK 1 f_109 rfl (show vp_in (nI j2) 12 from vp_in_nI (by omega) (by omega)) d_Mo_share_199 ?_
                        refine g_eql (show (vp_updL sa2 j2 (lN (shp S.w S.wn Wn j2))) (nI j2).toNatClampNeg = (vp_updL sa2 j2 (lN (shp S.w S.wn Wn j2))) j2 from by rw [nI_clamp (by omega)]) ?_
                        refine g_eql (show (vp_updL sa2 j2 (lN (shp S.w S.wn Wn j2))) j2 = lN (shp S.w S.wn Wn j2) from if_pos rfl) ?_
                        refine gs (pc' := 201) (fun _ _ _ _ _ hl => lv_lsub hx hb d_Mo_share_200) ?_
                        refine g_eql (show (lN lf) - (lN (shp S.w S.wn Wn j2)) = lN (lf - (shp S.w S.wn Wn j2)) from lN_sub (by omega)) ?_
                        refine gst (pc' := 203) (L' := [(6, .long (lN (lf - (shp S.w S.wn Wn j2)))), (13, .long (lN (((((Wn % (tot S.w S.wn)) * ((S.w j2) / 100000)) % (tot S.w S.wn)) * 100000) + ((Wn % (tot S.w S.wn)) * ((S.w j2) % 100000))))), (11, .long (lN ((Wn % (tot S.w S.wn)) * ((S.w j2) / 100000)))), (9, .long (lN (Wn % (tot S.w S.wn)))), (8, .int (nI j2)), (4, .long (lN (tot S.w S.wn))), (1, .long (lN Wn)), (3, .int (nI kn)), (0, .ref hm)]) (fun _ _ _ _ _ hl => lv_lstore hx hb d_Mo_share_201 hl (by decide) rfl) ?_
                        refine gst (pc' := 206) (L' := [(8, .int (nI (j2 + 1))), (6, .long (lN (lf - (shp S.w S.wn Wn j2)))), (13, .long (lN (((((Wn % (tot S.w S.wn)) * ((S.w j2) / 100000)) % (tot S.w S.wn)) * 100000) + ((Wn % (tot S.w S.wn)) * ((S.w j2) % 100000))))), (11, .long (lN ((Wn % (tot S.w S.wn)) * ((S.w j2) / 100000)))), (9, .long (lN (Wn % (tot S.w S.wn)))), (4, .long (lN (tot S.w S.wn))), (1, .long (lN Wn)), (3, .int (nI kn)), (0, .ref hm)]) (fun _ _ _ _ _ hl => lv_iinc (v := nI (j2 + 1)) hx hb d_Mo_share_203 hl (k := 4) rfl (nI_add _ 1) (by decide) rfl) ?_
                        refine gs (pc' := 87) (fun _ _ _ _ _ hl => lv_goto (tgt := 87) hx hb d_Mo_share_206 (by decide)) ?_
                        refine gsub [0, 1, 5, 6, 7, 8] rfl ?_
                        exact ih2 (j2 + 1) (lf - (shp S.w S.wn Wn j2)) (vp_updL sa2 j2 (lN (shp S.w S.wn Wn j2))) (vp_updL re2 j2 (lN (shr S.w S.wn Wn j2))) G_104 (by omega) (by omega) (fun i9 h9 => by
                          by_cases e9 : i9 = j2
                          · subst e9; exact if_pos rfl
                          · exact (if_neg e9).trans (hsa i9 (by omega))) (fun i9 h9 => by
                          by_cases e9 : i9 = j2
                          · subst e9; exact if_pos rfl
                          · exact (if_neg e9).trans (hre i9 (by omega))) gf_110 f_107 f_108 f_109 f_105
                  exact loop2 S.wn 0 Wn sha_68 res_69 G_57 (by omega) (by simp [tot]) (fun i9 h9 => absurd h9 (Nat.not_lt_zero _)) (fun i9 h9 => absurd h9 (Nat.not_lt_zero _)) gfr_rf f_60 f_70 f_71 f_72
                · skip
                  have nc_74 : S.wn < S.wn := (nn_ge (a := S.wn) (b := S.wn) (by omega) (by omega)).2 c_74
                  exact absurd nc_74 (by omega)
              | succ q ih =>
                intro j hj
                refine gs (pc' := 56) (fun _ _ _ _ _ hl => lv_iload hx hb d_Mo_share_54 (lv_at hl 0 rfl)) ?_
                refine gs (pc' := 57) (fun _ _ _ _ _ hl => lv_aload_n hx hb d_Mo_share_56 rfl (lv_at hl 4 rfl)) ?_
                refine g_get hx hb hts hin_Mo hown hK f_60 rfl 14 (by decide) (hts _ wm768) (fun _ h9 => h9) rfl d_Mo_share_57 ?_
                refine gsb (pc1 := 81) (pc2 := 63) (fun _ _ _ _ _ => lv_icmp_ge (tgt := 81) hx hb d_Mo_share_60 (by decide)) (fun c_111 => ?_) (fun c_111 => ?_)
                · skip
                  have nc_111 : j ≥ S.wn := (nn_ge (a := j) (b := S.wn) (by omega) (by omega)).1 c_111
                  exact absurd nc_111 (by omega)
                · skip
                  have nc_111 : j < S.wn := (nn_ge (a := j) (b := S.wn) (by omega) (by omega)).2 c_111
                  refine gs (pc' := 65) (fun _ _ _ _ _ hl => lv_lload hx hb d_Mo_share_63 (lv_at hl 1 rfl)) ?_
                  refine gs (pc' := 66) (fun _ _ _ _ _ hl => lv_aload_n hx hb d_Mo_share_65 rfl (lv_at hl 4 rfl)) ?_
                  refine g_get hx hb hts hin_Mo hown hK f_60 rfl 15 (by decide) (hts _ wm769) (fun _ h9 => h9) rfl d_Mo_share_66 ?_
                  refine gs (pc' := 71) (fun _ _ _ _ _ hl => lv_iload hx hb d_Mo_share_69 (lv_at hl 0 rfl)) ?_
                  refine g_lald hx hb hK 1 f_70 rfl (show vp_in (nI j) 12 from vp_in_nI (by omega) (by omega)) d_Mo_share_71 ?_
                  refine g_eql (show wei_67 (nI j).toNatClampNeg = wei_67 j from by rw [nI_clamp (by omega)]) ?_
                  refine g_eql (show wei_67 j = lN (S.w j) from he_73 j (by omega)) ?_
                  refine gs (pc' := 73) (fun _ _ _ _ _ hl => lv_ladd hx hb d_Mo_share_72) ?_
                  refine g_eql (show (lN (tot S.w j)) + (lN (S.w j)) = lN ((tot S.w j) + (S.w j)) from lN_add _ _) ?_
                  refine gst (pc' := 75) (L' := [(4, .long (lN ((tot S.w j) + (S.w j)))), (6, .int (nI j)), (1, .long (lN Wn)), (3, .int (nI kn)), (0, .ref hm)]) (fun _ _ _ _ _ hl => lv_lstore hx hb d_Mo_share_73 hl (by decide) rfl) ?_
                  refine gst (pc' := 78) (L' := [(6, .int (nI (j + 1))), (4, .long (lN ((tot S.w j) + (S.w j)))), (1, .long (lN Wn)), (3, .int (nI kn)), (0, .ref hm)]) (fun _ _ _ _ _ hl => lv_iinc (v := nI (j + 1)) hx hb d_Mo_share_75 hl (k := 1) rfl (nI_add _ 1) (by decide) rfl) ?_
                  refine gs (pc' := 54) (fun _ _ _ _ _ hl => lv_goto (tgt := 54) hx hb d_Mo_share_78 (by decide)) ?_
                  refine gsub [0, 1, 2, 3, 4] rfl ?_
                  exact ih (j + 1) (by omega)
            exact loop1 S.wn 0 (by omega)
          · skip
            have nc_66 : 0 > 0 := (n0_le (a := 0) (by omega)).2 c_66
            exact absurd nc_66 (by decide)
        · skip
          have nc_56 : wh > ((1000000000000 : Nat) : Int) := (lcI_le (a := wh) (b := ((1000000000000 : Nat) : Int)) (by omega) (by omega) (by omega) (by omega)).2 (by rw [cmp_IN] at c_56; exact c_56)
          have hb_w : ¬ (0 ≤ wh ∧ wh ≤ 1000000000000) := by omega
          refine gs (pc' := 32) (fun _ _ _ _ _ hl => lv_iconst (v := nI 2) hx hb d_Mo_share_31 (by decide)) ?_
          refine gs (pc' := 36) (fun _ _ _ _ _ hl => lv_goto (tgt := 36) hx hb d_Mo_share_32 (by decide)) ?_
          refine g_put (ty := .int) hx hb hts hin_Mo ty_Mo ty_Mo_ok nm_Mo hown hK f_42 rfl 0 (by decide) (hts _ wm754) (fun _ h9 => h9) rfl (by decide +kernel) rfl rfl (Nat.le_of_ble_eq_true rfl) d_Mo_share_36 (fun G_112 f_113 o_114 => ?_)
          have f_115 : G_112 hm = some (70, .inr (9, [.int (nI 2), .int (nI S.n), .ref (A 2), .ref (A 3), .ref (A 4), .ref (A 5), .int sg_28, .int sh_29, .ref (A 8), .ref (A 9), .int (nI S.rn), .ref (A 11), .ref (A 12), .ref (A 13), .int (nI S.wn), .ref (A 15), .ref (A 16), .ref (A 17), .ref (A 18), .int kt_30, .int kb_31, .int ks_32])) := f_113
          have f_116 : G_112 (A 18) = some (83, .inl (cA 0, 8600, .inl kf_34)) := (o_114 _ (gne v_37 f_42 (fun e => by cases e))).trans v_37
          have gf_117 : gfr mT G G_112 := gfr_put gfr_rf f_42 (show mT 70 by decide) o_114
          have gf_118 : gfr (fun x => x = 70) _ G_112 := gfr_put gfr_rf f_42 rfl o_114
          have mr_119 : MR cA A Rr_33 G_112 := MR_fr v_36 gf_118 (show ¬ (75 : Nat) = 70 by decide) (show ¬ (76 : Nat) = 70 by decide)
          have mb_120 : MB cA A S G_112 := MB_fr v_41 gf_118 (fun x h9 => by omega)
          refine gs (pc' := 40) (fun _ _ _ _ _ hl => lv_aload_n hx hb d_Mo_share_39 rfl (lv_at hl 0 rfl)) ?_
          refine g_get hx hb hts hin_Mo hown hK f_115 rfl 0 (by decide) (hts _ wm754) (fun _ h9 => h9) rfl d_Mo_share_40 ?_
          refine gsb (pc1 := 48) (pc2 := 46) (fun _ _ _ _ _ => lv_if_le (tgt := 48) hx hb d_Mo_share_43 (by decide)) (fun c_121 => ?_) (fun c_121 => ?_)
          · skip
            have nc_121 : 2 ≤ 0 := (n0_le (a := 2) (by omega)).1 c_121
            exact absurd nc_121 (by decide)
          · skip
            have nc_121 : 2 > 0 := (n0_le (a := 2) (by omega)).2 c_121
            refine gs (pc' := 47) (fun _ _ _ _ _ hl => lv_lconst (v := lN 0) hx hb d_Mo_share_46 (by decide)) ?_
            have hV_122 : MW cA hm A S 2 none none none G_112 := ⟨sg_28, sh_29, kt_30, kb_31, ks_32, Rr_33, _, f_115, mr_119, f_116, sn_, sn_, sn_, mb_120⟩
            rw [st_share hkq1 hkq2, if_neg (Decidable.not_not.mpr hg_k), if_pos hb_w] at hret
            exact hret 47 _ _ _ _ d_Mo_share_47 hB1 hB2 ⟨rfl, fun h9 => absurd (show (2 : Nat) = 0 from h9) (by decide), hV_122, gf_117⟩
    · skip
      have nc_43 : kq ≥ ((S.wn : Nat) : Int) := (ii_lt (a := kq) (b := ((S.wn : Nat) : Int)) (by omega) (by omega) (by omega) (by omega)).2 (by first | exact c_43 | (have z9 := c_43; simp only [nI_iI] at z9; exact z9))
      have hb_k : ¬ (0 ≤ kq ∧ kq < S.wn) := by omega
      refine gs (pc' := 14) (fun _ _ _ _ _ hl => lv_iconst (v := nI 1) hx hb d_Mo_share_13 (by decide)) ?_
      refine gs (pc' := 36) (fun _ _ _ _ _ hl => lv_goto (tgt := 36) hx hb d_Mo_share_14 (by decide)) ?_
      refine g_put (ty := .int) hx hb hts hin_Mo ty_Mo ty_Mo_ok nm_Mo hown hK f_42 rfl 0 (by decide) (hts _ wm754) (fun _ h9 => h9) rfl (by decide +kernel) rfl rfl (Nat.le_of_ble_eq_true rfl) d_Mo_share_36 (fun G_123 f_124 o_125 => ?_)
      have f_126 : G_123 hm = some (70, .inr (9, [.int (nI 1), .int (nI S.n), .ref (A 2), .ref (A 3), .ref (A 4), .ref (A 5), .int sg_28, .int sh_29, .ref (A 8), .ref (A 9), .int (nI S.rn), .ref (A 11), .ref (A 12), .ref (A 13), .int (nI S.wn), .ref (A 15), .ref (A 16), .ref (A 17), .ref (A 18), .int kt_30, .int kb_31, .int ks_32])) := f_124
      have f_127 : G_123 (A 18) = some (83, .inl (cA 0, 8600, .inl kf_34)) := (o_125 _ (gne v_37 f_42 (fun e => by cases e))).trans v_37
      have gf_128 : gfr mT G G_123 := gfr_put gfr_rf f_42 (show mT 70 by decide) o_125
      have gf_129 : gfr (fun x => x = 70) _ G_123 := gfr_put gfr_rf f_42 rfl o_125
      have mr_130 : MR cA A Rr_33 G_123 := MR_fr v_36 gf_129 (show ¬ (75 : Nat) = 70 by decide) (show ¬ (76 : Nat) = 70 by decide)
      have mb_131 : MB cA A S G_123 := MB_fr v_41 gf_129 (fun x h9 => by omega)
      refine gs (pc' := 40) (fun _ _ _ _ _ hl => lv_aload_n hx hb d_Mo_share_39 rfl (lv_at hl 0 rfl)) ?_
      refine g_get hx hb hts hin_Mo hown hK f_126 rfl 0 (by decide) (hts _ wm754) (fun _ h9 => h9) rfl d_Mo_share_40 ?_
      refine gsb (pc1 := 48) (pc2 := 46) (fun _ _ _ _ _ => lv_if_le (tgt := 48) hx hb d_Mo_share_43 (by decide)) (fun c_132 => ?_) (fun c_132 => ?_)
      · skip
        have nc_132 : 1 ≤ 0 := (n0_le (a := 1) (by omega)).1 c_132
        exact absurd nc_132 (by decide)
      · skip
        have nc_132 : 1 > 0 := (n0_le (a := 1) (by omega)).2 c_132
        refine gs (pc' := 47) (fun _ _ _ _ _ hl => lv_lconst (v := lN 0) hx hb d_Mo_share_46 (by decide)) ?_
        have hV_133 : MW cA hm A S 1 none none none G_123 := ⟨sg_28, sh_29, kt_30, kb_31, ks_32, Rr_33, _, f_126, mr_130, f_127, sn_, sn_, sn_, mb_131⟩
        rw [st_share hkq1 hkq2, if_pos hb_k] at hret
        exact hret 47 _ _ _ _ d_Mo_share_47 hB1 hB2 ⟨rfl, fun h9 => absurd (show (1 : Nat) = 0 from h9) (by decide), hV_133, gf_128⟩
