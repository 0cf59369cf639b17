set_option maxHeartbeats 4000000 in
set_option maxRecDepth 100000 in
theorem c_La_value (l : Launch) (D : va_G) (cA : Nat → ClassId) (lo MC MS : Nat) (G : gT) (B : Nat × Nat) (X : Nat × Nat) (a : AX) (S : St) (F : Nat → Option Rat) (V : Nat → Nat) (hC : CW cA X a S F V (G, B)) (hW : WF S) (ao : Nat) (of : Nat → Int64) (hao : G ao = some (90, .inl (cA 1, 1, .inr (.inl of))))  (p0 : Int) (hp01 : -9223372036854775808 ≤ p0) (hp02 : p0 < 9223372036854775808) (p1 : Int) (hp11 : -9223372036854775808 ≤ p1) (hp12 : p1 < 9223372036854775808) (p2 : Int) (hp21 : -2147483648 ≤ p2) (hp22 : p2 < 2147483648) (hY1 : X.1 + 6 ≤ MC) (hY2 : X.2 + 209 ≤ MS) (hfl : ∀ e : Env, l.admits e → e.platform.stackTraces = false) : gMet l y_La_value w_La_value 9 237 D clS (gtys cA) lo MC MS [.ref a.x, .long (lI p0), .long (lI p1), .int (iI p2), .ref ao] G B (gQi D clS lo (fun r u => r = nI (sp_value S p0 p1 (iI p2)).1 ∧ CW3 cA (X.1 + 6, X.2 + 209) a (sp_value S p0 p1 (iI p2)).2.2 u ∧ (∃ of1 : Nat → Int64, u.1 ao = some (90, .inl (cA 1, 1, .inr (.inl of1))) ∧ ((sp_value S p0 p1 (iI p2)).1 = 0 → of1 0 = (iI (sp_value S p0 p1 (iI p2)).2.1).toInt64)) ∧ gfr (fun x => x < 70 ∨ x = 90) G u.1)) := by
  refine g_metiW (cc := method_3_code) (nL := 8) (L := [(0, .ref a.x), (1, .long (lI p0)), (3, .long (lI p1)), (5, .int (iI p2)), (6, .ref ao)]) (by decide +kernel) rfl (Nat.le_of_ble_eq_true rfl) rfl ?_
  intro p e R s m args below meth c Q hF hRc hRs hRf hRl hex hret
  obtain ⟨hx, hb, hr, hml, hts0, hown, hlocks, hin, hK, hlo, hZ⟩ := hF
  have hts : ∀ w ∈ tbg, w.before args s = true := fun w h => hts0 w (List.mem_cons_of_mem _ h)
  have hle0 := w2_le hC.w
  have hB1 : B.1 ≤ MC := by omega
  have hB2 : B.2 ≤ MS := by omega
  have hax : G a.x = some (31, .inr (8, [.ref a.vs, .int (nI S.n), .ref a.rs, .int (nI S.rn), .ref a.ws, .ref a.ca, .ref (a.fr 0), .ref (a.fr 1), .ref (a.fr 2), .ref (a.fr 3), .ref a.zr, .ref a.fo, .ref a.ha, .ref a.si])) := hC.ob
  rcases ka_value (S := S) (p0 := p0) (p1 := p1) (p2 := iI p2) with hk | ⟨hk, hS⟩ | ⟨hk, hS⟩
  · skip
    refine gs (pc' := 2) (fun _ _ _ _ _ hl => lv_aload hx hb d_La_value_0 (lv_at hl 4 rfl)) ?_
    refine gs (pc' := 3) (fun _ _ _ _ _ hl => lv_iconst (v := nI 0) hx hb d_La_value_2 (by decide)) ?_
    refine gs (pc' := 4) (fun _ _ _ _ _ hl => lv_aload_n hx hb d_La_value_3 rfl (lv_at hl 0 rfl)) ?_
    refine gs (pc' := 5) (fun _ _ _ _ _ hl => lv_lload_n hx hb d_La_value_4 rfl (lv_at hl 1 rfl)) ?_
    refine gs (pc' := 6) (fun _ _ _ _ _ hl => lv_lload_n hx hb d_La_value_5 rfl (lv_at hl 2 rfl)) ?_
    refine gs (pc' := 8) (fun _ _ _ _ _ hl => lv_iload hx hb d_La_value_6 (lv_at hl 3 rfl)) ?_
    refine g_outi hlo (g_runV (As := [.long (lI p0), .long (lI p1), .int (iI p2)]) (rest := [.int (nI 0), .ref ao]) ⟨hx, hb, hml, hown, hts⟩ hK hZ hRc hRs (c_Mf_value l D cA lo MC MS G B X a S F V hC hW p0 hp01 hp02 p1 hp11 hp12 p2 hp21 hp22 hk hY1 hY2) (fun _ _ => cwV 3 hts (tb_good (tb_cons wm295 (tb_cons wm296 (tb_cons wm297 (tb_cons wm1 k_Mf_value))))) rfl rfl rfl (by decide +kernel) ⟨by rw [hRf]; exact Nat.le_of_ble_eq_true rfl, by rw [hRl]; exact Nat.le_of_ble_eq_true rfl⟩) hax rfl hB1 hB2 rfl (Nat.le_of_ble_eq_true rfl) d_La_value_8) (fun r_4 G_1 B_2 p_3 => ?_)
    obtain ⟨hr9, hC9, hf9⟩ := p_3
    subst hr9
    have hao9 : G_1 ao = some (90, .inl (cA 1, 1, .inr (.inl of))) := hf9 _ _ hao (show ¬ (90 : Nat) < 70 by decide)
    have hle9 := CW3_le hC9
    refine gs (pc' := 12) (fun _ _ _ _ _ hl => lv_i2l (v := (iI (sp_value S p0 p1 (iI p2)).2.1).toInt64) hx hb d_La_value_11 (rfl)) ?_
    refine g_last hx hb hK 1 hao9 rfl (show vp_in (nI 0) 1 from vp_in_nI (by omega) (by omega)) d_La_value_12 (fun G_5 f_6 o_7 => ?_)
    rw [nI_clamp (by omega)] at f_6
    have hfp : gfr (fun x => x = 90) G_1 G_5 := gfr_put gfr_rf hao9 rfl o_7
    refine gs (pc' := 24) (fun _ _ _ _ _ hl => lv_goto (tgt := 24) hx hb d_La_value_13 (by decide)) ?_
    refine gs (pc' := 25) (fun _ _ _ _ _ hl => lv_iconst (v := nI 0) hx hb d_La_value_24 (by decide)) ?_
    exact hret 25 _ _ _ _ d_La_value_25 (Nat.le_trans hle9.1 hY1) (Nat.le_trans hle9.2 hY2) ⟨congrArg nI hk.symm, CW3_up hC9 hfp (fun x h9 => by have h9 : x = 90 := h9; omega), ⟨_, f_6, fun _ => if_pos rfl⟩, fun q9 y9 h9 n9 => hfp q9 y9 (hf9 q9 y9 h9 (fun z => n9 (Or.inl z))) (fun z => n9 (Or.inr z))⟩
  · skip
    refine gs (pc' := 2) (fun _ _ _ _ _ hl => lv_aload hx hb d_La_value_0 (lv_at hl 4 rfl)) ?_
    refine gs (pc' := 3) (fun _ _ _ _ _ hl => lv_iconst (v := nI 0) hx hb d_La_value_2 (by decide)) ?_
    refine gs (pc' := 4) (fun _ _ _ _ _ hl => lv_aload_n hx hb d_La_value_3 rfl (lv_at hl 0 rfl)) ?_
    refine gs (pc' := 5) (fun _ _ _ _ _ hl => lv_lload_n hx hb d_La_value_4 rfl (lv_at hl 1 rfl)) ?_
    refine gs (pc' := 6) (fun _ _ _ _ _ hl => lv_lload_n hx hb d_La_value_5 rfl (lv_at hl 2 rfl)) ?_
    refine gs (pc' := 8) (fun _ _ _ _ _ hl => lv_iload hx hb d_La_value_6 (lv_at hl 3 rfl)) ?_
    obtain ⟨en0, en1, hsp, hen0, hen1⟩ := ex_2 hex
    have hen := hen0
    have he1 : en0.startPc = 0 := congrArg (fun z => z.1) hen
    have he2 : en0.endPc = 13 := congrArg (fun z => z.2.1) hen
    have he3 : en0.handlerPc = 16 := congrArg (fun z => z.2.2.1) hen
    have he4 : en0.catchType = 13 := congrArg (fun z => z.2.2.2) hen
    refine g_catch (nm := "java/lang/ArithmeticException") (pre := []) (x := en0) (rst := [en1]) hlo hown (g_thrV (As := [.long (lI p0), .long (lI p1), .int (iI p2)]) (rest := [.int (nI 0), .ref ao]) ⟨hx, hb, hml, hown, hts⟩ hK hZ hRc hRs (t_Mf_value1 l D cA lo MC MS G B X a S F V hC hW p0 hp01 hp02 p1 hp11 hp12 p2 hp21 hp22 hk (show X.1 + 1 ≤ MC by omega) (show X.2 + 6 ≤ MS by omega) hfl) (fun _ _ => cwV 3 hts (tb_good (tb_cons wm295 (tb_cons wm296 (tb_cons wm297 (tb_cons wm1 k_Mf_value))))) rfl rfl rfl (by decide +kernel) ⟨by rw [hRf]; exact Nat.le_of_ble_eq_true rfl, by rw [hRl]; exact Nat.le_of_ble_eq_true rfl⟩) hax rfl hB1 hB2 rfl (Nat.le_of_ble_eq_true rfl) d_La_value_8) hsp (fun y9 h9 => absurd h9 List.not_mem_nil) (by show (decide (en0.startPc ≤ 8) && decide (8 < en0.endPc)) = true; rw [he1, he2]; rfl) (by rw [he4]; decide) (by rw [he4]; exact hts _ wm293) (ca_of (hts _ wm16)) (fun v9 G9 B9 hp9 => ?_)
    cases hp9
    rw [he3]
    refine gst (pc' := 18) (L' := [(7, .ref v9), (0, .ref a.x), (1, .long (lI p0)), (3, .long (lI p1)), (5, .int (iI p2)), (6, .ref ao)]) (fun _ _ _ _ _ hl => lv_astore hx hb d_La_value_16 hl (by decide) rfl) ?_
    refine gs (pc' := 19) (fun _ _ _ _ _ hl => lv_iconst (v := nI 1) hx hb d_La_value_18 (by decide)) ?_
    exact hret 19 _ _ _ _ d_La_value_19 (show B.1 + 1 ≤ MC by omega) (show B.2 + 6 ≤ MS by omega) ⟨congrArg nI hk.symm, by rw [hS]; exact CW3_thr hC, ⟨_, hao, fun h9 => absurd (hk.symm.trans h9) (by decide)⟩, fun q9 y9 h9 _ => h9⟩
  · skip
    refine gs (pc' := 2) (fun _ _ _ _ _ hl => lv_aload hx hb d_La_value_0 (lv_at hl 4 rfl)) ?_
    refine gs (pc' := 3) (fun _ _ _ _ _ hl => lv_iconst (v := nI 0) hx hb d_La_value_2 (by decide)) ?_
    refine gs (pc' := 4) (fun _ _ _ _ _ hl => lv_aload_n hx hb d_La_value_3 rfl (lv_at hl 0 rfl)) ?_
    refine gs (pc' := 5) (fun _ _ _ _ _ hl => lv_lload_n hx hb d_La_value_4 rfl (lv_at hl 1 rfl)) ?_
    refine gs (pc' := 6) (fun _ _ _ _ _ hl => lv_lload_n hx hb d_La_value_5 rfl (lv_at hl 2 rfl)) ?_
    refine gs (pc' := 8) (fun _ _ _ _ _ hl => lv_iload hx hb d_La_value_6 (lv_at hl 3 rfl)) ?_
    obtain ⟨en0, en1, hsp, hen0, hen1⟩ := ex_2 hex
    have hen := hen1
    have he1 : en1.startPc = 0 := congrArg (fun z => z.1) hen
    have he2 : en1.endPc = 13 := congrArg (fun z => z.2.1) hen
    have he3 : en1.handlerPc = 20 := congrArg (fun z => z.2.2.1) hen
    have he4 : en1.catchType = 15 := congrArg (fun z => z.2.2.2) hen
    refine g_catch (nm := "java/lang/IllegalArgumentException") (pre := [en0]) (x := en1) (rst := []) hlo hown (g_thrV (As := [.long (lI p0), .long (lI p1), .int (iI p2)]) (rest := [.int (nI 0), .ref ao]) ⟨hx, hb, hml, hown, hts⟩ hK hZ hRc hRs (t_Mf_value2 l D cA lo MC MS G B X a S F V hC hW p0 hp01 hp02 p1 hp11 hp12 p2 hp21 hp22 hk (show X.1 + 1 ≤ MC by omega) (show X.2 + 6 ≤ MS by omega) hfl) (fun _ _ => cwV 3 hts (tb_good (tb_cons wm295 (tb_cons wm296 (tb_cons wm297 (tb_cons wm1 k_Mf_value))))) rfl rfl rfl (by decide +kernel) ⟨by rw [hRf]; exact Nat.le_of_ble_eq_true rfl, by rw [hRl]; exact Nat.le_of_ble_eq_true rfl⟩) hax rfl hB1 hB2 rfl (Nat.le_of_ble_eq_true rfl) d_La_value_8) hsp (fun y9 h9 => by
      have e9 : y9 = en0 := List.mem_singleton.mp h9
      subst e9
      have e8 : y9.catchType = 13 := congrArg (fun z => z.2.2.2) hen0
      rw [e8]
      exact ⟨by decide, _, hts _ wm293, no_of hZ (by simp [gNo])⟩) (by show (decide (en1.startPc ≤ 8) && decide (8 < en1.endPc)) = true; rw [he1, he2]; rfl) (by rw [he4]; decide) (by rw [he4]; exact hts _ wm294) (ca_of (hts _ wm17)) (fun v9 G9 B9 hp9 => ?_)
    cases hp9
    rw [he3]
    refine gst (pc' := 22) (L' := [(7, .ref v9), (0, .ref a.x), (1, .long (lI p0)), (3, .long (lI p1)), (5, .int (iI p2)), (6, .ref ao)]) (fun _ _ _ _ _ hl => lv_astore hx hb d_La_value_20 hl (by decide) rfl) ?_
    refine gs (pc' := 23) (fun _ _ _ _ _ hl => lv_iconst (v := nI 2) hx hb d_La_value_22 (by decide)) ?_
    exact hret 23 _ _ _ _ d_La_value_23 (show B.1 + 1 ≤ MC by omega) (show B.2 + 6 ≤ MS by omega) ⟨congrArg nI hk.symm, by rw [hS]; exact CW3_thr hC, ⟨_, hao, fun h9 => absurd (hk.symm.trans h9) (by decide)⟩, fun q9 y9 h9 _ => h9⟩
set_option maxHeartbeats 4000000 in
set_option maxRecDepth 100000 in
theorem c_La_add (l : Launch) (D : va_G) (cA : Nat → ClassId) (lo MC MS : Nat) (G : gT) (B : Nat × Nat) (X : Nat × Nat) (a : AX) (S : St) (F : Nat → Option Rat) (V : Nat → Nat) (hC : CW cA X a S F V (G, B)) (hW : WF S) (ao : Nat) (of : Nat → Int64) (hao : G ao = some (90, .inl (cA 1, 1, .inr (.inl of))))  (p0 : Int) (hp01 : -2147483648 ≤ p0) (hp02 : p0 < 2147483648) (p1 : Int) (hp11 : -2147483648 ≤ p1) (hp12 : p1 < 2147483648) (p2 : Int32) (hY1 : X.1 + 6 ≤ MC) (hY2 : X.2 + 209 ≤ MS) (hfl : ∀ e : Env, l.admits e → e.platform.stackTraces = false) : gMet l y_La_add w_La_add 8 213 D clS (gtys cA) lo MC MS [.ref a.x, .int (iI p0), .int (iI p1), .int p2, .ref ao] G B (gQi D clS lo (fun r u => r = nI (sp_add S (iI p0) (iI p1) (decide (p2 ≠ 0))).1 ∧ CW3 cA (X.1 + 6, X.2 + 209) a (sp_add S (iI p0) (iI p1) (decide (p2 ≠ 0))).2.2 u ∧ (∃ of1 : Nat → Int64, u.1 ao = some (90, .inl (cA 1, 1, .inr (.inl of1))) ∧ ((sp_add S (iI p0) (iI p1) (decide (p2 ≠ 0))).1 = 0 → of1 0 = (iI (sp_add S (iI p0) (iI p1) (decide (p2 ≠ 0))).2.1).toInt64)) ∧ gfr (fun x => x < 70 ∨ x = 90) G u.1)) := by
  refine g_metiW (cc := method_4_code) (nL := 6) (L := [(0, .ref a.x), (1, .int (iI p0)), (2, .int (iI p1)), (3, .int p2), (4, .ref ao)]) (by decide +kernel) rfl (Nat.le_of_ble_eq_true rfl) rfl ?_
  intro p e R s m args below meth c Q hF hRc hRs hRf hRl hex hret
  obtain ⟨hx, hb, hr, hml, hts0, hown, hlocks, hin, hK, hlo, hZ⟩ := hF
  have hts : ∀ w ∈ tbg, w.before args s = true := fun w h => hts0 w (List.mem_cons_of_mem _ h)
  have hle0 := w2_le hC.w
  have hB1 : B.1 ≤ MC := by omega
  have hB2 : B.2 ≤ MS := by omega
  have hax : G a.x = some (31, .inr (8, [.ref a.vs, .int (nI S.n), .ref a.rs, .int (nI S.rn), .ref a.ws, .ref a.ca, .ref (a.fr 0), .ref (a.fr 1), .ref (a.fr 2), .ref (a.fr 3), .ref a.zr, .ref a.fo, .ref a.ha, .ref a.si])) := hC.ob
  rcases ka_add (S := S) (p0 := iI p0) (p1 := iI p1) (p2 := decide (p2 ≠ 0)) with hk | ⟨hk, hS⟩
  · skip
    refine gs (pc' := 2) (fun _ _ _ _ _ hl => lv_aload hx hb d_La_add_0 (lv_at hl 4 rfl)) ?_
    refine gs (pc' := 3) (fun _ _ _ _ _ hl => lv_iconst (v := nI 0) hx hb d_La_add_2 (by decide)) ?_
    refine gs (pc' := 4) (fun _ _ _ _ _ hl => lv_aload_n hx hb d_La_add_3 rfl (lv_at hl 0 rfl)) ?_
    refine gs (pc' := 5) (fun _ _ _ _ _ hl => lv_iload_n hx hb d_La_add_4 rfl (lv_at hl 1 rfl)) ?_
    refine gs (pc' := 6) (fun _ _ _ _ _ hl => lv_iload_n hx hb d_La_add_5 rfl (lv_at hl 2 rfl)) ?_
    refine gs (pc' := 7) (fun _ _ _ _ _ hl => lv_iload_n hx hb d_La_add_6 rfl (lv_at hl 3 rfl)) ?_
    refine g_outi hlo (g_runV (As := [.int (iI p0), .int (iI p1), .int p2]) (rest := [.int (nI 0), .ref ao]) ⟨hx, hb, hml, hown, hts⟩ hK hZ hRc hRs (c_Mf_add l D cA lo MC MS G B X a S F V hC hW p0 hp01 hp02 p1 hp11 hp12 p2 hk hY1 hY2) (fun _ _ => cwV 3 hts (tb_good (tb_cons wm535 (tb_cons wm536 (tb_cons wm537 (tb_cons wm1 k_Mf_add))))) rfl rfl rfl (by decide +kernel) ⟨by rw [hRf]; exact Nat.le_of_ble_eq_true rfl, by rw [hRl]; exact Nat.le_of_ble_eq_true rfl⟩) hax rfl hB1 hB2 rfl (Nat.le_of_ble_eq_true rfl) d_La_add_7) (fun r_4 G_1 B_2 p_3 => ?_)
    obtain ⟨hr9, hC9, hf9⟩ := p_3
    subst hr9
    have hao9 : G_1 ao = some (90, .inl (cA 1, 1, .inr (.inl of))) := hf9 _ _ hao (show ¬ (90 : Nat) < 70 by decide)
    have hle9 := CW3_le hC9
    refine gs (pc' := 11) (fun _ _ _ _ _ hl => lv_i2l (v := (iI (sp_add S (iI p0) (iI p1) (decide (p2 ≠ 0))).2.1).toInt64) hx hb d_La_add_10 (rfl)) ?_
    refine g_last hx hb hK 1 hao9 rfl (show vp_in (nI 0) 1 from vp_in_nI (by omega) (by omega)) d_La_add_11 (fun G_5 f_6 o_7 => ?_)
    rw [nI_clamp (by omega)] at f_6
    have hfp : gfr (fun x => x = 90) G_1 G_5 := gfr_put gfr_rf hao9 rfl o_7
    refine gs (pc' := 19) (fun _ _ _ _ _ hl => lv_goto (tgt := 19) hx hb d_La_add_12 (by decide)) ?_
    refine gs (pc' := 20) (fun _ _ _ _ _ hl => lv_iconst (v := nI 0) hx hb d_La_add_19 (by decide)) ?_
    exact hret 20 _ _ _ _ d_La_add_20 (Nat.le_trans hle9.1 hY1) (Nat.le_trans hle9.2 hY2) ⟨congrArg nI hk.symm, CW3_up hC9 hfp (fun x h9 => by have h9 : x = 90 := h9; omega), ⟨_, f_6, fun _ => if_pos rfl⟩, fun q9 y9 h9 n9 => hfp q9 y9 (hf9 q9 y9 h9 (fun z => n9 (Or.inl z))) (fun z => n9 (Or.inr z))⟩
  · skip
    refine gs (pc' := 2) (fun _ _ _ _ _ hl => lv_aload hx hb d_La_add_0 (lv_at hl 4 rfl)) ?_
    refine gs (pc' := 3) (fun _ _ _ _ _ hl => lv_iconst (v := nI 0) hx hb d_La_add_2 (by decide)) ?_
    refine gs (pc' := 4) (fun _ _ _ _ _ hl => lv_aload_n hx hb d_La_add_3 rfl (lv_at hl 0 rfl)) ?_
    refine gs (pc' := 5) (fun _ _ _ _ _ hl => lv_iload_n hx hb d_La_add_4 rfl (lv_at hl 1 rfl)) ?_
    refine gs (pc' := 6) (fun _ _ _ _ _ hl => lv_iload_n hx hb d_La_add_5 rfl (lv_at hl 2 rfl)) ?_
    refine gs (pc' := 7) (fun _ _ _ _ _ hl => lv_iload_n hx hb d_La_add_6 rfl (lv_at hl 3 rfl)) ?_
    obtain ⟨en, hsp, hen⟩ := ex_1 hex
    have he1 : en.startPc = 0 := congrArg (fun z => z.1) hen
    have he2 : en.endPc = 12 := congrArg (fun z => z.2.1) hen
    have he3 : en.handlerPc = 15 := congrArg (fun z => z.2.2.1) hen
    have he4 : en.catchType = 21 := congrArg (fun z => z.2.2.2) hen
    refine g_catch (nm := "java/lang/IndexOutOfBoundsException") (pre := []) (x := en) (rst := []) hlo hown (g_thrV (As := [.int (iI p0), .int (iI p1), .int p2]) (rest := [.int (nI 0), .ref ao]) ⟨hx, hb, hml, hown, hts⟩ hK hZ hRc hRs (t_Mf_add1 l D cA lo MC MS G B X a S F V hC hW p0 hp01 hp02 p1 hp11 hp12 p2 hk (show X.1 + 1 ≤ MC by omega) (show X.2 + 6 ≤ MS by omega) hfl) (fun _ _ => cwV 3 hts (tb_good (tb_cons wm535 (tb_cons wm536 (tb_cons wm537 (tb_cons wm1 k_Mf_add))))) rfl rfl rfl (by decide +kernel) ⟨by rw [hRf]; exact Nat.le_of_ble_eq_true rfl, by rw [hRl]; exact Nat.le_of_ble_eq_true rfl⟩) hax rfl hB1 hB2 rfl (Nat.le_of_ble_eq_true rfl) d_La_add_7) hsp (fun y9 h9 => absurd h9 List.not_mem_nil) (by show (decide (en.startPc ≤ 7) && decide (7 < en.endPc)) = true; rw [he1, he2]; rfl) (by rw [he4]; decide) (by rw [he4]; exact hts _ wm534) (ca_of (hts _ wm19)) (fun v9 G9 B9 hp9 => ?_)
    cases hp9
    rw [he3]
    refine gst (pc' := 17) (L' := [(5, .ref v9), (0, .ref a.x), (1, .int (iI p0)), (2, .int (iI p1)), (3, .int p2), (4, .ref ao)]) (fun _ _ _ _ _ hl => lv_astore hx hb d_La_add_15 hl (by decide) rfl) ?_
    refine gs (pc' := 18) (fun _ _ _ _ _ hl => lv_iconst (v := nI 1) hx hb d_La_add_17 (by decide)) ?_
    exact hret 18 _ _ _ _ d_La_add_18 (show B.1 + 1 ≤ MC by omega) (show B.2 + 6 ≤ MS by omega) ⟨congrArg nI hk.symm, by rw [hS]; exact CW3_thr hC, ⟨_, hao, fun h9 => absurd (hk.symm.trans h9) (by decide)⟩, fun q9 y9 h9 _ => h9⟩
set_option maxHeartbeats 4000000 in
set_option maxRecDepth 100000 in
theorem c_La_times (l : Launch) (D : va_G) (cA : Nat → ClassId) (lo MC MS : Nat) (G : gT) (B : Nat × Nat) (X : Nat × Nat) (a : AX) (S : St) (F : Nat → Option Rat) (V : Nat → Nat) (hC : CW cA X a S F V (G, B)) (hW : WF S) (ao : Nat) (of : Nat → Int64) (hao : G ao = some (90, .inl (cA 1, 1, .inr (.inl of))))  (p0 : Int) (hp01 : -2147483648 ≤ p0) (hp02 : p0 < 2147483648) (p1 : Int) (hp11 : -2147483648 ≤ p1) (hp12 : p1 < 2147483648) (hY1 : X.1 + 6 ≤ MC) (hY2 : X.2 + 209 ≤ MS) (hfl : ∀ e : Env, l.admits e → e.platform.stackTraces = false) : gMet l y_La_times w_La_times 8 215 D clS (gtys cA) lo MC MS [.ref a.x, .int (iI p0), .int (iI p1), .ref ao] G B (gQi D clS lo (fun r u => r = nI (sp_times S (iI p0) (iI p1)).1 ∧ CW3 cA (X.1 + 6, X.2 + 209) a (sp_times S (iI p0) (iI p1)).2.2 u ∧ (∃ of1 : Nat → Int64, u.1 ao = some (90, .inl (cA 1, 1, .inr (.inl of1))) ∧ ((sp_times S (iI p0) (iI p1)).1 = 0 → of1 0 = (iI (sp_times S (iI p0) (iI p1)).2.1).toInt64)) ∧ gfr (fun x => x < 70 ∨ x = 90) G u.1)) := by
  refine g_metiW (cc := method_5_code) (nL := 5) (L := [(0, .ref a.x), (1, .int (iI p0)), (2, .int (iI p1)), (3, .ref ao)]) (by decide +kernel) rfl (Nat.le_of_ble_eq_true rfl) rfl ?_
  intro p e R s m args below meth c Q hF hRc hRs hRf hRl hex hret
  obtain ⟨hx, hb, hr, hml, hts0, hown, hlocks, hin, hK, hlo, hZ⟩ := hF
  have hts : ∀ w ∈ tbg, w.before args s = true := fun w h => hts0 w (List.mem_cons_of_mem _ h)
  have hle0 := w2_le hC.w
  have hB1 : B.1 ≤ MC := by omega
  have hB2 : B.2 ≤ MS := by omega
  have hax : G a.x = some (31, .inr (8, [.ref a.vs, .int (nI S.n), .ref a.rs, .int (nI S.rn), .ref a.ws, .ref a.ca, .ref (a.fr 0), .ref (a.fr 1), .ref (a.fr 2), .ref (a.fr 3), .ref a.zr, .ref a.fo, .ref a.ha, .ref a.si])) := hC.ob
  rcases ka_times (S := S) (p0 := iI p0) (p1 := iI p1) with hk | ⟨hk, hS⟩
  · skip
    refine gs (pc' := 1) (fun _ _ _ _ _ hl => lv_aload_n hx hb d_La_times_0 rfl (lv_at hl 3 rfl)) ?_
    refine gs (pc' := 2) (fun _ _ _ _ _ hl => lv_iconst (v := nI 0) hx hb d_La_times_1 (by decide)) ?_
    refine gs (pc' := 3) (fun _ _ _ _ _ hl => lv_aload_n hx hb d_La_times_2 rfl (lv_at hl 0 rfl)) ?_
    refine gs (pc' := 4) (fun _ _ _ _ _ hl => lv_iload_n hx hb d_La_times_3 rfl (lv_at hl 1 rfl)) ?_
    refine gs (pc' := 5) (fun _ _ _ _ _ hl => lv_iload_n hx hb d_La_times_4 rfl (lv_at hl 2 rfl)) ?_
    refine g_outi hlo (g_runV (As := [.int (iI p0), .int (iI p1)]) (rest := [.int (nI 0), .ref ao]) ⟨hx, hb, hml, hown, hts⟩ hK hZ hRc hRs (c_Mf_times l D cA lo MC MS G B X a S F V hC hW p0 hp01 hp02 p1 hp11 hp12 hk hY1 hY2) (fun _ _ => cwV 2 hts (tb_good (tb_cons wm584 (tb_cons wm585 (tb_cons wm586 (tb_cons wm1 k_Mf_times))))) rfl rfl rfl (by decide +kernel) ⟨by rw [hRf]; exact Nat.le_of_ble_eq_true rfl, by rw [hRl]; exact Nat.le_of_ble_eq_true rfl⟩) hax rfl hB1 hB2 rfl (Nat.le_of_ble_eq_true rfl) d_La_times_5) (fun r_4 G_1 B_2 p_3 => ?_)
    obtain ⟨hr9, hC9, hf9⟩ := p_3
    subst hr9
    have hao9 : G_1 ao = some (90, .inl (cA 1, 1, .inr (.inl of))) := hf9 _ _ hao (show ¬ (90 : Nat) < 70 by decide)
    have hle9 := CW3_le hC9
    refine gs (pc' := 9) (fun _ _ _ _ _ hl => lv_i2l (v := (iI (sp_times S (iI p0) (iI p1)).2.1).toInt64) hx hb d_La_times_8 (rfl)) ?_
    refine g_last hx hb hK 1 hao9 rfl (show vp_in (nI 0) 1 from vp_in_nI (by omega) (by omega)) d_La_times_9 (fun G_5 f_6 o_7 => ?_)
    rw [nI_clamp (by omega)] at f_6
    have hfp : gfr (fun x => x = 90) G_1 G_5 := gfr_put gfr_rf hao9 rfl o_7
    refine gs (pc' := 17) (fun _ _ _ _ _ hl => lv_goto (tgt := 17) hx hb d_La_times_10 (by decide)) ?_
    refine gs (pc' := 18) (fun _ _ _ _ _ hl => lv_iconst (v := nI 0) hx hb d_La_times_17 (by decide)) ?_
    exact hret 18 _ _ _ _ d_La_times_18 (Nat.le_trans hle9.1 hY1) (Nat.le_trans hle9.2 hY2) ⟨congrArg nI hk.symm, CW3_up hC9 hfp (fun x h9 => by have h9 : x = 90 := h9; omega), ⟨_, f_6, fun _ => if_pos rfl⟩, fun q9 y9 h9 n9 => hfp q9 y9 (hf9 q9 y9 h9 (fun z => n9 (Or.inl z))) (fun z => n9 (Or.inr z))⟩
  · skip
    refine gs (pc' := 1) (fun _ _ _ _ _ hl => lv_aload_n hx hb d_La_times_0 rfl (lv_at hl 3 rfl)) ?_
    refine gs (pc' := 2) (fun _ _ _ _ _ hl => lv_iconst (v := nI 0) hx hb d_La_times_1 (by decide)) ?_
    refine gs (pc' := 3) (fun _ _ _ _ _ hl => lv_aload_n hx hb d_La_times_2 rfl (lv_at hl 0 rfl)) ?_
    refine gs (pc' := 4) (fun _ _ _ _ _ hl => lv_iload_n hx hb d_La_times_3 rfl (lv_at hl 1 rfl)) ?_
    refine gs (pc' := 5) (fun _ _ _ _ _ hl => lv_iload_n hx hb d_La_times_4 rfl (lv_at hl 2 rfl)) ?_
    obtain ⟨en, hsp, hen⟩ := ex_1 hex
    have he1 : en.startPc = 0 := congrArg (fun z => z.1) hen
    have he2 : en.endPc = 10 := congrArg (fun z => z.2.1) hen
    have he3 : en.handlerPc = 13 := congrArg (fun z => z.2.2.1) hen
    have he4 : en.catchType = 21 := congrArg (fun z => z.2.2.2) hen
    refine g_catch (nm := "java/lang/IndexOutOfBoundsException") (pre := []) (x := en) (rst := []) hlo hown (g_thrV (As := [.int (iI p0), .int (iI p1)]) (rest := [.int (nI 0), .ref ao]) ⟨hx, hb, hml, hown, hts⟩ hK hZ hRc hRs (t_Mf_times1 l D cA lo MC MS G B X a S F V hC hW p0 hp01 hp02 p1 hp11 hp12 hk (show X.1 + 1 ≤ MC by omega) (show X.2 + 6 ≤ MS by omega) hfl) (fun _ _ => cwV 2 hts (tb_good (tb_cons wm584 (tb_cons wm585 (tb_cons wm586 (tb_cons wm1 k_Mf_times))))) rfl rfl rfl (by decide +kernel) ⟨by rw [hRf]; exact Nat.le_of_ble_eq_true rfl, by rw [hRl]; exact Nat.le_of_ble_eq_true rfl⟩) hax rfl hB1 hB2 rfl (Nat.le_of_ble_eq_true rfl) d_La_times_5) hsp (fun y9 h9 => absurd h9 List.not_mem_nil) (by show (decide (en.startPc ≤ 5) && decide (5 < en.endPc)) = true; rw [he1, he2]; rfl) (by rw [he4]; decide) (by rw [he4]; exact hts _ wm534) (ca_of (hts _ wm19)) (fun v9 G9 B9 hp9 => ?_)
    cases hp9
    rw [he3]
    refine gst (pc' := 15) (L' := [(4, .ref v9), (0, .ref a.x), (1, .int (iI p0)), (2, .int (iI p1)), (3, .ref ao)]) (fun _ _ _ _ _ hl => lv_astore hx hb d_La_times_13 hl (by decide) rfl) ?_
    refine gs (pc' := 16) (fun _ _ _ _ _ hl => lv_iconst (v := nI 1) hx hb d_La_times_15 (by decide)) ?_
    exact hret 16 _ _ _ _ d_La_times_16 (show B.1 + 1 ≤ MC by omega) (show B.2 + 6 ≤ MS by omega) ⟨congrArg nI hk.symm, by rw [hS]; exact CW3_thr hC, ⟨_, hao, fun h9 => absurd (hk.symm.trans h9) (by decide)⟩, fun q9 y9 h9 _ => h9⟩
set_option maxHeartbeats 4000000 in
set_option maxRecDepth 100000 in
theorem c_La_over (l : Launch) (D : va_G) (cA : Nat → ClassId) (lo MC MS : Nat) (G : gT) (B : Nat × Nat) (X : Nat × Nat) (a : AX) (S : St) (F : Nat → Option Rat) (V : Nat → Nat) (hC : CW cA X a S F V (G, B)) (hW : WF S) (ao : Nat) (of : Nat → Int64) (hao : G ao = some (90, .inl (cA 1, 1, .inr (.inl of))))  (p0 : Int) (hp01 : -2147483648 ≤ p0) (hp02 : p0 < 2147483648) (p1 : Int) (hp11 : -2147483648 ≤ p1) (hp12 : p1 < 2147483648) (hY1 : X.1 + 6 ≤ MC) (hY2 : X.2 + 209 ≤ MS) (hfl : ∀ e : Env, l.admits e → e.platform.stackTraces = false) : gMet l y_La_over w_La_over 8 215 D clS (gtys cA) lo MC MS [.ref a.x, .int (iI p0), .int (iI p1), .ref ao] G B (gQi D clS lo (fun r u => r = nI (sp_over S (iI p0) (iI p1)).1 ∧ CW3 cA (X.1 + 6, X.2 + 209) a (sp_over S (iI p0) (iI p1)).2.2 u ∧ (∃ of1 : Nat → Int64, u.1 ao = some (90, .inl (cA 1, 1, .inr (.inl of1))) ∧ ((sp_over S (iI p0) (iI p1)).1 = 0 → of1 0 = (iI (sp_over S (iI p0) (iI p1)).2.1).toInt64)) ∧ gfr (fun x => x < 70 ∨ x = 90) G u.1)) := by
  refine g_metiW (cc := method_6_code) (nL := 5) (L := [(0, .ref a.x), (1, .int (iI p0)), (2, .int (iI p1)), (3, .ref ao)]) (by decide +kernel) rfl (Nat.le_of_ble_eq_true rfl) rfl ?_
  intro p e R s m args below meth c Q hF hRc hRs hRf hRl hex hret
  obtain ⟨hx, hb, hr, hml, hts0, hown, hlocks, hin, hK, hlo, hZ⟩ := hF
  have hts : ∀ w ∈ tbg, w.before args s = true := fun w h => hts0 w (List.mem_cons_of_mem _ h)
  have hle0 := w2_le hC.w
  have hB1 : B.1 ≤ MC := by omega
  have hB2 : B.2 ≤ MS := by omega
  have hax : G a.x = some (31, .inr (8, [.ref a.vs, .int (nI S.n), .ref a.rs, .int (nI S.rn), .ref a.ws, .ref a.ca, .ref (a.fr 0), .ref (a.fr 1), .ref (a.fr 2), .ref (a.fr 3), .ref a.zr, .ref a.fo, .ref a.ha, .ref a.si])) := hC.ob
  rcases ka_over (S := S) (p0 := iI p0) (p1 := iI p1) with hk | ⟨hk, hS⟩ | ⟨hk, hS⟩
  · skip
    refine gs (pc' := 1) (fun _ _ _ _ _ hl => lv_aload_n hx hb d_La_over_0 rfl (lv_at hl 3 rfl)) ?_
    refine gs (pc' := 2) (fun _ _ _ _ _ hl => lv_iconst (v := nI 0) hx hb d_La_over_1 (by decide)) ?_
    refine gs (pc' := 3) (fun _ _ _ _ _ hl => lv_aload_n hx hb d_La_over_2 rfl (lv_at hl 0 rfl)) ?_
    refine gs (pc' := 4) (fun _ _ _ _ _ hl => lv_iload_n hx hb d_La_over_3 rfl (lv_at hl 1 rfl)) ?_
    refine gs (pc' := 5) (fun _ _ _ _ _ hl => lv_iload_n hx hb d_La_over_4 rfl (lv_at hl 2 rfl)) ?_
    refine g_outi hlo (g_runV (As := [.int (iI p0), .int (iI p1)]) (rest := [.int (nI 0), .ref ao]) ⟨hx, hb, hml, hown, hts⟩ hK hZ hRc hRs (c_Mf_over l D cA lo MC MS G B X a S F V hC hW p0 hp01 hp02 p1 hp11 hp12 hk hY1 hY2) (fun _ _ => cwV 2 hts (tb_good (tb_cons wm595 (tb_cons wm596 (tb_cons wm597 (tb_cons wm1 k_Mf_over))))) rfl rfl rfl (by decide +kernel) ⟨by rw [hRf]; exact Nat.le_of_ble_eq_true rfl, by rw [hRl]; exact Nat.le_of_ble_eq_true rfl⟩) hax rfl hB1 hB2 rfl (Nat.le_of_ble_eq_true rfl) d_La_over_5) (fun r_4 G_1 B_2 p_3 => ?_)
    obtain ⟨hr9, hC9, hf9⟩ := p_3
    subst hr9
    have hao9 : G_1 ao = some (90, .inl (cA 1, 1, .inr (.inl of))) := hf9 _ _ hao (show ¬ (90 : Nat) < 70 by decide)
    have hle9 := CW3_le hC9
    refine gs (pc' := 9) (fun _ _ _ _ _ hl => lv_i2l (v := (iI (sp_over S (iI p0) (iI p1)).2.1).toInt64) hx hb d_La_over_8 (rfl)) ?_
    refine g_last hx hb hK 1 hao9 rfl (show vp_in (nI 0) 1 from vp_in_nI (by omega) (by omega)) d_La_over_9 (fun G_5 f_6 o_7 => ?_)
    rw [nI_clamp (by omega)] at f_6
    have hfp : gfr (fun x => x = 90) G_1 G_5 := gfr_put gfr_rf hao9 rfl o_7
    refine gs (pc' := 21) (fun _ _ _ _ _ hl => lv_goto (tgt := 21) hx hb d_La_over_10 (by decide)) ?_
    refine gs (pc' := 22) (fun _ _ _ _ _ hl => lv_iconst (v := nI 0) hx hb d_La_over_21 (by decide)) ?_
    exact hret 22 _ _ _ _ d_La_over_22 (Nat.le_trans hle9.1 hY1) (Nat.le_trans hle9.2 hY2) ⟨congrArg nI hk.symm, CW3_up hC9 hfp (fun x h9 => by have h9 : x = 90 := h9; omega), ⟨_, f_6, fun _ => if_pos rfl⟩, fun q9 y9 h9 n9 => hfp q9 y9 (hf9 q9 y9 h9 (fun z => n9 (Or.inl z))) (fun z => n9 (Or.inr z))⟩
  · skip
    refine gs (pc' := 1) (fun _ _ _ _ _ hl => lv_aload_n hx hb d_La_over_0 rfl (lv_at hl 3 rfl)) ?_
    refine gs (pc' := 2) (fun _ _ _ _ _ hl => lv_iconst (v := nI 0) hx hb d_La_over_1 (by decide)) ?_
    refine gs (pc' := 3) (fun _ _ _ _ _ hl => lv_aload_n hx hb d_La_over_2 rfl (lv_at hl 0 rfl)) ?_
    refine gs (pc' := 4) (fun _ _ _ _ _ hl => lv_iload_n hx hb d_La_over_3 rfl (lv_at hl 1 rfl)) ?_
    refine gs (pc' := 5) (fun _ _ _ _ _ hl => lv_iload_n hx hb d_La_over_4 rfl (lv_at hl 2 rfl)) ?_
    obtain ⟨en0, en1, hsp, hen0, hen1⟩ := ex_2 hex
    have hen := hen0
    have he1 : en0.startPc = 0 := congrArg (fun z => z.1) hen
    have he2 : en0.endPc = 10 := congrArg (fun z => z.2.1) hen
    have he3 : en0.handlerPc = 13 := congrArg (fun z => z.2.2.1) hen
    have he4 : en0.catchType = 21 := congrArg (fun z => z.2.2.2) hen
    refine g_catch (nm := "java/lang/IndexOutOfBoundsException") (pre := []) (x := en0) (rst := [en1]) hlo hown (g_thrV (As := [.int (iI p0), .int (iI p1)]) (rest := [.int (nI 0), .ref ao]) ⟨hx, hb, hml, hown, hts⟩ hK hZ hRc hRs (t_Mf_over1 l D cA lo MC MS G B X a S F V hC hW p0 hp01 hp02 p1 hp11 hp12 hk (show X.1 + 1 ≤ MC by omega) (show X.2 + 6 ≤ MS by omega) hfl) (fun _ _ => cwV 2 hts (tb_good (tb_cons wm595 (tb_cons wm596 (tb_cons wm597 (tb_cons wm1 k_Mf_over))))) rfl rfl rfl (by decide +kernel) ⟨by rw [hRf]; exact Nat.le_of_ble_eq_true rfl, by rw [hRl]; exact Nat.le_of_ble_eq_true rfl⟩) hax rfl hB1 hB2 rfl (Nat.le_of_ble_eq_true rfl) d_La_over_5) hsp (fun y9 h9 => absurd h9 List.not_mem_nil) (by show (decide (en0.startPc ≤ 5) && decide (5 < en0.endPc)) = true; rw [he1, he2]; rfl) (by rw [he4]; decide) (by rw [he4]; exact hts _ wm534) (ca_of (hts _ wm19)) (fun v9 G9 B9 hp9 => ?_)
    cases hp9
    rw [he3]
    refine gst (pc' := 15) (L' := [(4, .ref v9), (0, .ref a.x), (1, .int (iI p0)), (2, .int (iI p1)), (3, .ref ao)]) (fun _ _ _ _ _ hl => lv_astore hx hb d_La_over_13 hl (by decide) rfl) ?_
    refine gs (pc' := 16) (fun _ _ _ _ _ hl => lv_iconst (v := nI 1) hx hb d_La_over_15 (by decide)) ?_
    exact hret 16 _ _ _ _ d_La_over_16 (show B.1 + 1 ≤ MC by omega) (show B.2 + 6 ≤ MS by omega) ⟨congrArg nI hk.symm, by rw [hS]; exact CW3_thr hC, ⟨_, hao, fun h9 => absurd (hk.symm.trans h9) (by decide)⟩, fun q9 y9 h9 _ => h9⟩
  · skip
    refine gs (pc' := 1) (fun _ _ _ _ _ hl => lv_aload_n hx hb d_La_over_0 rfl (lv_at hl 3 rfl)) ?_
    refine gs (pc' := 2) (fun _ _ _ _ _ hl => lv_iconst (v := nI 0) hx hb d_La_over_1 (by decide)) ?_
    refine gs (pc' := 3) (fun _ _ _ _ _ hl => lv_aload_n hx hb d_La_over_2 rfl (lv_at hl 0 rfl)) ?_
    refine gs (pc' := 4) (fun _ _ _ _ _ hl => lv_iload_n hx hb d_La_over_3 rfl (lv_at hl 1 rfl)) ?_
    refine gs (pc' := 5) (fun _ _ _ _ _ hl => lv_iload_n hx hb d_La_over_4 rfl (lv_at hl 2 rfl)) ?_
    obtain ⟨en0, en1, hsp, hen0, hen1⟩ := ex_2 hex
    have hen := hen1
    have he1 : en1.startPc = 0 := congrArg (fun z => z.1) hen
    have he2 : en1.endPc = 10 := congrArg (fun z => z.2.1) hen
    have he3 : en1.handlerPc = 17 := congrArg (fun z => z.2.2.1) hen
    have he4 : en1.catchType = 13 := congrArg (fun z => z.2.2.2) hen
    refine g_catch (nm := "java/lang/ArithmeticException") (pre := [en0]) (x := en1) (rst := []) hlo hown (g_thrV (As := [.int (iI p0), .int (iI p1)]) (rest := [.int (nI 0), .ref ao]) ⟨hx, hb, hml, hown, hts⟩ hK hZ hRc hRs (t_Mf_over2 l D cA lo MC MS G B X a S F V hC hW p0 hp01 hp02 p1 hp11 hp12 hk (show X.1 + 1 ≤ MC by omega) (show X.2 + 6 ≤ MS by omega) hfl) (fun _ _ => cwV 2 hts (tb_good (tb_cons wm595 (tb_cons wm596 (tb_cons wm597 (tb_cons wm1 k_Mf_over))))) rfl rfl rfl (by decide +kernel) ⟨by rw [hRf]; exact Nat.le_of_ble_eq_true rfl, by rw [hRl]; exact Nat.le_of_ble_eq_true rfl⟩) hax rfl hB1 hB2 rfl (Nat.le_of_ble_eq_true rfl) d_La_over_5) hsp (fun y9 h9 => by
      have e9 : y9 = en0 := List.mem_singleton.mp h9
      subst e9
      have e8 : y9.catchType = 21 := congrArg (fun z => z.2.2.2) hen0
      rw [e8]
      exact ⟨by decide, _, hts _ wm534, no_of hZ (by simp [gNo])⟩) (by show (decide (en1.startPc ≤ 5) && decide (5 < en1.endPc)) = true; rw [he1, he2]; rfl) (by rw [he4]; decide) (by rw [he4]; exact hts _ wm293) (ca_of (hts _ wm16)) (fun v9 G9 B9 hp9 => ?_)
    cases hp9
    rw [he3]
    refine gst (pc' := 19) (L' := [(4, .ref v9), (0, .ref a.x), (1, .int (iI p0)), (2, .int (iI p1)), (3, .ref ao)]) (fun _ _ _ _ _ hl => lv_astore hx hb d_La_over_17 hl (by decide) rfl) ?_
    refine gs (pc' := 20) (fun _ _ _ _ _ hl => lv_iconst (v := nI 2) hx hb d_La_over_19 (by decide)) ?_
    exact hret 20 _ _ _ _ d_La_over_20 (show B.1 + 1 ≤ MC by omega) (show B.2 + 6 ≤ MS by omega) ⟨congrArg nI hk.symm, by rw [hS]; exact CW3_thr hC, ⟨_, hao, fun h9 => absurd (hk.symm.trans h9) (by decide)⟩, fun q9 y9 h9 _ => h9⟩
set_option maxHeartbeats 4000000 in
set_option maxRecDepth 100000 in
theorem c_La_order (l : Launch) (D : va_G) (cA : Nat → ClassId) (lo MC MS : Nat) (G : gT) (B : Nat × Nat) (X : Nat × Nat) (a : AX) (S : St) (F : Nat → Option Rat) (V : Nat → Nat) (hC : CW cA X a S F V (G, B)) (hW : WF S) (ao : Nat) (of : Nat → Int64) (hao : G ao = some (90, .inl (cA 1, 1, .inr (.inl of))))  (p0 : Int) (hp01 : -2147483648 ≤ p0) (hp02 : p0 < 2147483648) (p1 : Int) (hp11 : -2147483648 ≤ p1) (hp12 : p1 < 2147483648) (hY1 : X.1 + 6 ≤ MC) (hY2 : X.2 + 209 ≤ MS) (hfl : ∀ e : Env, l.admits e → e.platform.stackTraces = false) : gMet l y_La_order w_La_order 8 182 D clS (gtys cA) lo MC MS [.ref a.x, .int (iI p0), .int (iI p1), .ref ao] G B (gQi D clS lo (fun r u => r = nI (sp_order S (iI p0) (iI p1)).1 ∧ CW3 cA (X.1 + 6, X.2 + 209) a (sp_order S (iI p0) (iI p1)).2.2 u ∧ (∃ of1 : Nat → Int64, u.1 ao = some (90, .inl (cA 1, 1, .inr (.inl of1))) ∧ ((sp_order S (iI p0) (iI p1)).1 = 0 → of1 0 = (iI (sp_order S (iI p0) (iI p1)).2.1).toInt64)) ∧ gfr (fun x => x < 70 ∨ x = 90) G u.1)) := by
  refine g_metiW (cc := method_7_code) (nL := 5) (L := [(0, .ref a.x), (1, .int (iI p0)), (2, .int (iI p1)), (3, .ref ao)]) (by decide +kernel) rfl (Nat.le_of_ble_eq_true rfl) rfl ?_
  intro p e R s m args below meth c Q hF hRc hRs hRf hRl hex hret
  obtain ⟨hx, hb, hr, hml, hts0, hown, hlocks, hin, hK, hlo, hZ⟩ := hF
  have hts : ∀ w ∈ tbg, w.before args s = true := fun w h => hts0 w (List.mem_cons_of_mem _ h)
  have hle0 := w2_le hC.w
  have hB1 : B.1 ≤ MC := by omega
  have hB2 : B.2 ≤ MS := by omega
  have hax : G a.x = some (31, .inr (8, [.ref a.vs, .int (nI S.n), .ref a.rs, .int (nI S.rn), .ref a.ws, .ref a.ca, .ref (a.fr 0), .ref (a.fr 1), .ref (a.fr 2), .ref (a.fr 3), .ref a.zr, .ref a.fo, .ref a.ha, .ref a.si])) := hC.ob
  rcases ka_order (S := S) (p0 := iI p0) (p1 := iI p1) with hk | ⟨hk, hS⟩
  · skip
    refine gs (pc' := 1) (fun _ _ _ _ _ hl => lv_aload_n hx hb d_La_order_0 rfl (lv_at hl 3 rfl)) ?_
    refine gs (pc' := 2) (fun _ _ _ _ _ hl => lv_iconst (v := nI 0) hx hb d_La_order_1 (by decide)) ?_
    refine gs (pc' := 3) (fun _ _ _ _ _ hl => lv_aload_n hx hb d_La_order_2 rfl (lv_at hl 0 rfl)) ?_
    refine gs (pc' := 4) (fun _ _ _ _ _ hl => lv_iload_n hx hb d_La_order_3 rfl (lv_at hl 1 rfl)) ?_
    refine gs (pc' := 5) (fun _ _ _ _ _ hl => lv_iload_n hx hb d_La_order_4 rfl (lv_at hl 2 rfl)) ?_
    refine g_outi hlo (g_runV (As := [.int (iI p0), .int (iI p1)]) (rest := [.int (nI 0), .ref ao]) ⟨hx, hb, hml, hown, hts⟩ hK hZ hRc hRs (c_Mf_order l D cA lo MC MS G B X a S F V hC hW p0 hp01 hp02 p1 hp11 hp12 hk hY1 hY2) (fun _ _ => cwV 2 hts (tb_good (tb_cons wm602 (tb_cons wm603 (tb_cons wm604 (tb_cons wm1 k_Mf_order))))) rfl rfl rfl (by decide +kernel) ⟨by rw [hRf]; exact Nat.le_of_ble_eq_true rfl, by rw [hRl]; exact Nat.le_of_ble_eq_true rfl⟩) hax rfl hB1 hB2 rfl (Nat.le_of_ble_eq_true rfl) d_La_order_5) (fun r_4 G_1 B_2 p_3 => ?_)
    obtain ⟨hr9, hC9, hf9⟩ := p_3
    subst hr9
    have hao9 : G_1 ao = some (90, .inl (cA 1, 1, .inr (.inl of))) := hf9 _ _ hao (show ¬ (90 : Nat) < 70 by decide)
    have hle9 := CW3_le hC9
    refine gs (pc' := 9) (fun _ _ _ _ _ hl => lv_i2l (v := (iI (sp_order S (iI p0) (iI p1)).2.1).toInt64) hx hb d_La_order_8 (rfl)) ?_
    refine g_last hx hb hK 1 hao9 rfl (show vp_in (nI 0) 1 from vp_in_nI (by omega) (by omega)) d_La_order_9 (fun G_5 f_6 o_7 => ?_)
    rw [nI_clamp (by omega)] at f_6
    have hfp : gfr (fun x => x = 90) G_1 G_5 := gfr_put gfr_rf hao9 rfl o_7
    refine gs (pc' := 17) (fun _ _ _ _ _ hl => lv_goto (tgt := 17) hx hb d_La_order_10 (by decide)) ?_
    refine gs (pc' := 18) (fun _ _ _ _ _ hl => lv_iconst (v := nI 0) hx hb d_La_order_17 (by decide)) ?_
    exact hret 18 _ _ _ _ d_La_order_18 (Nat.le_trans hle9.1 hY1) (Nat.le_trans hle9.2 hY2) ⟨congrArg nI hk.symm, CW3_up hC9 hfp (fun x h9 => by have h9 : x = 90 := h9; omega), ⟨_, f_6, fun _ => if_pos rfl⟩, fun q9 y9 h9 n9 => hfp q9 y9 (hf9 q9 y9 h9 (fun z => n9 (Or.inl z))) (fun z => n9 (Or.inr z))⟩
  · skip
    refine gs (pc' := 1) (fun _ _ _ _ _ hl => lv_aload_n hx hb d_La_order_0 rfl (lv_at hl 3 rfl)) ?_
    refine gs (pc' := 2) (fun _ _ _ _ _ hl => lv_iconst (v := nI 0) hx hb d_La_order_1 (by decide)) ?_
    refine gs (pc' := 3) (fun _ _ _ _ _ hl => lv_aload_n hx hb d_La_order_2 rfl (lv_at hl 0 rfl)) ?_
    refine gs (pc' := 4) (fun _ _ _ _ _ hl => lv_iload_n hx hb d_La_order_3 rfl (lv_at hl 1 rfl)) ?_
    refine gs (pc' := 5) (fun _ _ _ _ _ hl => lv_iload_n hx hb d_La_order_4 rfl (lv_at hl 2 rfl)) ?_
    obtain ⟨en, hsp, hen⟩ := ex_1 hex
    have he1 : en.startPc = 0 := congrArg (fun z => z.1) hen
    have he2 : en.endPc = 10 := congrArg (fun z => z.2.1) hen
    have he3 : en.handlerPc = 13 := congrArg (fun z => z.2.2.1) hen
    have he4 : en.catchType = 21 := congrArg (fun z => z.2.2.2) hen
    refine g_catch (nm := "java/lang/IndexOutOfBoundsException") (pre := []) (x := en) (rst := []) hlo hown (g_thrV (As := [.int (iI p0), .int (iI p1)]) (rest := [.int (nI 0), .ref ao]) ⟨hx, hb, hml, hown, hts⟩ hK hZ hRc hRs (t_Mf_order1 l D cA lo MC MS G B X a S F V hC hW p0 hp01 hp02 p1 hp11 hp12 hk (show X.1 + 1 ≤ MC by omega) (show X.2 + 6 ≤ MS by omega) hfl) (fun _ _ => cwV 2 hts (tb_good (tb_cons wm602 (tb_cons wm603 (tb_cons wm604 (tb_cons wm1 k_Mf_order))))) rfl rfl rfl (by decide +kernel) ⟨by rw [hRf]; exact Nat.le_of_ble_eq_true rfl, by rw [hRl]; exact Nat.le_of_ble_eq_true rfl⟩) hax rfl hB1 hB2 rfl (Nat.le_of_ble_eq_true rfl) d_La_order_5) hsp (fun y9 h9 => absurd h9 List.not_mem_nil) (by show (decide (en.startPc ≤ 5) && decide (5 < en.endPc)) = true; rw [he1, he2]; rfl) (by rw [he4]; decide) (by rw [he4]; exact hts _ wm534) (ca_of (hts _ wm19)) (fun v9 G9 B9 hp9 => ?_)
    cases hp9
    rw [he3]
    refine gst (pc' := 15) (L' := [(4, .ref v9), (0, .ref a.x), (1, .int (iI p0)), (2, .int (iI p1)), (3, .ref ao)]) (fun _ _ _ _ _ hl => lv_astore hx hb d_La_order_13 hl (by decide) rfl) ?_
    refine gs (pc' := 16) (fun _ _ _ _ _ hl => lv_iconst (v := nI 1) hx hb d_La_order_15 (by decide)) ?_
    exact hret 16 _ _ _ _ d_La_order_16 (show B.1 + 1 ≤ MC by omega) (show B.2 + 6 ≤ MS by omega) ⟨congrArg nI hk.symm, by rw [hS]; exact CW3_thr hC, ⟨_, hao, fun h9 => absurd (hk.symm.trans h9) (by decide)⟩, fun q9 y9 h9 _ => h9⟩
set_option maxHeartbeats 4000000 in
set_option maxRecDepth 100000 in
theorem c_La_round (l : Launch) (D : va_G) (cA : Nat → ClassId) (lo MC MS : Nat) (G : gT) (B : Nat × Nat) (X : Nat × Nat) (a : AX) (S : St) (F : Nat → Option Rat) (V : Nat → Nat) (hC : CW cA X a S F V (G, B)) (hW : WF S) (ao : Nat) (of : Nat → Int64) (hao : G ao = some (90, .inl (cA 1, 1, .inr (.inl of))))  (p0 : Int) (hp01 : -2147483648 ≤ p0) (hp02 : p0 < 2147483648) (p1 : Int) (hp11 : -2147483648 ≤ p1) (hp12 : p1 < 2147483648) (p2 : Int) (hp21 : -2147483648 ≤ p2) (hp22 : p2 < 2147483648) (hY1 : X.1 + 6 ≤ MC) (hY2 : X.2 + 209 ≤ MS) (hfl : ∀ e : Env, l.admits e → e.platform.stackTraces = false) : gMet l y_La_round w_La_round 9 235 D clS (gtys cA) lo MC MS [.ref a.x, .int (iI p0), .int (iI p1), .int (iI p2), .ref ao] G B (gQi D clS lo (fun r u => r = nI (sp_round S (iI p0) (iI p1) (iI p2)).1 ∧ CW3 cA (X.1 + 6, X.2 + 209) a (sp_round S (iI p0) (iI p1) (iI p2)).2.2 u ∧ (∃ of1 : Nat → Int64, u.1 ao = some (90, .inl (cA 1, 1, .inr (.inl of1))) ∧ ((sp_round S (iI p0) (iI p1) (iI p2)).1 = 0 → of1 0 = (iI (sp_round S (iI p0) (iI p1) (iI p2)).2.1).toInt64)) ∧ gfr (fun x => x < 70 ∨ x = 90) G u.1)) := by
  refine g_metiW (cc := method_8_code) (nL := 6) (L := [(0, .ref a.x), (1, .int (iI p0)), (2, .int (iI p1)), (3, .int (iI p2)), (4, .ref ao)]) (by decide +kernel) rfl (Nat.le_of_ble_eq_true rfl) rfl ?_
  intro p e R s m args below meth c Q hF hRc hRs hRf hRl hex hret
  obtain ⟨hx, hb, hr, hml, hts0, hown, hlocks, hin, hK, hlo, hZ⟩ := hF
  have hts : ∀ w ∈ tbg, w.before args s = true := fun w h => hts0 w (List.mem_cons_of_mem _ h)
  have hle0 := w2_le hC.w
  have hB1 : B.1 ≤ MC := by omega
  have hB2 : B.2 ≤ MS := by omega
  have hax : G a.x = some (31, .inr (8, [.ref a.vs, .int (nI S.n), .ref a.rs, .int (nI S.rn), .ref a.ws, .ref a.ca, .ref (a.fr 0), .ref (a.fr 1), .ref (a.fr 2), .ref (a.fr 3), .ref a.zr, .ref a.fo, .ref a.ha, .ref a.si])) := hC.ob
  rcases ka_round (S := S) (p0 := iI p0) (p1 := iI p1) (p2 := iI p2) with hk | ⟨hk, hS⟩ | ⟨hk, hS⟩
  · skip
    refine gs (pc' := 2) (fun _ _ _ _ _ hl => lv_aload hx hb d_La_round_0 (lv_at hl 4 rfl)) ?_
    refine gs (pc' := 3) (fun _ _ _ _ _ hl => lv_iconst (v := nI 0) hx hb d_La_round_2 (by decide)) ?_
    refine gs (pc' := 4) (fun _ _ _ _ _ hl => lv_aload_n hx hb d_La_round_3 rfl (lv_at hl 0 rfl)) ?_
    refine gs (pc' := 5) (fun _ _ _ _ _ hl => lv_iload_n hx hb d_La_round_4 rfl (lv_at hl 1 rfl)) ?_
    refine gs (pc' := 6) (fun _ _ _ _ _ hl => lv_iload_n hx hb d_La_round_5 rfl (lv_at hl 2 rfl)) ?_
    refine gs (pc' := 7) (fun _ _ _ _ _ hl => lv_iload_n hx hb d_La_round_6 rfl (lv_at hl 3 rfl)) ?_
    refine g_outi hlo (g_runV (As := [.int (iI p0), .int (iI p1), .int (iI p2)]) (rest := [.int (nI 0), .ref ao]) ⟨hx, hb, hml, hown, hts⟩ hK hZ hRc hRs (c_Mf_round l D cA lo MC MS G B X a S F V hC hW p0 hp01 hp02 p1 hp11 hp12 p2 hp21 hp22 hk hY1 hY2) (fun _ _ => cwV 3 hts (tb_good (tb_cons wm613 (tb_cons wm614 (tb_cons wm615 (tb_cons wm1 k_Mf_round))))) rfl rfl rfl (by decide +kernel) ⟨by rw [hRf]; exact Nat.le_of_ble_eq_true rfl, by rw [hRl]; exact Nat.le_of_ble_eq_true rfl⟩) hax rfl hB1 hB2 rfl (Nat.le_of_ble_eq_true rfl) d_La_round_7) (fun r_4 G_1 B_2 p_3 => ?_)
    obtain ⟨hr9, hC9, hf9⟩ := p_3
    subst hr9
    have hao9 : G_1 ao = some (90, .inl (cA 1, 1, .inr (.inl of))) := hf9 _ _ hao (show ¬ (90 : Nat) < 70 by decide)
    have hle9 := CW3_le hC9
    refine gs (pc' := 11) (fun _ _ _ _ _ hl => lv_i2l (v := (iI (sp_round S (iI p0) (iI p1) (iI p2)).2.1).toInt64) hx hb d_La_round_10 (rfl)) ?_
    refine g_last hx hb hK 1 hao9 rfl (show vp_in (nI 0) 1 from vp_in_nI (by omega) (by omega)) d_La_round_11 (fun G_5 f_6 o_7 => ?_)
    rw [nI_clamp (by omega)] at f_6
    have hfp : gfr (fun x => x = 90) G_1 G_5 := gfr_put gfr_rf hao9 rfl o_7
    refine gs (pc' := 23) (fun _ _ _ _ _ hl => lv_goto (tgt := 23) hx hb d_La_round_12 (by decide)) ?_
    refine gs (pc' := 24) (fun _ _ _ _ _ hl => lv_iconst (v := nI 0) hx hb d_La_round_23 (by decide)) ?_
    exact hret 24 _ _ _ _ d_La_round_24 (Nat.le_trans hle9.1 hY1) (Nat.le_trans hle9.2 hY2) ⟨congrArg nI hk.symm, CW3_up hC9 hfp (fun x h9 => by have h9 : x = 90 := h9; omega), ⟨_, f_6, fun _ => if_pos rfl⟩, fun q9 y9 h9 n9 => hfp q9 y9 (hf9 q9 y9 h9 (fun z => n9 (Or.inl z))) (fun z => n9 (Or.inr z))⟩
  · skip
    refine gs (pc' := 2) (fun _ _ _ _ _ hl => lv_aload hx hb d_La_round_0 (lv_at hl 4 rfl)) ?_
    refine gs (pc' := 3) (fun _ _ _ _ _ hl => lv_iconst (v := nI 0) hx hb d_La_round_2 (by decide)) ?_
    refine gs (pc' := 4) (fun _ _ _ _ _ hl => lv_aload_n hx hb d_La_round_3 rfl (lv_at hl 0 rfl)) ?_
    refine gs (pc' := 5) (fun _ _ _ _ _ hl => lv_iload_n hx hb d_La_round_4 rfl (lv_at hl 1 rfl)) ?_
    refine gs (pc' := 6) (fun _ _ _ _ _ hl => lv_iload_n hx hb d_La_round_5 rfl (lv_at hl 2 rfl)) ?_
    refine gs (pc' := 7) (fun _ _ _ _ _ hl => lv_iload_n hx hb d_La_round_6 rfl (lv_at hl 3 rfl)) ?_
    obtain ⟨en0, en1, hsp, hen0, hen1⟩ := ex_2 hex
    have hen := hen0
    have he1 : en0.startPc = 0 := congrArg (fun z => z.1) hen
    have he2 : en0.endPc = 12 := congrArg (fun z => z.2.1) hen
    have he3 : en0.handlerPc = 15 := congrArg (fun z => z.2.2.1) hen
    have he4 : en0.catchType = 21 := congrArg (fun z => z.2.2.2) hen
    refine g_catch (nm := "java/lang/IndexOutOfBoundsException") (pre := []) (x := en0) (rst := [en1]) hlo hown (g_thrV (As := [.int (iI p0), .int (iI p1), .int (iI p2)]) (rest := [.int (nI 0), .ref ao]) ⟨hx, hb, hml, hown, hts⟩ hK hZ hRc hRs (t_Mf_round1 l D cA lo MC MS G B X a S F V hC hW p0 hp01 hp02 p1 hp11 hp12 p2 hp21 hp22 hk (show X.1 + 1 ≤ MC by omega) (show X.2 + 6 ≤ MS by omega) hfl) (fun _ _ => cwV 3 hts (tb_good (tb_cons wm613 (tb_cons wm614 (tb_cons wm615 (tb_cons wm1 k_Mf_round))))) rfl rfl rfl (by decide +kernel) ⟨by rw [hRf]; exact Nat.le_of_ble_eq_true rfl, by rw [hRl]; exact Nat.le_of_ble_eq_true rfl⟩) hax rfl hB1 hB2 rfl (Nat.le_of_ble_eq_true rfl) d_La_round_7) hsp (fun y9 h9 => absurd h9 List.not_mem_nil) (by show (decide (en0.startPc ≤ 7) && decide (7 < en0.endPc)) = true; rw [he1, he2]; rfl) (by rw [he4]; decide) (by rw [he4]; exact hts _ wm534) (ca_of (hts _ wm19)) (fun v9 G9 B9 hp9 => ?_)
    cases hp9
    rw [he3]
    refine gst (pc' := 17) (L' := [(5, .ref v9), (0, .ref a.x), (1, .int (iI p0)), (2, .int (iI p1)), (3, .int (iI p2)), (4, .ref ao)]) (fun _ _ _ _ _ hl => lv_astore hx hb d_La_round_15 hl (by decide) rfl) ?_
    refine gs (pc' := 18) (fun _ _ _ _ _ hl => lv_iconst (v := nI 1) hx hb d_La_round_17 (by decide)) ?_
    exact hret 18 _ _ _ _ d_La_round_18 (show B.1 + 1 ≤ MC by omega) (show B.2 + 6 ≤ MS by omega) ⟨congrArg nI hk.symm, by rw [hS]; exact CW3_thr hC, ⟨_, hao, fun h9 => absurd (hk.symm.trans h9) (by decide)⟩, fun q9 y9 h9 _ => h9⟩
  · skip
    refine gs (pc' := 2) (fun _ _ _ _ _ hl => lv_aload hx hb d_La_round_0 (lv_at hl 4 rfl)) ?_
    refine gs (pc' := 3) (fun _ _ _ _ _ hl => lv_iconst (v := nI 0) hx hb d_La_round_2 (by decide)) ?_
    refine gs (pc' := 4) (fun _ _ _ _ _ hl => lv_aload_n hx hb d_La_round_3 rfl (lv_at hl 0 rfl)) ?_
    refine gs (pc' := 5) (fun _ _ _ _ _ hl => lv_iload_n hx hb d_La_round_4 rfl (lv_at hl 1 rfl)) ?_
    refine gs (pc' := 6) (fun _ _ _ _ _ hl => lv_iload_n hx hb d_La_round_5 rfl (lv_at hl 2 rfl)) ?_
    refine gs (pc' := 7) (fun _ _ _ _ _ hl => lv_iload_n hx hb d_La_round_6 rfl (lv_at hl 3 rfl)) ?_
    obtain ⟨en0, en1, hsp, hen0, hen1⟩ := ex_2 hex
    have hen := hen1
    have he1 : en1.startPc = 0 := congrArg (fun z => z.1) hen
    have he2 : en1.endPc = 12 := congrArg (fun z => z.2.1) hen
    have he3 : en1.handlerPc = 19 := congrArg (fun z => z.2.2.1) hen
    have he4 : en1.catchType = 15 := congrArg (fun z => z.2.2.2) hen
    refine g_catch (nm := "java/lang/IllegalArgumentException") (pre := [en0]) (x := en1) (rst := []) hlo hown (g_thrV (As := [.int (iI p0), .int (iI p1), .int (iI p2)]) (rest := [.int (nI 0), .ref ao]) ⟨hx, hb, hml, hown, hts⟩ hK hZ hRc hRs (t_Mf_round2 l D cA lo MC MS G B X a S F V hC hW p0 hp01 hp02 p1 hp11 hp12 p2 hp21 hp22 hk (show X.1 + 1 ≤ MC by omega) (show X.2 + 6 ≤ MS by omega) hfl) (fun _ _ => cwV 3 hts (tb_good (tb_cons wm613 (tb_cons wm614 (tb_cons wm615 (tb_cons wm1 k_Mf_round))))) rfl rfl rfl (by decide +kernel) ⟨by rw [hRf]; exact Nat.le_of_ble_eq_true rfl, by rw [hRl]; exact Nat.le_of_ble_eq_true rfl⟩) hax rfl hB1 hB2 rfl (Nat.le_of_ble_eq_true rfl) d_La_round_7) hsp (fun y9 h9 => by
      have e9 : y9 = en0 := List.mem_singleton.mp h9
      subst e9
      have e8 : y9.catchType = 21 := congrArg (fun z => z.2.2.2) hen0
      rw [e8]
      exact ⟨by decide, _, hts _ wm534, no_of hZ (by simp [gNo])⟩) (by show (decide (en1.startPc ≤ 7) && decide (7 < en1.endPc)) = true; rw [he1, he2]; rfl) (by rw [he4]; decide) (by rw [he4]; exact hts _ wm294) (ca_of (hts _ wm17)) (fun v9 G9 B9 hp9 => ?_)
    cases hp9
    rw [he3]
    refine gst (pc' := 21) (L' := [(5, .ref v9), (0, .ref a.x), (1, .int (iI p0)), (2, .int (iI p1)), (3, .int (iI p2)), (4, .ref ao)]) (fun _ _ _ _ _ hl => lv_astore hx hb d_La_round_19 hl (by decide) rfl) ?_
    refine gs (pc' := 22) (fun _ _ _ _ _ hl => lv_iconst (v := nI 2) hx hb d_La_round_21 (by decide)) ?_
    exact hret 22 _ _ _ _ d_La_round_22 (show B.1 + 1 ≤ MC by omega) (show B.2 + 6 ≤ MS by omega) ⟨congrArg nI hk.symm, by rw [hS]; exact CW3_thr hC, ⟨_, hao, fun h9 => absurd (hk.symm.trans h9) (by decide)⟩, fun q9 y9 h9 _ => h9⟩
set_option maxHeartbeats 4000000 in
set_option maxRecDepth 100000 in
theorem c_La_prism (l : Launch) (D : va_G) (cA : Nat → ClassId) (lo MC MS : Nat) (G : gT) (B : Nat × Nat) (X : Nat × Nat) (a : AX) (S : St) (F : Nat → Option Rat) (V : Nat → Nat) (hC : CW cA X a S F V (G, B)) (hW : WF S) (ao : Nat) (of : Nat → Int64) (hao : G ao = some (90, .inl (cA 1, 1, .inr (.inl of))))  (p0 : Int) (hp01 : -2147483648 ≤ p0) (hp02 : p0 < 2147483648) (p1 : Int) (hp11 : -2147483648 ≤ p1) (hp12 : p1 < 2147483648) (p2 : Int) (hp21 : -2147483648 ≤ p2) (hp22 : p2 < 2147483648) (p3 : Int) (hp31 : -2147483648 ≤ p3) (hp32 : p3 < 2147483648) (hY1 : X.1 + 6 ≤ MC) (hY2 : X.2 + 209 ≤ MS) (hfl : ∀ e : Env, l.admits e → e.platform.stackTraces = false) : gMet l y_La_prism w_La_prism 8 219 D clS (gtys cA) lo MC MS [.ref a.x, .int (iI p0), .int (iI p1), .int (iI p2), .int (iI p3), .ref ao] G B (gQi D clS lo (fun r u => r = nI (sp_prism S (iI p0) (iI p1) (iI p2) (iI p3)).1 ∧ CW3 cA (X.1 + 6, X.2 + 209) a (sp_prism S (iI p0) (iI p1) (iI p2) (iI p3)).2.2 u ∧ (∃ of1 : Nat → Int64, u.1 ao = some (90, .inl (cA 1, 1, .inr (.inl of1))) ∧ ((sp_prism S (iI p0) (iI p1) (iI p2) (iI p3)).1 = 0 → of1 0 = (iI (sp_prism S (iI p0) (iI p1) (iI p2) (iI p3)).2.1).toInt64)) ∧ gfr (fun x => x < 70 ∨ x = 90) G u.1)) := by
  refine g_metiW (cc := method_9_code) (nL := 7) (L := [(0, .ref a.x), (1, .int (iI p0)), (2, .int (iI p1)), (3, .int (iI p2)), (4, .int (iI p3)), (5, .ref ao)]) (by decide +kernel) rfl (Nat.le_of_ble_eq_true rfl) rfl ?_
  intro p e R s m args below meth c Q hF hRc hRs hRf hRl hex hret
  obtain ⟨hx, hb, hr, hml, hts0, hown, hlocks, hin, hK, hlo, hZ⟩ := hF
  have hts : ∀ w ∈ tbg, w.before args s = true := fun w h => hts0 w (List.mem_cons_of_mem _ h)
  have hle0 := w2_le hC.w
  have hB1 : B.1 ≤ MC := by omega
  have hB2 : B.2 ≤ MS := by omega
  have hax : G a.x = some (31, .inr (8, [.ref a.vs, .int (nI S.n), .ref a.rs, .int (nI S.rn), .ref a.ws, .ref a.ca, .ref (a.fr 0), .ref (a.fr 1), .ref (a.fr 2), .ref (a.fr 3), .ref a.zr, .ref a.fo, .ref a.ha, .ref a.si])) := hC.ob
  rcases ka_prism (S := S) (p0 := iI p0) (p1 := iI p1) (p2 := iI p2) (p3 := iI p3) with hk | ⟨hk, hS⟩
  · skip
    refine gs (pc' := 2) (fun _ _ _ _ _ hl => lv_aload hx hb d_La_prism_0 (lv_at hl 5 rfl)) ?_
    refine gs (pc' := 3) (fun _ _ _ _ _ hl => lv_iconst (v := nI 0) hx hb d_La_prism_2 (by decide)) ?_
    refine gs (pc' := 4) (fun _ _ _ _ _ hl => lv_aload_n hx hb d_La_prism_3 rfl (lv_at hl 0 rfl)) ?_
    refine gs (pc' := 5) (fun _ _ _ _ _ hl => lv_iload_n hx hb d_La_prism_4 rfl (lv_at hl 1 rfl)) ?_
    refine gs (pc' := 6) (fun _ _ _ _ _ hl => lv_iload_n hx hb d_La_prism_5 rfl (lv_at hl 2 rfl)) ?_
    refine gs (pc' := 7) (fun _ _ _ _ _ hl => lv_iload_n hx hb d_La_prism_6 rfl (lv_at hl 3 rfl)) ?_
    refine gs (pc' := 9) (fun _ _ _ _ _ hl => lv_iload hx hb d_La_prism_7 (lv_at hl 4 rfl)) ?_
    refine g_outi hlo (g_runV (As := [.int (iI p0), .int (iI p1), .int (iI p2), .int (iI p3)]) (rest := [.int (nI 0), .ref ao]) ⟨hx, hb, hml, hown, hts⟩ hK hZ hRc hRs (c_Mf_prism l D cA lo MC MS G B X a S F V hC hW p0 hp01 hp02 p1 hp11 hp12 p2 hp21 hp22 p3 hp31 hp32 hk hY1 hY2) (fun _ _ => cwV 4 hts (tb_good (tb_cons wm639 (tb_cons wm640 (tb_cons wm641 (tb_cons wm1 k_Mf_prism))))) rfl rfl rfl (by decide +kernel) ⟨by rw [hRf]; exact Nat.le_of_ble_eq_true rfl, by rw [hRl]; exact Nat.le_of_ble_eq_true rfl⟩) hax rfl hB1 hB2 rfl (Nat.le_of_ble_eq_true rfl) d_La_prism_9) (fun r_4 G_1 B_2 p_3 => ?_)
    obtain ⟨hr9, hC9, hf9⟩ := p_3
    subst hr9
    have hao9 : G_1 ao = some (90, .inl (cA 1, 1, .inr (.inl of))) := hf9 _ _ hao (show ¬ (90 : Nat) < 70 by decide)
    have hle9 := CW3_le hC9
    refine gs (pc' := 13) (fun _ _ _ _ _ hl => lv_i2l (v := (iI (sp_prism S (iI p0) (iI p1) (iI p2) (iI p3)).2.1).toInt64) hx hb d_La_prism_12 (rfl)) ?_
    refine g_last hx hb hK 1 hao9 rfl (show vp_in (nI 0) 1 from vp_in_nI (by omega) (by omega)) d_La_prism_13 (fun G_5 f_6 o_7 => ?_)
    rw [nI_clamp (by omega)] at f_6
    have hfp : gfr (fun x => x = 90) G_1 G_5 := gfr_put gfr_rf hao9 rfl o_7
    refine gs (pc' := 21) (fun _ _ _ _ _ hl => lv_goto (tgt := 21) hx hb d_La_prism_14 (by decide)) ?_
    refine gs (pc' := 22) (fun _ _ _ _ _ hl => lv_iconst (v := nI 0) hx hb d_La_prism_21 (by decide)) ?_
    exact hret 22 _ _ _ _ d_La_prism_22 (Nat.le_trans hle9.1 hY1) (Nat.le_trans hle9.2 hY2) ⟨congrArg nI hk.symm, CW3_up hC9 hfp (fun x h9 => by have h9 : x = 90 := h9; omega), ⟨_, f_6, fun _ => if_pos rfl⟩, fun q9 y9 h9 n9 => hfp q9 y9 (hf9 q9 y9 h9 (fun z => n9 (Or.inl z))) (fun z => n9 (Or.inr z))⟩
  · skip
    refine gs (pc' := 2) (fun _ _ _ _ _ hl => lv_aload hx hb d_La_prism_0 (lv_at hl 5 rfl)) ?_
    refine gs (pc' := 3) (fun _ _ _ _ _ hl => lv_iconst (v := nI 0) hx hb d_La_prism_2 (by decide)) ?_
    refine gs (pc' := 4) (fun _ _ _ _ _ hl => lv_aload_n hx hb d_La_prism_3 rfl (lv_at hl 0 rfl)) ?_
    refine gs (pc' := 5) (fun _ _ _ _ _ hl => lv_iload_n hx hb d_La_prism_4 rfl (lv_at hl 1 rfl)) ?_
    refine gs (pc' := 6) (fun _ _ _ _ _ hl => lv_iload_n hx hb d_La_prism_5 rfl (lv_at hl 2 rfl)) ?_
    refine gs (pc' := 7) (fun _ _ _ _ _ hl => lv_iload_n hx hb d_La_prism_6 rfl (lv_at hl 3 rfl)) ?_
    refine gs (pc' := 9) (fun _ _ _ _ _ hl => lv_iload hx hb d_La_prism_7 (lv_at hl 4 rfl)) ?_
    obtain ⟨en, hsp, hen⟩ := ex_1 hex
    have he1 : en.startPc = 0 := congrArg (fun z => z.1) hen
    have he2 : en.endPc = 14 := congrArg (fun z => z.2.1) hen
    have he3 : en.handlerPc = 17 := congrArg (fun z => z.2.2.1) hen
    have he4 : en.catchType = 21 := congrArg (fun z => z.2.2.2) hen
    refine g_catch (nm := "java/lang/IndexOutOfBoundsException") (pre := []) (x := en) (rst := []) hlo hown (g_thrV (As := [.int (iI p0), .int (iI p1), .int (iI p2), .int (iI p3)]) (rest := [.int (nI 0), .ref ao]) ⟨hx, hb, hml, hown, hts⟩ hK hZ hRc hRs (t_Mf_prism1 l D cA lo MC MS G B X a S F V hC hW p0 hp01 hp02 p1 hp11 hp12 p2 hp21 hp22 p3 hp31 hp32 hk (show X.1 + 1 ≤ MC by omega) (show X.2 + 6 ≤ MS by omega) hfl) (fun _ _ => cwV 4 hts (tb_good (tb_cons wm639 (tb_cons wm640 (tb_cons wm641 (tb_cons wm1 k_Mf_prism))))) rfl rfl rfl (by decide +kernel) ⟨by rw [hRf]; exact Nat.le_of_ble_eq_true rfl, by rw [hRl]; exact Nat.le_of_ble_eq_true rfl⟩) hax rfl hB1 hB2 rfl (Nat.le_of_ble_eq_true rfl) d_La_prism_9) hsp (fun y9 h9 => absurd h9 List.not_mem_nil) (by show (decide (en.startPc ≤ 9) && decide (9 < en.endPc)) = true; rw [he1, he2]; rfl) (by rw [he4]; decide) (by rw [he4]; exact hts _ wm534) (ca_of (hts _ wm19)) (fun v9 G9 B9 hp9 => ?_)
    cases hp9
    rw [he3]
    refine gst (pc' := 19) (L' := [(6, .ref v9), (0, .ref a.x), (1, .int (iI p0)), (2, .int (iI p1)), (3, .int (iI p2)), (4, .int (iI p3)), (5, .ref ao)]) (fun _ _ _ _ _ hl => lv_astore hx hb d_La_prism_17 hl (by decide) rfl) ?_
    refine gs (pc' := 20) (fun _ _ _ _ _ hl => lv_iconst (v := nI 1) hx hb d_La_prism_19 (by decide)) ?_
    exact hret 20 _ _ _ _ d_La_prism_20 (show B.1 + 1 ≤ MC by omega) (show B.2 + 6 ≤ MS by omega) ⟨congrArg nI hk.symm, by rw [hS]; exact CW3_thr hC, ⟨_, hao, fun h9 => absurd (hk.symm.trans h9) (by decide)⟩, fun q9 y9 h9 _ => h9⟩
set_option maxHeartbeats 4000000 in
set_option maxRecDepth 100000 in
theorem c_La_told (l : Launch) (D : va_G) (cA : Nat → ClassId) (lo MC MS : Nat) (G : gT) (B : Nat × Nat) (X : Nat × Nat) (a : AX) (S : St) (F : Nat → Option Rat) (V : Nat → Nat) (hC : CW cA X a S F V (G, B)) (hW : WF S) (ao : Nat) (of : Nat → Int64) (hao : G ao = some (90, .inl (cA 1, 1, .inr (.inl of))))  (p0 : Int) (hp01 : -2147483648 ≤ p0) (hp02 : p0 < 2147483648) (p1 : Int) (hp11 : -2147483648 ≤ p1) (hp12 : p1 < 2147483648) (hY1 : X.1 + 6 ≤ MC) (hY2 : X.2 + 209 ≤ MS) (hfl : ∀ e : Env, l.admits e → e.platform.stackTraces = false) : gMet l y_La_told w_La_told 8 134 D clS (gtys cA) lo MC MS [.ref a.x, .int (iI p0), .int (iI p1), .ref ao] G B (gQi D clS lo (fun r u => r = nI (sp_told S (iI p0) (iI p1)).1 ∧ CW3 cA (X.1 + 6, X.2 + 209) a (sp_told S (iI p0) (iI p1)).2.2 u ∧ (∃ of1 : Nat → Int64, u.1 ao = some (90, .inl (cA 1, 1, .inr (.inl of1))) ∧ ((sp_told S (iI p0) (iI p1)).1 = 0 → of1 0 = (iI (sp_told S (iI p0) (iI p1)).2.1).toInt64)) ∧ gfr (fun x => x < 70 ∨ x = 90) G u.1)) := by
  refine g_metiW (cc := method_10_code) (nL := 5) (L := [(0, .ref a.x), (1, .int (iI p0)), (2, .int (iI p1)), (3, .ref ao)]) (by decide +kernel) rfl (Nat.le_of_ble_eq_true rfl) rfl ?_
  intro p e R s m args below meth c Q hF hRc hRs hRf hRl hex hret
  obtain ⟨hx, hb, hr, hml, hts0, hown, hlocks, hin, hK, hlo, hZ⟩ := hF
  have hts : ∀ w ∈ tbg, w.before args s = true := fun w h => hts0 w (List.mem_cons_of_mem _ h)
  have hle0 := w2_le hC.w
  have hB1 : B.1 ≤ MC := by omega
  have hB2 : B.2 ≤ MS := by omega
  have hax : G a.x = some (31, .inr (8, [.ref a.vs, .int (nI S.n), .ref a.rs, .int (nI S.rn), .ref a.ws, .ref a.ca, .ref (a.fr 0), .ref (a.fr 1), .ref (a.fr 2), .ref (a.fr 3), .ref a.zr, .ref a.fo, .ref a.ha, .ref a.si])) := hC.ob
  rcases ka_told (S := S) (p0 := iI p0) (p1 := iI p1) with hk | ⟨hk, hS⟩ | ⟨hk, hS⟩
  · skip
    refine gs (pc' := 1) (fun _ _ _ _ _ hl => lv_aload_n hx hb d_La_told_0 rfl (lv_at hl 3 rfl)) ?_
    refine gs (pc' := 2) (fun _ _ _ _ _ hl => lv_iconst (v := nI 0) hx hb d_La_told_1 (by decide)) ?_
    refine gs (pc' := 3) (fun _ _ _ _ _ hl => lv_aload_n hx hb d_La_told_2 rfl (lv_at hl 0 rfl)) ?_
    refine gs (pc' := 4) (fun _ _ _ _ _ hl => lv_iload_n hx hb d_La_told_3 rfl (lv_at hl 1 rfl)) ?_
    refine gs (pc' := 5) (fun _ _ _ _ _ hl => lv_iload_n hx hb d_La_told_4 rfl (lv_at hl 2 rfl)) ?_
    refine g_outi hlo (g_runV (As := [.int (iI p0), .int (iI p1)]) (rest := [.int (nI 0), .ref ao]) ⟨hx, hb, hml, hown, hts⟩ hK hZ hRc hRs (c_Mf_told l D cA lo MC MS G B X a S F V hC hW p0 hp01 hp02 p1 hp11 hp12 hk hY1 hY2) (fun _ _ => cwV 2 hts (tb_good (tb_cons wm646 (tb_cons wm647 (tb_cons wm648 (tb_cons wm1 k_Mf_told))))) rfl rfl rfl (by decide +kernel) ⟨by rw [hRf]; exact Nat.le_of_ble_eq_true rfl, by rw [hRl]; exact Nat.le_of_ble_eq_true rfl⟩) hax rfl hB1 hB2 rfl (Nat.le_of_ble_eq_true rfl) d_La_told_5) (fun r_4 G_1 B_2 p_3 => ?_)
    obtain ⟨hr9, hC9, hf9⟩ := p_3
    subst hr9
    have hao9 : G_1 ao = some (90, .inl (cA 1, 1, .inr (.inl of))) := hf9 _ _ hao (show ¬ (90 : Nat) < 70 by decide)
    have hle9 := CW3_le hC9
    refine gs (pc' := 9) (fun _ _ _ _ _ hl => lv_i2l (v := (iI (sp_told S (iI p0) (iI p1)).2.1).toInt64) hx hb d_La_told_8 (rfl)) ?_
    refine g_last hx hb hK 1 hao9 rfl (show vp_in (nI 0) 1 from vp_in_nI (by omega) (by omega)) d_La_told_9 (fun G_5 f_6 o_7 => ?_)
    rw [nI_clamp (by omega)] at f_6
    have hfp : gfr (fun x => x = 90) G_1 G_5 := gfr_put gfr_rf hao9 rfl o_7
    refine gs (pc' := 21) (fun _ _ _ _ _ hl => lv_goto (tgt := 21) hx hb d_La_told_10 (by decide)) ?_
    refine gs (pc' := 22) (fun _ _ _ _ _ hl => lv_iconst (v := nI 0) hx hb d_La_told_21 (by decide)) ?_
    exact hret 22 _ _ _ _ d_La_told_22 (Nat.le_trans hle9.1 hY1) (Nat.le_trans hle9.2 hY2) ⟨congrArg nI hk.symm, CW3_up hC9 hfp (fun x h9 => by have h9 : x = 90 := h9; omega), ⟨_, f_6, fun _ => if_pos rfl⟩, fun q9 y9 h9 n9 => hfp q9 y9 (hf9 q9 y9 h9 (fun z => n9 (Or.inl z))) (fun z => n9 (Or.inr z))⟩
  · skip
    refine gs (pc' := 1) (fun _ _ _ _ _ hl => lv_aload_n hx hb d_La_told_0 rfl (lv_at hl 3 rfl)) ?_
    refine gs (pc' := 2) (fun _ _ _ _ _ hl => lv_iconst (v := nI 0) hx hb d_La_told_1 (by decide)) ?_
    refine gs (pc' := 3) (fun _ _ _ _ _ hl => lv_aload_n hx hb d_La_told_2 rfl (lv_at hl 0 rfl)) ?_
    refine gs (pc' := 4) (fun _ _ _ _ _ hl => lv_iload_n hx hb d_La_told_3 rfl (lv_at hl 1 rfl)) ?_
    refine gs (pc' := 5) (fun _ _ _ _ _ hl => lv_iload_n hx hb d_La_told_4 rfl (lv_at hl 2 rfl)) ?_
    obtain ⟨en0, en1, hsp, hen0, hen1⟩ := ex_2 hex
    have hen := hen0
    have he1 : en0.startPc = 0 := congrArg (fun z => z.1) hen
    have he2 : en0.endPc = 10 := congrArg (fun z => z.2.1) hen
    have he3 : en0.handlerPc = 13 := congrArg (fun z => z.2.2.1) hen
    have he4 : en0.catchType = 21 := congrArg (fun z => z.2.2.2) hen
    refine g_catch (nm := "java/lang/IndexOutOfBoundsException") (pre := []) (x := en0) (rst := [en1]) hlo hown (g_thrV (As := [.int (iI p0), .int (iI p1)]) (rest := [.int (nI 0), .ref ao]) ⟨hx, hb, hml, hown, hts⟩ hK hZ hRc hRs (t_Mf_told1 l D cA lo MC MS G B X a S F V hC hW p0 hp01 hp02 p1 hp11 hp12 hk (show X.1 + 1 ≤ MC by omega) (show X.2 + 6 ≤ MS by omega) hfl) (fun _ _ => cwV 2 hts (tb_good (tb_cons wm646 (tb_cons wm647 (tb_cons wm648 (tb_cons wm1 k_Mf_told))))) rfl rfl rfl (by decide +kernel) ⟨by rw [hRf]; exact Nat.le_of_ble_eq_true rfl, by rw [hRl]; exact Nat.le_of_ble_eq_true rfl⟩) hax rfl hB1 hB2 rfl (Nat.le_of_ble_eq_true rfl) d_La_told_5) hsp (fun y9 h9 => absurd h9 List.not_mem_nil) (by show (decide (en0.startPc ≤ 5) && decide (5 < en0.endPc)) = true; rw [he1, he2]; rfl) (by rw [he4]; decide) (by rw [he4]; exact hts _ wm534) (ca_of (hts _ wm19)) (fun v9 G9 B9 hp9 => ?_)
    cases hp9
    rw [he3]
    refine gst (pc' := 15) (L' := [(4, .ref v9), (0, .ref a.x), (1, .int (iI p0)), (2, .int (iI p1)), (3, .ref ao)]) (fun _ _ _ _ _ hl => lv_astore hx hb d_La_told_13 hl (by decide) rfl) ?_
    refine gs (pc' := 16) (fun _ _ _ _ _ hl => lv_iconst (v := nI 1) hx hb d_La_told_15 (by decide)) ?_
    exact hret 16 _ _ _ _ d_La_told_16 (show B.1 + 1 ≤ MC by omega) (show B.2 + 6 ≤ MS by omega) ⟨congrArg nI hk.symm, by rw [hS]; exact CW3_thr hC, ⟨_, hao, fun h9 => absurd (hk.symm.trans h9) (by decide)⟩, fun q9 y9 h9 _ => h9⟩
  · skip
    refine gs (pc' := 1) (fun _ _ _ _ _ hl => lv_aload_n hx hb d_La_told_0 rfl (lv_at hl 3 rfl)) ?_
    refine gs (pc' := 2) (fun _ _ _ _ _ hl => lv_iconst (v := nI 0) hx hb d_La_told_1 (by decide)) ?_
    refine gs (pc' := 3) (fun _ _ _ _ _ hl => lv_aload_n hx hb d_La_told_2 rfl (lv_at hl 0 rfl)) ?_
    refine gs (pc' := 4) (fun _ _ _ _ _ hl => lv_iload_n hx hb d_La_told_3 rfl (lv_at hl 1 rfl)) ?_
    refine gs (pc' := 5) (fun _ _ _ _ _ hl => lv_iload_n hx hb d_La_told_4 rfl (lv_at hl 2 rfl)) ?_
    obtain ⟨en0, en1, hsp, hen0, hen1⟩ := ex_2 hex
    have hen := hen1
    have he1 : en1.startPc = 0 := congrArg (fun z => z.1) hen
    have he2 : en1.endPc = 10 := congrArg (fun z => z.2.1) hen
    have he3 : en1.handlerPc = 17 := congrArg (fun z => z.2.2.1) hen
    have he4 : en1.catchType = 15 := congrArg (fun z => z.2.2.2) hen
    refine g_catch (nm := "java/lang/IllegalArgumentException") (pre := [en0]) (x := en1) (rst := []) hlo hown (g_thrV (As := [.int (iI p0), .int (iI p1)]) (rest := [.int (nI 0), .ref ao]) ⟨hx, hb, hml, hown, hts⟩ hK hZ hRc hRs (t_Mf_told2 l D cA lo MC MS G B X a S F V hC hW p0 hp01 hp02 p1 hp11 hp12 hk (show X.1 + 1 ≤ MC by omega) (show X.2 + 6 ≤ MS by omega) hfl) (fun _ _ => cwV 2 hts (tb_good (tb_cons wm646 (tb_cons wm647 (tb_cons wm648 (tb_cons wm1 k_Mf_told))))) rfl rfl rfl (by decide +kernel) ⟨by rw [hRf]; exact Nat.le_of_ble_eq_true rfl, by rw [hRl]; exact Nat.le_of_ble_eq_true rfl⟩) hax rfl hB1 hB2 rfl (Nat.le_of_ble_eq_true rfl) d_La_told_5) hsp (fun y9 h9 => by
      have e9 : y9 = en0 := List.mem_singleton.mp h9
      subst e9
      have e8 : y9.catchType = 21 := congrArg (fun z => z.2.2.2) hen0
      rw [e8]
      exact ⟨by decide, _, hts _ wm534, no_of hZ (by simp [gNo])⟩) (by show (decide (en1.startPc ≤ 5) && decide (5 < en1.endPc)) = true; rw [he1, he2]; rfl) (by rw [he4]; decide) (by rw [he4]; exact hts _ wm294) (ca_of (hts _ wm17)) (fun v9 G9 B9 hp9 => ?_)
    cases hp9
    rw [he3]
    refine gst (pc' := 19) (L' := [(4, .ref v9), (0, .ref a.x), (1, .int (iI p0)), (2, .int (iI p1)), (3, .ref ao)]) (fun _ _ _ _ _ hl => lv_astore hx hb d_La_told_17 hl (by decide) rfl) ?_
    refine gs (pc' := 20) (fun _ _ _ _ _ hl => lv_iconst (v := nI 2) hx hb d_La_told_19 (by decide)) ?_
    exact hret 20 _ _ _ _ d_La_told_20 (show B.1 + 1 ≤ MC by omega) (show B.2 + 6 ≤ MS by omega) ⟨congrArg nI hk.symm, by rw [hS]; exact CW3_thr hC, ⟨_, hao, fun h9 => absurd (hk.symm.trans h9) (by decide)⟩, fun q9 y9 h9 _ => h9⟩
set_option maxHeartbeats 4000000 in
set_option maxRecDepth 100000 in
theorem c_La_digit (l : Launch) (D : va_G) (cA : Nat → ClassId) (lo MC MS : Nat) (G : gT) (B : Nat × Nat) (X : Nat × Nat) (a : AX) (S : St) (F : Nat → Option Rat) (V : Nat → Nat) (hC : CW cA X a S F V (G, B)) (hW : WF S) (ao : Nat) (of : Nat → Int64) (hao : G ao = some (90, .inl (cA 1, 1, .inr (.inl of))))  (p0 : Int) (hp01 : -2147483648 ≤ p0) (hp02 : p0 < 2147483648) (p1 : Int) (hp11 : -2147483648 ≤ p1) (hp12 : p1 < 2147483648) (p2 : Int) (hp21 : -2147483648 ≤ p2) (hp22 : p2 < 2147483648) (hY1 : X.1 + 6 ≤ MC) (hY2 : X.2 + 209 ≤ MS) (hfl : ∀ e : Env, l.admits e → e.platform.stackTraces = false) : gMet l y_La_digit w_La_digit 8 136 D clS (gtys cA) lo MC MS [.ref a.x, .int (iI p0), .int (iI p1), .int (iI p2), .ref ao] G B (gQi D clS lo (fun r u => r = nI (sp_digit S (iI p0) (iI p1) (iI p2)).1 ∧ CW3 cA (X.1 + 6, X.2 + 209) a (sp_digit S (iI p0) (iI p1) (iI p2)).2.2 u ∧ (∃ of1 : Nat → Int64, u.1 ao = some (90, .inl (cA 1, 1, .inr (.inl of1))) ∧ ((sp_digit S (iI p0) (iI p1) (iI p2)).1 = 0 → of1 0 = (iI (sp_digit S (iI p0) (iI p1) (iI p2)).2.1).toInt64)) ∧ gfr (fun x => x < 70 ∨ x = 90) G u.1)) := by
  refine g_metiW (cc := method_11_code) (nL := 6) (L := [(0, .ref a.x), (1, .int (iI p0)), (2, .int (iI p1)), (3, .int (iI p2)), (4, .ref ao)]) (by decide +kernel) rfl (Nat.le_of_ble_eq_true rfl) rfl ?_
  intro p e R s m args below meth c Q hF hRc hRs hRf hRl hex hret
  obtain ⟨hx, hb, hr, hml, hts0, hown, hlocks, hin, hK, hlo, hZ⟩ := hF
  have hts : ∀ w ∈ tbg, w.before args s = true := fun w h => hts0 w (List.mem_cons_of_mem _ h)
  have hle0 := w2_le hC.w
  have hB1 : B.1 ≤ MC := by omega
  have hB2 : B.2 ≤ MS := by omega
  have hax : G a.x = some (31, .inr (8, [.ref a.vs, .int (nI S.n), .ref a.rs, .int (nI S.rn), .ref a.ws, .ref a.ca, .ref (a.fr 0), .ref (a.fr 1), .ref (a.fr 2), .ref (a.fr 3), .ref a.zr, .ref a.fo, .ref a.ha, .ref a.si])) := hC.ob
  rcases ka_digit (S := S) (p0 := iI p0) (p1 := iI p1) (p2 := iI p2) with hk | ⟨hk, hS⟩ | ⟨hk, hS⟩
  · skip
    refine gs (pc' := 2) (fun _ _ _ _ _ hl => lv_aload hx hb d_La_digit_0 (lv_at hl 4 rfl)) ?_
    refine gs (pc' := 3) (fun _ _ _ _ _ hl => lv_iconst (v := nI 0) hx hb d_La_digit_2 (by decide)) ?_
    refine gs (pc' := 4) (fun _ _ _ _ _ hl => lv_aload_n hx hb d_La_digit_3 rfl (lv_at hl 0 rfl)) ?_
    refine gs (pc' := 5) (fun _ _ _ _ _ hl => lv_iload_n hx hb d_La_digit_4 rfl (lv_at hl 1 rfl)) ?_
    refine gs (pc' := 6) (fun _ _ _ _ _ hl => lv_iload_n hx hb d_La_digit_5 rfl (lv_at hl 2 rfl)) ?_
    refine gs (pc' := 7) (fun _ _ _ _ _ hl => lv_iload_n hx hb d_La_digit_6 rfl (lv_at hl 3 rfl)) ?_
    refine g_outi hlo (g_runV (As := [.int (iI p0), .int (iI p1), .int (iI p2)]) (rest := [.int (nI 0), .ref ao]) ⟨hx, hb, hml, hown, hts⟩ hK hZ hRc hRs (c_Mf_digit l D cA lo MC MS G B X a S F V hC hW p0 hp01 hp02 p1 hp11 hp12 p2 hp21 hp22 hk hY1 hY2) (fun _ _ => cwV 3 hts (tb_good (tb_cons wm655 (tb_cons wm656 (tb_cons wm657 (tb_cons wm1 k_Mf_digit))))) rfl rfl rfl (by decide +kernel) ⟨by rw [hRf]; exact Nat.le_of_ble_eq_true rfl, by rw [hRl]; exact Nat.le_of_ble_eq_true rfl⟩) hax rfl hB1 hB2 rfl (Nat.le_of_ble_eq_true rfl) d_La_digit_7) (fun r_4 G_1 B_2 p_3 => ?_)
    obtain ⟨hr9, hC9, hf9⟩ := p_3
    subst hr9
    have hao9 : G_1 ao = some (90, .inl (cA 1, 1, .inr (.inl of))) := hf9 _ _ hao (show ¬ (90 : Nat) < 70 by decide)
    have hle9 := CW3_le hC9
    refine gs (pc' := 11) (fun _ _ _ _ _ hl => lv_i2l (v := (iI (sp_digit S (iI p0) (iI p1) (iI p2)).2.1).toInt64) hx hb d_La_digit_10 (rfl)) ?_
    refine g_last hx hb hK 1 hao9 rfl (show vp_in (nI 0) 1 from vp_in_nI (by omega) (by omega)) d_La_digit_11 (fun G_5 f_6 o_7 => ?_)
    rw [nI_clamp (by omega)] at f_6
    have hfp : gfr (fun x => x = 90) G_1 G_5 := gfr_put gfr_rf hao9 rfl o_7
    refine gs (pc' := 23) (fun _ _ _ _ _ hl => lv_goto (tgt := 23) hx hb d_La_digit_12 (by decide)) ?_
    refine gs (pc' := 24) (fun _ _ _ _ _ hl => lv_iconst (v := nI 0) hx hb d_La_digit_23 (by decide)) ?_
    exact hret 24 _ _ _ _ d_La_digit_24 (Nat.le_trans hle9.1 hY1) (Nat.le_trans hle9.2 hY2) ⟨congrArg nI hk.symm, CW3_up hC9 hfp (fun x h9 => by have h9 : x = 90 := h9; omega), ⟨_, f_6, fun _ => if_pos rfl⟩, fun q9 y9 h9 n9 => hfp q9 y9 (hf9 q9 y9 h9 (fun z => n9 (Or.inl z))) (fun z => n9 (Or.inr z))⟩
  · skip
    refine gs (pc' := 2) (fun _ _ _ _ _ hl => lv_aload hx hb d_La_digit_0 (lv_at hl 4 rfl)) ?_
    refine gs (pc' := 3) (fun _ _ _ _ _ hl => lv_iconst (v := nI 0) hx hb d_La_digit_2 (by decide)) ?_
    refine gs (pc' := 4) (fun _ _ _ _ _ hl => lv_aload_n hx hb d_La_digit_3 rfl (lv_at hl 0 rfl)) ?_
    refine gs (pc' := 5) (fun _ _ _ _ _ hl => lv_iload_n hx hb d_La_digit_4 rfl (lv_at hl 1 rfl)) ?_
    refine gs (pc' := 6) (fun _ _ _ _ _ hl => lv_iload_n hx hb d_La_digit_5 rfl (lv_at hl 2 rfl)) ?_
    refine gs (pc' := 7) (fun _ _ _ _ _ hl => lv_iload_n hx hb d_La_digit_6 rfl (lv_at hl 3 rfl)) ?_
    obtain ⟨en0, en1, hsp, hen0, hen1⟩ := ex_2 hex
    have hen := hen0
    have he1 : en0.startPc = 0 := congrArg (fun z => z.1) hen
    have he2 : en0.endPc = 12 := congrArg (fun z => z.2.1) hen
    have he3 : en0.handlerPc = 15 := congrArg (fun z => z.2.2.1) hen
    have he4 : en0.catchType = 21 := congrArg (fun z => z.2.2.2) hen
    refine g_catch (nm := "java/lang/IndexOutOfBoundsException") (pre := []) (x := en0) (rst := [en1]) hlo hown (g_thrV (As := [.int (iI p0), .int (iI p1), .int (iI p2)]) (rest := [.int (nI 0), .ref ao]) ⟨hx, hb, hml, hown, hts⟩ hK hZ hRc hRs (t_Mf_digit1 l D cA lo MC MS G B X a S F V hC hW p0 hp01 hp02 p1 hp11 hp12 p2 hp21 hp22 hk (show X.1 + 1 ≤ MC by omega) (show X.2 + 6 ≤ MS by omega) hfl) (fun _ _ => cwV 3 hts (tb_good (tb_cons wm655 (tb_cons wm656 (tb_cons wm657 (tb_cons wm1 k_Mf_digit))))) rfl rfl rfl (by decide +kernel) ⟨by rw [hRf]; exact Nat.le_of_ble_eq_true rfl, by rw [hRl]; exact Nat.le_of_ble_eq_true rfl⟩) hax rfl hB1 hB2 rfl (Nat.le_of_ble_eq_true rfl) d_La_digit_7) hsp (fun y9 h9 => absurd h9 List.not_mem_nil) (by show (decide (en0.startPc ≤ 7) && decide (7 < en0.endPc)) = true; rw [he1, he2]; rfl) (by rw [he4]; decide) (by rw [he4]; exact hts _ wm534) (ca_of (hts _ wm19)) (fun v9 G9 B9 hp9 => ?_)
    cases hp9
    rw [he3]
    refine gst (pc' := 17) (L' := [(5, .ref v9), (0, .ref a.x), (1, .int (iI p0)), (2, .int (iI p1)), (3, .int (iI p2)), (4, .ref ao)]) (fun _ _ _ _ _ hl => lv_astore hx hb d_La_digit_15 hl (by decide) rfl) ?_
    refine gs (pc' := 18) (fun _ _ _ _ _ hl => lv_iconst (v := nI 1) hx hb d_La_digit_17 (by decide)) ?_
    exact hret 18 _ _ _ _ d_La_digit_18 (show B.1 + 1 ≤ MC by omega) (show B.2 + 6 ≤ MS by omega) ⟨congrArg nI hk.symm, by rw [hS]; exact CW3_thr hC, ⟨_, hao, fun h9 => absurd (hk.symm.trans h9) (by decide)⟩, fun q9 y9 h9 _ => h9⟩
  · skip
    refine gs (pc' := 2) (fun _ _ _ _ _ hl => lv_aload hx hb d_La_digit_0 (lv_at hl 4 rfl)) ?_
    refine gs (pc' := 3) (fun _ _ _ _ _ hl => lv_iconst (v := nI 0) hx hb d_La_digit_2 (by decide)) ?_
    refine gs (pc' := 4) (fun _ _ _ _ _ hl => lv_aload_n hx hb d_La_digit_3 rfl (lv_at hl 0 rfl)) ?_
    refine gs (pc' := 5) (fun _ _ _ _ _ hl => lv_iload_n hx hb d_La_digit_4 rfl (lv_at hl 1 rfl)) ?_
    refine gs (pc' := 6) (fun _ _ _ _ _ hl => lv_iload_n hx hb d_La_digit_5 rfl (lv_at hl 2 rfl)) ?_
    refine gs (pc' := 7) (fun _ _ _ _ _ hl => lv_iload_n hx hb d_La_digit_6 rfl (lv_at hl 3 rfl)) ?_
    obtain ⟨en0, en1, hsp, hen0, hen1⟩ := ex_2 hex
    have hen := hen1
    have he1 : en1.startPc = 0 := congrArg (fun z => z.1) hen
    have he2 : en1.endPc = 12 := congrArg (fun z => z.2.1) hen
    have he3 : en1.handlerPc = 19 := congrArg (fun z => z.2.2.1) hen
    have he4 : en1.catchType = 15 := congrArg (fun z => z.2.2.2) hen
    refine g_catch (nm := "java/lang/IllegalArgumentException") (pre := [en0]) (x := en1) (rst := []) hlo hown (g_thrV (As := [.int (iI p0), .int (iI p1), .int (iI p2)]) (rest := [.int (nI 0), .ref ao]) ⟨hx, hb, hml, hown, hts⟩ hK hZ hRc hRs (t_Mf_digit2 l D cA lo MC MS G B X a S F V hC hW p0 hp01 hp02 p1 hp11 hp12 p2 hp21 hp22 hk (show X.1 + 1 ≤ MC by omega) (show X.2 + 6 ≤ MS by omega) hfl) (fun _ _ => cwV 3 hts (tb_good (tb_cons wm655 (tb_cons wm656 (tb_cons wm657 (tb_cons wm1 k_Mf_digit))))) rfl rfl rfl (by decide +kernel) ⟨by rw [hRf]; exact Nat.le_of_ble_eq_true rfl, by rw [hRl]; exact Nat.le_of_ble_eq_true rfl⟩) hax rfl hB1 hB2 rfl (Nat.le_of_ble_eq_true rfl) d_La_digit_7) hsp (fun y9 h9 => by
      have e9 : y9 = en0 := List.mem_singleton.mp h9
      subst e9
      have e8 : y9.catchType = 21 := congrArg (fun z => z.2.2.2) hen0
      rw [e8]
      exact ⟨by decide, _, hts _ wm534, no_of hZ (by simp [gNo])⟩) (by show (decide (en1.startPc ≤ 7) && decide (7 < en1.endPc)) = true; rw [he1, he2]; rfl) (by rw [he4]; decide) (by rw [he4]; exact hts _ wm294) (ca_of (hts _ wm17)) (fun v9 G9 B9 hp9 => ?_)
    cases hp9
    rw [he3]
    refine gst (pc' := 21) (L' := [(5, .ref v9), (0, .ref a.x), (1, .int (iI p0)), (2, .int (iI p1)), (3, .int (iI p2)), (4, .ref ao)]) (fun _ _ _ _ _ hl => lv_astore hx hb d_La_digit_19 hl (by decide) rfl) ?_
    refine gs (pc' := 22) (fun _ _ _ _ _ hl => lv_iconst (v := nI 2) hx hb d_La_digit_21 (by decide)) ?_
    exact hret 22 _ _ _ _ d_La_digit_22 (show B.1 + 1 ≤ MC by omega) (show B.2 + 6 ≤ MS by omega) ⟨congrArg nI hk.symm, by rw [hS]; exact CW3_thr hC, ⟨_, hao, fun h9 => absurd (hk.symm.trans h9) (by decide)⟩, fun q9 y9 h9 _ => h9⟩
set_option maxHeartbeats 4000000 in
set_option maxRecDepth 100000 in
theorem c_La_corner (l : Launch) (D : va_G) (cA : Nat → ClassId) (lo MC MS : Nat) (G : gT) (B : Nat × Nat) (X : Nat × Nat) (a : AX) (S : St) (F : Nat → Option Rat) (V : Nat → Nat) (hC : CW cA X a S F V (G, B)) (hW : WF S) (ao : Nat) (of : Nat → Int64) (hao : G ao = some (90, .inl (cA 1, 1, .inr (.inl of))))  (p0 : Int) (hp01 : -2147483648 ≤ p0) (hp02 : p0 < 2147483648) (p1 : Int) (hp11 : -2147483648 ≤ p1) (hp12 : p1 < 2147483648) (p2 : Int) (hp21 : -2147483648 ≤ p2) (hp22 : p2 < 2147483648) (hY1 : X.1 + 6 ≤ MC) (hY2 : X.2 + 209 ≤ MS) (hfl : ∀ e : Env, l.admits e → e.platform.stackTraces = false) : gMet l y_La_corner w_La_corner 8 185 D clS (gtys cA) lo MC MS [.ref a.x, .int (iI p0), .int (iI p1), .int (iI p2), .ref ao] G B (gQi D clS lo (fun r u => r = nI (sp_corner S (iI p0) (iI p1) (iI p2)).1 ∧ CW3 cA (X.1 + 6, X.2 + 209) a (sp_corner S (iI p0) (iI p1) (iI p2)).2.2 u ∧ (∃ of1 : Nat → Int64, u.1 ao = some (90, .inl (cA 1, 1, .inr (.inl of1))) ∧ ((sp_corner S (iI p0) (iI p1) (iI p2)).1 = 0 → of1 0 = (iI (sp_corner S (iI p0) (iI p1) (iI p2)).2.1).toInt64)) ∧ gfr (fun x => x < 70 ∨ x = 90) G u.1)) := by
  refine g_metiW (cc := method_12_code) (nL := 6) (L := [(0, .ref a.x), (1, .int (iI p0)), (2, .int (iI p1)), (3, .int (iI p2)), (4, .ref ao)]) (by decide +kernel) rfl (Nat.le_of_ble_eq_true rfl) rfl ?_
  intro p e R s m args below meth c Q hF hRc hRs hRf hRl hex hret
  obtain ⟨hx, hb, hr, hml, hts0, hown, hlocks, hin, hK, hlo, hZ⟩ := hF
  have hts : ∀ w ∈ tbg, w.before args s = true := fun w h => hts0 w (List.mem_cons_of_mem _ h)
  have hle0 := w2_le hC.w
  have hB1 : B.1 ≤ MC := by omega
  have hB2 : B.2 ≤ MS := by omega
  have hax : G a.x = some (31, .inr (8, [.ref a.vs, .int (nI S.n), .ref a.rs, .int (nI S.rn), .ref a.ws, .ref a.ca, .ref (a.fr 0), .ref (a.fr 1), .ref (a.fr 2), .ref (a.fr 3), .ref a.zr, .ref a.fo, .ref a.ha, .ref a.si])) := hC.ob
  rcases ka_corner (S := S) (p0 := iI p0) (p1 := iI p1) (p2 := iI p2) with hk | ⟨hk, hS⟩
  · skip
    refine gs (pc' := 2) (fun _ _ _ _ _ hl => lv_aload hx hb d_La_corner_0 (lv_at hl 4 rfl)) ?_
    refine gs (pc' := 3) (fun _ _ _ _ _ hl => lv_iconst (v := nI 0) hx hb d_La_corner_2 (by decide)) ?_
    refine gs (pc' := 4) (fun _ _ _ _ _ hl => lv_aload_n hx hb d_La_corner_3 rfl (lv_at hl 0 rfl)) ?_
    refine gs (pc' := 5) (fun _ _ _ _ _ hl => lv_iload_n hx hb d_La_corner_4 rfl (lv_at hl 1 rfl)) ?_
    refine gs (pc' := 6) (fun _ _ _ _ _ hl => lv_iload_n hx hb d_La_corner_5 rfl (lv_at hl 2 rfl)) ?_
    refine gs (pc' := 7) (fun _ _ _ _ _ hl => lv_iload_n hx hb d_La_corner_6 rfl (lv_at hl 3 rfl)) ?_
    refine g_outi hlo (g_runV (As := [.int (iI p0), .int (iI p1), .int (iI p2)]) (rest := [.int (nI 0), .ref ao]) ⟨hx, hb, hml, hown, hts⟩ hK hZ hRc hRs (c_Mf_corner l D cA lo MC MS G B X a S F V hC hW p0 hp01 hp02 p1 hp11 hp12 p2 hp21 hp22 hk hY1 hY2) (fun _ _ => cwV 3 hts (tb_good (tb_cons wm668 (tb_cons wm669 (tb_cons wm670 (tb_cons wm1 k_Mf_corner))))) rfl rfl rfl (by decide +kernel) ⟨by rw [hRf]; exact Nat.le_of_ble_eq_true rfl, by rw [hRl]; exact Nat.le_of_ble_eq_true rfl⟩) hax rfl hB1 hB2 rfl (Nat.le_of_ble_eq_true rfl) d_La_corner_7) (fun r_4 G_1 B_2 p_3 => ?_)
    obtain ⟨hr9, hC9, hf9⟩ := p_3
    subst hr9
    have hao9 : G_1 ao = some (90, .inl (cA 1, 1, .inr (.inl of))) := hf9 _ _ hao (show ¬ (90 : Nat) < 70 by decide)
    have hle9 := CW3_le hC9
    refine gs (pc' := 11) (fun _ _ _ _ _ hl => lv_i2l (v := (iI (sp_corner S (iI p0) (iI p1) (iI p2)).2.1).toInt64) hx hb d_La_corner_10 (rfl)) ?_
    refine g_last hx hb hK 1 hao9 rfl (show vp_in (nI 0) 1 from vp_in_nI (by omega) (by omega)) d_La_corner_11 (fun G_5 f_6 o_7 => ?_)
    rw [nI_clamp (by omega)] at f_6
    have hfp : gfr (fun x => x = 90) G_1 G_5 := gfr_put gfr_rf hao9 rfl o_7
    refine gs (pc' := 19) (fun _ _ _ _ _ hl => lv_goto (tgt := 19) hx hb d_La_corner_12 (by decide)) ?_
    refine gs (pc' := 20) (fun _ _ _ _ _ hl => lv_iconst (v := nI 0) hx hb d_La_corner_19 (by decide)) ?_
    exact hret 20 _ _ _ _ d_La_corner_20 (Nat.le_trans hle9.1 hY1) (Nat.le_trans hle9.2 hY2) ⟨congrArg nI hk.symm, CW3_up hC9 hfp (fun x h9 => by have h9 : x = 90 := h9; omega), ⟨_, f_6, fun _ => if_pos rfl⟩, fun q9 y9 h9 n9 => hfp q9 y9 (hf9 q9 y9 h9 (fun z => n9 (Or.inl z))) (fun z => n9 (Or.inr z))⟩
  · skip
    refine gs (pc' := 2) (fun _ _ _ _ _ hl => lv_aload hx hb d_La_corner_0 (lv_at hl 4 rfl)) ?_
    refine gs (pc' := 3) (fun _ _ _ _ _ hl => lv_iconst (v := nI 0) hx hb d_La_corner_2 (by decide)) ?_
    refine gs (pc' := 4) (fun _ _ _ _ _ hl => lv_aload_n hx hb d_La_corner_3 rfl (lv_at hl 0 rfl)) ?_
    refine gs (pc' := 5) (fun _ _ _ _ _ hl => lv_iload_n hx hb d_La_corner_4 rfl (lv_at hl 1 rfl)) ?_
    refine gs (pc' := 6) (fun _ _ _ _ _ hl => lv_iload_n hx hb d_La_corner_5 rfl (lv_at hl 2 rfl)) ?_
    refine gs (pc' := 7) (fun _ _ _ _ _ hl => lv_iload_n hx hb d_La_corner_6 rfl (lv_at hl 3 rfl)) ?_
    obtain ⟨en, hsp, hen⟩ := ex_1 hex
    have he1 : en.startPc = 0 := congrArg (fun z => z.1) hen
    have he2 : en.endPc = 12 := congrArg (fun z => z.2.1) hen
    have he3 : en.handlerPc = 15 := congrArg (fun z => z.2.2.1) hen
    have he4 : en.catchType = 21 := congrArg (fun z => z.2.2.2) hen
    refine g_catch (nm := "java/lang/IndexOutOfBoundsException") (pre := []) (x := en) (rst := []) hlo hown (g_thrV (As := [.int (iI p0), .int (iI p1), .int (iI p2)]) (rest := [.int (nI 0), .ref ao]) ⟨hx, hb, hml, hown, hts⟩ hK hZ hRc hRs (t_Mf_corner1 l D cA lo MC MS G B X a S F V hC hW p0 hp01 hp02 p1 hp11 hp12 p2 hp21 hp22 hk (show X.1 + 1 ≤ MC by omega) (show X.2 + 6 ≤ MS by omega) hfl) (fun _ _ => cwV 3 hts (tb_good (tb_cons wm668 (tb_cons wm669 (tb_cons wm670 (tb_cons wm1 k_Mf_corner))))) rfl rfl rfl (by decide +kernel) ⟨by rw [hRf]; exact Nat.le_of_ble_eq_true rfl, by rw [hRl]; exact Nat.le_of_ble_eq_true rfl⟩) hax rfl hB1 hB2 rfl (Nat.le_of_ble_eq_true rfl) d_La_corner_7) hsp (fun y9 h9 => absurd h9 List.not_mem_nil) (by show (decide (en.startPc ≤ 7) && decide (7 < en.endPc)) = true; rw [he1, he2]; rfl) (by rw [he4]; decide) (by rw [he4]; exact hts _ wm534) (ca_of (hts _ wm19)) (fun v9 G9 B9 hp9 => ?_)
    cases hp9
    rw [he3]
    refine gst (pc' := 17) (L' := [(5, .ref v9), (0, .ref a.x), (1, .int (iI p0)), (2, .int (iI p1)), (3, .int (iI p2)), (4, .ref ao)]) (fun _ _ _ _ _ hl => lv_astore hx hb d_La_corner_15 hl (by decide) rfl) ?_
    refine gs (pc' := 18) (fun _ _ _ _ _ hl => lv_iconst (v := nI 1) hx hb d_La_corner_17 (by decide)) ?_
    exact hret 18 _ _ _ _ d_La_corner_18 (show B.1 + 1 ≤ MC by omega) (show B.2 + 6 ≤ MS by omega) ⟨congrArg nI hk.symm, by rw [hS]; exact CW3_thr hC, ⟨_, hao, fun h9 => absurd (hk.symm.trans h9) (by decide)⟩, fun q9 y9 h9 _ => h9⟩
set_option maxHeartbeats 4000000 in
set_option maxRecDepth 100000 in
theorem c_La_at (l : Launch) (D : va_G) (cA : Nat → ClassId) (lo MC MS : Nat) (G : gT) (B : Nat × Nat) (X : Nat × Nat) (a : AX) (S : St) (F : Nat → Option Rat) (V : Nat → Nat) (hC : CW cA X a S F V (G, B)) (hW : WF S) (ao : Nat) (of : Nat → Int64) (hao : G ao = some (90, .inl (cA 1, 1, .inr (.inl of))))  (p0 : Int) (hp01 : -2147483648 ≤ p0) (hp02 : p0 < 2147483648) (p1 : Int) (hp11 : -2147483648 ≤ p1) (hp12 : p1 < 2147483648) (hY1 : X.1 + 6 ≤ MC) (hY2 : X.2 + 209 ≤ MS) (hfl : ∀ e : Env, l.admits e → e.platform.stackTraces = false) : gMet l y_La_at w_La_at 9 242 D clS (gtys cA) lo MC MS [.ref a.x, .int (iI p0), .int (iI p1), .ref ao] G B (gQi D clS lo (fun r u => r = nI (sp_at S (iI p0) (iI p1)).1 ∧ CW3 cA (X.1 + 6, X.2 + 209) a (sp_at S (iI p0) (iI p1)).2.2 u ∧ (∃ of1 : Nat → Int64, u.1 ao = some (90, .inl (cA 1, 1, .inr (.inl of1))) ∧ ((sp_at S (iI p0) (iI p1)).1 = 0 → of1 0 = (iI (sp_at S (iI p0) (iI p1)).2.1).toInt64)) ∧ gfr (fun x => x < 70 ∨ x = 90) G u.1)) := by
  refine g_metiW (cc := method_13_code) (nL := 5) (L := [(0, .ref a.x), (1, .int (iI p0)), (2, .int (iI p1)), (3, .ref ao)]) (by decide +kernel) rfl (Nat.le_of_ble_eq_true rfl) rfl ?_
  intro p e R s m args below meth c Q hF hRc hRs hRf hRl hex hret
  obtain ⟨hx, hb, hr, hml, hts0, hown, hlocks, hin, hK, hlo, hZ⟩ := hF
  have hts : ∀ w ∈ tbg, w.before args s = true := fun w h => hts0 w (List.mem_cons_of_mem _ h)
  have hle0 := w2_le hC.w
  have hB1 : B.1 ≤ MC := by omega
  have hB2 : B.2 ≤ MS := by omega
  have hax : G a.x = some (31, .inr (8, [.ref a.vs, .int (nI S.n), .ref a.rs, .int (nI S.rn), .ref a.ws, .ref a.ca, .ref (a.fr 0), .ref (a.fr 1), .ref (a.fr 2), .ref (a.fr 3), .ref a.zr, .ref a.fo, .ref a.ha, .ref a.si])) := hC.ob
  rcases ka_at (S := S) (p0 := iI p0) (p1 := iI p1) with hk | ⟨hk, hS⟩
  · skip
    refine gs (pc' := 1) (fun _ _ _ _ _ hl => lv_aload_n hx hb d_La_at_0 rfl (lv_at hl 3 rfl)) ?_
    refine gs (pc' := 2) (fun _ _ _ _ _ hl => lv_iconst (v := nI 0) hx hb d_La_at_1 (by decide)) ?_
    refine gs (pc' := 3) (fun _ _ _ _ _ hl => lv_aload_n hx hb d_La_at_2 rfl (lv_at hl 0 rfl)) ?_
    refine gs (pc' := 4) (fun _ _ _ _ _ hl => lv_iload_n hx hb d_La_at_3 rfl (lv_at hl 1 rfl)) ?_
    refine gs (pc' := 5) (fun _ _ _ _ _ hl => lv_iload_n hx hb d_La_at_4 rfl (lv_at hl 2 rfl)) ?_
    refine g_outi hlo (g_runV (As := [.int (iI p0), .int (iI p1)]) (rest := [.int (nI 0), .ref ao]) ⟨hx, hb, hml, hown, hts⟩ hK hZ hRc hRs (c_Mf_at l D cA lo MC MS G B X a S F V hC hW p0 hp01 hp02 p1 hp11 hp12 hk hY1 hY2) (fun _ _ => cwV 2 hts (tb_good (tb_cons wm684 (tb_cons wm685 (tb_cons wm686 (tb_cons wm1 k_Mf_at))))) rfl rfl rfl (by decide +kernel) ⟨by rw [hRf]; exact Nat.le_of_ble_eq_true rfl, by rw [hRl]; exact Nat.le_of_ble_eq_true rfl⟩) hax rfl hB1 hB2 rfl (Nat.le_of_ble_eq_true rfl) d_La_at_5) (fun r_4 G_1 B_2 p_3 => ?_)
    obtain ⟨hr9, hC9, hf9⟩ := p_3
    subst hr9
    have hao9 : G_1 ao = some (90, .inl (cA 1, 1, .inr (.inl of))) := hf9 _ _ hao (show ¬ (90 : Nat) < 70 by decide)
    have hle9 := CW3_le hC9
    refine gs (pc' := 9) (fun _ _ _ _ _ hl => lv_i2l (v := (iI (sp_at S (iI p0) (iI p1)).2.1).toInt64) hx hb d_La_at_8 (rfl)) ?_
    refine g_last hx hb hK 1 hao9 rfl (show vp_in (nI 0) 1 from vp_in_nI (by omega) (by omega)) d_La_at_9 (fun G_5 f_6 o_7 => ?_)
    rw [nI_clamp (by omega)] at f_6
    have hfp : gfr (fun x => x = 90) G_1 G_5 := gfr_put gfr_rf hao9 rfl o_7
    refine gs (pc' := 17) (fun _ _ _ _ _ hl => lv_goto (tgt := 17) hx hb d_La_at_10 (by decide)) ?_
    refine gs (pc' := 18) (fun _ _ _ _ _ hl => lv_iconst (v := nI 0) hx hb d_La_at_17 (by decide)) ?_
    exact hret 18 _ _ _ _ d_La_at_18 (Nat.le_trans hle9.1 hY1) (Nat.le_trans hle9.2 hY2) ⟨congrArg nI hk.symm, CW3_up hC9 hfp (fun x h9 => by have h9 : x = 90 := h9; omega), ⟨_, f_6, fun _ => if_pos rfl⟩, fun q9 y9 h9 n9 => hfp q9 y9 (hf9 q9 y9 h9 (fun z => n9 (Or.inl z))) (fun z => n9 (Or.inr z))⟩
  · skip
    refine gs (pc' := 1) (fun _ _ _ _ _ hl => lv_aload_n hx hb d_La_at_0 rfl (lv_at hl 3 rfl)) ?_
    refine gs (pc' := 2) (fun _ _ _ _ _ hl => lv_iconst (v := nI 0) hx hb d_La_at_1 (by decide)) ?_
    refine gs (pc' := 3) (fun _ _ _ _ _ hl => lv_aload_n hx hb d_La_at_2 rfl (lv_at hl 0 rfl)) ?_
    refine gs (pc' := 4) (fun _ _ _ _ _ hl => lv_iload_n hx hb d_La_at_3 rfl (lv_at hl 1 rfl)) ?_
    refine gs (pc' := 5) (fun _ _ _ _ _ hl => lv_iload_n hx hb d_La_at_4 rfl (lv_at hl 2 rfl)) ?_
    obtain ⟨en, hsp, hen⟩ := ex_1 hex
    have he1 : en.startPc = 0 := congrArg (fun z => z.1) hen
    have he2 : en.endPc = 10 := congrArg (fun z => z.2.1) hen
    have he3 : en.handlerPc = 13 := congrArg (fun z => z.2.2.1) hen
    have he4 : en.catchType = 21 := congrArg (fun z => z.2.2.2) hen
    refine g_catch (nm := "java/lang/IndexOutOfBoundsException") (pre := []) (x := en) (rst := []) hlo hown (g_thrV (As := [.int (iI p0), .int (iI p1)]) (rest := [.int (nI 0), .ref ao]) ⟨hx, hb, hml, hown, hts⟩ hK hZ hRc hRs (t_Mf_at1 l D cA lo MC MS G B X a S F V hC hW p0 hp01 hp02 p1 hp11 hp12 hk (show X.1 + 1 ≤ MC by omega) (show X.2 + 6 ≤ MS by omega) hfl) (fun _ _ => cwV 2 hts (tb_good (tb_cons wm684 (tb_cons wm685 (tb_cons wm686 (tb_cons wm1 k_Mf_at))))) rfl rfl rfl (by decide +kernel) ⟨by rw [hRf]; exact Nat.le_of_ble_eq_true rfl, by rw [hRl]; exact Nat.le_of_ble_eq_true rfl⟩) hax rfl hB1 hB2 rfl (Nat.le_of_ble_eq_true rfl) d_La_at_5) hsp (fun y9 h9 => absurd h9 List.not_mem_nil) (by show (decide (en.startPc ≤ 5) && decide (5 < en.endPc)) = true; rw [he1, he2]; rfl) (by rw [he4]; decide) (by rw [he4]; exact hts _ wm534) (ca_of (hts _ wm19)) (fun v9 G9 B9 hp9 => ?_)
    cases hp9
    rw [he3]
    refine gst (pc' := 15) (L' := [(4, .ref v9), (0, .ref a.x), (1, .int (iI p0)), (2, .int (iI p1)), (3, .ref ao)]) (fun _ _ _ _ _ hl => lv_astore hx hb d_La_at_13 hl (by decide) rfl) ?_
    refine gs (pc' := 16) (fun _ _ _ _ _ hl => lv_iconst (v := nI 1) hx hb d_La_at_15 (by decide)) ?_
    exact hret 16 _ _ _ _ d_La_at_16 (show B.1 + 1 ≤ MC by omega) (show B.2 + 6 ≤ MS by omega) ⟨congrArg nI hk.symm, by rw [hS]; exact CW3_thr hC, ⟨_, hao, fun h9 => absurd (hk.symm.trans h9) (by decide)⟩, fun q9 y9 h9 _ => h9⟩
set_option maxHeartbeats 4000000 in
set_option maxRecDepth 100000 in
theorem c_La_area (l : Launch) (D : va_G) (cA : Nat → ClassId) (lo MC MS : Nat) (G : gT) (B : Nat × Nat) (X : Nat × Nat) (a : AX) (S : St) (F : Nat → Option Rat) (V : Nat → Nat) (hC : CW cA X a S F V (G, B)) (hW : WF S) (ao : Nat) (of : Nat → Int64) (hao : G ao = some (90, .inl (cA 1, 1, .inr (.inl of))))  (p0 : Int) (hp01 : -2147483648 ≤ p0) (hp02 : p0 < 2147483648) (hY1 : X.1 + 6 ≤ MC) (hY2 : X.2 + 209 ≤ MS) (hfl : ∀ e : Env, l.admits e → e.platform.stackTraces = false) : gMet l y_La_area w_La_area 9 236 D clS (gtys cA) lo MC MS [.ref a.x, .int (iI p0), .ref ao] G B (gQi D clS lo (fun r u => r = nI (sp_area S (iI p0)).1 ∧ CW3 cA (X.1 + 6, X.2 + 209) a (sp_area S (iI p0)).2.2 u ∧ (∃ of1 : Nat → Int64, u.1 ao = some (90, .inl (cA 1, 1, .inr (.inl of1))) ∧ ((sp_area S (iI p0)).1 = 0 → of1 0 = (iI (sp_area S (iI p0)).2.1).toInt64)) ∧ gfr (fun x => x < 70 ∨ x = 90) G u.1)) := by
  refine g_metiW (cc := method_14_code) (nL := 4) (L := [(0, .ref a.x), (1, .int (iI p0)), (2, .ref ao)]) (by decide +kernel) rfl (Nat.le_of_ble_eq_true rfl) rfl ?_
  intro p e R s m args below meth c Q hF hRc hRs hRf hRl hex hret
  obtain ⟨hx, hb, hr, hml, hts0, hown, hlocks, hin, hK, hlo, hZ⟩ := hF
  have hts : ∀ w ∈ tbg, w.before args s = true := fun w h => hts0 w (List.mem_cons_of_mem _ h)
  have hle0 := w2_le hC.w
  have hB1 : B.1 ≤ MC := by omega
  have hB2 : B.2 ≤ MS := by omega
  have hax : G a.x = some (31, .inr (8, [.ref a.vs, .int (nI S.n), .ref a.rs, .int (nI S.rn), .ref a.ws, .ref a.ca, .ref (a.fr 0), .ref (a.fr 1), .ref (a.fr 2), .ref (a.fr 3), .ref a.zr, .ref a.fo, .ref a.ha, .ref a.si])) := hC.ob
  rcases ka_area (S := S) (p0 := iI p0) with hk | ⟨hk, hS⟩
  · skip
    refine gs (pc' := 1) (fun _ _ _ _ _ hl => lv_aload_n hx hb d_La_area_0 rfl (lv_at hl 2 rfl)) ?_
    refine gs (pc' := 2) (fun _ _ _ _ _ hl => lv_iconst (v := nI 0) hx hb d_La_area_1 (by decide)) ?_
    refine gs (pc' := 3) (fun _ _ _ _ _ hl => lv_aload_n hx hb d_La_area_2 rfl (lv_at hl 0 rfl)) ?_
    refine gs (pc' := 4) (fun _ _ _ _ _ hl => lv_iload_n hx hb d_La_area_3 rfl (lv_at hl 1 rfl)) ?_
    refine g_outi hlo (g_runV (As := [.int (iI p0)]) (rest := [.int (nI 0), .ref ao]) ⟨hx, hb, hml, hown, hts⟩ hK hZ hRc hRs (c_Mf_area l D cA lo MC MS G B X a S F V hC hW p0 hp01 hp02 hk hY1 hY2) (fun _ _ => cwV 1 hts (tb_good (tb_cons wm700 (tb_cons wm701 (tb_cons wm702 (tb_cons wm1 k_Mf_area))))) rfl rfl rfl (by decide +kernel) ⟨by rw [hRf]; exact Nat.le_of_ble_eq_true rfl, by rw [hRl]; exact Nat.le_of_ble_eq_true rfl⟩) hax rfl hB1 hB2 rfl (Nat.le_of_ble_eq_true rfl) d_La_area_4) (fun r_4 G_1 B_2 p_3 => ?_)
    obtain ⟨hr9, hC9, hf9⟩ := p_3
    subst hr9
    have hao9 : G_1 ao = some (90, .inl (cA 1, 1, .inr (.inl of))) := hf9 _ _ hao (show ¬ (90 : Nat) < 70 by decide)
    have hle9 := CW3_le hC9
    refine gs (pc' := 8) (fun _ _ _ _ _ hl => lv_i2l (v := (iI (sp_area S (iI p0)).2.1).toInt64) hx hb d_La_area_7 (rfl)) ?_
    refine g_last hx hb hK 1 hao9 rfl (show vp_in (nI 0) 1 from vp_in_nI (by omega) (by omega)) d_La_area_8 (fun G_5 f_6 o_7 => ?_)
    rw [nI_clamp (by omega)] at f_6
    have hfp : gfr (fun x => x = 90) G_1 G_5 := gfr_put gfr_rf hao9 rfl o_7
    refine gs (pc' := 15) (fun _ _ _ _ _ hl => lv_goto (tgt := 15) hx hb d_La_area_9 (by decide)) ?_
    refine gs (pc' := 16) (fun _ _ _ _ _ hl => lv_iconst (v := nI 0) hx hb d_La_area_15 (by decide)) ?_
    exact hret 16 _ _ _ _ d_La_area_16 (Nat.le_trans hle9.1 hY1) (Nat.le_trans hle9.2 hY2) ⟨congrArg nI hk.symm, CW3_up hC9 hfp (fun x h9 => by have h9 : x = 90 := h9; omega), ⟨_, f_6, fun _ => if_pos rfl⟩, fun q9 y9 h9 n9 => hfp q9 y9 (hf9 q9 y9 h9 (fun z => n9 (Or.inl z))) (fun z => n9 (Or.inr z))⟩
  · skip
    refine gs (pc' := 1) (fun _ _ _ _ _ hl => lv_aload_n hx hb d_La_area_0 rfl (lv_at hl 2 rfl)) ?_
    refine gs (pc' := 2) (fun _ _ _ _ _ hl => lv_iconst (v := nI 0) hx hb d_La_area_1 (by decide)) ?_
    refine gs (pc' := 3) (fun _ _ _ _ _ hl => lv_aload_n hx hb d_La_area_2 rfl (lv_at hl 0 rfl)) ?_
    refine gs (pc' := 4) (fun _ _ _ _ _ hl => lv_iload_n hx hb d_La_area_3 rfl (lv_at hl 1 rfl)) ?_
    obtain ⟨en, hsp, hen⟩ := ex_1 hex
    have he1 : en.startPc = 0 := congrArg (fun z => z.1) hen
    have he2 : en.endPc = 9 := congrArg (fun z => z.2.1) hen
    have he3 : en.handlerPc = 12 := congrArg (fun z => z.2.2.1) hen
    have he4 : en.catchType = 21 := congrArg (fun z => z.2.2.2) hen
    refine g_catch (nm := "java/lang/IndexOutOfBoundsException") (pre := []) (x := en) (rst := []) hlo hown (g_thrV (As := [.int (iI p0)]) (rest := [.int (nI 0), .ref ao]) ⟨hx, hb, hml, hown, hts⟩ hK hZ hRc hRs (t_Mf_area1 l D cA lo MC MS G B X a S F V hC hW p0 hp01 hp02 hk (show X.1 + 1 ≤ MC by omega) (show X.2 + 6 ≤ MS by omega) hfl) (fun _ _ => cwV 1 hts (tb_good (tb_cons wm700 (tb_cons wm701 (tb_cons wm702 (tb_cons wm1 k_Mf_area))))) rfl rfl rfl (by decide +kernel) ⟨by rw [hRf]; exact Nat.le_of_ble_eq_true rfl, by rw [hRl]; exact Nat.le_of_ble_eq_true rfl⟩) hax rfl hB1 hB2 rfl (Nat.le_of_ble_eq_true rfl) d_La_area_4) hsp (fun y9 h9 => absurd h9 List.not_mem_nil) (by show (decide (en.startPc ≤ 4) && decide (4 < en.endPc)) = true; rw [he1, he2]; rfl) (by rw [he4]; decide) (by rw [he4]; exact hts _ wm534) (ca_of (hts _ wm19)) (fun v9 G9 B9 hp9 => ?_)
    cases hp9
    rw [he3]
    refine gst (pc' := 13) (L' := [(3, .ref v9), (0, .ref a.x), (1, .int (iI p0)), (2, .ref ao)]) (fun _ _ _ _ _ hl => lv_astore_n hx hb d_La_area_12 rfl hl (by decide) rfl) ?_
    refine gs (pc' := 14) (fun _ _ _ _ _ hl => lv_iconst (v := nI 1) hx hb d_La_area_13 (by decide)) ?_
    exact hret 14 _ _ _ _ d_La_area_14 (show B.1 + 1 ≤ MC by omega) (show B.2 + 6 ≤ MS by omega) ⟨congrArg nI hk.symm, by rw [hS]; exact CW3_thr hC, ⟨_, hao, fun h9 => absurd (hk.symm.trans h9) (by decide)⟩, fun q9 y9 h9 _ => h9⟩
set_option maxHeartbeats 4000000 in
set_option maxRecDepth 100000 in
theorem c_La_weight (l : Launch) (D : va_G) (cA : Nat → ClassId) (lo MC MS : Nat) (G : gT) (B : Nat × Nat) (X : Nat × Nat) (a : AX) (S : St) (F : Nat → Option Rat) (V : Nat → Nat) (hC : CW cA X a S F V (G, B)) (hW : WF S) (ao : Nat) (of : Nat → Int64) (hao : G ao = some (90, .inl (cA 1, 1, .inr (.inl of))))  (p0 : Int) (hp01 : -2147483648 ≤ p0) (hp02 : p0 < 2147483648) (hY1 : X.1 + 6 ≤ MC) (hY2 : X.2 + 209 ≤ MS) (hfl : ∀ e : Env, l.admits e → e.platform.stackTraces = false) : gMet l y_La_weight w_La_weight 7 111 D clS (gtys cA) lo MC MS [.ref a.x, .int (iI p0), .ref ao] G B (gQi D clS lo (fun r u => r = nI (sp_weight S (iI p0)).1 ∧ CW3 cA (X.1 + 6, X.2 + 209) a (sp_weight S (iI p0)).2.2 u ∧ (∃ of1 : Nat → Int64, u.1 ao = some (90, .inl (cA 1, 1, .inr (.inl of1))) ∧ ((sp_weight S (iI p0)).1 = 0 → of1 0 = (iI (sp_weight S (iI p0)).2.1).toInt64)) ∧ gfr (fun x => x < 70 ∨ x = 90) G u.1)) := by
  refine g_metiW (cc := method_15_code) (nL := 4) (L := [(0, .ref a.x), (1, .int (iI p0)), (2, .ref ao)]) (by decide +kernel) rfl (Nat.le_of_ble_eq_true rfl) rfl ?_
  intro p e R s m args below meth c Q hF hRc hRs hRf hRl hex hret
  obtain ⟨hx, hb, hr, hml, hts0, hown, hlocks, hin, hK, hlo, hZ⟩ := hF
  have hts : ∀ w ∈ tbg, w.before args s = true := fun w h => hts0 w (List.mem_cons_of_mem _ h)
  have hle0 := w2_le hC.w
  have hB1 : B.1 ≤ MC := by omega
  have hB2 : B.2 ≤ MS := by omega
  have hax : G a.x = some (31, .inr (8, [.ref a.vs, .int (nI S.n), .ref a.rs, .int (nI S.rn), .ref a.ws, .ref a.ca, .ref (a.fr 0), .ref (a.fr 1), .ref (a.fr 2), .ref (a.fr 3), .ref a.zr, .ref a.fo, .ref a.ha, .ref a.si])) := hC.ob
  rcases ka_weight (S := S) (p0 := iI p0) with hk | ⟨hk, hS⟩
  · skip
    refine gs (pc' := 1) (fun _ _ _ _ _ hl => lv_aload_n hx hb d_La_weight_0 rfl (lv_at hl 2 rfl)) ?_
    refine gs (pc' := 2) (fun _ _ _ _ _ hl => lv_iconst (v := nI 0) hx hb d_La_weight_1 (by decide)) ?_
    refine gs (pc' := 3) (fun _ _ _ _ _ hl => lv_aload_n hx hb d_La_weight_2 rfl (lv_at hl 0 rfl)) ?_
    refine gs (pc' := 4) (fun _ _ _ _ _ hl => lv_iload_n hx hb d_La_weight_3 rfl (lv_at hl 1 rfl)) ?_
    refine g_outi hlo (g_runV (As := [.int (iI p0)]) (rest := [.int (nI 0), .ref ao]) ⟨hx, hb, hml, hown, hts⟩ hK hZ hRc hRs (c_Mf_weight l D cA lo MC MS G B X a S F V hC hW p0 hp01 hp02 hk hY1 hY2) (fun _ _ => cwV 1 hts (tb_good (tb_cons wm711 (tb_cons wm712 (tb_cons wm713 (tb_cons wm1 k_Mf_weight))))) rfl rfl rfl (by decide +kernel) ⟨by rw [hRf]; exact Nat.le_of_ble_eq_true rfl, by rw [hRl]; exact Nat.le_of_ble_eq_true rfl⟩) hax rfl hB1 hB2 rfl (Nat.le_of_ble_eq_true rfl) d_La_weight_4) (fun r_4 G_1 B_2 p_3 => ?_)
    obtain ⟨hr9, hC9, hf9⟩ := p_3
    subst hr9
    have hao9 : G_1 ao = some (90, .inl (cA 1, 1, .inr (.inl of))) := hf9 _ _ hao (show ¬ (90 : Nat) < 70 by decide)
    have hle9 := CW3_le hC9
    refine gs (pc' := 8) (fun _ _ _ _ _ hl => lv_i2l (v := (iI (sp_weight S (iI p0)).2.1).toInt64) hx hb d_La_weight_7 (rfl)) ?_
    refine g_last hx hb hK 1 hao9 rfl (show vp_in (nI 0) 1 from vp_in_nI (by omega) (by omega)) d_La_weight_8 (fun G_5 f_6 o_7 => ?_)
    rw [nI_clamp (by omega)] at f_6
    have hfp : gfr (fun x => x = 90) G_1 G_5 := gfr_put gfr_rf hao9 rfl o_7
    refine gs (pc' := 15) (fun _ _ _ _ _ hl => lv_goto (tgt := 15) hx hb d_La_weight_9 (by decide)) ?_
    refine gs (pc' := 16) (fun _ _ _ _ _ hl => lv_iconst (v := nI 0) hx hb d_La_weight_15 (by decide)) ?_
    exact hret 16 _ _ _ _ d_La_weight_16 (Nat.le_trans hle9.1 hY1) (Nat.le_trans hle9.2 hY2) ⟨congrArg nI hk.symm, CW3_up hC9 hfp (fun x h9 => by have h9 : x = 90 := h9; omega), ⟨_, f_6, fun _ => if_pos rfl⟩, fun q9 y9 h9 n9 => hfp q9 y9 (hf9 q9 y9 h9 (fun z => n9 (Or.inl z))) (fun z => n9 (Or.inr z))⟩
  · skip
    refine gs (pc' := 1) (fun _ _ _ _ _ hl => lv_aload_n hx hb d_La_weight_0 rfl (lv_at hl 2 rfl)) ?_
    refine gs (pc' := 2) (fun _ _ _ _ _ hl => lv_iconst (v := nI 0) hx hb d_La_weight_1 (by decide)) ?_
    refine gs (pc' := 3) (fun _ _ _ _ _ hl => lv_aload_n hx hb d_La_weight_2 rfl (lv_at hl 0 rfl)) ?_
    refine gs (pc' := 4) (fun _ _ _ _ _ hl => lv_iload_n hx hb d_La_weight_3 rfl (lv_at hl 1 rfl)) ?_
    obtain ⟨en, hsp, hen⟩ := ex_1 hex
    have he1 : en.startPc = 0 := congrArg (fun z => z.1) hen
    have he2 : en.endPc = 9 := congrArg (fun z => z.2.1) hen
    have he3 : en.handlerPc = 12 := congrArg (fun z => z.2.2.1) hen
    have he4 : en.catchType = 15 := congrArg (fun z => z.2.2.2) hen
    refine g_catch (nm := "java/lang/IllegalArgumentException") (pre := []) (x := en) (rst := []) hlo hown (g_thrV (As := [.int (iI p0)]) (rest := [.int (nI 0), .ref ao]) ⟨hx, hb, hml, hown, hts⟩ hK hZ hRc hRs (t_Mf_weight1 l D cA lo MC MS G B X a S F V hC hW p0 hp01 hp02 hk (show X.1 + 1 ≤ MC by omega) (show X.2 + 6 ≤ MS by omega) hfl) (fun _ _ => cwV 1 hts (tb_good (tb_cons wm711 (tb_cons wm712 (tb_cons wm713 (tb_cons wm1 k_Mf_weight))))) rfl rfl rfl (by decide +kernel) ⟨by rw [hRf]; exact Nat.le_of_ble_eq_true rfl, by rw [hRl]; exact Nat.le_of_ble_eq_true rfl⟩) hax rfl hB1 hB2 rfl (Nat.le_of_ble_eq_true rfl) d_La_weight_4) hsp (fun y9 h9 => absurd h9 List.not_mem_nil) (by show (decide (en.startPc ≤ 4) && decide (4 < en.endPc)) = true; rw [he1, he2]; rfl) (by rw [he4]; decide) (by rw [he4]; exact hts _ wm294) (ca_of (hts _ wm17)) (fun v9 G9 B9 hp9 => ?_)
    cases hp9
    rw [he3]
    refine gst (pc' := 13) (L' := [(3, .ref v9), (0, .ref a.x), (1, .int (iI p0)), (2, .ref ao)]) (fun _ _ _ _ _ hl => lv_astore_n hx hb d_La_weight_12 rfl hl (by decide) rfl) ?_
    refine gs (pc' := 14) (fun _ _ _ _ _ hl => lv_iconst (v := nI 1) hx hb d_La_weight_13 (by decide)) ?_
    exact hret 14 _ _ _ _ d_La_weight_14 (show B.1 + 1 ≤ MC by omega) (show B.2 + 6 ≤ MS by omega) ⟨congrArg nI hk.symm, by rw [hS]; exact CW3_thr hC, ⟨_, hao, fun h9 => absurd (hk.symm.trans h9) (by decide)⟩, fun q9 y9 h9 _ => h9⟩
set_option maxHeartbeats 4000000 in
set_option maxRecDepth 100000 in
theorem c_La_share (l : Launch) (D : va_G) (cA : Nat → ClassId) (lo MC MS : Nat) (G : gT) (B : Nat × Nat) (X : Nat × Nat) (a : AX) (S : St) (F : Nat → Option Rat) (V : Nat → Nat) (hC : CW cA X a S F V (G, B)) (hW : WF S) (ao : Nat) (of : Nat → Int64) (hao : G ao = some (90, .inl (cA 1, 1, .inr (.inl of))))  (p0 : Int) (hp01 : -9223372036854775808 ≤ p0) (hp02 : p0 < 9223372036854775808) (p1 : Int) (hp11 : -2147483648 ≤ p1) (hp12 : p1 < 2147483648) (hY1 : X.1 + 6 ≤ MC) (hY2 : X.2 + 209 ≤ MS) (hfl : ∀ e : Env, l.admits e → e.platform.stackTraces = false) : gMet l y_La_share w_La_share 7 113 D clS (gtys cA) lo MC MS [.ref a.x, .long (lI p0), .int (iI p1), .ref ao] G B (gQi D clS lo (fun r u => r = nI (sp_share S p0 (iI p1)).1 ∧ CW3 cA (X.1 + 6, X.2 + 209) a (sp_share S p0 (iI p1)).2.2 u ∧ (∃ of1 : Nat → Int64, u.1 ao = some (90, .inl (cA 1, 1, .inr (.inl of1))) ∧ ((sp_share S p0 (iI p1)).1 = 0 → of1 0 = lI (sp_share S p0 (iI p1)).2.1)) ∧ gfr (fun x => x < 70 ∨ x = 90) G u.1)) := by
  refine g_metiW (cc := method_16_code) (nL := 6) (L := [(0, .ref a.x), (1, .long (lI p0)), (3, .int (iI p1)), (4, .ref ao)]) (by decide +kernel) rfl (Nat.le_of_ble_eq_true rfl) rfl ?_
  intro p e R s m args below meth c Q hF hRc hRs hRf hRl hex hret
  obtain ⟨hx, hb, hr, hml, hts0, hown, hlocks, hin, hK, hlo, hZ⟩ := hF
  have hts : ∀ w ∈ tbg, w.before args s = true := fun w h => hts0 w (List.mem_cons_of_mem _ h)
  have hle0 := w2_le hC.w
  have hB1 : B.1 ≤ MC := by omega
  have hB2 : B.2 ≤ MS := by omega
  have hax : G a.x = some (31, .inr (8, [.ref a.vs, .int (nI S.n), .ref a.rs, .int (nI S.rn), .ref a.ws, .ref a.ca, .ref (a.fr 0), .ref (a.fr 1), .ref (a.fr 2), .ref (a.fr 3), .ref a.zr, .ref a.fo, .ref a.ha, .ref a.si])) := hC.ob
  rcases ka_share (S := S) (p0 := p0) (p1 := iI p1) with hk | ⟨hk, hS⟩ | ⟨hk, hS⟩
  · skip
    refine gs (pc' := 2) (fun _ _ _ _ _ hl => lv_aload hx hb d_La_share_0 (lv_at hl 3 rfl)) ?_
    refine gs (pc' := 3) (fun _ _ _ _ _ hl => lv_iconst (v := nI 0) hx hb d_La_share_2 (by decide)) ?_
    refine gs (pc' := 4) (fun _ _ _ _ _ hl => lv_aload_n hx hb d_La_share_3 rfl (lv_at hl 0 rfl)) ?_
    refine gs (pc' := 5) (fun _ _ _ _ _ hl => lv_lload_n hx hb d_La_share_4 rfl (lv_at hl 1 rfl)) ?_
    refine gs (pc' := 6) (fun _ _ _ _ _ hl => lv_iload_n hx hb d_La_share_5 rfl (lv_at hl 2 rfl)) ?_
    refine g_outl hlo (g_runV (As := [.long (lI p0), .int (iI p1)]) (rest := [.int (nI 0), .ref ao]) ⟨hx, hb, hml, hown, hts⟩ hK hZ hRc hRs (c_Mf_share l D cA lo MC MS G B X a S F V hC hW p0 hp01 hp02 p1 hp11 hp12 hk hY1 hY2) (fun _ _ => cwV 2 hts (tb_good (tb_cons wm723 (tb_cons wm724 (tb_cons wm725 (tb_cons wm1 k_Mf_share))))) rfl rfl rfl (by decide +kernel) ⟨by rw [hRf]; exact Nat.le_of_ble_eq_true rfl, by rw [hRl]; exact Nat.le_of_ble_eq_true rfl⟩) hax rfl hB1 hB2 rfl (Nat.le_of_ble_eq_true rfl) d_La_share_6) (fun r_4 G_1 B_2 p_3 => ?_)
    obtain ⟨hr9, hC9, hf9⟩ := p_3
    subst hr9
    have hao9 : G_1 ao = some (90, .inl (cA 1, 1, .inr (.inl of))) := hf9 _ _ hao (show ¬ (90 : Nat) < 70 by decide)
    have hle9 := CW3_le hC9
    refine g_last hx hb hK 1 hao9 rfl (show vp_in (nI 0) 1 from vp_in_nI (by omega) (by omega)) d_La_share_9 (fun G_5 f_6 o_7 => ?_)
    rw [nI_clamp (by omega)] at f_6
    have hfp : gfr (fun x => x = 90) G_1 G_5 := gfr_put gfr_rf hao9 rfl o_7
    refine gs (pc' := 21) (fun _ _ _ _ _ hl => lv_goto (tgt := 21) hx hb d_La_share_10 (by decide)) ?_
    refine gs (pc' := 22) (fun _ _ _ _ _ hl => lv_iconst (v := nI 0) hx hb d_La_share_21 (by decide)) ?_
    exact hret 22 _ _ _ _ d_La_share_22 (Nat.le_trans hle9.1 hY1) (Nat.le_trans hle9.2 hY2) ⟨congrArg nI hk.symm, CW3_up hC9 hfp (fun x h9 => by have h9 : x = 90 := h9; omega), ⟨_, f_6, fun _ => if_pos rfl⟩, fun q9 y9 h9 n9 => hfp q9 y9 (hf9 q9 y9 h9 (fun z => n9 (Or.inl z))) (fun z => n9 (Or.inr z))⟩
  · skip
    refine gs (pc' := 2) (fun _ _ _ _ _ hl => lv_aload hx hb d_La_share_0 (lv_at hl 3 rfl)) ?_
    refine gs (pc' := 3) (fun _ _ _ _ _ hl => lv_iconst (v := nI 0) hx hb d_La_share_2 (by decide)) ?_
    refine gs (pc' := 4) (fun _ _ _ _ _ hl => lv_aload_n hx hb d_La_share_3 rfl (lv_at hl 0 rfl)) ?_
    refine gs (pc' := 5) (fun _ _ _ _ _ hl => lv_lload_n hx hb d_La_share_4 rfl (lv_at hl 1 rfl)) ?_
    refine gs (pc' := 6) (fun _ _ _ _ _ hl => lv_iload_n hx hb d_La_share_5 rfl (lv_at hl 2 rfl)) ?_
    obtain ⟨en0, en1, hsp, hen0, hen1⟩ := ex_2 hex
    have hen := hen0
    have he1 : en0.startPc = 0 := congrArg (fun z => z.1) hen
    have he2 : en0.endPc = 10 := congrArg (fun z => z.2.1) hen
    have he3 : en0.handlerPc = 13 := congrArg (fun z => z.2.2.1) hen
    have he4 : en0.catchType = 21 := congrArg (fun z => z.2.2.2) hen
    refine g_catch (nm := "java/lang/IndexOutOfBoundsException") (pre := []) (x := en0) (rst := [en1]) hlo hown (g_thrV (As := [.long (lI p0), .int (iI p1)]) (rest := [.int (nI 0), .ref ao]) ⟨hx, hb, hml, hown, hts⟩ hK hZ hRc hRs (t_Mf_share1 l D cA lo MC MS G B X a S F V hC hW p0 hp01 hp02 p1 hp11 hp12 hk (show X.1 + 1 ≤ MC by omega) (show X.2 + 6 ≤ MS by omega) hfl) (fun _ _ => cwV 2 hts (tb_good (tb_cons wm723 (tb_cons wm724 (tb_cons wm725 (tb_cons wm1 k_Mf_share))))) rfl rfl rfl (by decide +kernel) ⟨by rw [hRf]; exact Nat.le_of_ble_eq_true rfl, by rw [hRl]; exact Nat.le_of_ble_eq_true rfl⟩) hax rfl hB1 hB2 rfl (Nat.le_of_ble_eq_true rfl) d_La_share_6) hsp (fun y9 h9 => absurd h9 List.not_mem_nil) (by show (decide (en0.startPc ≤ 6) && decide (6 < en0.endPc)) = true; rw [he1, he2]; rfl) (by rw [he4]; decide) (by rw [he4]; exact hts _ wm534) (ca_of (hts _ wm19)) (fun v9 G9 B9 hp9 => ?_)
    cases hp9
    rw [he3]
    refine gst (pc' := 15) (L' := [(5, .ref v9), (0, .ref a.x), (1, .long (lI p0)), (3, .int (iI p1)), (4, .ref ao)]) (fun _ _ _ _ _ hl => lv_astore hx hb d_La_share_13 hl (by decide) rfl) ?_
    refine gs (pc' := 16) (fun _ _ _ _ _ hl => lv_iconst (v := nI 1) hx hb d_La_share_15 (by decide)) ?_
    exact hret 16 _ _ _ _ d_La_share_16 (show B.1 + 1 ≤ MC by omega) (show B.2 + 6 ≤ MS by omega) ⟨congrArg nI hk.symm, by rw [hS]; exact CW3_thr hC, ⟨_, hao, fun h9 => absurd (hk.symm.trans h9) (by decide)⟩, fun q9 y9 h9 _ => h9⟩
  · skip
    refine gs (pc' := 2) (fun _ _ _ _ _ hl => lv_aload hx hb d_La_share_0 (lv_at hl 3 rfl)) ?_
    refine gs (pc' := 3) (fun _ _ _ _ _ hl => lv_iconst (v := nI 0) hx hb d_La_share_2 (by decide)) ?_
    refine gs (pc' := 4) (fun _ _ _ _ _ hl => lv_aload_n hx hb d_La_share_3 rfl (lv_at hl 0 rfl)) ?_
    refine gs (pc' := 5) (fun _ _ _ _ _ hl => lv_lload_n hx hb d_La_share_4 rfl (lv_at hl 1 rfl)) ?_
    refine gs (pc' := 6) (fun _ _ _ _ _ hl => lv_iload_n hx hb d_La_share_5 rfl (lv_at hl 2 rfl)) ?_
    obtain ⟨en0, en1, hsp, hen0, hen1⟩ := ex_2 hex
    have hen := hen1
    have he1 : en1.startPc = 0 := congrArg (fun z => z.1) hen
    have he2 : en1.endPc = 10 := congrArg (fun z => z.2.1) hen
    have he3 : en1.handlerPc = 17 := congrArg (fun z => z.2.2.1) hen
    have he4 : en1.catchType = 15 := congrArg (fun z => z.2.2.2) hen
    refine g_catch (nm := "java/lang/IllegalArgumentException") (pre := [en0]) (x := en1) (rst := []) hlo hown (g_thrV (As := [.long (lI p0), .int (iI p1)]) (rest := [.int (nI 0), .ref ao]) ⟨hx, hb, hml, hown, hts⟩ hK hZ hRc hRs (t_Mf_share2 l D cA lo MC MS G B X a S F V hC hW p0 hp01 hp02 p1 hp11 hp12 hk (show X.1 + 1 ≤ MC by omega) (show X.2 + 6 ≤ MS by omega) hfl) (fun _ _ => cwV 2 hts (tb_good (tb_cons wm723 (tb_cons wm724 (tb_cons wm725 (tb_cons wm1 k_Mf_share))))) rfl rfl rfl (by decide +kernel) ⟨by rw [hRf]; exact Nat.le_of_ble_eq_true rfl, by rw [hRl]; exact Nat.le_of_ble_eq_true rfl⟩) hax rfl hB1 hB2 rfl (Nat.le_of_ble_eq_true rfl) d_La_share_6) hsp (fun y9 h9 => by
      have e9 : y9 = en0 := List.mem_singleton.mp h9
      subst e9
      have e8 : y9.catchType = 21 := congrArg (fun z => z.2.2.2) hen0
      rw [e8]
      exact ⟨by decide, _, hts _ wm534, no_of hZ (by simp [gNo])⟩) (by show (decide (en1.startPc ≤ 6) && decide (6 < en1.endPc)) = true; rw [he1, he2]; rfl) (by rw [he4]; decide) (by rw [he4]; exact hts _ wm294) (ca_of (hts _ wm17)) (fun v9 G9 B9 hp9 => ?_)
    cases hp9
    rw [he3]
    refine gst (pc' := 19) (L' := [(5, .ref v9), (0, .ref a.x), (1, .long (lI p0)), (3, .int (iI p1)), (4, .ref ao)]) (fun _ _ _ _ _ hl => lv_astore hx hb d_La_share_17 hl (by decide) rfl) ?_
    refine gs (pc' := 20) (fun _ _ _ _ _ hl => lv_iconst (v := nI 2) hx hb d_La_share_19 (by decide)) ?_
    exact hret 20 _ _ _ _ d_La_share_20 (show B.1 + 1 ≤ MC by omega) (show B.2 + 6 ≤ MS by omega) ⟨congrArg nI hk.symm, by rw [hS]; exact CW3_thr hC, ⟨_, hao, fun h9 => absurd (hk.symm.trans h9) (by decide)⟩, fun q9 y9 h9 _ => h9⟩
