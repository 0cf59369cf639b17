set_option maxHeartbeats 4000000 in
set_option maxRecDepth 100000 in
theorem c_Mf_isUnit (l : Launch) (D : va_G) (cA : Nat → ClassId) (lo MC MS : Nat) (G : gT) (B : Nat × Nat) (z : Int) (hz1 : -2147483648 ≤ z) (hz2 : z < 2147483648) (hB1 : B.1 ≤ MC) (hB2 : B.2 ≤ MS) : gMet l y_Mf_isUnit w_Mf_isUnit 0 0 D clS (gtys cA) lo MC MS [.int (iI z)] G B (gQi D clS lo (fun r u => u = (G, B) ∧ r = nI (b01 (decide (uok z))))) := by
  refine g_metz (cc := prog_1_method_19_code) (nL := 1) (L := [(0, .int (iI z))]) (by decide +kernel) rfl (Nat.le_of_ble_eq_true rfl) rfl ?_
  intro p e R s m args below meth c Q hF hRc hRs hRf hRl hret
  obtain ⟨hx, hb, hr, hml, hts0, hown, hlocks, hin, hK, hlo, hZ⟩ := hF
  have hts : ∀ w ∈ tbg, w.before args s = true := fun w h => hts0 w (List.mem_cons_of_mem _ h)
  refine gs (pc' := 1) (fun _ _ _ _ _ hl => lv_iload_n hx hb d_Mf_isUnit_0 rfl (lv_at hl 0 rfl)) ?_
  refine gs (pc' := 3) (fun _ _ _ _ _ hl => lv_bipush (v := (-6)) hx hb d_Mf_isUnit_1 (by decide)) ?_
  refine g_eqi (show (-6) = iI (-6) from by decide) ?_
  refine gsb (pc1 := 16) (pc2 := 6) (fun _ _ _ _ _ => lv_icmp_lt (tgt := 16) hx hb d_Mf_isUnit_3 (by decide)) (fun c_1 => ?_) (fun c_1 => ?_)
  · skip
    have nc_1 : z < (-6) := (ii_lt (a := z) (b := (-6)) (by omega) (by omega) (by omega) (by omega)).1 (by first | exact c_1 | (have z9 := c_1; simp only [nI_iI] at z9; exact z9))
    have hq : ¬ uok z := fun q9 => absurd q9.1 (by omega)
    refine gs (pc' := 17) (fun _ _ _ _ _ hl => lv_iconst (v := nI 0) hx hb d_Mf_isUnit_16 (by decide)) ?_
    exact hret 17 _ _ _ _ d_Mf_isUnit_17 hB1 hB2 (by decide) ⟨rfl, by rw [decide_eq_false hq]; rfl⟩
  · skip
    have nc_1 : z ≥ (-6) := (ii_lt (a := z) (b := (-6)) (by omega) (by omega) (by omega) (by omega)).2 (by first | exact c_1 | (have z9 := c_1; simp only [nI_iI] at z9; exact z9))
    refine gs (pc' := 7) (fun _ _ _ _ _ hl => lv_iload_n hx hb d_Mf_isUnit_6 rfl (lv_at hl 0 rfl)) ?_
    refine gs (pc' := 9) (fun _ _ _ _ _ hl => lv_bipush (v := nI 6) hx hb d_Mf_isUnit_7 (by decide)) ?_
    refine gsb (pc1 := 16) (pc2 := 12) (fun _ _ _ _ _ => lv_icmp_gt (tgt := 16) hx hb d_Mf_isUnit_9 (by decide)) (fun c_2 => ?_) (fun c_2 => ?_)
    · skip
      have nc_2 : z > ((6 : Nat) : Int) := (ii_gt (a := z) (b := ((6 : Nat) : Int)) (by omega) (by omega) (by omega) (by omega)).1 (by first | exact c_2 | (have z9 := c_2; simp only [nI_iI] at z9; exact z9))
      have hq : ¬ uok z := fun q9 => absurd q9.2 (by omega)
      refine gs (pc' := 17) (fun _ _ _ _ _ hl => lv_iconst (v := nI 0) hx hb d_Mf_isUnit_16 (by decide)) ?_
      exact hret 17 _ _ _ _ d_Mf_isUnit_17 hB1 hB2 (by decide) ⟨rfl, by rw [decide_eq_false hq]; rfl⟩
    · skip
      have nc_2 : z ≤ ((6 : Nat) : Int) := (ii_gt (a := z) (b := ((6 : Nat) : Int)) (by omega) (by omega) (by omega) (by omega)).2 (by first | exact c_2 | (have z9 := c_2; simp only [nI_iI] at z9; exact z9))
      have hq : uok z := ⟨by omega, by omega⟩
      refine gs (pc' := 13) (fun _ _ _ _ _ hl => lv_iconst (v := nI 1) hx hb d_Mf_isUnit_12 (by decide)) ?_
      refine gs (pc' := 17) (fun _ _ _ _ _ hl => lv_goto (tgt := 17) hx hb d_Mf_isUnit_13 (by decide)) ?_
      exact hret 17 _ _ _ _ d_Mf_isUnit_17 hB1 hB2 (by decide) ⟨rfl, by rw [decide_eq_true hq]; rfl⟩
set_option maxHeartbeats 4000000 in
set_option maxRecDepth 100000 in
theorem c_Mf_isFull (l : Launch) (D : va_G) (cA : Nat → ClassId) (lo MC MS : Nat) (G : gT) (B : Nat × Nat) (X : Nat × Nat) (a : AX) (S : St) (F : Nat → Option Rat) (V : Nat → Nat) (hC : CW cA X a S F V (G, B)) (hW : WF S) (hY1 : X.1 + 0 ≤ MC) (hY2 : X.2 + 0 ≤ MS) : gMet l y_Mf_isFull w_Mf_isFull 0 0 D clS (gtys cA) lo MC MS [.ref a.x] G B (gQi D clS lo (fun r u => u = (G, B) ∧ r = nI (b01 (decide (S.n = 200))))) := by
  refine g_metz (cc := prog_1_method_20_code) (nL := 1) (L := [(0, .ref a.x)]) (by decide +kernel) rfl (Nat.le_of_ble_eq_true rfl) rfl ?_
  intro p e R s m args below meth c Q hF hRc hRs hRf hRl hret
  obtain ⟨hx, hb, hr, hml, hts0, hown, hlocks, hin, hK, hlo, hZ⟩ := hF
  have hts : ∀ w ∈ tbg, w.before args s = true := fun w h => hts0 w (List.mem_cons_of_mem _ h)
  have hX1 : X.1 ≤ MC := by omega
  have hX2 : X.2 ≤ MS := by omega
  have hn := hW.n
  have hrn := hW.rn
  have hwn := hW.wn
  have bl_1 : B.1 ≤ MC := Nat.le_trans (w2_le hC.w).1 hX1
  have bl_2 : B.2 ≤ MS := Nat.le_trans (w2_le hC.w).2 hX2
  refine gs (pc' := 1) (fun _ _ _ _ _ hl => lv_aload_n hx hb d_Mf_isFull_0 rfl (lv_at hl 0 rfl)) ?_
  have f_3 : G a.x = some (31, .inr (8, [.ref a.vs, .int (nI S.n), .ref a.rs, .int (nI S.rn), .ref a.ws, .ref a.ca, .ref (a.fr 0), .ref (a.fr 1), .ref (a.fr 2), .ref (a.fr 3), .ref a.zr, .ref a.fo, .ref a.ha, .ref a.si])) := hC.ob
  refine g_get hx hb hts hin_Mf hown hK f_3 rfl 1 (by decide) (hts _ wm236) (fun _ h9 => h9) rfl d_Mf_isFull_1 ?_
  refine gs (pc' := 7) (fun _ _ _ _ _ hl => lv_sipush (v := nI 200) hx hb d_Mf_isFull_4 (by decide)) ?_
  refine gsb (pc1 := 14) (pc2 := 10) (fun _ _ _ _ _ => lv_icmp_lt (tgt := 14) hx hb d_Mf_isFull_7 (by decide)) (fun c_4 => ?_) (fun c_4 => ?_)
  · skip
    have nc_4 : S.n < 200 := (nn_lt (a := S.n) (b := 200) (by omega) (by omega)).1 c_4
    have hq : ¬ S.n = 200 := by omega
    refine gs (pc' := 15) (fun _ _ _ _ _ hl => lv_iconst (v := nI 0) hx hb d_Mf_isFull_14 (by decide)) ?_
    exact hret 15 _ _ _ _ d_Mf_isFull_15 bl_1 bl_2 (by decide) ⟨rfl, by rw [decide_eq_false hq]; rfl⟩
  · skip
    have nc_4 : S.n ≥ 200 := (nn_lt (a := S.n) (b := 200) (by omega) (by omega)).2 c_4
    have hq : S.n = 200 := by omega
    refine gs (pc' := 11) (fun _ _ _ _ _ hl => lv_iconst (v := nI 1) hx hb d_Mf_isFull_10 (by decide)) ?_
    refine gs (pc' := 15) (fun _ _ _ _ _ hl => lv_goto (tgt := 15) hx hb d_Mf_isFull_11 (by decide)) ?_
    exact hret 15 _ _ _ _ d_Mf_isFull_15 bl_1 bl_2 (by decide) ⟨rfl, by rw [decide_eq_true hq]; rfl⟩
set_option maxHeartbeats 4000000 in
set_option maxRecDepth 100000 in
theorem c_Mf_valueOf (l : Launch) (D : va_G) (cA : Nat → ClassId) (lo MC MS : Nat) (G : gT) (B : Nat × Nat) (X : Nat × Nat) (a : AX) (S : St) (F : Nat → Option Rat) (V : Nat → Nat) (hC : CW cA X a S F V (G, B)) (hW : WF S) (i : Nat) (hi : i < S.n) (hY1 : X.1 + 0 ≤ MC) (hY2 : X.2 + 0 ≤ MS) : gMet l y_Mf_valueOf w_Mf_valueOf 0 0 D clS (gtys cA) lo MC MS [.ref a.x, .int (nI i)] G B (gQr D clS lo (fun r u => u = (G, B) ∧ isV cA G r (S.v i) (S.un i))) := by
  refine g_metr (cc := prog_1_method_21_code) (nL := 2) (L := [(0, .ref a.x), (1, .int (nI i))]) (rt := ((.object "MetreFractions$Value"))) (by first | exact Or.inl ⟨_, rfl⟩ | exact Or.inr ⟨_, rfl⟩) (by decide +kernel) rfl (Nat.le_of_ble_eq_true rfl) rfl ?_
  intro p e R s m args below meth c Q hF hRc hRs hRf hRl hret
  obtain ⟨hx, hb, hr, hml, hts0, hown, hlocks, hin, hK, hlo, hZ⟩ := hF
  have hts : ∀ w ∈ tbg, w.before args s = true := fun w h => hts0 w (List.mem_cons_of_mem _ h)
  have hX1 : X.1 ≤ MC := by omega
  have hX2 : X.2 ≤ MS := by omega
  have hn := hW.n
  have hrn := hW.rn
  have hwn := hW.wn
  have bl_1 : B.1 ≤ MC := Nat.le_trans (w2_le hC.w).1 hX1
  have bl_2 : B.2 ≤ MS := Nat.le_trans (w2_le hC.w).2 hX2
  refine gs (pc' := 1) (fun _ _ _ _ _ hl => lv_iload_n hx hb d_Mf_valueOf_0 rfl (lv_at hl 1 rfl)) ?_
  refine gsb (pc1 := 21) (pc2 := 4) (fun _ _ _ _ _ => lv_if_lt (tgt := 21) hx hb d_Mf_valueOf_1 (by decide)) (fun c_3 => ?_) (fun c_3 => ?_)
  · skip
    have nc_3 : i < 0 := (n0_lt (a := i) (by omega)).1 c_3
    exact absurd nc_3 (by omega)
  · skip
    have nc_3 : i ≥ 0 := (n0_lt (a := i) (by omega)).2 c_3
    refine gs (pc' := 5) (fun _ _ _ _ _ hl => lv_iload_n hx hb d_Mf_valueOf_4 rfl (lv_at hl 1 rfl)) ?_
    refine gs (pc' := 6) (fun _ _ _ _ _ hl => lv_aload_n hx hb d_Mf_valueOf_5 rfl (lv_at hl 0 rfl)) ?_
    have f_4 : G a.x = some (31, .inr (8, [.ref a.vs, .int (nI S.n), .ref a.rs, .int (nI S.rn), .ref a.ws, .ref a.ca, .ref (a.fr 0), .ref (a.fr 1), .ref (a.fr 2), .ref (a.fr 3), .ref a.zr, .ref a.fo, .ref a.ha, .ref a.si])) := hC.ob
    refine g_get hx hb hts hin_Mf hown hK f_4 rfl 1 (by decide) (hts _ wm236) (fun _ h9 => h9) rfl d_Mf_valueOf_6 ?_
    refine gsb (pc1 := 21) (pc2 := 12) (fun _ _ _ _ _ => lv_icmp_ge (tgt := 21) hx hb d_Mf_valueOf_9 (by decide)) (fun c_5 => ?_) (fun c_5 => ?_)
    · skip
      have nc_5 : i ≥ S.n := (nn_ge (a := i) (b := S.n) (by omega) (by omega)).1 c_5
      exact absurd nc_5 (by omega)
    · skip
      have nc_5 : i < S.n := (nn_ge (a := i) (b := S.n) (by omega) (by omega)).2 c_5
      refine gs (pc' := 13) (fun _ _ _ _ _ hl => lv_aload_n hx hb d_Mf_valueOf_12 rfl (lv_at hl 0 rfl)) ?_
      refine g_get hx hb hts hin_Mf hown hK f_4 rfl 0 (by decide) (hts _ wm235) (fun _ h9 => h9) rfl d_Mf_valueOf_13 ?_
      refine gs (pc' := 17) (fun _ _ _ _ _ hl => lv_iload_n hx hb d_Mf_valueOf_16 rfl (lv_at hl 1 rfl)) ?_
      obtain ⟨vf_6, f_7, g_8⟩ := hC.vs
      have f_9 : G a.vs = some (32, .inl (cA 2, 200, .inr (.inr (.inr (.inr vf_6))))) := f_7
      obtain ⟨h_10, e_11, iv_12⟩ := g_8 i (by omega)
      refine g_aalS hx hb hK 2 f_9 rfl (by omega) (by decide) e_11 d_Mf_valueOf_17 ?_
      refine gs (pc' := 31) (fun _ _ _ _ _ hl => lv_ifnonnull (tgt := 31) hx hb d_Mf_valueOf_18 (by decide)) ?_
      refine gs (pc' := 32) (fun _ _ _ _ _ hl => lv_aload_n hx hb d_Mf_valueOf_31 rfl (lv_at hl 0 rfl)) ?_
      refine g_get hx hb hts hin_Mf hown hK f_4 rfl 0 (by decide) (hts _ wm235) (fun _ h9 => h9) rfl d_Mf_valueOf_32 ?_
      refine gs (pc' := 36) (fun _ _ _ _ _ hl => lv_iload_n hx hb d_Mf_valueOf_35 rfl (lv_at hl 1 rfl)) ?_
      obtain ⟨h_13, e_14, iv_15⟩ := g_8 i (by omega)
      refine g_aalS hx hb hK 2 f_9 rfl (by omega) (by decide) e_14 d_Mf_valueOf_36 ?_
      exact hret 37 _ _ _ _ d_Mf_valueOf_37 bl_1 bl_2 ⟨rfl, iv_15⟩
set_option maxHeartbeats 4000000 in
set_option maxRecDepth 100000 in
theorem t_Mf_valueOf (l : Launch) (D : va_G) (cA : Nat → ClassId) (lo MC MS : Nat) (G : gT) (B : Nat × Nat) (X : Nat × Nat) (a : AX) (S : St) (F : Nat → Option Rat) (V : Nat → Nat) (hC : CW cA X a S F V (G, B)) (hW : WF S) (z : Int) (hz1 : -2147483648 ≤ z) (hz2 : z < 2147483648) (hnz : ¬ (0 ≤ z ∧ z < S.n)) (hY1 : X.1 + 1 ≤ MC) (hY2 : X.2 + 6 ≤ MS) (hfl : ∀ e : Env, l.admits e → e.platform.stackTraces = false) : gMetT l y_Mf_valueOf w_Mf_valueOf 6 90 D clS (gtys cA) lo MC MS [.ref a.x, .int (iI z)] G B (gQx D clS lo "java/lang/IndexOutOfBoundsException" (fun u => u = (G, B.1 + 1, B.2 + 6))) := by
  refine g_mett (cc := prog_1_method_21_code) (nL := 2) (ret := (Option.some (.object "MetreFractions$Value"))) (L := [(0, .ref a.x), (1, .int (iI z))]) (by decide +kernel) rfl (Nat.le_of_ble_eq_true rfl) rfl ?_
  intro p e R s m args below meth c Q hF hRc hRs hRf hRl hne hQ
  obtain ⟨hx, hb, hr, hml, hts0, hown, hlocks, hin, hK, hlo, hZ⟩ := hF
  have hts : ∀ w ∈ tbg, w.before args s = true := fun w h => hts0 w (List.mem_cons_of_mem _ h)
  have hX1 : X.1 ≤ MC := by omega
  have hX2 : X.2 ≤ MS := by omega
  have hn := hW.n
  have hrn := hW.rn
  have hwn := hW.wn
  have bl_1 : B.1 ≤ MC := Nat.le_trans (w2_le hC.w).1 hX1
  have bl_2 : B.2 ≤ MS := Nat.le_trans (w2_le hC.w).2 hX2
  refine gs (pc' := 1) (fun _ _ _ _ _ hl => lv_iload_n hx hb d_Mf_valueOf_0 rfl (lv_at hl 1 rfl)) ?_
  refine gsb (pc1 := 21) (pc2 := 4) (fun _ _ _ _ _ => lv_if_lt (tgt := 21) hx hb d_Mf_valueOf_1 (by decide)) (fun c_3 => ?_) (fun c_3 => ?_)
  · skip
    have nc_3 : z < 0 := (ii_lt (a := z) (b := 0) (by omega) (by omega) (by omega) (by omega)).1 (by first | exact c_3 | (have z9 := c_3; simp only [nI_iI] at z9; exact z9))
    have le_4 := w2_le hC.w
    exact g_throw (tx := "no such value") (post := fun u => u = (G, B.1 + 1, B.2 + 6)) hx hb hml hown hts hlo hZ hfl hlocks hne (fun U h h1 h2 => own_Iob h h1 h2) (by decide +kernel) wm543 wm544 wm19 (by decide) hRc hRs (by rw [hRf]; exact Nat.le_of_ble_eq_true rfl) (by rw [hRl]; exact Nat.le_of_ble_eq_true rfl) (by have := le_4.1; omega) (by have := le_4.2; omega) d_Mf_valueOf_21 d_Mf_valueOf_24 d_Mf_valueOf_25 d_Mf_valueOf_27 d_Mf_valueOf_30 rfl hQ
  · skip
    have nc_3 : z ≥ 0 := (ii_lt (a := z) (b := 0) (by omega) (by omega) (by omega) (by omega)).2 (by first | exact c_3 | (have z9 := c_3; simp only [nI_iI] at z9; exact z9))
    refine gs (pc' := 5) (fun _ _ _ _ _ hl => lv_iload_n hx hb d_Mf_valueOf_4 rfl (lv_at hl 1 rfl)) ?_
    refine gs (pc' := 6) (fun _ _ _ _ _ hl => lv_aload_n hx hb d_Mf_valueOf_5 rfl (lv_at hl 0 rfl)) ?_
    have f_5 : G a.x = some (31, .inr (8, [.ref a.vs, .int (nI S.n), .ref a.rs, .int (nI S.rn), .ref a.ws, .ref a.ca, .ref (a.fr 0), .ref (a.fr 1), .ref (a.fr 2), .ref (a.fr 3), .ref a.zr, .ref a.fo, .ref a.ha, .ref a.si])) := hC.ob
    refine g_get hx hb hts hin_Mf hown hK f_5 rfl 1 (by decide) (hts _ wm236) (fun _ h9 => h9) rfl d_Mf_valueOf_6 ?_
    refine gsb (pc1 := 21) (pc2 := 12) (fun _ _ _ _ _ => lv_icmp_ge (tgt := 21) hx hb d_Mf_valueOf_9 (by decide)) (fun c_6 => ?_) (fun c_6 => ?_)
    · skip
      have nc_6 : z ≥ ((S.n : Nat) : Int) := (ii_ge (a := z) (b := ((S.n : Nat) : Int)) (by omega) (by omega) (by omega) (by omega)).1 (by first | exact c_6 | (have z9 := c_6; simp only [nI_iI] at z9; exact z9))
      have le_7 := w2_le hC.w
      exact g_throw (tx := "no such value") (post := fun u => u = (G, B.1 + 1, B.2 + 6)) hx hb hml hown hts hlo hZ hfl hlocks hne (fun U h h1 h2 => own_Iob h h1 h2) (by decide +kernel) wm543 wm544 wm19 (by decide) hRc hRs (by rw [hRf]; exact Nat.le_of_ble_eq_true rfl) (by rw [hRl]; exact Nat.le_of_ble_eq_true rfl) (by have := le_7.1; omega) (by have := le_7.2; omega) d_Mf_valueOf_21 d_Mf_valueOf_24 d_Mf_valueOf_25 d_Mf_valueOf_27 d_Mf_valueOf_30 rfl hQ
    · skip
      have nc_6 : z < ((S.n : Nat) : Int) := (ii_ge (a := z) (b := ((S.n : Nat) : Int)) (by omega) (by omega) (by omega) (by omega)).2 (by first | exact c_6 | (have z9 := c_6; simp only [nI_iI] at z9; exact z9))
      exact absurd nc_6 (fun q9 => hnz ⟨by omega, by omega⟩)
set_option maxHeartbeats 4000000 in
set_option maxRecDepth 100000 in
theorem c_Mf_rowOf (l : Launch) (D : va_G) (cA : Nat → ClassId) (lo MC MS : Nat) (G : gT) (B : Nat × Nat) (X : Nat × Nat) (a : AX) (S : St) (F : Nat → Option Rat) (V : Nat → Nat) (hC : CW cA X a S F V (G, B)) (hW : WF S) (i : Nat) (hi : i < S.rn) (hY1 : X.1 + 0 ≤ MC) (hY2 : X.2 + 0 ≤ MS) : gMet l y_Mf_rowOf w_Mf_rowOf 0 0 D clS (gtys cA) lo MC MS [.ref a.x, .int (nI i)] G B (gQr D clS lo (fun r u => u = (G, B) ∧ r = a.ro i)) := by
  refine g_metr (cc := prog_1_method_22_code) (nL := 2) (L := [(0, .ref a.x), (1, .int (nI i))]) (rt := ((.object "MetreFractions$Row"))) (by first | exact Or.inl ⟨_, rfl⟩ | exact Or.inr ⟨_, rfl⟩) (by decide +kernel) rfl (Nat.le_of_ble_eq_true rfl) rfl ?_
  intro p e R s m args below meth c Q hF hRc hRs hRf hRl hret
  obtain ⟨hx, hb, hr, hml, hts0, hown, hlocks, hin, hK, hlo, hZ⟩ := hF
  have hts : ∀ w ∈ tbg, w.before args s = true := fun w h => hts0 w (List.mem_cons_of_mem _ h)
  have hX1 : X.1 ≤ MC := by omega
  have hX2 : X.2 ≤ MS := by omega
  have hn := hW.n
  have hrn := hW.rn
  have hwn := hW.wn
  have bl_1 : B.1 ≤ MC := Nat.le_trans (w2_le hC.w).1 hX1
  have bl_2 : B.2 ≤ MS := Nat.le_trans (w2_le hC.w).2 hX2
  refine gs (pc' := 1) (fun _ _ _ _ _ hl => lv_iload_n hx hb d_Mf_rowOf_0 rfl (lv_at hl 1 rfl)) ?_
  refine gsb (pc1 := 12) (pc2 := 4) (fun _ _ _ _ _ => lv_if_lt (tgt := 12) hx hb d_Mf_rowOf_1 (by decide)) (fun c_3 => ?_) (fun c_3 => ?_)
  · skip
    have nc_3 : i < 0 := (n0_lt (a := i) (by omega)).1 c_3
    exact absurd nc_3 (by omega)
  · skip
    have nc_3 : i ≥ 0 := (n0_lt (a := i) (by omega)).2 c_3
    refine gs (pc' := 5) (fun _ _ _ _ _ hl => lv_iload_n hx hb d_Mf_rowOf_4 rfl (lv_at hl 1 rfl)) ?_
    refine gs (pc' := 6) (fun _ _ _ _ _ hl => lv_aload_n hx hb d_Mf_rowOf_5 rfl (lv_at hl 0 rfl)) ?_
    have f_4 : G a.x = some (31, .inr (8, [.ref a.vs, .int (nI S.n), .ref a.rs, .int (nI S.rn), .ref a.ws, .ref a.ca, .ref (a.fr 0), .ref (a.fr 1), .ref (a.fr 2), .ref (a.fr 3), .ref a.zr, .ref a.fo, .ref a.ha, .ref a.si])) := hC.ob
    refine g_get hx hb hts hin_Mf hown hK f_4 rfl 3 (by decide) (hts _ wm238) (fun _ h9 => h9) rfl d_Mf_rowOf_6 ?_
    refine gsb (pc1 := 22) (pc2 := 12) (fun _ _ _ _ _ => lv_icmp_lt (tgt := 22) hx hb d_Mf_rowOf_9 (by decide)) (fun c_5 => ?_) (fun c_5 => ?_)
    · skip
      have nc_5 : i < S.rn := (nn_lt (a := i) (b := S.rn) (by omega) (by omega)).1 c_5
      refine gs (pc' := 23) (fun _ _ _ _ _ hl => lv_aload_n hx hb d_Mf_rowOf_22 rfl (lv_at hl 0 rfl)) ?_
      refine g_get hx hb hts hin_Mf hown hK f_4 rfl 2 (by decide) (hts _ wm237) (fun _ h9 => h9) rfl d_Mf_rowOf_23 ?_
      refine gs (pc' := 27) (fun _ _ _ _ _ hl => lv_iload_n hx hb d_Mf_rowOf_26 rfl (lv_at hl 1 rfl)) ?_
      obtain ⟨vf_6, f_7, g_8⟩ := hC.rs
      have f_9 : G a.rs = some (33, .inl (cA 3, 8, .inr (.inr (.inr (.inr vf_6))))) := f_7
      refine g_aalS hx hb hK 3 f_9 rfl (by omega) (by decide) (g_8 i (by omega)) d_Mf_rowOf_27 ?_
      exact hret 28 _ _ _ _ d_Mf_rowOf_28 bl_1 bl_2 ⟨rfl, rfl⟩
    · skip
      have nc_5 : i ≥ S.rn := (nn_lt (a := i) (b := S.rn) (by omega) (by omega)).2 c_5
      exact absurd nc_5 (by omega)
set_option maxHeartbeats 4000000 in
set_option maxRecDepth 100000 in
theorem t_Mf_rowOf (l : Launch) (D : va_G) (cA : Nat → ClassId) (lo MC MS : Nat) (G : gT) (B : Nat × Nat) (X : Nat × Nat) (a : AX) (S : St) (F : Nat → Option Rat) (V : Nat → Nat) (hC : CW cA X a S F V (G, B)) (hW : WF S) (z : Int) (hz1 : -2147483648 ≤ z) (hz2 : z < 2147483648) (hnz : ¬ (0 ≤ z ∧ z < S.rn)) (hY1 : X.1 + 1 ≤ MC) (hY2 : X.2 + 6 ≤ MS) (hfl : ∀ e : Env, l.admits e → e.platform.stackTraces = false) : gMetT l y_Mf_rowOf w_Mf_rowOf 6 90 D clS (gtys cA) lo MC MS [.ref a.x, .int (iI z)] G B (gQx D clS lo "java/lang/IndexOutOfBoundsException" (fun u => u = (G, B.1 + 1, B.2 + 6))) := by
  refine g_mett (cc := prog_1_method_22_code) (nL := 2) (ret := (Option.some (.object "MetreFractions$Row"))) (L := [(0, .ref a.x), (1, .int (iI z))]) (by decide +kernel) rfl (Nat.le_of_ble_eq_true rfl) rfl ?_
  intro p e R s m args below meth c Q hF hRc hRs hRf hRl hne hQ
  obtain ⟨hx, hb, hr, hml, hts0, hown, hlocks, hin, hK, hlo, hZ⟩ := hF
  have hts : ∀ w ∈ tbg, w.before args s = true := fun w h => hts0 w (List.mem_cons_of_mem _ h)
  have hX1 : X.1 ≤ MC := by omega
  have hX2 : X.2 ≤ MS := by omega
  have hn := hW.n
  have hrn := hW.rn
  have hwn := hW.wn
  have bl_1 : B.1 ≤ MC := Nat.le_trans (w2_le hC.w).1 hX1
  have bl_2 : B.2 ≤ MS := Nat.le_trans (w2_le hC.w).2 hX2
  refine gs (pc' := 1) (fun _ _ _ _ _ hl => lv_iload_n hx hb d_Mf_rowOf_0 rfl (lv_at hl 1 rfl)) ?_
  refine gsb (pc1 := 12) (pc2 := 4) (fun _ _ _ _ _ => lv_if_lt (tgt := 12) hx hb d_Mf_rowOf_1 (by decide)) (fun c_3 => ?_) (fun c_3 => ?_)
  · skip
    have nc_3 : z < 0 := (ii_lt (a := z) (b := 0) (by omega) (by omega) (by omega) (by omega)).1 (by first | exact c_3 | (have z9 := c_3; simp only [nI_iI] at z9; exact z9))
    have le_4 := w2_le hC.w
    exact g_throw (tx := "no such row") (post := fun u => u = (G, B.1 + 1, B.2 + 6)) hx hb hml hown hts hlo hZ hfl hlocks hne (fun U h h1 h2 => own_Iob h h1 h2) (by decide +kernel) wm543 wm544 wm19 (by decide) hRc hRs (by rw [hRf]; exact Nat.le_of_ble_eq_true rfl) (by rw [hRl]; exact Nat.le_of_ble_eq_true rfl) (by have := le_4.1; omega) (by have := le_4.2; omega) d_Mf_rowOf_12 d_Mf_rowOf_15 d_Mf_rowOf_16 d_Mf_rowOf_18 d_Mf_rowOf_21 rfl hQ
  · skip
    have nc_3 : z ≥ 0 := (ii_lt (a := z) (b := 0) (by omega) (by omega) (by omega) (by omega)).2 (by first | exact c_3 | (have z9 := c_3; simp only [nI_iI] at z9; exact z9))
    refine gs (pc' := 5) (fun _ _ _ _ _ hl => lv_iload_n hx hb d_Mf_rowOf_4 rfl (lv_at hl 1 rfl)) ?_
    refine gs (pc' := 6) (fun _ _ _ _ _ hl => lv_aload_n hx hb d_Mf_rowOf_5 rfl (lv_at hl 0 rfl)) ?_
    have f_5 : G a.x = some (31, .inr (8, [.ref a.vs, .int (nI S.n), .ref a.rs, .int (nI S.rn), .ref a.ws, .ref a.ca, .ref (a.fr 0), .ref (a.fr 1), .ref (a.fr 2), .ref (a.fr 3), .ref a.zr, .ref a.fo, .ref a.ha, .ref a.si])) := hC.ob
    refine g_get hx hb hts hin_Mf hown hK f_5 rfl 3 (by decide) (hts _ wm238) (fun _ h9 => h9) rfl d_Mf_rowOf_6 ?_
    refine gsb (pc1 := 22) (pc2 := 12) (fun _ _ _ _ _ => lv_icmp_lt (tgt := 22) hx hb d_Mf_rowOf_9 (by decide)) (fun c_6 => ?_) (fun c_6 => ?_)
    · skip
      have nc_6 : z < ((S.rn : Nat) : Int) := (ii_lt (a := z) (b := ((S.rn : Nat) : Int)) (by omega) (by omega) (by omega) (by omega)).1 (by first | exact c_6 | (have z9 := c_6; simp only [nI_iI] at z9; exact z9))
      exact absurd nc_6 (fun q9 => hnz ⟨by omega, by omega⟩)
    · skip
      have nc_6 : z ≥ ((S.rn : Nat) : Int) := (ii_lt (a := z) (b := ((S.rn : Nat) : Int)) (by omega) (by omega) (by omega) (by omega)).2 (by first | exact c_6 | (have z9 := c_6; simp only [nI_iI] at z9; exact z9))
      have le_7 := w2_le hC.w
      exact g_throw (tx := "no such row") (post := fun u => u = (G, B.1 + 1, B.2 + 6)) hx hb hml hown hts hlo hZ hfl hlocks hne (fun U h h1 h2 => own_Iob h h1 h2) (by decide +kernel) wm543 wm544 wm19 (by decide) hRc hRs (by rw [hRf]; exact Nat.le_of_ble_eq_true rfl) (by rw [hRl]; exact Nat.le_of_ble_eq_true rfl) (by have := le_7.1; omega) (by have := le_7.2; omega) d_Mf_rowOf_12 d_Mf_rowOf_15 d_Mf_rowOf_16 d_Mf_rowOf_18 d_Mf_rowOf_21 rfl hQ
set_option maxHeartbeats 4000000 in
set_option maxRecDepth 100000 in
theorem c_Mf_keep0 (l : Launch) (D : va_G) (cA : Nat → ClassId) (lo MC MS : Nat) (G : gT) (B : Nat × Nat) (X : Nat × Nat) (a : AX) (S : St) (F : Nat → Option Rat) (V : Nat → Nat) (hC : CW cA X a S F V (G, B)) (hW : WF S) (rr : Rat) (hF : F 0 = some rr) (k : Nat) (hrb : rb rr k) (hkk : k ≤ 1500) (z : Int) (hnf : ¬ S.n = 200) (hY1 : X.1 + 6 ≤ MC) (hY2 : X.2 + 209 ≤ MS) : gMet l y_Mf_keep w_Mf_keep 6 146 D clS (gtys cA) lo MC MS [.ref a.x, .ref (a.fr 0), .int (iI z)] G B (gQi D clS lo (fun r u => r = iI (kp S rr z).2.1 ∧ CW3 cA (X.1 + 6, X.2 + 209) a (kp S rr z).2.2 u ∧ gfr (fun x => x < 70) G u.1)) := by
  refine g_meti (cc := prog_1_method_23_code) (nL := 3) (L := [(0, .ref a.x), (1, .ref (a.fr 0)), (2, .int (iI z))]) (by decide +kernel) rfl (Nat.le_of_ble_eq_true rfl) rfl ?_
  intro p e R s m args below meth c Q hF hRc hRs hRf hRl hret
  obtain ⟨hx, hb, hr, hml, hts0, hown, hlocks, hin, hK, hlo, hZ⟩ := hF
  have hts : ∀ w ∈ tbg, w.before args s = true := fun w h => hts0 w (List.mem_cons_of_mem _ h)
  have hX1 : X.1 ≤ MC := by omega
  have hX2 : X.2 ≤ MS := by omega
  have hn := hW.n
  have hrn := hW.rn
  have hwn := hW.wn
  have bl_1 : B.1 ≤ MC := Nat.le_trans (w2_le hC.w).1 hX1
  have bl_2 : B.2 ≤ MS := Nat.le_trans (w2_le hC.w).2 hX2
  have hle := w2_le hC.w
  have hle1 : B.1 ≤ X.1 := hle.1
  have hle2 : B.2 ≤ X.2 := hle.2
  refine gs (pc' := 1) (fun _ _ _ _ _ hl => lv_aload_n hx hb d_Mf_keep_0 rfl (lv_at hl 0 rfl)) ?_
  have f_3 : G a.x = some (31, .inr (8, [.ref a.vs, .int (nI S.n), .ref a.rs, .int (nI S.rn), .ref a.ws, .ref a.ca, .ref (a.fr 0), .ref (a.fr 1), .ref (a.fr 2), .ref (a.fr 3), .ref a.zr, .ref a.fo, .ref a.ha, .ref a.si])) := hC.ob
  refine g_outi hlo (g_runV (As := []) (rest := []) ⟨hx, hb, hml, hown, hts⟩ hK hZ hRc hRs (c_Mf_isFull l D cA lo MC MS G B X a S F V hC hW hX1 hX2) (fun _ _ => cwV 0 hts (tb_good (tb_cons wm386 (tb_cons wm388 (tb_cons ws1 (tb_cons wm1 k_Mf_isFull))))) rfl rfl rfl (by decide +kernel) ⟨by rw [hRf]; exact Nat.le_of_ble_eq_true rfl, by rw [hRl]; exact Nat.le_of_ble_eq_true rfl⟩) f_3 rfl bl_1 bl_2 rfl (Nat.le_of_ble_eq_true rfl) d_Mf_keep_1) (fun r_7 G_4 B_5 p_6 => ?_)
  obtain ⟨u_8, e_9⟩ := p_6
  cases u_8
  subst e_9
  have bd_10 := b01_le (decide (S.n = 200))
  refine gsb (pc1 := 10) (pc2 := 7) (fun _ _ _ _ _ => lv_if_eq (tgt := 10) hx hb d_Mf_keep_4 (by decide)) (fun c_11 => ?_) (fun c_11 => ?_)
  · skip
    have nc_11 : (b01 (decide (S.n = 200))) = 0 := (n0_eq (a := (b01 (decide (S.n = 200)))) (by omega)).1 c_11
    refine gs (pc' := 11) (fun _ _ _ _ _ hl => lv_aload_n hx hb d_Mf_keep_10 rfl (lv_at hl 1 rfl)) ?_
    obtain ⟨sg_12, f_13, g_14⟩ := hC.fr 0 (by decide)
    have f_15 : G (a.fr 0) = some (20 + 0, .inr (3, [.int sg_12, .ref (a.ad (11 + 2 * 0)), .ref (a.ad (12 + 2 * 0))])) := f_13
    refine g_outi hlo (g_runV (As := []) (rest := []) ⟨hx, hb, hml, hown, hts⟩ hK hZ hRc hRs (c3_long l D cA lo MC MS G B X a S F V hC hX1 hX2 0 (by decide) rr hF k hrb hkk) (fun _ _ => cwV 0 hts (tb_good (tb_cons wm499 (tb_cons wm500 (tb_cons wm501 (tb_cons wm8 k_Fr_isLong))))) rfl rfl rfl (by decide +kernel) ⟨by rw [hRf]; exact Nat.le_of_ble_eq_true rfl, by rw [hRl]; exact Nat.le_of_ble_eq_true rfl⟩) f_15 rfl bl_1 bl_2 rfl (Nat.le_of_ble_eq_true rfl) d_Mf_keep_11) (fun r_19 G_16 B_17 p_18 => ?_)
    obtain ⟨u_20, v_21⟩ := p_18
    cases u_20
    have e_22 := b01_or v_21
    subst e_22
    have bd_23 := b01_le (decide (lng rr))
    refine gsb (pc1 := 20) (pc2 := 17) (fun _ _ _ _ _ => lv_if_eq (tgt := 20) hx hb d_Mf_keep_14 (by decide)) (fun c_24 => ?_) (fun c_24 => ?_)
    · skip
      have nc_24 : (b01 (decide (lng rr))) = 0 := (n0_eq (a := (b01 (decide (lng rr)))) (by omega)).1 c_24
      have hl := b01_0 nc_24
      refine gs (pc' := 21) (fun _ _ _ _ _ hl => lv_aload_n hx hb d_Mf_keep_20 rfl (lv_at hl 0 rfl)) ?_
      refine g_get hx hb hts hin_Mf hown hK f_3 rfl 0 (by decide) (hts _ wm235) (fun _ h9 => h9) rfl d_Mf_keep_21 ?_
      refine gs (pc' := 25) (fun _ _ _ _ _ hl => lv_aload_n hx hb d_Mf_keep_24 rfl (lv_at hl 0 rfl)) ?_
      refine g_get hx hb hts hin_Mf hown hK f_3 rfl 1 (by decide) (hts _ wm236) (fun _ h9 => h9) rfl d_Mf_keep_25 ?_
      refine g_new hx hb hts hin_Va ty_Va ty_Va_ok hown (hts _ wm28) (hts _ wm508) (hts _ wm18) hK (ci := 6) rfl (fs := [.null, .int (nI 0)]) (fun j => match j with | 0 => fun _ => rfl | 1 => fun _ => rfl | n + 2 => fun h9 => absurd h9 (by omega)) hlo hRc hRs (by omega) (by omega) d_Mf_keep_28 30 (fun q_25 G_26 z_27 f_28 o_29 => ?_)
      have f_30 : G_26 a.x = some (31, .inr (8, [.ref a.vs, .int (nI S.n), .ref a.rs, .int (nI S.rn), .ref a.ws, .ref a.ca, .ref (a.fr 0), .ref (a.fr 1), .ref (a.fr 2), .ref (a.fr 3), .ref a.zr, .ref a.fo, .ref a.ha, .ref a.si])) := (o_29 _ (fun e => by subst e; rw [f_3] at z_27; cases z_27)).trans f_3
      have f_31 : G_26 (a.fr 0) = some (20 + 0, .inr (3, [.int sg_12, .ref (a.ad (11 + 2 * 0)), .ref (a.ad (12 + 2 * 0))])) := (o_29 _ (fun e => by subst e; rw [f_15] at z_27; cases z_27)).trans f_15
      have C_32 : CW cA (X.1 + 1, X.2 + 2) a S F V (G_26, (B.1 + 1, B.2 + 2)) := hC.move (M := fun _ => False) (gfr_new gfr_rf z_27 o_29) (fun _ z9 => z9.elim) (show B.1 + 1 + X.1 ≤ B.1 + (X.1 + 1) by omega) (show B.2 + 2 + X.2 ≤ B.2 + (X.2 + 2) by omega)
      refine gs (pc' := 32) (fun _ _ _ _ _ hl => lv_dup hx hb d_Mf_keep_31 rfl) ?_
      refine gs (pc' := 33) (fun _ _ _ _ _ hl => lv_aload_n hx hb d_Mf_keep_32 rfl (lv_at hl 1 rfl)) ?_
      obtain ⟨sg_33, f_34, g_35⟩ := C_32.fr 0 (by decide)
      have f_36 : G_26 (a.fr 0) = some (20 + 0, .inr (3, [.int sg_33, .ref (a.ad (11 + 2 * 0)), .ref (a.ad (12 + 2 * 0))])) := f_34
      refine g_outr hlo (g_runV (As := []) (rest := [.ref q_25, .ref q_25, .int (nI S.n), .ref a.vs]) ⟨hx, hb, hml, hown, hts⟩ hK hZ hRc hRs (c3_copy l D cA lo MC MS G_26 (B.1 + 1, B.2 + 2) (X.1 + 1, X.2 + 2) a S F V C_32 0 (by decide) rr hF hl (show B.1 + 1 + 5 ≤ MC by omega) (show B.2 + 2 + 207 ≤ MS by omega)) (fun _ _ => cwV 0 hts (tb_good (tb_cons wm509 (tb_cons wm510 (tb_cons wm511 (tb_cons wm8 k_Fr_copy))))) rfl rfl rfl (by decide +kernel) ⟨by rw [hRf]; exact Nat.le_of_ble_eq_true rfl, by rw [hRl]; exact Nat.le_of_ble_eq_true rfl⟩) f_36 rfl (show B.1 + 1 ≤ MC by omega) (show B.2 + 2 ≤ MS by omega) rfl (Nat.le_of_ble_eq_true rfl) d_Mf_keep_33) (fun r_40 G_37 B_38 p_39 => ?_)
      obtain ⟨gx_41, kq_42, b_43, b_44⟩ := p_39
      have b_43x : B_38.1 ≤ B.1 + 1 + 5 := b_43
      have b_44x : B_38.2 ≤ B.2 + 2 + 207 := b_44
      have f_45 : G_37 q_25 = some (30, .inr (6, [.null, .int (nI 0)])) := gx_41 _ _ f_28 (fun z9 => z9)
      refine gs (pc' := 37) (fun _ _ _ _ _ hl => lv_iload_n hx hb d_Mf_keep_36 rfl (lv_at hl 2 rfl)) ?_
      refine g_outv hlo (g_runI (b := q_25) (As := [.ref r_40, .int (iI z)]) (rest := [.ref q_25, .int (nI S.n), .ref a.vs]) ⟨hx, hb, hml, hown, hts⟩ hK hZ hRc hRs (c_Va_init l D cA lo MC MS G_37 B_38 30 q_25 r_40 (iI z) f_45 (show B_38.1 ≤ MC by omega) (show B_38.2 ≤ MS by omega)) (fun _ _ => cwI 2 hts (tb_good k_Va_init) rfl rfl rfl (hts _ wm18) (hts _ wm518) (hts _ wm519) rfl (by decide +kernel) ⟨by rw [hRf]; exact Nat.le_of_ble_eq_true rfl, by rw [hRl]; exact Nat.le_of_ble_eq_true rfl⟩) (show B_38.1 ≤ MC by omega) (show B_38.2 ≤ MS by omega) rfl (Nat.le_of_ble_eq_true rfl) d_Mf_keep_37) (fun G_46 B_47 p_48 => ?_)
      obtain ⟨f_49, gx_50, e_51⟩ := p_48
      have e_51b : B_47 = B_38 := e_51
      subst e_51b
      have gx_52 : gex (fun _ => False) G G_46 := fun y9 z9 hy9 _ => gx_50 y9 z9 (gx_41 y9 z9 ((o_29 y9 (fun e9 => by subst e9; rw [hy9] at z_27; cases z_27)).trans hy9) (fun h9 => h9)) (fun e9 => by subst e9; rw [hy9] at z_27; cases z_27)
      have C_53 : CW cA (X.1 + 6, X.2 + 209) a S F V (G_46, B_47) := hC.move (M := fun _ => False) (gfr_ex gx_52) (fun _ z9 => z9.elim) (show B_47.1 + X.1 ≤ B.1 + (X.1 + 6) by omega) (show B_47.2 + X.2 ≤ B.2 + (X.2 + 209) by omega)
      have iv_54 : isV cA G_46 q_25 rr z := ⟨r_40, f_49, kq_val kq_42 f_45 gx_50⟩
      obtain ⟨vf_55, f_56, g_57⟩ := C_53.vs
      have f_58 : G_46 a.vs = some (32, .inl (cA 2, 200, .inr (.inr (.inr (.inr vf_55))))) := f_56
      have f_59 : G_46 a.x = some (31, .inr (8, [.ref a.vs, .int (nI S.n), .ref a.rs, .int (nI S.rn), .ref a.ws, .ref a.ca, .ref (a.fr 0), .ref (a.fr 1), .ref (a.fr 2), .ref (a.fr 3), .ref a.zr, .ref a.fo, .ref a.ha, .ref a.si])) := C_53.ob
      have hgf0 : gfr (fun x => x = 31 ∨ x = 32) G_46 G_46 := gfr_rf
      refine g_aast hx hb hK 2 6 f_58 rfl f_49 rfl (show vp_in (nI S.n) 200 from vp_in_nI (by omega) (by omega)) d_Mf_keep_40 (fun G_60 f_61 o_62 => ?_)
      rw [nI_clamp (by omega)] at f_61
      have f_63 : G_60 q_25 = some (30, .inr (6, [.ref r_40, .int (iI z)])) := (o_62 _ (gne f_49 f_58 (fun e => by cases e))).trans f_49
      have f_64 : G_60 a.x = some (31, .inr (8, [.ref a.vs, .int (nI S.n), .ref a.rs, .int (nI S.rn), .ref a.ws, .ref a.ca, .ref (a.fr 0), .ref (a.fr 1), .ref (a.fr 2), .ref (a.fr 3), .ref a.zr, .ref a.fo, .ref a.ha, .ref a.si])) := (o_62 _ (gne f_59 f_58 (fun e => by cases e))).trans f_59
      have gf_65 : gfr (fun x => x = 31 ∨ x = 32) G_46 G_60 := gfr_put hgf0 f_58 (Or.inr rfl) o_62
      refine gs (pc' := 42) (fun _ _ _ _ _ hl => lv_aload_n hx hb d_Mf_keep_41 rfl (lv_at hl 0 rfl)) ?_
      refine gs (pc' := 43) (fun _ _ _ _ _ hl => lv_dup hx hb d_Mf_keep_42 rfl) ?_
      refine g_get hx hb hts hin_Mf hown hK f_64 rfl 1 (by decide) (hts _ wm236) (fun _ h9 => h9) rfl d_Mf_keep_43 ?_
      refine gs (pc' := 47) (fun _ _ _ _ _ hl => lv_iconst (v := nI 1) hx hb d_Mf_keep_46 (by decide)) ?_
      refine gs (pc' := 48) (fun _ _ _ _ _ hl => lv_iadd hx hb d_Mf_keep_47) ?_
      refine g_eqi (show (nI S.n) + (nI 1) = nI (S.n + 1) from nI_add _ _) ?_
      refine g_put (ty := .int) hx hb hts hin_Mf ty_Mf ty_Mf_ok nm_Mf hown hK f_64 rfl 1 (by decide) (hts _ wm236) (fun _ h9 => h9) rfl (by decide +kernel) rfl rfl (Nat.le_of_ble_eq_true rfl) d_Mf_keep_48 (fun G_66 f_67 o_68 => ?_)
      have f_69 : G_66 a.x = some (31, .inr (8, [.ref a.vs, .int (nI (S.n + 1)), .ref a.rs, .int (nI S.rn), .ref a.ws, .ref a.ca, .ref (a.fr 0), .ref (a.fr 1), .ref (a.fr 2), .ref (a.fr 3), .ref a.zr, .ref a.fo, .ref a.ha, .ref a.si])) := f_67
      have f_70 : G_66 q_25 = some (30, .inr (6, [.ref r_40, .int (iI z)])) := (o_68 _ (gne f_63 f_64 (fun e => by cases e))).trans f_63
      have f_71 : G_66 a.vs = some (32, .inl (cA 2, 200, .inr (.inr (.inr (.inr (va_up vf_55 S.n (some q_25))))))) := (o_68 _ (gne f_61 f_64 (fun e => by cases e))).trans f_61
      have gf_72 : gfr (fun x => x = 31 ∨ x = 32) G_46 G_66 := gfr_put gf_65 f_64 (Or.inl rfl) o_68
      refine gs (pc' := 52) (fun _ _ _ _ _ hl => lv_aload_n hx hb d_Mf_keep_51 rfl (lv_at hl 0 rfl)) ?_
      refine g_get hx hb hts hin_Mf hown hK f_69 rfl 1 (by decide) (hts _ wm236) (fun _ h9 => h9) rfl d_Mf_keep_52 ?_
      refine gs (pc' := 56) (fun _ _ _ _ _ hl => lv_iconst (v := nI 1) hx hb d_Mf_keep_55 (by decide)) ?_
      refine gs (pc' := 57) (fun _ _ _ _ _ hl => lv_isub hx hb d_Mf_keep_56) ?_
      refine g_eqi (show (nI (S.n + 1)) - (nI 1) = nI S.n from (pk_sub (by omega)).trans (congrArg nI (show (S.n + 1) - 1 = S.n by omega))) ?_
      exact hret 57 _ _ _ _ d_Mf_keep_57 (show B_47.1 ≤ MC by omega) (show B_47.2 ≤ MS by omega) ⟨by rw [kp, if_neg hl]; exact nI_iI _, by rw [kp, if_neg hl]; exact ⟨F, V, CW.keepV hW C_53 gf_72 g_57 iv_54 f_71 f_69⟩, gfr_mono (gfr_tr (gfr_ex (M := fun _ => False) gx_52) gf_72) (fun x h9 => by rcases h9 with h9 | h9; exact h9.elim; omega)⟩
    · skip
      have nc_24 : (b01 (decide (lng rr))) ≠ 0 := (n0_eq (a := (b01 (decide (lng rr)))) (by omega)).2 c_24
      have hl := b01_1 nc_24
      refine gs (pc' := 19) (fun _ _ _ _ _ hl => lv_bipush (v := (-4)) hx hb d_Mf_keep_17 (by decide)) ?_
      refine g_eqi (show (-4) = iI (-4) from by decide) ?_
      exact hret 19 _ _ _ _ d_Mf_keep_19 bl_1 bl_2 ⟨by rw [kp, if_pos hl], by rw [kp, if_pos hl]; exact hC.up (show X.1 ≤ X.1 + 6 by omega) (show X.2 ≤ X.2 + 209 by omega), gfr_rf⟩
  · skip
    have nc_11 : (b01 (decide (S.n = 200))) ≠ 0 := (n0_eq (a := (b01 (decide (S.n = 200)))) (by omega)).2 c_11
    exact absurd (b01_1 nc_11) hnf
set_option maxHeartbeats 4000000 in
set_option maxRecDepth 100000 in
theorem c_Mf_keep3 (l : Launch) (D : va_G) (cA : Nat → ClassId) (lo MC MS : Nat) (G : gT) (B : Nat × Nat) (X : Nat × Nat) (a : AX) (S : St) (F : Nat → Option Rat) (V : Nat → Nat) (hC : CW cA X a S F V (G, B)) (hW : WF S) (rr : Rat) (hF : F 3 = some rr) (k : Nat) (hrb : rb rr k) (hkk : k ≤ 1500) (z : Int) (hnf : ¬ S.n = 200) (hY1 : X.1 + 6 ≤ MC) (hY2 : X.2 + 209 ≤ MS) : gMet l y_Mf_keep w_Mf_keep 6 146 D clS (gtys cA) lo MC MS [.ref a.x, .ref (a.fr 3), .int (iI z)] G B (gQi D clS lo (fun r u => r = iI (kp S rr z).2.1 ∧ CW3 cA (X.1 + 6, X.2 + 209) a (kp S rr z).2.2 u ∧ gfr (fun x => x < 70) G u.1)) := by
  refine g_meti (cc := prog_1_method_23_code) (nL := 3) (L := [(0, .ref a.x), (1, .ref (a.fr 3)), (2, .int (iI z))]) (by decide +kernel) rfl (Nat.le_of_ble_eq_true rfl) rfl ?_
  intro p e R s m args below meth c Q hF hRc hRs hRf hRl hret
  obtain ⟨hx, hb, hr, hml, hts0, hown, hlocks, hin, hK, hlo, hZ⟩ := hF
  have hts : ∀ w ∈ tbg, w.before args s = true := fun w h => hts0 w (List.mem_cons_of_mem _ h)
  have hX1 : X.1 ≤ MC := by omega
  have hX2 : X.2 ≤ MS := by omega
  have hn := hW.n
  have hrn := hW.rn
  have hwn := hW.wn
  have bl_1 : B.1 ≤ MC := Nat.le_trans (w2_le hC.w).1 hX1
  have bl_2 : B.2 ≤ MS := Nat.le_trans (w2_le hC.w).2 hX2
  have hle := w2_le hC.w
  have hle1 : B.1 ≤ X.1 := hle.1
  have hle2 : B.2 ≤ X.2 := hle.2
  refine gs (pc' := 1) (fun _ _ _ _ _ hl => lv_aload_n hx hb d_Mf_keep_0 rfl (lv_at hl 0 rfl)) ?_
  have f_3 : G a.x = some (31, .inr (8, [.ref a.vs, .int (nI S.n), .ref a.rs, .int (nI S.rn), .ref a.ws, .ref a.ca, .ref (a.fr 0), .ref (a.fr 1), .ref (a.fr 2), .ref (a.fr 3), .ref a.zr, .ref a.fo, .ref a.ha, .ref a.si])) := hC.ob
  refine g_outi hlo (g_runV (As := []) (rest := []) ⟨hx, hb, hml, hown, hts⟩ hK hZ hRc hRs (c_Mf_isFull l D cA lo MC MS G B X a S F V hC hW hX1 hX2) (fun _ _ => cwV 0 hts (tb_good (tb_cons wm386 (tb_cons wm388 (tb_cons ws1 (tb_cons wm1 k_Mf_isFull))))) rfl rfl rfl (by decide +kernel) ⟨by rw [hRf]; exact Nat.le_of_ble_eq_true rfl, by rw [hRl]; exact Nat.le_of_ble_eq_true rfl⟩) f_3 rfl bl_1 bl_2 rfl (Nat.le_of_ble_eq_true rfl) d_Mf_keep_1) (fun r_7 G_4 B_5 p_6 => ?_)
  obtain ⟨u_8, e_9⟩ := p_6
  cases u_8
  subst e_9
  have bd_10 := b01_le (decide (S.n = 200))
  refine gsb (pc1 := 10) (pc2 := 7) (fun _ _ _ _ _ => lv_if_eq (tgt := 10) hx hb d_Mf_keep_4 (by decide)) (fun c_11 => ?_) (fun c_11 => ?_)
  · skip
    have nc_11 : (b01 (decide (S.n = 200))) = 0 := (n0_eq (a := (b01 (decide (S.n = 200)))) (by omega)).1 c_11
    refine gs (pc' := 11) (fun _ _ _ _ _ hl => lv_aload_n hx hb d_Mf_keep_10 rfl (lv_at hl 1 rfl)) ?_
    obtain ⟨sg_12, f_13, g_14⟩ := hC.fr 3 (by decide)
    have f_15 : G (a.fr 3) = some (20 + 3, .inr (3, [.int sg_12, .ref (a.ad (11 + 2 * 3)), .ref (a.ad (12 + 2 * 3))])) := f_13
    refine g_outi hlo (g_runV (As := []) (rest := []) ⟨hx, hb, hml, hown, hts⟩ hK hZ hRc hRs (c3_long l D cA lo MC MS G B X a S F V hC hX1 hX2 3 (by decide) rr hF k hrb hkk) (fun _ _ => cwV 0 hts (tb_good (tb_cons wm499 (tb_cons wm500 (tb_cons wm501 (tb_cons wm8 k_Fr_isLong))))) rfl rfl rfl (by decide +kernel) ⟨by rw [hRf]; exact Nat.le_of_ble_eq_true rfl, by rw [hRl]; exact Nat.le_of_ble_eq_true rfl⟩) f_15 rfl bl_1 bl_2 rfl (Nat.le_of_ble_eq_true rfl) d_Mf_keep_11) (fun r_19 G_16 B_17 p_18 => ?_)
    obtain ⟨u_20, v_21⟩ := p_18
    cases u_20
    have e_22 := b01_or v_21
    subst e_22
    have bd_23 := b01_le (decide (lng rr))
    refine gsb (pc1 := 20) (pc2 := 17) (fun _ _ _ _ _ => lv_if_eq (tgt := 20) hx hb d_Mf_keep_14 (by decide)) (fun c_24 => ?_) (fun c_24 => ?_)
    · skip
      have nc_24 : (b01 (decide (lng rr))) = 0 := (n0_eq (a := (b01 (decide (lng rr)))) (by omega)).1 c_24
      have hl := b01_0 nc_24
      refine gs (pc' := 21) (fun _ _ _ _ _ hl => lv_aload_n hx hb d_Mf_keep_20 rfl (lv_at hl 0 rfl)) ?_
      refine g_get hx hb hts hin_Mf hown hK f_3 rfl 0 (by decide) (hts _ wm235) (fun _ h9 => h9) rfl d_Mf_keep_21 ?_
      refine gs (pc' := 25) (fun _ _ _ _ _ hl => lv_aload_n hx hb d_Mf_keep_24 rfl (lv_at hl 0 rfl)) ?_
      refine g_get hx hb hts hin_Mf hown hK f_3 rfl 1 (by decide) (hts _ wm236) (fun _ h9 => h9) rfl d_Mf_keep_25 ?_
      refine g_new hx hb hts hin_Va ty_Va ty_Va_ok hown (hts _ wm28) (hts _ wm508) (hts _ wm18) hK (ci := 6) rfl (fs := [.null, .int (nI 0)]) (fun j => match j with | 0 => fun _ => rfl | 1 => fun _ => rfl | n + 2 => fun h9 => absurd h9 (by omega)) hlo hRc hRs (by omega) (by omega) d_Mf_keep_28 30 (fun q_25 G_26 z_27 f_28 o_29 => ?_)
      have f_30 : G_26 a.x = some (31, .inr (8, [.ref a.vs, .int (nI S.n), .ref a.rs, .int (nI S.rn), .ref a.ws, .ref a.ca, .ref (a.fr 0), .ref (a.fr 1), .ref (a.fr 2), .ref (a.fr 3), .ref a.zr, .ref a.fo, .ref a.ha, .ref a.si])) := (o_29 _ (fun e => by subst e; rw [f_3] at z_27; cases z_27)).trans f_3
      have f_31 : G_26 (a.fr 3) = some (20 + 3, .inr (3, [.int sg_12, .ref (a.ad (11 + 2 * 3)), .ref (a.ad (12 + 2 * 3))])) := (o_29 _ (fun e => by subst e; rw [f_15] at z_27; cases z_27)).trans f_15
      have C_32 : CW cA (X.1 + 1, X.2 + 2) a S F V (G_26, (B.1 + 1, B.2 + 2)) := hC.move (M := fun _ => False) (gfr_new gfr_rf z_27 o_29) (fun _ z9 => z9.elim) (show B.1 + 1 + X.1 ≤ B.1 + (X.1 + 1) by omega) (show B.2 + 2 + X.2 ≤ B.2 + (X.2 + 2) by omega)
      refine gs (pc' := 32) (fun _ _ _ _ _ hl => lv_dup hx hb d_Mf_keep_31 rfl) ?_
      refine gs (pc' := 33) (fun _ _ _ _ _ hl => lv_aload_n hx hb d_Mf_keep_32 rfl (lv_at hl 1 rfl)) ?_
      obtain ⟨sg_33, f_34, g_35⟩ := C_32.fr 3 (by decide)
      have f_36 : G_26 (a.fr 3) = some (20 + 3, .inr (3, [.int sg_33, .ref (a.ad (11 + 2 * 3)), .ref (a.ad (12 + 2 * 3))])) := f_34
      refine g_outr hlo (g_runV (As := []) (rest := [.ref q_25, .ref q_25, .int (nI S.n), .ref a.vs]) ⟨hx, hb, hml, hown, hts⟩ hK hZ hRc hRs (c3_copy l D cA lo MC MS G_26 (B.1 + 1, B.2 + 2) (X.1 + 1, X.2 + 2) a S F V C_32 3 (by decide) rr hF hl (show B.1 + 1 + 5 ≤ MC by omega) (show B.2 + 2 + 207 ≤ MS by omega)) (fun _ _ => cwV 0 hts (tb_good (tb_cons wm509 (tb_cons wm510 (tb_cons wm511 (tb_cons wm8 k_Fr_copy))))) rfl rfl rfl (by decide +kernel) ⟨by rw [hRf]; exact Nat.le_of_ble_eq_true rfl, by rw [hRl]; exact Nat.le_of_ble_eq_true rfl⟩) f_36 rfl (show B.1 + 1 ≤ MC by omega) (show B.2 + 2 ≤ MS by omega) rfl (Nat.le_of_ble_eq_true rfl) d_Mf_keep_33) (fun r_40 G_37 B_38 p_39 => ?_)
      obtain ⟨gx_41, kq_42, b_43, b_44⟩ := p_39
      have b_43x : B_38.1 ≤ B.1 + 1 + 5 := b_43
      have b_44x : B_38.2 ≤ B.2 + 2 + 207 := b_44
      have f_45 : G_37 q_25 = some (30, .inr (6, [.null, .int (nI 0)])) := gx_41 _ _ f_28 (fun z9 => z9)
      refine gs (pc' := 37) (fun _ _ _ _ _ hl => lv_iload_n hx hb d_Mf_keep_36 rfl (lv_at hl 2 rfl)) ?_
      refine g_outv hlo (g_runI (b := q_25) (As := [.ref r_40, .int (iI z)]) (rest := [.ref q_25, .int (nI S.n), .ref a.vs]) ⟨hx, hb, hml, hown, hts⟩ hK hZ hRc hRs (c_Va_init l D cA lo MC MS G_37 B_38 30 q_25 r_40 (iI z) f_45 (show B_38.1 ≤ MC by omega) (show B_38.2 ≤ MS by omega)) (fun _ _ => cwI 2 hts (tb_good k_Va_init) rfl rfl rfl (hts _ wm18) (hts _ wm518) (hts _ wm519) rfl (by decide +kernel) ⟨by rw [hRf]; exact Nat.le_of_ble_eq_true rfl, by rw [hRl]; exact Nat.le_of_ble_eq_true rfl⟩) (show B_38.1 ≤ MC by omega) (show B_38.2 ≤ MS by omega) rfl (Nat.le_of_ble_eq_true rfl) d_Mf_keep_37) (fun G_46 B_47 p_48 => ?_)
      obtain ⟨f_49, gx_50, e_51⟩ := p_48
      have e_51b : B_47 = B_38 := e_51
      subst e_51b
      have gx_52 : gex (fun _ => False) G G_46 := fun y9 z9 hy9 _ => gx_50 y9 z9 (gx_41 y9 z9 ((o_29 y9 (fun e9 => by subst e9; rw [hy9] at z_27; cases z_27)).trans hy9) (fun h9 => h9)) (fun e9 => by subst e9; rw [hy9] at z_27; cases z_27)
      have C_53 : CW cA (X.1 + 6, X.2 + 209) a S F V (G_46, B_47) := hC.move (M := fun _ => False) (gfr_ex gx_52) (fun _ z9 => z9.elim) (show B_47.1 + X.1 ≤ B.1 + (X.1 + 6) by omega) (show B_47.2 + X.2 ≤ B.2 + (X.2 + 209) by omega)
      have iv_54 : isV cA G_46 q_25 rr z := ⟨r_40, f_49, kq_val kq_42 f_45 gx_50⟩
      obtain ⟨vf_55, f_56, g_57⟩ := C_53.vs
      have f_58 : G_46 a.vs = some (32, .inl (cA 2, 200, .inr (.inr (.inr (.inr vf_55))))) := f_56
      have f_59 : G_46 a.x = some (31, .inr (8, [.ref a.vs, .int (nI S.n), .ref a.rs, .int (nI S.rn), .ref a.ws, .ref a.ca, .ref (a.fr 0), .ref (a.fr 1), .ref (a.fr 2), .ref (a.fr 3), .ref a.zr, .ref a.fo, .ref a.ha, .ref a.si])) := C_53.ob
      have hgf0 : gfr (fun x => x = 31 ∨ x = 32) G_46 G_46 := gfr_rf
      refine g_aast hx hb hK 2 6 f_58 rfl f_49 rfl (show vp_in (nI S.n) 200 from vp_in_nI (by omega) (by omega)) d_Mf_keep_40 (fun G_60 f_61 o_62 => ?_)
      rw [nI_clamp (by omega)] at f_61
      have f_63 : G_60 q_25 = some (30, .inr (6, [.ref r_40, .int (iI z)])) := (o_62 _ (gne f_49 f_58 (fun e => by cases e))).trans f_49
      have f_64 : G_60 a.x = some (31, .inr (8, [.ref a.vs, .int (nI S.n), .ref a.rs, .int (nI S.rn), .ref a.ws, .ref a.ca, .ref (a.fr 0), .ref (a.fr 1), .ref (a.fr 2), .ref (a.fr 3), .ref a.zr, .ref a.fo, .ref a.ha, .ref a.si])) := (o_62 _ (gne f_59 f_58 (fun e => by cases e))).trans f_59
      have gf_65 : gfr (fun x => x = 31 ∨ x = 32) G_46 G_60 := gfr_put hgf0 f_58 (Or.inr rfl) o_62
      refine gs (pc' := 42) (fun _ _ _ _ _ hl => lv_aload_n hx hb d_Mf_keep_41 rfl (lv_at hl 0 rfl)) ?_
      refine gs (pc' := 43) (fun _ _ _ _ _ hl => lv_dup hx hb d_Mf_keep_42 rfl) ?_
      refine g_get hx hb hts hin_Mf hown hK f_64 rfl 1 (by decide) (hts _ wm236) (fun _ h9 => h9) rfl d_Mf_keep_43 ?_
      refine gs (pc' := 47) (fun _ _ _ _ _ hl => lv_iconst (v := nI 1) hx hb d_Mf_keep_46 (by decide)) ?_
      refine gs (pc' := 48) (fun _ _ _ _ _ hl => lv_iadd hx hb d_Mf_keep_47) ?_
      refine g_eqi (show (nI S.n) + (nI 1) = nI (S.n + 1) from nI_add _ _) ?_
      refine g_put (ty := .int) hx hb hts hin_Mf ty_Mf ty_Mf_ok nm_Mf hown hK f_64 rfl 1 (by decide) (hts _ wm236) (fun _ h9 => h9) rfl (by decide +kernel) rfl rfl (Nat.le_of_ble_eq_true rfl) d_Mf_keep_48 (fun G_66 f_67 o_68 => ?_)
      have f_69 : G_66 a.x = some (31, .inr (8, [.ref a.vs, .int (nI (S.n + 1)), .ref a.rs, .int (nI S.rn), .ref a.ws, .ref a.ca, .ref (a.fr 0), .ref (a.fr 1), .ref (a.fr 2), .ref (a.fr 3), .ref a.zr, .ref a.fo, .ref a.ha, .ref a.si])) := f_67
      have f_70 : G_66 q_25 = some (30, .inr (6, [.ref r_40, .int (iI z)])) := (o_68 _ (gne f_63 f_64 (fun e => by cases e))).trans f_63
      have f_71 : G_66 a.vs = some (32, .inl (cA 2, 200, .inr (.inr (.inr (.inr (va_up vf_55 S.n (some q_25))))))) := (o_68 _ (gne f_61 f_64 (fun e => by cases e))).trans f_61
      have gf_72 : gfr (fun x => x = 31 ∨ x = 32) G_46 G_66 := gfr_put gf_65 f_64 (Or.inl rfl) o_68
      refine gs (pc' := 52) (fun _ _ _ _ _ hl => lv_aload_n hx hb d_Mf_keep_51 rfl (lv_at hl 0 rfl)) ?_
      refine g_get hx hb hts hin_Mf hown hK f_69 rfl 1 (by decide) (hts _ wm236) (fun _ h9 => h9) rfl d_Mf_keep_52 ?_
      refine gs (pc' := 56) (fun _ _ _ _ _ hl => lv_iconst (v := nI 1) hx hb d_Mf_keep_55 (by decide)) ?_
      refine gs (pc' := 57) (fun _ _ _ _ _ hl => lv_isub hx hb d_Mf_keep_56) ?_
      refine g_eqi (show (nI (S.n + 1)) - (nI 1) = nI S.n from (pk_sub (by omega)).trans (congrArg nI (show (S.n + 1) - 1 = S.n by omega))) ?_
      exact hret 57 _ _ _ _ d_Mf_keep_57 (show B_47.1 ≤ MC by omega) (show B_47.2 ≤ MS by omega) ⟨by rw [kp, if_neg hl]; exact nI_iI _, by rw [kp, if_neg hl]; exact ⟨F, V, CW.keepV hW C_53 gf_72 g_57 iv_54 f_71 f_69⟩, gfr_mono (gfr_tr (gfr_ex (M := fun _ => False) gx_52) gf_72) (fun x h9 => by rcases h9 with h9 | h9; exact h9.elim; omega)⟩
    · skip
      have nc_24 : (b01 (decide (lng rr))) ≠ 0 := (n0_eq (a := (b01 (decide (lng rr)))) (by omega)).2 c_24
      have hl := b01_1 nc_24
      refine gs (pc' := 19) (fun _ _ _ _ _ hl => lv_bipush (v := (-4)) hx hb d_Mf_keep_17 (by decide)) ?_
      refine g_eqi (show (-4) = iI (-4) from by decide) ?_
      exact hret 19 _ _ _ _ d_Mf_keep_19 bl_1 bl_2 ⟨by rw [kp, if_pos hl], by rw [kp, if_pos hl]; exact hC.up (show X.1 ≤ X.1 + 6 by omega) (show X.2 ≤ X.2 + 209 by omega), gfr_rf⟩
  · skip
    have nc_11 : (b01 (decide (S.n = 200))) ≠ 0 := (n0_eq (a := (b01 (decide (S.n = 200)))) (by omega)).2 c_11
    exact absurd (b01_1 nc_11) hnf
