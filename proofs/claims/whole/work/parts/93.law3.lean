/-! ===== THE LAW ===== -/
def LC (p : Program) (l : Launch) (R : Room) (s : State) (m : MethodId) (args : Array Value) (c : Code) (D : va_G) (cA : Nat → ClassId) (lo MC MS b n : Nat) (xs : Nat → Int32) : Prop := p.tables.exec = Jvm.exec ∧ c.code = code ∧ c.maxLocals = 8 ∧ s.vm.findClass "MetreFractionsLaw" = some m.cls ∧ (∀ w ∈ tbg, w.before args s = true) ∧ va_K D clS (gtys cA) s ∧ lo ≤ s.heap.size ∧ gZ lo s ∧ R.cells = MC - s.heap.size ∧ R.slots = MS - gds lo s.heap ∧ R.frames = 12 ∧ R.locals = 502 ∧ va_X b n xs s s.heap ∧ b < s.heap.size ∧ (¬ lo ≤ b) ∧ n ≤ 3072 ∧ (∀ e : Env, l.admits e → e.platform.stackTraces = false)
def jnL (x y : Int32) : Int64 := x.toInt64 <<< ((nI 32).toInt64 &&& 63) ||| y.toInt64 &&& lN 4294967295
theorem ti_1 (x : Int32) : -2147483648 ≤ x.toInt := by have := x.minValue_le_toInt; exact this
theorem ti_2 (x : Int32) : x.toInt < 2147483648 := by have := x.toInt_le; have h : x.toInt ≤ 2147483647 := this; omega
theorem tl_1 (x : Int64) : -9223372036854775808 ≤ x.toInt := by have := x.minValue_le_toInt; exact this
theorem tl_2 (x : Int64) : x.toInt < 9223372036854775808 := by have := x.toInt_le; have h : x.toInt ≤ 9223372036854775807 := this; omega
theorem ti_e (x : Int32) : x = iI x.toInt := (Int32.ofInt_toInt x).symm
theorem tl_e (x : Int64) : x = lI x.toInt := (Int64.ofInt_toInt x).symm
theorem cmp_s (x : Int64) : lg_cmp x x = nI 0 := by unfold lg_cmp; simp <;> rfl
theorem sw_of (t : Int32) : (∃ k : Nat, k ≤ 16 ∧ t = nI k) ∨ (t.toInt < 0 ∨ 16 < t.toInt) := by
  by_cases h : 0 ≤ t.toInt ∧ t.toInt ≤ 16
  · refine Or.inl ⟨t.toInt.toNat, by omega, ?_⟩
    rw [nI_iI, Int.toNat_of_nonneg h.1]
    exact ti_e t
  · exact Or.inr (by omega)
set_option maxHeartbeats 4000000 in
set_option maxRecDepth 100000 in
theorem law_value {p : Program} {l : Launch} {e : Env} {R : Room} {s : State} {m : MethodId} {args : Array Value} {below : List Frame} {meth : Method} {c : Code} {Q : State → Prop} {D : va_G} {cA : Nat → ClassId} {lo MC MS b n : Nat} {xs : Nat → Int32} (h0 : LC p l R s m args c D cA lo MC MS b n xs) (i : Nat) (hi : i + 6 ≤ n) (X : Nat × Nat) (a : AX) (S : St) (hm : Nat) (A : Nat → Nat) (th ao : Nat) (of : Nat → Int64) (G : gT) (B : Nat × Nat) (hC3 : CW3 cA X a S (G, B)) (hW : WF S) (hV : MW cA hm A S th none none none G) (hao : G ao = some (90, .inl (cA 1, 1, .inr (.inl of)))) (hY1 : X.1 + 6 ≤ MC) (hY2 : X.2 + 209 ≤ MS) (hnext : ∀ (S1 : St) (th1 : Nat) (of1 : Nat → Int64) (G1 : gT) (B1 : Nat × Nat), WF S1 → CW3 cA (X.1 + 6, X.2 + 209) a S1 (G1, B1) → MW cA hm A S1 th1 none none none G1 → G1 ao = some (90, .inl (cA 1, 1, .inr (.inl of1))) → gV p l e R s m args below meth c D clS lo 8 Q 1286 [(4, .int (nI i)), (3, .ref ao), (2, .ref hm), (1, .ref a.x), (0, .ref b)] [] G1 B1) : gV p l e R s m args below meth c D clS lo 8 Q 124 [(4, .int (nI i)), (3, .ref ao), (2, .ref hm), (1, .ref a.x), (0, .ref b)] [] G B := by
  obtain ⟨hx, hb, hml, hown, hts, hK, hlo, hZ, hRc, hRs, hRf, hRl, hX, hbl, hbA, hn, hfl⟩ := h0
  obtain ⟨F, V, hC⟩ := hC3
  have hle0 := w2_le hC.w
  have hB1 : B.1 ≤ MC := by omega
  have hB2 : B.2 ≤ MS := by omega
  have hax : G a.x = some (31, .inr (8, [.ref a.vs, .int (nI S.n), .ref a.rs, .int (nI S.rn), .ref a.ws, .ref a.ca, .ref (a.fr 0), .ref (a.fr 1), .ref (a.fr 2), .ref (a.fr 3), .ref a.zr, .ref a.fo, .ref a.ha, .ref a.si])) := hC.ob
  obtain ⟨hobm, hhm⟩ : ∃ o9, G hm = some (70, .inr (9, o9)) := by obtain ⟨_, _, _, _, _, _, _, h9, -⟩ := hV; exact ⟨_, h9⟩
  refine gs (pc' := 125) (fun _ _ _ _ _ hl => lv_aload_n hx hb d_La_law_124 rfl (lv_at hl 3 rfl)) ?_
  refine gs (pc' := 126) (fun _ _ _ _ _ hl => lv_aload_n hx hb d_La_law_125 rfl (lv_at hl 4 rfl)) ?_
  refine gs (pc' := 128) (fun _ _ _ _ _ hl => lv_iload hx hb d_La_law_126 (lv_at hl 0 rfl)) ?_
  refine gs (pc' := 129) (fun _ _ _ _ _ hl => lv_iconst (v := nI 1) hx hb d_La_law_128 (by decide)) ?_
  refine gs (pc' := 130) (fun _ _ _ _ _ hl => lv_iadd hx hb d_La_law_129) ?_
  refine g_eqi (show (nI i) + (nI 1) = nI (i + 1) from nI_add _ _) ?_
  refine g_sld hx hb hX hbl hbA (show vp_in (nI (i + 1)) n from vp_in_nI (by omega) (by omega)) d_La_law_130 ?_
  rw [nI_clamp (by omega)]
  refine gs (pc' := 132) (fun _ _ _ _ _ hl => lv_i2l (v := (xs (i + 1)).toInt64) hx hb d_La_law_131 (rfl)) ?_
  refine gs (pc' := 134) (fun _ _ _ _ _ hl => lv_bipush (v := nI 32) hx hb d_La_law_132 (by decide)) ?_
  refine gs (pc' := 135) (fun _ _ _ _ _ hl => lv_lshl (v := ((xs (i + 1)).toInt64) <<< ((nI 32).toInt64 &&& 63)) hx hb d_La_law_134 rfl) ?_
  refine gs (pc' := 136) (fun _ _ _ _ _ hl => lv_aload_n hx hb d_La_law_135 rfl (lv_at hl 4 rfl)) ?_
  refine gs (pc' := 138) (fun _ _ _ _ _ hl => lv_iload hx hb d_La_law_136 (lv_at hl 0 rfl)) ?_
  refine gs (pc' := 139) (fun _ _ _ _ _ hl => lv_iconst (v := nI 2) hx hb d_La_law_138 (by decide)) ?_
  refine gs (pc' := 140) (fun _ _ _ _ _ hl => lv_iadd hx hb d_La_law_139) ?_
  refine g_eqi (show (nI i) + (nI 2) = nI (i + 2) from nI_add _ _) ?_
  refine g_sld hx hb hX hbl hbA (show vp_in (nI (i + 2)) n from vp_in_nI (by omega) (by omega)) d_La_law_140 ?_
  rw [nI_clamp (by omega)]
  refine gs (pc' := 142) (fun _ _ _ _ _ hl => lv_i2l (v := (xs (i + 2)).toInt64) hx hb d_La_law_141 (rfl)) ?_
  refine gs (pc' := 145) (fun _ _ _ _ _ hl => lv_ldc2 (v := 4294967295) hx hb hown (hts _ wm1027) d_La_law_142) ?_
  refine g_eql (show 4294967295 = lN 4294967295 from rfl) ?_
  refine gs (pc' := 146) (fun _ _ _ _ _ hl => lv_land hx hb d_La_law_145) ?_
  refine gs (pc' := 147) (fun _ _ _ _ _ hl => lv_lor hx hb d_La_law_146) ?_
  refine g_eql (show (((xs (i + 1)).toInt64) <<< ((nI 32).toInt64 &&& 63)) ||| (((xs (i + 2)).toInt64) &&& (lN 4294967295)) = lI ((jnL (xs (i + 1)) (xs (i + 2))).toInt) from tl_e _) ?_
  refine gs (pc' := 148) (fun _ _ _ _ _ hl => lv_aload_n hx hb d_La_law_147 rfl (lv_at hl 4 rfl)) ?_
  refine gs (pc' := 150) (fun _ _ _ _ _ hl => lv_iload hx hb d_La_law_148 (lv_at hl 0 rfl)) ?_
  refine gs (pc' := 151) (fun _ _ _ _ _ hl => lv_iconst (v := nI 3) hx hb d_La_law_150 (by decide)) ?_
  refine gs (pc' := 152) (fun _ _ _ _ _ hl => lv_iadd hx hb d_La_law_151) ?_
  refine g_eqi (show (nI i) + (nI 3) = nI (i + 3) from nI_add _ _) ?_
  refine g_sld hx hb hX hbl hbA (show vp_in (nI (i + 3)) n from vp_in_nI (by omega) (by omega)) d_La_law_152 ?_
  rw [nI_clamp (by omega)]
  refine gs (pc' := 154) (fun _ _ _ _ _ hl => lv_i2l (v := (xs (i + 3)).toInt64) hx hb d_La_law_153 (rfl)) ?_
  refine gs (pc' := 156) (fun _ _ _ _ _ hl => lv_bipush (v := nI 32) hx hb d_La_law_154 (by decide)) ?_
  refine gs (pc' := 157) (fun _ _ _ _ _ hl => lv_lshl (v := ((xs (i + 3)).toInt64) <<< ((nI 32).toInt64 &&& 63)) hx hb d_La_law_156 rfl) ?_
  refine gs (pc' := 158) (fun _ _ _ _ _ hl => lv_aload_n hx hb d_La_law_157 rfl (lv_at hl 4 rfl)) ?_
  refine gs (pc' := 160) (fun _ _ _ _ _ hl => lv_iload hx hb d_La_law_158 (lv_at hl 0 rfl)) ?_
  refine gs (pc' := 161) (fun _ _ _ _ _ hl => lv_iconst (v := nI 4) hx hb d_La_law_160 (by decide)) ?_
  refine gs (pc' := 162) (fun _ _ _ _ _ hl => lv_iadd hx hb d_La_law_161) ?_
  refine g_eqi (show (nI i) + (nI 4) = nI (i + 4) from nI_add _ _) ?_
  refine g_sld hx hb hX hbl hbA (show vp_in (nI (i + 4)) n from vp_in_nI (by omega) (by omega)) d_La_law_162 ?_
  rw [nI_clamp (by omega)]
  refine gs (pc' := 164) (fun _ _ _ _ _ hl => lv_i2l (v := (xs (i + 4)).toInt64) hx hb d_La_law_163 (rfl)) ?_
  refine gs (pc' := 167) (fun _ _ _ _ _ hl => lv_ldc2 (v := 4294967295) hx hb hown (hts _ wm1027) d_La_law_164) ?_
  refine g_eql (show 4294967295 = lN 4294967295 from rfl) ?_
  refine gs (pc' := 168) (fun _ _ _ _ _ hl => lv_land hx hb d_La_law_167) ?_
  refine gs (pc' := 169) (fun _ _ _ _ _ hl => lv_lor hx hb d_La_law_168) ?_
  refine g_eql (show (((xs (i + 3)).toInt64) <<< ((nI 32).toInt64 &&& 63)) ||| (((xs (i + 4)).toInt64) &&& (lN 4294967295)) = lI ((jnL (xs (i + 3)) (xs (i + 4))).toInt) from tl_e _) ?_
  refine gs (pc' := 170) (fun _ _ _ _ _ hl => lv_aload_n hx hb d_La_law_169 rfl (lv_at hl 4 rfl)) ?_
  refine gs (pc' := 172) (fun _ _ _ _ _ hl => lv_iload hx hb d_La_law_170 (lv_at hl 0 rfl)) ?_
  refine gs (pc' := 173) (fun _ _ _ _ _ hl => lv_iconst (v := nI 5) hx hb d_La_law_172 (by decide)) ?_
  refine gs (pc' := 174) (fun _ _ _ _ _ hl => lv_iadd hx hb d_La_law_173) ?_
  refine g_eqi (show (nI i) + (nI 5) = nI (i + 5) from nI_add _ _) ?_
  refine g_sld hx hb hX hbl hbA (show vp_in (nI (i + 5)) n from vp_in_nI (by omega) (by omega)) d_La_law_174 ?_
  rw [nI_clamp (by omega)]
  refine g_eqi (show xs (i + 5) = iI ((xs (i + 5)).toInt) from ti_e _) ?_
  refine gs (pc' := 176) (fun _ _ _ _ _ hl => lv_aload_n hx hb d_La_law_175 rfl (lv_at hl 1 rfl)) ?_
  refine g_outi hlo (g_runSW (n := 5) (As := [.ref a.x, .long (lI ((jnL (xs (i + 1)) (xs (i + 2))).toInt)), .long (lI ((jnL (xs (i + 3)) (xs (i + 4))).toInt)), .int (iI ((xs (i + 5)).toInt)), .ref ao]) (rest := []) ⟨hx, hb, hml, hown, hts⟩ hK hZ hRc hRs (c_La_value l D cA lo MC MS G B X a S F V hC hW ao of hao ((jnL (xs (i + 1)) (xs (i + 2))).toInt) (tl_1 _) (tl_2 _) ((jnL (xs (i + 3)) (xs (i + 4))).toInt) (tl_1 _) (tl_2 _) ((xs (i + 5)).toInt) (ti_1 _) (ti_2 _) hY1 hY2 hfl) rfl (tb_good (tb_cons wm290 (tb_cons wm291 (tb_cons wm0 k_La_value)))) (by decide +kernel) ⟨by rw [hRf]; exact Nat.le_of_ble_eq_true rfl, by rw [hRl]; exact Nat.le_of_ble_eq_true rfl⟩ hB1 hB2 rfl (Nat.le_of_ble_eq_true rfl) d_La_law_176) (fun r_4 G_1 B_2 p_3 => ?_)
  obtain ⟨hr9, hC9, ⟨of1, ho1, ho2⟩, hf9⟩ := p_3
  obtain ⟨kd, hkd⟩ : ∃ y9 : Nat, y9 = (sp_value S ((jnL (xs (i + 1)) (xs (i + 2))).toInt) ((jnL (xs (i + 3)) (xs (i + 4))).toInt) (iI ((xs (i + 5)).toInt))).1 := ⟨_, rfl⟩
  rw [← hkd] at hr9 ho2
  subst hr9
  have hkb : kd ≤ 2 := by
    rw [hkd]
    rcases ka_value (S := S) (p0 := ((jnL (xs (i + 1)) (xs (i + 2))).toInt)) (p1 := ((jnL (xs (i + 3)) (xs (i + 4))).toInt)) (p2 := iI ((xs (i + 5)).toInt)) with h9 | ⟨h9, -⟩ | ⟨h9, -⟩ <;> rw [h9] <;> decide
  have hle9 := CW3_le hC9
  have hb91 : B_2.1 ≤ MC := Nat.le_trans hle9.1 hY1
  have hb92 : B_2.2 ≤ MS := Nat.le_trans hle9.2 hY2
  have hV9 : MW cA hm A S th none none none G_1 := MW_fr hV hf9 (fun x h8 h9 q9 => by omega)
  have hhm9 : G_1 hm = some (70, .inr (9, hobm)) := hf9 _ _ hhm (show ¬ ((70 : Nat) < 70 ∨ (70 : Nat) = 90) by decide)
  refine gst (pc' := 181) (L' := [(5, .int (nI kd)), (4, .int (nI i)), (3, .ref ao), (2, .ref hm), (1, .ref a.x), (0, .ref b)]) (fun _ _ _ _ _ hl => lv_istore hx hb d_La_law_179 hl (by decide) rfl) ?_
  refine gs (pc' := 182) (fun _ _ _ _ _ hl => lv_aload_n hx hb d_La_law_181 rfl (lv_at hl 3 rfl)) ?_
  refine gs (pc' := 183) (fun _ _ _ _ _ hl => lv_aload_n hx hb d_La_law_182 rfl (lv_at hl 5 rfl)) ?_
  refine gs (pc' := 185) (fun _ _ _ _ _ hl => lv_iload hx hb d_La_law_183 (lv_at hl 1 rfl)) ?_
  refine gs (pc' := 186) (fun _ _ _ _ _ hl => lv_iconst (v := nI 1) hx hb d_La_law_185 (by decide)) ?_
  refine gs (pc' := 187) (fun _ _ _ _ _ hl => lv_iadd hx hb d_La_law_186) ?_
  refine g_eqi (show (nI i) + (nI 1) = nI (i + 1) from nI_add _ _) ?_
  refine g_sld hx hb hX hbl hbA (show vp_in (nI (i + 1)) n from vp_in_nI (by omega) (by omega)) d_La_law_187 ?_
  rw [nI_clamp (by omega)]
  refine gs (pc' := 189) (fun _ _ _ _ _ hl => lv_i2l (v := (xs (i + 1)).toInt64) hx hb d_La_law_188 (rfl)) ?_
  refine gs (pc' := 191) (fun _ _ _ _ _ hl => lv_bipush (v := nI 32) hx hb d_La_law_189 (by decide)) ?_
  refine gs (pc' := 192) (fun _ _ _ _ _ hl => lv_lshl (v := ((xs (i + 1)).toInt64) <<< ((nI 32).toInt64 &&& 63)) hx hb d_La_law_191 rfl) ?_
  refine gs (pc' := 193) (fun _ _ _ _ _ hl => lv_aload_n hx hb d_La_law_192 rfl (lv_at hl 5 rfl)) ?_
  refine gs (pc' := 195) (fun _ _ _ _ _ hl => lv_iload hx hb d_La_law_193 (lv_at hl 1 rfl)) ?_
  refine gs (pc' := 196) (fun _ _ _ _ _ hl => lv_iconst (v := nI 2) hx hb d_La_law_195 (by decide)) ?_
  refine gs (pc' := 197) (fun _ _ _ _ _ hl => lv_iadd hx hb d_La_law_196) ?_
  refine g_eqi (show (nI i) + (nI 2) = nI (i + 2) from nI_add _ _) ?_
  refine g_sld hx hb hX hbl hbA (show vp_in (nI (i + 2)) n from vp_in_nI (by omega) (by omega)) d_La_law_197 ?_
  rw [nI_clamp (by omega)]
  refine gs (pc' := 199) (fun _ _ _ _ _ hl => lv_i2l (v := (xs (i + 2)).toInt64) hx hb d_La_law_198 (rfl)) ?_
  refine gs (pc' := 202) (fun _ _ _ _ _ hl => lv_ldc2 (v := 4294967295) hx hb hown (hts _ wm1027) d_La_law_199) ?_
  refine g_eql (show 4294967295 = lN 4294967295 from rfl) ?_
  refine gs (pc' := 203) (fun _ _ _ _ _ hl => lv_land hx hb d_La_law_202) ?_
  refine gs (pc' := 204) (fun _ _ _ _ _ hl => lv_lor hx hb d_La_law_203) ?_
  refine g_eql (show (((xs (i + 1)).toInt64) <<< ((nI 32).toInt64 &&& 63)) ||| (((xs (i + 2)).toInt64) &&& (lN 4294967295)) = lI ((jnL (xs (i + 1)) (xs (i + 2))).toInt) from tl_e _) ?_
  refine gs (pc' := 205) (fun _ _ _ _ _ hl => lv_aload_n hx hb d_La_law_204 rfl (lv_at hl 5 rfl)) ?_
  refine gs (pc' := 207) (fun _ _ _ _ _ hl => lv_iload hx hb d_La_law_205 (lv_at hl 1 rfl)) ?_
  refine gs (pc' := 208) (fun _ _ _ _ _ hl => lv_iconst (v := nI 3) hx hb d_La_law_207 (by decide)) ?_
  refine gs (pc' := 209) (fun _ _ _ _ _ hl => lv_iadd hx hb d_La_law_208) ?_
  refine g_eqi (show (nI i) + (nI 3) = nI (i + 3) from nI_add _ _) ?_
  refine g_sld hx hb hX hbl hbA (show vp_in (nI (i + 3)) n from vp_in_nI (by omega) (by omega)) d_La_law_209 ?_
  rw [nI_clamp (by omega)]
  refine gs (pc' := 211) (fun _ _ _ _ _ hl => lv_i2l (v := (xs (i + 3)).toInt64) hx hb d_La_law_210 (rfl)) ?_
  refine gs (pc' := 213) (fun _ _ _ _ _ hl => lv_bipush (v := nI 32) hx hb d_La_law_211 (by decide)) ?_
  refine gs (pc' := 214) (fun _ _ _ _ _ hl => lv_lshl (v := ((xs (i + 3)).toInt64) <<< ((nI 32).toInt64 &&& 63)) hx hb d_La_law_213 rfl) ?_
  refine gs (pc' := 215) (fun _ _ _ _ _ hl => lv_aload_n hx hb d_La_law_214 rfl (lv_at hl 5 rfl)) ?_
  refine gs (pc' := 217) (fun _ _ _ _ _ hl => lv_iload hx hb d_La_law_215 (lv_at hl 1 rfl)) ?_
  refine gs (pc' := 218) (fun _ _ _ _ _ hl => lv_iconst (v := nI 4) hx hb d_La_law_217 (by decide)) ?_
  refine gs (pc' := 219) (fun _ _ _ _ _ hl => lv_iadd hx hb d_La_law_218) ?_
  refine g_eqi (show (nI i) + (nI 4) = nI (i + 4) from nI_add _ _) ?_
  refine g_sld hx hb hX hbl hbA (show vp_in (nI (i + 4)) n from vp_in_nI (by omega) (by omega)) d_La_law_219 ?_
  rw [nI_clamp (by omega)]
  refine gs (pc' := 221) (fun _ _ _ _ _ hl => lv_i2l (v := (xs (i + 4)).toInt64) hx hb d_La_law_220 (rfl)) ?_
  refine gs (pc' := 224) (fun _ _ _ _ _ hl => lv_ldc2 (v := 4294967295) hx hb hown (hts _ wm1027) d_La_law_221) ?_
  refine g_eql (show 4294967295 = lN 4294967295 from rfl) ?_
  refine gs (pc' := 225) (fun _ _ _ _ _ hl => lv_land hx hb d_La_law_224) ?_
  refine gs (pc' := 226) (fun _ _ _ _ _ hl => lv_lor hx hb d_La_law_225) ?_
  refine g_eql (show (((xs (i + 3)).toInt64) <<< ((nI 32).toInt64 &&& 63)) ||| (((xs (i + 4)).toInt64) &&& (lN 4294967295)) = lI ((jnL (xs (i + 3)) (xs (i + 4))).toInt) from tl_e _) ?_
  refine gs (pc' := 227) (fun _ _ _ _ _ hl => lv_aload_n hx hb d_La_law_226 rfl (lv_at hl 5 rfl)) ?_
  refine gs (pc' := 229) (fun _ _ _ _ _ hl => lv_iload hx hb d_La_law_227 (lv_at hl 1 rfl)) ?_
  refine gs (pc' := 230) (fun _ _ _ _ _ hl => lv_iconst (v := nI 5) hx hb d_La_law_229 (by decide)) ?_
  refine gs (pc' := 231) (fun _ _ _ _ _ hl => lv_iadd hx hb d_La_law_230) ?_
  refine g_eqi (show (nI i) + (nI 5) = nI (i + 5) from nI_add _ _) ?_
  refine g_sld hx hb hX hbl hbA (show vp_in (nI (i + 5)) n from vp_in_nI (by omega) (by omega)) d_La_law_231 ?_
  rw [nI_clamp (by omega)]
  refine g_eqi (show xs (i + 5) = iI ((xs (i + 5)).toInt) from ti_e _) ?_
  refine g_outi hlo (g_runV (As := [.long (lI ((jnL (xs (i + 1)) (xs (i + 2))).toInt)), .long (lI ((jnL (xs (i + 3)) (xs (i + 4))).toInt)), .int (iI ((xs (i + 5)).toInt))]) (rest := []) ⟨hx, hb, hml, hown, hts⟩ hK hZ hRc hRs (c_Mo_value l D cA lo MC MS G_1 B_2 hm A S th none none none hV9 hW ((jnL (xs (i + 1)) (xs (i + 2))).toInt) (tl_1 _) (tl_2 _) ((jnL (xs (i + 3)) (xs (i + 4))).toInt) (tl_1 _) (tl_2 _) ((xs (i + 5)).toInt) (ti_1 _) (ti_2 _) hb91 hb92) (fun _ _ => cwV 3 hts (tb_good (tb_cons wm825 (tb_cons wm826 (tb_cons wm827 (tb_cons wm12 k_Mo_value))))) rfl rfl rfl (by decide +kernel) ⟨by rw [hRf]; exact Nat.le_of_ble_eq_true rfl, by rw [hRl]; exact Nat.le_of_ble_eq_true rfl⟩) hhm9 rfl hb91 hb92 rfl (Nat.le_of_ble_eq_true rfl) d_La_law_232) (fun r_8 G_5 B_6 p_7 => ?_)
  obtain ⟨e9, hr8, hV8, hf8⟩ := p_7
  have e8 : B_2 = B_6 := e9.symm
  subst e8
  rw [← hkd] at hr8 hV8
  have hC8 := CW3_up hC9 hf8 (fun x h9 => h9.1)
  have ho8 : G_5 ao = some (90, .inl (cA 1, 1, .inr (.inl of1))) := hf8 _ _ ho1 (show ¬ (70 ≤ (90 : Nat) ∧ (90 : Nat) < 90) by decide)
  obtain ⟨hob8, hhm8⟩ : ∃ o9, G_5 hm = some (70, .inr (9, o9)) := by obtain ⟨_, _, _, _, _, _, _, h9, -⟩ := hV8; exact ⟨_, h9⟩
  refine gst (pc' := 237) (L' := [(6, .int r_8), (5, .int (nI kd)), (4, .int (nI i)), (3, .ref ao), (2, .ref hm), (1, .ref a.x), (0, .ref b)]) (fun _ _ _ _ _ hl => lv_istore hx hb d_La_law_235 hl (by decide) rfl) ?_
  refine gs (pc' := 238) (fun _ _ _ _ _ hl => lv_aload_n hx hb d_La_law_237 rfl (lv_at hl 4 rfl)) ?_
  refine g_outi hlo (g_runV (As := []) (rest := []) ⟨hx, hb, hml, hown, hts⟩ hK hZ hRc hRs (c_Mo_thrown l D cA lo MC MS G_5 B_2 hm A _ kd none none none hV8 (value_ok hW) hb91 hb92) (fun _ _ => cwV 0 hts (tb_good (tb_cons wm821 (tb_cons wm822 (tb_cons wm823 (tb_cons wm12 k_Mo_thrown))))) rfl rfl rfl (by decide +kernel) ⟨by rw [hRf]; exact Nat.le_of_ble_eq_true rfl, by rw [hRl]; exact Nat.le_of_ble_eq_true rfl⟩) hhm8 rfl hb91 hb92 rfl (Nat.le_of_ble_eq_true rfl) d_La_law_238) (fun r_12 G_9 B_10 p_11 => ?_)
  obtain ⟨e7, hr7⟩ := p_11
  cases e7
  subst hr7
  refine gs (pc' := 243) (fun _ _ _ _ _ hl => lv_iload hx hb d_La_law_241 (lv_at hl 1 rfl)) ?_
  refine gsb (pc1 := 248) (pc2 := 246) (fun _ _ _ _ _ => lv_icmp_eq (tgt := 248) hx hb d_La_law_243 (by decide)) (fun c_13 => ?_) (fun c_13 => ?_)
  · skip
    have nc_13 : kd = kd := (nn_eq (a := kd) (b := kd) (by omega) (by omega)).1 c_13
    refine gs (pc' := 250) (fun _ _ _ _ _ hl => lv_iload hx hb d_La_law_248 (lv_at hl 1 rfl)) ?_
    refine gsb (pc1 := 265) (pc2 := 253) (fun _ _ _ _ _ => lv_if_ne (tgt := 265) hx hb d_La_law_250 (by decide)) (fun c_14 => ?_) (fun c_14 => ?_)
    · skip
      have nc_14 : kd ≠ 0 := (n0_ne (a := kd) (by omega)).1 c_14
      refine gs (pc' := 1286) (fun _ _ _ _ _ hl => lv_goto (tgt := 1286) hx hb d_La_law_265 (by decide)) ?_
      refine gsub [2, 3, 4, 5, 6] rfl ?_
      exact hnext _ kd of1 G_5 B_2 (value_ok hW) hC8 hV8 ho8
    · skip
      have nc_14 : kd = 0 := (n0_ne (a := kd) (by omega)).2 c_14
      have hr6 := hr8 nc_14
      have ho6 := ho2 nc_14
      subst hr6
      refine gs (pc' := 254) (fun _ _ _ _ _ hl => lv_aload_n hx hb d_La_law_253 rfl (lv_at hl 3 rfl)) ?_
      refine gs (pc' := 255) (fun _ _ _ _ _ hl => lv_iconst (v := nI 0) hx hb d_La_law_254 (by decide)) ?_
      refine g_lald hx hb hK 1 ho8 rfl (show vp_in (nI 0) 1 from vp_in_nI (by omega) (by omega)) d_La_law_255 ?_
      refine g_eql (show of1 (nI 0).toNatClampNeg = of1 0 from by rw [nI_clamp (by omega)]) ?_
      refine g_eql (show of1 0 = (iI (sp_value S ((jnL (xs (i + 1)) (xs (i + 2))).toInt) ((jnL (xs (i + 3)) (xs (i + 4))).toInt) (iI ((xs (i + 5)).toInt))).2.1).toInt64 from ho6) ?_
      refine gs (pc' := 258) (fun _ _ _ _ _ hl => lv_iload hx hb d_La_law_256 (lv_at hl 0 rfl)) ?_
      refine gs (pc' := 259) (fun _ _ _ _ _ hl => lv_i2l (v := (iI (sp_value S ((jnL (xs (i + 1)) (xs (i + 2))).toInt) ((jnL (xs (i + 3)) (xs (i + 4))).toInt) (iI ((xs (i + 5)).toInt))).2.1).toInt64) hx hb d_La_law_258 (rfl)) ?_
      refine gs (pc' := 260) (fun _ _ _ _ _ hl => W.lcmp hx hb d_La_law_259) ?_
      refine g_eqi (show lg_cmp ((iI (sp_value S ((jnL (xs (i + 1)) (xs (i + 2))).toInt) ((jnL (xs (i + 3)) (xs (i + 4))).toInt) (iI ((xs (i + 5)).toInt))).2.1).toInt64) ((iI (sp_value S ((jnL (xs (i + 1)) (xs (i + 2))).toInt) ((jnL (xs (i + 3)) (xs (i + 4))).toInt) (iI ((xs (i + 5)).toInt))).2.1).toInt64) = nI 0 from cmp_s _) ?_
      refine gsb (pc1 := 265) (pc2 := 263) (fun _ _ _ _ _ => lv_if_eq (tgt := 265) hx hb d_La_law_260 (by decide)) (fun c_15 => ?_) (fun c_15 => ?_)
      · skip
        have nc_15 : 0 = 0 := (n0_eq (a := 0) (by omega)).1 c_15
        refine gs (pc' := 1286) (fun _ _ _ _ _ hl => lv_goto (tgt := 1286) hx hb d_La_law_265 (by decide)) ?_
        refine gsub [2, 3, 4, 5, 6] rfl ?_
        exact hnext _ kd of1 G_5 B_2 (value_ok hW) hC8 hV8 ho8
      · skip
        have nc_15 : 0 ≠ 0 := (n0_eq (a := 0) (by omega)).2 c_15
        exact absurd nc_15 (by decide)
  · skip
    have nc_13 : kd ≠ kd := (nn_eq (a := kd) (b := kd) (by omega) (by omega)).2 c_13
    exact absurd rfl nc_13
set_option maxHeartbeats 4000000 in
set_option maxRecDepth 100000 in
theorem law_add {p : Program} {l : Launch} {e : Env} {R : Room} {s : State} {m : MethodId} {args : Array Value} {below : List Frame} {meth : Method} {c : Code} {Q : State → Prop} {D : va_G} {cA : Nat → ClassId} {lo MC MS b n : Nat} {xs : Nat → Int32} (h0 : LC p l R s m args c D cA lo MC MS b n xs) (i : Nat) (hi : i + 6 ≤ n) (X : Nat × Nat) (a : AX) (S : St) (hm : Nat) (A : Nat → Nat) (th ao : Nat) (of : Nat → Int64) (G : gT) (B : Nat × Nat) (hC3 : CW3 cA X a S (G, B)) (hW : WF S) (hV : MW cA hm A S th none none none G) (hao : G ao = some (90, .inl (cA 1, 1, .inr (.inl of)))) (hY1 : X.1 + 6 ≤ MC) (hY2 : X.2 + 209 ≤ MS) (hnext : ∀ (S1 : St) (th1 : Nat) (of1 : Nat → Int64) (G1 : gT) (B1 : Nat × Nat), WF S1 → CW3 cA (X.1 + 6, X.2 + 209) a S1 (G1, B1) → MW cA hm A S1 th1 none none none G1 → G1 ao = some (90, .inl (cA 1, 1, .inr (.inl of1))) → gV p l e R s m args below meth c D clS lo 8 Q 1286 [(4, .int (nI i)), (3, .ref ao), (2, .ref hm), (1, .ref a.x), (0, .ref b)] [] G1 B1) : gV p l e R s m args below meth c D clS lo 8 Q 268 [(4, .int (nI i)), (3, .ref ao), (2, .ref hm), (1, .ref a.x), (0, .ref b)] [] G B := by
  obtain ⟨hx, hb, hml, hown, hts, hK, hlo, hZ, hRc, hRs, hRf, hRl, hX, hbl, hbA, hn, hfl⟩ := h0
  obtain ⟨F, V, hC⟩ := hC3
  have hle0 := w2_le hC.w
  have hB1 : B.1 ≤ MC := by omega
  have hB2 : B.2 ≤ MS := by omega
  have hax : G a.x = some (31, .inr (8, [.ref a.vs, .int (nI S.n), .ref a.rs, .int (nI S.rn), .ref a.ws, .ref a.ca, .ref (a.fr 0), .ref (a.fr 1), .ref (a.fr 2), .ref (a.fr 3), .ref a.zr, .ref a.fo, .ref a.ha, .ref a.si])) := hC.ob
  obtain ⟨hobm, hhm⟩ : ∃ o9, G hm = some (70, .inr (9, o9)) := by obtain ⟨_, _, _, _, _, _, _, h9, -⟩ := hV; exact ⟨_, h9⟩
  refine gs (pc' := 269) (fun _ _ _ _ _ hl => lv_aload_n hx hb d_La_law_268 rfl (lv_at hl 3 rfl)) ?_
  refine gs (pc' := 270) (fun _ _ _ _ _ hl => lv_aload_n hx hb d_La_law_269 rfl (lv_at hl 4 rfl)) ?_
  refine gs (pc' := 272) (fun _ _ _ _ _ hl => lv_iload hx hb d_La_law_270 (lv_at hl 0 rfl)) ?_
  refine gs (pc' := 273) (fun _ _ _ _ _ hl => lv_iconst (v := nI 1) hx hb d_La_law_272 (by decide)) ?_
  refine gs (pc' := 274) (fun _ _ _ _ _ hl => lv_iadd hx hb d_La_law_273) ?_
  refine g_eqi (show (nI i) + (nI 1) = nI (i + 1) from nI_add _ _) ?_
  refine g_sld hx hb hX hbl hbA (show vp_in (nI (i + 1)) n from vp_in_nI (by omega) (by omega)) d_La_law_274 ?_
  rw [nI_clamp (by omega)]
  refine g_eqi (show xs (i + 1) = iI ((xs (i + 1)).toInt) from ti_e _) ?_
  refine gs (pc' := 276) (fun _ _ _ _ _ hl => lv_aload_n hx hb d_La_law_275 rfl (lv_at hl 4 rfl)) ?_
  refine gs (pc' := 278) (fun _ _ _ _ _ hl => lv_iload hx hb d_La_law_276 (lv_at hl 0 rfl)) ?_
  refine gs (pc' := 279) (fun _ _ _ _ _ hl => lv_iconst (v := nI 2) hx hb d_La_law_278 (by decide)) ?_
  refine gs (pc' := 280) (fun _ _ _ _ _ hl => lv_iadd hx hb d_La_law_279) ?_
  refine g_eqi (show (nI i) + (nI 2) = nI (i + 2) from nI_add _ _) ?_
  refine g_sld hx hb hX hbl hbA (show vp_in (nI (i + 2)) n from vp_in_nI (by omega) (by omega)) d_La_law_280 ?_
  rw [nI_clamp (by omega)]
  refine g_eqi (show xs (i + 2) = iI ((xs (i + 2)).toInt) from ti_e _) ?_
  refine gs (pc' := 282) (fun _ _ _ _ _ hl => lv_aload_n hx hb d_La_law_281 rfl (lv_at hl 4 rfl)) ?_
  refine gs (pc' := 284) (fun _ _ _ _ _ hl => lv_iload hx hb d_La_law_282 (lv_at hl 0 rfl)) ?_
  refine gs (pc' := 285) (fun _ _ _ _ _ hl => lv_iconst (v := nI 3) hx hb d_La_law_284 (by decide)) ?_
  refine gs (pc' := 286) (fun _ _ _ _ _ hl => lv_iadd hx hb d_La_law_285) ?_
  refine g_eqi (show (nI i) + (nI 3) = nI (i + 3) from nI_add _ _) ?_
  refine g_sld hx hb hX hbl hbA (show vp_in (nI (i + 3)) n from vp_in_nI (by omega) (by omega)) d_La_law_286 ?_
  rw [nI_clamp (by omega)]
  refine gsb (pc1 := 294) (pc2 := 290) (fun _ _ _ _ _ => lv_if_eq (tgt := 294) hx hb d_La_law_287 (by decide)) (fun c_1 => ?_) (fun c_1 => ?_)
  · skip
    have hz9 : xs (i + 3) = 0 := c_1
    refine gs (pc' := 295) (fun _ _ _ _ _ hl => lv_iconst (v := nI 0) hx hb d_La_law_294 (by decide)) ?_
    refine gs (pc' := 296) (fun _ _ _ _ _ hl => lv_aload_n hx hb d_La_law_295 rfl (lv_at hl 1 rfl)) ?_
    refine g_outi hlo (g_runSW (n := 5) (As := [.ref a.x, .int (iI ((xs (i + 1)).toInt)), .int (iI ((xs (i + 2)).toInt)), .int (nI 0), .ref ao]) (rest := []) ⟨hx, hb, hml, hown, hts⟩ hK hZ hRc hRs (c_La_add l D cA lo MC MS G B X a S F V hC hW ao of hao ((xs (i + 1)).toInt) (ti_1 _) (ti_2 _) ((xs (i + 2)).toInt) (ti_1 _) (ti_2 _) (nI 0) hY1 hY2 hfl) rfl (tb_good (tb_cons wm531 (tb_cons wm532 (tb_cons wm0 k_La_add)))) (by decide +kernel) ⟨by rw [hRf]; exact Nat.le_of_ble_eq_true rfl, by rw [hRl]; exact Nat.le_of_ble_eq_true rfl⟩ hB1 hB2 rfl (Nat.le_of_ble_eq_true rfl) d_La_law_296) (fun r_5 G_2 B_3 p_4 => ?_)
    obtain ⟨hr9, hC9, ⟨of1, ho1, ho2⟩, hf9⟩ := p_4
    obtain ⟨kd, hkd⟩ : ∃ y9 : Nat, y9 = (sp_add S (iI ((xs (i + 1)).toInt)) (iI ((xs (i + 2)).toInt)) (decide ((nI 0) ≠ 0))).1 := ⟨_, rfl⟩
    rw [← hkd] at hr9 ho2
    subst hr9
    have hkb : kd ≤ 2 := by
      rw [hkd]
      rcases ka_add (S := S) (p0 := iI ((xs (i + 1)).toInt)) (p1 := iI ((xs (i + 2)).toInt)) (p2 := decide ((nI 0) ≠ 0)) with h9 | ⟨h9, -⟩ <;> rw [h9] <;> decide
    have hle9 := CW3_le hC9
    have hb91 : B_3.1 ≤ MC := Nat.le_trans hle9.1 hY1
    have hb92 : B_3.2 ≤ MS := Nat.le_trans hle9.2 hY2
    have hV9 : MW cA hm A S th none none none G_2 := MW_fr hV hf9 (fun x h8 h9 q9 => by omega)
    have hhm9 : G_2 hm = some (70, .inr (9, hobm)) := hf9 _ _ hhm (show ¬ ((70 : Nat) < 70 ∨ (70 : Nat) = 90) by decide)
    refine gst (pc' := 301) (L' := [(5, .int (nI kd)), (4, .int (nI i)), (3, .ref ao), (2, .ref hm), (1, .ref a.x), (0, .ref b)]) (fun _ _ _ _ _ hl => lv_istore hx hb d_La_law_299 hl (by decide) rfl) ?_
    refine gs (pc' := 302) (fun _ _ _ _ _ hl => lv_aload_n hx hb d_La_law_301 rfl (lv_at hl 3 rfl)) ?_
    refine gs (pc' := 303) (fun _ _ _ _ _ hl => lv_aload_n hx hb d_La_law_302 rfl (lv_at hl 5 rfl)) ?_
    refine gs (pc' := 305) (fun _ _ _ _ _ hl => lv_iload hx hb d_La_law_303 (lv_at hl 1 rfl)) ?_
    refine gs (pc' := 306) (fun _ _ _ _ _ hl => lv_iconst (v := nI 1) hx hb d_La_law_305 (by decide)) ?_
    refine gs (pc' := 307) (fun _ _ _ _ _ hl => lv_iadd hx hb d_La_law_306) ?_
    refine g_eqi (show (nI i) + (nI 1) = nI (i + 1) from nI_add _ _) ?_
    refine g_sld hx hb hX hbl hbA (show vp_in (nI (i + 1)) n from vp_in_nI (by omega) (by omega)) d_La_law_307 ?_
    rw [nI_clamp (by omega)]
    refine g_eqi (show xs (i + 1) = iI ((xs (i + 1)).toInt) from ti_e _) ?_
    refine gs (pc' := 309) (fun _ _ _ _ _ hl => lv_aload_n hx hb d_La_law_308 rfl (lv_at hl 5 rfl)) ?_
    refine gs (pc' := 311) (fun _ _ _ _ _ hl => lv_iload hx hb d_La_law_309 (lv_at hl 1 rfl)) ?_
    refine gs (pc' := 312) (fun _ _ _ _ _ hl => lv_iconst (v := nI 2) hx hb d_La_law_311 (by decide)) ?_
    refine gs (pc' := 313) (fun _ _ _ _ _ hl => lv_iadd hx hb d_La_law_312) ?_
    refine g_eqi (show (nI i) + (nI 2) = nI (i + 2) from nI_add _ _) ?_
    refine g_sld hx hb hX hbl hbA (show vp_in (nI (i + 2)) n from vp_in_nI (by omega) (by omega)) d_La_law_313 ?_
    rw [nI_clamp (by omega)]
    refine g_eqi (show xs (i + 2) = iI ((xs (i + 2)).toInt) from ti_e _) ?_
    refine gs (pc' := 315) (fun _ _ _ _ _ hl => lv_aload_n hx hb d_La_law_314 rfl (lv_at hl 5 rfl)) ?_
    refine gs (pc' := 317) (fun _ _ _ _ _ hl => lv_iload hx hb d_La_law_315 (lv_at hl 1 rfl)) ?_
    refine gs (pc' := 318) (fun _ _ _ _ _ hl => lv_iconst (v := nI 3) hx hb d_La_law_317 (by decide)) ?_
    refine gs (pc' := 319) (fun _ _ _ _ _ hl => lv_iadd hx hb d_La_law_318) ?_
    refine g_eqi (show (nI i) + (nI 3) = nI (i + 3) from nI_add _ _) ?_
    refine g_sld hx hb hX hbl hbA (show vp_in (nI (i + 3)) n from vp_in_nI (by omega) (by omega)) d_La_law_319 ?_
    rw [nI_clamp (by omega)]
    refine gsb (pc1 := 327) (pc2 := 323) (fun _ _ _ _ _ => lv_if_eq (tgt := 327) hx hb d_La_law_320 (by decide)) (fun c_6 => ?_) (fun c_6 => ?_)
    · skip
      refine gs (pc' := 328) (fun _ _ _ _ _ hl => lv_iconst (v := nI 0) hx hb d_La_law_327 (by decide)) ?_
      refine g_outi hlo (g_runV (As := [.int (iI ((xs (i + 1)).toInt)), .int (iI ((xs (i + 2)).toInt)), .int (nI 0)]) (rest := []) ⟨hx, hb, hml, hown, hts⟩ hK hZ hRc hRs (c_Mo_add l D cA lo MC MS G_2 B_3 hm A S th none none none hV9 hW ((xs (i + 1)).toInt) (ti_1 _) (ti_2 _) ((xs (i + 2)).toInt) (ti_1 _) (ti_2 _) (nI 0) hb91 hb92) (fun _ _ => cwV 3 hts (tb_good (tb_cons wm889 (tb_cons wm890 (tb_cons wm891 (tb_cons wm12 k_Mo_add))))) rfl rfl rfl (by decide +kernel) ⟨by rw [hRf]; exact Nat.le_of_ble_eq_true rfl, by rw [hRl]; exact Nat.le_of_ble_eq_true rfl⟩) hhm9 rfl hb91 hb92 rfl (Nat.le_of_ble_eq_true rfl) d_La_law_328) (fun r_10 G_7 B_8 p_9 => ?_)
      obtain ⟨e9, hr8, hV8, hf8⟩ := p_9
      have e8 : B_3 = B_8 := e9.symm
      subst e8
      rw [← hkd] at hr8 hV8
      have hC8 := CW3_up hC9 hf8 (fun x h9 => h9.1)
      have ho8 : G_7 ao = some (90, .inl (cA 1, 1, .inr (.inl of1))) := hf8 _ _ ho1 (show ¬ (70 ≤ (90 : Nat) ∧ (90 : Nat) < 90) by decide)
      obtain ⟨hob8, hhm8⟩ : ∃ o9, G_7 hm = some (70, .inr (9, o9)) := by obtain ⟨_, _, _, _, _, _, _, h9, -⟩ := hV8; exact ⟨_, h9⟩
      refine gst (pc' := 333) (L' := [(6, .int r_10), (5, .int (nI kd)), (4, .int (nI i)), (3, .ref ao), (2, .ref hm), (1, .ref a.x), (0, .ref b)]) (fun _ _ _ _ _ hl => lv_istore hx hb d_La_law_331 hl (by decide) rfl) ?_
      refine gs (pc' := 334) (fun _ _ _ _ _ hl => lv_aload_n hx hb d_La_law_333 rfl (lv_at hl 4 rfl)) ?_
      refine g_outi hlo (g_runV (As := []) (rest := []) ⟨hx, hb, hml, hown, hts⟩ hK hZ hRc hRs (c_Mo_thrown l D cA lo MC MS G_7 B_3 hm A _ kd none none none hV8 (add_ok hW) hb91 hb92) (fun _ _ => cwV 0 hts (tb_good (tb_cons wm821 (tb_cons wm822 (tb_cons wm823 (tb_cons wm12 k_Mo_thrown))))) rfl rfl rfl (by decide +kernel) ⟨by rw [hRf]; exact Nat.le_of_ble_eq_true rfl, by rw [hRl]; exact Nat.le_of_ble_eq_true rfl⟩) hhm8 rfl hb91 hb92 rfl (Nat.le_of_ble_eq_true rfl) d_La_law_334) (fun r_14 G_11 B_12 p_13 => ?_)
      obtain ⟨e7, hr7⟩ := p_13
      cases e7
      subst hr7
      refine gs (pc' := 339) (fun _ _ _ _ _ hl => lv_iload hx hb d_La_law_337 (lv_at hl 1 rfl)) ?_
      refine gsb (pc1 := 344) (pc2 := 342) (fun _ _ _ _ _ => lv_icmp_eq (tgt := 344) hx hb d_La_law_339 (by decide)) (fun c_15 => ?_) (fun c_15 => ?_)
      · skip
        have nc_15 : kd = kd := (nn_eq (a := kd) (b := kd) (by omega) (by omega)).1 c_15
        refine gs (pc' := 346) (fun _ _ _ _ _ hl => lv_iload hx hb d_La_law_344 (lv_at hl 1 rfl)) ?_
        refine gsb (pc1 := 361) (pc2 := 349) (fun _ _ _ _ _ => lv_if_ne (tgt := 361) hx hb d_La_law_346 (by decide)) (fun c_16 => ?_) (fun c_16 => ?_)
        · skip
          have nc_16 : kd ≠ 0 := (n0_ne (a := kd) (by omega)).1 c_16
          refine gs (pc' := 1286) (fun _ _ _ _ _ hl => lv_goto (tgt := 1286) hx hb d_La_law_361 (by decide)) ?_
          refine gsub [2, 3, 4, 5, 6] rfl ?_
          exact hnext _ kd of1 G_7 B_3 (add_ok hW) hC8 hV8 ho8
        · skip
          have nc_16 : kd = 0 := (n0_ne (a := kd) (by omega)).2 c_16
          have hr6 := hr8 nc_16
          have ho6 := ho2 nc_16
          subst hr6
          refine gs (pc' := 350) (fun _ _ _ _ _ hl => lv_aload_n hx hb d_La_law_349 rfl (lv_at hl 3 rfl)) ?_
          refine gs (pc' := 351) (fun _ _ _ _ _ hl => lv_iconst (v := nI 0) hx hb d_La_law_350 (by decide)) ?_
          refine g_lald hx hb hK 1 ho8 rfl (show vp_in (nI 0) 1 from vp_in_nI (by omega) (by omega)) d_La_law_351 ?_
          refine g_eql (show of1 (nI 0).toNatClampNeg = of1 0 from by rw [nI_clamp (by omega)]) ?_
          refine g_eql (show of1 0 = (iI (sp_add S (iI ((xs (i + 1)).toInt)) (iI ((xs (i + 2)).toInt)) (decide ((nI 0) ≠ 0))).2.1).toInt64 from ho6) ?_
          refine gs (pc' := 354) (fun _ _ _ _ _ hl => lv_iload hx hb d_La_law_352 (lv_at hl 0 rfl)) ?_
          refine gs (pc' := 355) (fun _ _ _ _ _ hl => lv_i2l (v := (iI (sp_add S (iI ((xs (i + 1)).toInt)) (iI ((xs (i + 2)).toInt)) (decide ((nI 0) ≠ 0))).2.1).toInt64) hx hb d_La_law_354 (rfl)) ?_
          refine gs (pc' := 356) (fun _ _ _ _ _ hl => W.lcmp hx hb d_La_law_355) ?_
          refine g_eqi (show lg_cmp ((iI (sp_add S (iI ((xs (i + 1)).toInt)) (iI ((xs (i + 2)).toInt)) (decide ((nI 0) ≠ 0))).2.1).toInt64) ((iI (sp_add S (iI ((xs (i + 1)).toInt)) (iI ((xs (i + 2)).toInt)) (decide ((nI 0) ≠ 0))).2.1).toInt64) = nI 0 from cmp_s _) ?_
          refine gsb (pc1 := 361) (pc2 := 359) (fun _ _ _ _ _ => lv_if_eq (tgt := 361) hx hb d_La_law_356 (by decide)) (fun c_17 => ?_) (fun c_17 => ?_)
          · skip
            have nc_17 : 0 = 0 := (n0_eq (a := 0) (by omega)).1 c_17
            refine gs (pc' := 1286) (fun _ _ _ _ _ hl => lv_goto (tgt := 1286) hx hb d_La_law_361 (by decide)) ?_
            refine gsub [2, 3, 4, 5, 6] rfl ?_
            exact hnext _ kd of1 G_7 B_3 (add_ok hW) hC8 hV8 ho8
          · skip
            have nc_17 : 0 ≠ 0 := (n0_eq (a := 0) (by omega)).2 c_17
            exact absurd nc_17 (by decide)
      · skip
        have nc_15 : kd ≠ kd := (nn_eq (a := kd) (b := kd) (by omega) (by omega)).2 c_15
        exact absurd rfl nc_15
    · skip
      exact absurd hz9 c_6
  · skip
    have hz9 : ¬ xs (i + 3) = 0 := c_1
    refine gs (pc' := 291) (fun _ _ _ _ _ hl => lv_iconst (v := nI 1) hx hb d_La_law_290 (by decide)) ?_
    refine gs (pc' := 295) (fun _ _ _ _ _ hl => lv_goto (tgt := 295) hx hb d_La_law_291 (by decide)) ?_
    refine gs (pc' := 296) (fun _ _ _ _ _ hl => lv_aload_n hx hb d_La_law_295 rfl (lv_at hl 1 rfl)) ?_
    refine g_outi hlo (g_runSW (n := 5) (As := [.ref a.x, .int (iI ((xs (i + 1)).toInt)), .int (iI ((xs (i + 2)).toInt)), .int (nI 1), .ref ao]) (rest := []) ⟨hx, hb, hml, hown, hts⟩ hK hZ hRc hRs (c_La_add l D cA lo MC MS G B X a S F V hC hW ao of hao ((xs (i + 1)).toInt) (ti_1 _) (ti_2 _) ((xs (i + 2)).toInt) (ti_1 _) (ti_2 _) (nI 1) hY1 hY2 hfl) rfl (tb_good (tb_cons wm531 (tb_cons wm532 (tb_cons wm0 k_La_add)))) (by decide +kernel) ⟨by rw [hRf]; exact Nat.le_of_ble_eq_true rfl, by rw [hRl]; exact Nat.le_of_ble_eq_true rfl⟩ hB1 hB2 rfl (Nat.le_of_ble_eq_true rfl) d_La_law_296) (fun r_21 G_18 B_19 p_20 => ?_)
    obtain ⟨hr9, hC9, ⟨of1, ho1, ho2⟩, hf9⟩ := p_20
    obtain ⟨kd, hkd⟩ : ∃ y9 : Nat, y9 = (sp_add S (iI ((xs (i + 1)).toInt)) (iI ((xs (i + 2)).toInt)) (decide ((nI 1) ≠ 0))).1 := ⟨_, rfl⟩
    rw [← hkd] at hr9 ho2
    subst hr9
    have hkb : kd ≤ 2 := by
      rw [hkd]
      rcases ka_add (S := S) (p0 := iI ((xs (i + 1)).toInt)) (p1 := iI ((xs (i + 2)).toInt)) (p2 := decide ((nI 1) ≠ 0)) with h9 | ⟨h9, -⟩ <;> rw [h9] <;> decide
    have hle9 := CW3_le hC9
    have hb91 : B_19.1 ≤ MC := Nat.le_trans hle9.1 hY1
    have hb92 : B_19.2 ≤ MS := Nat.le_trans hle9.2 hY2
    have hV9 : MW cA hm A S th none none none G_18 := MW_fr hV hf9 (fun x h8 h9 q9 => by omega)
    have hhm9 : G_18 hm = some (70, .inr (9, hobm)) := hf9 _ _ hhm (show ¬ ((70 : Nat) < 70 ∨ (70 : Nat) = 90) by decide)
    refine gst (pc' := 301) (L' := [(5, .int (nI kd)), (4, .int (nI i)), (3, .ref ao), (2, .ref hm), (1, .ref a.x), (0, .ref b)]) (fun _ _ _ _ _ hl => lv_istore hx hb d_La_law_299 hl (by decide) rfl) ?_
    refine gs (pc' := 302) (fun _ _ _ _ _ hl => lv_aload_n hx hb d_La_law_301 rfl (lv_at hl 3 rfl)) ?_
    refine gs (pc' := 303) (fun _ _ _ _ _ hl => lv_aload_n hx hb d_La_law_302 rfl (lv_at hl 5 rfl)) ?_
    refine gs (pc' := 305) (fun _ _ _ _ _ hl => lv_iload hx hb d_La_law_303 (lv_at hl 1 rfl)) ?_
    refine gs (pc' := 306) (fun _ _ _ _ _ hl => lv_iconst (v := nI 1) hx hb d_La_law_305 (by decide)) ?_
    refine gs (pc' := 307) (fun _ _ _ _ _ hl => lv_iadd hx hb d_La_law_306) ?_
    refine g_eqi (show (nI i) + (nI 1) = nI (i + 1) from nI_add _ _) ?_
    refine g_sld hx hb hX hbl hbA (show vp_in (nI (i + 1)) n from vp_in_nI (by omega) (by omega)) d_La_law_307 ?_
    rw [nI_clamp (by omega)]
    refine g_eqi (show xs (i + 1) = iI ((xs (i + 1)).toInt) from ti_e _) ?_
    refine gs (pc' := 309) (fun _ _ _ _ _ hl => lv_aload_n hx hb d_La_law_308 rfl (lv_at hl 5 rfl)) ?_
    refine gs (pc' := 311) (fun _ _ _ _ _ hl => lv_iload hx hb d_La_law_309 (lv_at hl 1 rfl)) ?_
    refine gs (pc' := 312) (fun _ _ _ _ _ hl => lv_iconst (v := nI 2) hx hb d_La_law_311 (by decide)) ?_
    refine gs (pc' := 313) (fun _ _ _ _ _ hl => lv_iadd hx hb d_La_law_312) ?_
    refine g_eqi (show (nI i) + (nI 2) = nI (i + 2) from nI_add _ _) ?_
    refine g_sld hx hb hX hbl hbA (show vp_in (nI (i + 2)) n from vp_in_nI (by omega) (by omega)) d_La_law_313 ?_
    rw [nI_clamp (by omega)]
    refine g_eqi (show xs (i + 2) = iI ((xs (i + 2)).toInt) from ti_e _) ?_
    refine gs (pc' := 315) (fun _ _ _ _ _ hl => lv_aload_n hx hb d_La_law_314 rfl (lv_at hl 5 rfl)) ?_
    refine gs (pc' := 317) (fun _ _ _ _ _ hl => lv_iload hx hb d_La_law_315 (lv_at hl 1 rfl)) ?_
    refine gs (pc' := 318) (fun _ _ _ _ _ hl => lv_iconst (v := nI 3) hx hb d_La_law_317 (by decide)) ?_
    refine gs (pc' := 319) (fun _ _ _ _ _ hl => lv_iadd hx hb d_La_law_318) ?_
    refine g_eqi (show (nI i) + (nI 3) = nI (i + 3) from nI_add _ _) ?_
    refine g_sld hx hb hX hbl hbA (show vp_in (nI (i + 3)) n from vp_in_nI (by omega) (by omega)) d_La_law_319 ?_
    rw [nI_clamp (by omega)]
    refine gsb (pc1 := 327) (pc2 := 323) (fun _ _ _ _ _ => lv_if_eq (tgt := 327) hx hb d_La_law_320 (by decide)) (fun c_22 => ?_) (fun c_22 => ?_)
    · skip
      exact absurd c_22 hz9
    · skip
      refine gs (pc' := 324) (fun _ _ _ _ _ hl => lv_iconst (v := nI 1) hx hb d_La_law_323 (by decide)) ?_
      refine gs (pc' := 328) (fun _ _ _ _ _ hl => lv_goto (tgt := 328) hx hb d_La_law_324 (by decide)) ?_
      refine g_outi hlo (g_runV (As := [.int (iI ((xs (i + 1)).toInt)), .int (iI ((xs (i + 2)).toInt)), .int (nI 1)]) (rest := []) ⟨hx, hb, hml, hown, hts⟩ hK hZ hRc hRs (c_Mo_add l D cA lo MC MS G_18 B_19 hm A S th none none none hV9 hW ((xs (i + 1)).toInt) (ti_1 _) (ti_2 _) ((xs (i + 2)).toInt) (ti_1 _) (ti_2 _) (nI 1) hb91 hb92) (fun _ _ => cwV 3 hts (tb_good (tb_cons wm889 (tb_cons wm890 (tb_cons wm891 (tb_cons wm12 k_Mo_add))))) rfl rfl rfl (by decide +kernel) ⟨by rw [hRf]; exact Nat.le_of_ble_eq_true rfl, by rw [hRl]; exact Nat.le_of_ble_eq_true rfl⟩) hhm9 rfl hb91 hb92 rfl (Nat.le_of_ble_eq_true rfl) d_La_law_328) (fun r_26 G_23 B_24 p_25 => ?_)
      obtain ⟨e9, hr8, hV8, hf8⟩ := p_25
      have e8 : B_19 = B_24 := e9.symm
      subst e8
      rw [← hkd] at hr8 hV8
      have hC8 := CW3_up hC9 hf8 (fun x h9 => h9.1)
      have ho8 : G_23 ao = some (90, .inl (cA 1, 1, .inr (.inl of1))) := hf8 _ _ ho1 (show ¬ (70 ≤ (90 : Nat) ∧ (90 : Nat) < 90) by decide)
      obtain ⟨hob8, hhm8⟩ : ∃ o9, G_23 hm = some (70, .inr (9, o9)) := by obtain ⟨_, _, _, _, _, _, _, h9, -⟩ := hV8; exact ⟨_, h9⟩
      refine gst (pc' := 333) (L' := [(6, .int r_26), (5, .int (nI kd)), (4, .int (nI i)), (3, .ref ao), (2, .ref hm), (1, .ref a.x), (0, .ref b)]) (fun _ _ _ _ _ hl => lv_istore hx hb d_La_law_331 hl (by decide) rfl) ?_
      refine gs (pc' := 334) (fun _ _ _ _ _ hl => lv_aload_n hx hb d_La_law_333 rfl (lv_at hl 4 rfl)) ?_
      refine g_outi hlo (g_runV (As := []) (rest := []) ⟨hx, hb, hml, hown, hts⟩ hK hZ hRc hRs (c_Mo_thrown l D cA lo MC MS G_23 B_19 hm A _ kd none none none hV8 (add_ok hW) hb91 hb92) (fun _ _ => cwV 0 hts (tb_good (tb_cons wm821 (tb_cons wm822 (tb_cons wm823 (tb_cons wm12 k_Mo_thrown))))) rfl rfl rfl (by decide +kernel) ⟨by rw [hRf]; exact Nat.le_of_ble_eq_true rfl, by rw [hRl]; exact Nat.le_of_ble_eq_true rfl⟩) hhm8 rfl hb91 hb92 rfl (Nat.le_of_ble_eq_true rfl) d_La_law_334) (fun r_30 G_27 B_28 p_29 => ?_)
      obtain ⟨e7, hr7⟩ := p_29
      cases e7
      subst hr7
      refine gs (pc' := 339) (fun _ _ _ _ _ hl => lv_iload hx hb d_La_law_337 (lv_at hl 1 rfl)) ?_
      refine gsb (pc1 := 344) (pc2 := 342) (fun _ _ _ _ _ => lv_icmp_eq (tgt := 344) hx hb d_La_law_339 (by decide)) (fun c_31 => ?_) (fun c_31 => ?_)
      · skip
        have nc_31 : kd = kd := (nn_eq (a := kd) (b := kd) (by omega) (by omega)).1 c_31
        refine gs (pc' := 346) (fun _ _ _ _ _ hl => lv_iload hx hb d_La_law_344 (lv_at hl 1 rfl)) ?_
        refine gsb (pc1 := 361) (pc2 := 349) (fun _ _ _ _ _ => lv_if_ne (tgt := 361) hx hb d_La_law_346 (by decide)) (fun c_32 => ?_) (fun c_32 => ?_)
        · skip
          have nc_32 : kd ≠ 0 := (n0_ne (a := kd) (by omega)).1 c_32
          refine gs (pc' := 1286) (fun _ _ _ _ _ hl => lv_goto (tgt := 1286) hx hb d_La_law_361 (by decide)) ?_
          refine gsub [2, 3, 4, 5, 6] rfl ?_
          exact hnext _ kd of1 G_23 B_19 (add_ok hW) hC8 hV8 ho8
        · skip
          have nc_32 : kd = 0 := (n0_ne (a := kd) (by omega)).2 c_32
          have hr6 := hr8 nc_32
          have ho6 := ho2 nc_32
          subst hr6
          refine gs (pc' := 350) (fun _ _ _ _ _ hl => lv_aload_n hx hb d_La_law_349 rfl (lv_at hl 3 rfl)) ?_
          refine gs (pc' := 351) (fun _ _ _ _ _ hl => lv_iconst (v := nI 0) hx hb d_La_law_350 (by decide)) ?_
          refine g_lald hx hb hK 1 ho8 rfl (show vp_in (nI 0) 1 from vp_in_nI (by omega) (by omega)) d_La_law_351 ?_
          refine g_eql (show of1 (nI 0).toNatClampNeg = of1 0 from by rw [nI_clamp (by omega)]) ?_
          refine g_eql (show of1 0 = (iI (sp_add S (iI ((xs (i + 1)).toInt)) (iI ((xs (i + 2)).toInt)) (decide ((nI 1) ≠ 0))).2.1).toInt64 from ho6) ?_
          refine gs (pc' := 354) (fun _ _ _ _ _ hl => lv_iload hx hb d_La_law_352 (lv_at hl 0 rfl)) ?_
          refine gs (pc' := 355) (fun _ _ _ _ _ hl => lv_i2l (v := (iI (sp_add S (iI ((xs (i + 1)).toInt)) (iI ((xs (i + 2)).toInt)) (decide ((nI 1) ≠ 0))).2.1).toInt64) hx hb d_La_law_354 (rfl)) ?_
          refine gs (pc' := 356) (fun _ _ _ _ _ hl => W.lcmp hx hb d_La_law_355) ?_
          refine g_eqi (show lg_cmp ((iI (sp_add S (iI ((xs (i + 1)).toInt)) (iI ((xs (i + 2)).toInt)) (decide ((nI 1) ≠ 0))).2.1).toInt64) ((iI (sp_add S (iI ((xs (i + 1)).toInt)) (iI ((xs (i + 2)).toInt)) (decide ((nI 1) ≠ 0))).2.1).toInt64) = nI 0 from cmp_s _) ?_
          refine gsb (pc1 := 361) (pc2 := 359) (fun _ _ _ _ _ => lv_if_eq (tgt := 361) hx hb d_La_law_356 (by decide)) (fun c_33 => ?_) (fun c_33 => ?_)
          · skip
            have nc_33 : 0 = 0 := (n0_eq (a := 0) (by omega)).1 c_33
            refine gs (pc' := 1286) (fun _ _ _ _ _ hl => lv_goto (tgt := 1286) hx hb d_La_law_361 (by decide)) ?_
            refine gsub [2, 3, 4, 5, 6] rfl ?_
            exact hnext _ kd of1 G_23 B_19 (add_ok hW) hC8 hV8 ho8
          · skip
            have nc_33 : 0 ≠ 0 := (n0_eq (a := 0) (by omega)).2 c_33
            exact absurd nc_33 (by decide)
      · skip
        have nc_31 : kd ≠ kd := (nn_eq (a := kd) (b := kd) (by omega) (by omega)).2 c_31
        exact absurd rfl nc_31
set_option maxHeartbeats 4000000 in
set_option maxRecDepth 100000 in
theorem law_times {p : Program} {l : Launch} {e : Env} {R : Room} {s : State} {m : MethodId} {args : Array Value} {below : List Frame} {meth : Method} {c : Code} {Q : State → Prop} {D : va_G} {cA : Nat → ClassId} {lo MC MS b n : Nat} {xs : Nat → Int32} (h0 : LC p l R s m args c D cA lo MC MS b n xs) (i : Nat) (hi : i + 6 ≤ n) (X : Nat × Nat) (a : AX) (S : St) (hm : Nat) (A : Nat → Nat) (th ao : Nat) (of : Nat → Int64) (G : gT) (B : Nat × Nat) (hC3 : CW3 cA X a S (G, B)) (hW : WF S) (hV : MW cA hm A S th none none none G) (hao : G ao = some (90, .inl (cA 1, 1, .inr (.inl of)))) (hY1 : X.1 + 6 ≤ MC) (hY2 : X.2 + 209 ≤ MS) (hnext : ∀ (S1 : St) (th1 : Nat) (of1 : Nat → Int64) (G1 : gT) (B1 : Nat × Nat), WF S1 → CW3 cA (X.1 + 6, X.2 + 209) a S1 (G1, B1) → MW cA hm A S1 th1 none none none G1 → G1 ao = some (90, .inl (cA 1, 1, .inr (.inl of1))) → gV p l e R s m args below meth c D clS lo 8 Q 1286 [(4, .int (nI i)), (3, .ref ao), (2, .ref hm), (1, .ref a.x), (0, .ref b)] [] G1 B1) : gV p l e R s m args below meth c D clS lo 8 Q 364 [(4, .int (nI i)), (3, .ref ao), (2, .ref hm), (1, .ref a.x), (0, .ref b)] [] G B := by
  obtain ⟨hx, hb, hml, hown, hts, hK, hlo, hZ, hRc, hRs, hRf, hRl, hX, hbl, hbA, hn, hfl⟩ := h0
  obtain ⟨F, V, hC⟩ := hC3
  have hle0 := w2_le hC.w
  have hB1 : B.1 ≤ MC := by omega
  have hB2 : B.2 ≤ MS := by omega
  have hax : G a.x = some (31, .inr (8, [.ref a.vs, .int (nI S.n), .ref a.rs, .int (nI S.rn), .ref a.ws, .ref a.ca, .ref (a.fr 0), .ref (a.fr 1), .ref (a.fr 2), .ref (a.fr 3), .ref a.zr, .ref a.fo, .ref a.ha, .ref a.si])) := hC.ob
  obtain ⟨hobm, hhm⟩ : ∃ o9, G hm = some (70, .inr (9, o9)) := by obtain ⟨_, _, _, _, _, _, _, h9, -⟩ := hV; exact ⟨_, h9⟩
  refine gs (pc' := 365) (fun _ _ _ _ _ hl => lv_aload_n hx hb d_La_law_364 rfl (lv_at hl 3 rfl)) ?_
  refine gs (pc' := 366) (fun _ _ _ _ _ hl => lv_aload_n hx hb d_La_law_365 rfl (lv_at hl 4 rfl)) ?_
  refine gs (pc' := 368) (fun _ _ _ _ _ hl => lv_iload hx hb d_La_law_366 (lv_at hl 0 rfl)) ?_
  refine gs (pc' := 369) (fun _ _ _ _ _ hl => lv_iconst (v := nI 1) hx hb d_La_law_368 (by decide)) ?_
  refine gs (pc' := 370) (fun _ _ _ _ _ hl => lv_iadd hx hb d_La_law_369) ?_
  refine g_eqi (show (nI i) + (nI 1) = nI (i + 1) from nI_add _ _) ?_
  refine g_sld hx hb hX hbl hbA (show vp_in (nI (i + 1)) n from vp_in_nI (by omega) (by omega)) d_La_law_370 ?_
  rw [nI_clamp (by omega)]
  refine g_eqi (show xs (i + 1) = iI ((xs (i + 1)).toInt) from ti_e _) ?_
  refine gs (pc' := 372) (fun _ _ _ _ _ hl => lv_aload_n hx hb d_La_law_371 rfl (lv_at hl 4 rfl)) ?_
  refine gs (pc' := 374) (fun _ _ _ _ _ hl => lv_iload hx hb d_La_law_372 (lv_at hl 0 rfl)) ?_
  refine gs (pc' := 375) (fun _ _ _ _ _ hl => lv_iconst (v := nI 2) hx hb d_La_law_374 (by decide)) ?_
  refine gs (pc' := 376) (fun _ _ _ _ _ hl => lv_iadd hx hb d_La_law_375) ?_
  refine g_eqi (show (nI i) + (nI 2) = nI (i + 2) from nI_add _ _) ?_
  refine g_sld hx hb hX hbl hbA (show vp_in (nI (i + 2)) n from vp_in_nI (by omega) (by omega)) d_La_law_376 ?_
  rw [nI_clamp (by omega)]
  refine g_eqi (show xs (i + 2) = iI ((xs (i + 2)).toInt) from ti_e _) ?_
  refine gs (pc' := 378) (fun _ _ _ _ _ hl => lv_aload_n hx hb d_La_law_377 rfl (lv_at hl 1 rfl)) ?_
  refine g_outi hlo (g_runSW (n := 4) (As := [.ref a.x, .int (iI ((xs (i + 1)).toInt)), .int (iI ((xs (i + 2)).toInt)), .ref ao]) (rest := []) ⟨hx, hb, hml, hown, hts⟩ hK hZ hRc hRs (c_La_times l D cA lo MC MS G B X a S F V hC hW ao of hao ((xs (i + 1)).toInt) (ti_1 _) (ti_2 _) ((xs (i + 2)).toInt) (ti_1 _) (ti_2 _) hY1 hY2 hfl) rfl (tb_good (tb_cons wm581 (tb_cons wm582 (tb_cons wm0 k_La_times)))) (by decide +kernel) ⟨by rw [hRf]; exact Nat.le_of_ble_eq_true rfl, by rw [hRl]; exact Nat.le_of_ble_eq_true rfl⟩ hB1 hB2 rfl (Nat.le_of_ble_eq_true rfl) d_La_law_378) (fun r_4 G_1 B_2 p_3 => ?_)
  obtain ⟨hr9, hC9, ⟨of1, ho1, ho2⟩, hf9⟩ := p_3
  obtain ⟨kd, hkd⟩ : ∃ y9 : Nat, y9 = (sp_times S (iI ((xs (i + 1)).toInt)) (iI ((xs (i + 2)).toInt))).1 := ⟨_, rfl⟩
  rw [← hkd] at hr9 ho2
  subst hr9
  have hkb : kd ≤ 2 := by
    rw [hkd]
    rcases ka_times (S := S) (p0 := iI ((xs (i + 1)).toInt)) (p1 := iI ((xs (i + 2)).toInt)) with h9 | ⟨h9, -⟩ <;> rw [h9] <;> decide
  have hle9 := CW3_le hC9
  have hb91 : B_2.1 ≤ MC := Nat.le_trans hle9.1 hY1
  have hb92 : B_2.2 ≤ MS := Nat.le_trans hle9.2 hY2
  have hV9 : MW cA hm A S th none none none G_1 := MW_fr hV hf9 (fun x h8 h9 q9 => by omega)
  have hhm9 : G_1 hm = some (70, .inr (9, hobm)) := hf9 _ _ hhm (show ¬ ((70 : Nat) < 70 ∨ (70 : Nat) = 90) by decide)
  refine gst (pc' := 383) (L' := [(5, .int (nI kd)), (4, .int (nI i)), (3, .ref ao), (2, .ref hm), (1, .ref a.x), (0, .ref b)]) (fun _ _ _ _ _ hl => lv_istore hx hb d_La_law_381 hl (by decide) rfl) ?_
  refine gs (pc' := 384) (fun _ _ _ _ _ hl => lv_aload_n hx hb d_La_law_383 rfl (lv_at hl 3 rfl)) ?_
  refine gs (pc' := 385) (fun _ _ _ _ _ hl => lv_aload_n hx hb d_La_law_384 rfl (lv_at hl 5 rfl)) ?_
  refine gs (pc' := 387) (fun _ _ _ _ _ hl => lv_iload hx hb d_La_law_385 (lv_at hl 1 rfl)) ?_
  refine gs (pc' := 388) (fun _ _ _ _ _ hl => lv_iconst (v := nI 1) hx hb d_La_law_387 (by decide)) ?_
  refine gs (pc' := 389) (fun _ _ _ _ _ hl => lv_iadd hx hb d_La_law_388) ?_
  refine g_eqi (show (nI i) + (nI 1) = nI (i + 1) from nI_add _ _) ?_
  refine g_sld hx hb hX hbl hbA (show vp_in (nI (i + 1)) n from vp_in_nI (by omega) (by omega)) d_La_law_389 ?_
  rw [nI_clamp (by omega)]
  refine g_eqi (show xs (i + 1) = iI ((xs (i + 1)).toInt) from ti_e _) ?_
  refine gs (pc' := 391) (fun _ _ _ _ _ hl => lv_aload_n hx hb d_La_law_390 rfl (lv_at hl 5 rfl)) ?_
  refine gs (pc' := 393) (fun _ _ _ _ _ hl => lv_iload hx hb d_La_law_391 (lv_at hl 1 rfl)) ?_
  refine gs (pc' := 394) (fun _ _ _ _ _ hl => lv_iconst (v := nI 2) hx hb d_La_law_393 (by decide)) ?_
  refine gs (pc' := 395) (fun _ _ _ _ _ hl => lv_iadd hx hb d_La_law_394) ?_
  refine g_eqi (show (nI i) + (nI 2) = nI (i + 2) from nI_add _ _) ?_
  refine g_sld hx hb hX hbl hbA (show vp_in (nI (i + 2)) n from vp_in_nI (by omega) (by omega)) d_La_law_395 ?_
  rw [nI_clamp (by omega)]
  refine g_eqi (show xs (i + 2) = iI ((xs (i + 2)).toInt) from ti_e _) ?_
  refine g_outi hlo (g_runV (As := [.int (iI ((xs (i + 1)).toInt)), .int (iI ((xs (i + 2)).toInt))]) (rest := []) ⟨hx, hb, hml, hown, hts⟩ hK hZ hRc hRs (c_Mo_times l D cA lo MC MS G_1 B_2 hm A S th none none none hV9 hW ((xs (i + 1)).toInt) (ti_1 _) (ti_2 _) ((xs (i + 2)).toInt) (ti_1 _) (ti_2 _) hb91 hb92) (fun _ _ => cwV 2 hts (tb_good (tb_cons wm929 (tb_cons wm930 (tb_cons wm931 (tb_cons wm12 k_Mo_times))))) rfl rfl rfl (by decide +kernel) ⟨by rw [hRf]; exact Nat.le_of_ble_eq_true rfl, by rw [hRl]; exact Nat.le_of_ble_eq_true rfl⟩) hhm9 rfl hb91 hb92 rfl (Nat.le_of_ble_eq_true rfl) d_La_law_396) (fun r_8 G_5 B_6 p_7 => ?_)
  obtain ⟨e9, hr8, hV8, hf8⟩ := p_7
  have e8 : B_2 = B_6 := e9.symm
  subst e8
  rw [← hkd] at hr8 hV8
  have hC8 := CW3_up hC9 hf8 (fun x h9 => h9.1)
  have ho8 : G_5 ao = some (90, .inl (cA 1, 1, .inr (.inl of1))) := hf8 _ _ ho1 (show ¬ (70 ≤ (90 : Nat) ∧ (90 : Nat) < 90) by decide)
  obtain ⟨hob8, hhm8⟩ : ∃ o9, G_5 hm = some (70, .inr (9, o9)) := by obtain ⟨_, _, _, _, _, _, _, h9, -⟩ := hV8; exact ⟨_, h9⟩
  refine gst (pc' := 401) (L' := [(6, .int r_8), (5, .int (nI kd)), (4, .int (nI i)), (3, .ref ao), (2, .ref hm), (1, .ref a.x), (0, .ref b)]) (fun _ _ _ _ _ hl => lv_istore hx hb d_La_law_399 hl (by decide) rfl) ?_
  refine gs (pc' := 402) (fun _ _ _ _ _ hl => lv_aload_n hx hb d_La_law_401 rfl (lv_at hl 4 rfl)) ?_
  refine g_outi hlo (g_runV (As := []) (rest := []) ⟨hx, hb, hml, hown, hts⟩ hK hZ hRc hRs (c_Mo_thrown l D cA lo MC MS G_5 B_2 hm A _ kd none none none hV8 (times_ok hW) hb91 hb92) (fun _ _ => cwV 0 hts (tb_good (tb_cons wm821 (tb_cons wm822 (tb_cons wm823 (tb_cons wm12 k_Mo_thrown))))) rfl rfl rfl (by decide +kernel) ⟨by rw [hRf]; exact Nat.le_of_ble_eq_true rfl, by rw [hRl]; exact Nat.le_of_ble_eq_true rfl⟩) hhm8 rfl hb91 hb92 rfl (Nat.le_of_ble_eq_true rfl) d_La_law_402) (fun r_12 G_9 B_10 p_11 => ?_)
  obtain ⟨e7, hr7⟩ := p_11
  cases e7
  subst hr7
  refine gs (pc' := 407) (fun _ _ _ _ _ hl => lv_iload hx hb d_La_law_405 (lv_at hl 1 rfl)) ?_
  refine gsb (pc1 := 412) (pc2 := 410) (fun _ _ _ _ _ => lv_icmp_eq (tgt := 412) hx hb d_La_law_407 (by decide)) (fun c_13 => ?_) (fun c_13 => ?_)
  · skip
    have nc_13 : kd = kd := (nn_eq (a := kd) (b := kd) (by omega) (by omega)).1 c_13
    refine gs (pc' := 414) (fun _ _ _ _ _ hl => lv_iload hx hb d_La_law_412 (lv_at hl 1 rfl)) ?_
    refine gsb (pc1 := 429) (pc2 := 417) (fun _ _ _ _ _ => lv_if_ne (tgt := 429) hx hb d_La_law_414 (by decide)) (fun c_14 => ?_) (fun c_14 => ?_)
    · skip
      have nc_14 : kd ≠ 0 := (n0_ne (a := kd) (by omega)).1 c_14
      refine gs (pc' := 1286) (fun _ _ _ _ _ hl => lv_goto (tgt := 1286) hx hb d_La_law_429 (by decide)) ?_
      refine gsub [2, 3, 4, 5, 6] rfl ?_
      exact hnext _ kd of1 G_5 B_2 (times_ok hW) hC8 hV8 ho8
    · skip
      have nc_14 : kd = 0 := (n0_ne (a := kd) (by omega)).2 c_14
      have hr6 := hr8 nc_14
      have ho6 := ho2 nc_14
      subst hr6
      refine gs (pc' := 418) (fun _ _ _ _ _ hl => lv_aload_n hx hb d_La_law_417 rfl (lv_at hl 3 rfl)) ?_
      refine gs (pc' := 419) (fun _ _ _ _ _ hl => lv_iconst (v := nI 0) hx hb d_La_law_418 (by decide)) ?_
      refine g_lald hx hb hK 1 ho8 rfl (show vp_in (nI 0) 1 from vp_in_nI (by omega) (by omega)) d_La_law_419 ?_
      refine g_eql (show of1 (nI 0).toNatClampNeg = of1 0 from by rw [nI_clamp (by omega)]) ?_
      refine g_eql (show of1 0 = (iI (sp_times S (iI ((xs (i + 1)).toInt)) (iI ((xs (i + 2)).toInt))).2.1).toInt64 from ho6) ?_
      refine gs (pc' := 422) (fun _ _ _ _ _ hl => lv_iload hx hb d_La_law_420 (lv_at hl 0 rfl)) ?_
      refine gs (pc' := 423) (fun _ _ _ _ _ hl => lv_i2l (v := (iI (sp_times S (iI ((xs (i + 1)).toInt)) (iI ((xs (i + 2)).toInt))).2.1).toInt64) hx hb d_La_law_422 (rfl)) ?_
      refine gs (pc' := 424) (fun _ _ _ _ _ hl => W.lcmp hx hb d_La_law_423) ?_
      refine g_eqi (show lg_cmp ((iI (sp_times S (iI ((xs (i + 1)).toInt)) (iI ((xs (i + 2)).toInt))).2.1).toInt64) ((iI (sp_times S (iI ((xs (i + 1)).toInt)) (iI ((xs (i + 2)).toInt))).2.1).toInt64) = nI 0 from cmp_s _) ?_
      refine gsb (pc1 := 429) (pc2 := 427) (fun _ _ _ _ _ => lv_if_eq (tgt := 429) hx hb d_La_law_424 (by decide)) (fun c_15 => ?_) (fun c_15 => ?_)
      · skip
        have nc_15 : 0 = 0 := (n0_eq (a := 0) (by omega)).1 c_15
        refine gs (pc' := 1286) (fun _ _ _ _ _ hl => lv_goto (tgt := 1286) hx hb d_La_law_429 (by decide)) ?_
        refine gsub [2, 3, 4, 5, 6] rfl ?_
        exact hnext _ kd of1 G_5 B_2 (times_ok hW) hC8 hV8 ho8
      · skip
        have nc_15 : 0 ≠ 0 := (n0_eq (a := 0) (by omega)).2 c_15
        exact absurd nc_15 (by decide)
  · skip
    have nc_13 : kd ≠ kd := (nn_eq (a := kd) (b := kd) (by omega) (by omega)).2 c_13
    exact absurd rfl nc_13
set_option maxHeartbeats 4000000 in
set_option maxRecDepth 100000 in
theorem law_over {p : Program} {l : Launch} {e : Env} {R : Room} {s : State} {m : MethodId} {args : Array Value} {below : List Frame} {meth : Method} {c : Code} {Q : State → Prop} {D : va_G} {cA : Nat → ClassId} {lo MC MS b n : Nat} {xs : Nat → Int32} (h0 : LC p l R s m args c D cA lo MC MS b n xs) (i : Nat) (hi : i + 6 ≤ n) (X : Nat × Nat) (a : AX) (S : St) (hm : Nat) (A : Nat → Nat) (th ao : Nat) (of : Nat → Int64) (G : gT) (B : Nat × Nat) (hC3 : CW3 cA X a S (G, B)) (hW : WF S) (hV : MW cA hm A S th none none none G) (hao : G ao = some (90, .inl (cA 1, 1, .inr (.inl of)))) (hY1 : X.1 + 6 ≤ MC) (hY2 : X.2 + 209 ≤ MS) (hnext : ∀ (S1 : St) (th1 : Nat) (of1 : Nat → Int64) (G1 : gT) (B1 : Nat × Nat), WF S1 → CW3 cA (X.1 + 6, X.2 + 209) a S1 (G1, B1) → MW cA hm A S1 th1 none none none G1 → G1 ao = some (90, .inl (cA 1, 1, .inr (.inl of1))) → gV p l e R s m args below meth c D clS lo 8 Q 1286 [(4, .int (nI i)), (3, .ref ao), (2, .ref hm), (1, .ref a.x), (0, .ref b)] [] G1 B1) : gV p l e R s m args below meth c D clS lo 8 Q 432 [(4, .int (nI i)), (3, .ref ao), (2, .ref hm), (1, .ref a.x), (0, .ref b)] [] G B := by
  obtain ⟨hx, hb, hml, hown, hts, hK, hlo, hZ, hRc, hRs, hRf, hRl, hX, hbl, hbA, hn, hfl⟩ := h0
  obtain ⟨F, V, hC⟩ := hC3
  have hle0 := w2_le hC.w
  have hB1 : B.1 ≤ MC := by omega
  have hB2 : B.2 ≤ MS := by omega
  have hax : G a.x = some (31, .inr (8, [.ref a.vs, .int (nI S.n), .ref a.rs, .int (nI S.rn), .ref a.ws, .ref a.ca, .ref (a.fr 0), .ref (a.fr 1), .ref (a.fr 2), .ref (a.fr 3), .ref a.zr, .ref a.fo, .ref a.ha, .ref a.si])) := hC.ob
  obtain ⟨hobm, hhm⟩ : ∃ o9, G hm = some (70, .inr (9, o9)) := by obtain ⟨_, _, _, _, _, _, _, h9, -⟩ := hV; exact ⟨_, h9⟩
  refine gs (pc' := 433) (fun _ _ _ _ _ hl => lv_aload_n hx hb d_La_law_432 rfl (lv_at hl 3 rfl)) ?_
  refine gs (pc' := 434) (fun _ _ _ _ _ hl => lv_aload_n hx hb d_La_law_433 rfl (lv_at hl 4 rfl)) ?_
  refine gs (pc' := 436) (fun _ _ _ _ _ hl => lv_iload hx hb d_La_law_434 (lv_at hl 0 rfl)) ?_
  refine gs (pc' := 437) (fun _ _ _ _ _ hl => lv_iconst (v := nI 1) hx hb d_La_law_436 (by decide)) ?_
  refine gs (pc' := 438) (fun _ _ _ _ _ hl => lv_iadd hx hb d_La_law_437) ?_
  refine g_eqi (show (nI i) + (nI 1) = nI (i + 1) from nI_add _ _) ?_
  refine g_sld hx hb hX hbl hbA (show vp_in (nI (i + 1)) n from vp_in_nI (by omega) (by omega)) d_La_law_438 ?_
  rw [nI_clamp (by omega)]
  refine g_eqi (show xs (i + 1) = iI ((xs (i + 1)).toInt) from ti_e _) ?_
  refine gs (pc' := 440) (fun _ _ _ _ _ hl => lv_aload_n hx hb d_La_law_439 rfl (lv_at hl 4 rfl)) ?_
  refine gs (pc' := 442) (fun _ _ _ _ _ hl => lv_iload hx hb d_La_law_440 (lv_at hl 0 rfl)) ?_
  refine gs (pc' := 443) (fun _ _ _ _ _ hl => lv_iconst (v := nI 2) hx hb d_La_law_442 (by decide)) ?_
  refine gs (pc' := 444) (fun _ _ _ _ _ hl => lv_iadd hx hb d_La_law_443) ?_
  refine g_eqi (show (nI i) + (nI 2) = nI (i + 2) from nI_add _ _) ?_
  refine g_sld hx hb hX hbl hbA (show vp_in (nI (i + 2)) n from vp_in_nI (by omega) (by omega)) d_La_law_444 ?_
  rw [nI_clamp (by omega)]
  refine g_eqi (show xs (i + 2) = iI ((xs (i + 2)).toInt) from ti_e _) ?_
  refine gs (pc' := 446) (fun _ _ _ _ _ hl => lv_aload_n hx hb d_La_law_445 rfl (lv_at hl 1 rfl)) ?_
  refine g_outi hlo (g_runSW (n := 4) (As := [.ref a.x, .int (iI ((xs (i + 1)).toInt)), .int (iI ((xs (i + 2)).toInt)), .ref ao]) (rest := []) ⟨hx, hb, hml, hown, hts⟩ hK hZ hRc hRs (c_La_over l D cA lo MC MS G B X a S F V hC hW ao of hao ((xs (i + 1)).toInt) (ti_1 _) (ti_2 _) ((xs (i + 2)).toInt) (ti_1 _) (ti_2 _) hY1 hY2 hfl) rfl (tb_good (tb_cons wm592 (tb_cons wm593 (tb_cons wm0 k_La_over)))) (by decide +kernel) ⟨by rw [hRf]; exact Nat.le_of_ble_eq_true rfl, by rw [hRl]; exact Nat.le_of_ble_eq_true rfl⟩ hB1 hB2 rfl (Nat.le_of_ble_eq_true rfl) d_La_law_446) (fun r_4 G_1 B_2 p_3 => ?_)
  obtain ⟨hr9, hC9, ⟨of1, ho1, ho2⟩, hf9⟩ := p_3
  obtain ⟨kd, hkd⟩ : ∃ y9 : Nat, y9 = (sp_over S (iI ((xs (i + 1)).toInt)) (iI ((xs (i + 2)).toInt))).1 := ⟨_, rfl⟩
  rw [← hkd] at hr9 ho2
  subst hr9
  have hkb : kd ≤ 2 := by
    rw [hkd]
    rcases ka_over (S := S) (p0 := iI ((xs (i + 1)).toInt)) (p1 := iI ((xs (i + 2)).toInt)) with h9 | ⟨h9, -⟩ | ⟨h9, -⟩ <;> rw [h9] <;> decide
  have hle9 := CW3_le hC9
  have hb91 : B_2.1 ≤ MC := Nat.le_trans hle9.1 hY1
  have hb92 : B_2.2 ≤ MS := Nat.le_trans hle9.2 hY2
  have hV9 : MW cA hm A S th none none none G_1 := MW_fr hV hf9 (fun x h8 h9 q9 => by omega)
  have hhm9 : G_1 hm = some (70, .inr (9, hobm)) := hf9 _ _ hhm (show ¬ ((70 : Nat) < 70 ∨ (70 : Nat) = 90) by decide)
  refine gst (pc' := 451) (L' := [(5, .int (nI kd)), (4, .int (nI i)), (3, .ref ao), (2, .ref hm), (1, .ref a.x), (0, .ref b)]) (fun _ _ _ _ _ hl => lv_istore hx hb d_La_law_449 hl (by decide) rfl) ?_
  refine gs (pc' := 452) (fun _ _ _ _ _ hl => lv_aload_n hx hb d_La_law_451 rfl (lv_at hl 3 rfl)) ?_
  refine gs (pc' := 453) (fun _ _ _ _ _ hl => lv_aload_n hx hb d_La_law_452 rfl (lv_at hl 5 rfl)) ?_
  refine gs (pc' := 455) (fun _ _ _ _ _ hl => lv_iload hx hb d_La_law_453 (lv_at hl 1 rfl)) ?_
  refine gs (pc' := 456) (fun _ _ _ _ _ hl => lv_iconst (v := nI 1) hx hb d_La_law_455 (by decide)) ?_
  refine gs (pc' := 457) (fun _ _ _ _ _ hl => lv_iadd hx hb d_La_law_456) ?_
  refine g_eqi (show (nI i) + (nI 1) = nI (i + 1) from nI_add _ _) ?_
  refine g_sld hx hb hX hbl hbA (show vp_in (nI (i + 1)) n from vp_in_nI (by omega) (by omega)) d_La_law_457 ?_
  rw [nI_clamp (by omega)]
  refine g_eqi (show xs (i + 1) = iI ((xs (i + 1)).toInt) from ti_e _) ?_
  refine gs (pc' := 459) (fun _ _ _ _ _ hl => lv_aload_n hx hb d_La_law_458 rfl (lv_at hl 5 rfl)) ?_
  refine gs (pc' := 461) (fun _ _ _ _ _ hl => lv_iload hx hb d_La_law_459 (lv_at hl 1 rfl)) ?_
  refine gs (pc' := 462) (fun _ _ _ _ _ hl => lv_iconst (v := nI 2) hx hb d_La_law_461 (by decide)) ?_
  refine gs (pc' := 463) (fun _ _ _ _ _ hl => lv_iadd hx hb d_La_law_462) ?_
  refine g_eqi (show (nI i) + (nI 2) = nI (i + 2) from nI_add _ _) ?_
  refine g_sld hx hb hX hbl hbA (show vp_in (nI (i + 2)) n from vp_in_nI (by omega) (by omega)) d_La_law_463 ?_
  rw [nI_clamp (by omega)]
  refine g_eqi (show xs (i + 2) = iI ((xs (i + 2)).toInt) from ti_e _) ?_
  refine g_outi hlo (g_runV (As := [.int (iI ((xs (i + 1)).toInt)), .int (iI ((xs (i + 2)).toInt))]) (rest := []) ⟨hx, hb, hml, hown, hts⟩ hK hZ hRc hRs (c_Mo_over l D cA lo MC MS G_1 B_2 hm A S th none none none hV9 hW ((xs (i + 1)).toInt) (ti_1 _) (ti_2 _) ((xs (i + 2)).toInt) (ti_1 _) (ti_2 _) hb91 hb92) (fun _ _ => cwV 2 hts (tb_good (tb_cons wm937 (tb_cons wm938 (tb_cons wm939 (tb_cons wm12 k_Mo_over))))) rfl rfl rfl (by decide +kernel) ⟨by rw [hRf]; exact Nat.le_of_ble_eq_true rfl, by rw [hRl]; exact Nat.le_of_ble_eq_true rfl⟩) hhm9 rfl hb91 hb92 rfl (Nat.le_of_ble_eq_true rfl) d_La_law_464) (fun r_8 G_5 B_6 p_7 => ?_)
  obtain ⟨e9, hr8, hV8, hf8⟩ := p_7
  have e8 : B_2 = B_6 := e9.symm
  subst e8
  rw [← hkd] at hr8 hV8
  have hC8 := CW3_up hC9 hf8 (fun x h9 => h9.1)
  have ho8 : G_5 ao = some (90, .inl (cA 1, 1, .inr (.inl of1))) := hf8 _ _ ho1 (show ¬ (70 ≤ (90 : Nat) ∧ (90 : Nat) < 90) by decide)
  obtain ⟨hob8, hhm8⟩ : ∃ o9, G_5 hm = some (70, .inr (9, o9)) := by obtain ⟨_, _, _, _, _, _, _, h9, -⟩ := hV8; exact ⟨_, h9⟩
  refine gst (pc' := 469) (L' := [(6, .int r_8), (5, .int (nI kd)), (4, .int (nI i)), (3, .ref ao), (2, .ref hm), (1, .ref a.x), (0, .ref b)]) (fun _ _ _ _ _ hl => lv_istore hx hb d_La_law_467 hl (by decide) rfl) ?_
  refine gs (pc' := 470) (fun _ _ _ _ _ hl => lv_aload_n hx hb d_La_law_469 rfl (lv_at hl 4 rfl)) ?_
  refine g_outi hlo (g_runV (As := []) (rest := []) ⟨hx, hb, hml, hown, hts⟩ hK hZ hRc hRs (c_Mo_thrown l D cA lo MC MS G_5 B_2 hm A _ kd none none none hV8 (over_ok hW) hb91 hb92) (fun _ _ => cwV 0 hts (tb_good (tb_cons wm821 (tb_cons wm822 (tb_cons wm823 (tb_cons wm12 k_Mo_thrown))))) rfl rfl rfl (by decide +kernel) ⟨by rw [hRf]; exact Nat.le_of_ble_eq_true rfl, by rw [hRl]; exact Nat.le_of_ble_eq_true rfl⟩) hhm8 rfl hb91 hb92 rfl (Nat.le_of_ble_eq_true rfl) d_La_law_470) (fun r_12 G_9 B_10 p_11 => ?_)
  obtain ⟨e7, hr7⟩ := p_11
  cases e7
  subst hr7
  refine gs (pc' := 475) (fun _ _ _ _ _ hl => lv_iload hx hb d_La_law_473 (lv_at hl 1 rfl)) ?_
  refine gsb (pc1 := 480) (pc2 := 478) (fun _ _ _ _ _ => lv_icmp_eq (tgt := 480) hx hb d_La_law_475 (by decide)) (fun c_13 => ?_) (fun c_13 => ?_)
  · skip
    have nc_13 : kd = kd := (nn_eq (a := kd) (b := kd) (by omega) (by omega)).1 c_13
    refine gs (pc' := 482) (fun _ _ _ _ _ hl => lv_iload hx hb d_La_law_480 (lv_at hl 1 rfl)) ?_
    refine gsb (pc1 := 497) (pc2 := 485) (fun _ _ _ _ _ => lv_if_ne (tgt := 497) hx hb d_La_law_482 (by decide)) (fun c_14 => ?_) (fun c_14 => ?_)
    · skip
      have nc_14 : kd ≠ 0 := (n0_ne (a := kd) (by omega)).1 c_14
      refine gs (pc' := 1286) (fun _ _ _ _ _ hl => lv_goto (tgt := 1286) hx hb d_La_law_497 (by decide)) ?_
      refine gsub [2, 3, 4, 5, 6] rfl ?_
      exact hnext _ kd of1 G_5 B_2 (over_ok hW) hC8 hV8 ho8
    · skip
      have nc_14 : kd = 0 := (n0_ne (a := kd) (by omega)).2 c_14
      have hr6 := hr8 nc_14
      have ho6 := ho2 nc_14
      subst hr6
      refine gs (pc' := 486) (fun _ _ _ _ _ hl => lv_aload_n hx hb d_La_law_485 rfl (lv_at hl 3 rfl)) ?_
      refine gs (pc' := 487) (fun _ _ _ _ _ hl => lv_iconst (v := nI 0) hx hb d_La_law_486 (by decide)) ?_
      refine g_lald hx hb hK 1 ho8 rfl (show vp_in (nI 0) 1 from vp_in_nI (by omega) (by omega)) d_La_law_487 ?_
      refine g_eql (show of1 (nI 0).toNatClampNeg = of1 0 from by rw [nI_clamp (by omega)]) ?_
      refine g_eql (show of1 0 = (iI (sp_over S (iI ((xs (i + 1)).toInt)) (iI ((xs (i + 2)).toInt))).2.1).toInt64 from ho6) ?_
      refine gs (pc' := 490) (fun _ _ _ _ _ hl => lv_iload hx hb d_La_law_488 (lv_at hl 0 rfl)) ?_
      refine gs (pc' := 491) (fun _ _ _ _ _ hl => lv_i2l (v := (iI (sp_over S (iI ((xs (i + 1)).toInt)) (iI ((xs (i + 2)).toInt))).2.1).toInt64) hx hb d_La_law_490 (rfl)) ?_
      refine gs (pc' := 492) (fun _ _ _ _ _ hl => W.lcmp hx hb d_La_law_491) ?_
      refine g_eqi (show lg_cmp ((iI (sp_over S (iI ((xs (i + 1)).toInt)) (iI ((xs (i + 2)).toInt))).2.1).toInt64) ((iI (sp_over S (iI ((xs (i + 1)).toInt)) (iI ((xs (i + 2)).toInt))).2.1).toInt64) = nI 0 from cmp_s _) ?_
      refine gsb (pc1 := 497) (pc2 := 495) (fun _ _ _ _ _ => lv_if_eq (tgt := 497) hx hb d_La_law_492 (by decide)) (fun c_15 => ?_) (fun c_15 => ?_)
      · skip
        have nc_15 : 0 = 0 := (n0_eq (a := 0) (by omega)).1 c_15
        refine gs (pc' := 1286) (fun _ _ _ _ _ hl => lv_goto (tgt := 1286) hx hb d_La_law_497 (by decide)) ?_
        refine gsub [2, 3, 4, 5, 6] rfl ?_
        exact hnext _ kd of1 G_5 B_2 (over_ok hW) hC8 hV8 ho8
      · skip
        have nc_15 : 0 ≠ 0 := (n0_eq (a := 0) (by omega)).2 c_15
        exact absurd nc_15 (by decide)
  · skip
    have nc_13 : kd ≠ kd := (nn_eq (a := kd) (b := kd) (by omega) (by omega)).2 c_13
    exact absurd rfl nc_13
set_option maxHeartbeats 4000000 in
set_option maxRecDepth 100000 in
theorem law_order {p : Program} {l : Launch} {e : Env} {R : Room} {s : State} {m : MethodId} {args : Array Value} {below : List Frame} {meth : Method} {c : Code} {Q : State → Prop} {D : va_G} {cA : Nat → ClassId} {lo MC MS b n : Nat} {xs : Nat → Int32} (h0 : LC p l R s m args c D cA lo MC MS b n xs) (i : Nat) (hi : i + 6 ≤ n) (X : Nat × Nat) (a : AX) (S : St) (hm : Nat) (A : Nat → Nat) (th ao : Nat) (of : Nat → Int64) (G : gT) (B : Nat × Nat) (hC3 : CW3 cA X a S (G, B)) (hW : WF S) (hV : MW cA hm A S th none none none G) (hao : G ao = some (90, .inl (cA 1, 1, .inr (.inl of)))) (hY1 : X.1 + 6 ≤ MC) (hY2 : X.2 + 209 ≤ MS) (hnext : ∀ (S1 : St) (th1 : Nat) (of1 : Nat → Int64) (G1 : gT) (B1 : Nat × Nat), WF S1 → CW3 cA (X.1 + 6, X.2 + 209) a S1 (G1, B1) → MW cA hm A S1 th1 none none none G1 → G1 ao = some (90, .inl (cA 1, 1, .inr (.inl of1))) → gV p l e R s m args below meth c D clS lo 8 Q 1286 [(4, .int (nI i)), (3, .ref ao), (2, .ref hm), (1, .ref a.x), (0, .ref b)] [] G1 B1) : gV p l e R s m args below meth c D clS lo 8 Q 500 [(4, .int (nI i)), (3, .ref ao), (2, .ref hm), (1, .ref a.x), (0, .ref b)] [] G B := by
  obtain ⟨hx, hb, hml, hown, hts, hK, hlo, hZ, hRc, hRs, hRf, hRl, hX, hbl, hbA, hn, hfl⟩ := h0
  obtain ⟨F, V, hC⟩ := hC3
  have hle0 := w2_le hC.w
  have hB1 : B.1 ≤ MC := by omega
  have hB2 : B.2 ≤ MS := by omega
  have hax : G a.x = some (31, .inr (8, [.ref a.vs, .int (nI S.n), .ref a.rs, .int (nI S.rn), .ref a.ws, .ref a.ca, .ref (a.fr 0), .ref (a.fr 1), .ref (a.fr 2), .ref (a.fr 3), .ref a.zr, .ref a.fo, .ref a.ha, .ref a.si])) := hC.ob
  obtain ⟨hobm, hhm⟩ : ∃ o9, G hm = some (70, .inr (9, o9)) := by obtain ⟨_, _, _, _, _, _, _, h9, -⟩ := hV; exact ⟨_, h9⟩
  refine gs (pc' := 501) (fun _ _ _ _ _ hl => lv_aload_n hx hb d_La_law_500 rfl (lv_at hl 3 rfl)) ?_
  refine gs (pc' := 502) (fun _ _ _ _ _ hl => lv_aload_n hx hb d_La_law_501 rfl (lv_at hl 4 rfl)) ?_
  refine gs (pc' := 504) (fun _ _ _ _ _ hl => lv_iload hx hb d_La_law_502 (lv_at hl 0 rfl)) ?_
  refine gs (pc' := 505) (fun _ _ _ _ _ hl => lv_iconst (v := nI 1) hx hb d_La_law_504 (by decide)) ?_
  refine gs (pc' := 506) (fun _ _ _ _ _ hl => lv_iadd hx hb d_La_law_505) ?_
  refine g_eqi (show (nI i) + (nI 1) = nI (i + 1) from nI_add _ _) ?_
  refine g_sld hx hb hX hbl hbA (show vp_in (nI (i + 1)) n from vp_in_nI (by omega) (by omega)) d_La_law_506 ?_
  rw [nI_clamp (by omega)]
  refine g_eqi (show xs (i + 1) = iI ((xs (i + 1)).toInt) from ti_e _) ?_
  refine gs (pc' := 508) (fun _ _ _ _ _ hl => lv_aload_n hx hb d_La_law_507 rfl (lv_at hl 4 rfl)) ?_
  refine gs (pc' := 510) (fun _ _ _ _ _ hl => lv_iload hx hb d_La_law_508 (lv_at hl 0 rfl)) ?_
  refine gs (pc' := 511) (fun _ _ _ _ _ hl => lv_iconst (v := nI 2) hx hb d_La_law_510 (by decide)) ?_
  refine gs (pc' := 512) (fun _ _ _ _ _ hl => lv_iadd hx hb d_La_law_511) ?_
  refine g_eqi (show (nI i) + (nI 2) = nI (i + 2) from nI_add _ _) ?_
  refine g_sld hx hb hX hbl hbA (show vp_in (nI (i + 2)) n from vp_in_nI (by omega) (by omega)) d_La_law_512 ?_
  rw [nI_clamp (by omega)]
  refine g_eqi (show xs (i + 2) = iI ((xs (i + 2)).toInt) from ti_e _) ?_
  refine gs (pc' := 514) (fun _ _ _ _ _ hl => lv_aload_n hx hb d_La_law_513 rfl (lv_at hl 1 rfl)) ?_
  refine g_outi hlo (g_runSW (n := 4) (As := [.ref a.x, .int (iI ((xs (i + 1)).toInt)), .int (iI ((xs (i + 2)).toInt)), .ref ao]) (rest := []) ⟨hx, hb, hml, hown, hts⟩ hK hZ hRc hRs (c_La_order l D cA lo MC MS G B X a S F V hC hW ao of hao ((xs (i + 1)).toInt) (ti_1 _) (ti_2 _) ((xs (i + 2)).toInt) (ti_1 _) (ti_2 _) hY1 hY2 hfl) rfl (tb_good (tb_cons wm599 (tb_cons wm600 (tb_cons wm0 k_La_order)))) (by decide +kernel) ⟨by rw [hRf]; exact Nat.le_of_ble_eq_true rfl, by rw [hRl]; exact Nat.le_of_ble_eq_true rfl⟩ hB1 hB2 rfl (Nat.le_of_ble_eq_true rfl) d_La_law_514) (fun r_4 G_1 B_2 p_3 => ?_)
  obtain ⟨hr9, hC9, ⟨of1, ho1, ho2⟩, hf9⟩ := p_3
  obtain ⟨kd, hkd⟩ : ∃ y9 : Nat, y9 = (sp_order S (iI ((xs (i + 1)).toInt)) (iI ((xs (i + 2)).toInt))).1 := ⟨_, rfl⟩
  rw [← hkd] at hr9 ho2
  subst hr9
  have hkb : kd ≤ 2 := by
    rw [hkd]
    rcases ka_order (S := S) (p0 := iI ((xs (i + 1)).toInt)) (p1 := iI ((xs (i + 2)).toInt)) with h9 | ⟨h9, -⟩ <;> rw [h9] <;> decide
  have hle9 := CW3_le hC9
  have hb91 : B_2.1 ≤ MC := Nat.le_trans hle9.1 hY1
  have hb92 : B_2.2 ≤ MS := Nat.le_trans hle9.2 hY2
  have hV9 : MW cA hm A S th none none none G_1 := MW_fr hV hf9 (fun x h8 h9 q9 => by omega)
  have hhm9 : G_1 hm = some (70, .inr (9, hobm)) := hf9 _ _ hhm (show ¬ ((70 : Nat) < 70 ∨ (70 : Nat) = 90) by decide)
  refine gst (pc' := 519) (L' := [(5, .int (nI kd)), (4, .int (nI i)), (3, .ref ao), (2, .ref hm), (1, .ref a.x), (0, .ref b)]) (fun _ _ _ _ _ hl => lv_istore hx hb d_La_law_517 hl (by decide) rfl) ?_
  refine gs (pc' := 520) (fun _ _ _ _ _ hl => lv_aload_n hx hb d_La_law_519 rfl (lv_at hl 3 rfl)) ?_
  refine gs (pc' := 521) (fun _ _ _ _ _ hl => lv_aload_n hx hb d_La_law_520 rfl (lv_at hl 5 rfl)) ?_
  refine gs (pc' := 523) (fun _ _ _ _ _ hl => lv_iload hx hb d_La_law_521 (lv_at hl 1 rfl)) ?_
  refine gs (pc' := 524) (fun _ _ _ _ _ hl => lv_iconst (v := nI 1) hx hb d_La_law_523 (by decide)) ?_
  refine gs (pc' := 525) (fun _ _ _ _ _ hl => lv_iadd hx hb d_La_law_524) ?_
  refine g_eqi (show (nI i) + (nI 1) = nI (i + 1) from nI_add _ _) ?_
  refine g_sld hx hb hX hbl hbA (show vp_in (nI (i + 1)) n from vp_in_nI (by omega) (by omega)) d_La_law_525 ?_
  rw [nI_clamp (by omega)]
  refine g_eqi (show xs (i + 1) = iI ((xs (i + 1)).toInt) from ti_e _) ?_
  refine gs (pc' := 527) (fun _ _ _ _ _ hl => lv_aload_n hx hb d_La_law_526 rfl (lv_at hl 5 rfl)) ?_
  refine gs (pc' := 529) (fun _ _ _ _ _ hl => lv_iload hx hb d_La_law_527 (lv_at hl 1 rfl)) ?_
  refine gs (pc' := 530) (fun _ _ _ _ _ hl => lv_iconst (v := nI 2) hx hb d_La_law_529 (by decide)) ?_
  refine gs (pc' := 531) (fun _ _ _ _ _ hl => lv_iadd hx hb d_La_law_530) ?_
  refine g_eqi (show (nI i) + (nI 2) = nI (i + 2) from nI_add _ _) ?_
  refine g_sld hx hb hX hbl hbA (show vp_in (nI (i + 2)) n from vp_in_nI (by omega) (by omega)) d_La_law_531 ?_
  rw [nI_clamp (by omega)]
  refine g_eqi (show xs (i + 2) = iI ((xs (i + 2)).toInt) from ti_e _) ?_
  refine g_outi hlo (g_runV (As := [.int (iI ((xs (i + 1)).toInt)), .int (iI ((xs (i + 2)).toInt))]) (rest := []) ⟨hx, hb, hml, hown, hts⟩ hK hZ hRc hRs (c_Mo_order l D cA lo MC MS G_1 B_2 hm A S th none none none hV9 hW ((xs (i + 1)).toInt) (ti_1 _) (ti_2 _) ((xs (i + 2)).toInt) (ti_1 _) (ti_2 _) hb91 hb92) (fun _ _ => cwV 2 hts (tb_good (tb_cons wm945 (tb_cons wm946 (tb_cons wm947 (tb_cons wm12 k_Mo_order))))) rfl rfl rfl (by decide +kernel) ⟨by rw [hRf]; exact Nat.le_of_ble_eq_true rfl, by rw [hRl]; exact Nat.le_of_ble_eq_true rfl⟩) hhm9 rfl hb91 hb92 rfl (Nat.le_of_ble_eq_true rfl) d_La_law_532) (fun r_8 G_5 B_6 p_7 => ?_)
  obtain ⟨e9, hr8, hV8, hf8⟩ := p_7
  have e8 : B_2 = B_6 := e9.symm
  subst e8
  rw [← hkd] at hr8 hV8
  have hC8 := CW3_up hC9 hf8 (fun x h9 => h9.1)
  have ho8 : G_5 ao = some (90, .inl (cA 1, 1, .inr (.inl of1))) := hf8 _ _ ho1 (show ¬ (70 ≤ (90 : Nat) ∧ (90 : Nat) < 90) by decide)
  obtain ⟨hob8, hhm8⟩ : ∃ o9, G_5 hm = some (70, .inr (9, o9)) := by obtain ⟨_, _, _, _, _, _, _, h9, -⟩ := hV8; exact ⟨_, h9⟩
  refine gst (pc' := 537) (L' := [(6, .int r_8), (5, .int (nI kd)), (4, .int (nI i)), (3, .ref ao), (2, .ref hm), (1, .ref a.x), (0, .ref b)]) (fun _ _ _ _ _ hl => lv_istore hx hb d_La_law_535 hl (by decide) rfl) ?_
  refine gs (pc' := 538) (fun _ _ _ _ _ hl => lv_aload_n hx hb d_La_law_537 rfl (lv_at hl 4 rfl)) ?_
  refine g_outi hlo (g_runV (As := []) (rest := []) ⟨hx, hb, hml, hown, hts⟩ hK hZ hRc hRs (c_Mo_thrown l D cA lo MC MS G_5 B_2 hm A _ kd none none none hV8 (order_ok hW) hb91 hb92) (fun _ _ => cwV 0 hts (tb_good (tb_cons wm821 (tb_cons wm822 (tb_cons wm823 (tb_cons wm12 k_Mo_thrown))))) rfl rfl rfl (by decide +kernel) ⟨by rw [hRf]; exact Nat.le_of_ble_eq_true rfl, by rw [hRl]; exact Nat.le_of_ble_eq_true rfl⟩) hhm8 rfl hb91 hb92 rfl (Nat.le_of_ble_eq_true rfl) d_La_law_538) (fun r_12 G_9 B_10 p_11 => ?_)
  obtain ⟨e7, hr7⟩ := p_11
  cases e7
  subst hr7
  refine gs (pc' := 543) (fun _ _ _ _ _ hl => lv_iload hx hb d_La_law_541 (lv_at hl 1 rfl)) ?_
  refine gsb (pc1 := 548) (pc2 := 546) (fun _ _ _ _ _ => lv_icmp_eq (tgt := 548) hx hb d_La_law_543 (by decide)) (fun c_13 => ?_) (fun c_13 => ?_)
  · skip
    have nc_13 : kd = kd := (nn_eq (a := kd) (b := kd) (by omega) (by omega)).1 c_13
    refine gs (pc' := 550) (fun _ _ _ _ _ hl => lv_iload hx hb d_La_law_548 (lv_at hl 1 rfl)) ?_
    refine gsb (pc1 := 565) (pc2 := 553) (fun _ _ _ _ _ => lv_if_ne (tgt := 565) hx hb d_La_law_550 (by decide)) (fun c_14 => ?_) (fun c_14 => ?_)
    · skip
      have nc_14 : kd ≠ 0 := (n0_ne (a := kd) (by omega)).1 c_14
      refine gs (pc' := 1286) (fun _ _ _ _ _ hl => lv_goto (tgt := 1286) hx hb d_La_law_565 (by decide)) ?_
      refine gsub [2, 3, 4, 5, 6] rfl ?_
      exact hnext _ kd of1 G_5 B_2 (order_ok hW) hC8 hV8 ho8
    · skip
      have nc_14 : kd = 0 := (n0_ne (a := kd) (by omega)).2 c_14
      have hr6 := hr8 nc_14
      have ho6 := ho2 nc_14
      subst hr6
      refine gs (pc' := 554) (fun _ _ _ _ _ hl => lv_aload_n hx hb d_La_law_553 rfl (lv_at hl 3 rfl)) ?_
      refine gs (pc' := 555) (fun _ _ _ _ _ hl => lv_iconst (v := nI 0) hx hb d_La_law_554 (by decide)) ?_
      refine g_lald hx hb hK 1 ho8 rfl (show vp_in (nI 0) 1 from vp_in_nI (by omega) (by omega)) d_La_law_555 ?_
      refine g_eql (show of1 (nI 0).toNatClampNeg = of1 0 from by rw [nI_clamp (by omega)]) ?_
      refine g_eql (show of1 0 = (iI (sp_order S (iI ((xs (i + 1)).toInt)) (iI ((xs (i + 2)).toInt))).2.1).toInt64 from ho6) ?_
      refine gs (pc' := 558) (fun _ _ _ _ _ hl => lv_iload hx hb d_La_law_556 (lv_at hl 0 rfl)) ?_
      refine gs (pc' := 559) (fun _ _ _ _ _ hl => lv_i2l (v := (iI (sp_order S (iI ((xs (i + 1)).toInt)) (iI ((xs (i + 2)).toInt))).2.1).toInt64) hx hb d_La_law_558 (rfl)) ?_
      refine gs (pc' := 560) (fun _ _ _ _ _ hl => W.lcmp hx hb d_La_law_559) ?_
      refine g_eqi (show lg_cmp ((iI (sp_order S (iI ((xs (i + 1)).toInt)) (iI ((xs (i + 2)).toInt))).2.1).toInt64) ((iI (sp_order S (iI ((xs (i + 1)).toInt)) (iI ((xs (i + 2)).toInt))).2.1).toInt64) = nI 0 from cmp_s _) ?_
      refine gsb (pc1 := 565) (pc2 := 563) (fun _ _ _ _ _ => lv_if_eq (tgt := 565) hx hb d_La_law_560 (by decide)) (fun c_15 => ?_) (fun c_15 => ?_)
      · skip
        have nc_15 : 0 = 0 := (n0_eq (a := 0) (by omega)).1 c_15
        refine gs (pc' := 1286) (fun _ _ _ _ _ hl => lv_goto (tgt := 1286) hx hb d_La_law_565 (by decide)) ?_
        refine gsub [2, 3, 4, 5, 6] rfl ?_
        exact hnext _ kd of1 G_5 B_2 (order_ok hW) hC8 hV8 ho8
      · skip
        have nc_15 : 0 ≠ 0 := (n0_eq (a := 0) (by omega)).2 c_15
        exact absurd nc_15 (by decide)
  · skip
    have nc_13 : kd ≠ kd := (nn_eq (a := kd) (b := kd) (by omega) (by omega)).2 c_13
    exact absurd rfl nc_13
set_option maxHeartbeats 4000000 in
set_option maxRecDepth 100000 in
theorem law_round {p : Program} {l : Launch} {e : Env} {R : Room} {s : State} {m : MethodId} {args : Array Value} {below : List Frame} {meth : Method} {c : Code} {Q : State → Prop} {D : va_G} {cA : Nat → ClassId} {lo MC MS b n : Nat} {xs : Nat → Int32} (h0 : LC p l R s m args c D cA lo MC MS b n xs) (i : Nat) (hi : i + 6 ≤ n) (X : Nat × Nat) (a : AX) (S : St) (hm : Nat) (A : Nat → Nat) (th ao : Nat) (of : Nat → Int64) (G : gT) (B : Nat × Nat) (hC3 : CW3 cA X a S (G, B)) (hW : WF S) (hV : MW cA hm A S th none none none G) (hao : G ao = some (90, .inl (cA 1, 1, .inr (.inl of)))) (hY1 : X.1 + 6 ≤ MC) (hY2 : X.2 + 209 ≤ MS) (hnext : ∀ (S1 : St) (th1 : Nat) (of1 : Nat → Int64) (G1 : gT) (B1 : Nat × Nat), WF S1 → CW3 cA (X.1 + 6, X.2 + 209) a S1 (G1, B1) → MW cA hm A S1 th1 none none none G1 → G1 ao = some (90, .inl (cA 1, 1, .inr (.inl of1))) → gV p l e R s m args below meth c D clS lo 8 Q 1286 [(4, .int (nI i)), (3, .ref ao), (2, .ref hm), (1, .ref a.x), (0, .ref b)] [] G1 B1) : gV p l e R s m args below meth c D clS lo 8 Q 568 [(4, .int (nI i)), (3, .ref ao), (2, .ref hm), (1, .ref a.x), (0, .ref b)] [] G B := by
  obtain ⟨hx, hb, hml, hown, hts, hK, hlo, hZ, hRc, hRs, hRf, hRl, hX, hbl, hbA, hn, hfl⟩ := h0
  obtain ⟨F, V, hC⟩ := hC3
  have hle0 := w2_le hC.w
  have hB1 : B.1 ≤ MC := by omega
  have hB2 : B.2 ≤ MS := by omega
  have hax : G a.x = some (31, .inr (8, [.ref a.vs, .int (nI S.n), .ref a.rs, .int (nI S.rn), .ref a.ws, .ref a.ca, .ref (a.fr 0), .ref (a.fr 1), .ref (a.fr 2), .ref (a.fr 3), .ref a.zr, .ref a.fo, .ref a.ha, .ref a.si])) := hC.ob
  obtain ⟨hobm, hhm⟩ : ∃ o9, G hm = some (70, .inr (9, o9)) := by obtain ⟨_, _, _, _, _, _, _, h9, -⟩ := hV; exact ⟨_, h9⟩
  refine gs (pc' := 569) (fun _ _ _ _ _ hl => lv_aload_n hx hb d_La_law_568 rfl (lv_at hl 3 rfl)) ?_
  refine gs (pc' := 570) (fun _ _ _ _ _ hl => lv_aload_n hx hb d_La_law_569 rfl (lv_at hl 4 rfl)) ?_
  refine gs (pc' := 572) (fun _ _ _ _ _ hl => lv_iload hx hb d_La_law_570 (lv_at hl 0 rfl)) ?_
  refine gs (pc' := 573) (fun _ _ _ _ _ hl => lv_iconst (v := nI 1) hx hb d_La_law_572 (by decide)) ?_
  refine gs (pc' := 574) (fun _ _ _ _ _ hl => lv_iadd hx hb d_La_law_573) ?_
  refine g_eqi (show (nI i) + (nI 1) = nI (i + 1) from nI_add _ _) ?_
  refine g_sld hx hb hX hbl hbA (show vp_in (nI (i + 1)) n from vp_in_nI (by omega) (by omega)) d_La_law_574 ?_
  rw [nI_clamp (by omega)]
  refine g_eqi (show xs (i + 1) = iI ((xs (i + 1)).toInt) from ti_e _) ?_
  refine gs (pc' := 576) (fun _ _ _ _ _ hl => lv_aload_n hx hb d_La_law_575 rfl (lv_at hl 4 rfl)) ?_
  refine gs (pc' := 578) (fun _ _ _ _ _ hl => lv_iload hx hb d_La_law_576 (lv_at hl 0 rfl)) ?_
  refine gs (pc' := 579) (fun _ _ _ _ _ hl => lv_iconst (v := nI 2) hx hb d_La_law_578 (by decide)) ?_
  refine gs (pc' := 580) (fun _ _ _ _ _ hl => lv_iadd hx hb d_La_law_579) ?_
  refine g_eqi (show (nI i) + (nI 2) = nI (i + 2) from nI_add _ _) ?_
  refine g_sld hx hb hX hbl hbA (show vp_in (nI (i + 2)) n from vp_in_nI (by omega) (by omega)) d_La_law_580 ?_
  rw [nI_clamp (by omega)]
  refine g_eqi (show xs (i + 2) = iI ((xs (i + 2)).toInt) from ti_e _) ?_
  refine gs (pc' := 582) (fun _ _ _ _ _ hl => lv_aload_n hx hb d_La_law_581 rfl (lv_at hl 4 rfl)) ?_
  refine gs (pc' := 584) (fun _ _ _ _ _ hl => lv_iload hx hb d_La_law_582 (lv_at hl 0 rfl)) ?_
  refine gs (pc' := 585) (fun _ _ _ _ _ hl => lv_iconst (v := nI 3) hx hb d_La_law_584 (by decide)) ?_
  refine gs (pc' := 586) (fun _ _ _ _ _ hl => lv_iadd hx hb d_La_law_585) ?_
  refine g_eqi (show (nI i) + (nI 3) = nI (i + 3) from nI_add _ _) ?_
  refine g_sld hx hb hX hbl hbA (show vp_in (nI (i + 3)) n from vp_in_nI (by omega) (by omega)) d_La_law_586 ?_
  rw [nI_clamp (by omega)]
  refine g_eqi (show xs (i + 3) = iI ((xs (i + 3)).toInt) from ti_e _) ?_
  refine gs (pc' := 588) (fun _ _ _ _ _ hl => lv_aload_n hx hb d_La_law_587 rfl (lv_at hl 1 rfl)) ?_
  refine g_outi hlo (g_runSW (n := 5) (As := [.ref a.x, .int (iI ((xs (i + 1)).toInt)), .int (iI ((xs (i + 2)).toInt)), .int (iI ((xs (i + 3)).toInt)), .ref ao]) (rest := []) ⟨hx, hb, hml, hown, hts⟩ hK hZ hRc hRs (c_La_round l D cA lo MC MS G B X a S F V hC hW ao of hao ((xs (i + 1)).toInt) (ti_1 _) (ti_2 _) ((xs (i + 2)).toInt) (ti_1 _) (ti_2 _) ((xs (i + 3)).toInt) (ti_1 _) (ti_2 _) hY1 hY2 hfl) rfl (tb_good (tb_cons wm610 (tb_cons wm611 (tb_cons wm0 k_La_round)))) (by decide +kernel) ⟨by rw [hRf]; exact Nat.le_of_ble_eq_true rfl, by rw [hRl]; exact Nat.le_of_ble_eq_true rfl⟩ hB1 hB2 rfl (Nat.le_of_ble_eq_true rfl) d_La_law_588) (fun r_4 G_1 B_2 p_3 => ?_)
  obtain ⟨hr9, hC9, ⟨of1, ho1, ho2⟩, hf9⟩ := p_3
  obtain ⟨kd, hkd⟩ : ∃ y9 : Nat, y9 = (sp_round S (iI ((xs (i + 1)).toInt)) (iI ((xs (i + 2)).toInt)) (iI ((xs (i + 3)).toInt))).1 := ⟨_, rfl⟩
  rw [← hkd] at hr9 ho2
  subst hr9
  have hkb : kd ≤ 2 := by
    rw [hkd]
    rcases ka_round (S := S) (p0 := iI ((xs (i + 1)).toInt)) (p1 := iI ((xs (i + 2)).toInt)) (p2 := iI ((xs (i + 3)).toInt)) with h9 | ⟨h9, -⟩ | ⟨h9, -⟩ <;> rw [h9] <;> decide
  have hle9 := CW3_le hC9
  have hb91 : B_2.1 ≤ MC := Nat.le_trans hle9.1 hY1
  have hb92 : B_2.2 ≤ MS := Nat.le_trans hle9.2 hY2
  have hV9 : MW cA hm A S th none none none G_1 := MW_fr hV hf9 (fun x h8 h9 q9 => by omega)
  have hhm9 : G_1 hm = some (70, .inr (9, hobm)) := hf9 _ _ hhm (show ¬ ((70 : Nat) < 70 ∨ (70 : Nat) = 90) by decide)
  refine gst (pc' := 593) (L' := [(5, .int (nI kd)), (4, .int (nI i)), (3, .ref ao), (2, .ref hm), (1, .ref a.x), (0, .ref b)]) (fun _ _ _ _ _ hl => lv_istore hx hb d_La_law_591 hl (by decide) rfl) ?_
  refine gs (pc' := 594) (fun _ _ _ _ _ hl => lv_aload_n hx hb d_La_law_593 rfl (lv_at hl 3 rfl)) ?_
  refine gs (pc' := 595) (fun _ _ _ _ _ hl => lv_aload_n hx hb d_La_law_594 rfl (lv_at hl 5 rfl)) ?_
  refine gs (pc' := 597) (fun _ _ _ _ _ hl => lv_iload hx hb d_La_law_595 (lv_at hl 1 rfl)) ?_
  refine gs (pc' := 598) (fun _ _ _ _ _ hl => lv_iconst (v := nI 1) hx hb d_La_law_597 (by decide)) ?_
  refine gs (pc' := 599) (fun _ _ _ _ _ hl => lv_iadd hx hb d_La_law_598) ?_
  refine g_eqi (show (nI i) + (nI 1) = nI (i + 1) from nI_add _ _) ?_
  refine g_sld hx hb hX hbl hbA (show vp_in (nI (i + 1)) n from vp_in_nI (by omega) (by omega)) d_La_law_599 ?_
  rw [nI_clamp (by omega)]
  refine g_eqi (show xs (i + 1) = iI ((xs (i + 1)).toInt) from ti_e _) ?_
  refine gs (pc' := 601) (fun _ _ _ _ _ hl => lv_aload_n hx hb d_La_law_600 rfl (lv_at hl 5 rfl)) ?_
  refine gs (pc' := 603) (fun _ _ _ _ _ hl => lv_iload hx hb d_La_law_601 (lv_at hl 1 rfl)) ?_
  refine gs (pc' := 604) (fun _ _ _ _ _ hl => lv_iconst (v := nI 2) hx hb d_La_law_603 (by decide)) ?_
  refine gs (pc' := 605) (fun _ _ _ _ _ hl => lv_iadd hx hb d_La_law_604) ?_
  refine g_eqi (show (nI i) + (nI 2) = nI (i + 2) from nI_add _ _) ?_
  refine g_sld hx hb hX hbl hbA (show vp_in (nI (i + 2)) n from vp_in_nI (by omega) (by omega)) d_La_law_605 ?_
  rw [nI_clamp (by omega)]
  refine g_eqi (show xs (i + 2) = iI ((xs (i + 2)).toInt) from ti_e _) ?_
  refine gs (pc' := 607) (fun _ _ _ _ _ hl => lv_aload_n hx hb d_La_law_606 rfl (lv_at hl 5 rfl)) ?_
  refine gs (pc' := 609) (fun _ _ _ _ _ hl => lv_iload hx hb d_La_law_607 (lv_at hl 1 rfl)) ?_
  refine gs (pc' := 610) (fun _ _ _ _ _ hl => lv_iconst (v := nI 3) hx hb d_La_law_609 (by decide)) ?_
  refine gs (pc' := 611) (fun _ _ _ _ _ hl => lv_iadd hx hb d_La_law_610) ?_
  refine g_eqi (show (nI i) + (nI 3) = nI (i + 3) from nI_add _ _) ?_
  refine g_sld hx hb hX hbl hbA (show vp_in (nI (i + 3)) n from vp_in_nI (by omega) (by omega)) d_La_law_611 ?_
  rw [nI_clamp (by omega)]
  refine g_eqi (show xs (i + 3) = iI ((xs (i + 3)).toInt) from ti_e _) ?_
  refine g_outi hlo (g_runV (As := [.int (iI ((xs (i + 1)).toInt)), .int (iI ((xs (i + 2)).toInt)), .int (iI ((xs (i + 3)).toInt))]) (rest := []) ⟨hx, hb, hml, hown, hts⟩ hK hZ hRc hRs (c_Mo_round l D cA lo MC MS G_1 B_2 hm A S th none none none hV9 hW ((xs (i + 1)).toInt) (ti_1 _) (ti_2 _) ((xs (i + 2)).toInt) (ti_1 _) (ti_2 _) ((xs (i + 3)).toInt) (ti_1 _) (ti_2 _) hb91 hb92) (fun _ _ => cwV 3 hts (tb_good (tb_cons wm953 (tb_cons wm954 (tb_cons wm955 (tb_cons wm12 k_Mo_round))))) rfl rfl rfl (by decide +kernel) ⟨by rw [hRf]; exact Nat.le_of_ble_eq_true rfl, by rw [hRl]; exact Nat.le_of_ble_eq_true rfl⟩) hhm9 rfl hb91 hb92 rfl (Nat.le_of_ble_eq_true rfl) d_La_law_612) (fun r_8 G_5 B_6 p_7 => ?_)
  obtain ⟨e9, hr8, hV8, hf8⟩ := p_7
  have e8 : B_2 = B_6 := e9.symm
  subst e8
  rw [← hkd] at hr8 hV8
  have hC8 := CW3_up hC9 hf8 (fun x h9 => h9.1)
  have ho8 : G_5 ao = some (90, .inl (cA 1, 1, .inr (.inl of1))) := hf8 _ _ ho1 (show ¬ (70 ≤ (90 : Nat) ∧ (90 : Nat) < 90) by decide)
  obtain ⟨hob8, hhm8⟩ : ∃ o9, G_5 hm = some (70, .inr (9, o9)) := by obtain ⟨_, _, _, _, _, _, _, h9, -⟩ := hV8; exact ⟨_, h9⟩
  refine gst (pc' := 617) (L' := [(6, .int r_8), (5, .int (nI kd)), (4, .int (nI i)), (3, .ref ao), (2, .ref hm), (1, .ref a.x), (0, .ref b)]) (fun _ _ _ _ _ hl => lv_istore hx hb d_La_law_615 hl (by decide) rfl) ?_
  refine gs (pc' := 618) (fun _ _ _ _ _ hl => lv_aload_n hx hb d_La_law_617 rfl (lv_at hl 4 rfl)) ?_
  refine g_outi hlo (g_runV (As := []) (rest := []) ⟨hx, hb, hml, hown, hts⟩ hK hZ hRc hRs (c_Mo_thrown l D cA lo MC MS G_5 B_2 hm A _ kd none none none hV8 (round_ok hW) hb91 hb92) (fun _ _ => cwV 0 hts (tb_good (tb_cons wm821 (tb_cons wm822 (tb_cons wm823 (tb_cons wm12 k_Mo_thrown))))) rfl rfl rfl (by decide +kernel) ⟨by rw [hRf]; exact Nat.le_of_ble_eq_true rfl, by rw [hRl]; exact Nat.le_of_ble_eq_true rfl⟩) hhm8 rfl hb91 hb92 rfl (Nat.le_of_ble_eq_true rfl) d_La_law_618) (fun r_12 G_9 B_10 p_11 => ?_)
  obtain ⟨e7, hr7⟩ := p_11
  cases e7
  subst hr7
  refine gs (pc' := 623) (fun _ _ _ _ _ hl => lv_iload hx hb d_La_law_621 (lv_at hl 1 rfl)) ?_
  refine gsb (pc1 := 628) (pc2 := 626) (fun _ _ _ _ _ => lv_icmp_eq (tgt := 628) hx hb d_La_law_623 (by decide)) (fun c_13 => ?_) (fun c_13 => ?_)
  · skip
    have nc_13 : kd = kd := (nn_eq (a := kd) (b := kd) (by omega) (by omega)).1 c_13
    refine gs (pc' := 630) (fun _ _ _ _ _ hl => lv_iload hx hb d_La_law_628 (lv_at hl 1 rfl)) ?_
    refine gsb (pc1 := 645) (pc2 := 633) (fun _ _ _ _ _ => lv_if_ne (tgt := 645) hx hb d_La_law_630 (by decide)) (fun c_14 => ?_) (fun c_14 => ?_)
    · skip
      have nc_14 : kd ≠ 0 := (n0_ne (a := kd) (by omega)).1 c_14
      refine gs (pc' := 1286) (fun _ _ _ _ _ hl => lv_goto (tgt := 1286) hx hb d_La_law_645 (by decide)) ?_
      refine gsub [2, 3, 4, 5, 6] rfl ?_
      exact hnext _ kd of1 G_5 B_2 (round_ok hW) hC8 hV8 ho8
    · skip
      have nc_14 : kd = 0 := (n0_ne (a := kd) (by omega)).2 c_14
      have hr6 := hr8 nc_14
      have ho6 := ho2 nc_14
      subst hr6
      refine gs (pc' := 634) (fun _ _ _ _ _ hl => lv_aload_n hx hb d_La_law_633 rfl (lv_at hl 3 rfl)) ?_
      refine gs (pc' := 635) (fun _ _ _ _ _ hl => lv_iconst (v := nI 0) hx hb d_La_law_634 (by decide)) ?_
      refine g_lald hx hb hK 1 ho8 rfl (show vp_in (nI 0) 1 from vp_in_nI (by omega) (by omega)) d_La_law_635 ?_
      refine g_eql (show of1 (nI 0).toNatClampNeg = of1 0 from by rw [nI_clamp (by omega)]) ?_
      refine g_eql (show of1 0 = (iI (sp_round S (iI ((xs (i + 1)).toInt)) (iI ((xs (i + 2)).toInt)) (iI ((xs (i + 3)).toInt))).2.1).toInt64 from ho6) ?_
      refine gs (pc' := 638) (fun _ _ _ _ _ hl => lv_iload hx hb d_La_law_636 (lv_at hl 0 rfl)) ?_
      refine gs (pc' := 639) (fun _ _ _ _ _ hl => lv_i2l (v := (iI (sp_round S (iI ((xs (i + 1)).toInt)) (iI ((xs (i + 2)).toInt)) (iI ((xs (i + 3)).toInt))).2.1).toInt64) hx hb d_La_law_638 (rfl)) ?_
      refine gs (pc' := 640) (fun _ _ _ _ _ hl => W.lcmp hx hb d_La_law_639) ?_
      refine g_eqi (show lg_cmp ((iI (sp_round S (iI ((xs (i + 1)).toInt)) (iI ((xs (i + 2)).toInt)) (iI ((xs (i + 3)).toInt))).2.1).toInt64) ((iI (sp_round S (iI ((xs (i + 1)).toInt)) (iI ((xs (i + 2)).toInt)) (iI ((xs (i + 3)).toInt))).2.1).toInt64) = nI 0 from cmp_s _) ?_
      refine gsb (pc1 := 645) (pc2 := 643) (fun _ _ _ _ _ => lv_if_eq (tgt := 645) hx hb d_La_law_640 (by decide)) (fun c_15 => ?_) (fun c_15 => ?_)
      · skip
        have nc_15 : 0 = 0 := (n0_eq (a := 0) (by omega)).1 c_15
        refine gs (pc' := 1286) (fun _ _ _ _ _ hl => lv_goto (tgt := 1286) hx hb d_La_law_645 (by decide)) ?_
        refine gsub [2, 3, 4, 5, 6] rfl ?_
        exact hnext _ kd of1 G_5 B_2 (round_ok hW) hC8 hV8 ho8
      · skip
        have nc_15 : 0 ≠ 0 := (n0_eq (a := 0) (by omega)).2 c_15
        exact absurd nc_15 (by decide)
  · skip
    have nc_13 : kd ≠ kd := (nn_eq (a := kd) (b := kd) (by omega) (by omega)).2 c_13
    exact absurd rfl nc_13
set_option maxHeartbeats 4000000 in
set_option maxRecDepth 100000 in
theorem law_prism {p : Program} {l : Launch} {e : Env} {R : Room} {s : State} {m : MethodId} {args : Array Value} {below : List Frame} {meth : Method} {c : Code} {Q : State → Prop} {D : va_G} {cA : Nat → ClassId} {lo MC MS b n : Nat} {xs : Nat → Int32} (h0 : LC p l R s m args c D cA lo MC MS b n xs) (i : Nat) (hi : i + 6 ≤ n) (X : Nat × Nat) (a : AX) (S : St) (hm : Nat) (A : Nat → Nat) (th ao : Nat) (of : Nat → Int64) (G : gT) (B : Nat × Nat) (hC3 : CW3 cA X a S (G, B)) (hW : WF S) (hV : MW cA hm A S th none none none G) (hao : G ao = some (90, .inl (cA 1, 1, .inr (.inl of)))) (hY1 : X.1 + 6 ≤ MC) (hY2 : X.2 + 209 ≤ MS) (hnext : ∀ (S1 : St) (th1 : Nat) (of1 : Nat → Int64) (G1 : gT) (B1 : Nat × Nat), WF S1 → CW3 cA (X.1 + 6, X.2 + 209) a S1 (G1, B1) → MW cA hm A S1 th1 none none none G1 → G1 ao = some (90, .inl (cA 1, 1, .inr (.inl of1))) → gV p l e R s m args below meth c D clS lo 8 Q 1286 [(4, .int (nI i)), (3, .ref ao), (2, .ref hm), (1, .ref a.x), (0, .ref b)] [] G1 B1) : gV p l e R s m args below meth c D clS lo 8 Q 648 [(4, .int (nI i)), (3, .ref ao), (2, .ref hm), (1, .ref a.x), (0, .ref b)] [] G B := by
  obtain ⟨hx, hb, hml, hown, hts, hK, hlo, hZ, hRc, hRs, hRf, hRl, hX, hbl, hbA, hn, hfl⟩ := h0
  obtain ⟨F, V, hC⟩ := hC3
  have hle0 := w2_le hC.w
  have hB1 : B.1 ≤ MC := by omega
  have hB2 : B.2 ≤ MS := by omega
  have hax : G a.x = some (31, .inr (8, [.ref a.vs, .int (nI S.n), .ref a.rs, .int (nI S.rn), .ref a.ws, .ref a.ca, .ref (a.fr 0), .ref (a.fr 1), .ref (a.fr 2), .ref (a.fr 3), .ref a.zr, .ref a.fo, .ref a.ha, .ref a.si])) := hC.ob
  obtain ⟨hobm, hhm⟩ : ∃ o9, G hm = some (70, .inr (9, o9)) := by obtain ⟨_, _, _, _, _, _, _, h9, -⟩ := hV; exact ⟨_, h9⟩
  refine gs (pc' := 649) (fun _ _ _ _ _ hl => lv_aload_n hx hb d_La_law_648 rfl (lv_at hl 3 rfl)) ?_
  refine gs (pc' := 650) (fun _ _ _ _ _ hl => lv_aload_n hx hb d_La_law_649 rfl (lv_at hl 4 rfl)) ?_
  refine gs (pc' := 652) (fun _ _ _ _ _ hl => lv_iload hx hb d_La_law_650 (lv_at hl 0 rfl)) ?_
  refine gs (pc' := 653) (fun _ _ _ _ _ hl => lv_iconst (v := nI 1) hx hb d_La_law_652 (by decide)) ?_
  refine gs (pc' := 654) (fun _ _ _ _ _ hl => lv_iadd hx hb d_La_law_653) ?_
  refine g_eqi (show (nI i) + (nI 1) = nI (i + 1) from nI_add _ _) ?_
  refine g_sld hx hb hX hbl hbA (show vp_in (nI (i + 1)) n from vp_in_nI (by omega) (by omega)) d_La_law_654 ?_
  rw [nI_clamp (by omega)]
  refine g_eqi (show xs (i + 1) = iI ((xs (i + 1)).toInt) from ti_e _) ?_
  refine gs (pc' := 656) (fun _ _ _ _ _ hl => lv_aload_n hx hb d_La_law_655 rfl (lv_at hl 4 rfl)) ?_
  refine gs (pc' := 658) (fun _ _ _ _ _ hl => lv_iload hx hb d_La_law_656 (lv_at hl 0 rfl)) ?_
  refine gs (pc' := 659) (fun _ _ _ _ _ hl => lv_iconst (v := nI 2) hx hb d_La_law_658 (by decide)) ?_
  refine gs (pc' := 660) (fun _ _ _ _ _ hl => lv_iadd hx hb d_La_law_659) ?_
  refine g_eqi (show (nI i) + (nI 2) = nI (i + 2) from nI_add _ _) ?_
  refine g_sld hx hb hX hbl hbA (show vp_in (nI (i + 2)) n from vp_in_nI (by omega) (by omega)) d_La_law_660 ?_
  rw [nI_clamp (by omega)]
  refine g_eqi (show xs (i + 2) = iI ((xs (i + 2)).toInt) from ti_e _) ?_
  refine gs (pc' := 662) (fun _ _ _ _ _ hl => lv_aload_n hx hb d_La_law_661 rfl (lv_at hl 4 rfl)) ?_
  refine gs (pc' := 664) (fun _ _ _ _ _ hl => lv_iload hx hb d_La_law_662 (lv_at hl 0 rfl)) ?_
  refine gs (pc' := 665) (fun _ _ _ _ _ hl => lv_iconst (v := nI 3) hx hb d_La_law_664 (by decide)) ?_
  refine gs (pc' := 666) (fun _ _ _ _ _ hl => lv_iadd hx hb d_La_law_665) ?_
  refine g_eqi (show (nI i) + (nI 3) = nI (i + 3) from nI_add _ _) ?_
  refine g_sld hx hb hX hbl hbA (show vp_in (nI (i + 3)) n from vp_in_nI (by omega) (by omega)) d_La_law_666 ?_
  rw [nI_clamp (by omega)]
  refine g_eqi (show xs (i + 3) = iI ((xs (i + 3)).toInt) from ti_e _) ?_
  refine gs (pc' := 668) (fun _ _ _ _ _ hl => lv_aload_n hx hb d_La_law_667 rfl (lv_at hl 4 rfl)) ?_
  refine gs (pc' := 670) (fun _ _ _ _ _ hl => lv_iload hx hb d_La_law_668 (lv_at hl 0 rfl)) ?_
  refine gs (pc' := 671) (fun _ _ _ _ _ hl => lv_iconst (v := nI 4) hx hb d_La_law_670 (by decide)) ?_
  refine gs (pc' := 672) (fun _ _ _ _ _ hl => lv_iadd hx hb d_La_law_671) ?_
  refine g_eqi (show (nI i) + (nI 4) = nI (i + 4) from nI_add _ _) ?_
  refine g_sld hx hb hX hbl hbA (show vp_in (nI (i + 4)) n from vp_in_nI (by omega) (by omega)) d_La_law_672 ?_
  rw [nI_clamp (by omega)]
  refine g_eqi (show xs (i + 4) = iI ((xs (i + 4)).toInt) from ti_e _) ?_
  refine gs (pc' := 674) (fun _ _ _ _ _ hl => lv_aload_n hx hb d_La_law_673 rfl (lv_at hl 1 rfl)) ?_
  refine g_outi hlo (g_runSW (n := 6) (As := [.ref a.x, .int (iI ((xs (i + 1)).toInt)), .int (iI ((xs (i + 2)).toInt)), .int (iI ((xs (i + 3)).toInt)), .int (iI ((xs (i + 4)).toInt)), .ref ao]) (rest := []) ⟨hx, hb, hml, hown, hts⟩ hK hZ hRc hRs (c_La_prism l D cA lo MC MS G B X a S F V hC hW ao of hao ((xs (i + 1)).toInt) (ti_1 _) (ti_2 _) ((xs (i + 2)).toInt) (ti_1 _) (ti_2 _) ((xs (i + 3)).toInt) (ti_1 _) (ti_2 _) ((xs (i + 4)).toInt) (ti_1 _) (ti_2 _) hY1 hY2 hfl) rfl (tb_good (tb_cons wm636 (tb_cons wm637 (tb_cons wm0 k_La_prism)))) (by decide +kernel) ⟨by rw [hRf]; exact Nat.le_of_ble_eq_true rfl, by rw [hRl]; exact Nat.le_of_ble_eq_true rfl⟩ hB1 hB2 rfl (Nat.le_of_ble_eq_true rfl) d_La_law_674) (fun r_4 G_1 B_2 p_3 => ?_)
  obtain ⟨hr9, hC9, ⟨of1, ho1, ho2⟩, hf9⟩ := p_3
  obtain ⟨kd, hkd⟩ : ∃ y9 : Nat, y9 = (sp_prism S (iI ((xs (i + 1)).toInt)) (iI ((xs (i + 2)).toInt)) (iI ((xs (i + 3)).toInt)) (iI ((xs (i + 4)).toInt))).1 := ⟨_, rfl⟩
  rw [← hkd] at hr9 ho2
  subst hr9
  have hkb : kd ≤ 2 := by
    rw [hkd]
    rcases ka_prism (S := S) (p0 := iI ((xs (i + 1)).toInt)) (p1 := iI ((xs (i + 2)).toInt)) (p2 := iI ((xs (i + 3)).toInt)) (p3 := iI ((xs (i + 4)).toInt)) with h9 | ⟨h9, -⟩ <;> rw [h9] <;> decide
  have hle9 := CW3_le hC9
  have hb91 : B_2.1 ≤ MC := Nat.le_trans hle9.1 hY1
  have hb92 : B_2.2 ≤ MS := Nat.le_trans hle9.2 hY2
  have hV9 : MW cA hm A S th none none none G_1 := MW_fr hV hf9 (fun x h8 h9 q9 => by omega)
  have hhm9 : G_1 hm = some (70, .inr (9, hobm)) := hf9 _ _ hhm (show ¬ ((70 : Nat) < 70 ∨ (70 : Nat) = 90) by decide)
  refine gst (pc' := 679) (L' := [(5, .int (nI kd)), (4, .int (nI i)), (3, .ref ao), (2, .ref hm), (1, .ref a.x), (0, .ref b)]) (fun _ _ _ _ _ hl => lv_istore hx hb d_La_law_677 hl (by decide) rfl) ?_
  refine gs (pc' := 680) (fun _ _ _ _ _ hl => lv_aload_n hx hb d_La_law_679 rfl (lv_at hl 3 rfl)) ?_
  refine gs (pc' := 681) (fun _ _ _ _ _ hl => lv_aload_n hx hb d_La_law_680 rfl (lv_at hl 5 rfl)) ?_
  refine gs (pc' := 683) (fun _ _ _ _ _ hl => lv_iload hx hb d_La_law_681 (lv_at hl 1 rfl)) ?_
  refine gs (pc' := 684) (fun _ _ _ _ _ hl => lv_iconst (v := nI 1) hx hb d_La_law_683 (by decide)) ?_
  refine gs (pc' := 685) (fun _ _ _ _ _ hl => lv_iadd hx hb d_La_law_684) ?_
  refine g_eqi (show (nI i) + (nI 1) = nI (i + 1) from nI_add _ _) ?_
  refine g_sld hx hb hX hbl hbA (show vp_in (nI (i + 1)) n from vp_in_nI (by omega) (by omega)) d_La_law_685 ?_
  rw [nI_clamp (by omega)]
  refine g_eqi (show xs (i + 1) = iI ((xs (i + 1)).toInt) from ti_e _) ?_
  refine gs (pc' := 687) (fun _ _ _ _ _ hl => lv_aload_n hx hb d_La_law_686 rfl (lv_at hl 5 rfl)) ?_
  refine gs (pc' := 689) (fun _ _ _ _ _ hl => lv_iload hx hb d_La_law_687 (lv_at hl 1 rfl)) ?_
  refine gs (pc' := 690) (fun _ _ _ _ _ hl => lv_iconst (v := nI 2) hx hb d_La_law_689 (by decide)) ?_
  refine gs (pc' := 691) (fun _ _ _ _ _ hl => lv_iadd hx hb d_La_law_690) ?_
  refine g_eqi (show (nI i) + (nI 2) = nI (i + 2) from nI_add _ _) ?_
  refine g_sld hx hb hX hbl hbA (show vp_in (nI (i + 2)) n from vp_in_nI (by omega) (by omega)) d_La_law_691 ?_
  rw [nI_clamp (by omega)]
  refine g_eqi (show xs (i + 2) = iI ((xs (i + 2)).toInt) from ti_e _) ?_
  refine gs (pc' := 693) (fun _ _ _ _ _ hl => lv_aload_n hx hb d_La_law_692 rfl (lv_at hl 5 rfl)) ?_
  refine gs (pc' := 695) (fun _ _ _ _ _ hl => lv_iload hx hb d_La_law_693 (lv_at hl 1 rfl)) ?_
  refine gs (pc' := 696) (fun _ _ _ _ _ hl => lv_iconst (v := nI 3) hx hb d_La_law_695 (by decide)) ?_
  refine gs (pc' := 697) (fun _ _ _ _ _ hl => lv_iadd hx hb d_La_law_696) ?_
  refine g_eqi (show (nI i) + (nI 3) = nI (i + 3) from nI_add _ _) ?_
  refine g_sld hx hb hX hbl hbA (show vp_in (nI (i + 3)) n from vp_in_nI (by omega) (by omega)) d_La_law_697 ?_
  rw [nI_clamp (by omega)]
  refine g_eqi (show xs (i + 3) = iI ((xs (i + 3)).toInt) from ti_e _) ?_
  refine gs (pc' := 699) (fun _ _ _ _ _ hl => lv_aload_n hx hb d_La_law_698 rfl (lv_at hl 5 rfl)) ?_
  refine gs (pc' := 701) (fun _ _ _ _ _ hl => lv_iload hx hb d_La_law_699 (lv_at hl 1 rfl)) ?_
  refine gs (pc' := 702) (fun _ _ _ _ _ hl => lv_iconst (v := nI 4) hx hb d_La_law_701 (by decide)) ?_
  refine gs (pc' := 703) (fun _ _ _ _ _ hl => lv_iadd hx hb d_La_law_702) ?_
  refine g_eqi (show (nI i) + (nI 4) = nI (i + 4) from nI_add _ _) ?_
  refine g_sld hx hb hX hbl hbA (show vp_in (nI (i + 4)) n from vp_in_nI (by omega) (by omega)) d_La_law_703 ?_
  rw [nI_clamp (by omega)]
  refine g_eqi (show xs (i + 4) = iI ((xs (i + 4)).toInt) from ti_e _) ?_
  refine g_outi hlo (g_runV (As := [.int (iI ((xs (i + 1)).toInt)), .int (iI ((xs (i + 2)).toInt)), .int (iI ((xs (i + 3)).toInt)), .int (iI ((xs (i + 4)).toInt))]) (rest := []) ⟨hx, hb, hml, hown, hts⟩ hK hZ hRc hRs (c_Mo_prism l D cA lo MC MS G_1 B_2 hm A S th none none none hV9 hW ((xs (i + 1)).toInt) (ti_1 _) (ti_2 _) ((xs (i + 2)).toInt) (ti_1 _) (ti_2 _) ((xs (i + 3)).toInt) (ti_1 _) (ti_2 _) ((xs (i + 4)).toInt) (ti_1 _) (ti_2 _) hb91 hb92) (fun _ _ => cwV 4 hts (tb_good (tb_cons wm958 (tb_cons wm959 (tb_cons wm960 (tb_cons wm12 k_Mo_prism))))) rfl rfl rfl (by decide +kernel) ⟨by rw [hRf]; exact Nat.le_of_ble_eq_true rfl, by rw [hRl]; exact Nat.le_of_ble_eq_true rfl⟩) hhm9 rfl hb91 hb92 rfl (Nat.le_of_ble_eq_true rfl) d_La_law_704) (fun r_8 G_5 B_6 p_7 => ?_)
  obtain ⟨e9, hr8, hV8, hf8⟩ := p_7
  have e8 : B_2 = B_6 := e9.symm
  subst e8
  rw [← hkd] at hr8 hV8
  have hC8 := CW3_up hC9 hf8 (fun x h9 => h9.1)
  have ho8 : G_5 ao = some (90, .inl (cA 1, 1, .inr (.inl of1))) := hf8 _ _ ho1 (show ¬ (70 ≤ (90 : Nat) ∧ (90 : Nat) < 90) by decide)
  obtain ⟨hob8, hhm8⟩ : ∃ o9, G_5 hm = some (70, .inr (9, o9)) := by obtain ⟨_, _, _, _, _, _, _, h9, -⟩ := hV8; exact ⟨_, h9⟩
  refine gst (pc' := 709) (L' := [(6, .int r_8), (5, .int (nI kd)), (4, .int (nI i)), (3, .ref ao), (2, .ref hm), (1, .ref a.x), (0, .ref b)]) (fun _ _ _ _ _ hl => lv_istore hx hb d_La_law_707 hl (by decide) rfl) ?_
  refine gs (pc' := 710) (fun _ _ _ _ _ hl => lv_aload_n hx hb d_La_law_709 rfl (lv_at hl 4 rfl)) ?_
  refine g_outi hlo (g_runV (As := []) (rest := []) ⟨hx, hb, hml, hown, hts⟩ hK hZ hRc hRs (c_Mo_thrown l D cA lo MC MS G_5 B_2 hm A _ kd none none none hV8 (prism_ok hW) hb91 hb92) (fun _ _ => cwV 0 hts (tb_good (tb_cons wm821 (tb_cons wm822 (tb_cons wm823 (tb_cons wm12 k_Mo_thrown))))) rfl rfl rfl (by decide +kernel) ⟨by rw [hRf]; exact Nat.le_of_ble_eq_true rfl, by rw [hRl]; exact Nat.le_of_ble_eq_true rfl⟩) hhm8 rfl hb91 hb92 rfl (Nat.le_of_ble_eq_true rfl) d_La_law_710) (fun r_12 G_9 B_10 p_11 => ?_)
  obtain ⟨e7, hr7⟩ := p_11
  cases e7
  subst hr7
  refine gs (pc' := 715) (fun _ _ _ _ _ hl => lv_iload hx hb d_La_law_713 (lv_at hl 1 rfl)) ?_
  refine gsb (pc1 := 720) (pc2 := 718) (fun _ _ _ _ _ => lv_icmp_eq (tgt := 720) hx hb d_La_law_715 (by decide)) (fun c_13 => ?_) (fun c_13 => ?_)
  · skip
    have nc_13 : kd = kd := (nn_eq (a := kd) (b := kd) (by omega) (by omega)).1 c_13
    refine gs (pc' := 722) (fun _ _ _ _ _ hl => lv_iload hx hb d_La_law_720 (lv_at hl 1 rfl)) ?_
    refine gsb (pc1 := 737) (pc2 := 725) (fun _ _ _ _ _ => lv_if_ne (tgt := 737) hx hb d_La_law_722 (by decide)) (fun c_14 => ?_) (fun c_14 => ?_)
    · skip
      have nc_14 : kd ≠ 0 := (n0_ne (a := kd) (by omega)).1 c_14
      refine gs (pc' := 1286) (fun _ _ _ _ _ hl => lv_goto (tgt := 1286) hx hb d_La_law_737 (by decide)) ?_
      refine gsub [2, 3, 4, 5, 6] rfl ?_
      exact hnext _ kd of1 G_5 B_2 (prism_ok hW) hC8 hV8 ho8
    · skip
      have nc_14 : kd = 0 := (n0_ne (a := kd) (by omega)).2 c_14
      have hr6 := hr8 nc_14
      have ho6 := ho2 nc_14
      subst hr6
      refine gs (pc' := 726) (fun _ _ _ _ _ hl => lv_aload_n hx hb d_La_law_725 rfl (lv_at hl 3 rfl)) ?_
      refine gs (pc' := 727) (fun _ _ _ _ _ hl => lv_iconst (v := nI 0) hx hb d_La_law_726 (by decide)) ?_
      refine g_lald hx hb hK 1 ho8 rfl (show vp_in (nI 0) 1 from vp_in_nI (by omega) (by omega)) d_La_law_727 ?_
      refine g_eql (show of1 (nI 0).toNatClampNeg = of1 0 from by rw [nI_clamp (by omega)]) ?_
      refine g_eql (show of1 0 = (iI (sp_prism S (iI ((xs (i + 1)).toInt)) (iI ((xs (i + 2)).toInt)) (iI ((xs (i + 3)).toInt)) (iI ((xs (i + 4)).toInt))).2.1).toInt64 from ho6) ?_
      refine gs (pc' := 730) (fun _ _ _ _ _ hl => lv_iload hx hb d_La_law_728 (lv_at hl 0 rfl)) ?_
      refine gs (pc' := 731) (fun _ _ _ _ _ hl => lv_i2l (v := (iI (sp_prism S (iI ((xs (i + 1)).toInt)) (iI ((xs (i + 2)).toInt)) (iI ((xs (i + 3)).toInt)) (iI ((xs (i + 4)).toInt))).2.1).toInt64) hx hb d_La_law_730 (rfl)) ?_
      refine gs (pc' := 732) (fun _ _ _ _ _ hl => W.lcmp hx hb d_La_law_731) ?_
      refine g_eqi (show lg_cmp ((iI (sp_prism S (iI ((xs (i + 1)).toInt)) (iI ((xs (i + 2)).toInt)) (iI ((xs (i + 3)).toInt)) (iI ((xs (i + 4)).toInt))).2.1).toInt64) ((iI (sp_prism S (iI ((xs (i + 1)).toInt)) (iI ((xs (i + 2)).toInt)) (iI ((xs (i + 3)).toInt)) (iI ((xs (i + 4)).toInt))).2.1).toInt64) = nI 0 from cmp_s _) ?_
      refine gsb (pc1 := 737) (pc2 := 735) (fun _ _ _ _ _ => lv_if_eq (tgt := 737) hx hb d_La_law_732 (by decide)) (fun c_15 => ?_) (fun c_15 => ?_)
      · skip
        have nc_15 : 0 = 0 := (n0_eq (a := 0) (by omega)).1 c_15
        refine gs (pc' := 1286) (fun _ _ _ _ _ hl => lv_goto (tgt := 1286) hx hb d_La_law_737 (by decide)) ?_
        refine gsub [2, 3, 4, 5, 6] rfl ?_
        exact hnext _ kd of1 G_5 B_2 (prism_ok hW) hC8 hV8 ho8
      · skip
        have nc_15 : 0 ≠ 0 := (n0_eq (a := 0) (by omega)).2 c_15
        exact absurd nc_15 (by decide)
  · skip
    have nc_13 : kd ≠ kd := (nn_eq (a := kd) (b := kd) (by omega) (by omega)).2 c_13
    exact absurd rfl nc_13
set_option maxHeartbeats 4000000 in
set_option maxRecDepth 100000 in
theorem law_told {p : Program} {l : Launch} {e : Env} {R : Room} {s : State} {m : MethodId} {args : Array Value} {below : List Frame} {meth : Method} {c : Code} {Q : State → Prop} {D : va_G} {cA : Nat → ClassId} {lo MC MS b n : Nat} {xs : Nat → Int32} (h0 : LC p l R s m args c D cA lo MC MS b n xs) (i : Nat) (hi : i + 6 ≤ n) (X : Nat × Nat) (a : AX) (S : St) (hm : Nat) (A : Nat → Nat) (th ao : Nat) (of : Nat → Int64) (G : gT) (B : Nat × Nat) (hC3 : CW3 cA X a S (G, B)) (hW : WF S) (hV : MW cA hm A S th none none none G) (hao : G ao = some (90, .inl (cA 1, 1, .inr (.inl of)))) (hY1 : X.1 + 6 ≤ MC) (hY2 : X.2 + 209 ≤ MS) (hnext : ∀ (S1 : St) (th1 : Nat) (of1 : Nat → Int64) (G1 : gT) (B1 : Nat × Nat), WF S1 → CW3 cA (X.1 + 6, X.2 + 209) a S1 (G1, B1) → MW cA hm A S1 th1 none none none G1 → G1 ao = some (90, .inl (cA 1, 1, .inr (.inl of1))) → gV p l e R s m args below meth c D clS lo 8 Q 1286 [(4, .int (nI i)), (3, .ref ao), (2, .ref hm), (1, .ref a.x), (0, .ref b)] [] G1 B1) : gV p l e R s m args below meth c D clS lo 8 Q 740 [(4, .int (nI i)), (3, .ref ao), (2, .ref hm), (1, .ref a.x), (0, .ref b)] [] G B := by
  obtain ⟨hx, hb, hml, hown, hts, hK, hlo, hZ, hRc, hRs, hRf, hRl, hX, hbl, hbA, hn, hfl⟩ := h0
  obtain ⟨F, V, hC⟩ := hC3
  have hle0 := w2_le hC.w
  have hB1 : B.1 ≤ MC := by omega
  have hB2 : B.2 ≤ MS := by omega
  have hax : G a.x = some (31, .inr (8, [.ref a.vs, .int (nI S.n), .ref a.rs, .int (nI S.rn), .ref a.ws, .ref a.ca, .ref (a.fr 0), .ref (a.fr 1), .ref (a.fr 2), .ref (a.fr 3), .ref a.zr, .ref a.fo, .ref a.ha, .ref a.si])) := hC.ob
  obtain ⟨hobm, hhm⟩ : ∃ o9, G hm = some (70, .inr (9, o9)) := by obtain ⟨_, _, _, _, _, _, _, h9, -⟩ := hV; exact ⟨_, h9⟩
  refine gs (pc' := 741) (fun _ _ _ _ _ hl => lv_aload_n hx hb d_La_law_740 rfl (lv_at hl 3 rfl)) ?_
  refine gs (pc' := 742) (fun _ _ _ _ _ hl => lv_aload_n hx hb d_La_law_741 rfl (lv_at hl 4 rfl)) ?_
  refine gs (pc' := 744) (fun _ _ _ _ _ hl => lv_iload hx hb d_La_law_742 (lv_at hl 0 rfl)) ?_
  refine gs (pc' := 745) (fun _ _ _ _ _ hl => lv_iconst (v := nI 1) hx hb d_La_law_744 (by decide)) ?_
  refine gs (pc' := 746) (fun _ _ _ _ _ hl => lv_iadd hx hb d_La_law_745) ?_
  refine g_eqi (show (nI i) + (nI 1) = nI (i + 1) from nI_add _ _) ?_
  refine g_sld hx hb hX hbl hbA (show vp_in (nI (i + 1)) n from vp_in_nI (by omega) (by omega)) d_La_law_746 ?_
  rw [nI_clamp (by omega)]
  refine g_eqi (show xs (i + 1) = iI ((xs (i + 1)).toInt) from ti_e _) ?_
  refine gs (pc' := 748) (fun _ _ _ _ _ hl => lv_aload_n hx hb d_La_law_747 rfl (lv_at hl 4 rfl)) ?_
  refine gs (pc' := 750) (fun _ _ _ _ _ hl => lv_iload hx hb d_La_law_748 (lv_at hl 0 rfl)) ?_
  refine gs (pc' := 751) (fun _ _ _ _ _ hl => lv_iconst (v := nI 2) hx hb d_La_law_750 (by decide)) ?_
  refine gs (pc' := 752) (fun _ _ _ _ _ hl => lv_iadd hx hb d_La_law_751) ?_
  refine g_eqi (show (nI i) + (nI 2) = nI (i + 2) from nI_add _ _) ?_
  refine g_sld hx hb hX hbl hbA (show vp_in (nI (i + 2)) n from vp_in_nI (by omega) (by omega)) d_La_law_752 ?_
  rw [nI_clamp (by omega)]
  refine g_eqi (show xs (i + 2) = iI ((xs (i + 2)).toInt) from ti_e _) ?_
  refine gs (pc' := 754) (fun _ _ _ _ _ hl => lv_aload_n hx hb d_La_law_753 rfl (lv_at hl 1 rfl)) ?_
  refine g_outi hlo (g_runSW (n := 4) (As := [.ref a.x, .int (iI ((xs (i + 1)).toInt)), .int (iI ((xs (i + 2)).toInt)), .ref ao]) (rest := []) ⟨hx, hb, hml, hown, hts⟩ hK hZ hRc hRs (c_La_told l D cA lo MC MS G B X a S F V hC hW ao of hao ((xs (i + 1)).toInt) (ti_1 _) (ti_2 _) ((xs (i + 2)).toInt) (ti_1 _) (ti_2 _) hY1 hY2 hfl) rfl (tb_good (tb_cons wm643 (tb_cons wm644 (tb_cons wm0 k_La_told)))) (by decide +kernel) ⟨by rw [hRf]; exact Nat.le_of_ble_eq_true rfl, by rw [hRl]; exact Nat.le_of_ble_eq_true rfl⟩ hB1 hB2 rfl (Nat.le_of_ble_eq_true rfl) d_La_law_754) (fun r_4 G_1 B_2 p_3 => ?_)
  obtain ⟨hr9, hC9, ⟨of1, ho1, ho2⟩, hf9⟩ := p_3
  obtain ⟨kd, hkd⟩ : ∃ y9 : Nat, y9 = (sp_told S (iI ((xs (i + 1)).toInt)) (iI ((xs (i + 2)).toInt))).1 := ⟨_, rfl⟩
  rw [← hkd] at hr9 ho2
  subst hr9
  have hkb : kd ≤ 2 := by
    rw [hkd]
    rcases ka_told (S := S) (p0 := iI ((xs (i + 1)).toInt)) (p1 := iI ((xs (i + 2)).toInt)) with h9 | ⟨h9, -⟩ | ⟨h9, -⟩ <;> rw [h9] <;> decide
  have hle9 := CW3_le hC9
  have hb91 : B_2.1 ≤ MC := Nat.le_trans hle9.1 hY1
  have hb92 : B_2.2 ≤ MS := Nat.le_trans hle9.2 hY2
  have hV9 : MW cA hm A S th none none none G_1 := MW_fr hV hf9 (fun x h8 h9 q9 => by omega)
  have hhm9 : G_1 hm = some (70, .inr (9, hobm)) := hf9 _ _ hhm (show ¬ ((70 : Nat) < 70 ∨ (70 : Nat) = 90) by decide)
  refine gst (pc' := 759) (L' := [(5, .int (nI kd)), (4, .int (nI i)), (3, .ref ao), (2, .ref hm), (1, .ref a.x), (0, .ref b)]) (fun _ _ _ _ _ hl => lv_istore hx hb d_La_law_757 hl (by decide) rfl) ?_
  refine gs (pc' := 760) (fun _ _ _ _ _ hl => lv_aload_n hx hb d_La_law_759 rfl (lv_at hl 3 rfl)) ?_
  refine gs (pc' := 761) (fun _ _ _ _ _ hl => lv_aload_n hx hb d_La_law_760 rfl (lv_at hl 5 rfl)) ?_
  refine gs (pc' := 763) (fun _ _ _ _ _ hl => lv_iload hx hb d_La_law_761 (lv_at hl 1 rfl)) ?_
  refine gs (pc' := 764) (fun _ _ _ _ _ hl => lv_iconst (v := nI 1) hx hb d_La_law_763 (by decide)) ?_
  refine gs (pc' := 765) (fun _ _ _ _ _ hl => lv_iadd hx hb d_La_law_764) ?_
  refine g_eqi (show (nI i) + (nI 1) = nI (i + 1) from nI_add _ _) ?_
  refine g_sld hx hb hX hbl hbA (show vp_in (nI (i + 1)) n from vp_in_nI (by omega) (by omega)) d_La_law_765 ?_
  rw [nI_clamp (by omega)]
  refine g_eqi (show xs (i + 1) = iI ((xs (i + 1)).toInt) from ti_e _) ?_
  refine gs (pc' := 767) (fun _ _ _ _ _ hl => lv_aload_n hx hb d_La_law_766 rfl (lv_at hl 5 rfl)) ?_
  refine gs (pc' := 769) (fun _ _ _ _ _ hl => lv_iload hx hb d_La_law_767 (lv_at hl 1 rfl)) ?_
  refine gs (pc' := 770) (fun _ _ _ _ _ hl => lv_iconst (v := nI 2) hx hb d_La_law_769 (by decide)) ?_
  refine gs (pc' := 771) (fun _ _ _ _ _ hl => lv_iadd hx hb d_La_law_770) ?_
  refine g_eqi (show (nI i) + (nI 2) = nI (i + 2) from nI_add _ _) ?_
  refine g_sld hx hb hX hbl hbA (show vp_in (nI (i + 2)) n from vp_in_nI (by omega) (by omega)) d_La_law_771 ?_
  rw [nI_clamp (by omega)]
  refine g_eqi (show xs (i + 2) = iI ((xs (i + 2)).toInt) from ti_e _) ?_
  refine g_outi hlo (g_runV (As := [.int (iI ((xs (i + 1)).toInt)), .int (iI ((xs (i + 2)).toInt))]) (rest := []) ⟨hx, hb, hml, hown, hts⟩ hK hZ hRc hRs (c_Mo_told l D cA lo MC MS G_1 B_2 hm A S th none none none hV9 hW ((xs (i + 1)).toInt) (ti_1 _) (ti_2 _) ((xs (i + 2)).toInt) (ti_1 _) (ti_2 _) hb91 hb92) (fun _ _ => cwV 2 hts (tb_good (tb_cons wm964 (tb_cons wm965 (tb_cons wm966 (tb_cons wm12 k_Mo_told))))) rfl rfl rfl (by decide +kernel) ⟨by rw [hRf]; exact Nat.le_of_ble_eq_true rfl, by rw [hRl]; exact Nat.le_of_ble_eq_true rfl⟩) hhm9 rfl hb91 hb92 rfl (Nat.le_of_ble_eq_true rfl) d_La_law_772) (fun r_8 G_5 B_6 p_7 => ?_)
  obtain ⟨e9, hr8, hV8, hf8⟩ := p_7
  have e8 : B_2 = B_6 := e9.symm
  subst e8
  rw [← hkd] at hr8 hV8
  have hC8 := CW3_up hC9 hf8 (fun x h9 => h9.1)
  have ho8 : G_5 ao = some (90, .inl (cA 1, 1, .inr (.inl of1))) := hf8 _ _ ho1 (show ¬ (70 ≤ (90 : Nat) ∧ (90 : Nat) < 90) by decide)
  obtain ⟨hob8, hhm8⟩ : ∃ o9, G_5 hm = some (70, .inr (9, o9)) := by obtain ⟨_, _, _, _, _, _, _, h9, -⟩ := hV8; exact ⟨_, h9⟩
  refine gst (pc' := 777) (L' := [(6, .int r_8), (5, .int (nI kd)), (4, .int (nI i)), (3, .ref ao), (2, .ref hm), (1, .ref a.x), (0, .ref b)]) (fun _ _ _ _ _ hl => lv_istore hx hb d_La_law_775 hl (by decide) rfl) ?_
  refine gs (pc' := 778) (fun _ _ _ _ _ hl => lv_aload_n hx hb d_La_law_777 rfl (lv_at hl 4 rfl)) ?_
  refine g_outi hlo (g_runV (As := []) (rest := []) ⟨hx, hb, hml, hown, hts⟩ hK hZ hRc hRs (c_Mo_thrown l D cA lo MC MS G_5 B_2 hm A _ kd none none none hV8 (told_ok hW) hb91 hb92) (fun _ _ => cwV 0 hts (tb_good (tb_cons wm821 (tb_cons wm822 (tb_cons wm823 (tb_cons wm12 k_Mo_thrown))))) rfl rfl rfl (by decide +kernel) ⟨by rw [hRf]; exact Nat.le_of_ble_eq_true rfl, by rw [hRl]; exact Nat.le_of_ble_eq_true rfl⟩) hhm8 rfl hb91 hb92 rfl (Nat.le_of_ble_eq_true rfl) d_La_law_778) (fun r_12 G_9 B_10 p_11 => ?_)
  obtain ⟨e7, hr7⟩ := p_11
  cases e7
  subst hr7
  refine gs (pc' := 783) (fun _ _ _ _ _ hl => lv_iload hx hb d_La_law_781 (lv_at hl 1 rfl)) ?_
  refine gsb (pc1 := 788) (pc2 := 786) (fun _ _ _ _ _ => lv_icmp_eq (tgt := 788) hx hb d_La_law_783 (by decide)) (fun c_13 => ?_) (fun c_13 => ?_)
  · skip
    have nc_13 : kd = kd := (nn_eq (a := kd) (b := kd) (by omega) (by omega)).1 c_13
    refine gs (pc' := 790) (fun _ _ _ _ _ hl => lv_iload hx hb d_La_law_788 (lv_at hl 1 rfl)) ?_
    refine gsb (pc1 := 805) (pc2 := 793) (fun _ _ _ _ _ => lv_if_ne (tgt := 805) hx hb d_La_law_790 (by decide)) (fun c_14 => ?_) (fun c_14 => ?_)
    · skip
      have nc_14 : kd ≠ 0 := (n0_ne (a := kd) (by omega)).1 c_14
      refine gs (pc' := 1286) (fun _ _ _ _ _ hl => lv_goto (tgt := 1286) hx hb d_La_law_805 (by decide)) ?_
      refine gsub [2, 3, 4, 5, 6] rfl ?_
      exact hnext _ kd of1 G_5 B_2 (told_ok hW) hC8 hV8 ho8
    · skip
      have nc_14 : kd = 0 := (n0_ne (a := kd) (by omega)).2 c_14
      have hr6 := hr8 nc_14
      have ho6 := ho2 nc_14
      subst hr6
      refine gs (pc' := 794) (fun _ _ _ _ _ hl => lv_aload_n hx hb d_La_law_793 rfl (lv_at hl 3 rfl)) ?_
      refine gs (pc' := 795) (fun _ _ _ _ _ hl => lv_iconst (v := nI 0) hx hb d_La_law_794 (by decide)) ?_
      refine g_lald hx hb hK 1 ho8 rfl (show vp_in (nI 0) 1 from vp_in_nI (by omega) (by omega)) d_La_law_795 ?_
      refine g_eql (show of1 (nI 0).toNatClampNeg = of1 0 from by rw [nI_clamp (by omega)]) ?_
      refine g_eql (show of1 0 = (iI (sp_told S (iI ((xs (i + 1)).toInt)) (iI ((xs (i + 2)).toInt))).2.1).toInt64 from ho6) ?_
      refine gs (pc' := 798) (fun _ _ _ _ _ hl => lv_iload hx hb d_La_law_796 (lv_at hl 0 rfl)) ?_
      refine gs (pc' := 799) (fun _ _ _ _ _ hl => lv_i2l (v := (iI (sp_told S (iI ((xs (i + 1)).toInt)) (iI ((xs (i + 2)).toInt))).2.1).toInt64) hx hb d_La_law_798 (rfl)) ?_
      refine gs (pc' := 800) (fun _ _ _ _ _ hl => W.lcmp hx hb d_La_law_799) ?_
      refine g_eqi (show lg_cmp ((iI (sp_told S (iI ((xs (i + 1)).toInt)) (iI ((xs (i + 2)).toInt))).2.1).toInt64) ((iI (sp_told S (iI ((xs (i + 1)).toInt)) (iI ((xs (i + 2)).toInt))).2.1).toInt64) = nI 0 from cmp_s _) ?_
      refine gsb (pc1 := 805) (pc2 := 803) (fun _ _ _ _ _ => lv_if_eq (tgt := 805) hx hb d_La_law_800 (by decide)) (fun c_15 => ?_) (fun c_15 => ?_)
      · skip
        have nc_15 : 0 = 0 := (n0_eq (a := 0) (by omega)).1 c_15
        refine gs (pc' := 1286) (fun _ _ _ _ _ hl => lv_goto (tgt := 1286) hx hb d_La_law_805 (by decide)) ?_
        refine gsub [2, 3, 4, 5, 6] rfl ?_
        exact hnext _ kd of1 G_5 B_2 (told_ok hW) hC8 hV8 ho8
      · skip
        have nc_15 : 0 ≠ 0 := (n0_eq (a := 0) (by omega)).2 c_15
        exact absurd nc_15 (by decide)
  · skip
    have nc_13 : kd ≠ kd := (nn_eq (a := kd) (b := kd) (by omega) (by omega)).2 c_13
    exact absurd rfl nc_13
set_option maxHeartbeats 4000000 in
set_option maxRecDepth 100000 in
theorem law_digit {p : Program} {l : Launch} {e : Env} {R : Room} {s : State} {m : MethodId} {args : Array Value} {below : List Frame} {meth : Method} {c : Code} {Q : State → Prop} {D : va_G} {cA : Nat → ClassId} {lo MC MS b n : Nat} {xs : Nat → Int32} (h0 : LC p l R s m args c D cA lo MC MS b n xs) (i : Nat) (hi : i + 6 ≤ n) (X : Nat × Nat) (a : AX) (S : St) (hm : Nat) (A : Nat → Nat) (th ao : Nat) (of : Nat → Int64) (G : gT) (B : Nat × Nat) (hC3 : CW3 cA X a S (G, B)) (hW : WF S) (hV : MW cA hm A S th none none none G) (hao : G ao = some (90, .inl (cA 1, 1, .inr (.inl of)))) (hY1 : X.1 + 6 ≤ MC) (hY2 : X.2 + 209 ≤ MS) (hnext : ∀ (S1 : St) (th1 : Nat) (of1 : Nat → Int64) (G1 : gT) (B1 : Nat × Nat), WF S1 → CW3 cA (X.1 + 6, X.2 + 209) a S1 (G1, B1) → MW cA hm A S1 th1 none none none G1 → G1 ao = some (90, .inl (cA 1, 1, .inr (.inl of1))) → gV p l e R s m args below meth c D clS lo 8 Q 1286 [(4, .int (nI i)), (3, .ref ao), (2, .ref hm), (1, .ref a.x), (0, .ref b)] [] G1 B1) : gV p l e R s m args below meth c D clS lo 8 Q 808 [(4, .int (nI i)), (3, .ref ao), (2, .ref hm), (1, .ref a.x), (0, .ref b)] [] G B := by
  obtain ⟨hx, hb, hml, hown, hts, hK, hlo, hZ, hRc, hRs, hRf, hRl, hX, hbl, hbA, hn, hfl⟩ := h0
  obtain ⟨F, V, hC⟩ := hC3
  have hle0 := w2_le hC.w
  have hB1 : B.1 ≤ MC := by omega
  have hB2 : B.2 ≤ MS := by omega
  have hax : G a.x = some (31, .inr (8, [.ref a.vs, .int (nI S.n), .ref a.rs, .int (nI S.rn), .ref a.ws, .ref a.ca, .ref (a.fr 0), .ref (a.fr 1), .ref (a.fr 2), .ref (a.fr 3), .ref a.zr, .ref a.fo, .ref a.ha, .ref a.si])) := hC.ob
  obtain ⟨hobm, hhm⟩ : ∃ o9, G hm = some (70, .inr (9, o9)) := by obtain ⟨_, _, _, _, _, _, _, h9, -⟩ := hV; exact ⟨_, h9⟩
  refine gs (pc' := 809) (fun _ _ _ _ _ hl => lv_aload_n hx hb d_La_law_808 rfl (lv_at hl 3 rfl)) ?_
  refine gs (pc' := 810) (fun _ _ _ _ _ hl => lv_aload_n hx hb d_La_law_809 rfl (lv_at hl 4 rfl)) ?_
  refine gs (pc' := 812) (fun _ _ _ _ _ hl => lv_iload hx hb d_La_law_810 (lv_at hl 0 rfl)) ?_
  refine gs (pc' := 813) (fun _ _ _ _ _ hl => lv_iconst (v := nI 1) hx hb d_La_law_812 (by decide)) ?_
  refine gs (pc' := 814) (fun _ _ _ _ _ hl => lv_iadd hx hb d_La_law_813) ?_
  refine g_eqi (show (nI i) + (nI 1) = nI (i + 1) from nI_add _ _) ?_
  refine g_sld hx hb hX hbl hbA (show vp_in (nI (i + 1)) n from vp_in_nI (by omega) (by omega)) d_La_law_814 ?_
  rw [nI_clamp (by omega)]
  refine g_eqi (show xs (i + 1) = iI ((xs (i + 1)).toInt) from ti_e _) ?_
  refine gs (pc' := 816) (fun _ _ _ _ _ hl => lv_aload_n hx hb d_La_law_815 rfl (lv_at hl 4 rfl)) ?_
  refine gs (pc' := 818) (fun _ _ _ _ _ hl => lv_iload hx hb d_La_law_816 (lv_at hl 0 rfl)) ?_
  refine gs (pc' := 819) (fun _ _ _ _ _ hl => lv_iconst (v := nI 2) hx hb d_La_law_818 (by decide)) ?_
  refine gs (pc' := 820) (fun _ _ _ _ _ hl => lv_iadd hx hb d_La_law_819) ?_
  refine g_eqi (show (nI i) + (nI 2) = nI (i + 2) from nI_add _ _) ?_
  refine g_sld hx hb hX hbl hbA (show vp_in (nI (i + 2)) n from vp_in_nI (by omega) (by omega)) d_La_law_820 ?_
  rw [nI_clamp (by omega)]
  refine g_eqi (show xs (i + 2) = iI ((xs (i + 2)).toInt) from ti_e _) ?_
  refine gs (pc' := 822) (fun _ _ _ _ _ hl => lv_aload_n hx hb d_La_law_821 rfl (lv_at hl 4 rfl)) ?_
  refine gs (pc' := 824) (fun _ _ _ _ _ hl => lv_iload hx hb d_La_law_822 (lv_at hl 0 rfl)) ?_
  refine gs (pc' := 825) (fun _ _ _ _ _ hl => lv_iconst (v := nI 3) hx hb d_La_law_824 (by decide)) ?_
  refine gs (pc' := 826) (fun _ _ _ _ _ hl => lv_iadd hx hb d_La_law_825) ?_
  refine g_eqi (show (nI i) + (nI 3) = nI (i + 3) from nI_add _ _) ?_
  refine g_sld hx hb hX hbl hbA (show vp_in (nI (i + 3)) n from vp_in_nI (by omega) (by omega)) d_La_law_826 ?_
  rw [nI_clamp (by omega)]
  refine g_eqi (show xs (i + 3) = iI ((xs (i + 3)).toInt) from ti_e _) ?_
  refine gs (pc' := 828) (fun _ _ _ _ _ hl => lv_aload_n hx hb d_La_law_827 rfl (lv_at hl 1 rfl)) ?_
  refine g_outi hlo (g_runSW (n := 5) (As := [.ref a.x, .int (iI ((xs (i + 1)).toInt)), .int (iI ((xs (i + 2)).toInt)), .int (iI ((xs (i + 3)).toInt)), .ref ao]) (rest := []) ⟨hx, hb, hml, hown, hts⟩ hK hZ hRc hRs (c_La_digit l D cA lo MC MS G B X a S F V hC hW ao of hao ((xs (i + 1)).toInt) (ti_1 _) (ti_2 _) ((xs (i + 2)).toInt) (ti_1 _) (ti_2 _) ((xs (i + 3)).toInt) (ti_1 _) (ti_2 _) hY1 hY2 hfl) rfl (tb_good (tb_cons wm652 (tb_cons wm653 (tb_cons wm0 k_La_digit)))) (by decide +kernel) ⟨by rw [hRf]; exact Nat.le_of_ble_eq_true rfl, by rw [hRl]; exact Nat.le_of_ble_eq_true rfl⟩ hB1 hB2 rfl (Nat.le_of_ble_eq_true rfl) d_La_law_828) (fun r_4 G_1 B_2 p_3 => ?_)
  obtain ⟨hr9, hC9, ⟨of1, ho1, ho2⟩, hf9⟩ := p_3
  obtain ⟨kd, hkd⟩ : ∃ y9 : Nat, y9 = (sp_digit S (iI ((xs (i + 1)).toInt)) (iI ((xs (i + 2)).toInt)) (iI ((xs (i + 3)).toInt))).1 := ⟨_, rfl⟩
  rw [← hkd] at hr9 ho2
  subst hr9
  have hkb : kd ≤ 2 := by
    rw [hkd]
    rcases ka_digit (S := S) (p0 := iI ((xs (i + 1)).toInt)) (p1 := iI ((xs (i + 2)).toInt)) (p2 := iI ((xs (i + 3)).toInt)) with h9 | ⟨h9, -⟩ | ⟨h9, -⟩ <;> rw [h9] <;> decide
  have hle9 := CW3_le hC9
  have hb91 : B_2.1 ≤ MC := Nat.le_trans hle9.1 hY1
  have hb92 : B_2.2 ≤ MS := Nat.le_trans hle9.2 hY2
  have hV9 : MW cA hm A S th none none none G_1 := MW_fr hV hf9 (fun x h8 h9 q9 => by omega)
  have hhm9 : G_1 hm = some (70, .inr (9, hobm)) := hf9 _ _ hhm (show ¬ ((70 : Nat) < 70 ∨ (70 : Nat) = 90) by decide)
  refine gst (pc' := 833) (L' := [(5, .int (nI kd)), (4, .int (nI i)), (3, .ref ao), (2, .ref hm), (1, .ref a.x), (0, .ref b)]) (fun _ _ _ _ _ hl => lv_istore hx hb d_La_law_831 hl (by decide) rfl) ?_
  refine gs (pc' := 834) (fun _ _ _ _ _ hl => lv_aload_n hx hb d_La_law_833 rfl (lv_at hl 3 rfl)) ?_
  refine gs (pc' := 835) (fun _ _ _ _ _ hl => lv_aload_n hx hb d_La_law_834 rfl (lv_at hl 5 rfl)) ?_
  refine gs (pc' := 837) (fun _ _ _ _ _ hl => lv_iload hx hb d_La_law_835 (lv_at hl 1 rfl)) ?_
  refine gs (pc' := 838) (fun _ _ _ _ _ hl => lv_iconst (v := nI 1) hx hb d_La_law_837 (by decide)) ?_
  refine gs (pc' := 839) (fun _ _ _ _ _ hl => lv_iadd hx hb d_La_law_838) ?_
  refine g_eqi (show (nI i) + (nI 1) = nI (i + 1) from nI_add _ _) ?_
  refine g_sld hx hb hX hbl hbA (show vp_in (nI (i + 1)) n from vp_in_nI (by omega) (by omega)) d_La_law_839 ?_
  rw [nI_clamp (by omega)]
  refine g_eqi (show xs (i + 1) = iI ((xs (i + 1)).toInt) from ti_e _) ?_
  refine gs (pc' := 841) (fun _ _ _ _ _ hl => lv_aload_n hx hb d_La_law_840 rfl (lv_at hl 5 rfl)) ?_
  refine gs (pc' := 843) (fun _ _ _ _ _ hl => lv_iload hx hb d_La_law_841 (lv_at hl 1 rfl)) ?_
  refine gs (pc' := 844) (fun _ _ _ _ _ hl => lv_iconst (v := nI 2) hx hb d_La_law_843 (by decide)) ?_
  refine gs (pc' := 845) (fun _ _ _ _ _ hl => lv_iadd hx hb d_La_law_844) ?_
  refine g_eqi (show (nI i) + (nI 2) = nI (i + 2) from nI_add _ _) ?_
  refine g_sld hx hb hX hbl hbA (show vp_in (nI (i + 2)) n from vp_in_nI (by omega) (by omega)) d_La_law_845 ?_
  rw [nI_clamp (by omega)]
  refine g_eqi (show xs (i + 2) = iI ((xs (i + 2)).toInt) from ti_e _) ?_
  refine gs (pc' := 847) (fun _ _ _ _ _ hl => lv_aload_n hx hb d_La_law_846 rfl (lv_at hl 5 rfl)) ?_
  refine gs (pc' := 849) (fun _ _ _ _ _ hl => lv_iload hx hb d_La_law_847 (lv_at hl 1 rfl)) ?_
  refine gs (pc' := 850) (fun _ _ _ _ _ hl => lv_iconst (v := nI 3) hx hb d_La_law_849 (by decide)) ?_
  refine gs (pc' := 851) (fun _ _ _ _ _ hl => lv_iadd hx hb d_La_law_850) ?_
  refine g_eqi (show (nI i) + (nI 3) = nI (i + 3) from nI_add _ _) ?_
  refine g_sld hx hb hX hbl hbA (show vp_in (nI (i + 3)) n from vp_in_nI (by omega) (by omega)) d_La_law_851 ?_
  rw [nI_clamp (by omega)]
  refine g_eqi (show xs (i + 3) = iI ((xs (i + 3)).toInt) from ti_e _) ?_
  refine g_outi hlo (g_runV (As := [.int (iI ((xs (i + 1)).toInt)), .int (iI ((xs (i + 2)).toInt)), .int (iI ((xs (i + 3)).toInt))]) (rest := []) ⟨hx, hb, hml, hown, hts⟩ hK hZ hRc hRs (c_Mo_digit l D cA lo MC MS G_1 B_2 hm A S th none none none hV9 hW ((xs (i + 1)).toInt) (ti_1 _) (ti_2 _) ((xs (i + 2)).toInt) (ti_1 _) (ti_2 _) ((xs (i + 3)).toInt) (ti_1 _) (ti_2 _) hb91 hb92) (fun _ _ => cwV 3 hts (tb_good (tb_cons wm968 (tb_cons wm969 (tb_cons wm970 (tb_cons wm12 k_Mo_digit))))) rfl rfl rfl (by decide +kernel) ⟨by rw [hRf]; exact Nat.le_of_ble_eq_true rfl, by rw [hRl]; exact Nat.le_of_ble_eq_true rfl⟩) hhm9 rfl hb91 hb92 rfl (Nat.le_of_ble_eq_true rfl) d_La_law_852) (fun r_8 G_5 B_6 p_7 => ?_)
  obtain ⟨e9, hr8, hV8, hf8⟩ := p_7
  have e8 : B_2 = B_6 := e9.symm
  subst e8
  rw [← hkd] at hr8 hV8
  have hC8 := CW3_up hC9 hf8 (fun x h9 => h9.1)
  have ho8 : G_5 ao = some (90, .inl (cA 1, 1, .inr (.inl of1))) := hf8 _ _ ho1 (show ¬ (70 ≤ (90 : Nat) ∧ (90 : Nat) < 90) by decide)
  obtain ⟨hob8, hhm8⟩ : ∃ o9, G_5 hm = some (70, .inr (9, o9)) := by obtain ⟨_, _, _, _, _, _, _, h9, -⟩ := hV8; exact ⟨_, h9⟩
  refine gst (pc' := 857) (L' := [(6, .int r_8), (5, .int (nI kd)), (4, .int (nI i)), (3, .ref ao), (2, .ref hm), (1, .ref a.x), (0, .ref b)]) (fun _ _ _ _ _ hl => lv_istore hx hb d_La_law_855 hl (by decide) rfl) ?_
  refine gs (pc' := 858) (fun _ _ _ _ _ hl => lv_aload_n hx hb d_La_law_857 rfl (lv_at hl 4 rfl)) ?_
  refine g_outi hlo (g_runV (As := []) (rest := []) ⟨hx, hb, hml, hown, hts⟩ hK hZ hRc hRs (c_Mo_thrown l D cA lo MC MS G_5 B_2 hm A _ kd none none none hV8 (digit_ok hW) hb91 hb92) (fun _ _ => cwV 0 hts (tb_good (tb_cons wm821 (tb_cons wm822 (tb_cons wm823 (tb_cons wm12 k_Mo_thrown))))) rfl rfl rfl (by decide +kernel) ⟨by rw [hRf]; exact Nat.le_of_ble_eq_true rfl, by rw [hRl]; exact Nat.le_of_ble_eq_true rfl⟩) hhm8 rfl hb91 hb92 rfl (Nat.le_of_ble_eq_true rfl) d_La_law_858) (fun r_12 G_9 B_10 p_11 => ?_)
  obtain ⟨e7, hr7⟩ := p_11
  cases e7
  subst hr7
  refine gs (pc' := 863) (fun _ _ _ _ _ hl => lv_iload hx hb d_La_law_861 (lv_at hl 1 rfl)) ?_
  refine gsb (pc1 := 868) (pc2 := 866) (fun _ _ _ _ _ => lv_icmp_eq (tgt := 868) hx hb d_La_law_863 (by decide)) (fun c_13 => ?_) (fun c_13 => ?_)
  · skip
    have nc_13 : kd = kd := (nn_eq (a := kd) (b := kd) (by omega) (by omega)).1 c_13
    refine gs (pc' := 870) (fun _ _ _ _ _ hl => lv_iload hx hb d_La_law_868 (lv_at hl 1 rfl)) ?_
    refine gsb (pc1 := 885) (pc2 := 873) (fun _ _ _ _ _ => lv_if_ne (tgt := 885) hx hb d_La_law_870 (by decide)) (fun c_14 => ?_) (fun c_14 => ?_)
    · skip
      have nc_14 : kd ≠ 0 := (n0_ne (a := kd) (by omega)).1 c_14
      refine gs (pc' := 1286) (fun _ _ _ _ _ hl => lv_goto (tgt := 1286) hx hb d_La_law_885 (by decide)) ?_
      refine gsub [2, 3, 4, 5, 6] rfl ?_
      exact hnext _ kd of1 G_5 B_2 (digit_ok hW) hC8 hV8 ho8
    · skip
      have nc_14 : kd = 0 := (n0_ne (a := kd) (by omega)).2 c_14
      have hr6 := hr8 nc_14
      have ho6 := ho2 nc_14
      subst hr6
      refine gs (pc' := 874) (fun _ _ _ _ _ hl => lv_aload_n hx hb d_La_law_873 rfl (lv_at hl 3 rfl)) ?_
      refine gs (pc' := 875) (fun _ _ _ _ _ hl => lv_iconst (v := nI 0) hx hb d_La_law_874 (by decide)) ?_
      refine g_lald hx hb hK 1 ho8 rfl (show vp_in (nI 0) 1 from vp_in_nI (by omega) (by omega)) d_La_law_875 ?_
      refine g_eql (show of1 (nI 0).toNatClampNeg = of1 0 from by rw [nI_clamp (by omega)]) ?_
      refine g_eql (show of1 0 = (iI (sp_digit S (iI ((xs (i + 1)).toInt)) (iI ((xs (i + 2)).toInt)) (iI ((xs (i + 3)).toInt))).2.1).toInt64 from ho6) ?_
      refine gs (pc' := 878) (fun _ _ _ _ _ hl => lv_iload hx hb d_La_law_876 (lv_at hl 0 rfl)) ?_
      refine gs (pc' := 879) (fun _ _ _ _ _ hl => lv_i2l (v := (iI (sp_digit S (iI ((xs (i + 1)).toInt)) (iI ((xs (i + 2)).toInt)) (iI ((xs (i + 3)).toInt))).2.1).toInt64) hx hb d_La_law_878 (rfl)) ?_
      refine gs (pc' := 880) (fun _ _ _ _ _ hl => W.lcmp hx hb d_La_law_879) ?_
      refine g_eqi (show lg_cmp ((iI (sp_digit S (iI ((xs (i + 1)).toInt)) (iI ((xs (i + 2)).toInt)) (iI ((xs (i + 3)).toInt))).2.1).toInt64) ((iI (sp_digit S (iI ((xs (i + 1)).toInt)) (iI ((xs (i + 2)).toInt)) (iI ((xs (i + 3)).toInt))).2.1).toInt64) = nI 0 from cmp_s _) ?_
      refine gsb (pc1 := 885) (pc2 := 883) (fun _ _ _ _ _ => lv_if_eq (tgt := 885) hx hb d_La_law_880 (by decide)) (fun c_15 => ?_) (fun c_15 => ?_)
      · skip
        have nc_15 : 0 = 0 := (n0_eq (a := 0) (by omega)).1 c_15
        refine gs (pc' := 1286) (fun _ _ _ _ _ hl => lv_goto (tgt := 1286) hx hb d_La_law_885 (by decide)) ?_
        refine gsub [2, 3, 4, 5, 6] rfl ?_
        exact hnext _ kd of1 G_5 B_2 (digit_ok hW) hC8 hV8 ho8
      · skip
        have nc_15 : 0 ≠ 0 := (n0_eq (a := 0) (by omega)).2 c_15
        exact absurd nc_15 (by decide)
  · skip
    have nc_13 : kd ≠ kd := (nn_eq (a := kd) (b := kd) (by omega) (by omega)).2 c_13
    exact absurd rfl nc_13
set_option maxHeartbeats 4000000 in
set_option maxRecDepth 100000 in
theorem law_clear {p : Program} {l : Launch} {e : Env} {R : Room} {s : State} {m : MethodId} {args : Array Value} {below : List Frame} {meth : Method} {c : Code} {Q : State → Prop} {D : va_G} {cA : Nat → ClassId} {lo MC MS b n : Nat} {xs : Nat → Int32} (h0 : LC p l R s m args c D cA lo MC MS b n xs) (i : Nat) (hi : i + 6 ≤ n) (X : Nat × Nat) (a : AX) (S : St) (hm : Nat) (A : Nat → Nat) (th ao : Nat) (of : Nat → Int64) (G : gT) (B : Nat × Nat) (hC3 : CW3 cA X a S (G, B)) (hW : WF S) (hV : MW cA hm A S th none none none G) (hao : G ao = some (90, .inl (cA 1, 1, .inr (.inl of)))) (hY1 : X.1 + 6 ≤ MC) (hY2 : X.2 + 209 ≤ MS) (hnext : ∀ (S1 : St) (th1 : Nat) (of1 : Nat → Int64) (G1 : gT) (B1 : Nat × Nat), WF S1 → CW3 cA (X.1 + 6, X.2 + 209) a S1 (G1, B1) → MW cA hm A S1 th1 none none none G1 → G1 ao = some (90, .inl (cA 1, 1, .inr (.inl of1))) → gV p l e R s m args below meth c D clS lo 8 Q 1286 [(4, .int (nI i)), (3, .ref ao), (2, .ref hm), (1, .ref a.x), (0, .ref b)] [] G1 B1) : gV p l e R s m args below meth c D clS lo 8 Q 888 [(4, .int (nI i)), (3, .ref ao), (2, .ref hm), (1, .ref a.x), (0, .ref b)] [] G B := by
  obtain ⟨hx, hb, hml, hown, hts, hK, hlo, hZ, hRc, hRs, hRf, hRl, hX, hbl, hbA, hn, hfl⟩ := h0
  obtain ⟨F, V, hC⟩ := hC3
  have hle0 := w2_le hC.w
  have hB1 : B.1 ≤ MC := by omega
  have hB2 : B.2 ≤ MS := by omega
  have hax : G a.x = some (31, .inr (8, [.ref a.vs, .int (nI S.n), .ref a.rs, .int (nI S.rn), .ref a.ws, .ref a.ca, .ref (a.fr 0), .ref (a.fr 1), .ref (a.fr 2), .ref (a.fr 3), .ref a.zr, .ref a.fo, .ref a.ha, .ref a.si])) := hC.ob
  obtain ⟨hobm, hhm⟩ : ∃ o9, G hm = some (70, .inr (9, o9)) := by obtain ⟨_, _, _, _, _, _, _, h9, -⟩ := hV; exact ⟨_, h9⟩
  have hk0 : (sp_clear S).1 = 0 := by
    unfold sp_clear
    first | rfl | (split <;> rfl)
  refine gs (pc' := 889) (fun _ _ _ _ _ hl => lv_aload_n hx hb d_La_law_888 rfl (lv_at hl 3 rfl)) ?_
  refine g_outi hlo (g_runV (As := []) (rest := []) ⟨hx, hb, hml, hown, hts⟩ hK hZ hRc hRs (c_Mf_clear l D cA lo MC MS G B X a S F V hC hW hk0 hY1 hY2) (fun _ _ => cwV 0 hts (tb_good (tb_cons wm278 (tb_cons wm279 (tb_cons wm280 (tb_cons wm1 k_Mf_clear))))) rfl rfl rfl (by decide +kernel) ⟨by rw [hRf]; exact Nat.le_of_ble_eq_true rfl, by rw [hRl]; exact Nat.le_of_ble_eq_true rfl⟩) hax rfl hB1 hB2 rfl (Nat.le_of_ble_eq_true rfl) d_La_law_889) (fun r_4 G_1 B_2 p_3 => ?_)
  obtain ⟨hr9, hC9, hf9⟩ := p_3
  subst hr9
  have hle9 := CW3_le hC9
  have hb91 : B_2.1 ≤ MC := Nat.le_trans hle9.1 hY1
  have hb92 : B_2.2 ≤ MS := Nat.le_trans hle9.2 hY2
  have hV9 : MW cA hm A S th none none none G_1 := MW_fr hV hf9 (fun x h8 h9 q9 => by omega)
  have hhm9 : G_1 hm = some (70, .inr (9, hobm)) := hf9 _ _ hhm (show ¬ ((70 : Nat) < 70) by decide)
  have ho9 : G_1 ao = some (90, .inl (cA 1, 1, .inr (.inl of))) := hf9 _ _ hao (show ¬ (90 : Nat) < 70 by decide)
  refine gs (pc' := 893) (fun _ _ _ _ _ hl => lv_aload_n hx hb d_La_law_892 rfl (lv_at hl 2 rfl)) ?_
  refine g_outi hlo (g_runV (As := []) (rest := [.int (iI (sp_clear S).2.1)]) ⟨hx, hb, hml, hown, hts⟩ hK hZ hRc hRs (c_Mo_clear l D cA lo MC MS G_1 B_2 hm A S th none none none hV9 hW hb91 hb92) (fun _ _ => cwV 0 hts (tb_good (tb_cons wm972 (tb_cons wm973 (tb_cons wm974 (tb_cons wm12 k_Mo_clear))))) rfl rfl rfl (by decide +kernel) ⟨by rw [hRf]; exact Nat.le_of_ble_eq_true rfl, by rw [hRl]; exact Nat.le_of_ble_eq_true rfl⟩) hhm9 rfl hb91 hb92 rfl (Nat.le_of_ble_eq_true rfl) d_La_law_893) (fun r_8 G_5 B_6 p_7 => ?_)
  obtain ⟨e9, hr8, hV8, hf8⟩ := p_7
  have e8 : B_2 = B_6 := e9.symm
  subst e8
  have hr6 := hr8 hk0
  subst hr6
  have hC8 := CW3_up hC9 hf8 (fun x h9 => h9.1)
  have ho8 : G_5 ao = some (90, .inl (cA 1, 1, .inr (.inl of))) := hf8 _ _ ho9 (show ¬ (70 ≤ (90 : Nat) ∧ (90 : Nat) < 90) by decide)
  refine gsb (pc1 := 1286) (pc2 := 899) (fun _ _ _ _ _ => lv_icmp_eq (tgt := 1286) hx hb d_La_law_896 (by decide)) (fun c_9 => ?_) (fun c_9 => ?_)
  · skip
    refine gsub [0, 1, 2, 3, 4] rfl ?_
    exact hnext _ _ of G_5 B_2 (clear_ok hW) hC8 hV8 ho8
  · skip
    exact absurd rfl c_9
set_option maxHeartbeats 4000000 in
set_option maxRecDepth 100000 in
theorem law_row {p : Program} {l : Launch} {e : Env} {R : Room} {s : State} {m : MethodId} {args : Array Value} {below : List Frame} {meth : Method} {c : Code} {Q : State → Prop} {D : va_G} {cA : Nat → ClassId} {lo MC MS b n : Nat} {xs : Nat → Int32} (h0 : LC p l R s m args c D cA lo MC MS b n xs) (i : Nat) (hi : i + 6 ≤ n) (X : Nat × Nat) (a : AX) (S : St) (hm : Nat) (A : Nat → Nat) (th ao : Nat) (of : Nat → Int64) (G : gT) (B : Nat × Nat) (hC3 : CW3 cA X a S (G, B)) (hW : WF S) (hV : MW cA hm A S th none none none G) (hao : G ao = some (90, .inl (cA 1, 1, .inr (.inl of)))) (hY1 : X.1 + 6 ≤ MC) (hY2 : X.2 + 209 ≤ MS) (hnext : ∀ (S1 : St) (th1 : Nat) (of1 : Nat → Int64) (G1 : gT) (B1 : Nat × Nat), WF S1 → CW3 cA (X.1 + 6, X.2 + 209) a S1 (G1, B1) → MW cA hm A S1 th1 none none none G1 → G1 ao = some (90, .inl (cA 1, 1, .inr (.inl of1))) → gV p l e R s m args below meth c D clS lo 8 Q 1286 [(4, .int (nI i)), (3, .ref ao), (2, .ref hm), (1, .ref a.x), (0, .ref b)] [] G1 B1) : gV p l e R s m args below meth c D clS lo 8 Q 901 [(4, .int (nI i)), (3, .ref ao), (2, .ref hm), (1, .ref a.x), (0, .ref b)] [] G B := by
  obtain ⟨hx, hb, hml, hown, hts, hK, hlo, hZ, hRc, hRs, hRf, hRl, hX, hbl, hbA, hn, hfl⟩ := h0
  obtain ⟨F, V, hC⟩ := hC3
  have hle0 := w2_le hC.w
  have hB1 : B.1 ≤ MC := by omega
  have hB2 : B.2 ≤ MS := by omega
  have hax : G a.x = some (31, .inr (8, [.ref a.vs, .int (nI S.n), .ref a.rs, .int (nI S.rn), .ref a.ws, .ref a.ca, .ref (a.fr 0), .ref (a.fr 1), .ref (a.fr 2), .ref (a.fr 3), .ref a.zr, .ref a.fo, .ref a.ha, .ref a.si])) := hC.ob
  obtain ⟨hobm, hhm⟩ : ∃ o9, G hm = some (70, .inr (9, o9)) := by obtain ⟨_, _, _, _, _, _, _, h9, -⟩ := hV; exact ⟨_, h9⟩
  have hk0 : (sp_row S).1 = 0 := by
    unfold sp_row
    first | rfl | (split <;> rfl)
  refine gs (pc' := 902) (fun _ _ _ _ _ hl => lv_aload_n hx hb d_La_law_901 rfl (lv_at hl 3 rfl)) ?_
  refine g_outi hlo (g_runV (As := []) (rest := []) ⟨hx, hb, hml, hown, hts⟩ hK hZ hRc hRs (c_Mf_row l D cA lo MC MS G B X a S F V hC hW hk0 hY1 hY2) (fun _ _ => cwV 0 hts (tb_good (tb_cons wm282 (tb_cons wm283 (tb_cons wm284 (tb_cons wm1 k_Mf_row))))) rfl rfl rfl (by decide +kernel) ⟨by rw [hRf]; exact Nat.le_of_ble_eq_true rfl, by rw [hRl]; exact Nat.le_of_ble_eq_true rfl⟩) hax rfl hB1 hB2 rfl (Nat.le_of_ble_eq_true rfl) d_La_law_902) (fun r_4 G_1 B_2 p_3 => ?_)
  obtain ⟨hr9, hC9, hf9⟩ := p_3
  subst hr9
  have hle9 := CW3_le hC9
  have hb91 : B_2.1 ≤ MC := Nat.le_trans hle9.1 hY1
  have hb92 : B_2.2 ≤ MS := Nat.le_trans hle9.2 hY2
  have hV9 : MW cA hm A S th none none none G_1 := MW_fr hV hf9 (fun x h8 h9 q9 => by omega)
  have hhm9 : G_1 hm = some (70, .inr (9, hobm)) := hf9 _ _ hhm (show ¬ ((70 : Nat) < 70) by decide)
  have ho9 : G_1 ao = some (90, .inl (cA 1, 1, .inr (.inl of))) := hf9 _ _ hao (show ¬ (90 : Nat) < 70 by decide)
  refine gs (pc' := 906) (fun _ _ _ _ _ hl => lv_aload_n hx hb d_La_law_905 rfl (lv_at hl 2 rfl)) ?_
  refine g_outi hlo (g_runV (As := []) (rest := [.int (iI (sp_row S).2.1)]) ⟨hx, hb, hml, hown, hts⟩ hK hZ hRc hRs (c_Mo_row l D cA lo MC MS G_1 B_2 hm A S th none none none hV9 hW hb91 hb92) (fun _ _ => cwV 0 hts (tb_good (tb_cons wm976 (tb_cons wm977 (tb_cons wm978 (tb_cons wm12 k_Mo_row))))) rfl rfl rfl (by decide +kernel) ⟨by rw [hRf]; exact Nat.le_of_ble_eq_true rfl, by rw [hRl]; exact Nat.le_of_ble_eq_true rfl⟩) hhm9 rfl hb91 hb92 rfl (Nat.le_of_ble_eq_true rfl) d_La_law_906) (fun r_8 G_5 B_6 p_7 => ?_)
  obtain ⟨e9, hr8, hV8, hf8⟩ := p_7
  have e8 : B_2 = B_6 := e9.symm
  subst e8
  have hr6 := hr8 hk0
  subst hr6
  have hC8 := CW3_up hC9 hf8 (fun x h9 => h9.1)
  have ho8 : G_5 ao = some (90, .inl (cA 1, 1, .inr (.inl of))) := hf8 _ _ ho9 (show ¬ (70 ≤ (90 : Nat) ∧ (90 : Nat) < 90) by decide)
  refine gsb (pc1 := 1286) (pc2 := 912) (fun _ _ _ _ _ => lv_icmp_eq (tgt := 1286) hx hb d_La_law_909 (by decide)) (fun c_9 => ?_) (fun c_9 => ?_)
  · skip
    refine gsub [0, 1, 2, 3, 4] rfl ?_
    exact hnext _ _ of G_5 B_2 (row_ok hW) hC8 hV8 ho8
  · skip
    exact absurd rfl c_9
set_option maxHeartbeats 4000000 in
set_option maxRecDepth 100000 in
theorem law_corner {p : Program} {l : Launch} {e : Env} {R : Room} {s : State} {m : MethodId} {args : Array Value} {below : List Frame} {meth : Method} {c : Code} {Q : State → Prop} {D : va_G} {cA : Nat → ClassId} {lo MC MS b n : Nat} {xs : Nat → Int32} (h0 : LC p l R s m args c D cA lo MC MS b n xs) (i : Nat) (hi : i + 6 ≤ n) (X : Nat × Nat) (a : AX) (S : St) (hm : Nat) (A : Nat → Nat) (th ao : Nat) (of : Nat → Int64) (G : gT) (B : Nat × Nat) (hC3 : CW3 cA X a S (G, B)) (hW : WF S) (hV : MW cA hm A S th none none none G) (hao : G ao = some (90, .inl (cA 1, 1, .inr (.inl of)))) (hY1 : X.1 + 6 ≤ MC) (hY2 : X.2 + 209 ≤ MS) (hnext : ∀ (S1 : St) (th1 : Nat) (of1 : Nat → Int64) (G1 : gT) (B1 : Nat × Nat), WF S1 → CW3 cA (X.1 + 6, X.2 + 209) a S1 (G1, B1) → MW cA hm A S1 th1 none none none G1 → G1 ao = some (90, .inl (cA 1, 1, .inr (.inl of1))) → gV p l e R s m args below meth c D clS lo 8 Q 1286 [(4, .int (nI i)), (3, .ref ao), (2, .ref hm), (1, .ref a.x), (0, .ref b)] [] G1 B1) : gV p l e R s m args below meth c D clS lo 8 Q 914 [(4, .int (nI i)), (3, .ref ao), (2, .ref hm), (1, .ref a.x), (0, .ref b)] [] G B := by
  obtain ⟨hx, hb, hml, hown, hts, hK, hlo, hZ, hRc, hRs, hRf, hRl, hX, hbl, hbA, hn, hfl⟩ := h0
  obtain ⟨F, V, hC⟩ := hC3
  have hle0 := w2_le hC.w
  have hB1 : B.1 ≤ MC := by omega
  have hB2 : B.2 ≤ MS := by omega
  have hax : G a.x = some (31, .inr (8, [.ref a.vs, .int (nI S.n), .ref a.rs, .int (nI S.rn), .ref a.ws, .ref a.ca, .ref (a.fr 0), .ref (a.fr 1), .ref (a.fr 2), .ref (a.fr 3), .ref a.zr, .ref a.fo, .ref a.ha, .ref a.si])) := hC.ob
  obtain ⟨hobm, hhm⟩ : ∃ o9, G hm = some (70, .inr (9, o9)) := by obtain ⟨_, _, _, _, _, _, _, h9, -⟩ := hV; exact ⟨_, h9⟩
  refine gs (pc' := 915) (fun _ _ _ _ _ hl => lv_aload_n hx hb d_La_law_914 rfl (lv_at hl 3 rfl)) ?_
  refine gs (pc' := 916) (fun _ _ _ _ _ hl => lv_aload_n hx hb d_La_law_915 rfl (lv_at hl 4 rfl)) ?_
  refine gs (pc' := 918) (fun _ _ _ _ _ hl => lv_iload hx hb d_La_law_916 (lv_at hl 0 rfl)) ?_
  refine gs (pc' := 919) (fun _ _ _ _ _ hl => lv_iconst (v := nI 1) hx hb d_La_law_918 (by decide)) ?_
  refine gs (pc' := 920) (fun _ _ _ _ _ hl => lv_iadd hx hb d_La_law_919) ?_
  refine g_eqi (show (nI i) + (nI 1) = nI (i + 1) from nI_add _ _) ?_
  refine g_sld hx hb hX hbl hbA (show vp_in (nI (i + 1)) n from vp_in_nI (by omega) (by omega)) d_La_law_920 ?_
  rw [nI_clamp (by omega)]
  refine g_eqi (show xs (i + 1) = iI ((xs (i + 1)).toInt) from ti_e _) ?_
  refine gs (pc' := 922) (fun _ _ _ _ _ hl => lv_aload_n hx hb d_La_law_921 rfl (lv_at hl 4 rfl)) ?_
  refine gs (pc' := 924) (fun _ _ _ _ _ hl => lv_iload hx hb d_La_law_922 (lv_at hl 0 rfl)) ?_
  refine gs (pc' := 925) (fun _ _ _ _ _ hl => lv_iconst (v := nI 2) hx hb d_La_law_924 (by decide)) ?_
  refine gs (pc' := 926) (fun _ _ _ _ _ hl => lv_iadd hx hb d_La_law_925) ?_
  refine g_eqi (show (nI i) + (nI 2) = nI (i + 2) from nI_add _ _) ?_
  refine g_sld hx hb hX hbl hbA (show vp_in (nI (i + 2)) n from vp_in_nI (by omega) (by omega)) d_La_law_926 ?_
  rw [nI_clamp (by omega)]
  refine g_eqi (show xs (i + 2) = iI ((xs (i + 2)).toInt) from ti_e _) ?_
  refine gs (pc' := 928) (fun _ _ _ _ _ hl => lv_aload_n hx hb d_La_law_927 rfl (lv_at hl 4 rfl)) ?_
  refine gs (pc' := 930) (fun _ _ _ _ _ hl => lv_iload hx hb d_La_law_928 (lv_at hl 0 rfl)) ?_
  refine gs (pc' := 931) (fun _ _ _ _ _ hl => lv_iconst (v := nI 3) hx hb d_La_law_930 (by decide)) ?_
  refine gs (pc' := 932) (fun _ _ _ _ _ hl => lv_iadd hx hb d_La_law_931) ?_
  refine g_eqi (show (nI i) + (nI 3) = nI (i + 3) from nI_add _ _) ?_
  refine g_sld hx hb hX hbl hbA (show vp_in (nI (i + 3)) n from vp_in_nI (by omega) (by omega)) d_La_law_932 ?_
  rw [nI_clamp (by omega)]
  refine g_eqi (show xs (i + 3) = iI ((xs (i + 3)).toInt) from ti_e _) ?_
  refine gs (pc' := 934) (fun _ _ _ _ _ hl => lv_aload_n hx hb d_La_law_933 rfl (lv_at hl 1 rfl)) ?_
  refine g_outi hlo (g_runSW (n := 5) (As := [.ref a.x, .int (iI ((xs (i + 1)).toInt)), .int (iI ((xs (i + 2)).toInt)), .int (iI ((xs (i + 3)).toInt)), .ref ao]) (rest := []) ⟨hx, hb, hml, hown, hts⟩ hK hZ hRc hRs (c_La_corner l D cA lo MC MS G B X a S F V hC hW ao of hao ((xs (i + 1)).toInt) (ti_1 _) (ti_2 _) ((xs (i + 2)).toInt) (ti_1 _) (ti_2 _) ((xs (i + 3)).toInt) (ti_1 _) (ti_2 _) hY1 hY2 hfl) rfl (tb_good (tb_cons wm665 (tb_cons wm666 (tb_cons wm0 k_La_corner)))) (by decide +kernel) ⟨by rw [hRf]; exact Nat.le_of_ble_eq_true rfl, by rw [hRl]; exact Nat.le_of_ble_eq_true rfl⟩ hB1 hB2 rfl (Nat.le_of_ble_eq_true rfl) d_La_law_934) (fun r_4 G_1 B_2 p_3 => ?_)
  obtain ⟨hr9, hC9, ⟨of1, ho1, ho2⟩, hf9⟩ := p_3
  obtain ⟨kd, hkd⟩ : ∃ y9 : Nat, y9 = (sp_corner S (iI ((xs (i + 1)).toInt)) (iI ((xs (i + 2)).toInt)) (iI ((xs (i + 3)).toInt))).1 := ⟨_, rfl⟩
  rw [← hkd] at hr9 ho2
  subst hr9
  have hkb : kd ≤ 2 := by
    rw [hkd]
    rcases ka_corner (S := S) (p0 := iI ((xs (i + 1)).toInt)) (p1 := iI ((xs (i + 2)).toInt)) (p2 := iI ((xs (i + 3)).toInt)) with h9 | ⟨h9, -⟩ <;> rw [h9] <;> decide
  have hle9 := CW3_le hC9
  have hb91 : B_2.1 ≤ MC := Nat.le_trans hle9.1 hY1
  have hb92 : B_2.2 ≤ MS := Nat.le_trans hle9.2 hY2
  have hV9 : MW cA hm A S th none none none G_1 := MW_fr hV hf9 (fun x h8 h9 q9 => by omega)
  have hhm9 : G_1 hm = some (70, .inr (9, hobm)) := hf9 _ _ hhm (show ¬ ((70 : Nat) < 70 ∨ (70 : Nat) = 90) by decide)
  refine gst (pc' := 939) (L' := [(5, .int (nI kd)), (4, .int (nI i)), (3, .ref ao), (2, .ref hm), (1, .ref a.x), (0, .ref b)]) (fun _ _ _ _ _ hl => lv_istore hx hb d_La_law_937 hl (by decide) rfl) ?_
  refine gs (pc' := 940) (fun _ _ _ _ _ hl => lv_aload_n hx hb d_La_law_939 rfl (lv_at hl 3 rfl)) ?_
  refine gs (pc' := 941) (fun _ _ _ _ _ hl => lv_aload_n hx hb d_La_law_940 rfl (lv_at hl 5 rfl)) ?_
  refine gs (pc' := 943) (fun _ _ _ _ _ hl => lv_iload hx hb d_La_law_941 (lv_at hl 1 rfl)) ?_
  refine gs (pc' := 944) (fun _ _ _ _ _ hl => lv_iconst (v := nI 1) hx hb d_La_law_943 (by decide)) ?_
  refine gs (pc' := 945) (fun _ _ _ _ _ hl => lv_iadd hx hb d_La_law_944) ?_
  refine g_eqi (show (nI i) + (nI 1) = nI (i + 1) from nI_add _ _) ?_
  refine g_sld hx hb hX hbl hbA (show vp_in (nI (i + 1)) n from vp_in_nI (by omega) (by omega)) d_La_law_945 ?_
  rw [nI_clamp (by omega)]
  refine g_eqi (show xs (i + 1) = iI ((xs (i + 1)).toInt) from ti_e _) ?_
  refine gs (pc' := 947) (fun _ _ _ _ _ hl => lv_aload_n hx hb d_La_law_946 rfl (lv_at hl 5 rfl)) ?_
  refine gs (pc' := 949) (fun _ _ _ _ _ hl => lv_iload hx hb d_La_law_947 (lv_at hl 1 rfl)) ?_
  refine gs (pc' := 950) (fun _ _ _ _ _ hl => lv_iconst (v := nI 2) hx hb d_La_law_949 (by decide)) ?_
  refine gs (pc' := 951) (fun _ _ _ _ _ hl => lv_iadd hx hb d_La_law_950) ?_
  refine g_eqi (show (nI i) + (nI 2) = nI (i + 2) from nI_add _ _) ?_
  refine g_sld hx hb hX hbl hbA (show vp_in (nI (i + 2)) n from vp_in_nI (by omega) (by omega)) d_La_law_951 ?_
  rw [nI_clamp (by omega)]
  refine g_eqi (show xs (i + 2) = iI ((xs (i + 2)).toInt) from ti_e _) ?_
  refine gs (pc' := 953) (fun _ _ _ _ _ hl => lv_aload_n hx hb d_La_law_952 rfl (lv_at hl 5 rfl)) ?_
  refine gs (pc' := 955) (fun _ _ _ _ _ hl => lv_iload hx hb d_La_law_953 (lv_at hl 1 rfl)) ?_
  refine gs (pc' := 956) (fun _ _ _ _ _ hl => lv_iconst (v := nI 3) hx hb d_La_law_955 (by decide)) ?_
  refine gs (pc' := 957) (fun _ _ _ _ _ hl => lv_iadd hx hb d_La_law_956) ?_
  refine g_eqi (show (nI i) + (nI 3) = nI (i + 3) from nI_add _ _) ?_
  refine g_sld hx hb hX hbl hbA (show vp_in (nI (i + 3)) n from vp_in_nI (by omega) (by omega)) d_La_law_957 ?_
  rw [nI_clamp (by omega)]
  refine g_eqi (show xs (i + 3) = iI ((xs (i + 3)).toInt) from ti_e _) ?_
  refine g_outi hlo (g_runV (As := [.int (iI ((xs (i + 1)).toInt)), .int (iI ((xs (i + 2)).toInt)), .int (iI ((xs (i + 3)).toInt))]) (rest := []) ⟨hx, hb, hml, hown, hts⟩ hK hZ hRc hRs (c_Mo_corner l D cA lo MC MS G_1 B_2 hm A S th none none none hV9 hW ((xs (i + 1)).toInt) (ti_1 _) (ti_2 _) ((xs (i + 2)).toInt) (ti_1 _) (ti_2 _) ((xs (i + 3)).toInt) (ti_1 _) (ti_2 _) hb91 hb92) (fun _ _ => cwV 3 hts (tb_good (tb_cons wm980 (tb_cons wm981 (tb_cons wm982 (tb_cons wm12 k_Mo_corner))))) rfl rfl rfl (by decide +kernel) ⟨by rw [hRf]; exact Nat.le_of_ble_eq_true rfl, by rw [hRl]; exact Nat.le_of_ble_eq_true rfl⟩) hhm9 rfl hb91 hb92 rfl (Nat.le_of_ble_eq_true rfl) d_La_law_958) (fun r_8 G_5 B_6 p_7 => ?_)
  obtain ⟨e9, hr8, hV8, hf8⟩ := p_7
  have e8 : B_2 = B_6 := e9.symm
  subst e8
  rw [← hkd] at hr8 hV8
  have hC8 := CW3_up hC9 hf8 (fun x h9 => h9.1)
  have ho8 : G_5 ao = some (90, .inl (cA 1, 1, .inr (.inl of1))) := hf8 _ _ ho1 (show ¬ (70 ≤ (90 : Nat) ∧ (90 : Nat) < 90) by decide)
  obtain ⟨hob8, hhm8⟩ : ∃ o9, G_5 hm = some (70, .inr (9, o9)) := by obtain ⟨_, _, _, _, _, _, _, h9, -⟩ := hV8; exact ⟨_, h9⟩
  refine gst (pc' := 963) (L' := [(6, .int r_8), (5, .int (nI kd)), (4, .int (nI i)), (3, .ref ao), (2, .ref hm), (1, .ref a.x), (0, .ref b)]) (fun _ _ _ _ _ hl => lv_istore hx hb d_La_law_961 hl (by decide) rfl) ?_
  refine gs (pc' := 964) (fun _ _ _ _ _ hl => lv_aload_n hx hb d_La_law_963 rfl (lv_at hl 4 rfl)) ?_
  refine g_outi hlo (g_runV (As := []) (rest := []) ⟨hx, hb, hml, hown, hts⟩ hK hZ hRc hRs (c_Mo_thrown l D cA lo MC MS G_5 B_2 hm A _ kd none none none hV8 (corner_ok hW) hb91 hb92) (fun _ _ => cwV 0 hts (tb_good (tb_cons wm821 (tb_cons wm822 (tb_cons wm823 (tb_cons wm12 k_Mo_thrown))))) rfl rfl rfl (by decide +kernel) ⟨by rw [hRf]; exact Nat.le_of_ble_eq_true rfl, by rw [hRl]; exact Nat.le_of_ble_eq_true rfl⟩) hhm8 rfl hb91 hb92 rfl (Nat.le_of_ble_eq_true rfl) d_La_law_964) (fun r_12 G_9 B_10 p_11 => ?_)
  obtain ⟨e7, hr7⟩ := p_11
  cases e7
  subst hr7
  refine gs (pc' := 969) (fun _ _ _ _ _ hl => lv_iload hx hb d_La_law_967 (lv_at hl 1 rfl)) ?_
  refine gsb (pc1 := 974) (pc2 := 972) (fun _ _ _ _ _ => lv_icmp_eq (tgt := 974) hx hb d_La_law_969 (by decide)) (fun c_13 => ?_) (fun c_13 => ?_)
  · skip
    have nc_13 : kd = kd := (nn_eq (a := kd) (b := kd) (by omega) (by omega)).1 c_13
    refine gs (pc' := 976) (fun _ _ _ _ _ hl => lv_iload hx hb d_La_law_974 (lv_at hl 1 rfl)) ?_
    refine gsb (pc1 := 991) (pc2 := 979) (fun _ _ _ _ _ => lv_if_ne (tgt := 991) hx hb d_La_law_976 (by decide)) (fun c_14 => ?_) (fun c_14 => ?_)
    · skip
      have nc_14 : kd ≠ 0 := (n0_ne (a := kd) (by omega)).1 c_14
      refine gs (pc' := 1286) (fun _ _ _ _ _ hl => lv_goto (tgt := 1286) hx hb d_La_law_991 (by decide)) ?_
      refine gsub [2, 3, 4, 5, 6] rfl ?_
      exact hnext _ kd of1 G_5 B_2 (corner_ok hW) hC8 hV8 ho8
    · skip
      have nc_14 : kd = 0 := (n0_ne (a := kd) (by omega)).2 c_14
      have hr6 := hr8 nc_14
      have ho6 := ho2 nc_14
      subst hr6
      refine gs (pc' := 980) (fun _ _ _ _ _ hl => lv_aload_n hx hb d_La_law_979 rfl (lv_at hl 3 rfl)) ?_
      refine gs (pc' := 981) (fun _ _ _ _ _ hl => lv_iconst (v := nI 0) hx hb d_La_law_980 (by decide)) ?_
      refine g_lald hx hb hK 1 ho8 rfl (show vp_in (nI 0) 1 from vp_in_nI (by omega) (by omega)) d_La_law_981 ?_
      refine g_eql (show of1 (nI 0).toNatClampNeg = of1 0 from by rw [nI_clamp (by omega)]) ?_
      refine g_eql (show of1 0 = (iI (sp_corner S (iI ((xs (i + 1)).toInt)) (iI ((xs (i + 2)).toInt)) (iI ((xs (i + 3)).toInt))).2.1).toInt64 from ho6) ?_
      refine gs (pc' := 984) (fun _ _ _ _ _ hl => lv_iload hx hb d_La_law_982 (lv_at hl 0 rfl)) ?_
      refine gs (pc' := 985) (fun _ _ _ _ _ hl => lv_i2l (v := (iI (sp_corner S (iI ((xs (i + 1)).toInt)) (iI ((xs (i + 2)).toInt)) (iI ((xs (i + 3)).toInt))).2.1).toInt64) hx hb d_La_law_984 (rfl)) ?_
      refine gs (pc' := 986) (fun _ _ _ _ _ hl => W.lcmp hx hb d_La_law_985) ?_
      refine g_eqi (show lg_cmp ((iI (sp_corner S (iI ((xs (i + 1)).toInt)) (iI ((xs (i + 2)).toInt)) (iI ((xs (i + 3)).toInt))).2.1).toInt64) ((iI (sp_corner S (iI ((xs (i + 1)).toInt)) (iI ((xs (i + 2)).toInt)) (iI ((xs (i + 3)).toInt))).2.1).toInt64) = nI 0 from cmp_s _) ?_
      refine gsb (pc1 := 991) (pc2 := 989) (fun _ _ _ _ _ => lv_if_eq (tgt := 991) hx hb d_La_law_986 (by decide)) (fun c_15 => ?_) (fun c_15 => ?_)
      · skip
        have nc_15 : 0 = 0 := (n0_eq (a := 0) (by omega)).1 c_15
        refine gs (pc' := 1286) (fun _ _ _ _ _ hl => lv_goto (tgt := 1286) hx hb d_La_law_991 (by decide)) ?_
        refine gsub [2, 3, 4, 5, 6] rfl ?_
        exact hnext _ kd of1 G_5 B_2 (corner_ok hW) hC8 hV8 ho8
      · skip
        have nc_15 : 0 ≠ 0 := (n0_eq (a := 0) (by omega)).2 c_15
        exact absurd nc_15 (by decide)
  · skip
    have nc_13 : kd ≠ kd := (nn_eq (a := kd) (b := kd) (by omega) (by omega)).2 c_13
    exact absurd rfl nc_13
set_option maxHeartbeats 4000000 in
set_option maxRecDepth 100000 in
theorem law_at {p : Program} {l : Launch} {e : Env} {R : Room} {s : State} {m : MethodId} {args : Array Value} {below : List Frame} {meth : Method} {c : Code} {Q : State → Prop} {D : va_G} {cA : Nat → ClassId} {lo MC MS b n : Nat} {xs : Nat → Int32} (h0 : LC p l R s m args c D cA lo MC MS b n xs) (i : Nat) (hi : i + 6 ≤ n) (X : Nat × Nat) (a : AX) (S : St) (hm : Nat) (A : Nat → Nat) (th ao : Nat) (of : Nat → Int64) (G : gT) (B : Nat × Nat) (hC3 : CW3 cA X a S (G, B)) (hW : WF S) (hV : MW cA hm A S th none none none G) (hao : G ao = some (90, .inl (cA 1, 1, .inr (.inl of)))) (hY1 : X.1 + 6 ≤ MC) (hY2 : X.2 + 209 ≤ MS) (hnext : ∀ (S1 : St) (th1 : Nat) (of1 : Nat → Int64) (G1 : gT) (B1 : Nat × Nat), WF S1 → CW3 cA (X.1 + 6, X.2 + 209) a S1 (G1, B1) → MW cA hm A S1 th1 none none none G1 → G1 ao = some (90, .inl (cA 1, 1, .inr (.inl of1))) → gV p l e R s m args below meth c D clS lo 8 Q 1286 [(4, .int (nI i)), (3, .ref ao), (2, .ref hm), (1, .ref a.x), (0, .ref b)] [] G1 B1) : gV p l e R s m args below meth c D clS lo 8 Q 994 [(4, .int (nI i)), (3, .ref ao), (2, .ref hm), (1, .ref a.x), (0, .ref b)] [] G B := by
  obtain ⟨hx, hb, hml, hown, hts, hK, hlo, hZ, hRc, hRs, hRf, hRl, hX, hbl, hbA, hn, hfl⟩ := h0
  obtain ⟨F, V, hC⟩ := hC3
  have hle0 := w2_le hC.w
  have hB1 : B.1 ≤ MC := by omega
  have hB2 : B.2 ≤ MS := by omega
  have hax : G a.x = some (31, .inr (8, [.ref a.vs, .int (nI S.n), .ref a.rs, .int (nI S.rn), .ref a.ws, .ref a.ca, .ref (a.fr 0), .ref (a.fr 1), .ref (a.fr 2), .ref (a.fr 3), .ref a.zr, .ref a.fo, .ref a.ha, .ref a.si])) := hC.ob
  obtain ⟨hobm, hhm⟩ : ∃ o9, G hm = some (70, .inr (9, o9)) := by obtain ⟨_, _, _, _, _, _, _, h9, -⟩ := hV; exact ⟨_, h9⟩
  refine gs (pc' := 995) (fun _ _ _ _ _ hl => lv_aload_n hx hb d_La_law_994 rfl (lv_at hl 3 rfl)) ?_
  refine gs (pc' := 996) (fun _ _ _ _ _ hl => lv_aload_n hx hb d_La_law_995 rfl (lv_at hl 4 rfl)) ?_
  refine gs (pc' := 998) (fun _ _ _ _ _ hl => lv_iload hx hb d_La_law_996 (lv_at hl 0 rfl)) ?_
  refine gs (pc' := 999) (fun _ _ _ _ _ hl => lv_iconst (v := nI 1) hx hb d_La_law_998 (by decide)) ?_
  refine gs (pc' := 1000) (fun _ _ _ _ _ hl => lv_iadd hx hb d_La_law_999) ?_
  refine g_eqi (show (nI i) + (nI 1) = nI (i + 1) from nI_add _ _) ?_
  refine g_sld hx hb hX hbl hbA (show vp_in (nI (i + 1)) n from vp_in_nI (by omega) (by omega)) d_La_law_1000 ?_
  rw [nI_clamp (by omega)]
  refine g_eqi (show xs (i + 1) = iI ((xs (i + 1)).toInt) from ti_e _) ?_
  refine gs (pc' := 1002) (fun _ _ _ _ _ hl => lv_aload_n hx hb d_La_law_1001 rfl (lv_at hl 4 rfl)) ?_
  refine gs (pc' := 1004) (fun _ _ _ _ _ hl => lv_iload hx hb d_La_law_1002 (lv_at hl 0 rfl)) ?_
  refine gs (pc' := 1005) (fun _ _ _ _ _ hl => lv_iconst (v := nI 2) hx hb d_La_law_1004 (by decide)) ?_
  refine gs (pc' := 1006) (fun _ _ _ _ _ hl => lv_iadd hx hb d_La_law_1005) ?_
  refine g_eqi (show (nI i) + (nI 2) = nI (i + 2) from nI_add _ _) ?_
  refine g_sld hx hb hX hbl hbA (show vp_in (nI (i + 2)) n from vp_in_nI (by omega) (by omega)) d_La_law_1006 ?_
  rw [nI_clamp (by omega)]
  refine g_eqi (show xs (i + 2) = iI ((xs (i + 2)).toInt) from ti_e _) ?_
  refine gs (pc' := 1008) (fun _ _ _ _ _ hl => lv_aload_n hx hb d_La_law_1007 rfl (lv_at hl 1 rfl)) ?_
  refine g_outi hlo (g_runSW (n := 4) (As := [.ref a.x, .int (iI ((xs (i + 1)).toInt)), .int (iI ((xs (i + 2)).toInt)), .ref ao]) (rest := []) ⟨hx, hb, hml, hown, hts⟩ hK hZ hRc hRs (c_La_at l D cA lo MC MS G B X a S F V hC hW ao of hao ((xs (i + 1)).toInt) (ti_1 _) (ti_2 _) ((xs (i + 2)).toInt) (ti_1 _) (ti_2 _) hY1 hY2 hfl) rfl (tb_good (tb_cons wm681 (tb_cons wm682 (tb_cons wm0 k_La_at)))) (by decide +kernel) ⟨by rw [hRf]; exact Nat.le_of_ble_eq_true rfl, by rw [hRl]; exact Nat.le_of_ble_eq_true rfl⟩ hB1 hB2 rfl (Nat.le_of_ble_eq_true rfl) d_La_law_1008) (fun r_4 G_1 B_2 p_3 => ?_)
  obtain ⟨hr9, hC9, ⟨of1, ho1, ho2⟩, hf9⟩ := p_3
  obtain ⟨kd, hkd⟩ : ∃ y9 : Nat, y9 = (sp_at S (iI ((xs (i + 1)).toInt)) (iI ((xs (i + 2)).toInt))).1 := ⟨_, rfl⟩
  rw [← hkd] at hr9 ho2
  subst hr9
  have hkb : kd ≤ 2 := by
    rw [hkd]
    rcases ka_at (S := S) (p0 := iI ((xs (i + 1)).toInt)) (p1 := iI ((xs (i + 2)).toInt)) with h9 | ⟨h9, -⟩ <;> rw [h9] <;> decide
  have hle9 := CW3_le hC9
  have hb91 : B_2.1 ≤ MC := Nat.le_trans hle9.1 hY1
  have hb92 : B_2.2 ≤ MS := Nat.le_trans hle9.2 hY2
  have hV9 : MW cA hm A S th none none none G_1 := MW_fr hV hf9 (fun x h8 h9 q9 => by omega)
  have hhm9 : G_1 hm = some (70, .inr (9, hobm)) := hf9 _ _ hhm (show ¬ ((70 : Nat) < 70 ∨ (70 : Nat) = 90) by decide)
  refine gst (pc' := 1013) (L' := [(5, .int (nI kd)), (4, .int (nI i)), (3, .ref ao), (2, .ref hm), (1, .ref a.x), (0, .ref b)]) (fun _ _ _ _ _ hl => lv_istore hx hb d_La_law_1011 hl (by decide) rfl) ?_
  refine gs (pc' := 1014) (fun _ _ _ _ _ hl => lv_aload_n hx hb d_La_law_1013 rfl (lv_at hl 3 rfl)) ?_
  refine gs (pc' := 1015) (fun _ _ _ _ _ hl => lv_aload_n hx hb d_La_law_1014 rfl (lv_at hl 5 rfl)) ?_
  refine gs (pc' := 1017) (fun _ _ _ _ _ hl => lv_iload hx hb d_La_law_1015 (lv_at hl 1 rfl)) ?_
  refine gs (pc' := 1018) (fun _ _ _ _ _ hl => lv_iconst (v := nI 1) hx hb d_La_law_1017 (by decide)) ?_
  refine gs (pc' := 1019) (fun _ _ _ _ _ hl => lv_iadd hx hb d_La_law_1018) ?_
  refine g_eqi (show (nI i) + (nI 1) = nI (i + 1) from nI_add _ _) ?_
  refine g_sld hx hb hX hbl hbA (show vp_in (nI (i + 1)) n from vp_in_nI (by omega) (by omega)) d_La_law_1019 ?_
  rw [nI_clamp (by omega)]
  refine g_eqi (show xs (i + 1) = iI ((xs (i + 1)).toInt) from ti_e _) ?_
  refine gs (pc' := 1021) (fun _ _ _ _ _ hl => lv_aload_n hx hb d_La_law_1020 rfl (lv_at hl 5 rfl)) ?_
  refine gs (pc' := 1023) (fun _ _ _ _ _ hl => lv_iload hx hb d_La_law_1021 (lv_at hl 1 rfl)) ?_
  refine gs (pc' := 1024) (fun _ _ _ _ _ hl => lv_iconst (v := nI 2) hx hb d_La_law_1023 (by decide)) ?_
  refine gs (pc' := 1025) (fun _ _ _ _ _ hl => lv_iadd hx hb d_La_law_1024) ?_
  refine g_eqi (show (nI i) + (nI 2) = nI (i + 2) from nI_add _ _) ?_
  refine g_sld hx hb hX hbl hbA (show vp_in (nI (i + 2)) n from vp_in_nI (by omega) (by omega)) d_La_law_1025 ?_
  rw [nI_clamp (by omega)]
  refine g_eqi (show xs (i + 2) = iI ((xs (i + 2)).toInt) from ti_e _) ?_
  refine g_outi hlo (g_runV (As := [.int (iI ((xs (i + 1)).toInt)), .int (iI ((xs (i + 2)).toInt))]) (rest := []) ⟨hx, hb, hml, hown, hts⟩ hK hZ hRc hRs (c_Mo_at l D cA lo MC MS G_1 B_2 hm A S th none none none hV9 hW ((xs (i + 1)).toInt) (ti_1 _) (ti_2 _) ((xs (i + 2)).toInt) (ti_1 _) (ti_2 _) hb91 hb92) (fun _ _ => cwV 2 hts (tb_good (tb_cons wm988 (tb_cons wm989 (tb_cons wm990 (tb_cons wm12 k_Mo_at))))) rfl rfl rfl (by decide +kernel) ⟨by rw [hRf]; exact Nat.le_of_ble_eq_true rfl, by rw [hRl]; exact Nat.le_of_ble_eq_true rfl⟩) hhm9 rfl hb91 hb92 rfl (Nat.le_of_ble_eq_true rfl) d_La_law_1026) (fun r_8 G_5 B_6 p_7 => ?_)
  obtain ⟨e9, hr8, hV8, hf8⟩ := p_7
  have e8 : B_2 = B_6 := e9.symm
  subst e8
  rw [← hkd] at hr8 hV8
  have hC8 := CW3_up hC9 hf8 (fun x h9 => h9.1)
  have ho8 : G_5 ao = some (90, .inl (cA 1, 1, .inr (.inl of1))) := hf8 _ _ ho1 (show ¬ (70 ≤ (90 : Nat) ∧ (90 : Nat) < 90) by decide)
  obtain ⟨hob8, hhm8⟩ : ∃ o9, G_5 hm = some (70, .inr (9, o9)) := by obtain ⟨_, _, _, _, _, _, _, h9, -⟩ := hV8; exact ⟨_, h9⟩
  refine gst (pc' := 1031) (L' := [(6, .int r_8), (5, .int (nI kd)), (4, .int (nI i)), (3, .ref ao), (2, .ref hm), (1, .ref a.x), (0, .ref b)]) (fun _ _ _ _ _ hl => lv_istore hx hb d_La_law_1029 hl (by decide) rfl) ?_
  refine gs (pc' := 1032) (fun _ _ _ _ _ hl => lv_aload_n hx hb d_La_law_1031 rfl (lv_at hl 4 rfl)) ?_
  refine g_outi hlo (g_runV (As := []) (rest := []) ⟨hx, hb, hml, hown, hts⟩ hK hZ hRc hRs (c_Mo_thrown l D cA lo MC MS G_5 B_2 hm A _ kd none none none hV8 (at_ok hW) hb91 hb92) (fun _ _ => cwV 0 hts (tb_good (tb_cons wm821 (tb_cons wm822 (tb_cons wm823 (tb_cons wm12 k_Mo_thrown))))) rfl rfl rfl (by decide +kernel) ⟨by rw [hRf]; exact Nat.le_of_ble_eq_true rfl, by rw [hRl]; exact Nat.le_of_ble_eq_true rfl⟩) hhm8 rfl hb91 hb92 rfl (Nat.le_of_ble_eq_true rfl) d_La_law_1032) (fun r_12 G_9 B_10 p_11 => ?_)
  obtain ⟨e7, hr7⟩ := p_11
  cases e7
  subst hr7
  refine gs (pc' := 1037) (fun _ _ _ _ _ hl => lv_iload hx hb d_La_law_1035 (lv_at hl 1 rfl)) ?_
  refine gsb (pc1 := 1042) (pc2 := 1040) (fun _ _ _ _ _ => lv_icmp_eq (tgt := 1042) hx hb d_La_law_1037 (by decide)) (fun c_13 => ?_) (fun c_13 => ?_)
  · skip
    have nc_13 : kd = kd := (nn_eq (a := kd) (b := kd) (by omega) (by omega)).1 c_13
    refine gs (pc' := 1044) (fun _ _ _ _ _ hl => lv_iload hx hb d_La_law_1042 (lv_at hl 1 rfl)) ?_
    refine gsb (pc1 := 1059) (pc2 := 1047) (fun _ _ _ _ _ => lv_if_ne (tgt := 1059) hx hb d_La_law_1044 (by decide)) (fun c_14 => ?_) (fun c_14 => ?_)
    · skip
      have nc_14 : kd ≠ 0 := (n0_ne (a := kd) (by omega)).1 c_14
      refine gs (pc' := 1286) (fun _ _ _ _ _ hl => lv_goto (tgt := 1286) hx hb d_La_law_1059 (by decide)) ?_
      refine gsub [2, 3, 4, 5, 6] rfl ?_
      exact hnext _ kd of1 G_5 B_2 (at_ok hW) hC8 hV8 ho8
    · skip
      have nc_14 : kd = 0 := (n0_ne (a := kd) (by omega)).2 c_14
      have hr6 := hr8 nc_14
      have ho6 := ho2 nc_14
      subst hr6
      refine gs (pc' := 1048) (fun _ _ _ _ _ hl => lv_aload_n hx hb d_La_law_1047 rfl (lv_at hl 3 rfl)) ?_
      refine gs (pc' := 1049) (fun _ _ _ _ _ hl => lv_iconst (v := nI 0) hx hb d_La_law_1048 (by decide)) ?_
      refine g_lald hx hb hK 1 ho8 rfl (show vp_in (nI 0) 1 from vp_in_nI (by omega) (by omega)) d_La_law_1049 ?_
      refine g_eql (show of1 (nI 0).toNatClampNeg = of1 0 from by rw [nI_clamp (by omega)]) ?_
      refine g_eql (show of1 0 = (iI (sp_at S (iI ((xs (i + 1)).toInt)) (iI ((xs (i + 2)).toInt))).2.1).toInt64 from ho6) ?_
      refine gs (pc' := 1052) (fun _ _ _ _ _ hl => lv_iload hx hb d_La_law_1050 (lv_at hl 0 rfl)) ?_
      refine gs (pc' := 1053) (fun _ _ _ _ _ hl => lv_i2l (v := (iI (sp_at S (iI ((xs (i + 1)).toInt)) (iI ((xs (i + 2)).toInt))).2.1).toInt64) hx hb d_La_law_1052 (rfl)) ?_
      refine gs (pc' := 1054) (fun _ _ _ _ _ hl => W.lcmp hx hb d_La_law_1053) ?_
      refine g_eqi (show lg_cmp ((iI (sp_at S (iI ((xs (i + 1)).toInt)) (iI ((xs (i + 2)).toInt))).2.1).toInt64) ((iI (sp_at S (iI ((xs (i + 1)).toInt)) (iI ((xs (i + 2)).toInt))).2.1).toInt64) = nI 0 from cmp_s _) ?_
      refine gsb (pc1 := 1059) (pc2 := 1057) (fun _ _ _ _ _ => lv_if_eq (tgt := 1059) hx hb d_La_law_1054 (by decide)) (fun c_15 => ?_) (fun c_15 => ?_)
      · skip
        have nc_15 : 0 = 0 := (n0_eq (a := 0) (by omega)).1 c_15
        refine gs (pc' := 1286) (fun _ _ _ _ _ hl => lv_goto (tgt := 1286) hx hb d_La_law_1059 (by decide)) ?_
        refine gsub [2, 3, 4, 5, 6] rfl ?_
        exact hnext _ kd of1 G_5 B_2 (at_ok hW) hC8 hV8 ho8
      · skip
        have nc_15 : 0 ≠ 0 := (n0_eq (a := 0) (by omega)).2 c_15
        exact absurd nc_15 (by decide)
  · skip
    have nc_13 : kd ≠ kd := (nn_eq (a := kd) (b := kd) (by omega) (by omega)).2 c_13
    exact absurd rfl nc_13
set_option maxHeartbeats 4000000 in
set_option maxRecDepth 100000 in
theorem law_area {p : Program} {l : Launch} {e : Env} {R : Room} {s : State} {m : MethodId} {args : Array Value} {below : List Frame} {meth : Method} {c : Code} {Q : State → Prop} {D : va_G} {cA : Nat → ClassId} {lo MC MS b n : Nat} {xs : Nat → Int32} (h0 : LC p l R s m args c D cA lo MC MS b n xs) (i : Nat) (hi : i + 6 ≤ n) (X : Nat × Nat) (a : AX) (S : St) (hm : Nat) (A : Nat → Nat) (th ao : Nat) (of : Nat → Int64) (G : gT) (B : Nat × Nat) (hC3 : CW3 cA X a S (G, B)) (hW : WF S) (hV : MW cA hm A S th none none none G) (hao : G ao = some (90, .inl (cA 1, 1, .inr (.inl of)))) (hY1 : X.1 + 6 ≤ MC) (hY2 : X.2 + 209 ≤ MS) (hnext : ∀ (S1 : St) (th1 : Nat) (of1 : Nat → Int64) (G1 : gT) (B1 : Nat × Nat), WF S1 → CW3 cA (X.1 + 6, X.2 + 209) a S1 (G1, B1) → MW cA hm A S1 th1 none none none G1 → G1 ao = some (90, .inl (cA 1, 1, .inr (.inl of1))) → gV p l e R s m args below meth c D clS lo 8 Q 1286 [(4, .int (nI i)), (3, .ref ao), (2, .ref hm), (1, .ref a.x), (0, .ref b)] [] G1 B1) : gV p l e R s m args below meth c D clS lo 8 Q 1062 [(4, .int (nI i)), (3, .ref ao), (2, .ref hm), (1, .ref a.x), (0, .ref b)] [] G B := by
  obtain ⟨hx, hb, hml, hown, hts, hK, hlo, hZ, hRc, hRs, hRf, hRl, hX, hbl, hbA, hn, hfl⟩ := h0
  obtain ⟨F, V, hC⟩ := hC3
  have hle0 := w2_le hC.w
  have hB1 : B.1 ≤ MC := by omega
  have hB2 : B.2 ≤ MS := by omega
  have hax : G a.x = some (31, .inr (8, [.ref a.vs, .int (nI S.n), .ref a.rs, .int (nI S.rn), .ref a.ws, .ref a.ca, .ref (a.fr 0), .ref (a.fr 1), .ref (a.fr 2), .ref (a.fr 3), .ref a.zr, .ref a.fo, .ref a.ha, .ref a.si])) := hC.ob
  obtain ⟨hobm, hhm⟩ : ∃ o9, G hm = some (70, .inr (9, o9)) := by obtain ⟨_, _, _, _, _, _, _, h9, -⟩ := hV; exact ⟨_, h9⟩
  refine gs (pc' := 1063) (fun _ _ _ _ _ hl => lv_aload_n hx hb d_La_law_1062 rfl (lv_at hl 3 rfl)) ?_
  refine gs (pc' := 1064) (fun _ _ _ _ _ hl => lv_aload_n hx hb d_La_law_1063 rfl (lv_at hl 4 rfl)) ?_
  refine gs (pc' := 1066) (fun _ _ _ _ _ hl => lv_iload hx hb d_La_law_1064 (lv_at hl 0 rfl)) ?_
  refine gs (pc' := 1067) (fun _ _ _ _ _ hl => lv_iconst (v := nI 1) hx hb d_La_law_1066 (by decide)) ?_
  refine gs (pc' := 1068) (fun _ _ _ _ _ hl => lv_iadd hx hb d_La_law_1067) ?_
  refine g_eqi (show (nI i) + (nI 1) = nI (i + 1) from nI_add _ _) ?_
  refine g_sld hx hb hX hbl hbA (show vp_in (nI (i + 1)) n from vp_in_nI (by omega) (by omega)) d_La_law_1068 ?_
  rw [nI_clamp (by omega)]
  refine g_eqi (show xs (i + 1) = iI ((xs (i + 1)).toInt) from ti_e _) ?_
  refine gs (pc' := 1070) (fun _ _ _ _ _ hl => lv_aload_n hx hb d_La_law_1069 rfl (lv_at hl 1 rfl)) ?_
  refine g_outi hlo (g_runSW (n := 3) (As := [.ref a.x, .int (iI ((xs (i + 1)).toInt)), .ref ao]) (rest := []) ⟨hx, hb, hml, hown, hts⟩ hK hZ hRc hRs (c_La_area l D cA lo MC MS G B X a S F V hC hW ao of hao ((xs (i + 1)).toInt) (ti_1 _) (ti_2 _) hY1 hY2 hfl) rfl (tb_good (tb_cons wm697 (tb_cons wm698 (tb_cons wm0 k_La_area)))) (by decide +kernel) ⟨by rw [hRf]; exact Nat.le_of_ble_eq_true rfl, by rw [hRl]; exact Nat.le_of_ble_eq_true rfl⟩ hB1 hB2 rfl (Nat.le_of_ble_eq_true rfl) d_La_law_1070) (fun r_4 G_1 B_2 p_3 => ?_)
  obtain ⟨hr9, hC9, ⟨of1, ho1, ho2⟩, hf9⟩ := p_3
  obtain ⟨kd, hkd⟩ : ∃ y9 : Nat, y9 = (sp_area S (iI ((xs (i + 1)).toInt))).1 := ⟨_, rfl⟩
  rw [← hkd] at hr9 ho2
  subst hr9
  have hkb : kd ≤ 2 := by
    rw [hkd]
    rcases ka_area (S := S) (p0 := iI ((xs (i + 1)).toInt)) with h9 | ⟨h9, -⟩ <;> rw [h9] <;> decide
  have hle9 := CW3_le hC9
  have hb91 : B_2.1 ≤ MC := Nat.le_trans hle9.1 hY1
  have hb92 : B_2.2 ≤ MS := Nat.le_trans hle9.2 hY2
  have hV9 : MW cA hm A S th none none none G_1 := MW_fr hV hf9 (fun x h8 h9 q9 => by omega)
  have hhm9 : G_1 hm = some (70, .inr (9, hobm)) := hf9 _ _ hhm (show ¬ ((70 : Nat) < 70 ∨ (70 : Nat) = 90) by decide)
  refine gst (pc' := 1075) (L' := [(5, .int (nI kd)), (4, .int (nI i)), (3, .ref ao), (2, .ref hm), (1, .ref a.x), (0, .ref b)]) (fun _ _ _ _ _ hl => lv_istore hx hb d_La_law_1073 hl (by decide) rfl) ?_
  refine gs (pc' := 1076) (fun _ _ _ _ _ hl => lv_aload_n hx hb d_La_law_1075 rfl (lv_at hl 3 rfl)) ?_
  refine gs (pc' := 1077) (fun _ _ _ _ _ hl => lv_aload_n hx hb d_La_law_1076 rfl (lv_at hl 5 rfl)) ?_
  refine gs (pc' := 1079) (fun _ _ _ _ _ hl => lv_iload hx hb d_La_law_1077 (lv_at hl 1 rfl)) ?_
  refine gs (pc' := 1080) (fun _ _ _ _ _ hl => lv_iconst (v := nI 1) hx hb d_La_law_1079 (by decide)) ?_
  refine gs (pc' := 1081) (fun _ _ _ _ _ hl => lv_iadd hx hb d_La_law_1080) ?_
  refine g_eqi (show (nI i) + (nI 1) = nI (i + 1) from nI_add _ _) ?_
  refine g_sld hx hb hX hbl hbA (show vp_in (nI (i + 1)) n from vp_in_nI (by omega) (by omega)) d_La_law_1081 ?_
  rw [nI_clamp (by omega)]
  refine g_eqi (show xs (i + 1) = iI ((xs (i + 1)).toInt) from ti_e _) ?_
  refine g_outi hlo (g_runV (As := [.int (iI ((xs (i + 1)).toInt))]) (rest := []) ⟨hx, hb, hml, hown, hts⟩ hK hZ hRc hRs (c_Mo_area l D cA lo MC MS G_1 B_2 hm A S th none none none hV9 hW ((xs (i + 1)).toInt) (ti_1 _) (ti_2 _) hb91 hb92) (fun _ _ => cwV 1 hts (tb_good (tb_cons wm1004 (tb_cons wm1005 (tb_cons wm1006 (tb_cons wm12 k_Mo_area))))) rfl rfl rfl (by decide +kernel) ⟨by rw [hRf]; exact Nat.le_of_ble_eq_true rfl, by rw [hRl]; exact Nat.le_of_ble_eq_true rfl⟩) hhm9 rfl hb91 hb92 rfl (Nat.le_of_ble_eq_true rfl) d_La_law_1082) (fun r_8 G_5 B_6 p_7 => ?_)
  obtain ⟨e9, hr8, hV8, hf8⟩ := p_7
  have e8 : B_2 = B_6 := e9.symm
  subst e8
  rw [← hkd] at hr8 hV8
  have hC8 := CW3_up hC9 hf8 (fun x h9 => h9.1)
  have ho8 : G_5 ao = some (90, .inl (cA 1, 1, .inr (.inl of1))) := hf8 _ _ ho1 (show ¬ (70 ≤ (90 : Nat) ∧ (90 : Nat) < 90) by decide)
  obtain ⟨hob8, hhm8⟩ : ∃ o9, G_5 hm = some (70, .inr (9, o9)) := by obtain ⟨_, _, _, _, _, _, _, h9, -⟩ := hV8; exact ⟨_, h9⟩
  refine gst (pc' := 1087) (L' := [(6, .int r_8), (5, .int (nI kd)), (4, .int (nI i)), (3, .ref ao), (2, .ref hm), (1, .ref a.x), (0, .ref b)]) (fun _ _ _ _ _ hl => lv_istore hx hb d_La_law_1085 hl (by decide) rfl) ?_
  refine gs (pc' := 1088) (fun _ _ _ _ _ hl => lv_aload_n hx hb d_La_law_1087 rfl (lv_at hl 4 rfl)) ?_
  refine g_outi hlo (g_runV (As := []) (rest := []) ⟨hx, hb, hml, hown, hts⟩ hK hZ hRc hRs (c_Mo_thrown l D cA lo MC MS G_5 B_2 hm A _ kd none none none hV8 (area_ok hW) hb91 hb92) (fun _ _ => cwV 0 hts (tb_good (tb_cons wm821 (tb_cons wm822 (tb_cons wm823 (tb_cons wm12 k_Mo_thrown))))) rfl rfl rfl (by decide +kernel) ⟨by rw [hRf]; exact Nat.le_of_ble_eq_true rfl, by rw [hRl]; exact Nat.le_of_ble_eq_true rfl⟩) hhm8 rfl hb91 hb92 rfl (Nat.le_of_ble_eq_true rfl) d_La_law_1088) (fun r_12 G_9 B_10 p_11 => ?_)
  obtain ⟨e7, hr7⟩ := p_11
  cases e7
  subst hr7
  refine gs (pc' := 1093) (fun _ _ _ _ _ hl => lv_iload hx hb d_La_law_1091 (lv_at hl 1 rfl)) ?_
  refine gsb (pc1 := 1098) (pc2 := 1096) (fun _ _ _ _ _ => lv_icmp_eq (tgt := 1098) hx hb d_La_law_1093 (by decide)) (fun c_13 => ?_) (fun c_13 => ?_)
  · skip
    have nc_13 : kd = kd := (nn_eq (a := kd) (b := kd) (by omega) (by omega)).1 c_13
    refine gs (pc' := 1100) (fun _ _ _ _ _ hl => lv_iload hx hb d_La_law_1098 (lv_at hl 1 rfl)) ?_
    refine gsb (pc1 := 1115) (pc2 := 1103) (fun _ _ _ _ _ => lv_if_ne (tgt := 1115) hx hb d_La_law_1100 (by decide)) (fun c_14 => ?_) (fun c_14 => ?_)
    · skip
      have nc_14 : kd ≠ 0 := (n0_ne (a := kd) (by omega)).1 c_14
      refine gs (pc' := 1286) (fun _ _ _ _ _ hl => lv_goto (tgt := 1286) hx hb d_La_law_1115 (by decide)) ?_
      refine gsub [2, 3, 4, 5, 6] rfl ?_
      exact hnext _ kd of1 G_5 B_2 (area_ok hW) hC8 hV8 ho8
    · skip
      have nc_14 : kd = 0 := (n0_ne (a := kd) (by omega)).2 c_14
      have hr6 := hr8 nc_14
      have ho6 := ho2 nc_14
      subst hr6
      refine gs (pc' := 1104) (fun _ _ _ _ _ hl => lv_aload_n hx hb d_La_law_1103 rfl (lv_at hl 3 rfl)) ?_
      refine gs (pc' := 1105) (fun _ _ _ _ _ hl => lv_iconst (v := nI 0) hx hb d_La_law_1104 (by decide)) ?_
      refine g_lald hx hb hK 1 ho8 rfl (show vp_in (nI 0) 1 from vp_in_nI (by omega) (by omega)) d_La_law_1105 ?_
      refine g_eql (show of1 (nI 0).toNatClampNeg = of1 0 from by rw [nI_clamp (by omega)]) ?_
      refine g_eql (show of1 0 = (iI (sp_area S (iI ((xs (i + 1)).toInt))).2.1).toInt64 from ho6) ?_
      refine gs (pc' := 1108) (fun _ _ _ _ _ hl => lv_iload hx hb d_La_law_1106 (lv_at hl 0 rfl)) ?_
      refine gs (pc' := 1109) (fun _ _ _ _ _ hl => lv_i2l (v := (iI (sp_area S (iI ((xs (i + 1)).toInt))).2.1).toInt64) hx hb d_La_law_1108 (rfl)) ?_
      refine gs (pc' := 1110) (fun _ _ _ _ _ hl => W.lcmp hx hb d_La_law_1109) ?_
      refine g_eqi (show lg_cmp ((iI (sp_area S (iI ((xs (i + 1)).toInt))).2.1).toInt64) ((iI (sp_area S (iI ((xs (i + 1)).toInt))).2.1).toInt64) = nI 0 from cmp_s _) ?_
      refine gsb (pc1 := 1115) (pc2 := 1113) (fun _ _ _ _ _ => lv_if_eq (tgt := 1115) hx hb d_La_law_1110 (by decide)) (fun c_15 => ?_) (fun c_15 => ?_)
      · skip
        have nc_15 : 0 = 0 := (n0_eq (a := 0) (by omega)).1 c_15
        refine gs (pc' := 1286) (fun _ _ _ _ _ hl => lv_goto (tgt := 1286) hx hb d_La_law_1115 (by decide)) ?_
        refine gsub [2, 3, 4, 5, 6] rfl ?_
        exact hnext _ kd of1 G_5 B_2 (area_ok hW) hC8 hV8 ho8
      · skip
        have nc_15 : 0 ≠ 0 := (n0_eq (a := 0) (by omega)).2 c_15
        exact absurd nc_15 (by decide)
  · skip
    have nc_13 : kd ≠ kd := (nn_eq (a := kd) (b := kd) (by omega) (by omega)).2 c_13
    exact absurd rfl nc_13
set_option maxHeartbeats 4000000 in
set_option maxRecDepth 100000 in
theorem law_weight {p : Program} {l : Launch} {e : Env} {R : Room} {s : State} {m : MethodId} {args : Array Value} {below : List Frame} {meth : Method} {c : Code} {Q : State → Prop} {D : va_G} {cA : Nat → ClassId} {lo MC MS b n : Nat} {xs : Nat → Int32} (h0 : LC p l R s m args c D cA lo MC MS b n xs) (i : Nat) (hi : i + 6 ≤ n) (X : Nat × Nat) (a : AX) (S : St) (hm : Nat) (A : Nat → Nat) (th ao : Nat) (of : Nat → Int64) (G : gT) (B : Nat × Nat) (hC3 : CW3 cA X a S (G, B)) (hW : WF S) (hV : MW cA hm A S th none none none G) (hao : G ao = some (90, .inl (cA 1, 1, .inr (.inl of)))) (hY1 : X.1 + 6 ≤ MC) (hY2 : X.2 + 209 ≤ MS) (hnext : ∀ (S1 : St) (th1 : Nat) (of1 : Nat → Int64) (G1 : gT) (B1 : Nat × Nat), WF S1 → CW3 cA (X.1 + 6, X.2 + 209) a S1 (G1, B1) → MW cA hm A S1 th1 none none none G1 → G1 ao = some (90, .inl (cA 1, 1, .inr (.inl of1))) → gV p l e R s m args below meth c D clS lo 8 Q 1286 [(4, .int (nI i)), (3, .ref ao), (2, .ref hm), (1, .ref a.x), (0, .ref b)] [] G1 B1) : gV p l e R s m args below meth c D clS lo 8 Q 1118 [(4, .int (nI i)), (3, .ref ao), (2, .ref hm), (1, .ref a.x), (0, .ref b)] [] G B := by
  obtain ⟨hx, hb, hml, hown, hts, hK, hlo, hZ, hRc, hRs, hRf, hRl, hX, hbl, hbA, hn, hfl⟩ := h0
  obtain ⟨F, V, hC⟩ := hC3
  have hle0 := w2_le hC.w
  have hB1 : B.1 ≤ MC := by omega
  have hB2 : B.2 ≤ MS := by omega
  have hax : G a.x = some (31, .inr (8, [.ref a.vs, .int (nI S.n), .ref a.rs, .int (nI S.rn), .ref a.ws, .ref a.ca, .ref (a.fr 0), .ref (a.fr 1), .ref (a.fr 2), .ref (a.fr 3), .ref a.zr, .ref a.fo, .ref a.ha, .ref a.si])) := hC.ob
  obtain ⟨hobm, hhm⟩ : ∃ o9, G hm = some (70, .inr (9, o9)) := by obtain ⟨_, _, _, _, _, _, _, h9, -⟩ := hV; exact ⟨_, h9⟩
  refine gs (pc' := 1119) (fun _ _ _ _ _ hl => lv_aload_n hx hb d_La_law_1118 rfl (lv_at hl 3 rfl)) ?_
  refine gs (pc' := 1120) (fun _ _ _ _ _ hl => lv_aload_n hx hb d_La_law_1119 rfl (lv_at hl 4 rfl)) ?_
  refine gs (pc' := 1122) (fun _ _ _ _ _ hl => lv_iload hx hb d_La_law_1120 (lv_at hl 0 rfl)) ?_
  refine gs (pc' := 1123) (fun _ _ _ _ _ hl => lv_iconst (v := nI 1) hx hb d_La_law_1122 (by decide)) ?_
  refine gs (pc' := 1124) (fun _ _ _ _ _ hl => lv_iadd hx hb d_La_law_1123) ?_
  refine g_eqi (show (nI i) + (nI 1) = nI (i + 1) from nI_add _ _) ?_
  refine g_sld hx hb hX hbl hbA (show vp_in (nI (i + 1)) n from vp_in_nI (by omega) (by omega)) d_La_law_1124 ?_
  rw [nI_clamp (by omega)]
  refine g_eqi (show xs (i + 1) = iI ((xs (i + 1)).toInt) from ti_e _) ?_
  refine gs (pc' := 1126) (fun _ _ _ _ _ hl => lv_aload_n hx hb d_La_law_1125 rfl (lv_at hl 1 rfl)) ?_
  refine g_outi hlo (g_runSW (n := 3) (As := [.ref a.x, .int (iI ((xs (i + 1)).toInt)), .ref ao]) (rest := []) ⟨hx, hb, hml, hown, hts⟩ hK hZ hRc hRs (c_La_weight l D cA lo MC MS G B X a S F V hC hW ao of hao ((xs (i + 1)).toInt) (ti_1 _) (ti_2 _) hY1 hY2 hfl) rfl (tb_good (tb_cons wm708 (tb_cons wm709 (tb_cons wm0 k_La_weight)))) (by decide +kernel) ⟨by rw [hRf]; exact Nat.le_of_ble_eq_true rfl, by rw [hRl]; exact Nat.le_of_ble_eq_true rfl⟩ hB1 hB2 rfl (Nat.le_of_ble_eq_true rfl) d_La_law_1126) (fun r_4 G_1 B_2 p_3 => ?_)
  obtain ⟨hr9, hC9, ⟨of1, ho1, ho2⟩, hf9⟩ := p_3
  obtain ⟨kd, hkd⟩ : ∃ y9 : Nat, y9 = (sp_weight S (iI ((xs (i + 1)).toInt))).1 := ⟨_, rfl⟩
  rw [← hkd] at hr9 ho2
  subst hr9
  have hkb : kd ≤ 2 := by
    rw [hkd]
    rcases ka_weight (S := S) (p0 := iI ((xs (i + 1)).toInt)) with h9 | ⟨h9, -⟩ <;> rw [h9] <;> decide
  have hle9 := CW3_le hC9
  have hb91 : B_2.1 ≤ MC := Nat.le_trans hle9.1 hY1
  have hb92 : B_2.2 ≤ MS := Nat.le_trans hle9.2 hY2
  have hV9 : MW cA hm A S th none none none G_1 := MW_fr hV hf9 (fun x h8 h9 q9 => by omega)
  have hhm9 : G_1 hm = some (70, .inr (9, hobm)) := hf9 _ _ hhm (show ¬ ((70 : Nat) < 70 ∨ (70 : Nat) = 90) by decide)
  refine gst (pc' := 1131) (L' := [(5, .int (nI kd)), (4, .int (nI i)), (3, .ref ao), (2, .ref hm), (1, .ref a.x), (0, .ref b)]) (fun _ _ _ _ _ hl => lv_istore hx hb d_La_law_1129 hl (by decide) rfl) ?_
  refine gs (pc' := 1132) (fun _ _ _ _ _ hl => lv_aload_n hx hb d_La_law_1131 rfl (lv_at hl 3 rfl)) ?_
  refine gs (pc' := 1133) (fun _ _ _ _ _ hl => lv_aload_n hx hb d_La_law_1132 rfl (lv_at hl 5 rfl)) ?_
  refine gs (pc' := 1135) (fun _ _ _ _ _ hl => lv_iload hx hb d_La_law_1133 (lv_at hl 1 rfl)) ?_
  refine gs (pc' := 1136) (fun _ _ _ _ _ hl => lv_iconst (v := nI 1) hx hb d_La_law_1135 (by decide)) ?_
  refine gs (pc' := 1137) (fun _ _ _ _ _ hl => lv_iadd hx hb d_La_law_1136) ?_
  refine g_eqi (show (nI i) + (nI 1) = nI (i + 1) from nI_add _ _) ?_
  refine g_sld hx hb hX hbl hbA (show vp_in (nI (i + 1)) n from vp_in_nI (by omega) (by omega)) d_La_law_1137 ?_
  rw [nI_clamp (by omega)]
  refine g_eqi (show xs (i + 1) = iI ((xs (i + 1)).toInt) from ti_e _) ?_
  refine g_outi hlo (g_runV (As := [.int (iI ((xs (i + 1)).toInt))]) (rest := []) ⟨hx, hb, hml, hown, hts⟩ hK hZ hRc hRs (c_Mo_weight l D cA lo MC MS G_1 B_2 hm A S th none none none hV9 hW ((xs (i + 1)).toInt) (ti_1 _) (ti_2 _) hb91 hb92) (fun _ _ => cwV 1 hts (tb_good (tb_cons wm1012 (tb_cons wm1013 (tb_cons wm1014 (tb_cons wm12 k_Mo_weight))))) rfl rfl rfl (by decide +kernel) ⟨by rw [hRf]; exact Nat.le_of_ble_eq_true rfl, by rw [hRl]; exact Nat.le_of_ble_eq_true rfl⟩) hhm9 rfl hb91 hb92 rfl (Nat.le_of_ble_eq_true rfl) d_La_law_1138) (fun r_8 G_5 B_6 p_7 => ?_)
  obtain ⟨e9, hr8, hV8, hf8⟩ := p_7
  have e8 : B_2 = B_6 := e9.symm
  subst e8
  rw [← hkd] at hr8 hV8
  have hC8 := CW3_up hC9 hf8 (fun x h9 => h9.1)
  have ho8 : G_5 ao = some (90, .inl (cA 1, 1, .inr (.inl of1))) := hf8 _ _ ho1 (show ¬ (70 ≤ (90 : Nat) ∧ (90 : Nat) < 90) by decide)
  obtain ⟨hob8, hhm8⟩ : ∃ o9, G_5 hm = some (70, .inr (9, o9)) := by obtain ⟨_, _, _, _, _, _, _, h9, -⟩ := hV8; exact ⟨_, h9⟩
  refine gst (pc' := 1143) (L' := [(6, .int r_8), (5, .int (nI kd)), (4, .int (nI i)), (3, .ref ao), (2, .ref hm), (1, .ref a.x), (0, .ref b)]) (fun _ _ _ _ _ hl => lv_istore hx hb d_La_law_1141 hl (by decide) rfl) ?_
  refine gs (pc' := 1144) (fun _ _ _ _ _ hl => lv_aload_n hx hb d_La_law_1143 rfl (lv_at hl 4 rfl)) ?_
  refine g_outi hlo (g_runV (As := []) (rest := []) ⟨hx, hb, hml, hown, hts⟩ hK hZ hRc hRs (c_Mo_thrown l D cA lo MC MS G_5 B_2 hm A _ kd none none none hV8 (weight_ok hW) hb91 hb92) (fun _ _ => cwV 0 hts (tb_good (tb_cons wm821 (tb_cons wm822 (tb_cons wm823 (tb_cons wm12 k_Mo_thrown))))) rfl rfl rfl (by decide +kernel) ⟨by rw [hRf]; exact Nat.le_of_ble_eq_true rfl, by rw [hRl]; exact Nat.le_of_ble_eq_true rfl⟩) hhm8 rfl hb91 hb92 rfl (Nat.le_of_ble_eq_true rfl) d_La_law_1144) (fun r_12 G_9 B_10 p_11 => ?_)
  obtain ⟨e7, hr7⟩ := p_11
  cases e7
  subst hr7
  refine gs (pc' := 1149) (fun _ _ _ _ _ hl => lv_iload hx hb d_La_law_1147 (lv_at hl 1 rfl)) ?_
  refine gsb (pc1 := 1154) (pc2 := 1152) (fun _ _ _ _ _ => lv_icmp_eq (tgt := 1154) hx hb d_La_law_1149 (by decide)) (fun c_13 => ?_) (fun c_13 => ?_)
  · skip
    have nc_13 : kd = kd := (nn_eq (a := kd) (b := kd) (by omega) (by omega)).1 c_13
    refine gs (pc' := 1156) (fun _ _ _ _ _ hl => lv_iload hx hb d_La_law_1154 (lv_at hl 1 rfl)) ?_
    refine gsb (pc1 := 1171) (pc2 := 1159) (fun _ _ _ _ _ => lv_if_ne (tgt := 1171) hx hb d_La_law_1156 (by decide)) (fun c_14 => ?_) (fun c_14 => ?_)
    · skip
      have nc_14 : kd ≠ 0 := (n0_ne (a := kd) (by omega)).1 c_14
      refine gs (pc' := 1286) (fun _ _ _ _ _ hl => lv_goto (tgt := 1286) hx hb d_La_law_1171 (by decide)) ?_
      refine gsub [2, 3, 4, 5, 6] rfl ?_
      exact hnext _ kd of1 G_5 B_2 (weight_ok hW) hC8 hV8 ho8
    · skip
      have nc_14 : kd = 0 := (n0_ne (a := kd) (by omega)).2 c_14
      have hr6 := hr8 nc_14
      have ho6 := ho2 nc_14
      subst hr6
      refine gs (pc' := 1160) (fun _ _ _ _ _ hl => lv_aload_n hx hb d_La_law_1159 rfl (lv_at hl 3 rfl)) ?_
      refine gs (pc' := 1161) (fun _ _ _ _ _ hl => lv_iconst (v := nI 0) hx hb d_La_law_1160 (by decide)) ?_
      refine g_lald hx hb hK 1 ho8 rfl (show vp_in (nI 0) 1 from vp_in_nI (by omega) (by omega)) d_La_law_1161 ?_
      refine g_eql (show of1 (nI 0).toNatClampNeg = of1 0 from by rw [nI_clamp (by omega)]) ?_
      refine g_eql (show of1 0 = (iI (sp_weight S (iI ((xs (i + 1)).toInt))).2.1).toInt64 from ho6) ?_
      refine gs (pc' := 1164) (fun _ _ _ _ _ hl => lv_iload hx hb d_La_law_1162 (lv_at hl 0 rfl)) ?_
      refine gs (pc' := 1165) (fun _ _ _ _ _ hl => lv_i2l (v := (iI (sp_weight S (iI ((xs (i + 1)).toInt))).2.1).toInt64) hx hb d_La_law_1164 (rfl)) ?_
      refine gs (pc' := 1166) (fun _ _ _ _ _ hl => W.lcmp hx hb d_La_law_1165) ?_
      refine g_eqi (show lg_cmp ((iI (sp_weight S (iI ((xs (i + 1)).toInt))).2.1).toInt64) ((iI (sp_weight S (iI ((xs (i + 1)).toInt))).2.1).toInt64) = nI 0 from cmp_s _) ?_
      refine gsb (pc1 := 1171) (pc2 := 1169) (fun _ _ _ _ _ => lv_if_eq (tgt := 1171) hx hb d_La_law_1166 (by decide)) (fun c_15 => ?_) (fun c_15 => ?_)
      · skip
        have nc_15 : 0 = 0 := (n0_eq (a := 0) (by omega)).1 c_15
        refine gs (pc' := 1286) (fun _ _ _ _ _ hl => lv_goto (tgt := 1286) hx hb d_La_law_1171 (by decide)) ?_
        refine gsub [2, 3, 4, 5, 6] rfl ?_
        exact hnext _ kd of1 G_5 B_2 (weight_ok hW) hC8 hV8 ho8
      · skip
        have nc_15 : 0 ≠ 0 := (n0_eq (a := 0) (by omega)).2 c_15
        exact absurd nc_15 (by decide)
  · skip
    have nc_13 : kd ≠ kd := (nn_eq (a := kd) (b := kd) (by omega) (by omega)).2 c_13
    exact absurd rfl nc_13
set_option maxHeartbeats 4000000 in
set_option maxRecDepth 100000 in
theorem law_noWeights {p : Program} {l : Launch} {e : Env} {R : Room} {s : State} {m : MethodId} {args : Array Value} {below : List Frame} {meth : Method} {c : Code} {Q : State → Prop} {D : va_G} {cA : Nat → ClassId} {lo MC MS b n : Nat} {xs : Nat → Int32} (h0 : LC p l R s m args c D cA lo MC MS b n xs) (i : Nat) (hi : i + 6 ≤ n) (X : Nat × Nat) (a : AX) (S : St) (hm : Nat) (A : Nat → Nat) (th ao : Nat) (of : Nat → Int64) (G : gT) (B : Nat × Nat) (hC3 : CW3 cA X a S (G, B)) (hW : WF S) (hV : MW cA hm A S th none none none G) (hao : G ao = some (90, .inl (cA 1, 1, .inr (.inl of)))) (hY1 : X.1 + 6 ≤ MC) (hY2 : X.2 + 209 ≤ MS) (hnext : ∀ (S1 : St) (th1 : Nat) (of1 : Nat → Int64) (G1 : gT) (B1 : Nat × Nat), WF S1 → CW3 cA (X.1 + 6, X.2 + 209) a S1 (G1, B1) → MW cA hm A S1 th1 none none none G1 → G1 ao = some (90, .inl (cA 1, 1, .inr (.inl of1))) → gV p l e R s m args below meth c D clS lo 8 Q 1286 [(4, .int (nI i)), (3, .ref ao), (2, .ref hm), (1, .ref a.x), (0, .ref b)] [] G1 B1) : gV p l e R s m args below meth c D clS lo 8 Q 1174 [(4, .int (nI i)), (3, .ref ao), (2, .ref hm), (1, .ref a.x), (0, .ref b)] [] G B := by
  obtain ⟨hx, hb, hml, hown, hts, hK, hlo, hZ, hRc, hRs, hRf, hRl, hX, hbl, hbA, hn, hfl⟩ := h0
  obtain ⟨F, V, hC⟩ := hC3
  have hle0 := w2_le hC.w
  have hB1 : B.1 ≤ MC := by omega
  have hB2 : B.2 ≤ MS := by omega
  have hax : G a.x = some (31, .inr (8, [.ref a.vs, .int (nI S.n), .ref a.rs, .int (nI S.rn), .ref a.ws, .ref a.ca, .ref (a.fr 0), .ref (a.fr 1), .ref (a.fr 2), .ref (a.fr 3), .ref a.zr, .ref a.fo, .ref a.ha, .ref a.si])) := hC.ob
  obtain ⟨hobm, hhm⟩ : ∃ o9, G hm = some (70, .inr (9, o9)) := by obtain ⟨_, _, _, _, _, _, _, h9, -⟩ := hV; exact ⟨_, h9⟩
  have hk0 : (sp_noWeights S).1 = 0 := by
    unfold sp_noWeights
    first | rfl | (split <;> rfl)
  refine gs (pc' := 1175) (fun _ _ _ _ _ hl => lv_aload_n hx hb d_La_law_1174 rfl (lv_at hl 3 rfl)) ?_
  refine g_outi hlo (g_runV (As := []) (rest := []) ⟨hx, hb, hml, hown, hts⟩ hK hZ hRc hRs (c_Mf_noWeights l D cA lo MC MS G B X a S F V hC hW hk0 hY1 hY2) (fun _ _ => cwV 0 hts (tb_good (tb_cons wm286 (tb_cons wm287 (tb_cons wm288 (tb_cons wm1 k_Mf_noWeights))))) rfl rfl rfl (by decide +kernel) ⟨by rw [hRf]; exact Nat.le_of_ble_eq_true rfl, by rw [hRl]; exact Nat.le_of_ble_eq_true rfl⟩) hax rfl hB1 hB2 rfl (Nat.le_of_ble_eq_true rfl) d_La_law_1175) (fun r_4 G_1 B_2 p_3 => ?_)
  obtain ⟨hr9, hC9, hf9⟩ := p_3
  subst hr9
  have hle9 := CW3_le hC9
  have hb91 : B_2.1 ≤ MC := Nat.le_trans hle9.1 hY1
  have hb92 : B_2.2 ≤ MS := Nat.le_trans hle9.2 hY2
  have hV9 : MW cA hm A S th none none none G_1 := MW_fr hV hf9 (fun x h8 h9 q9 => by omega)
  have hhm9 : G_1 hm = some (70, .inr (9, hobm)) := hf9 _ _ hhm (show ¬ ((70 : Nat) < 70) by decide)
  have ho9 : G_1 ao = some (90, .inl (cA 1, 1, .inr (.inl of))) := hf9 _ _ hao (show ¬ (90 : Nat) < 70 by decide)
  refine gs (pc' := 1179) (fun _ _ _ _ _ hl => lv_aload_n hx hb d_La_law_1178 rfl (lv_at hl 2 rfl)) ?_
  refine g_outi hlo (g_runV (As := []) (rest := [.int (iI (sp_noWeights S).2.1)]) ⟨hx, hb, hml, hown, hts⟩ hK hZ hRc hRs (c_Mo_noWeights l D cA lo MC MS G_1 B_2 hm A S th none none none hV9 hW hb91 hb92) (fun _ _ => cwV 0 hts (tb_good (tb_cons wm1016 (tb_cons wm1017 (tb_cons wm1018 (tb_cons wm12 k_Mo_noWeights))))) rfl rfl rfl (by decide +kernel) ⟨by rw [hRf]; exact Nat.le_of_ble_eq_true rfl, by rw [hRl]; exact Nat.le_of_ble_eq_true rfl⟩) hhm9 rfl hb91 hb92 rfl (Nat.le_of_ble_eq_true rfl) d_La_law_1179) (fun r_8 G_5 B_6 p_7 => ?_)
  obtain ⟨e9, hr8, hV8, hf8⟩ := p_7
  have e8 : B_2 = B_6 := e9.symm
  subst e8
  have hr6 := hr8 hk0
  subst hr6
  have hC8 := CW3_up hC9 hf8 (fun x h9 => h9.1)
  have ho8 : G_5 ao = some (90, .inl (cA 1, 1, .inr (.inl of))) := hf8 _ _ ho9 (show ¬ (70 ≤ (90 : Nat) ∧ (90 : Nat) < 90) by decide)
  refine gsb (pc1 := 1286) (pc2 := 1185) (fun _ _ _ _ _ => lv_icmp_eq (tgt := 1286) hx hb d_La_law_1182 (by decide)) (fun c_9 => ?_) (fun c_9 => ?_)
  · skip
    refine gsub [0, 1, 2, 3, 4] rfl ?_
    exact hnext _ _ of G_5 B_2 (noWeights_ok hW) hC8 hV8 ho8
  · skip
    exact absurd rfl c_9
set_option maxHeartbeats 4000000 in
set_option maxRecDepth 100000 in
theorem law_share {p : Program} {l : Launch} {e : Env} {R : Room} {s : State} {m : MethodId} {args : Array Value} {below : List Frame} {meth : Method} {c : Code} {Q : State → Prop} {D : va_G} {cA : Nat → ClassId} {lo MC MS b n : Nat} {xs : Nat → Int32} (h0 : LC p l R s m args c D cA lo MC MS b n xs) (i : Nat) (hi : i + 6 ≤ n) (X : Nat × Nat) (a : AX) (S : St) (hm : Nat) (A : Nat → Nat) (th ao : Nat) (of : Nat → Int64) (G : gT) (B : Nat × Nat) (hC3 : CW3 cA X a S (G, B)) (hW : WF S) (hV : MW cA hm A S th none none none G) (hao : G ao = some (90, .inl (cA 1, 1, .inr (.inl of)))) (hY1 : X.1 + 6 ≤ MC) (hY2 : X.2 + 209 ≤ MS) (hnext : ∀ (S1 : St) (th1 : Nat) (of1 : Nat → Int64) (G1 : gT) (B1 : Nat × Nat), WF S1 → CW3 cA (X.1 + 6, X.2 + 209) a S1 (G1, B1) → MW cA hm A S1 th1 none none none G1 → G1 ao = some (90, .inl (cA 1, 1, .inr (.inl of1))) → gV p l e R s m args below meth c D clS lo 8 Q 1286 [(4, .int (nI i)), (3, .ref ao), (2, .ref hm), (1, .ref a.x), (0, .ref b)] [] G1 B1) : gV p l e R s m args below meth c D clS lo 8 Q 1187 [(4, .int (nI i)), (3, .ref ao), (2, .ref hm), (1, .ref a.x), (0, .ref b)] [] G B := by
  obtain ⟨hx, hb, hml, hown, hts, hK, hlo, hZ, hRc, hRs, hRf, hRl, hX, hbl, hbA, hn, hfl⟩ := h0
  obtain ⟨F, V, hC⟩ := hC3
  have hle0 := w2_le hC.w
  have hB1 : B.1 ≤ MC := by omega
  have hB2 : B.2 ≤ MS := by omega
  have hax : G a.x = some (31, .inr (8, [.ref a.vs, .int (nI S.n), .ref a.rs, .int (nI S.rn), .ref a.ws, .ref a.ca, .ref (a.fr 0), .ref (a.fr 1), .ref (a.fr 2), .ref (a.fr 3), .ref a.zr, .ref a.fo, .ref a.ha, .ref a.si])) := hC.ob
  obtain ⟨hobm, hhm⟩ : ∃ o9, G hm = some (70, .inr (9, o9)) := by obtain ⟨_, _, _, _, _, _, _, h9, -⟩ := hV; exact ⟨_, h9⟩
  refine gs (pc' := 1188) (fun _ _ _ _ _ hl => lv_aload_n hx hb d_La_law_1187 rfl (lv_at hl 3 rfl)) ?_
  refine gs (pc' := 1189) (fun _ _ _ _ _ hl => lv_aload_n hx hb d_La_law_1188 rfl (lv_at hl 4 rfl)) ?_
  refine gs (pc' := 1191) (fun _ _ _ _ _ hl => lv_iload hx hb d_La_law_1189 (lv_at hl 0 rfl)) ?_
  refine gs (pc' := 1192) (fun _ _ _ _ _ hl => lv_iconst (v := nI 1) hx hb d_La_law_1191 (by decide)) ?_
  refine gs (pc' := 1193) (fun _ _ _ _ _ hl => lv_iadd hx hb d_La_law_1192) ?_
  refine g_eqi (show (nI i) + (nI 1) = nI (i + 1) from nI_add _ _) ?_
  refine g_sld hx hb hX hbl hbA (show vp_in (nI (i + 1)) n from vp_in_nI (by omega) (by omega)) d_La_law_1193 ?_
  rw [nI_clamp (by omega)]
  refine gs (pc' := 1195) (fun _ _ _ _ _ hl => lv_i2l (v := (xs (i + 1)).toInt64) hx hb d_La_law_1194 (rfl)) ?_
  refine gs (pc' := 1197) (fun _ _ _ _ _ hl => lv_bipush (v := nI 32) hx hb d_La_law_1195 (by decide)) ?_
  refine gs (pc' := 1198) (fun _ _ _ _ _ hl => lv_lshl (v := ((xs (i + 1)).toInt64) <<< ((nI 32).toInt64 &&& 63)) hx hb d_La_law_1197 rfl) ?_
  refine gs (pc' := 1199) (fun _ _ _ _ _ hl => lv_aload_n hx hb d_La_law_1198 rfl (lv_at hl 4 rfl)) ?_
  refine gs (pc' := 1201) (fun _ _ _ _ _ hl => lv_iload hx hb d_La_law_1199 (lv_at hl 0 rfl)) ?_
  refine gs (pc' := 1202) (fun _ _ _ _ _ hl => lv_iconst (v := nI 2) hx hb d_La_law_1201 (by decide)) ?_
  refine gs (pc' := 1203) (fun _ _ _ _ _ hl => lv_iadd hx hb d_La_law_1202) ?_
  refine g_eqi (show (nI i) + (nI 2) = nI (i + 2) from nI_add _ _) ?_
  refine g_sld hx hb hX hbl hbA (show vp_in (nI (i + 2)) n from vp_in_nI (by omega) (by omega)) d_La_law_1203 ?_
  rw [nI_clamp (by omega)]
  refine gs (pc' := 1205) (fun _ _ _ _ _ hl => lv_i2l (v := (xs (i + 2)).toInt64) hx hb d_La_law_1204 (rfl)) ?_
  refine gs (pc' := 1208) (fun _ _ _ _ _ hl => lv_ldc2 (v := 4294967295) hx hb hown (hts _ wm1027) d_La_law_1205) ?_
  refine g_eql (show 4294967295 = lN 4294967295 from rfl) ?_
  refine gs (pc' := 1209) (fun _ _ _ _ _ hl => lv_land hx hb d_La_law_1208) ?_
  refine gs (pc' := 1210) (fun _ _ _ _ _ hl => lv_lor hx hb d_La_law_1209) ?_
  refine g_eql (show (((xs (i + 1)).toInt64) <<< ((nI 32).toInt64 &&& 63)) ||| (((xs (i + 2)).toInt64) &&& (lN 4294967295)) = lI ((jnL (xs (i + 1)) (xs (i + 2))).toInt) from tl_e _) ?_
  refine gs (pc' := 1211) (fun _ _ _ _ _ hl => lv_aload_n hx hb d_La_law_1210 rfl (lv_at hl 4 rfl)) ?_
  refine gs (pc' := 1213) (fun _ _ _ _ _ hl => lv_iload hx hb d_La_law_1211 (lv_at hl 0 rfl)) ?_
  refine gs (pc' := 1214) (fun _ _ _ _ _ hl => lv_iconst (v := nI 3) hx hb d_La_law_1213 (by decide)) ?_
  refine gs (pc' := 1215) (fun _ _ _ _ _ hl => lv_iadd hx hb d_La_law_1214) ?_
  refine g_eqi (show (nI i) + (nI 3) = nI (i + 3) from nI_add _ _) ?_
  refine g_sld hx hb hX hbl hbA (show vp_in (nI (i + 3)) n from vp_in_nI (by omega) (by omega)) d_La_law_1215 ?_
  rw [nI_clamp (by omega)]
  refine g_eqi (show xs (i + 3) = iI ((xs (i + 3)).toInt) from ti_e _) ?_
  refine gs (pc' := 1217) (fun _ _ _ _ _ hl => lv_aload_n hx hb d_La_law_1216 rfl (lv_at hl 1 rfl)) ?_
  refine g_outi hlo (g_runSW (n := 4) (As := [.ref a.x, .long (lI ((jnL (xs (i + 1)) (xs (i + 2))).toInt)), .int (iI ((xs (i + 3)).toInt)), .ref ao]) (rest := []) ⟨hx, hb, hml, hown, hts⟩ hK hZ hRc hRs (c_La_share l D cA lo MC MS G B X a S F V hC hW ao of hao ((jnL (xs (i + 1)) (xs (i + 2))).toInt) (tl_1 _) (tl_2 _) ((xs (i + 3)).toInt) (ti_1 _) (ti_2 _) hY1 hY2 hfl) rfl (tb_good (tb_cons wm720 (tb_cons wm721 (tb_cons wm0 k_La_share)))) (by decide +kernel) ⟨by rw [hRf]; exact Nat.le_of_ble_eq_true rfl, by rw [hRl]; exact Nat.le_of_ble_eq_true rfl⟩ hB1 hB2 rfl (Nat.le_of_ble_eq_true rfl) d_La_law_1217) (fun r_4 G_1 B_2 p_3 => ?_)
  obtain ⟨hr9, hC9, ⟨of1, ho1, ho2⟩, hf9⟩ := p_3
  obtain ⟨kd, hkd⟩ : ∃ y9 : Nat, y9 = (sp_share S ((jnL (xs (i + 1)) (xs (i + 2))).toInt) (iI ((xs (i + 3)).toInt))).1 := ⟨_, rfl⟩
  rw [← hkd] at hr9 ho2
  subst hr9
  have hkb : kd ≤ 2 := by
    rw [hkd]
    rcases ka_share (S := S) (p0 := ((jnL (xs (i + 1)) (xs (i + 2))).toInt)) (p1 := iI ((xs (i + 3)).toInt)) with h9 | ⟨h9, -⟩ | ⟨h9, -⟩ <;> rw [h9] <;> decide
  have hle9 := CW3_le hC9
  have hb91 : B_2.1 ≤ MC := Nat.le_trans hle9.1 hY1
  have hb92 : B_2.2 ≤ MS := Nat.le_trans hle9.2 hY2
  have hV9 : MW cA hm A S th none none none G_1 := MW_fr hV hf9 (fun x h8 h9 q9 => by omega)
  have hhm9 : G_1 hm = some (70, .inr (9, hobm)) := hf9 _ _ hhm (show ¬ ((70 : Nat) < 70 ∨ (70 : Nat) = 90) by decide)
  refine gst (pc' := 1222) (L' := [(5, .int (nI kd)), (4, .int (nI i)), (3, .ref ao), (2, .ref hm), (1, .ref a.x), (0, .ref b)]) (fun _ _ _ _ _ hl => lv_istore hx hb d_La_law_1220 hl (by decide) rfl) ?_
  refine gs (pc' := 1223) (fun _ _ _ _ _ hl => lv_aload_n hx hb d_La_law_1222 rfl (lv_at hl 3 rfl)) ?_
  refine gs (pc' := 1224) (fun _ _ _ _ _ hl => lv_aload_n hx hb d_La_law_1223 rfl (lv_at hl 5 rfl)) ?_
  refine gs (pc' := 1226) (fun _ _ _ _ _ hl => lv_iload hx hb d_La_law_1224 (lv_at hl 1 rfl)) ?_
  refine gs (pc' := 1227) (fun _ _ _ _ _ hl => lv_iconst (v := nI 1) hx hb d_La_law_1226 (by decide)) ?_
  refine gs (pc' := 1228) (fun _ _ _ _ _ hl => lv_iadd hx hb d_La_law_1227) ?_
  refine g_eqi (show (nI i) + (nI 1) = nI (i + 1) from nI_add _ _) ?_
  refine g_sld hx hb hX hbl hbA (show vp_in (nI (i + 1)) n from vp_in_nI (by omega) (by omega)) d_La_law_1228 ?_
  rw [nI_clamp (by omega)]
  refine gs (pc' := 1230) (fun _ _ _ _ _ hl => lv_i2l (v := (xs (i + 1)).toInt64) hx hb d_La_law_1229 (rfl)) ?_
  refine gs (pc' := 1232) (fun _ _ _ _ _ hl => lv_bipush (v := nI 32) hx hb d_La_law_1230 (by decide)) ?_
  refine gs (pc' := 1233) (fun _ _ _ _ _ hl => lv_lshl (v := ((xs (i + 1)).toInt64) <<< ((nI 32).toInt64 &&& 63)) hx hb d_La_law_1232 rfl) ?_
  refine gs (pc' := 1234) (fun _ _ _ _ _ hl => lv_aload_n hx hb d_La_law_1233 rfl (lv_at hl 5 rfl)) ?_
  refine gs (pc' := 1236) (fun _ _ _ _ _ hl => lv_iload hx hb d_La_law_1234 (lv_at hl 1 rfl)) ?_
  refine gs (pc' := 1237) (fun _ _ _ _ _ hl => lv_iconst (v := nI 2) hx hb d_La_law_1236 (by decide)) ?_
  refine gs (pc' := 1238) (fun _ _ _ _ _ hl => lv_iadd hx hb d_La_law_1237) ?_
  refine g_eqi (show (nI i) + (nI 2) = nI (i + 2) from nI_add _ _) ?_
  refine g_sld hx hb hX hbl hbA (show vp_in (nI (i + 2)) n from vp_in_nI (by omega) (by omega)) d_La_law_1238 ?_
  rw [nI_clamp (by omega)]
  refine gs (pc' := 1240) (fun _ _ _ _ _ hl => lv_i2l (v := (xs (i + 2)).toInt64) hx hb d_La_law_1239 (rfl)) ?_
  refine gs (pc' := 1243) (fun _ _ _ _ _ hl => lv_ldc2 (v := 4294967295) hx hb hown (hts _ wm1027) d_La_law_1240) ?_
  refine g_eql (show 4294967295 = lN 4294967295 from rfl) ?_
  refine gs (pc' := 1244) (fun _ _ _ _ _ hl => lv_land hx hb d_La_law_1243) ?_
  refine gs (pc' := 1245) (fun _ _ _ _ _ hl => lv_lor hx hb d_La_law_1244) ?_
  refine g_eql (show (((xs (i + 1)).toInt64) <<< ((nI 32).toInt64 &&& 63)) ||| (((xs (i + 2)).toInt64) &&& (lN 4294967295)) = lI ((jnL (xs (i + 1)) (xs (i + 2))).toInt) from tl_e _) ?_
  refine gs (pc' := 1246) (fun _ _ _ _ _ hl => lv_aload_n hx hb d_La_law_1245 rfl (lv_at hl 5 rfl)) ?_
  refine gs (pc' := 1248) (fun _ _ _ _ _ hl => lv_iload hx hb d_La_law_1246 (lv_at hl 1 rfl)) ?_
  refine gs (pc' := 1249) (fun _ _ _ _ _ hl => lv_iconst (v := nI 3) hx hb d_La_law_1248 (by decide)) ?_
  refine gs (pc' := 1250) (fun _ _ _ _ _ hl => lv_iadd hx hb d_La_law_1249) ?_
  refine g_eqi (show (nI i) + (nI 3) = nI (i + 3) from nI_add _ _) ?_
  refine g_sld hx hb hX hbl hbA (show vp_in (nI (i + 3)) n from vp_in_nI (by omega) (by omega)) d_La_law_1250 ?_
  rw [nI_clamp (by omega)]
  refine g_eqi (show xs (i + 3) = iI ((xs (i + 3)).toInt) from ti_e _) ?_
  refine g_outl hlo (g_runV (As := [.long (lI ((jnL (xs (i + 1)) (xs (i + 2))).toInt)), .int (iI ((xs (i + 3)).toInt))]) (rest := []) ⟨hx, hb, hml, hown, hts⟩ hK hZ hRc hRs (c_Mo_share l D cA lo MC MS G_1 B_2 hm A S th none none none hV9 hW ((jnL (xs (i + 1)) (xs (i + 2))).toInt) (tl_1 _) (tl_2 _) ((xs (i + 3)).toInt) (ti_1 _) (ti_2 _) hb91 hb92) (fun _ _ => cwV 2 hts (tb_good (tb_cons wm1020 (tb_cons wm1021 (tb_cons wm1022 (tb_cons wm12 k_Mo_share))))) rfl rfl rfl (by decide +kernel) ⟨by rw [hRf]; exact Nat.le_of_ble_eq_true rfl, by rw [hRl]; exact Nat.le_of_ble_eq_true rfl⟩) hhm9 rfl hb91 hb92 rfl (Nat.le_of_ble_eq_true rfl) d_La_law_1251) (fun r_8 G_5 B_6 p_7 => ?_)
  obtain ⟨e9, hr8, hV8, hf8⟩ := p_7
  have e8 : B_2 = B_6 := e9.symm
  subst e8
  rw [← hkd] at hr8 hV8
  have hC8 := CW3_up hC9 hf8 (fun x h9 => h9.1)
  have ho8 : G_5 ao = some (90, .inl (cA 1, 1, .inr (.inl of1))) := hf8 _ _ ho1 (show ¬ (70 ≤ (90 : Nat) ∧ (90 : Nat) < 90) by decide)
  obtain ⟨hob8, hhm8⟩ : ∃ o9, G_5 hm = some (70, .inr (9, o9)) := by obtain ⟨_, _, _, _, _, _, _, h9, -⟩ := hV8; exact ⟨_, h9⟩
  refine gst (pc' := 1256) (L' := [(6, .long r_8), (5, .int (nI kd)), (4, .int (nI i)), (3, .ref ao), (2, .ref hm), (1, .ref a.x), (0, .ref b)]) (fun _ _ _ _ _ hl => lv_lstore hx hb d_La_law_1254 hl (by decide) rfl) ?_
  refine gs (pc' := 1257) (fun _ _ _ _ _ hl => lv_aload_n hx hb d_La_law_1256 rfl (lv_at hl 4 rfl)) ?_
  refine g_outi hlo (g_runV (As := []) (rest := []) ⟨hx, hb, hml, hown, hts⟩ hK hZ hRc hRs (c_Mo_thrown l D cA lo MC MS G_5 B_2 hm A _ kd none none none hV8 (share_ok hW) hb91 hb92) (fun _ _ => cwV 0 hts (tb_good (tb_cons wm821 (tb_cons wm822 (tb_cons wm823 (tb_cons wm12 k_Mo_thrown))))) rfl rfl rfl (by decide +kernel) ⟨by rw [hRf]; exact Nat.le_of_ble_eq_true rfl, by rw [hRl]; exact Nat.le_of_ble_eq_true rfl⟩) hhm8 rfl hb91 hb92 rfl (Nat.le_of_ble_eq_true rfl) d_La_law_1257) (fun r_12 G_9 B_10 p_11 => ?_)
  obtain ⟨e7, hr7⟩ := p_11
  cases e7
  subst hr7
  refine gs (pc' := 1262) (fun _ _ _ _ _ hl => lv_iload hx hb d_La_law_1260 (lv_at hl 1 rfl)) ?_
  refine gsb (pc1 := 1267) (pc2 := 1265) (fun _ _ _ _ _ => lv_icmp_eq (tgt := 1267) hx hb d_La_law_1262 (by decide)) (fun c_13 => ?_) (fun c_13 => ?_)
  · skip
    have nc_13 : kd = kd := (nn_eq (a := kd) (b := kd) (by omega) (by omega)).1 c_13
    refine gs (pc' := 1269) (fun _ _ _ _ _ hl => lv_iload hx hb d_La_law_1267 (lv_at hl 1 rfl)) ?_
    refine gsb (pc1 := 1283) (pc2 := 1272) (fun _ _ _ _ _ => lv_if_ne (tgt := 1283) hx hb d_La_law_1269 (by decide)) (fun c_14 => ?_) (fun c_14 => ?_)
    · skip
      have nc_14 : kd ≠ 0 := (n0_ne (a := kd) (by omega)).1 c_14
      refine gs (pc' := 1286) (fun _ _ _ _ _ hl => lv_goto (tgt := 1286) hx hb d_La_law_1283 (by decide)) ?_
      refine gsub [2, 3, 4, 5, 6] rfl ?_
      exact hnext _ kd of1 G_5 B_2 (share_ok hW) hC8 hV8 ho8
    · skip
      have nc_14 : kd = 0 := (n0_ne (a := kd) (by omega)).2 c_14
      have hr6 := hr8 nc_14
      have ho6 := ho2 nc_14
      subst hr6
      refine gs (pc' := 1273) (fun _ _ _ _ _ hl => lv_aload_n hx hb d_La_law_1272 rfl (lv_at hl 3 rfl)) ?_
      refine gs (pc' := 1274) (fun _ _ _ _ _ hl => lv_iconst (v := nI 0) hx hb d_La_law_1273 (by decide)) ?_
      refine g_lald hx hb hK 1 ho8 rfl (show vp_in (nI 0) 1 from vp_in_nI (by omega) (by omega)) d_La_law_1274 ?_
      refine g_eql (show of1 (nI 0).toNatClampNeg = of1 0 from by rw [nI_clamp (by omega)]) ?_
      refine g_eql (show of1 0 = lI (sp_share S ((jnL (xs (i + 1)) (xs (i + 2))).toInt) (iI ((xs (i + 3)).toInt))).2.1 from ho6) ?_
      refine gs (pc' := 1277) (fun _ _ _ _ _ hl => lv_lload hx hb d_La_law_1275 (lv_at hl 0 rfl)) ?_
      refine gs (pc' := 1278) (fun _ _ _ _ _ hl => W.lcmp hx hb d_La_law_1277) ?_
      refine g_eqi (show lg_cmp (lI (sp_share S ((jnL (xs (i + 1)) (xs (i + 2))).toInt) (iI ((xs (i + 3)).toInt))).2.1) (lI (sp_share S ((jnL (xs (i + 1)) (xs (i + 2))).toInt) (iI ((xs (i + 3)).toInt))).2.1) = nI 0 from cmp_s _) ?_
      refine gsb (pc1 := 1283) (pc2 := 1281) (fun _ _ _ _ _ => lv_if_eq (tgt := 1283) hx hb d_La_law_1278 (by decide)) (fun c_15 => ?_) (fun c_15 => ?_)
      · skip
        have nc_15 : 0 = 0 := (n0_eq (a := 0) (by omega)).1 c_15
        refine gs (pc' := 1286) (fun _ _ _ _ _ hl => lv_goto (tgt := 1286) hx hb d_La_law_1283 (by decide)) ?_
        refine gsub [2, 3, 4, 5, 6] rfl ?_
        exact hnext _ kd of1 G_5 B_2 (share_ok hW) hC8 hV8 ho8
      · skip
        have nc_15 : 0 ≠ 0 := (n0_eq (a := 0) (by omega)).2 c_15
        exact absurd nc_15 (by decide)
  · skip
    have nc_13 : kd ≠ kd := (nn_eq (a := kd) (b := kd) (by omega) (by omega)).2 c_13
    exact absurd rfl nc_13
