theorem n_setTo (l : Launch) (D : va_G) (cA : Nat → ClassId) (lo MC MS : Nat) (G : gT) (B : Nat × Nat) (X : Nat × Nat) (ad V : Nat → Nat) (hW : w2 cA X ad V (G, B)) (hX1 : X.1 ≤ MC) (hX2 : X.2 ≤ MS) (t : Nat) (ht : t < 19) (h1 v1 k1 : Nat) (hr1 : rd cA G (fun x => ¬ x = t) h1 v1) (hv1 : v1 < 1000000000 ^ k1) (hk : k1 ≤ 1500) : gMet l y_Na_setTo w_Na_setTo 3 83 D clS (gtys cA) lo MC MS [.ref (ad t), .ref h1] G B (gQv D clS lo (fun u => ∃ V1, w2s cA X ad (fun x => x = t) G V V1 u ∧ V1 t = v1)) := by
  have hB := w2_le hW
  obtain ⟨κ, hκ, hb1, hb2⟩ := hW
  have hb1 : B.1 + 57000 ≤ X.1 + ks κ 19 := hb1
  have hb2 : B.2 + 114000 ≤ X.2 + 2 * ks κ 19 := hb2
  obtain ⟨⟨a, z, f, hh, ha, hz, hD⟩, hc⟩ := hκ t ht
  have hkk := ks_1 hκ ht
  obtain ⟨t1, κ1, hn1, hc1, a1, z1, f1, hh1, ha1, hz1, hD1⟩ := hr1
  have hzk1 := isD_size hD1 hv1
  have hg := gcap_3 hc (show z1 ≤ 1500 by omega)
  have hg2 := (gcap_ge (κ t) (z1)).1
  exact gMet_v (c_Na_setTo l D cA lo MC MS G B t (ad t) a (κ t) (nI z) f hh ha (by omega) t1 h1 a1 z1 κ1 f1 hh1 ha1 hz1 (by omega) v1 hn1 hD1 (by omega) (by omega) (by omega) (by omega)) (fun u hu => w2_set hκ hb1 hb2 ht (show z1 ≤ 1500 by omega) hu)
theorem n_setSum (l : Launch) (D : va_G) (cA : Nat → ClassId) (lo MC MS : Nat) (G : gT) (B : Nat × Nat) (X : Nat × Nat) (ad V : Nat → Nat) (hW : w2 cA X ad V (G, B)) (hX1 : X.1 ≤ MC) (hX2 : X.2 ≤ MS) (t : Nat) (ht : t < 19) (h1 v1 k1 : Nat) (hr1 : rd cA G (fun x => ¬ x = t) h1 v1) (hv1 : v1 < 1000000000 ^ k1) (h2 v2 k2 : Nat) (hr2 : rd cA G (fun x => ¬ x = t) h2 v2) (hv2 : v2 < 1000000000 ^ k2) (hk1 : k1 + 1 ≤ 1500) (hk2 : k2 + 1 ≤ 1500) : gMet l y_Na_setSum w_Na_setSum 3 83 D clS (gtys cA) lo MC MS [.ref (ad t), .ref h1, .ref h2] G B (gQv D clS lo (fun u => ∃ V1, w2s cA X ad (fun x => x = t) G V V1 u ∧ V1 t = v1 + v2)) := by
  have hB := w2_le hW
  obtain ⟨κ, hκ, hb1, hb2⟩ := hW
  have hb1 : B.1 + 57000 ≤ X.1 + ks κ 19 := hb1
  have hb2 : B.2 + 114000 ≤ X.2 + 2 * ks κ 19 := hb2
  obtain ⟨⟨a, z, f, hh, ha, hz, hD⟩, hc⟩ := hκ t ht
  have hkk := ks_1 hκ ht
  obtain ⟨t1, κ1, hn1, hc1, a1, z1, f1, hh1, ha1, hz1, hD1⟩ := hr1
  have hzk1 := isD_size hD1 hv1
  obtain ⟨t2, κ2, hn2, hc2, a2, z2, f2, hh2, ha2, hz2, hD2⟩ := hr2
  have hzk2 := isD_size hD2 hv2
  have hg := gcap_3 hc (show max z1 z2 + 1 ≤ 1500 by omega)
  have hg2 := (gcap_ge (κ t) (max z1 z2 + 1)).1
  exact gMet_v (c_Na_setSum l D cA lo MC MS G B t (ad t) a (κ t) (nI z) f hh ha (by omega) t1 h1 a1 z1 κ1 f1 hh1 ha1 hz1 (by omega) t2 h2 a2 z2 κ2 f2 hh2 ha2 hz2 (by omega) v1 v2 hn1 hn2 hD1 hD2 (by omega) (by omega) (by omega) (by omega) (by omega)) (fun u hu => w2_set hκ hb1 hb2 ht (show max z1 z2 + 1 ≤ 1500 by omega) hu)
theorem n_setDifference (l : Launch) (D : va_G) (cA : Nat → ClassId) (lo MC MS : Nat) (G : gT) (B : Nat × Nat) (X : Nat × Nat) (ad V : Nat → Nat) (hW : w2 cA X ad V (G, B)) (hX1 : X.1 ≤ MC) (hX2 : X.2 ≤ MS) (t : Nat) (ht : t < 19) (h1 v1 k1 : Nat) (hr1 : rd cA G (fun x => ¬ x = t) h1 v1) (hv1 : v1 < 1000000000 ^ k1) (h2 v2 k2 : Nat) (hr2 : rd cA G (fun x => ¬ x = t) h2 v2) (hv2 : v2 < 1000000000 ^ k2) (hge : v2 ≤ v1) (hk1 : k1 ≤ 1500) (hk2 : k2 ≤ 1500) : gMet l y_Na_setDifference w_Na_setDifference 3 83 D clS (gtys cA) lo MC MS [.ref (ad t), .ref h1, .ref h2] G B (gQv D clS lo (fun u => ∃ V1, w2s cA X ad (fun x => x = t) G V V1 u ∧ V1 t = v1 - v2)) := by
  have hB := w2_le hW
  obtain ⟨κ, hκ, hb1, hb2⟩ := hW
  have hb1 : B.1 + 57000 ≤ X.1 + ks κ 19 := hb1
  have hb2 : B.2 + 114000 ≤ X.2 + 2 * ks κ 19 := hb2
  obtain ⟨⟨a, z, f, hh, ha, hz, hD⟩, hc⟩ := hκ t ht
  have hkk := ks_1 hκ ht
  obtain ⟨t1, κ1, hn1, hc1, a1, z1, f1, hh1, ha1, hz1, hD1⟩ := hr1
  have hzk1 := isD_size hD1 hv1
  obtain ⟨t2, κ2, hn2, hc2, a2, z2, f2, hh2, ha2, hz2, hD2⟩ := hr2
  have hzk2 := isD_size hD2 hv2
  have hg := gcap_3 hc (show z1 ≤ 1500 by omega)
  have hg2 := (gcap_ge (κ t) (z1)).1
  exact gMet_v (c_Na_setDifference l D cA lo MC MS G B t (ad t) a (κ t) (nI z) f hh ha (by omega) t1 h1 a1 z1 κ1 f1 hh1 ha1 hz1 (by omega) t2 h2 a2 z2 κ2 f2 hh2 ha2 hz2 (by omega) v1 v2 hn1 hn2 hD1 hD2 hge (by omega) (by omega) (by omega) (by omega)) (fun u hu => w2_set hκ hb1 hb2 ht (show z1 ≤ 1500 by omega) hu)
theorem n_setProduct (l : Launch) (D : va_G) (cA : Nat → ClassId) (lo MC MS : Nat) (G : gT) (B : Nat × Nat) (X : Nat × Nat) (ad V : Nat → Nat) (hW : w2 cA X ad V (G, B)) (hX1 : X.1 ≤ MC) (hX2 : X.2 ≤ MS) (t : Nat) (ht : t < 19) (h1 v1 k1 : Nat) (hr1 : rd cA G (fun x => ¬ x = t) h1 v1) (hv1 : v1 < 1000000000 ^ k1) (h2 v2 k2 : Nat) (hr2 : rd cA G (fun x => ¬ x = t) h2 v2) (hv2 : v2 < 1000000000 ^ k2) (hk12 : k1 + k2 ≤ 1500) : gMet l y_Na_setProduct w_Na_setProduct 4 105 D clS (gtys cA) lo MC MS [.ref (ad t), .ref h1, .ref h2] G B (gQv D clS lo (fun u => ∃ V1, w2s cA X ad (fun x => x = t) G V V1 u ∧ V1 t = v1 * v2)) := by
  have hB := w2_le hW
  obtain ⟨κ, hκ, hb1, hb2⟩ := hW
  have hb1 : B.1 + 57000 ≤ X.1 + ks κ 19 := hb1
  have hb2 : B.2 + 114000 ≤ X.2 + 2 * ks κ 19 := hb2
  obtain ⟨⟨a, z, f, hh, ha, hz, hD⟩, hc⟩ := hκ t ht
  have hkk := ks_1 hκ ht
  obtain ⟨t1, κ1, hn1, hc1, a1, z1, f1, hh1, ha1, hz1, hD1⟩ := hr1
  have hzk1 := isD_size hD1 hv1
  obtain ⟨t2, κ2, hn2, hc2, a2, z2, f2, hh2, ha2, hz2, hD2⟩ := hr2
  have hzk2 := isD_size hD2 hv2
  have hg := gcap_3 hc (show z1 + z2 ≤ 1500 by omega)
  have hg2 := (gcap_ge (κ t) (z1 + z2)).1
  exact gMet_v (c_Na_setProduct l D cA lo MC MS G B t (ad t) a (κ t) (nI z) f hh ha (by omega) t1 h1 a1 z1 κ1 f1 hh1 ha1 hz1 (by omega) t2 h2 a2 z2 κ2 f2 hh2 ha2 hz2 (by omega) v1 v2 hn1 hn2 hD1 hD2 (by omega) (by omega) (by omega) (by omega) (by omega)) (fun u hu => w2_set hκ hb1 hb2 ht (show z1 + z2 ≤ 1500 by omega) hu)
theorem n_setMagnitude (l : Launch) (D : va_G) (cA : Nat → ClassId) (lo MC MS : Nat) (G : gT) (B : Nat × Nat) (X : Nat × Nat) (ad V : Nat → Nat) (hW : w2 cA X ad V (G, B)) (hX1 : X.1 ≤ MC) (hX2 : X.2 ≤ MS) (t : Nat) (ht : t < 19)  (x : Int64) : gMet l y_Na_setMagnitude w_Na_setMagnitude 3 83 D clS (gtys cA) lo MC MS [.ref (ad t), .long x] G B (gQv D clS lo (fun u => ∃ V1, w2s cA X ad (fun x => x = t) G V V1 u ∧ V1 t = x.toInt.natAbs)) := by
  have hB := w2_le hW
  obtain ⟨κ, hκ, hb1, hb2⟩ := hW
  have hb1 : B.1 + 57000 ≤ X.1 + ks κ 19 := hb1
  have hb2 : B.2 + 114000 ≤ X.2 + 2 * ks κ 19 := hb2
  obtain ⟨⟨a, z, f, hh, ha, hz, hD⟩, hc⟩ := hκ t ht
  have hkk := ks_1 hκ ht
  have hg := gcap_3 hc (show 3 ≤ 1500 by omega)
  have hg2 := (gcap_ge (κ t) (3)).1
  exact gMet_v (c_Na_setMagnitude l D cA lo MC MS G B t (ad t) a (κ t) (nI z) f hh ha (by omega)  x (by omega) (by omega) (by omega) (by omega)) (fun u hu => w2_set hκ hb1 hb2 ht (show 3 ≤ 1500 by omega) hu)
theorem n_increase (l : Launch) (D : va_G) (cA : Nat → ClassId) (lo MC MS : Nat) (G : gT) (B : Nat × Nat) (X : Nat × Nat) (ad V : Nat → Nat) (hW : w2 cA X ad V (G, B)) (hX1 : X.1 ≤ MC) (hX2 : X.2 ≤ MS) (t k : Nat) (ht : t < 19) (hv : V t < 1000000000 ^ k) (hk : k + 1 ≤ 1500) : gMet l y_Na_increase w_Na_increase 4 105 D clS (gtys cA) lo MC MS [.ref (ad t)] G B (gQv D clS lo (fun u => ∃ V1, w2s cA X ad (fun x => x = t) G V V1 u ∧ V1 t = V t + 1)) := by
  have hB := w2_le hW
  obtain ⟨κ, hκ, hb1, hb2⟩ := hW
  have hb1 : B.1 + 57000 ≤ X.1 + ks κ 19 := hb1
  have hb2 : B.2 + 114000 ≤ X.2 + 2 * ks κ 19 := hb2
  obtain ⟨⟨a, z, f, hh, ha, hz, hD⟩, hc⟩ := hκ t ht
  have hkk := ks_1 hκ ht
  have hzk := isD_size hD hv
  have hg := gcap_3 hc (show z + 1 ≤ 1500 by omega)
  have hg2 := (gcap_ge (κ t) (z + 1)).1
  exact gMet_v (c_Na_increase l D cA lo MC MS G B t (ad t) a z (κ t) f hh ha hz (by omega) (V t) hD (by omega) (by omega) (by omega) (by omega) (by omega)) (fun u hu => w2_set hκ hb1 hb2 ht (show z + 1 ≤ 1500 by omega) hu)
theorem n_isOdd (l : Launch) (D : va_G) (cA : Nat → ClassId) (lo MC MS : Nat) (G : gT) (B : Nat × Nat) (P : Nat → Prop) (h1 v1 : Nat) (hr1 : rd cA G P h1 v1)  (hB1 : B.1 ≤ MC) (hB2 : B.2 ≤ MS) : gMet l y_Na_isOdd w_Na_isOdd 1 21 D clS (gtys cA) lo MC MS [.ref h1] G B (gQi D clS lo (fun r u => u = (G, B) ∧ r = nI (v1 % 2))) := by
  obtain ⟨t1, κ1, hn1, hc1, a1, z1, f1, hh1, ha1, hz1, hD1⟩ := hr1
  exact c_Na_isOdd l D cA lo MC MS G B t1 h1 a1 z1 κ1 f1 hh1 ha1 hz1 (by omega) v1 hD1 hB1 hB2
theorem n_lowTwo (l : Launch) (D : va_G) (cA : Nat → ClassId) (lo MC MS : Nat) (G : gT) (B : Nat × Nat) (P : Nat → Prop) (h1 v1 : Nat) (hr1 : rd cA G P h1 v1) (hv : v1 < 1000000000 * 1000000000) (hB1 : B.1 ≤ MC) (hB2 : B.2 ≤ MS) : gMet l y_Na_lowTwo w_Na_lowTwo 1 21 D clS (gtys cA) lo MC MS [.ref h1] G B (gQl D clS lo (fun r u => u = (G, B) ∧ r = lN v1)) := by
  obtain ⟨t1, κ1, hn1, hc1, a1, z1, f1, hh1, ha1, hz1, hD1⟩ := hr1
  exact c_Na_lowTwo l D cA lo MC MS G B t1 h1 a1 z1 κ1 f1 hh1 ha1 hz1 (by omega) v1 hD1 hv hB1 hB2
theorem n_digits (l : Launch) (D : va_G) (cA : Nat → ClassId) (lo MC MS : Nat) (G : gT) (B : Nat × Nat) (P : Nat → Prop) (h1 v1 : Nat) (hr1 : rd cA G P h1 v1)  (hB1 : B.1 ≤ MC) (hB2 : B.2 ≤ MS) : gMet l y_Na_digits w_Na_digits 1 21 D clS (gtys cA) lo MC MS [.ref h1] G B (gQi D clS lo (fun r u => u = (G, B) ∧ ∃ K : Nat, r = nI K ∧ isK v1 K)) := by
  obtain ⟨t1, κ1, hn1, hc1, a1, z1, f1, hh1, ha1, hz1, hD1⟩ := hr1
  exact c_Na_digits l D cA lo MC MS G B t1 h1 a1 z1 κ1 f1 hh1 ha1 hz1 (by omega) v1 hD1 hB1 hB2
theorem n_decimal (l : Launch) (D : va_G) (cA : Nat → ClassId) (lo MC MS : Nat) (G : gT) (B : Nat × Nat) (P : Nat → Prop) (h1 v1 : Nat) (hr1 : rd cA G P h1 v1) (i : Nat) (hi : i < 2 ^ 31) (hB1 : B.1 ≤ MC) (hB2 : B.2 ≤ MS) : gMet l y_Na_decimal w_Na_decimal 1 21 D clS (gtys cA) lo MC MS [.ref h1, .int (nI i)] G B (gQi D clS lo (fun r u => u = (G, B) ∧ r = nI (v1 / 10 ^ i % 10))) := by
  obtain ⟨t1, κ1, hn1, hc1, a1, z1, f1, hh1, ha1, hz1, hD1⟩ := hr1
  exact c_Na_decimal l D cA lo MC MS G B t1 h1 a1 z1 κ1 f1 hh1 ha1 hz1 (by omega) v1 i hi hD1 hB1 hB2
theorem n_leading (l : Launch) (D : va_G) (cA : Nat → ClassId) (lo MC MS : Nat) (G : gT) (B : Nat × Nat) (P : Nat → Prop) (h1 v1 : Nat) (hr1 : rd cA G P h1 v1) (k td : Nat) (hk : k ≤ 50000) (hv : v1 < 1000000000 ^ (k + 3)) (htd1 : 1 ≤ td) (htd9 : td ≤ 9) (hB1 : B.1 ≤ MC) (hB2 : B.2 ≤ MS) : gMet l y_Na_leading w_Na_leading 1 21 D clS (gtys cA) lo MC MS [.ref h1, .int (nI (k + 3)), .int (nI td)] G B (gQl D clS lo (fun r u => u = (G, B) ∧ r = lN (v1 / (1000000000 ^ k * 10 ^ td)))) := by
  obtain ⟨t1, κ1, hn1, hc1, a1, z1, f1, hh1, ha1, hz1, hD1⟩ := hr1
  exact c_Na_leading l D cA lo MC MS G B t1 h1 a1 z1 κ1 f1 hh1 ha1 hz1 (by omega) v1 k td hk hD1 hv htd1 htd9 hB1 hB2
theorem n_compare (l : Launch) (D : va_G) (cA : Nat → ClassId) (lo MC MS : Nat) (G : gT) (B : Nat × Nat) (P P1 : Nat → Prop) (h1 v1 h2 v2 : Nat) (hr1 : rd cA G P h1 v1) (hr2 : rd cA G P1 h2 v2) (hB1 : B.1 ≤ MC) (hB2 : B.2 ≤ MS) : gMet l y_Na_compare w_Na_compare 0 0 D clS (gtys cA) lo MC MS [.ref h1, .ref h2] G B (gQi D clS lo (fun r u => u = (G, B) ∧ ((r = -1 ∧ v1 < v2) ∨ (r = nI 0 ∧ v1 = v2) ∨ (r = nI 1 ∧ v2 < v1)))) := by
  obtain ⟨t1, κ1, hn1, hc1, a1, z1, f1, hh1, ha1, hz1, hD1⟩ := hr1
  obtain ⟨t2, κ2, hn2, hc2, a2, z2, f2, hh2, ha2, hz2, hD2⟩ := hr2
  exact c_Na_compare l D cA lo MC MS G B t1 h1 a1 z1 κ1 f1 hh1 ha1 hz1 (by omega) t2 h2 a2 z2 κ2 f2 hh2 ha2 hz2 (by omega) v1 v2 hD1 hD2 hB1 hB2
