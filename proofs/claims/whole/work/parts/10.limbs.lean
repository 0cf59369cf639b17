/-! ===== LIMBS IN AN INT ARRAY; THE COUNT OF ROOM ===== -/
def df (f : Nat → Int32) : Nat → Nat := fun i => (f i).toNatClampNeg
def lim (f : Nat → Int32) (n : Nat) : Prop := ∀ i, i < n → f i = nI (df f i) ∧ df f i < 1000000000
theorem lim_dok {f : Nat → Int32} {n : Nat} (h : lim f n) : dok (df f) n := fun i hi => (h i hi).2
theorem lim_le {f : Nat → Int32} {n k : Nat} (h : lim f n) (hk : k ≤ n) : lim f k := fun i hi => h i (by omega)
theorem df_us {f : Nat → Int32} {i x : Nat} (hx : x < 2 ^ 31) : df (upd f i (nI x)) i = x := by
  unfold df
  rw [pk_us, nI_clamp hx]
theorem df_un {f : Nat → Int32} {i j : Nat} {y : Int32} (h : j ≠ i) : df (upd f i y) j = df f j := by
  unfold df
  rw [pk_un h]
theorem lim_upd {f : Nat → Int32} {n k x : Nat} (h : lim f n) (hx : x < 1000000000) : lim (upd f k (nI x)) n := fun i hi => by
  by_cases e : i = k
  · subst e
    rw [df_us (by omega), pk_us]
    exact ⟨rfl, hx⟩
  · rw [df_un e, pk_un e]
    exact h i hi
theorem lim_upd_s {f : Nat → Int32} {n x : Nat} (h : lim f n) (hx : x < 1000000000) : lim (upd f n (nI x)) (n + 1) := fun i hi => by
  by_cases e : i = n
  · subst e
    rw [df_us (by omega), pk_us]
    exact ⟨rfl, hx⟩
  · rw [df_un e, pk_un e]
    exact h i (by omega)
theorem dv_upd {f : Nat → Int32} {n : Nat} {y : Int32} : dv (df (upd f n y)) n = dv (df f) n := dv_congr (fun i hi => df_un (by omega))
theorem dv_upd_s {f : Nat → Int32} {n x : Nat} (hx : x < 2 ^ 31) : dv (df (upd f n (nI x))) (n + 1) = dv (df f) n + x * 1000000000 ^ n := by rw [dv_s, dv_upd, df_us hx]
/-- limbs beyond the size are 0 -/
def dx (f : Nat → Int32) (z : Nat) : Nat → Nat := fun i => if i < z then df f i else 0
theorem dx_in {f : Nat → Int32} {z i : Nat} (h : i < z) : dx f z i = df f i := if_pos h
theorem dx_out {f : Nat → Int32} {z i : Nat} (h : z ≤ i) : dx f z i = 0 := if_neg (by omega)
theorem dx_lt {f : Nat → Int32} {z i : Nat} (h : lim f z) : dx f z i < 1000000000 := by
  by_cases e : i < z
  · rw [dx_in e]; exact (h i e).2
  · rw [dx_out (by omega)]; decide
theorem dx_dok {f : Nat → Int32} {z n : Nat} (h : lim f z) : dok (dx f z) n := fun _ _ => dx_lt h
theorem dv_dx {f : Nat → Int32} {z n : Nat} (h : z ≤ n) : dv (dx f z) n = dv (df f) z := by
  obtain ⟨k, rfl⟩ : ∃ k, n = z + k := ⟨n - z, by omega⟩
  rw [dv_zero (fun i h1 _ => dx_out h1)]
  exact dv_congr (fun i hi => dx_in hi)
theorem cpy_in {f g : Nat → Int32} {n j : Nat} (h : j < n) : va_cpy f g 0 0 n j = f j := by
  rw [pk_cpy_in (Nat.zero_le _) (by omega)]
  congr 1
  omega
theorem cpy_out {f g : Nat → Int32} {n j : Nat} (h : n ≤ j) : va_cpy f g 0 0 n j = g j := pk_cpy_out (Or.inr (by omega))
theorem lim_congr {f g : Nat → Int32} {n : Nat} (h : lim f n) (e : ∀ i, i < n → g i = f i) : lim g n := fun i hi => by
  have := h i hi
  unfold df at *
  rw [e i hi]
  exact this
theorem dv_dcongr {f g : Nat → Int32} {n : Nat} (e : ∀ i, i < n → g i = f i) : dv (df g) n = dv (df f) n := dv_congr (fun i hi => by unfold df; rw [e i hi])
/-- the limbs f up to z are the number v, its top limb not 0 -/
def isD (f : Nat → Int32) (z v : Nat) : Prop := lim f z ∧ dtop (df f) z ∧ dv (df f) z = v
theorem isD_congr {f g : Nat → Int32} {z v : Nat} (h : isD f z v) (e : ∀ i, i < z → g i = f i) : isD g z v := by
  refine ⟨lim_congr h.1 e, ?_, by rw [dv_dcongr e]; exact h.2.2⟩
  rcases h.2.1 with q | q
  · exact Or.inl q
  · by_cases hz : z = 0
    · exact Or.inl hz
    · refine Or.inr ?_
      unfold df at *
      rw [e _ (by omega)]
      exact q
theorem isD_lt {f : Nat → Int32} {z v : Nat} (h : isD f z v) : v < 1000000000 ^ z := by rw [← h.2.2]; exact dv_lt (lim_dok h.1)
theorem isD_0 {f : Nat → Int32} : isD f 0 0 := ⟨fun i hi => absurd hi (Nat.not_lt_zero i), Or.inl rfl, rfl⟩
theorem isD_z0 {f : Nat → Int32} {z v : Nat} (h : isD f z v) : z = 0 ↔ v = 0 :=
  ⟨fun e => by subst e; exact h.2.2.symm, fun e => dv_eq0 h.2.1 (by rw [h.2.2]; exact e)⟩
theorem isD_ge {f : Nat → Int32} {z v : Nat} (h : isD f z v) (hz : 0 < z) : 1000000000 ^ (z - 1) ≤ v := by rw [← h.2.2]; exact dv_ge h.2.1 hz
theorem isD_size {f : Nat → Int32} {z v k : Nat} (h : isD f z v) (hv : v < 1000000000 ^ k) : z ≤ k := dv_size_le h.2.1 (by rw [h.2.2]; exact hv)
/-- how much room there is: the sum of the lengths -/
def ks (κ : Nat → Nat) : Nat → Nat
  | 0 => 0
  | n + 1 => ks κ n + κ n
theorem ks_le {κ : Nat → Nat} {M : Nat} (h : ∀ j, κ j ≤ M) : ∀ n, ks κ n ≤ n * M
  | 0 => by simp [ks]
  | n + 1 => by
    have := ks_le h n
    have := h n
    rw [Nat.succ_mul]
    simp only [ks]
    omega
theorem ks_up_ge {κ : Nat → Nat} {t x : Nat} : ∀ {n : Nat}, n ≤ t → ks (va_up κ t x) n = ks κ n
  | 0, _ => rfl
  | n + 1, h => by
    simp only [ks]
    rw [ks_up_ge (by omega), va_up_ne _ _ (by omega)]
theorem ks_up {κ : Nat → Nat} {t x : Nat} : ∀ {n : Nat}, t < n → ks (va_up κ t x) n + κ t = ks κ n + x
  | 0, h => absurd h (Nat.not_lt_zero _)
  | n + 1, h => by
    simp only [ks]
    by_cases e : t = n
    · subst e
      rw [ks_up_ge (Nat.le_refl _), va_up_self]
      omega
    · rw [va_up_ne _ _ (Ne.symm e)]
      have := ks_up (κ := κ) (x := x) (show t < n by omega)
      omega
