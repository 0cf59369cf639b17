theorem sc_261 {ta tb to k1 t1 : Nat} (hta : 11 ≤ ta) (hta2 : ta < 19) (htb : 11 ≤ tb) (htb2 : tb < 19) (htab : ¬ ta = tb) (hto : 20 ≤ to) (hto2 : to ≤ 23) (hkk : k1 + 5 ≤ 1499) (ht1 : 11 ≤ t1 ∧ ¬ t1 = 19 ∧ ¬ t1 = ta ∧ ¬ t1 = tb ∧ ¬ t1 = to) : ¬ (to = 5) := by omega
theorem sc_262 {ta tb to k1 t1 : Nat} (hta : 11 ≤ ta) (hta2 : ta < 19) (htb : 11 ≤ tb) (htb2 : tb < 19) (htab : ¬ ta = tb) (hto : 20 ≤ to) (hto2 : to ≤ 23) (hkk : k1 + 5 ≤ 1499) (ht1 : 11 ≤ t1 ∧ ¬ t1 = 19 ∧ ¬ t1 = ta ∧ ¬ t1 = tb ∧ ¬ t1 = to) : ¬ (t1 = 5) := by omega
theorem sc_263 {ta tb to k1 t1 : Nat} (hta : 11 ≤ ta) (hta2 : ta < 19) (htb : 11 ≤ tb) (htb2 : tb < 19) (htab : ¬ ta = tb) (hto : 20 ≤ to) (hto2 : to ≤ 23) (hkk : k1 + 5 ≤ 1499) (ht1 : 11 ≤ t1 ∧ ¬ t1 = 19 ∧ ¬ t1 = ta ∧ ¬ t1 = tb ∧ ¬ t1 = to) : ∀ x, (11 ≤ x ∧ ¬ x = 19 ∧ ¬ x = ta ∧ ¬ x = tb ∧ ¬ x = to) → ¬ (x = 5) := by intro x h; omega
theorem sc_264 {ta tb to k1 t1 : Nat} (hta : 11 ≤ ta) (hta2 : ta < 19) (htb : 11 ≤ tb) (htb2 : tb < 19) (htab : ¬ ta = tb) (hto : 20 ≤ to) (hto2 : to ≤ 23) (hkk : k1 + 5 ≤ 1499) (ht1 : 11 ≤ t1 ∧ ¬ t1 = 19 ∧ ¬ t1 = ta ∧ ¬ t1 = tb ∧ ¬ t1 = to) : ∀ x, (x < 11 ∨ x = 19 ∨ x = ta ∨ x = tb ∨ x = to) ∨ (x = 5) → (x < 11 ∨ x = 19 ∨ x = ta ∨ x = tb ∨ x = to) := by intro x h; omega
theorem sc_265 {ta tb to k1 t1 : Nat} (hta : 11 ≤ ta) (hta2 : ta < 19) (htb : 11 ≤ tb) (htb2 : tb < 19) (htab : ¬ ta = tb) (hto : 20 ≤ to) (hto2 : to ≤ 23) (hkk : k1 + 5 ≤ 1499) (ht1 : 11 ≤ t1 ∧ ¬ t1 = 19 ∧ ¬ t1 = ta ∧ ¬ t1 = tb ∧ ¬ t1 = to) : ∀ x, (11 ≤ x ∧ ¬ x = 19 ∧ ¬ x = ta ∧ ¬ x = tb ∧ ¬ x = to) → (¬ x = 6) := by intro x h; omega
theorem sc_266 {ta tb to k1 t1 : Nat} (hta : 11 ≤ ta) (hta2 : ta < 19) (htb : 11 ≤ tb) (htb2 : tb < 19) (htab : ¬ ta = tb) (hto : 20 ≤ to) (hto2 : to ≤ 23) (hkk : k1 + 5 ≤ 1499) (ht1 : 11 ≤ t1 ∧ ¬ t1 = 19 ∧ ¬ t1 = ta ∧ ¬ t1 = tb ∧ ¬ t1 = to) : k1 + 3 ≤ 1500 := by omega
theorem sc_267 {ta tb to k1 t1 : Nat} (hta : 11 ≤ ta) (hta2 : ta < 19) (htb : 11 ≤ tb) (htb2 : tb < 19) (htab : ¬ ta = tb) (hto : 20 ≤ to) (hto2 : to ≤ 23) (hkk : k1 + 5 ≤ 1499) (ht1 : 11 ≤ t1 ∧ ¬ t1 = 19 ∧ ¬ t1 = ta ∧ ¬ t1 = tb ∧ ¬ t1 = to) : ¬ (to = 6) := by omega
theorem sc_268 {ta tb to k1 t1 : Nat} (hta : 11 ≤ ta) (hta2 : ta < 19) (htb : 11 ≤ tb) (htb2 : tb < 19) (htab : ¬ ta = tb) (hto : 20 ≤ to) (hto2 : to ≤ 23) (hkk : k1 + 5 ≤ 1499) (ht1 : 11 ≤ t1 ∧ ¬ t1 = 19 ∧ ¬ t1 = ta ∧ ¬ t1 = tb ∧ ¬ t1 = to) : ¬ (t1 = 6) := by omega
theorem sc_269 {ta tb to k1 t1 : Nat} (hta : 11 ≤ ta) (hta2 : ta < 19) (htb : 11 ≤ tb) (htb2 : tb < 19) (htab : ¬ ta = tb) (hto : 20 ≤ to) (hto2 : to ≤ 23) (hkk : k1 + 5 ≤ 1499) (ht1 : 11 ≤ t1 ∧ ¬ t1 = 19 ∧ ¬ t1 = ta ∧ ¬ t1 = tb ∧ ¬ t1 = to) : ∀ x, (11 ≤ x ∧ ¬ x = 19 ∧ ¬ x = ta ∧ ¬ x = tb ∧ ¬ x = to) → ¬ (x = 6) := by intro x h; omega
theorem sc_270 {ta tb to k1 t1 : Nat} (hta : 11 ≤ ta) (hta2 : ta < 19) (htb : 11 ≤ tb) (htb2 : tb < 19) (htab : ¬ ta = tb) (hto : 20 ≤ to) (hto2 : to ≤ 23) (hkk : k1 + 5 ≤ 1499) (ht1 : 11 ≤ t1 ∧ ¬ t1 = 19 ∧ ¬ t1 = ta ∧ ¬ t1 = tb ∧ ¬ t1 = to) : ∀ x, (x < 11 ∨ x = 19 ∨ x = ta ∨ x = tb ∨ x = to) ∨ (x = 6) → (x < 11 ∨ x = 19 ∨ x = ta ∨ x = tb ∨ x = to) := by intro x h; omega
theorem sc_271 {ta tb to k1 t1 : Nat} (hta : 11 ≤ ta) (hta2 : ta < 19) (htb : 11 ≤ tb) (htb2 : tb < 19) (htab : ¬ ta = tb) (hto : 20 ≤ to) (hto2 : to ≤ 23) (hkk : k1 + 5 ≤ 1499) (ht1 : 11 ≤ t1 ∧ ¬ t1 = 19 ∧ ¬ t1 = ta ∧ ¬ t1 = tb ∧ ¬ t1 = to) : ∀ x, (11 ≤ x ∧ ¬ x = 19 ∧ ¬ x = ta ∧ ¬ x = tb ∧ ¬ x = to) → (3 ≤ x) := by intro x h; omega
theorem sc_272 {ta tb to k1 t1 : Nat} (hta : 11 ≤ ta) (hta2 : ta < 19) (htb : 11 ≤ tb) (htb2 : tb < 19) (htab : ¬ ta = tb) (hto : 20 ≤ to) (hto2 : to ≤ 23) (hkk : k1 + 5 ≤ 1499) (ht1 : 11 ≤ t1 ∧ ¬ t1 = 19 ∧ ¬ t1 = ta ∧ ¬ t1 = tb ∧ ¬ t1 = to) : k1 + 3 ≤ 1499 := by omega
theorem sc_273 {ta tb to k1 t1 : Nat} (hta : 11 ≤ ta) (hta2 : ta < 19) (htb : 11 ≤ tb) (htb2 : tb < 19) (htab : ¬ ta = tb) (hto : 20 ≤ to) (hto2 : to ≤ 23) (hkk : k1 + 5 ≤ 1499) (ht1 : 11 ≤ t1 ∧ ¬ t1 = 19 ∧ ¬ t1 = ta ∧ ¬ t1 = tb ∧ ¬ t1 = to) : ¬ (to < 3) := by omega
theorem sc_274 {ta tb to k1 t1 : Nat} (hta : 11 ≤ ta) (hta2 : ta < 19) (htb : 11 ≤ tb) (htb2 : tb < 19) (htab : ¬ ta = tb) (hto : 20 ≤ to) (hto2 : to ≤ 23) (hkk : k1 + 5 ≤ 1499) (ht1 : 11 ≤ t1 ∧ ¬ t1 = 19 ∧ ¬ t1 = ta ∧ ¬ t1 = tb ∧ ¬ t1 = to) : ¬ (t1 < 3) := by omega
theorem sc_275 {ta tb to k1 t1 : Nat} (hta : 11 ≤ ta) (hta2 : ta < 19) (htb : 11 ≤ tb) (htb2 : tb < 19) (htab : ¬ ta = tb) (hto : 20 ≤ to) (hto2 : to ≤ 23) (hkk : k1 + 5 ≤ 1499) (ht1 : 11 ≤ t1 ∧ ¬ t1 = 19 ∧ ¬ t1 = ta ∧ ¬ t1 = tb ∧ ¬ t1 = to) : ∀ x, (11 ≤ x ∧ ¬ x = 19 ∧ ¬ x = ta ∧ ¬ x = tb ∧ ¬ x = to) → ¬ (x < 3) := by intro x h; omega
theorem sc_276 {ta tb to k1 t1 : Nat} (hta : 11 ≤ ta) (hta2 : ta < 19) (htb : 11 ≤ tb) (htb2 : tb < 19) (htab : ¬ ta = tb) (hto : 20 ≤ to) (hto2 : to ≤ 23) (hkk : k1 + 5 ≤ 1499) (ht1 : 11 ≤ t1 ∧ ¬ t1 = 19 ∧ ¬ t1 = ta ∧ ¬ t1 = tb ∧ ¬ t1 = to) : ∀ x, (x < 11 ∨ x = 19 ∨ x = ta ∨ x = tb ∨ x = to) ∨ (x < 3) → (x < 11 ∨ x = 19 ∨ x = ta ∨ x = tb ∨ x = to) := by intro x h; omega
theorem sc_277 {ta tb to k1 t1 : Nat} (hta : 11 ≤ ta) (hta2 : ta < 19) (htb : 11 ≤ tb) (htb2 : tb < 19) (htab : ¬ ta = tb) (hto : 20 ≤ to) (hto2 : to ≤ 23) (hkk : k1 + 5 ≤ 1499) (ht1 : 11 ≤ t1 ∧ ¬ t1 = 19 ∧ ¬ t1 = ta ∧ ¬ t1 = tb ∧ ¬ t1 = to) : ¬ (to = 10) := by omega
theorem sc_278 {ta tb to k1 t1 : Nat} (hta : 11 ≤ ta) (hta2 : ta < 19) (htb : 11 ≤ tb) (htb2 : tb < 19) (htab : ¬ ta = tb) (hto : 20 ≤ to) (hto2 : to ≤ 23) (hkk : k1 + 5 ≤ 1499) (ht1 : 11 ≤ t1 ∧ ¬ t1 = 19 ∧ ¬ t1 = ta ∧ ¬ t1 = tb ∧ ¬ t1 = to) : ¬ (t1 = 10) := by omega
theorem sc_279 {ta tb to k1 t1 : Nat} (hta : 11 ≤ ta) (hta2 : ta < 19) (htb : 11 ≤ tb) (htb2 : tb < 19) (htab : ¬ ta = tb) (hto : 20 ≤ to) (hto2 : to ≤ 23) (hkk : k1 + 5 ≤ 1499) (ht1 : 11 ≤ t1 ∧ ¬ t1 = 19 ∧ ¬ t1 = ta ∧ ¬ t1 = tb ∧ ¬ t1 = to) : ∀ x, (11 ≤ x ∧ ¬ x = 19 ∧ ¬ x = ta ∧ ¬ x = tb ∧ ¬ x = to) → ¬ (x = 10) := by intro x h; omega
theorem sc_280 {ta tb to k1 t1 : Nat} (hta : 11 ≤ ta) (hta2 : ta < 19) (htb : 11 ≤ tb) (htb2 : tb < 19) (htab : ¬ ta = tb) (hto : 20 ≤ to) (hto2 : to ≤ 23) (hkk : k1 + 5 ≤ 1499) (ht1 : 11 ≤ t1 ∧ ¬ t1 = 19 ∧ ¬ t1 = ta ∧ ¬ t1 = tb ∧ ¬ t1 = to) : ∀ x, (x < 11 ∨ x = 19 ∨ x = ta ∨ x = tb ∨ x = to) ∨ (x = 10) → (x < 11 ∨ x = 19 ∨ x = ta ∨ x = tb ∨ x = to) := by intro x h; omega
theorem sc_281 {ta tb to k1 t1 : Nat} (hta : 11 ≤ ta) (hta2 : ta < 19) (htb : 11 ≤ tb) (htb2 : tb < 19) (htab : ¬ ta = tb) (hto : 20 ≤ to) (hto2 : to ≤ 23) (hkk : k1 + 5 ≤ 1499) (ht1 : 11 ≤ t1 ∧ ¬ t1 = 19 ∧ ¬ t1 = ta ∧ ¬ t1 = tb ∧ ¬ t1 = to) : ∀ x, (11 ≤ x ∧ ¬ x = 19 ∧ ¬ x = ta ∧ ¬ x = tb ∧ ¬ x = to) → (11 ≤ x ∧ ¬ x = 19) := by intro x h; omega
theorem sc_282 {ta tb to k1 t1 : Nat} (hta : 11 ≤ ta) (hta2 : ta < 19) (htb : 11 ≤ tb) (htb2 : tb < 19) (htab : ¬ ta = tb) (hto : 20 ≤ to) (hto2 : to ≤ 23) (hkk : k1 + 5 ≤ 1499) (ht1 : 11 ≤ t1 ∧ ¬ t1 = 19 ∧ ¬ t1 = ta ∧ ¬ t1 = tb ∧ ¬ t1 = to) : k1 ≤ k1 + 3 := by omega
theorem sc_283 {ta tb to k1 t1 : Nat} (hta : 11 ≤ ta) (hta2 : ta < 19) (htb : 11 ≤ tb) (htb2 : tb < 19) (htab : ¬ ta = tb) (hto : 20 ≤ to) (hto2 : to ≤ 23) (hkk : k1 + 5 ≤ 1499) (ht1 : 11 ≤ t1 ∧ ¬ t1 = 19 ∧ ¬ t1 = ta ∧ ¬ t1 = tb ∧ ¬ t1 = to) : k1 + 3 + 1 ≤ 1499 := by omega
theorem sc_284 {ta tb to k1 t1 : Nat} (hta : 11 ≤ ta) (hta2 : ta < 19) (htb : 11 ≤ tb) (htb2 : tb < 19) (htab : ¬ ta = tb) (hto : 20 ≤ to) (hto2 : to ≤ 23) (hkk : k1 + 5 ≤ 1499) (ht1 : 11 ≤ t1 ∧ ¬ t1 = 19 ∧ ¬ t1 = ta ∧ ¬ t1 = tb ∧ ¬ t1 = to) : ¬ (to = 8) := by omega
theorem sc_285 {ta tb to k1 t1 : Nat} (hta : 11 ≤ ta) (hta2 : ta < 19) (htb : 11 ≤ tb) (htb2 : tb < 19) (htab : ¬ ta = tb) (hto : 20 ≤ to) (hto2 : to ≤ 23) (hkk : k1 + 5 ≤ 1499) (ht1 : 11 ≤ t1 ∧ ¬ t1 = 19 ∧ ¬ t1 = ta ∧ ¬ t1 = tb ∧ ¬ t1 = to) : ¬ (t1 = 8) := by omega
theorem sc_286 {ta tb to k1 t1 : Nat} (hta : 11 ≤ ta) (hta2 : ta < 19) (htb : 11 ≤ tb) (htb2 : tb < 19) (htab : ¬ ta = tb) (hto : 20 ≤ to) (hto2 : to ≤ 23) (hkk : k1 + 5 ≤ 1499) (ht1 : 11 ≤ t1 ∧ ¬ t1 = 19 ∧ ¬ t1 = ta ∧ ¬ t1 = tb ∧ ¬ t1 = to) : ∀ x, (11 ≤ x ∧ ¬ x = 19 ∧ ¬ x = ta ∧ ¬ x = tb ∧ ¬ x = to) → ¬ (x = 8) := by intro x h; omega
theorem sc_287 {ta tb to k1 t1 : Nat} (hta : 11 ≤ ta) (hta2 : ta < 19) (htb : 11 ≤ tb) (htb2 : tb < 19) (htab : ¬ ta = tb) (hto : 20 ≤ to) (hto2 : to ≤ 23) (hkk : k1 + 5 ≤ 1499) (ht1 : 11 ≤ t1 ∧ ¬ t1 = 19 ∧ ¬ t1 = ta ∧ ¬ t1 = tb ∧ ¬ t1 = to) : ∀ x, (x < 11 ∨ x = 19 ∨ x = ta ∨ x = tb ∨ x = to) ∨ (x = 8) → (x < 11 ∨ x = 19 ∨ x = ta ∨ x = tb ∨ x = to) := by intro x h; omega
theorem sc_288 {ta tb to k1 t1 : Nat} (hta : 11 ≤ ta) (hta2 : ta < 19) (htb : 11 ≤ tb) (htb2 : tb < 19) (htab : ¬ ta = tb) (hto : 20 ≤ to) (hto2 : to ≤ 23) (hkk : k1 + 5 ≤ 1499) (ht1 : 11 ≤ t1 ∧ ¬ t1 = 19 ∧ ¬ t1 = ta ∧ ¬ t1 = tb ∧ ¬ t1 = to) : ∀ x, x < 19 → ¬ x = to := by intro x h; omega
theorem sc_289 {ta tb to k1 t1 : Nat} (hta : 11 ≤ ta) (hta2 : ta < 19) (htb : 11 ≤ tb) (htb2 : tb < 19) (htab : ¬ ta = tb) (hto : 20 ≤ to) (hto2 : to ≤ 23) (hkk : k1 + 5 ≤ 1499) (ht1 : 11 ≤ t1 ∧ ¬ t1 = 19 ∧ ¬ t1 = ta ∧ ¬ t1 = tb ∧ ¬ t1 = to) : ¬ (30 = to) := by omega
theorem sc_290 {ta tb to k1 t1 : Nat} (hta : 11 ≤ ta) (hta2 : ta < 19) (htb : 11 ≤ tb) (htb2 : tb < 19) (htab : ¬ ta = tb) (hto : 20 ≤ to) (hto2 : to ≤ 23) (hkk : k1 + 5 ≤ 1499) (ht1 : 11 ≤ t1 ∧ ¬ t1 = 19 ∧ ¬ t1 = ta ∧ ¬ t1 = tb ∧ ¬ t1 = to) : ¬ (19 = to) := by omega
theorem sc_291 {ta tb to k1 t1 : Nat} (hta : 11 ≤ ta) (hta2 : ta < 19) (htb : 11 ≤ tb) (htb2 : tb < 19) (htab : ¬ ta = tb) (hto : 20 ≤ to) (hto2 : to ≤ 23) (hkk : k1 + 5 ≤ 1499) (ht1 : 11 ≤ t1 ∧ ¬ t1 = 19 ∧ ¬ t1 = ta ∧ ¬ t1 = tb ∧ ¬ t1 = to) : ¬ (t1 = to) := by omega
theorem sc_292 {ta tb to k1 t1 : Nat} (hta : 11 ≤ ta) (hta2 : ta < 19) (htb : 11 ≤ tb) (htb2 : tb < 19) (htab : ¬ ta = tb) (hto : 20 ≤ to) (hto2 : to ≤ 23) (hkk : k1 + 5 ≤ 1499) (ht1 : 11 ≤ t1 ∧ ¬ t1 = 19 ∧ ¬ t1 = ta ∧ ¬ t1 = tb ∧ ¬ t1 = to) : ¬ (5 = to) := by omega
theorem sc_293 {ta tb to k1 t1 : Nat} (hta : 11 ≤ ta) (hta2 : ta < 19) (htb : 11 ≤ tb) (htb2 : tb < 19) (htab : ¬ ta = tb) (hto : 20 ≤ to) (hto2 : to ≤ 23) (hkk : k1 + 5 ≤ 1499) (ht1 : 11 ≤ t1 ∧ ¬ t1 = 19 ∧ ¬ t1 = ta ∧ ¬ t1 = tb ∧ ¬ t1 = to) : ¬ (6 = to) := by omega
theorem sc_294 {ta tb to k1 t1 : Nat} (hta : 11 ≤ ta) (hta2 : ta < 19) (htb : 11 ≤ tb) (htb2 : tb < 19) (htab : ¬ ta = tb) (hto : 20 ≤ to) (hto2 : to ≤ 23) (hkk : k1 + 5 ≤ 1499) (ht1 : 11 ≤ t1 ∧ ¬ t1 = 19 ∧ ¬ t1 = ta ∧ ¬ t1 = tb ∧ ¬ t1 = to) : ¬ (0 = to) := by omega
theorem sc_295 {ta tb to k1 t1 : Nat} (hta : 11 ≤ ta) (hta2 : ta < 19) (htb : 11 ≤ tb) (htb2 : tb < 19) (htab : ¬ ta = tb) (hto : 20 ≤ to) (hto2 : to ≤ 23) (hkk : k1 + 5 ≤ 1499) (ht1 : 11 ≤ t1 ∧ ¬ t1 = 19 ∧ ¬ t1 = ta ∧ ¬ t1 = tb ∧ ¬ t1 = to) : ¬ (1 = to) := by omega
theorem sc_296 {ta tb to k1 t1 : Nat} (hta : 11 ≤ ta) (hta2 : ta < 19) (htb : 11 ≤ tb) (htb2 : tb < 19) (htab : ¬ ta = tb) (hto : 20 ≤ to) (hto2 : to ≤ 23) (hkk : k1 + 5 ≤ 1499) (ht1 : 11 ≤ t1 ∧ ¬ t1 = 19 ∧ ¬ t1 = ta ∧ ¬ t1 = tb ∧ ¬ t1 = to) : ¬ (10 = to) := by omega
theorem sc_297 {ta tb to k1 t1 : Nat} (hta : 11 ≤ ta) (hta2 : ta < 19) (htb : 11 ≤ tb) (htb2 : tb < 19) (htab : ¬ ta = tb) (hto : 20 ≤ to) (hto2 : to ≤ 23) (hkk : k1 + 5 ≤ 1499) (ht1 : 11 ≤ t1 ∧ ¬ t1 = 19 ∧ ¬ t1 = ta ∧ ¬ t1 = tb ∧ ¬ t1 = to) : ∀ x, (11 ≤ x ∧ ¬ x = 19 ∧ ¬ x = ta ∧ ¬ x = tb ∧ ¬ x = to) → ¬ (x = to) := by intro x h; omega
theorem sc_298 {ta tb to k1 t1 : Nat} (hta : 11 ≤ ta) (hta2 : ta < 19) (htb : 11 ≤ tb) (htb2 : tb < 19) (htab : ¬ ta = tb) (hto : 20 ≤ to) (hto2 : to ≤ 23) (hkk : k1 + 5 ≤ 1499) (ht1 : 11 ≤ t1 ∧ ¬ t1 = 19 ∧ ¬ t1 = ta ∧ ¬ t1 = tb ∧ ¬ t1 = to) : ∀ x, (x < 11 ∨ x = 19 ∨ x = ta ∨ x = tb ∨ x = to) ∨ (x = to) → (x < 11 ∨ x = 19 ∨ x = ta ∨ x = tb ∨ x = to) := by intro x h; omega
theorem sc_299 {ta tb to k1 t1 : Nat} (hta : 11 ≤ ta) (hta2 : ta < 19) (htb : 11 ≤ tb) (htb2 : tb < 19) (htab : ¬ ta = tb) (hto : 20 ≤ to) (hto2 : to ≤ 23) (hkk : k1 + 5 ≤ 1499) (ht1 : 11 ≤ t1 ∧ ¬ t1 = 19 ∧ ¬ t1 = ta ∧ ¬ t1 = tb ∧ ¬ t1 = to) : 5 ≤ 10 ∧ ¬ 10 = 19 ∧ ¬ 10 = ta ∧ ¬ 10 = tb := by omega
theorem sc_300 {ta tb to k1 t1 : Nat} (hta : 11 ≤ ta) (hta2 : ta < 19) (htb : 11 ≤ tb) (htb2 : tb < 19) (htab : ¬ ta = tb) (hto : 20 ≤ to) (hto2 : to ≤ 23) (hkk : k1 + 5 ≤ 1499) (ht1 : 11 ≤ t1 ∧ ¬ t1 = 19 ∧ ¬ t1 = ta ∧ ¬ t1 = tb ∧ ¬ t1 = to) : 5 ≤ 5 ∧ ¬ 5 = 19 ∧ ¬ 5 = ta ∧ ¬ 5 = tb := by omega
theorem sc_301 {ta tb to k1 t1 : Nat} (hta : 11 ≤ ta) (hta2 : ta < 19) (htb : 11 ≤ tb) (htb2 : tb < 19) (htab : ¬ ta = tb) (hto : 20 ≤ to) (hto2 : to ≤ 23) (hkk : k1 + 5 ≤ 1499) (ht1 : 11 ≤ t1 ∧ ¬ t1 = 19 ∧ ¬ t1 = ta ∧ ¬ t1 = tb ∧ ¬ t1 = to) : k1 + 3 ≤ k1 + 4 := by omega
theorem sc_302 {ta tb to k1 t1 : Nat} (hta : 11 ≤ ta) (hta2 : ta < 19) (htb : 11 ≤ tb) (htb2 : tb < 19) (htab : ¬ ta = tb) (hto : 20 ≤ to) (hto2 : to ≤ 23) (hkk : k1 + 5 ≤ 1499) (ht1 : 11 ≤ t1 ∧ ¬ t1 = 19 ∧ ¬ t1 = ta ∧ ¬ t1 = tb ∧ ¬ t1 = to) : 3 ≤ k1 + 4 := by omega
theorem sc_303 {ta tb to k1 t1 : Nat} (hta : 11 ≤ ta) (hta2 : ta < 19) (htb : 11 ≤ tb) (htb2 : tb < 19) (htab : ¬ ta = tb) (hto : 20 ≤ to) (hto2 : to ≤ 23) (hkk : k1 + 5 ≤ 1499) (ht1 : 11 ≤ t1 ∧ ¬ t1 = 19 ∧ ¬ t1 = ta ∧ ¬ t1 = tb ∧ ¬ t1 = to) : k1 + 4 ≤ 1499 := by omega
theorem sc_304 {ta tb to k1 t1 : Nat} (hta : 11 ≤ ta) (hta2 : ta < 19) (htb : 11 ≤ tb) (htb2 : tb < 19) (htab : ¬ ta = tb) (hto : 20 ≤ to) (hto2 : to ≤ 23) (hkk : k1 + 5 ≤ 1499) (ht1 : 11 ≤ t1 ∧ ¬ t1 = 19 ∧ ¬ t1 = ta ∧ ¬ t1 = tb ∧ ¬ t1 = to) : ¬ (30 < 5 ∨ 30 = 19 ∨ 30 = ta ∨ 30 = tb) := by omega
theorem sc_305 {ta tb to k1 t1 : Nat} (hta : 11 ≤ ta) (hta2 : ta < 19) (htb : 11 ≤ tb) (htb2 : tb < 19) (htab : ¬ ta = tb) (hto : 20 ≤ to) (hto2 : to ≤ 23) (hkk : k1 + 5 ≤ 1499) (ht1 : 11 ≤ t1 ∧ ¬ t1 = 19 ∧ ¬ t1 = ta ∧ ¬ t1 = tb ∧ ¬ t1 = to) : ¬ (t1 < 5 ∨ t1 = 19 ∨ t1 = ta ∨ t1 = tb) := by omega
theorem sc_306 {ta tb to k1 t1 : Nat} (hta : 11 ≤ ta) (hta2 : ta < 19) (htb : 11 ≤ tb) (htb2 : tb < 19) (htab : ¬ ta = tb) (hto : 20 ≤ to) (hto2 : to ≤ 23) (hkk : k1 + 5 ≤ 1499) (ht1 : 11 ≤ t1 ∧ ¬ t1 = 19 ∧ ¬ t1 = ta ∧ ¬ t1 = tb ∧ ¬ t1 = to) : ¬ (to < 5 ∨ to = 19 ∨ to = ta ∨ to = tb) := by omega
theorem sc_307 {ta tb to k1 t1 : Nat} (hta : 11 ≤ ta) (hta2 : ta < 19) (htb : 11 ≤ tb) (htb2 : tb < 19) (htab : ¬ ta = tb) (hto : 20 ≤ to) (hto2 : to ≤ 23) (hkk : k1 + 5 ≤ 1499) (ht1 : 11 ≤ t1 ∧ ¬ t1 = 19 ∧ ¬ t1 = ta ∧ ¬ t1 = tb ∧ ¬ t1 = to) : ¬ (5 < 5 ∨ 5 = 19 ∨ 5 = ta ∨ 5 = tb) := by omega
theorem sc_308 {ta tb to k1 t1 : Nat} (hta : 11 ≤ ta) (hta2 : ta < 19) (htb : 11 ≤ tb) (htb2 : tb < 19) (htab : ¬ ta = tb) (hto : 20 ≤ to) (hto2 : to ≤ 23) (hkk : k1 + 5 ≤ 1499) (ht1 : 11 ≤ t1 ∧ ¬ t1 = 19 ∧ ¬ t1 = ta ∧ ¬ t1 = tb ∧ ¬ t1 = to) : ¬ (6 < 5 ∨ 6 = 19 ∨ 6 = ta ∨ 6 = tb) := by omega
theorem sc_309 {ta tb to k1 t1 : Nat} (hta : 11 ≤ ta) (hta2 : ta < 19) (htb : 11 ≤ tb) (htb2 : tb < 19) (htab : ¬ ta = tb) (hto : 20 ≤ to) (hto2 : to ≤ 23) (hkk : k1 + 5 ≤ 1499) (ht1 : 11 ≤ t1 ∧ ¬ t1 = 19 ∧ ¬ t1 = ta ∧ ¬ t1 = tb ∧ ¬ t1 = to) : ¬ (10 < 5 ∨ 10 = 19 ∨ 10 = ta ∨ 10 = tb) := by omega
theorem sc_310 {ta tb to k1 t1 : Nat} (hta : 11 ≤ ta) (hta2 : ta < 19) (htb : 11 ≤ tb) (htb2 : tb < 19) (htab : ¬ ta = tb) (hto : 20 ≤ to) (hto2 : to ≤ 23) (hkk : k1 + 5 ≤ 1499) (ht1 : 11 ≤ t1 ∧ ¬ t1 = 19 ∧ ¬ t1 = ta ∧ ¬ t1 = tb ∧ ¬ t1 = to) : ∀ x, (11 ≤ x ∧ ¬ x = 19 ∧ ¬ x = ta ∧ ¬ x = tb ∧ ¬ x = to) → ¬ (x < 5 ∨ x = 19 ∨ x = ta ∨ x = tb) := by intro x h; omega
theorem sc_311 {ta tb to k1 t1 : Nat} (hta : 11 ≤ ta) (hta2 : ta < 19) (htb : 11 ≤ tb) (htb2 : tb < 19) (htab : ¬ ta = tb) (hto : 20 ≤ to) (hto2 : to ≤ 23) (hkk : k1 + 5 ≤ 1499) (ht1 : 11 ≤ t1 ∧ ¬ t1 = 19 ∧ ¬ t1 = ta ∧ ¬ t1 = tb ∧ ¬ t1 = to) : ∀ x, (x < 11 ∨ x = 19 ∨ x = ta ∨ x = tb ∨ x = to) ∨ (x < 5 ∨ x = 19 ∨ x = ta ∨ x = tb) → (x < 11 ∨ x = 19 ∨ x = ta ∨ x = tb ∨ x = to) := by intro x h; omega
theorem sc_312 {ta tb to k1 t1 : Nat} (hta : 11 ≤ ta) (hta2 : ta < 19) (htb : 11 ≤ tb) (htb2 : tb < 19) (htab : ¬ ta = tb) (hto : 20 ≤ to) (hto2 : to ≤ 23) (hkk : k1 + 5 ≤ 1499) (ht1 : 11 ≤ t1 ∧ ¬ t1 = 19 ∧ ¬ t1 = ta ∧ ¬ t1 = tb ∧ ¬ t1 = to) : k1 + 3 + 1 ≤ 1500 := by omega
theorem sc_313 {ta tb to k1 t1 : Nat} (hta : 11 ≤ ta) (hta2 : ta < 19) (htb : 11 ≤ tb) (htb2 : tb < 19) (htab : ¬ ta = tb) (hto : 20 ≤ to) (hto2 : to ≤ 23) (hkk : k1 + 5 ≤ 1499) (ht1 : 11 ≤ t1 ∧ ¬ t1 = 19 ∧ ¬ t1 = ta ∧ ¬ t1 = tb ∧ ¬ t1 = to) : k1 + 3 + 1 ≤ k1 + 4 := by omega
set_option maxHeartbeats 4000000 in
set_option maxRecDepth 100000 in
theorem n_setRounded (l : Launch) (D : va_G) (cA : Nat → ClassId) (lo MC MS : Nat) (G : gT) (B : Nat × Nat) (X : Nat × Nat) (ad V : Nat → Nat) (hW : w2 cA X ad V (G, B)) (hX1 : X.1 ≤ MC) (hX2 : X.2 ≤ MS) (hk hd hc : Nat) (hhk : G hk = some (30, .inr (0, [.ref hd, .ref hc, .ref (ad 5), .ref (ad 6), .ref (ad 7), .ref (ad 8), .ref (ad 9), .ref (ad 10)]))) (hhd : G hd = some (30, .inr (2, [.ref (ad 0), .ref (ad 1), .ref (ad 2)]))) (hcd : cdO ad hd hc G) (hf ta tb to : Nat) (sf : Int32) (hhf : G hf = some (to, .inr (3, [.int sf, .ref (ad ta), .ref (ad tb)]))) (hta : 11 ≤ ta) (hta2 : ta < 19) (htb : 11 ≤ tb) (htb2 : tb < 19) (htab : ¬ ta = tb) (hto : 20 ≤ to) (hto2 : to ≤ 23) (h1 : Nat) (p1 : Int) (q1 k1 : Nat) (hr1 : rf cA G (fun x => 11 ≤ x ∧ ¬ x = 19 ∧ ¬ x = ta ∧ ¬ x = tb ∧ ¬ x = to) h1 p1 q1) (hp1 : p1.natAbs < 1000000000 ^ k1) (hq1 : q1 < 1000000000 ^ k1) (hq01 : 0 < q1) (hco1 : Nat.Coprime p1.natAbs q1) (rule st : Nat) (hru : rule < 4) (hst1 : 0 < st) (hst2 : st ≤ 1000000000) (hkk : k1 + 5 ≤ 1499) : gMet l y_Ca_setRounded w_Ca_setRounded 7 187 D clS (gtys cA) lo MC MS [.ref hk, .ref hf, .ref h1, .int (nI rule), .int (nI st)] G B (gQv D clS lo (fT cA X ad hd hc (fun x => x < 11 ∨ x = 19 ∨ x = ta ∨ x = tb ∨ x = to) G V hf ta tb to (frn (p1.sign * (((p1.natAbs * st / q1 + b01 (gof p1 q1 (p1.natAbs * st / q1) (p1.natAbs * st % q1) rule)) : Nat) : Int)) st) (rdd (p1.sign * (((p1.natAbs * st / q1 + b01 (gof p1 q1 (p1.natAbs * st / q1) (p1.natAbs * st % q1) rule)) : Nat) : Int)).natAbs st))) := by
  refine g_metv (cc := prog_2_method_5_code) (nL := 5) (L := [(0, .ref hk), (1, .ref hf), (2, .ref h1), (3, .int (nI rule)), (4, .int (nI st))]) (by decide +kernel) rfl (Nat.le_of_ble_eq_true rfl) rfl ?_
  intro p e R s m args below meth c Q hF hRc hRs hRf hRl hret
  obtain ⟨hx, hb, hr, hml, hts0, hown, hlocks, hin, hK, hlo, hZ⟩ := hF
  have hts : ∀ w ∈ tbg, w.before args s = true := fun w h => hts0 w (List.mem_cons_of_mem _ h)
  obtain ⟨t1, a1, b1, ht1, hh1, hra1, hrb1⟩ := id hr1
  have ht1 : 11 ≤ t1 ∧ ¬ t1 = 19 ∧ ¬ t1 = ta ∧ ¬ t1 = tb ∧ ¬ t1 = to := ht1
  obtain ⟨ga0, gb0, gc0, gd0, hhc⟩ := id hcd
  have hS0 : w2s cA X ad (fun x => x < 11 ∨ x = 19 ∨ x = ta ∨ x = tb ∨ x = to) G V V (G, B) := w2s_rf hW
  have bl_1 : B.1 ≤ MC := Nat.le_trans (w2_le hW).1 hX1
  have bl_2 : B.2 ≤ MS := Nat.le_trans (w2_le hW).2 hX2
  have hstl : st < 1000000000 ^ 3 := by
    have : (1000000000 : Nat) ^ 3 = 1000000000000000000000000000 := by decide
    omega
  refine gs (pc' := 1) (fun _ _ _ _ _ hl => lv_aload_n hx hb d_Ca_setRounded_0 rfl (lv_at hl 0 rfl)) ?_
  refine g_get hx hb hts hin_Ca hown hK hhk rfl 2 (by decide) (hts _ wm132) (fun _ h9 => h9) rfl d_Ca_setRounded_1 ?_
  refine gs (pc' := 6) (fun _ _ _ _ _ hl => lv_iload hx hb d_Ca_setRounded_4 (lv_at hl 4 rfl)) ?_
  refine gs (pc' := 7) (fun _ _ _ _ _ hl => lv_i2l (v := lN st) hx hb d_Ca_setRounded_6 (nI_l (by omega))) ?_
  obtain ⟨κo_3, ao_3, zo_3, fo_3, hho_3, hao_3, hzo_3, hDo_3, hco_3⟩ := w2_N hW (show 5 < 19 by decide)
  have hbo_3 : zo_3 ≤ 3000 := Nat.le_trans hzo_3 hco_3
  refine g_outv hlo (g_runV (As := [.long (lN st)]) (rest := []) ⟨hx, hb, hml, hown, hts⟩ hK hZ hRc hRs (n_setMagnitude l D cA lo MC MS G B X ad V hW hX1 hX2 5 (by decide) (lN st)) (fun _ _ => cwV 1 hts (tb_good (tb_cons wm394 (tb_cons wm185 (tb_cons wm186 (tb_cons wm5 k_Na_setMagnitude))))) rfl rfl rfl (by decide +kernel) ⟨by rw [hRf]; exact Nat.le_of_ble_eq_true rfl, by rw [hRl]; exact Nat.le_of_ble_eq_true rfl⟩) hho_3 rfl bl_1 bl_2 rfl (Nat.le_of_ble_eq_true rfl) d_Ca_setRounded_7) (fun G_4 B_5 p_6 => ?_)
  obtain ⟨V_7, s_8, k_9⟩ := p_6
  have k_10 : V_7 5 = st := k_9.trans (lN_natAbs (by omega))
  have lt_11 : st < 1000000000 ^ 3 := by omega
  have f_12 : G_4 hk = some (30, .inr (0, [.ref hd, .ref hc, .ref (ad 5), .ref (ad 6), .ref (ad 7), .ref (ad 8), .ref (ad 9), .ref (ad 10)])) := s_8.2.2 _ _ hhk (show ¬ (30 = 5) by decide)
  have f_13 : G_4 hd = some (30, .inr (2, [.ref (ad 0), .ref (ad 1), .ref (ad 2)])) := s_8.2.2 _ _ hhd (show ¬ (30 = 5) by decide)
  have f_14 : G_4 hc = some (19, .inr (1, [.ref hd, .ref (ad 3), .ref (ad 4), .long ga0, .long gb0, .long gc0, .long gd0])) := s_8.2.2 _ _ hhc (show ¬ (19 = 5) by decide)
  have f_15 : G_4 hf = some (to, .inr (3, [.int sf, .ref (ad ta), .ref (ad tb)])) := s_8.2.2 _ _ hhf (sc_261 hta hta2 htb htb2 htab hto hto2 hkk ht1)
  have f_16 : G_4 h1 = some (t1, .inr (3, [.int (sgI p1), .ref a1, .ref b1])) := s_8.2.2 _ _ hh1 (sc_262 hta hta2 htb htb2 htab hto hto2 hkk ht1)
  have rd_17 := rd_fr hra1 s_8.2.2 (sc_263 hta hta2 htb htb2 htab hto hto2 hkk ht1)
  have rd_18 := rd_fr hrb1 s_8.2.2 (sc_263 hta hta2 htb htb2 htab hto hto2 hkk ht1)
  have W_19 := s_8.1
  have S_20 : w2s cA X ad (fun x => x < 11 ∨ x = 19 ∨ x = ta ∨ x = tb ∨ x = to) G V V_7 (G_4, B_5) := w2s_mono (w2s_tr hS0 s_8) (sc_264 hta hta2 htb htb2 htab hto hto2 hkk ht1)
  have bl_21 : B_5.1 ≤ MC := Nat.le_trans (w2_le W_19).1 hX1
  have bl_22 : B_5.2 ≤ MS := Nat.le_trans (w2_le W_19).2 hX2
  refine gs (pc' := 11) (fun _ _ _ _ _ hl => lv_aload_n hx hb d_Ca_setRounded_10 rfl (lv_at hl 0 rfl)) ?_
  refine g_get hx hb hts hin_Ca hown hK f_12 rfl 3 (by decide) (hts _ wm133) (fun _ h9 => h9) rfl d_Ca_setRounded_11 ?_
  refine gs (pc' := 15) (fun _ _ _ _ _ hl => lv_aload_n hx hb d_Ca_setRounded_14 rfl (lv_at hl 2 rfl)) ?_
  refine g_get hx hb hts hin_Fr hown hK f_16 rfl 1 (by decide) (hts _ wm167) (fun _ h9 => h9) rfl d_Ca_setRounded_15 ?_
  refine gs (pc' := 19) (fun _ _ _ _ _ hl => lv_aload_n hx hb d_Ca_setRounded_18 rfl (lv_at hl 0 rfl)) ?_
  refine g_get hx hb hts hin_Ca hown hK f_12 rfl 2 (by decide) (hts _ wm132) (fun _ h9 => h9) rfl d_Ca_setRounded_19 ?_
  obtain ⟨κo_23, ao_23, zo_23, fo_23, hho_23, hao_23, hzo_23, hDo_23, hco_23⟩ := w2_N W_19 (show 6 < 19 by decide)
  have hbo_23 : zo_23 ≤ 3000 := Nat.le_trans hzo_23 hco_23
  refine g_outv hlo (g_runV (As := [.ref a1, .ref (ad 5)]) (rest := []) ⟨hx, hb, hml, hown, hts⟩ hK hZ hRc hRs (n_setProduct l D cA lo MC MS G_4 B_5 X ad V_7 W_19 hX1 hX2 6 (by decide) a1 p1.natAbs k1 (rd_mono (P1 := fun x => ¬ x = 6) rd_17 (sc_265 hta hta2 htb htb2 htab hto hto2 hkk ht1)) hp1 (ad 5) st 3 (rd_w2' (P := fun x => ¬ x = 6) W_19 (by decide) (by decide) k_10) lt_11 (sc_266 hta hta2 htb htb2 htab hto hto2 hkk ht1)) (fun _ _ => cwV 2 hts (tb_good (tb_cons wm563 (tb_cons wm564 (tb_cons wm565 (tb_cons wm5 k_Na_setProduct))))) rfl rfl rfl (by decide +kernel) ⟨by rw [hRf]; exact Nat.le_of_ble_eq_true rfl, by rw [hRl]; exact Nat.le_of_ble_eq_true rfl⟩) hho_23 rfl bl_21 bl_22 rfl (Nat.le_of_ble_eq_true rfl) d_Ca_setRounded_22) (fun G_24 B_25 p_26 => ?_)
  have lt_27 : p1.natAbs * st < 1000000000 ^ (k1 + 3) := lb_mul hp1 lt_11
  obtain ⟨V_28, s_29, k_30⟩ := p_26
  have f_31 : G_24 hk = some (30, .inr (0, [.ref hd, .ref hc, .ref (ad 5), .ref (ad 6), .ref (ad 7), .ref (ad 8), .ref (ad 9), .ref (ad 10)])) := s_29.2.2 _ _ f_12 (show ¬ (30 = 6) by decide)
  have f_32 : G_24 hd = some (30, .inr (2, [.ref (ad 0), .ref (ad 1), .ref (ad 2)])) := s_29.2.2 _ _ f_13 (show ¬ (30 = 6) by decide)
  have f_33 : G_24 hc = some (19, .inr (1, [.ref hd, .ref (ad 3), .ref (ad 4), .long ga0, .long gb0, .long gc0, .long gd0])) := s_29.2.2 _ _ f_14 (show ¬ (19 = 6) by decide)
  have f_34 : G_24 hf = some (to, .inr (3, [.int sf, .ref (ad ta), .ref (ad tb)])) := s_29.2.2 _ _ f_15 (sc_267 hta hta2 htb htb2 htab hto hto2 hkk ht1)
  have f_35 : G_24 h1 = some (t1, .inr (3, [.int (sgI p1), .ref a1, .ref b1])) := s_29.2.2 _ _ f_16 (sc_268 hta hta2 htb htb2 htab hto hto2 hkk ht1)
  have k_36 : V_28 5 = st := (s_29.2.1 5 (show ¬ (5 = 6) by decide)).trans k_10
  have rd_37 := rd_fr rd_17 s_29.2.2 (sc_269 hta hta2 htb htb2 htab hto hto2 hkk ht1)
  have rd_38 := rd_fr rd_18 s_29.2.2 (sc_269 hta hta2 htb htb2 htab hto hto2 hkk ht1)
  have W_39 := s_29.1
  have S_40 : w2s cA X ad (fun x => x < 11 ∨ x = 19 ∨ x = ta ∨ x = tb ∨ x = to) G V V_28 (G_24, B_25) := w2s_mono (w2s_tr S_20 s_29) (sc_270 hta hta2 htb htb2 htab hto hto2 hkk ht1)
  have bl_41 : B_25.1 ≤ MC := Nat.le_trans (w2_le W_39).1 hX1
  have bl_42 : B_25.2 ≤ MS := Nat.le_trans (w2_le W_39).2 hX2
  refine gs (pc' := 26) (fun _ _ _ _ _ hl => lv_aload_n hx hb d_Ca_setRounded_25 rfl (lv_at hl 0 rfl)) ?_
  refine g_get hx hb hts hin_Ca hown hK f_31 rfl 0 (by decide) (hts _ wm130) (fun _ h9 => h9) rfl d_Ca_setRounded_26 ?_
  refine gs (pc' := 30) (fun _ _ _ _ _ hl => lv_aload_n hx hb d_Ca_setRounded_29 rfl (lv_at hl 0 rfl)) ?_
  refine g_get hx hb hts hin_Ca hown hK f_31 rfl 3 (by decide) (hts _ wm133) (fun _ h9 => h9) rfl d_Ca_setRounded_30 ?_
  refine gs (pc' := 34) (fun _ _ _ _ _ hl => lv_aload_n hx hb d_Ca_setRounded_33 rfl (lv_at hl 2 rfl)) ?_
  refine g_get hx hb hts hin_Fr hown hK f_35 rfl 2 (by decide) (hts _ wm170) (fun _ h9 => h9) rfl d_Ca_setRounded_34 ?_
  refine g_outv hlo (g_runV (As := [.ref (ad 6), .ref b1]) (rest := []) ⟨hx, hb, hml, hown, hts⟩ hK hZ hRc hRs (n_divide l D cA lo MC MS G_24 B_25 X ad V_28 W_39 hX1 hX2 hd f_32 (ad 6) (p1.natAbs * st) b1 q1 (k1 + 3) (rd_w2' (P := fun x => 3 ≤ x) W_39 (by decide) (by decide) k_30) (rd_mono (P1 := fun x => 3 ≤ x) rd_38 (sc_271 hta hta2 htb htb2 htab hto hto2 hkk ht1)) lt_27 (sc_272 hta hta2 htb htb2 htab hto hto2 hkk ht1) hq01) (fun _ _ => cwV 2 hts (tb_good (tb_cons wm493 (tb_cons wm447 (tb_cons wm448 (tb_cons wm4 k_Di_divide))))) rfl rfl rfl (by decide +kernel) ⟨by rw [hRf]; exact Nat.le_of_ble_eq_true rfl, by rw [hRl]; exact Nat.le_of_ble_eq_true rfl⟩) f_32 rfl bl_41 bl_42 rfl (Nat.le_of_ble_eq_true rfl) d_Ca_setRounded_37) (fun G_43 B_44 p_45 => ?_)
  obtain ⟨V_46, s_47, k_48, k_49⟩ := p_45
  have lt_50 : (p1.natAbs * st) / q1 < 1000000000 ^ (k1 + 3) := Nat.lt_of_le_of_lt (Nat.div_le_self _ _) lt_27
  have lt_51 : (p1.natAbs * st) % q1 < 1000000000 ^ (k1 + 3) := Nat.lt_of_le_of_lt (Nat.mod_le _ _) lt_27
  have f_52 : G_43 hk = some (30, .inr (0, [.ref hd, .ref hc, .ref (ad 5), .ref (ad 6), .ref (ad 7), .ref (ad 8), .ref (ad 9), .ref (ad 10)])) := s_47.2.2 _ _ f_31 (show ¬ (30 < 3) by decide)
  have f_53 : G_43 hd = some (30, .inr (2, [.ref (ad 0), .ref (ad 1), .ref (ad 2)])) := s_47.2.2 _ _ f_32 (show ¬ (30 < 3) by decide)
  have f_54 : G_43 hc = some (19, .inr (1, [.ref hd, .ref (ad 3), .ref (ad 4), .long ga0, .long gb0, .long gc0, .long gd0])) := s_47.2.2 _ _ f_33 (show ¬ (19 < 3) by decide)
  have f_55 : G_43 hf = some (to, .inr (3, [.int sf, .ref (ad ta), .ref (ad tb)])) := s_47.2.2 _ _ f_34 (sc_273 hta hta2 htb htb2 htab hto hto2 hkk ht1)
  have f_56 : G_43 h1 = some (t1, .inr (3, [.int (sgI p1), .ref a1, .ref b1])) := s_47.2.2 _ _ f_35 (sc_274 hta hta2 htb htb2 htab hto hto2 hkk ht1)
  have k_57 : V_46 5 = st := (s_47.2.1 5 (show ¬ (5 < 3) by decide)).trans k_36
  have k_58 : V_46 6 = p1.natAbs * st := (s_47.2.1 6 (show ¬ (6 < 3) by decide)).trans k_30
  have rd_59 := rd_fr rd_37 s_47.2.2 (sc_275 hta hta2 htb htb2 htab hto hto2 hkk ht1)
  have rd_60 := rd_fr rd_38 s_47.2.2 (sc_275 hta hta2 htb htb2 htab hto hto2 hkk ht1)
  have W_61 := s_47.1
  have S_62 : w2s cA X ad (fun x => x < 11 ∨ x = 19 ∨ x = ta ∨ x = tb ∨ x = to) G V V_46 (G_43, B_44) := w2s_mono (w2s_tr S_40 s_47) (sc_276 hta hta2 htb htb2 htab hto hto2 hkk ht1)
  have bl_63 : B_44.1 ≤ MC := Nat.le_trans (w2_le W_61).1 hX1
  have bl_64 : B_44.2 ≤ MS := Nat.le_trans (w2_le W_61).2 hX2
  obtain ⟨Qn, hQn⟩ : ∃ Qn, Qn = p1.natAbs * st / q1 := ⟨_, rfl⟩
  obtain ⟨Rm, hRm⟩ : ∃ Rm, Rm = p1.natAbs * st % q1 := ⟨_, rfl⟩
  rw [← hQn] at k_48 lt_50
  rw [← hRm] at k_49 lt_51
  rw [← hQn, ← hRm] at hret
  have hT0 := gof_T (p := p1) (q := q1) (st := st) (rule := rule)
  rw [← hQn, ← hRm] at hT0
  refine gs (pc' := 41) (fun _ _ _ _ _ hl => lv_aload_n hx hb d_Ca_setRounded_40 rfl (lv_at hl 0 rfl)) ?_
  refine g_get hx hb hts hin_Ca hown hK f_52 rfl 7 (by decide) (hts _ wm137) (fun _ h9 => h9) rfl d_Ca_setRounded_41 ?_
  refine gs (pc' := 45) (fun _ _ _ _ _ hl => lv_aload_n hx hb d_Ca_setRounded_44 rfl (lv_at hl 0 rfl)) ?_
  refine g_get hx hb hts hin_Ca hown hK f_52 rfl 0 (by decide) (hts _ wm130) (fun _ h9 => h9) rfl d_Ca_setRounded_45 ?_
  refine g_get hx hb hts hin_Di hown hK f_53 rfl 0 (by decide) (hts _ wm86) (fun _ h9 => h9) rfl d_Ca_setRounded_48 ?_
  obtain ⟨κo_65, ao_65, zo_65, fo_65, hho_65, hao_65, hzo_65, hDo_65, hco_65⟩ := w2_N W_61 (show 10 < 19 by decide)
  have hbo_65 : zo_65 ≤ 3000 := Nat.le_trans hzo_65 hco_65
  refine g_outv hlo (g_runV (As := [.ref (ad 0)]) (rest := []) ⟨hx, hb, hml, hown, hts⟩ hK hZ hRc hRs (n_setTo l D cA lo MC MS G_43 B_44 X ad V_46 W_61 hX1 hX2 10 (by decide) (ad 0) Qn (k1 + 3) (rd_w2' (P := fun x => ¬ x = 10) W_61 (by decide) (by decide) k_48) lt_50 (sc_266 hta hta2 htb htb2 htab hto hto2 hkk ht1)) (fun _ _ => cwV 1 hts (tb_good (tb_cons wm494 (tb_cons wm408 (tb_cons wm409 (tb_cons wm5 k_Na_setTo))))) rfl rfl rfl (by decide +kernel) ⟨by rw [hRf]; exact Nat.le_of_ble_eq_true rfl, by rw [hRl]; exact Nat.le_of_ble_eq_true rfl⟩) hho_65 rfl bl_63 bl_64 rfl (Nat.le_of_ble_eq_true rfl) d_Ca_setRounded_51) (fun G_66 B_67 p_68 => ?_)
  obtain ⟨V_69, s_70, k_71⟩ := p_68
  have f_72 : G_66 hk = some (30, .inr (0, [.ref hd, .ref hc, .ref (ad 5), .ref (ad 6), .ref (ad 7), .ref (ad 8), .ref (ad 9), .ref (ad 10)])) := s_70.2.2 _ _ f_52 (show ¬ (30 = 10) by decide)
  have f_73 : G_66 hd = some (30, .inr (2, [.ref (ad 0), .ref (ad 1), .ref (ad 2)])) := s_70.2.2 _ _ f_53 (show ¬ (30 = 10) by decide)
  have f_74 : G_66 hc = some (19, .inr (1, [.ref hd, .ref (ad 3), .ref (ad 4), .long ga0, .long gb0, .long gc0, .long gd0])) := s_70.2.2 _ _ f_54 (show ¬ (19 = 10) by decide)
  have f_75 : G_66 hf = some (to, .inr (3, [.int sf, .ref (ad ta), .ref (ad tb)])) := s_70.2.2 _ _ f_55 (sc_277 hta hta2 htb htb2 htab hto hto2 hkk ht1)
  have f_76 : G_66 h1 = some (t1, .inr (3, [.int (sgI p1), .ref a1, .ref b1])) := s_70.2.2 _ _ f_56 (sc_278 hta hta2 htb htb2 htab hto hto2 hkk ht1)
  have k_77 : V_69 5 = st := (s_70.2.1 5 (show ¬ (5 = 10) by decide)).trans k_57
  have k_78 : V_69 6 = p1.natAbs * st := (s_70.2.1 6 (show ¬ (6 = 10) by decide)).trans k_58
  have k_79 : V_69 0 = Qn := (s_70.2.1 0 (show ¬ (0 = 10) by decide)).trans k_48
  have k_80 : V_69 1 = Rm := (s_70.2.1 1 (show ¬ (1 = 10) by decide)).trans k_49
  have rd_81 := rd_fr rd_59 s_70.2.2 (sc_279 hta hta2 htb htb2 htab hto hto2 hkk ht1)
  have rd_82 := rd_fr rd_60 s_70.2.2 (sc_279 hta hta2 htb htb2 htab hto hto2 hkk ht1)
  have W_83 := s_70.1
  have S_84 : w2s cA X ad (fun x => x < 11 ∨ x = 19 ∨ x = ta ∨ x = tb ∨ x = to) G V V_69 (G_66, B_67) := w2s_mono (w2s_tr S_62 s_70) (sc_280 hta hta2 htb htb2 htab hto hto2 hkk ht1)
  have bl_85 : B_67.1 ≤ MC := Nat.le_trans (w2_le W_83).1 hX1
  have bl_86 : B_67.2 ≤ MS := Nat.le_trans (w2_le W_83).2 hX2
  refine gs (pc' := 55) (fun _ _ _ _ _ hl => lv_aload_n hx hb d_Ca_setRounded_54 rfl (lv_at hl 0 rfl)) ?_
  refine gs (pc' := 56) (fun _ _ _ _ _ hl => lv_aload_n hx hb d_Ca_setRounded_55 rfl (lv_at hl 2 rfl)) ?_
  refine gs (pc' := 57) (fun _ _ _ _ _ hl => lv_iload_n hx hb d_Ca_setRounded_56 rfl (lv_at hl 3 rfl)) ?_
  refine g_outi hlo (g_runV (As := [.ref h1, .int (nI rule)]) (rest := []) ⟨hx, hb, hml, hown, hts⟩ hK hZ hRc hRs (n_goesFurther l D cA lo MC MS G_66 B_67 X ad V_69 W_83 hX1 hX2 hk hd hc f_72 f_73 (cdO_i f_74) h1 p1 q1 (k1 + 3) (rf_mono (show rf cA G_66 (fun x => 11 ≤ x ∧ ¬ x = 19 ∧ ¬ x = ta ∧ ¬ x = tb ∧ ¬ x = to) h1 p1 q1 from ⟨t1, a1, b1, ht1, f_76, rd_81, rd_82⟩) (sc_281 hta hta2 htb htb2 htab hto hto2 hkk ht1)) (lb_up hp1 (sc_282 hta hta2 htb htb2 htab hto hto2 hkk ht1)) (lb_up hq1 (sc_282 hta hta2 htb htb2 htab hto hto2 hkk ht1)) hq01 Qn Rm rule k_79 k_80 lt_50 lt_51 hru (sc_283 hta hta2 htb htb2 htab hto hto2 hkk ht1)) (fun _ _ => cwV 2 hts (tb_good (tb_cons wm624 (tb_cons wm626 (tb_cons ws13 (tb_cons wm3 k_Ca_goesFurther))))) rfl rfl rfl (by decide +kernel) ⟨by rw [hRf]; exact Nat.le_of_ble_eq_true rfl, by rw [hRl]; exact Nat.le_of_ble_eq_true rfl⟩) f_72 rfl bl_85 bl_86 rfl (Nat.le_of_ble_eq_true rfl) d_Ca_setRounded_57) (fun r_90 G_87 B_88 p_89 => ?_)
  obtain ⟨e_93, V_91, s_92⟩ := p_89
  subst e_93
  have f_94 : G_87 hk = some (30, .inr (0, [.ref hd, .ref hc, .ref (ad 5), .ref (ad 6), .ref (ad 7), .ref (ad 8), .ref (ad 9), .ref (ad 10)])) := s_92.2.2 _ _ f_72 (show ¬ (30 = 8) by decide)
  have f_95 : G_87 hd = some (30, .inr (2, [.ref (ad 0), .ref (ad 1), .ref (ad 2)])) := s_92.2.2 _ _ f_73 (show ¬ (30 = 8) by decide)
  have f_96 : G_87 hc = some (19, .inr (1, [.ref hd, .ref (ad 3), .ref (ad 4), .long ga0, .long gb0, .long gc0, .long gd0])) := s_92.2.2 _ _ f_74 (show ¬ (19 = 8) by decide)
  have f_97 : G_87 hf = some (to, .inr (3, [.int sf, .ref (ad ta), .ref (ad tb)])) := s_92.2.2 _ _ f_75 (sc_284 hta hta2 htb htb2 htab hto hto2 hkk ht1)
  have f_98 : G_87 h1 = some (t1, .inr (3, [.int (sgI p1), .ref a1, .ref b1])) := s_92.2.2 _ _ f_76 (sc_285 hta hta2 htb htb2 htab hto hto2 hkk ht1)
  have k_99 : V_91 5 = st := (s_92.2.1 5 (show ¬ (5 = 8) by decide)).trans k_77
  have k_100 : V_91 6 = p1.natAbs * st := (s_92.2.1 6 (show ¬ (6 = 8) by decide)).trans k_78
  have k_101 : V_91 0 = Qn := (s_92.2.1 0 (show ¬ (0 = 8) by decide)).trans k_79
  have k_102 : V_91 1 = Rm := (s_92.2.1 1 (show ¬ (1 = 8) by decide)).trans k_80
  have k_103 : V_91 10 = Qn := (s_92.2.1 10 (show ¬ (10 = 8) by decide)).trans k_71
  have rd_104 := rd_fr rd_81 s_92.2.2 (sc_286 hta hta2 htb htb2 htab hto hto2 hkk ht1)
  have rd_105 := rd_fr rd_82 s_92.2.2 (sc_286 hta hta2 htb htb2 htab hto hto2 hkk ht1)
  have W_106 := s_92.1
  have S_107 : w2s cA X ad (fun x => x < 11 ∨ x = 19 ∨ x = ta ∨ x = tb ∨ x = to) G V V_91 (G_87, B_88) := w2s_mono (w2s_tr S_84 s_92) (sc_287 hta hta2 htb htb2 htab hto hto2 hkk ht1)
  have bl_108 : B_88.1 ≤ MC := Nat.le_trans (w2_le W_106).1 hX1
  have bl_109 : B_88.2 ≤ MS := Nat.le_trans (w2_le W_106).2 hX2
  rcases hgb : gof p1 q1 Qn Rm rule with _ | _
  · skip
    rw [hgb] at hret hT0
    rw [b01_f] at hret hT0
    show gV p l e R s m args below meth c D clS lo 5 Q 60 [(0, .ref hk), (1, .ref hf), (2, .ref h1), (3, .int (nI rule)), (4, .int (nI st))] [.int (nI 0)] G_87 B_88
    refine gsb (pc1 := 70) (pc2 := 63) (fun _ _ _ _ _ => lv_if_eq (tgt := 70) hx hb d_Ca_setRounded_60 (by decide)) (fun c_110 => ?_) (fun c_110 => ?_)
    · skip
      have nc_110 : 0 = 0 := (n0_eq (a := 0) (by omega)).1 c_110
      refine gs (pc' := 71) (fun _ _ _ _ _ hl => lv_aload_n hx hb d_Ca_setRounded_70 rfl (lv_at hl 1 rfl)) ?_
      refine gs (pc' := 72) (fun _ _ _ _ _ hl => lv_aload_n hx hb d_Ca_setRounded_71 rfl (lv_at hl 0 rfl)) ?_
      refine g_get hx hb hts hin_Ca hown hK f_94 rfl 7 (by decide) (hts _ wm137) (fun _ h9 => h9) rfl d_Ca_setRounded_72 ?_
      obtain ⟨κo_111, ao_111, zo_111, fo_111, hho_111, hao_111, hzo_111, hDo_111, hco_111⟩ := w2_N W_106 (show 10 < 19 by decide)
      rw [k_103] at hDo_111
      have hbo_111 : zo_111 ≤ 3000 := Nat.le_trans hzo_111 hco_111
      refine g_get hx hb hts hin_Na hown hK hho_111 rfl 1 (by decide) (hts _ wm79) (fun _ h9 => h9) rfl d_Ca_setRounded_75 ?_
      refine gsb (pc1 := 85) (pc2 := 81) (fun _ _ _ _ _ => lv_if_ne (tgt := 85) hx hb d_Ca_setRounded_78 (by decide)) (fun c_112 => ?_) (fun c_112 => ?_)
      · skip
        have nc_112 : zo_111 ≠ 0 := (n0_ne (a := zo_111) (by omega)).1 c_112
        have hTz : Qn ≠ 0 := fun z => nc_112 ((isD_z0 hDo_111).mpr z)
        refine gs (pc' := 86) (fun _ _ _ _ _ hl => lv_aload_n hx hb d_Ca_setRounded_85 rfl (lv_at hl 2 rfl)) ?_
        refine g_get hx hb hts hin_Fr hown hK f_98 rfl 0 (by decide) (hts _ wm164) (fun _ h9 => h9) rfl d_Ca_setRounded_86 ?_
        refine g_put (ty := .int) hx hb hts hin_Fr ty_Fr ty_Fr_ok nm_Fr hown hK f_97 rfl 0 (by decide) (hts _ wm164) (fun _ h9 => h9) rfl (by decide +kernel) rfl rfl (Nat.le_of_ble_eq_true rfl) d_Ca_setRounded_89 (fun G_113 f_114 o_115 => ?_)
        have f_116 : G_113 hf = some (to, .inr (3, [.int (sgI p1), .ref (ad ta), .ref (ad tb)])) := f_114
        have fr_117 : gfr (fun x => x = to) G_87 G_113 := gfr_put gfr_rf f_97 rfl o_115
        have s_118 : w2s cA X ad (fun x => x = to) G_87 V_91 V_91 (G_113, B_88) := ⟨w2_fr W_106 fr_117 (sc_288 hta hta2 htb htb2 htab hto hto2 hkk ht1), fun _ _ => rfl, fr_117⟩
        have f_119 : G_113 hk = some (30, .inr (0, [.ref hd, .ref hc, .ref (ad 5), .ref (ad 6), .ref (ad 7), .ref (ad 8), .ref (ad 9), .ref (ad 10)])) := s_118.2.2 _ _ f_94 (sc_289 hta hta2 htb htb2 htab hto hto2 hkk ht1)
        have f_120 : G_113 hd = some (30, .inr (2, [.ref (ad 0), .ref (ad 1), .ref (ad 2)])) := s_118.2.2 _ _ f_95 (sc_289 hta hta2 htb htb2 htab hto hto2 hkk ht1)
        have f_121 : G_113 hc = some (19, .inr (1, [.ref hd, .ref (ad 3), .ref (ad 4), .long ga0, .long gb0, .long gc0, .long gd0])) := s_118.2.2 _ _ f_96 (sc_290 hta hta2 htb htb2 htab hto hto2 hkk ht1)
        have f_122 : G_113 h1 = some (t1, .inr (3, [.int (sgI p1), .ref a1, .ref b1])) := s_118.2.2 _ _ f_98 (sc_291 hta hta2 htb htb2 htab hto hto2 hkk ht1)
        have k_123 : V_91 5 = st := (s_118.2.1 5 (sc_292 hta hta2 htb htb2 htab hto hto2 hkk ht1)).trans k_99
        have k_124 : V_91 6 = p1.natAbs * st := (s_118.2.1 6 (sc_293 hta hta2 htb htb2 htab hto hto2 hkk ht1)).trans k_100
        have k_125 : V_91 0 = Qn := (s_118.2.1 0 (sc_294 hta hta2 htb htb2 htab hto hto2 hkk ht1)).trans k_101
        have k_126 : V_91 1 = Rm := (s_118.2.1 1 (sc_295 hta hta2 htb htb2 htab hto hto2 hkk ht1)).trans k_102
        have k_127 : V_91 10 = Qn := (s_118.2.1 10 (sc_296 hta hta2 htb htb2 htab hto hto2 hkk ht1)).trans k_103
        have rd_128 := rd_fr rd_104 s_118.2.2 (sc_297 hta hta2 htb htb2 htab hto hto2 hkk ht1)
        have rd_129 := rd_fr rd_105 s_118.2.2 (sc_297 hta hta2 htb htb2 htab hto hto2 hkk ht1)
        have W_130 := s_118.1
        have S_131 : w2s cA X ad (fun x => x < 11 ∨ x = 19 ∨ x = ta ∨ x = tb ∨ x = to) G V V_91 (G_113, B_88) := w2s_mono (w2s_tr S_107 s_118) (sc_298 hta hta2 htb htb2 htab hto hto2 hkk ht1)
        have bl_132 : B_88.1 ≤ MC := Nat.le_trans (w2_le W_130).1 hX1
        have bl_133 : B_88.2 ≤ MS := Nat.le_trans (w2_le W_130).2 hX2
        refine gs (pc' := 93) (fun _ _ _ _ _ hl => lv_aload_n hx hb d_Ca_setRounded_92 rfl (lv_at hl 0 rfl)) ?_
        refine gs (pc' := 94) (fun _ _ _ _ _ hl => lv_aload_n hx hb d_Ca_setRounded_93 rfl (lv_at hl 1 rfl)) ?_
        refine gs (pc' := 95) (fun _ _ _ _ _ hl => lv_aload_n hx hb d_Ca_setRounded_94 rfl (lv_at hl 0 rfl)) ?_
        refine g_get hx hb hts hin_Ca hown hK f_119 rfl 7 (by decide) (hts _ wm137) (fun _ h9 => h9) rfl d_Ca_setRounded_95 ?_
        refine gs (pc' := 99) (fun _ _ _ _ _ hl => lv_aload_n hx hb d_Ca_setRounded_98 rfl (lv_at hl 0 rfl)) ?_
        refine g_get hx hb hts hin_Ca hown hK f_119 rfl 2 (by decide) (hts _ wm132) (fun _ h9 => h9) rfl d_Ca_setRounded_99 ?_
        have lt_134 : Qn < 1000000000 ^ (k1 + 4) := lb_up lt_50 (sc_301 hta hta2 htb htb2 htab hto hto2 hkk ht1)
        have lt_135 : st < 1000000000 ^ (k1 + 4) := lb_up lt_11 (sc_302 hta hta2 htb htb2 htab hto hto2 hkk ht1)
        refine g_outv hlo (g_runV (As := [.ref hf, .ref (ad 10), .ref (ad 5)]) (rest := []) ⟨hx, hb, hml, hown, hts⟩ hK hZ hRc hRs (n_setReduced l D cA lo MC MS G_113 B_88 X ad V_91 W_130 hX1 hX2 hk hd hc f_119 f_120 (cdO_i f_121) hf ta tb to (sgI p1) f_116 hta hta2 htb htb2 htab hto hto2 (ad 10) Qn (ad 5) st (k1 + 4) (rd_w2' (P := fun x => 5 ≤ x ∧ ¬ x = 19 ∧ ¬ x = ta ∧ ¬ x = tb) W_130 (by decide) (sc_299 hta hta2 htb htb2 htab hto hto2 hkk ht1) k_127) (rd_w2' (P := fun x => 5 ≤ x ∧ ¬ x = 19 ∧ ¬ x = ta ∧ ¬ x = tb) W_130 (by decide) (sc_300 hta hta2 htb htb2 htab hto hto2 hkk ht1) k_123) lt_134 lt_135 (sc_303 hta hta2 htb htb2 htab hto hto2 hkk ht1) hst1) (fun _ _ => cwV 3 hts (tb_good (tb_cons wm395 (tb_cons wm397 (tb_cons ws2 (tb_cons wm3 k_Ca_setReduced))))) rfl rfl rfl (by decide +kernel) ⟨by rw [hRf]; exact Nat.le_of_ble_eq_true rfl, by rw [hRl]; exact Nat.le_of_ble_eq_true rfl⟩) f_119 rfl bl_132 bl_133 rfl (Nat.le_of_ble_eq_true rfl) d_Ca_setRounded_102) (fun G_136 B_137 p_138 => ?_)
        obtain ⟨V_139, s_140, k_141, k_142, cd_143⟩ := p_138
        have f_144 : G_136 hk = some (30, .inr (0, [.ref hd, .ref hc, .ref (ad 5), .ref (ad 6), .ref (ad 7), .ref (ad 8), .ref (ad 9), .ref (ad 10)])) := s_140.2.2 _ _ f_119 (sc_304 hta hta2 htb htb2 htab hto hto2 hkk ht1)
        have f_145 : G_136 hd = some (30, .inr (2, [.ref (ad 0), .ref (ad 1), .ref (ad 2)])) := s_140.2.2 _ _ f_120 (sc_304 hta hta2 htb htb2 htab hto hto2 hkk ht1)
        have f_146 : G_136 h1 = some (t1, .inr (3, [.int (sgI p1), .ref a1, .ref b1])) := s_140.2.2 _ _ f_122 (sc_305 hta hta2 htb htb2 htab hto hto2 hkk ht1)
        have f_147 : G_136 hf = some (to, .inr (3, [.int (sgI p1), .ref (ad ta), .ref (ad tb)])) := s_140.2.2 _ _ f_116 (sc_306 hta hta2 htb htb2 htab hto hto2 hkk ht1)
        have k_148 : V_139 5 = st := (s_140.2.1 5 (sc_307 hta hta2 htb htb2 htab hto hto2 hkk ht1)).trans k_123
        have k_149 : V_139 6 = p1.natAbs * st := (s_140.2.1 6 (sc_308 hta hta2 htb htb2 htab hto hto2 hkk ht1)).trans k_124
        have k_150 : V_139 10 = Qn := (s_140.2.1 10 (sc_309 hta hta2 htb htb2 htab hto hto2 hkk ht1)).trans k_127
        have rd_151 := rd_fr rd_128 s_140.2.2 (sc_310 hta hta2 htb htb2 htab hto hto2 hkk ht1)
        have rd_152 := rd_fr rd_129 s_140.2.2 (sc_310 hta hta2 htb htb2 htab hto hto2 hkk ht1)
        have W_153 := s_140.1
        have S_154 : w2s cA X ad (fun x => x < 11 ∨ x = 19 ∨ x = ta ∨ x = tb ∨ x = to) G V V_139 (G_136, B_137) := w2s_mono (w2s_tr S_131 s_140) (sc_311 hta hta2 htb htb2 htab hto hto2 hkk ht1)
        have bl_155 : B_137.1 ≤ MC := Nat.le_trans (w2_le W_153).1 hX1
        have bl_156 : B_137.2 ≤ MS := Nat.le_trans (w2_le W_153).2 hX2
        have hna : (p1.sign * ((Qn + 0 : Nat) : Int)).natAbs = Qn + 0 := sgn_abs hT0
        have hsg : (sgI p1) = sgI (frn (p1.sign * ((Qn + 0 : Nat) : Int)) st) := by rw [frn_sg]; exact (sgn_sg.2 hTz).symm
        exact hret 105 _ _ _ d_Ca_setRounded_105 bl_155 bl_156 ⟨V_139, S_154, k_141.trans (by rw [frn_abs, hna]; rfl), k_142.trans (by rw [hna]; rfl), by rw [← hsg]; exact f_147, cd_143⟩
      · skip
        have nc_112 : zo_111 = 0 := (n0_ne (a := zo_111) (by omega)).2 c_112
        have hTz : Qn = 0 := (isD_z0 hDo_111).mp nc_112
        refine gs (pc' := 82) (fun _ _ _ _ _ hl => lv_iconst (v := nI 0) hx hb d_Ca_setRounded_81 (by decide)) ?_
        refine gs (pc' := 89) (fun _ _ _ _ _ hl => lv_goto (tgt := 89) hx hb d_Ca_setRounded_82 (by decide)) ?_
        refine g_put (ty := .int) hx hb hts hin_Fr ty_Fr ty_Fr_ok nm_Fr hown hK f_97 rfl 0 (by decide) (hts _ wm164) (fun _ h9 => h9) rfl (by decide +kernel) rfl rfl (Nat.le_of_ble_eq_true rfl) d_Ca_setRounded_89 (fun G_157 f_158 o_159 => ?_)
        have f_160 : G_157 hf = some (to, .inr (3, [.int (nI 0), .ref (ad ta), .ref (ad tb)])) := f_158
        have fr_161 : gfr (fun x => x = to) G_87 G_157 := gfr_put gfr_rf f_97 rfl o_159
        have s_162 : w2s cA X ad (fun x => x = to) G_87 V_91 V_91 (G_157, B_88) := ⟨w2_fr W_106 fr_161 (sc_288 hta hta2 htb htb2 htab hto hto2 hkk ht1), fun _ _ => rfl, fr_161⟩
        have f_163 : G_157 hk = some (30, .inr (0, [.ref hd, .ref hc, .ref (ad 5), .ref (ad 6), .ref (ad 7), .ref (ad 8), .ref (ad 9), .ref (ad 10)])) := s_162.2.2 _ _ f_94 (sc_289 hta hta2 htb htb2 htab hto hto2 hkk ht1)
        have f_164 : G_157 hd = some (30, .inr (2, [.ref (ad 0), .ref (ad 1), .ref (ad 2)])) := s_162.2.2 _ _ f_95 (sc_289 hta hta2 htb htb2 htab hto hto2 hkk ht1)
        have f_165 : G_157 hc = some (19, .inr (1, [.ref hd, .ref (ad 3), .ref (ad 4), .long ga0, .long gb0, .long gc0, .long gd0])) := s_162.2.2 _ _ f_96 (sc_290 hta hta2 htb htb2 htab hto hto2 hkk ht1)
        have f_166 : G_157 h1 = some (t1, .inr (3, [.int (sgI p1), .ref a1, .ref b1])) := s_162.2.2 _ _ f_98 (sc_291 hta hta2 htb htb2 htab hto hto2 hkk ht1)
        have k_167 : V_91 5 = st := (s_162.2.1 5 (sc_292 hta hta2 htb htb2 htab hto hto2 hkk ht1)).trans k_99
        have k_168 : V_91 6 = p1.natAbs * st := (s_162.2.1 6 (sc_293 hta hta2 htb htb2 htab hto hto2 hkk ht1)).trans k_100
        have k_169 : V_91 0 = Qn := (s_162.2.1 0 (sc_294 hta hta2 htb htb2 htab hto hto2 hkk ht1)).trans k_101
        have k_170 : V_91 1 = Rm := (s_162.2.1 1 (sc_295 hta hta2 htb htb2 htab hto hto2 hkk ht1)).trans k_102
        have k_171 : V_91 10 = Qn := (s_162.2.1 10 (sc_296 hta hta2 htb htb2 htab hto hto2 hkk ht1)).trans k_103
        have rd_172 := rd_fr rd_104 s_162.2.2 (sc_297 hta hta2 htb htb2 htab hto hto2 hkk ht1)
        have rd_173 := rd_fr rd_105 s_162.2.2 (sc_297 hta hta2 htb htb2 htab hto hto2 hkk ht1)
        have W_174 := s_162.1
        have S_175 : w2s cA X ad (fun x => x < 11 ∨ x = 19 ∨ x = ta ∨ x = tb ∨ x = to) G V V_91 (G_157, B_88) := w2s_mono (w2s_tr S_107 s_162) (sc_298 hta hta2 htb htb2 htab hto hto2 hkk ht1)
        have bl_176 : B_88.1 ≤ MC := Nat.le_trans (w2_le W_174).1 hX1
        have bl_177 : B_88.2 ≤ MS := Nat.le_trans (w2_le W_174).2 hX2
        refine gs (pc' := 93) (fun _ _ _ _ _ hl => lv_aload_n hx hb d_Ca_setRounded_92 rfl (lv_at hl 0 rfl)) ?_
        refine gs (pc' := 94) (fun _ _ _ _ _ hl => lv_aload_n hx hb d_Ca_setRounded_93 rfl (lv_at hl 1 rfl)) ?_
        refine gs (pc' := 95) (fun _ _ _ _ _ hl => lv_aload_n hx hb d_Ca_setRounded_94 rfl (lv_at hl 0 rfl)) ?_
        refine g_get hx hb hts hin_Ca hown hK f_163 rfl 7 (by decide) (hts _ wm137) (fun _ h9 => h9) rfl d_Ca_setRounded_95 ?_
        refine gs (pc' := 99) (fun _ _ _ _ _ hl => lv_aload_n hx hb d_Ca_setRounded_98 rfl (lv_at hl 0 rfl)) ?_
        refine g_get hx hb hts hin_Ca hown hK f_163 rfl 2 (by decide) (hts _ wm132) (fun _ h9 => h9) rfl d_Ca_setRounded_99 ?_
        have lt_178 : Qn < 1000000000 ^ (k1 + 4) := lb_up lt_50 (sc_301 hta hta2 htb htb2 htab hto hto2 hkk ht1)
        have lt_179 : st < 1000000000 ^ (k1 + 4) := lb_up lt_11 (sc_302 hta hta2 htb htb2 htab hto hto2 hkk ht1)
        refine g_outv hlo (g_runV (As := [.ref hf, .ref (ad 10), .ref (ad 5)]) (rest := []) ⟨hx, hb, hml, hown, hts⟩ hK hZ hRc hRs (n_setReduced l D cA lo MC MS G_157 B_88 X ad V_91 W_174 hX1 hX2 hk hd hc f_163 f_164 (cdO_i f_165) hf ta tb to (nI 0) f_160 hta hta2 htb htb2 htab hto hto2 (ad 10) Qn (ad 5) st (k1 + 4) (rd_w2' (P := fun x => 5 ≤ x ∧ ¬ x = 19 ∧ ¬ x = ta ∧ ¬ x = tb) W_174 (by decide) (sc_299 hta hta2 htb htb2 htab hto hto2 hkk ht1) k_171) (rd_w2' (P := fun x => 5 ≤ x ∧ ¬ x = 19 ∧ ¬ x = ta ∧ ¬ x = tb) W_174 (by decide) (sc_300 hta hta2 htb htb2 htab hto hto2 hkk ht1) k_167) lt_178 lt_179 (sc_303 hta hta2 htb htb2 htab hto hto2 hkk ht1) hst1) (fun _ _ => cwV 3 hts (tb_good (tb_cons wm395 (tb_cons wm397 (tb_cons ws2 (tb_cons wm3 k_Ca_setReduced))))) rfl rfl rfl (by decide +kernel) ⟨by rw [hRf]; exact Nat.le_of_ble_eq_true rfl, by rw [hRl]; exact Nat.le_of_ble_eq_true rfl⟩) f_163 rfl bl_176 bl_177 rfl (Nat.le_of_ble_eq_true rfl) d_Ca_setRounded_102) (fun G_180 B_181 p_182 => ?_)
        obtain ⟨V_183, s_184, k_185, k_186, cd_187⟩ := p_182
        have f_188 : G_180 hk = some (30, .inr (0, [.ref hd, .ref hc, .ref (ad 5), .ref (ad 6), .ref (ad 7), .ref (ad 8), .ref (ad 9), .ref (ad 10)])) := s_184.2.2 _ _ f_163 (sc_304 hta hta2 htb htb2 htab hto hto2 hkk ht1)
        have f_189 : G_180 hd = some (30, .inr (2, [.ref (ad 0), .ref (ad 1), .ref (ad 2)])) := s_184.2.2 _ _ f_164 (sc_304 hta hta2 htb htb2 htab hto hto2 hkk ht1)
        have f_190 : G_180 h1 = some (t1, .inr (3, [.int (sgI p1), .ref a1, .ref b1])) := s_184.2.2 _ _ f_166 (sc_305 hta hta2 htb htb2 htab hto hto2 hkk ht1)
        have f_191 : G_180 hf = some (to, .inr (3, [.int (nI 0), .ref (ad ta), .ref (ad tb)])) := s_184.2.2 _ _ f_160 (sc_306 hta hta2 htb htb2 htab hto hto2 hkk ht1)
        have k_192 : V_183 5 = st := (s_184.2.1 5 (sc_307 hta hta2 htb htb2 htab hto hto2 hkk ht1)).trans k_167
        have k_193 : V_183 6 = p1.natAbs * st := (s_184.2.1 6 (sc_308 hta hta2 htb htb2 htab hto hto2 hkk ht1)).trans k_168
        have k_194 : V_183 10 = Qn := (s_184.2.1 10 (sc_309 hta hta2 htb htb2 htab hto hto2 hkk ht1)).trans k_171
        have rd_195 := rd_fr rd_172 s_184.2.2 (sc_310 hta hta2 htb htb2 htab hto hto2 hkk ht1)
        have rd_196 := rd_fr rd_173 s_184.2.2 (sc_310 hta hta2 htb htb2 htab hto hto2 hkk ht1)
        have W_197 := s_184.1
        have S_198 : w2s cA X ad (fun x => x < 11 ∨ x = 19 ∨ x = ta ∨ x = tb ∨ x = to) G V V_183 (G_180, B_181) := w2s_mono (w2s_tr S_175 s_184) (sc_311 hta hta2 htb htb2 htab hto hto2 hkk ht1)
        have bl_199 : B_181.1 ≤ MC := Nat.le_trans (w2_le W_197).1 hX1
        have bl_200 : B_181.2 ≤ MS := Nat.le_trans (w2_le W_197).2 hX2
        have hna : (p1.sign * ((Qn + 0 : Nat) : Int)).natAbs = Qn + 0 := sgn_abs hT0
        have hsg : (nI 0) = sgI (frn (p1.sign * ((Qn + 0 : Nat) : Int)) st) := by rw [frn_sg]; exact (sgn_sg.1 hTz).symm
        exact hret 105 _ _ _ d_Ca_setRounded_105 bl_199 bl_200 ⟨V_183, S_198, k_185.trans (by rw [frn_abs, hna]; rfl), k_186.trans (by rw [hna]; rfl), by rw [← hsg]; exact f_191, cd_187⟩
    · skip
      have nc_110 : 0 ≠ 0 := (n0_eq (a := 0) (by omega)).2 c_110
      exact absurd nc_110 (by decide)
  · skip
    rw [hgb] at hret hT0
    rw [b01_t] at hret hT0
    show gV p l e R s m args below meth c D clS lo 5 Q 60 [(0, .ref hk), (1, .ref hf), (2, .ref h1), (3, .int (nI rule)), (4, .int (nI st))] [.int (nI 1)] G_87 B_88
    refine gsb (pc1 := 70) (pc2 := 63) (fun _ _ _ _ _ => lv_if_eq (tgt := 70) hx hb d_Ca_setRounded_60 (by decide)) (fun c_201 => ?_) (fun c_201 => ?_)
    · skip
      have nc_201 : 1 = 0 := (n0_eq (a := 1) (by omega)).1 c_201
      exact absurd nc_201 (by decide)
    · skip
      have nc_201 : 1 ≠ 0 := (n0_eq (a := 1) (by omega)).2 c_201
      refine gs (pc' := 64) (fun _ _ _ _ _ hl => lv_aload_n hx hb d_Ca_setRounded_63 rfl (lv_at hl 0 rfl)) ?_
      refine g_get hx hb hts hin_Ca hown hK f_94 rfl 7 (by decide) (hts _ wm137) (fun _ h9 => h9) rfl d_Ca_setRounded_64 ?_
      obtain ⟨κo_202, ao_202, zo_202, fo_202, hho_202, hao_202, hzo_202, hDo_202, hco_202⟩ := w2_N W_106 (show 10 < 19 by decide)
      rw [k_103] at hDo_202
      have hbo_202 : zo_202 ≤ 3000 := Nat.le_trans hzo_202 hco_202
      refine g_outv hlo (g_runV (As := []) (rest := []) ⟨hx, hb, hml, hown, hts⟩ hK hZ hRc hRs (n_increase l D cA lo MC MS G_87 B_88 X ad V_91 W_106 hX1 hX2 10 (k1 + 3) (by decide) (by rw [k_103]; exact lt_50) (sc_312 hta hta2 htb htb2 htab hto hto2 hkk ht1)) (fun _ _ => cwV 0 hts (tb_good (tb_cons wm632 (tb_cons wm633 (tb_cons wm634 (tb_cons wm5 k_Na_increase))))) rfl rfl rfl (by decide +kernel) ⟨by rw [hRf]; exact Nat.le_of_ble_eq_true rfl, by rw [hRl]; exact Nat.le_of_ble_eq_true rfl⟩) hho_202 rfl bl_108 bl_109 rfl (Nat.le_of_ble_eq_true rfl) d_Ca_setRounded_67) (fun G_203 B_204 p_205 => ?_)
      obtain ⟨V_206, s_207, k_208⟩ := p_205
      have k_209 : V_206 10 = Qn + 1 := k_208.trans (by rw [k_103])
      have lt_210 : Qn + 1 < 1000000000 ^ (k1 + 3 + 1) := by rw [pB_s]; omega
      have f_211 : G_203 hk = some (30, .inr (0, [.ref hd, .ref hc, .ref (ad 5), .ref (ad 6), .ref (ad 7), .ref (ad 8), .ref (ad 9), .ref (ad 10)])) := s_207.2.2 _ _ f_94 (show ¬ (30 = 10) by decide)
      have f_212 : G_203 hd = some (30, .inr (2, [.ref (ad 0), .ref (ad 1), .ref (ad 2)])) := s_207.2.2 _ _ f_95 (show ¬ (30 = 10) by decide)
      have f_213 : G_203 hc = some (19, .inr (1, [.ref hd, .ref (ad 3), .ref (ad 4), .long ga0, .long gb0, .long gc0, .long gd0])) := s_207.2.2 _ _ f_96 (show ¬ (19 = 10) by decide)
      have f_214 : G_203 hf = some (to, .inr (3, [.int sf, .ref (ad ta), .ref (ad tb)])) := s_207.2.2 _ _ f_97 (sc_277 hta hta2 htb htb2 htab hto hto2 hkk ht1)
      have f_215 : G_203 h1 = some (t1, .inr (3, [.int (sgI p1), .ref a1, .ref b1])) := s_207.2.2 _ _ f_98 (sc_278 hta hta2 htb htb2 htab hto hto2 hkk ht1)
      have k_216 : V_206 5 = st := (s_207.2.1 5 (show ¬ (5 = 10) by decide)).trans k_99
      have k_217 : V_206 6 = p1.natAbs * st := (s_207.2.1 6 (show ¬ (6 = 10) by decide)).trans k_100
      have k_218 : V_206 0 = Qn := (s_207.2.1 0 (show ¬ (0 = 10) by decide)).trans k_101
      have k_219 : V_206 1 = Rm := (s_207.2.1 1 (show ¬ (1 = 10) by decide)).trans k_102
      have rd_220 := rd_fr rd_104 s_207.2.2 (sc_279 hta hta2 htb htb2 htab hto hto2 hkk ht1)
      have rd_221 := rd_fr rd_105 s_207.2.2 (sc_279 hta hta2 htb htb2 htab hto hto2 hkk ht1)
      have W_222 := s_207.1
      have S_223 : w2s cA X ad (fun x => x < 11 ∨ x = 19 ∨ x = ta ∨ x = tb ∨ x = to) G V V_206 (G_203, B_204) := w2s_mono (w2s_tr S_107 s_207) (sc_280 hta hta2 htb htb2 htab hto hto2 hkk ht1)
      have bl_224 : B_204.1 ≤ MC := Nat.le_trans (w2_le W_222).1 hX1
      have bl_225 : B_204.2 ≤ MS := Nat.le_trans (w2_le W_222).2 hX2
      refine gs (pc' := 71) (fun _ _ _ _ _ hl => lv_aload_n hx hb d_Ca_setRounded_70 rfl (lv_at hl 1 rfl)) ?_
      refine gs (pc' := 72) (fun _ _ _ _ _ hl => lv_aload_n hx hb d_Ca_setRounded_71 rfl (lv_at hl 0 rfl)) ?_
      refine g_get hx hb hts hin_Ca hown hK f_211 rfl 7 (by decide) (hts _ wm137) (fun _ h9 => h9) rfl d_Ca_setRounded_72 ?_
      obtain ⟨κo_226, ao_226, zo_226, fo_226, hho_226, hao_226, hzo_226, hDo_226, hco_226⟩ := w2_N W_222 (show 10 < 19 by decide)
      rw [k_209] at hDo_226
      have hbo_226 : zo_226 ≤ 3000 := Nat.le_trans hzo_226 hco_226
      refine g_get hx hb hts hin_Na hown hK hho_226 rfl 1 (by decide) (hts _ wm79) (fun _ h9 => h9) rfl d_Ca_setRounded_75 ?_
      refine gsb (pc1 := 85) (pc2 := 81) (fun _ _ _ _ _ => lv_if_ne (tgt := 85) hx hb d_Ca_setRounded_78 (by decide)) (fun c_227 => ?_) (fun c_227 => ?_)
      · skip
        have nc_227 : zo_226 ≠ 0 := (n0_ne (a := zo_226) (by omega)).1 c_227
        have hTz : Qn + 1 ≠ 0 := fun z => nc_227 ((isD_z0 hDo_226).mpr z)
        refine gs (pc' := 86) (fun _ _ _ _ _ hl => lv_aload_n hx hb d_Ca_setRounded_85 rfl (lv_at hl 2 rfl)) ?_
        refine g_get hx hb hts hin_Fr hown hK f_215 rfl 0 (by decide) (hts _ wm164) (fun _ h9 => h9) rfl d_Ca_setRounded_86 ?_
        refine g_put (ty := .int) hx hb hts hin_Fr ty_Fr ty_Fr_ok nm_Fr hown hK f_214 rfl 0 (by decide) (hts _ wm164) (fun _ h9 => h9) rfl (by decide +kernel) rfl rfl (Nat.le_of_ble_eq_true rfl) d_Ca_setRounded_89 (fun G_228 f_229 o_230 => ?_)
        have f_231 : G_228 hf = some (to, .inr (3, [.int (sgI p1), .ref (ad ta), .ref (ad tb)])) := f_229
        have fr_232 : gfr (fun x => x = to) G_203 G_228 := gfr_put gfr_rf f_214 rfl o_230
        have s_233 : w2s cA X ad (fun x => x = to) G_203 V_206 V_206 (G_228, B_204) := ⟨w2_fr W_222 fr_232 (sc_288 hta hta2 htb htb2 htab hto hto2 hkk ht1), fun _ _ => rfl, fr_232⟩
        have f_234 : G_228 hk = some (30, .inr (0, [.ref hd, .ref hc, .ref (ad 5), .ref (ad 6), .ref (ad 7), .ref (ad 8), .ref (ad 9), .ref (ad 10)])) := s_233.2.2 _ _ f_211 (sc_289 hta hta2 htb htb2 htab hto hto2 hkk ht1)
        have f_235 : G_228 hd = some (30, .inr (2, [.ref (ad 0), .ref (ad 1), .ref (ad 2)])) := s_233.2.2 _ _ f_212 (sc_289 hta hta2 htb htb2 htab hto hto2 hkk ht1)
        have f_236 : G_228 hc = some (19, .inr (1, [.ref hd, .ref (ad 3), .ref (ad 4), .long ga0, .long gb0, .long gc0, .long gd0])) := s_233.2.2 _ _ f_213 (sc_290 hta hta2 htb htb2 htab hto hto2 hkk ht1)
        have f_237 : G_228 h1 = some (t1, .inr (3, [.int (sgI p1), .ref a1, .ref b1])) := s_233.2.2 _ _ f_215 (sc_291 hta hta2 htb htb2 htab hto hto2 hkk ht1)
        have k_238 : V_206 5 = st := (s_233.2.1 5 (sc_292 hta hta2 htb htb2 htab hto hto2 hkk ht1)).trans k_216
        have k_239 : V_206 6 = p1.natAbs * st := (s_233.2.1 6 (sc_293 hta hta2 htb htb2 htab hto hto2 hkk ht1)).trans k_217
        have k_240 : V_206 0 = Qn := (s_233.2.1 0 (sc_294 hta hta2 htb htb2 htab hto hto2 hkk ht1)).trans k_218
        have k_241 : V_206 1 = Rm := (s_233.2.1 1 (sc_295 hta hta2 htb htb2 htab hto hto2 hkk ht1)).trans k_219
        have k_242 : V_206 10 = Qn + 1 := (s_233.2.1 10 (sc_296 hta hta2 htb htb2 htab hto hto2 hkk ht1)).trans k_209
        have rd_243 := rd_fr rd_220 s_233.2.2 (sc_297 hta hta2 htb htb2 htab hto hto2 hkk ht1)
        have rd_244 := rd_fr rd_221 s_233.2.2 (sc_297 hta hta2 htb htb2 htab hto hto2 hkk ht1)
        have W_245 := s_233.1
        have S_246 : w2s cA X ad (fun x => x < 11 ∨ x = 19 ∨ x = ta ∨ x = tb ∨ x = to) G V V_206 (G_228, B_204) := w2s_mono (w2s_tr S_223 s_233) (sc_298 hta hta2 htb htb2 htab hto hto2 hkk ht1)
        have bl_247 : B_204.1 ≤ MC := Nat.le_trans (w2_le W_245).1 hX1
        have bl_248 : B_204.2 ≤ MS := Nat.le_trans (w2_le W_245).2 hX2
        refine gs (pc' := 93) (fun _ _ _ _ _ hl => lv_aload_n hx hb d_Ca_setRounded_92 rfl (lv_at hl 0 rfl)) ?_
        refine gs (pc' := 94) (fun _ _ _ _ _ hl => lv_aload_n hx hb d_Ca_setRounded_93 rfl (lv_at hl 1 rfl)) ?_
        refine gs (pc' := 95) (fun _ _ _ _ _ hl => lv_aload_n hx hb d_Ca_setRounded_94 rfl (lv_at hl 0 rfl)) ?_
        refine g_get hx hb hts hin_Ca hown hK f_234 rfl 7 (by decide) (hts _ wm137) (fun _ h9 => h9) rfl d_Ca_setRounded_95 ?_
        refine gs (pc' := 99) (fun _ _ _ _ _ hl => lv_aload_n hx hb d_Ca_setRounded_98 rfl (lv_at hl 0 rfl)) ?_
        refine g_get hx hb hts hin_Ca hown hK f_234 rfl 2 (by decide) (hts _ wm132) (fun _ h9 => h9) rfl d_Ca_setRounded_99 ?_
        have lt_249 : Qn + 1 < 1000000000 ^ (k1 + 4) := lb_up lt_210 (sc_313 hta hta2 htb htb2 htab hto hto2 hkk ht1)
        have lt_250 : st < 1000000000 ^ (k1 + 4) := lb_up lt_11 (sc_302 hta hta2 htb htb2 htab hto hto2 hkk ht1)
        refine g_outv hlo (g_runV (As := [.ref hf, .ref (ad 10), .ref (ad 5)]) (rest := []) ⟨hx, hb, hml, hown, hts⟩ hK hZ hRc hRs (n_setReduced l D cA lo MC MS G_228 B_204 X ad V_206 W_245 hX1 hX2 hk hd hc f_234 f_235 (cdO_i f_236) hf ta tb to (sgI p1) f_231 hta hta2 htb htb2 htab hto hto2 (ad 10) (Qn + 1) (ad 5) st (k1 + 4) (rd_w2' (P := fun x => 5 ≤ x ∧ ¬ x = 19 ∧ ¬ x = ta ∧ ¬ x = tb) W_245 (by decide) (sc_299 hta hta2 htb htb2 htab hto hto2 hkk ht1) k_242) (rd_w2' (P := fun x => 5 ≤ x ∧ ¬ x = 19 ∧ ¬ x = ta ∧ ¬ x = tb) W_245 (by decide) (sc_300 hta hta2 htb htb2 htab hto hto2 hkk ht1) k_238) lt_249 lt_250 (sc_303 hta hta2 htb htb2 htab hto hto2 hkk ht1) hst1) (fun _ _ => cwV 3 hts (tb_good (tb_cons wm395 (tb_cons wm397 (tb_cons ws2 (tb_cons wm3 k_Ca_setReduced))))) rfl rfl rfl (by decide +kernel) ⟨by rw [hRf]; exact Nat.le_of_ble_eq_true rfl, by rw [hRl]; exact Nat.le_of_ble_eq_true rfl⟩) f_234 rfl bl_247 bl_248 rfl (Nat.le_of_ble_eq_true rfl) d_Ca_setRounded_102) (fun G_251 B_252 p_253 => ?_)
        obtain ⟨V_254, s_255, k_256, k_257, cd_258⟩ := p_253
        have f_259 : G_251 hk = some (30, .inr (0, [.ref hd, .ref hc, .ref (ad 5), .ref (ad 6), .ref (ad 7), .ref (ad 8), .ref (ad 9), .ref (ad 10)])) := s_255.2.2 _ _ f_234 (sc_304 hta hta2 htb htb2 htab hto hto2 hkk ht1)
        have f_260 : G_251 hd = some (30, .inr (2, [.ref (ad 0), .ref (ad 1), .ref (ad 2)])) := s_255.2.2 _ _ f_235 (sc_304 hta hta2 htb htb2 htab hto hto2 hkk ht1)
        have f_261 : G_251 h1 = some (t1, .inr (3, [.int (sgI p1), .ref a1, .ref b1])) := s_255.2.2 _ _ f_237 (sc_305 hta hta2 htb htb2 htab hto hto2 hkk ht1)
        have f_262 : G_251 hf = some (to, .inr (3, [.int (sgI p1), .ref (ad ta), .ref (ad tb)])) := s_255.2.2 _ _ f_231 (sc_306 hta hta2 htb htb2 htab hto hto2 hkk ht1)
        have k_263 : V_254 5 = st := (s_255.2.1 5 (sc_307 hta hta2 htb htb2 htab hto hto2 hkk ht1)).trans k_238
        have k_264 : V_254 6 = p1.natAbs * st := (s_255.2.1 6 (sc_308 hta hta2 htb htb2 htab hto hto2 hkk ht1)).trans k_239
        have k_265 : V_254 10 = Qn + 1 := (s_255.2.1 10 (sc_309 hta hta2 htb htb2 htab hto hto2 hkk ht1)).trans k_242
        have rd_266 := rd_fr rd_243 s_255.2.2 (sc_310 hta hta2 htb htb2 htab hto hto2 hkk ht1)
        have rd_267 := rd_fr rd_244 s_255.2.2 (sc_310 hta hta2 htb htb2 htab hto hto2 hkk ht1)
        have W_268 := s_255.1
        have S_269 : w2s cA X ad (fun x => x < 11 ∨ x = 19 ∨ x = ta ∨ x = tb ∨ x = to) G V V_254 (G_251, B_252) := w2s_mono (w2s_tr S_246 s_255) (sc_311 hta hta2 htb htb2 htab hto hto2 hkk ht1)
        have bl_270 : B_252.1 ≤ MC := Nat.le_trans (w2_le W_268).1 hX1
        have bl_271 : B_252.2 ≤ MS := Nat.le_trans (w2_le W_268).2 hX2
        have hna : (p1.sign * ((Qn + 1 : Nat) : Int)).natAbs = Qn + 1 := sgn_abs hT0
        have hsg : (sgI p1) = sgI (frn (p1.sign * ((Qn + 1 : Nat) : Int)) st) := by rw [frn_sg]; exact (sgn_sg.2 hTz).symm
        exact hret 105 _ _ _ d_Ca_setRounded_105 bl_270 bl_271 ⟨V_254, S_269, k_256.trans (by rw [frn_abs, hna]), k_257.trans (by rw [hna]), by rw [← hsg]; exact f_262, cd_258⟩
      · skip
        have nc_227 : zo_226 = 0 := (n0_ne (a := zo_226) (by omega)).2 c_227
        have hTz : Qn + 1 = 0 := (isD_z0 hDo_226).mp nc_227
        refine gs (pc' := 82) (fun _ _ _ _ _ hl => lv_iconst (v := nI 0) hx hb d_Ca_setRounded_81 (by decide)) ?_
        refine gs (pc' := 89) (fun _ _ _ _ _ hl => lv_goto (tgt := 89) hx hb d_Ca_setRounded_82 (by decide)) ?_
        refine g_put (ty := .int) hx hb hts hin_Fr ty_Fr ty_Fr_ok nm_Fr hown hK f_214 rfl 0 (by decide) (hts _ wm164) (fun _ h9 => h9) rfl (by decide +kernel) rfl rfl (Nat.le_of_ble_eq_true rfl) d_Ca_setRounded_89 (fun G_272 f_273 o_274 => ?_)
        have f_275 : G_272 hf = some (to, .inr (3, [.int (nI 0), .ref (ad ta), .ref (ad tb)])) := f_273
        have fr_276 : gfr (fun x => x = to) G_203 G_272 := gfr_put gfr_rf f_214 rfl o_274
        have s_277 : w2s cA X ad (fun x => x = to) G_203 V_206 V_206 (G_272, B_204) := ⟨w2_fr W_222 fr_276 (sc_288 hta hta2 htb htb2 htab hto hto2 hkk ht1), fun _ _ => rfl, fr_276⟩
        have f_278 : G_272 hk = some (30, .inr (0, [.ref hd, .ref hc, .ref (ad 5), .ref (ad 6), .ref (ad 7), .ref (ad 8), .ref (ad 9), .ref (ad 10)])) := s_277.2.2 _ _ f_211 (sc_289 hta hta2 htb htb2 htab hto hto2 hkk ht1)
        have f_279 : G_272 hd = some (30, .inr (2, [.ref (ad 0), .ref (ad 1), .ref (ad 2)])) := s_277.2.2 _ _ f_212 (sc_289 hta hta2 htb htb2 htab hto hto2 hkk ht1)
        have f_280 : G_272 hc = some (19, .inr (1, [.ref hd, .ref (ad 3), .ref (ad 4), .long ga0, .long gb0, .long gc0, .long gd0])) := s_277.2.2 _ _ f_213 (sc_290 hta hta2 htb htb2 htab hto hto2 hkk ht1)
        have f_281 : G_272 h1 = some (t1, .inr (3, [.int (sgI p1), .ref a1, .ref b1])) := s_277.2.2 _ _ f_215 (sc_291 hta hta2 htb htb2 htab hto hto2 hkk ht1)
        have k_282 : V_206 5 = st := (s_277.2.1 5 (sc_292 hta hta2 htb htb2 htab hto hto2 hkk ht1)).trans k_216
        have k_283 : V_206 6 = p1.natAbs * st := (s_277.2.1 6 (sc_293 hta hta2 htb htb2 htab hto hto2 hkk ht1)).trans k_217
        have k_284 : V_206 0 = Qn := (s_277.2.1 0 (sc_294 hta hta2 htb htb2 htab hto hto2 hkk ht1)).trans k_218
        have k_285 : V_206 1 = Rm := (s_277.2.1 1 (sc_295 hta hta2 htb htb2 htab hto hto2 hkk ht1)).trans k_219
        have k_286 : V_206 10 = Qn + 1 := (s_277.2.1 10 (sc_296 hta hta2 htb htb2 htab hto hto2 hkk ht1)).trans k_209
        have rd_287 := rd_fr rd_220 s_277.2.2 (sc_297 hta hta2 htb htb2 htab hto hto2 hkk ht1)
        have rd_288 := rd_fr rd_221 s_277.2.2 (sc_297 hta hta2 htb htb2 htab hto hto2 hkk ht1)
        have W_289 := s_277.1
        have S_290 : w2s cA X ad (fun x => x < 11 ∨ x = 19 ∨ x = ta ∨ x = tb ∨ x = to) G V V_206 (G_272, B_204) := w2s_mono (w2s_tr S_223 s_277) (sc_298 hta hta2 htb htb2 htab hto hto2 hkk ht1)
        have bl_291 : B_204.1 ≤ MC := Nat.le_trans (w2_le W_289).1 hX1
        have bl_292 : B_204.2 ≤ MS := Nat.le_trans (w2_le W_289).2 hX2
        refine gs (pc' := 93) (fun _ _ _ _ _ hl => lv_aload_n hx hb d_Ca_setRounded_92 rfl (lv_at hl 0 rfl)) ?_
        refine gs (pc' := 94) (fun _ _ _ _ _ hl => lv_aload_n hx hb d_Ca_setRounded_93 rfl (lv_at hl 1 rfl)) ?_
        refine gs (pc' := 95) (fun _ _ _ _ _ hl => lv_aload_n hx hb d_Ca_setRounded_94 rfl (lv_at hl 0 rfl)) ?_
        refine g_get hx hb hts hin_Ca hown hK f_278 rfl 7 (by decide) (hts _ wm137) (fun _ h9 => h9) rfl d_Ca_setRounded_95 ?_
        refine gs (pc' := 99) (fun _ _ _ _ _ hl => lv_aload_n hx hb d_Ca_setRounded_98 rfl (lv_at hl 0 rfl)) ?_
        refine g_get hx hb hts hin_Ca hown hK f_278 rfl 2 (by decide) (hts _ wm132) (fun _ h9 => h9) rfl d_Ca_setRounded_99 ?_
        have lt_293 : Qn + 1 < 1000000000 ^ (k1 + 4) := lb_up lt_210 (sc_313 hta hta2 htb htb2 htab hto hto2 hkk ht1)
        have lt_294 : st < 1000000000 ^ (k1 + 4) := lb_up lt_11 (sc_302 hta hta2 htb htb2 htab hto hto2 hkk ht1)
        refine g_outv hlo (g_runV (As := [.ref hf, .ref (ad 10), .ref (ad 5)]) (rest := []) ⟨hx, hb, hml, hown, hts⟩ hK hZ hRc hRs (n_setReduced l D cA lo MC MS G_272 B_204 X ad V_206 W_289 hX1 hX2 hk hd hc f_278 f_279 (cdO_i f_280) hf ta tb to (nI 0) f_275 hta hta2 htb htb2 htab hto hto2 (ad 10) (Qn + 1) (ad 5) st (k1 + 4) (rd_w2' (P := fun x => 5 ≤ x ∧ ¬ x = 19 ∧ ¬ x = ta ∧ ¬ x = tb) W_289 (by decide) (sc_299 hta hta2 htb htb2 htab hto hto2 hkk ht1) k_286) (rd_w2' (P := fun x => 5 ≤ x ∧ ¬ x = 19 ∧ ¬ x = ta ∧ ¬ x = tb) W_289 (by decide) (sc_300 hta hta2 htb htb2 htab hto hto2 hkk ht1) k_282) lt_293 lt_294 (sc_303 hta hta2 htb htb2 htab hto hto2 hkk ht1) hst1) (fun _ _ => cwV 3 hts (tb_good (tb_cons wm395 (tb_cons wm397 (tb_cons ws2 (tb_cons wm3 k_Ca_setReduced))))) rfl rfl rfl (by decide +kernel) ⟨by rw [hRf]; exact Nat.le_of_ble_eq_true rfl, by rw [hRl]; exact Nat.le_of_ble_eq_true rfl⟩) f_278 rfl bl_291 bl_292 rfl (Nat.le_of_ble_eq_true rfl) d_Ca_setRounded_102) (fun G_295 B_296 p_297 => ?_)
        obtain ⟨V_298, s_299, k_300, k_301, cd_302⟩ := p_297
        have f_303 : G_295 hk = some (30, .inr (0, [.ref hd, .ref hc, .ref (ad 5), .ref (ad 6), .ref (ad 7), .ref (ad 8), .ref (ad 9), .ref (ad 10)])) := s_299.2.2 _ _ f_278 (sc_304 hta hta2 htb htb2 htab hto hto2 hkk ht1)
        have f_304 : G_295 hd = some (30, .inr (2, [.ref (ad 0), .ref (ad 1), .ref (ad 2)])) := s_299.2.2 _ _ f_279 (sc_304 hta hta2 htb htb2 htab hto hto2 hkk ht1)
        have f_305 : G_295 h1 = some (t1, .inr (3, [.int (sgI p1), .ref a1, .ref b1])) := s_299.2.2 _ _ f_281 (sc_305 hta hta2 htb htb2 htab hto hto2 hkk ht1)
        have f_306 : G_295 hf = some (to, .inr (3, [.int (nI 0), .ref (ad ta), .ref (ad tb)])) := s_299.2.2 _ _ f_275 (sc_306 hta hta2 htb htb2 htab hto hto2 hkk ht1)
        have k_307 : V_298 5 = st := (s_299.2.1 5 (sc_307 hta hta2 htb htb2 htab hto hto2 hkk ht1)).trans k_282
        have k_308 : V_298 6 = p1.natAbs * st := (s_299.2.1 6 (sc_308 hta hta2 htb htb2 htab hto hto2 hkk ht1)).trans k_283
        have k_309 : V_298 10 = Qn + 1 := (s_299.2.1 10 (sc_309 hta hta2 htb htb2 htab hto hto2 hkk ht1)).trans k_286
        have rd_310 := rd_fr rd_287 s_299.2.2 (sc_310 hta hta2 htb htb2 htab hto hto2 hkk ht1)
        have rd_311 := rd_fr rd_288 s_299.2.2 (sc_310 hta hta2 htb htb2 htab hto hto2 hkk ht1)
        have W_312 := s_299.1
        have S_313 : w2s cA X ad (fun x => x < 11 ∨ x = 19 ∨ x = ta ∨ x = tb ∨ x = to) G V V_298 (G_295, B_296) := w2s_mono (w2s_tr S_290 s_299) (sc_311 hta hta2 htb htb2 htab hto hto2 hkk ht1)
        have bl_314 : B_296.1 ≤ MC := Nat.le_trans (w2_le W_312).1 hX1
        have bl_315 : B_296.2 ≤ MS := Nat.le_trans (w2_le W_312).2 hX2
        have hna : (p1.sign * ((Qn + 1 : Nat) : Int)).natAbs = Qn + 1 := sgn_abs hT0
        have hsg : (nI 0) = sgI (frn (p1.sign * ((Qn + 1 : Nat) : Int)) st) := by rw [frn_sg]; exact (sgn_sg.1 hTz).symm
        exact hret 105 _ _ _ d_Ca_setRounded_105 bl_314 bl_315 ⟨V_298, S_313, k_300.trans (by rw [frn_abs, hna]), k_301.trans (by rw [hna]), by rw [← hsg]; exact f_306, cd_302⟩
