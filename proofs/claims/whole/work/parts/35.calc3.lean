theorem sc_150 {ta tb to k1 k2 t1 t2 : Nat} (hta : 11 ≤ ta) (hta2 : ta < 19) (htb : 11 ≤ tb) (htb2 : tb < 19) (htab : ¬ ta = tb) (hto : 20 ≤ to) (hto2 : to ≤ 23) (hkk : k1 + k2 ≤ 1499) (ht1 : 11 ≤ t1 ∧ ¬ t1 = 19 ∧ ¬ t1 = ta ∧ ¬ t1 = tb ∧ ¬ t1 = to) (ht2 : 11 ≤ t2 ∧ ¬ t2 = 19 ∧ ¬ t2 = ta ∧ ¬ t2 = tb ∧ ¬ t2 = to) : ∀ x, (11 ≤ x ∧ ¬ x = 19 ∧ ¬ x = ta ∧ ¬ x = tb ∧ ¬ x = to) → (5 ≤ x ∧ ¬ x = 19) := by intro x h; omega
theorem sc_151 {ta tb to k1 k2 t1 t2 : Nat} (hta : 11 ≤ ta) (hta2 : ta < 19) (htb : 11 ≤ tb) (htb2 : tb < 19) (htab : ¬ ta = tb) (hto : 20 ≤ to) (hto2 : to ≤ 23) (hkk : k1 + k2 ≤ 1499) (ht1 : 11 ≤ t1 ∧ ¬ t1 = 19 ∧ ¬ t1 = ta ∧ ¬ t1 = tb ∧ ¬ t1 = to) (ht2 : 11 ≤ t2 ∧ ¬ t2 = 19 ∧ ¬ t2 = ta ∧ ¬ t2 = tb ∧ ¬ t2 = to) : k1 ≤ k1 + k2 := by omega
theorem sc_152 {ta tb to k1 k2 t1 t2 : Nat} (hta : 11 ≤ ta) (hta2 : ta < 19) (htb : 11 ≤ tb) (htb2 : tb < 19) (htab : ¬ ta = tb) (hto : 20 ≤ to) (hto2 : to ≤ 23) (hkk : k1 + k2 ≤ 1499) (ht1 : 11 ≤ t1 ∧ ¬ t1 = 19 ∧ ¬ t1 = ta ∧ ¬ t1 = tb ∧ ¬ t1 = to) (ht2 : 11 ≤ t2 ∧ ¬ t2 = 19 ∧ ¬ t2 = ta ∧ ¬ t2 = tb ∧ ¬ t2 = to) : k2 ≤ k1 + k2 := by omega
theorem sc_153 {ta tb to k1 k2 t1 t2 : Nat} (hta : 11 ≤ ta) (hta2 : ta < 19) (htb : 11 ≤ tb) (htb2 : tb < 19) (htab : ¬ ta = tb) (hto : 20 ≤ to) (hto2 : to ≤ 23) (hkk : k1 + k2 ≤ 1499) (ht1 : 11 ≤ t1 ∧ ¬ t1 = 19 ∧ ¬ t1 = ta ∧ ¬ t1 = tb ∧ ¬ t1 = to) (ht2 : 11 ≤ t2 ∧ ¬ t2 = 19 ∧ ¬ t2 = ta ∧ ¬ t2 = tb ∧ ¬ t2 = to) : k1 + k2 ≤ 1499 := by omega
theorem sc_154 {ta tb to k1 k2 t1 t2 : Nat} (hta : 11 ≤ ta) (hta2 : ta < 19) (htb : 11 ≤ tb) (htb2 : tb < 19) (htab : ¬ ta = tb) (hto : 20 ≤ to) (hto2 : to ≤ 23) (hkk : k1 + k2 ≤ 1499) (ht1 : 11 ≤ t1 ∧ ¬ t1 = 19 ∧ ¬ t1 = ta ∧ ¬ t1 = tb ∧ ¬ t1 = to) (ht2 : 11 ≤ t2 ∧ ¬ t2 = 19 ∧ ¬ t2 = ta ∧ ¬ t2 = tb ∧ ¬ t2 = to) : ¬ (to < 5 ∨ to = 19) := by omega
theorem sc_155 {ta tb to k1 k2 t1 t2 : Nat} (hta : 11 ≤ ta) (hta2 : ta < 19) (htb : 11 ≤ tb) (htb2 : tb < 19) (htab : ¬ ta = tb) (hto : 20 ≤ to) (hto2 : to ≤ 23) (hkk : k1 + k2 ≤ 1499) (ht1 : 11 ≤ t1 ∧ ¬ t1 = 19 ∧ ¬ t1 = ta ∧ ¬ t1 = tb ∧ ¬ t1 = to) (ht2 : 11 ≤ t2 ∧ ¬ t2 = 19 ∧ ¬ t2 = ta ∧ ¬ t2 = tb ∧ ¬ t2 = to) : ¬ (t1 < 5 ∨ t1 = 19) := by omega
theorem sc_156 {ta tb to k1 k2 t1 t2 : Nat} (hta : 11 ≤ ta) (hta2 : ta < 19) (htb : 11 ≤ tb) (htb2 : tb < 19) (htab : ¬ ta = tb) (hto : 20 ≤ to) (hto2 : to ≤ 23) (hkk : k1 + k2 ≤ 1499) (ht1 : 11 ≤ t1 ∧ ¬ t1 = 19 ∧ ¬ t1 = ta ∧ ¬ t1 = tb ∧ ¬ t1 = to) (ht2 : 11 ≤ t2 ∧ ¬ t2 = 19 ∧ ¬ t2 = ta ∧ ¬ t2 = tb ∧ ¬ t2 = to) : ¬ (t2 < 5 ∨ t2 = 19) := by omega
theorem sc_157 {ta tb to k1 k2 t1 t2 : Nat} (hta : 11 ≤ ta) (hta2 : ta < 19) (htb : 11 ≤ tb) (htb2 : tb < 19) (htab : ¬ ta = tb) (hto : 20 ≤ to) (hto2 : to ≤ 23) (hkk : k1 + k2 ≤ 1499) (ht1 : 11 ≤ t1 ∧ ¬ t1 = 19 ∧ ¬ t1 = ta ∧ ¬ t1 = tb ∧ ¬ t1 = to) (ht2 : 11 ≤ t2 ∧ ¬ t2 = 19 ∧ ¬ t2 = ta ∧ ¬ t2 = tb ∧ ¬ t2 = to) : ∀ x, (11 ≤ x ∧ ¬ x = 19 ∧ ¬ x = ta ∧ ¬ x = tb ∧ ¬ x = to) → ¬ (x < 5 ∨ x = 19) := by intro x h; omega
theorem sc_158 {ta tb to k1 k2 t1 t2 : Nat} (hta : 11 ≤ ta) (hta2 : ta < 19) (htb : 11 ≤ tb) (htb2 : tb < 19) (htab : ¬ ta = tb) (hto : 20 ≤ to) (hto2 : to ≤ 23) (hkk : k1 + k2 ≤ 1499) (ht1 : 11 ≤ t1 ∧ ¬ t1 = 19 ∧ ¬ t1 = ta ∧ ¬ t1 = tb ∧ ¬ t1 = to) (ht2 : 11 ≤ t2 ∧ ¬ t2 = 19 ∧ ¬ t2 = ta ∧ ¬ t2 = tb ∧ ¬ t2 = to) : ∀ x, (x < 11 ∨ x = 19 ∨ x = ta ∨ x = tb ∨ x = to) ∨ (x < 5 ∨ x = 19) → (x < 11 ∨ x = 19 ∨ x = ta ∨ x = tb ∨ x = to) := by intro x h; omega
theorem sc_159 {ta tb to k1 k2 t1 t2 : Nat} (hta : 11 ≤ ta) (hta2 : ta < 19) (htb : 11 ≤ tb) (htb2 : tb < 19) (htab : ¬ ta = tb) (hto : 20 ≤ to) (hto2 : to ≤ 23) (hkk : k1 + k2 ≤ 1499) (ht1 : 11 ≤ t1 ∧ ¬ t1 = 19 ∧ ¬ t1 = ta ∧ ¬ t1 = tb ∧ ¬ t1 = to) (ht2 : 11 ≤ t2 ∧ ¬ t2 = 19 ∧ ¬ t2 = ta ∧ ¬ t2 = tb ∧ ¬ t2 = to) : ∀ x, (11 ≤ x ∧ ¬ x = 19 ∧ ¬ x = ta ∧ ¬ x = tb ∧ ¬ x = to) → (3 ≤ x) := by intro x h; omega
theorem sc_160 {ta tb to k1 k2 t1 t2 : Nat} (hta : 11 ≤ ta) (hta2 : ta < 19) (htb : 11 ≤ tb) (htb2 : tb < 19) (htab : ¬ ta = tb) (hto : 20 ≤ to) (hto2 : to ≤ 23) (hkk : k1 + k2 ≤ 1499) (ht1 : 11 ≤ t1 ∧ ¬ t1 = 19 ∧ ¬ t1 = ta ∧ ¬ t1 = tb ∧ ¬ t1 = to) (ht2 : 11 ≤ t2 ∧ ¬ t2 = 19 ∧ ¬ t2 = ta ∧ ¬ t2 = tb ∧ ¬ t2 = to) : k1 ≤ 1499 := by omega
theorem sc_161 {ta tb to k1 k2 t1 t2 : Nat} (hta : 11 ≤ ta) (hta2 : ta < 19) (htb : 11 ≤ tb) (htb2 : tb < 19) (htab : ¬ ta = tb) (hto : 20 ≤ to) (hto2 : to ≤ 23) (hkk : k1 + k2 ≤ 1499) (ht1 : 11 ≤ t1 ∧ ¬ t1 = 19 ∧ ¬ t1 = ta ∧ ¬ t1 = tb ∧ ¬ t1 = to) (ht2 : 11 ≤ t2 ∧ ¬ t2 = 19 ∧ ¬ t2 = ta ∧ ¬ t2 = tb ∧ ¬ t2 = to) : ¬ (to < 3 ∨ to = 6) := by omega
theorem sc_162 {ta tb to k1 k2 t1 t2 : Nat} (hta : 11 ≤ ta) (hta2 : ta < 19) (htb : 11 ≤ tb) (htb2 : tb < 19) (htab : ¬ ta = tb) (hto : 20 ≤ to) (hto2 : to ≤ 23) (hkk : k1 + k2 ≤ 1499) (ht1 : 11 ≤ t1 ∧ ¬ t1 = 19 ∧ ¬ t1 = ta ∧ ¬ t1 = tb ∧ ¬ t1 = to) (ht2 : 11 ≤ t2 ∧ ¬ t2 = 19 ∧ ¬ t2 = ta ∧ ¬ t2 = tb ∧ ¬ t2 = to) : ¬ (t1 < 3 ∨ t1 = 6) := by omega
theorem sc_163 {ta tb to k1 k2 t1 t2 : Nat} (hta : 11 ≤ ta) (hta2 : ta < 19) (htb : 11 ≤ tb) (htb2 : tb < 19) (htab : ¬ ta = tb) (hto : 20 ≤ to) (hto2 : to ≤ 23) (hkk : k1 + k2 ≤ 1499) (ht1 : 11 ≤ t1 ∧ ¬ t1 = 19 ∧ ¬ t1 = ta ∧ ¬ t1 = tb ∧ ¬ t1 = to) (ht2 : 11 ≤ t2 ∧ ¬ t2 = 19 ∧ ¬ t2 = ta ∧ ¬ t2 = tb ∧ ¬ t2 = to) : ¬ (t2 < 3 ∨ t2 = 6) := by omega
theorem sc_164 {ta tb to k1 k2 t1 t2 : Nat} (hta : 11 ≤ ta) (hta2 : ta < 19) (htb : 11 ≤ tb) (htb2 : tb < 19) (htab : ¬ ta = tb) (hto : 20 ≤ to) (hto2 : to ≤ 23) (hkk : k1 + k2 ≤ 1499) (ht1 : 11 ≤ t1 ∧ ¬ t1 = 19 ∧ ¬ t1 = ta ∧ ¬ t1 = tb ∧ ¬ t1 = to) (ht2 : 11 ≤ t2 ∧ ¬ t2 = 19 ∧ ¬ t2 = ta ∧ ¬ t2 = tb ∧ ¬ t2 = to) : ∀ x, (11 ≤ x ∧ ¬ x = 19 ∧ ¬ x = ta ∧ ¬ x = tb ∧ ¬ x = to) → ¬ (x < 3 ∨ x = 6) := by intro x h; omega
theorem sc_165 {ta tb to k1 k2 t1 t2 : Nat} (hta : 11 ≤ ta) (hta2 : ta < 19) (htb : 11 ≤ tb) (htb2 : tb < 19) (htab : ¬ ta = tb) (hto : 20 ≤ to) (hto2 : to ≤ 23) (hkk : k1 + k2 ≤ 1499) (ht1 : 11 ≤ t1 ∧ ¬ t1 = 19 ∧ ¬ t1 = ta ∧ ¬ t1 = tb ∧ ¬ t1 = to) (ht2 : 11 ≤ t2 ∧ ¬ t2 = 19 ∧ ¬ t2 = ta ∧ ¬ t2 = tb ∧ ¬ t2 = to) : ∀ x, (x < 11 ∨ x = 19 ∨ x = ta ∨ x = tb ∨ x = to) ∨ (x < 3 ∨ x = 6) → (x < 11 ∨ x = 19 ∨ x = ta ∨ x = tb ∨ x = to) := by intro x h; omega
theorem sc_166 {ta tb to k1 k2 t1 t2 : Nat} (hta : 11 ≤ ta) (hta2 : ta < 19) (htb : 11 ≤ tb) (htb2 : tb < 19) (htab : ¬ ta = tb) (hto : 20 ≤ to) (hto2 : to ≤ 23) (hkk : k1 + k2 ≤ 1499) (ht1 : 11 ≤ t1 ∧ ¬ t1 = 19 ∧ ¬ t1 = ta ∧ ¬ t1 = tb ∧ ¬ t1 = to) (ht2 : 11 ≤ t2 ∧ ¬ t2 = 19 ∧ ¬ t2 = ta ∧ ¬ t2 = tb ∧ ¬ t2 = to) : k2 ≤ 1499 := by omega
theorem sc_167 {ta tb to k1 k2 t1 t2 : Nat} (hta : 11 ≤ ta) (hta2 : ta < 19) (htb : 11 ≤ tb) (htb2 : tb < 19) (htab : ¬ ta = tb) (hto : 20 ≤ to) (hto2 : to ≤ 23) (hkk : k1 + k2 ≤ 1499) (ht1 : 11 ≤ t1 ∧ ¬ t1 = 19 ∧ ¬ t1 = ta ∧ ¬ t1 = tb ∧ ¬ t1 = to) (ht2 : 11 ≤ t2 ∧ ¬ t2 = 19 ∧ ¬ t2 = ta ∧ ¬ t2 = tb ∧ ¬ t2 = to) : ¬ (to < 3 ∨ to = 9) := by omega
theorem sc_168 {ta tb to k1 k2 t1 t2 : Nat} (hta : 11 ≤ ta) (hta2 : ta < 19) (htb : 11 ≤ tb) (htb2 : tb < 19) (htab : ¬ ta = tb) (hto : 20 ≤ to) (hto2 : to ≤ 23) (hkk : k1 + k2 ≤ 1499) (ht1 : 11 ≤ t1 ∧ ¬ t1 = 19 ∧ ¬ t1 = ta ∧ ¬ t1 = tb ∧ ¬ t1 = to) (ht2 : 11 ≤ t2 ∧ ¬ t2 = 19 ∧ ¬ t2 = ta ∧ ¬ t2 = tb ∧ ¬ t2 = to) : ¬ (t1 < 3 ∨ t1 = 9) := by omega
theorem sc_169 {ta tb to k1 k2 t1 t2 : Nat} (hta : 11 ≤ ta) (hta2 : ta < 19) (htb : 11 ≤ tb) (htb2 : tb < 19) (htab : ¬ ta = tb) (hto : 20 ≤ to) (hto2 : to ≤ 23) (hkk : k1 + k2 ≤ 1499) (ht1 : 11 ≤ t1 ∧ ¬ t1 = 19 ∧ ¬ t1 = ta ∧ ¬ t1 = tb ∧ ¬ t1 = to) (ht2 : 11 ≤ t2 ∧ ¬ t2 = 19 ∧ ¬ t2 = ta ∧ ¬ t2 = tb ∧ ¬ t2 = to) : ¬ (t2 < 3 ∨ t2 = 9) := by omega
theorem sc_170 {ta tb to k1 k2 t1 t2 : Nat} (hta : 11 ≤ ta) (hta2 : ta < 19) (htb : 11 ≤ tb) (htb2 : tb < 19) (htab : ¬ ta = tb) (hto : 20 ≤ to) (hto2 : to ≤ 23) (hkk : k1 + k2 ≤ 1499) (ht1 : 11 ≤ t1 ∧ ¬ t1 = 19 ∧ ¬ t1 = ta ∧ ¬ t1 = tb ∧ ¬ t1 = to) (ht2 : 11 ≤ t2 ∧ ¬ t2 = 19 ∧ ¬ t2 = ta ∧ ¬ t2 = tb ∧ ¬ t2 = to) : ∀ x, (11 ≤ x ∧ ¬ x = 19 ∧ ¬ x = ta ∧ ¬ x = tb ∧ ¬ x = to) → ¬ (x < 3 ∨ x = 9) := by intro x h; omega
theorem sc_171 {ta tb to k1 k2 t1 t2 : Nat} (hta : 11 ≤ ta) (hta2 : ta < 19) (htb : 11 ≤ tb) (htb2 : tb < 19) (htab : ¬ ta = tb) (hto : 20 ≤ to) (hto2 : to ≤ 23) (hkk : k1 + k2 ≤ 1499) (ht1 : 11 ≤ t1 ∧ ¬ t1 = 19 ∧ ¬ t1 = ta ∧ ¬ t1 = tb ∧ ¬ t1 = to) (ht2 : 11 ≤ t2 ∧ ¬ t2 = 19 ∧ ¬ t2 = ta ∧ ¬ t2 = tb ∧ ¬ t2 = to) : ∀ x, (x < 11 ∨ x = 19 ∨ x = ta ∨ x = tb ∨ x = to) ∨ (x < 3 ∨ x = 9) → (x < 11 ∨ x = 19 ∨ x = ta ∨ x = tb ∨ x = to) := by intro x h; omega
theorem sc_172 {ta tb to k1 k2 t1 t2 : Nat} (hta : 11 ≤ ta) (hta2 : ta < 19) (htb : 11 ≤ tb) (htb2 : tb < 19) (htab : ¬ ta = tb) (hto : 20 ≤ to) (hto2 : to ≤ 23) (hkk : k1 + k2 ≤ 1499) (ht1 : 11 ≤ t1 ∧ ¬ t1 = 19 ∧ ¬ t1 = ta ∧ ¬ t1 = tb ∧ ¬ t1 = to) (ht2 : 11 ≤ t2 ∧ ¬ t2 = 19 ∧ ¬ t2 = ta ∧ ¬ t2 = tb ∧ ¬ t2 = to) : ¬ (to < 3 ∨ to = 8) := by omega
theorem sc_173 {ta tb to k1 k2 t1 t2 : Nat} (hta : 11 ≤ ta) (hta2 : ta < 19) (htb : 11 ≤ tb) (htb2 : tb < 19) (htab : ¬ ta = tb) (hto : 20 ≤ to) (hto2 : to ≤ 23) (hkk : k1 + k2 ≤ 1499) (ht1 : 11 ≤ t1 ∧ ¬ t1 = 19 ∧ ¬ t1 = ta ∧ ¬ t1 = tb ∧ ¬ t1 = to) (ht2 : 11 ≤ t2 ∧ ¬ t2 = 19 ∧ ¬ t2 = ta ∧ ¬ t2 = tb ∧ ¬ t2 = to) : ¬ (t1 < 3 ∨ t1 = 8) := by omega
theorem sc_174 {ta tb to k1 k2 t1 t2 : Nat} (hta : 11 ≤ ta) (hta2 : ta < 19) (htb : 11 ≤ tb) (htb2 : tb < 19) (htab : ¬ ta = tb) (hto : 20 ≤ to) (hto2 : to ≤ 23) (hkk : k1 + k2 ≤ 1499) (ht1 : 11 ≤ t1 ∧ ¬ t1 = 19 ∧ ¬ t1 = ta ∧ ¬ t1 = tb ∧ ¬ t1 = to) (ht2 : 11 ≤ t2 ∧ ¬ t2 = 19 ∧ ¬ t2 = ta ∧ ¬ t2 = tb ∧ ¬ t2 = to) : ¬ (t2 < 3 ∨ t2 = 8) := by omega
theorem sc_175 {ta tb to k1 k2 t1 t2 : Nat} (hta : 11 ≤ ta) (hta2 : ta < 19) (htb : 11 ≤ tb) (htb2 : tb < 19) (htab : ¬ ta = tb) (hto : 20 ≤ to) (hto2 : to ≤ 23) (hkk : k1 + k2 ≤ 1499) (ht1 : 11 ≤ t1 ∧ ¬ t1 = 19 ∧ ¬ t1 = ta ∧ ¬ t1 = tb ∧ ¬ t1 = to) (ht2 : 11 ≤ t2 ∧ ¬ t2 = 19 ∧ ¬ t2 = ta ∧ ¬ t2 = tb ∧ ¬ t2 = to) : ∀ x, (11 ≤ x ∧ ¬ x = 19 ∧ ¬ x = ta ∧ ¬ x = tb ∧ ¬ x = to) → ¬ (x < 3 ∨ x = 8) := by intro x h; omega
theorem sc_176 {ta tb to k1 k2 t1 t2 : Nat} (hta : 11 ≤ ta) (hta2 : ta < 19) (htb : 11 ≤ tb) (htb2 : tb < 19) (htab : ¬ ta = tb) (hto : 20 ≤ to) (hto2 : to ≤ 23) (hkk : k1 + k2 ≤ 1499) (ht1 : 11 ≤ t1 ∧ ¬ t1 = 19 ∧ ¬ t1 = ta ∧ ¬ t1 = tb ∧ ¬ t1 = to) (ht2 : 11 ≤ t2 ∧ ¬ t2 = 19 ∧ ¬ t2 = ta ∧ ¬ t2 = tb ∧ ¬ t2 = to) : ∀ x, (x < 11 ∨ x = 19 ∨ x = ta ∨ x = tb ∨ x = to) ∨ (x < 3 ∨ x = 8) → (x < 11 ∨ x = 19 ∨ x = ta ∨ x = tb ∨ x = to) := by intro x h; omega
theorem sc_177 {ta tb to k1 k2 t1 t2 : Nat} (hta : 11 ≤ ta) (hta2 : ta < 19) (htb : 11 ≤ tb) (htb2 : tb < 19) (htab : ¬ ta = tb) (hto : 20 ≤ to) (hto2 : to ≤ 23) (hkk : k1 + k2 ≤ 1499) (ht1 : 11 ≤ t1 ∧ ¬ t1 = 19 ∧ ¬ t1 = ta ∧ ¬ t1 = tb ∧ ¬ t1 = to) (ht2 : 11 ≤ t2 ∧ ¬ t2 = 19 ∧ ¬ t2 = ta ∧ ¬ t2 = tb ∧ ¬ t2 = to) : ¬ (to < 3 ∨ to = 7) := by omega
theorem sc_178 {ta tb to k1 k2 t1 t2 : Nat} (hta : 11 ≤ ta) (hta2 : ta < 19) (htb : 11 ≤ tb) (htb2 : tb < 19) (htab : ¬ ta = tb) (hto : 20 ≤ to) (hto2 : to ≤ 23) (hkk : k1 + k2 ≤ 1499) (ht1 : 11 ≤ t1 ∧ ¬ t1 = 19 ∧ ¬ t1 = ta ∧ ¬ t1 = tb ∧ ¬ t1 = to) (ht2 : 11 ≤ t2 ∧ ¬ t2 = 19 ∧ ¬ t2 = ta ∧ ¬ t2 = tb ∧ ¬ t2 = to) : ¬ (t1 < 3 ∨ t1 = 7) := by omega
theorem sc_179 {ta tb to k1 k2 t1 t2 : Nat} (hta : 11 ≤ ta) (hta2 : ta < 19) (htb : 11 ≤ tb) (htb2 : tb < 19) (htab : ¬ ta = tb) (hto : 20 ≤ to) (hto2 : to ≤ 23) (hkk : k1 + k2 ≤ 1499) (ht1 : 11 ≤ t1 ∧ ¬ t1 = 19 ∧ ¬ t1 = ta ∧ ¬ t1 = tb ∧ ¬ t1 = to) (ht2 : 11 ≤ t2 ∧ ¬ t2 = 19 ∧ ¬ t2 = ta ∧ ¬ t2 = tb ∧ ¬ t2 = to) : ¬ (t2 < 3 ∨ t2 = 7) := by omega
theorem sc_180 {ta tb to k1 k2 t1 t2 : Nat} (hta : 11 ≤ ta) (hta2 : ta < 19) (htb : 11 ≤ tb) (htb2 : tb < 19) (htab : ¬ ta = tb) (hto : 20 ≤ to) (hto2 : to ≤ 23) (hkk : k1 + k2 ≤ 1499) (ht1 : 11 ≤ t1 ∧ ¬ t1 = 19 ∧ ¬ t1 = ta ∧ ¬ t1 = tb ∧ ¬ t1 = to) (ht2 : 11 ≤ t2 ∧ ¬ t2 = 19 ∧ ¬ t2 = ta ∧ ¬ t2 = tb ∧ ¬ t2 = to) : ∀ x, (11 ≤ x ∧ ¬ x = 19 ∧ ¬ x = ta ∧ ¬ x = tb ∧ ¬ x = to) → ¬ (x < 3 ∨ x = 7) := by intro x h; omega
theorem sc_181 {ta tb to k1 k2 t1 t2 : Nat} (hta : 11 ≤ ta) (hta2 : ta < 19) (htb : 11 ≤ tb) (htb2 : tb < 19) (htab : ¬ ta = tb) (hto : 20 ≤ to) (hto2 : to ≤ 23) (hkk : k1 + k2 ≤ 1499) (ht1 : 11 ≤ t1 ∧ ¬ t1 = 19 ∧ ¬ t1 = ta ∧ ¬ t1 = tb ∧ ¬ t1 = to) (ht2 : 11 ≤ t2 ∧ ¬ t2 = 19 ∧ ¬ t2 = ta ∧ ¬ t2 = tb ∧ ¬ t2 = to) : ∀ x, (x < 11 ∨ x = 19 ∨ x = ta ∨ x = tb ∨ x = to) ∨ (x < 3 ∨ x = 7) → (x < 11 ∨ x = 19 ∨ x = ta ∨ x = tb ∨ x = to) := by intro x h; omega
theorem sc_182 {ta tb to k1 k2 t1 t2 : Nat} (hta : 11 ≤ ta) (hta2 : ta < 19) (htb : 11 ≤ tb) (htb2 : tb < 19) (htab : ¬ ta = tb) (hto : 20 ≤ to) (hto2 : to ≤ 23) (hkk : k1 + k2 ≤ 1499) (ht1 : 11 ≤ t1 ∧ ¬ t1 = 19 ∧ ¬ t1 = ta ∧ ¬ t1 = tb ∧ ¬ t1 = to) (ht2 : 11 ≤ t2 ∧ ¬ t2 = 19 ∧ ¬ t2 = ta ∧ ¬ t2 = tb ∧ ¬ t2 = to) : ∀ x, x < 19 → ¬ x = to := by intro x h; omega
theorem sc_183 {ta tb to k1 k2 t1 t2 : Nat} (hta : 11 ≤ ta) (hta2 : ta < 19) (htb : 11 ≤ tb) (htb2 : tb < 19) (htab : ¬ ta = tb) (hto : 20 ≤ to) (hto2 : to ≤ 23) (hkk : k1 + k2 ≤ 1499) (ht1 : 11 ≤ t1 ∧ ¬ t1 = 19 ∧ ¬ t1 = ta ∧ ¬ t1 = tb ∧ ¬ t1 = to) (ht2 : 11 ≤ t2 ∧ ¬ t2 = 19 ∧ ¬ t2 = ta ∧ ¬ t2 = tb ∧ ¬ t2 = to) : ¬ (30 = to) := by omega
theorem sc_184 {ta tb to k1 k2 t1 t2 : Nat} (hta : 11 ≤ ta) (hta2 : ta < 19) (htb : 11 ≤ tb) (htb2 : tb < 19) (htab : ¬ ta = tb) (hto : 20 ≤ to) (hto2 : to ≤ 23) (hkk : k1 + k2 ≤ 1499) (ht1 : 11 ≤ t1 ∧ ¬ t1 = 19 ∧ ¬ t1 = ta ∧ ¬ t1 = tb ∧ ¬ t1 = to) (ht2 : 11 ≤ t2 ∧ ¬ t2 = 19 ∧ ¬ t2 = ta ∧ ¬ t2 = tb ∧ ¬ t2 = to) : ¬ (t1 = to) := by omega
theorem sc_185 {ta tb to k1 k2 t1 t2 : Nat} (hta : 11 ≤ ta) (hta2 : ta < 19) (htb : 11 ≤ tb) (htb2 : tb < 19) (htab : ¬ ta = tb) (hto : 20 ≤ to) (hto2 : to ≤ 23) (hkk : k1 + k2 ≤ 1499) (ht1 : 11 ≤ t1 ∧ ¬ t1 = 19 ∧ ¬ t1 = ta ∧ ¬ t1 = tb ∧ ¬ t1 = to) (ht2 : 11 ≤ t2 ∧ ¬ t2 = 19 ∧ ¬ t2 = ta ∧ ¬ t2 = tb ∧ ¬ t2 = to) : ¬ (t2 = to) := by omega
theorem sc_186 {ta tb to k1 k2 t1 t2 : Nat} (hta : 11 ≤ ta) (hta2 : ta < 19) (htb : 11 ≤ tb) (htb2 : tb < 19) (htab : ¬ ta = tb) (hto : 20 ≤ to) (hto2 : to ≤ 23) (hkk : k1 + k2 ≤ 1499) (ht1 : 11 ≤ t1 ∧ ¬ t1 = 19 ∧ ¬ t1 = ta ∧ ¬ t1 = tb ∧ ¬ t1 = to) (ht2 : 11 ≤ t2 ∧ ¬ t2 = 19 ∧ ¬ t2 = ta ∧ ¬ t2 = tb ∧ ¬ t2 = to) : ¬ (19 = to) := by omega
theorem sc_187 {ta tb to k1 k2 t1 t2 : Nat} (hta : 11 ≤ ta) (hta2 : ta < 19) (htb : 11 ≤ tb) (htb2 : tb < 19) (htab : ¬ ta = tb) (hto : 20 ≤ to) (hto2 : to ≤ 23) (hkk : k1 + k2 ≤ 1499) (ht1 : 11 ≤ t1 ∧ ¬ t1 = 19 ∧ ¬ t1 = ta ∧ ¬ t1 = tb ∧ ¬ t1 = to) (ht2 : 11 ≤ t2 ∧ ¬ t2 = 19 ∧ ¬ t2 = ta ∧ ¬ t2 = tb ∧ ¬ t2 = to) : ¬ (6 = to) := by omega
theorem sc_188 {ta tb to k1 k2 t1 t2 : Nat} (hta : 11 ≤ ta) (hta2 : ta < 19) (htb : 11 ≤ tb) (htb2 : tb < 19) (htab : ¬ ta = tb) (hto : 20 ≤ to) (hto2 : to ≤ 23) (hkk : k1 + k2 ≤ 1499) (ht1 : 11 ≤ t1 ∧ ¬ t1 = 19 ∧ ¬ t1 = ta ∧ ¬ t1 = tb ∧ ¬ t1 = to) (ht2 : 11 ≤ t2 ∧ ¬ t2 = 19 ∧ ¬ t2 = ta ∧ ¬ t2 = tb ∧ ¬ t2 = to) : ¬ (9 = to) := by omega
theorem sc_189 {ta tb to k1 k2 t1 t2 : Nat} (hta : 11 ≤ ta) (hta2 : ta < 19) (htb : 11 ≤ tb) (htb2 : tb < 19) (htab : ¬ ta = tb) (hto : 20 ≤ to) (hto2 : to ≤ 23) (hkk : k1 + k2 ≤ 1499) (ht1 : 11 ≤ t1 ∧ ¬ t1 = 19 ∧ ¬ t1 = ta ∧ ¬ t1 = tb ∧ ¬ t1 = to) (ht2 : 11 ≤ t2 ∧ ¬ t2 = 19 ∧ ¬ t2 = ta ∧ ¬ t2 = tb ∧ ¬ t2 = to) : ¬ (3 = to) := by omega
theorem sc_190 {ta tb to k1 k2 t1 t2 : Nat} (hta : 11 ≤ ta) (hta2 : ta < 19) (htb : 11 ≤ tb) (htb2 : tb < 19) (htab : ¬ ta = tb) (hto : 20 ≤ to) (hto2 : to ≤ 23) (hkk : k1 + k2 ≤ 1499) (ht1 : 11 ≤ t1 ∧ ¬ t1 = 19 ∧ ¬ t1 = ta ∧ ¬ t1 = tb ∧ ¬ t1 = to) (ht2 : 11 ≤ t2 ∧ ¬ t2 = 19 ∧ ¬ t2 = ta ∧ ¬ t2 = tb ∧ ¬ t2 = to) : ¬ (8 = to) := by omega
theorem sc_191 {ta tb to k1 k2 t1 t2 : Nat} (hta : 11 ≤ ta) (hta2 : ta < 19) (htb : 11 ≤ tb) (htb2 : tb < 19) (htab : ¬ ta = tb) (hto : 20 ≤ to) (hto2 : to ≤ 23) (hkk : k1 + k2 ≤ 1499) (ht1 : 11 ≤ t1 ∧ ¬ t1 = 19 ∧ ¬ t1 = ta ∧ ¬ t1 = tb ∧ ¬ t1 = to) (ht2 : 11 ≤ t2 ∧ ¬ t2 = 19 ∧ ¬ t2 = ta ∧ ¬ t2 = tb ∧ ¬ t2 = to) : ¬ (7 = to) := by omega
theorem sc_192 {ta tb to k1 k2 t1 t2 : Nat} (hta : 11 ≤ ta) (hta2 : ta < 19) (htb : 11 ≤ tb) (htb2 : tb < 19) (htab : ¬ ta = tb) (hto : 20 ≤ to) (hto2 : to ≤ 23) (hkk : k1 + k2 ≤ 1499) (ht1 : 11 ≤ t1 ∧ ¬ t1 = 19 ∧ ¬ t1 = ta ∧ ¬ t1 = tb ∧ ¬ t1 = to) (ht2 : 11 ≤ t2 ∧ ¬ t2 = 19 ∧ ¬ t2 = ta ∧ ¬ t2 = tb ∧ ¬ t2 = to) : ∀ x, (11 ≤ x ∧ ¬ x = 19 ∧ ¬ x = ta ∧ ¬ x = tb ∧ ¬ x = to) → ¬ (x = to) := by intro x h; omega
theorem sc_193 {ta tb to k1 k2 t1 t2 : Nat} (hta : 11 ≤ ta) (hta2 : ta < 19) (htb : 11 ≤ tb) (htb2 : tb < 19) (htab : ¬ ta = tb) (hto : 20 ≤ to) (hto2 : to ≤ 23) (hkk : k1 + k2 ≤ 1499) (ht1 : 11 ≤ t1 ∧ ¬ t1 = 19 ∧ ¬ t1 = ta ∧ ¬ t1 = tb ∧ ¬ t1 = to) (ht2 : 11 ≤ t2 ∧ ¬ t2 = 19 ∧ ¬ t2 = ta ∧ ¬ t2 = tb ∧ ¬ t2 = to) : ∀ x, (x < 11 ∨ x = 19 ∨ x = ta ∨ x = tb ∨ x = to) ∨ (x = to) → (x < 11 ∨ x = 19 ∨ x = ta ∨ x = tb ∨ x = to) := by intro x h; omega
theorem sc_194 {ta tb to k1 k2 t1 t2 : Nat} (hta : 11 ≤ ta) (hta2 : ta < 19) (htb : 11 ≤ tb) (htb2 : tb < 19) (htab : ¬ ta = tb) (hto : 20 ≤ to) (hto2 : to ≤ 23) (hkk : k1 + k2 ≤ 1499) (ht1 : 11 ≤ t1 ∧ ¬ t1 = 19 ∧ ¬ t1 = ta ∧ ¬ t1 = tb ∧ ¬ t1 = to) (ht2 : 11 ≤ t2 ∧ ¬ t2 = 19 ∧ ¬ t2 = ta ∧ ¬ t2 = tb ∧ ¬ t2 = to) : ta < 19 := by omega
theorem sc_195 {ta tb to k1 k2 t1 t2 : Nat} (hta : 11 ≤ ta) (hta2 : ta < 19) (htb : 11 ≤ tb) (htb2 : tb < 19) (htab : ¬ ta = tb) (hto : 20 ≤ to) (hto2 : to ≤ 23) (hkk : k1 + k2 ≤ 1499) (ht1 : 11 ≤ t1 ∧ ¬ t1 = 19 ∧ ¬ t1 = ta ∧ ¬ t1 = tb ∧ ¬ t1 = to) (ht2 : 11 ≤ t2 ∧ ¬ t2 = 19 ∧ ¬ t2 = ta ∧ ¬ t2 = tb ∧ ¬ t2 = to) : ¬ 6 = ta := by omega
theorem sc_196 {ta tb to k1 k2 t1 t2 : Nat} (hta : 11 ≤ ta) (hta2 : ta < 19) (htb : 11 ≤ tb) (htb2 : tb < 19) (htab : ¬ ta = tb) (hto : 20 ≤ to) (hto2 : to ≤ 23) (hkk : k1 + k2 ≤ 1499) (ht1 : 11 ≤ t1 ∧ ¬ t1 = 19 ∧ ¬ t1 = ta ∧ ¬ t1 = tb ∧ ¬ t1 = to) (ht2 : 11 ≤ t2 ∧ ¬ t2 = 19 ∧ ¬ t2 = ta ∧ ¬ t2 = tb ∧ ¬ t2 = to) : ¬ 8 = ta := by omega
theorem sc_197 {ta tb to k1 k2 t1 t2 : Nat} (hta : 11 ≤ ta) (hta2 : ta < 19) (htb : 11 ≤ tb) (htb2 : tb < 19) (htab : ¬ ta = tb) (hto : 20 ≤ to) (hto2 : to ≤ 23) (hkk : k1 + k2 ≤ 1499) (ht1 : 11 ≤ t1 ∧ ¬ t1 = 19 ∧ ¬ t1 = ta ∧ ¬ t1 = tb ∧ ¬ t1 = to) (ht2 : 11 ≤ t2 ∧ ¬ t2 = 19 ∧ ¬ t2 = ta ∧ ¬ t2 = tb ∧ ¬ t2 = to) : k1 + k2 ≤ 1500 := by omega
theorem sc_198 {ta tb to k1 k2 t1 t2 : Nat} (hta : 11 ≤ ta) (hta2 : ta < 19) (htb : 11 ≤ tb) (htb2 : tb < 19) (htab : ¬ ta = tb) (hto : 20 ≤ to) (hto2 : to ≤ 23) (hkk : k1 + k2 ≤ 1499) (ht1 : 11 ≤ t1 ∧ ¬ t1 = 19 ∧ ¬ t1 = ta ∧ ¬ t1 = tb ∧ ¬ t1 = to) (ht2 : 11 ≤ t2 ∧ ¬ t2 = 19 ∧ ¬ t2 = ta ∧ ¬ t2 = tb ∧ ¬ t2 = to) : ¬ (30 = ta) := by omega
theorem sc_199 {ta tb to k1 k2 t1 t2 : Nat} (hta : 11 ≤ ta) (hta2 : ta < 19) (htb : 11 ≤ tb) (htb2 : tb < 19) (htab : ¬ ta = tb) (hto : 20 ≤ to) (hto2 : to ≤ 23) (hkk : k1 + k2 ≤ 1499) (ht1 : 11 ≤ t1 ∧ ¬ t1 = 19 ∧ ¬ t1 = ta ∧ ¬ t1 = tb ∧ ¬ t1 = to) (ht2 : 11 ≤ t2 ∧ ¬ t2 = 19 ∧ ¬ t2 = ta ∧ ¬ t2 = tb ∧ ¬ t2 = to) : ¬ (t1 = ta) := by omega
theorem sc_200 {ta tb to k1 k2 t1 t2 : Nat} (hta : 11 ≤ ta) (hta2 : ta < 19) (htb : 11 ≤ tb) (htb2 : tb < 19) (htab : ¬ ta = tb) (hto : 20 ≤ to) (hto2 : to ≤ 23) (hkk : k1 + k2 ≤ 1499) (ht1 : 11 ≤ t1 ∧ ¬ t1 = 19 ∧ ¬ t1 = ta ∧ ¬ t1 = tb ∧ ¬ t1 = to) (ht2 : 11 ≤ t2 ∧ ¬ t2 = 19 ∧ ¬ t2 = ta ∧ ¬ t2 = tb ∧ ¬ t2 = to) : ¬ (t2 = ta) := by omega
theorem sc_201 {ta tb to k1 k2 t1 t2 : Nat} (hta : 11 ≤ ta) (hta2 : ta < 19) (htb : 11 ≤ tb) (htb2 : tb < 19) (htab : ¬ ta = tb) (hto : 20 ≤ to) (hto2 : to ≤ 23) (hkk : k1 + k2 ≤ 1499) (ht1 : 11 ≤ t1 ∧ ¬ t1 = 19 ∧ ¬ t1 = ta ∧ ¬ t1 = tb ∧ ¬ t1 = to) (ht2 : 11 ≤ t2 ∧ ¬ t2 = 19 ∧ ¬ t2 = ta ∧ ¬ t2 = tb ∧ ¬ t2 = to) : ¬ (19 = ta) := by omega
theorem sc_202 {ta tb to k1 k2 t1 t2 : Nat} (hta : 11 ≤ ta) (hta2 : ta < 19) (htb : 11 ≤ tb) (htb2 : tb < 19) (htab : ¬ ta = tb) (hto : 20 ≤ to) (hto2 : to ≤ 23) (hkk : k1 + k2 ≤ 1499) (ht1 : 11 ≤ t1 ∧ ¬ t1 = 19 ∧ ¬ t1 = ta ∧ ¬ t1 = tb ∧ ¬ t1 = to) (ht2 : 11 ≤ t2 ∧ ¬ t2 = 19 ∧ ¬ t2 = ta ∧ ¬ t2 = tb ∧ ¬ t2 = to) : ¬ (to = ta) := by omega
theorem sc_203 {ta tb to k1 k2 t1 t2 : Nat} (hta : 11 ≤ ta) (hta2 : ta < 19) (htb : 11 ≤ tb) (htb2 : tb < 19) (htab : ¬ ta = tb) (hto : 20 ≤ to) (hto2 : to ≤ 23) (hkk : k1 + k2 ≤ 1499) (ht1 : 11 ≤ t1 ∧ ¬ t1 = 19 ∧ ¬ t1 = ta ∧ ¬ t1 = tb ∧ ¬ t1 = to) (ht2 : 11 ≤ t2 ∧ ¬ t2 = 19 ∧ ¬ t2 = ta ∧ ¬ t2 = tb ∧ ¬ t2 = to) : ¬ (6 = ta) := by omega
theorem sc_204 {ta tb to k1 k2 t1 t2 : Nat} (hta : 11 ≤ ta) (hta2 : ta < 19) (htb : 11 ≤ tb) (htb2 : tb < 19) (htab : ¬ ta = tb) (hto : 20 ≤ to) (hto2 : to ≤ 23) (hkk : k1 + k2 ≤ 1499) (ht1 : 11 ≤ t1 ∧ ¬ t1 = 19 ∧ ¬ t1 = ta ∧ ¬ t1 = tb ∧ ¬ t1 = to) (ht2 : 11 ≤ t2 ∧ ¬ t2 = 19 ∧ ¬ t2 = ta ∧ ¬ t2 = tb ∧ ¬ t2 = to) : ¬ (9 = ta) := by omega
theorem sc_205 {ta tb to k1 k2 t1 t2 : Nat} (hta : 11 ≤ ta) (hta2 : ta < 19) (htb : 11 ≤ tb) (htb2 : tb < 19) (htab : ¬ ta = tb) (hto : 20 ≤ to) (hto2 : to ≤ 23) (hkk : k1 + k2 ≤ 1499) (ht1 : 11 ≤ t1 ∧ ¬ t1 = 19 ∧ ¬ t1 = ta ∧ ¬ t1 = tb ∧ ¬ t1 = to) (ht2 : 11 ≤ t2 ∧ ¬ t2 = 19 ∧ ¬ t2 = ta ∧ ¬ t2 = tb ∧ ¬ t2 = to) : ¬ (3 = ta) := by omega
theorem sc_206 {ta tb to k1 k2 t1 t2 : Nat} (hta : 11 ≤ ta) (hta2 : ta < 19) (htb : 11 ≤ tb) (htb2 : tb < 19) (htab : ¬ ta = tb) (hto : 20 ≤ to) (hto2 : to ≤ 23) (hkk : k1 + k2 ≤ 1499) (ht1 : 11 ≤ t1 ∧ ¬ t1 = 19 ∧ ¬ t1 = ta ∧ ¬ t1 = tb ∧ ¬ t1 = to) (ht2 : 11 ≤ t2 ∧ ¬ t2 = 19 ∧ ¬ t2 = ta ∧ ¬ t2 = tb ∧ ¬ t2 = to) : ¬ (8 = ta) := by omega
theorem sc_207 {ta tb to k1 k2 t1 t2 : Nat} (hta : 11 ≤ ta) (hta2 : ta < 19) (htb : 11 ≤ tb) (htb2 : tb < 19) (htab : ¬ ta = tb) (hto : 20 ≤ to) (hto2 : to ≤ 23) (hkk : k1 + k2 ≤ 1499) (ht1 : 11 ≤ t1 ∧ ¬ t1 = 19 ∧ ¬ t1 = ta ∧ ¬ t1 = tb ∧ ¬ t1 = to) (ht2 : 11 ≤ t2 ∧ ¬ t2 = 19 ∧ ¬ t2 = ta ∧ ¬ t2 = tb ∧ ¬ t2 = to) : ¬ (7 = ta) := by omega
theorem sc_208 {ta tb to k1 k2 t1 t2 : Nat} (hta : 11 ≤ ta) (hta2 : ta < 19) (htb : 11 ≤ tb) (htb2 : tb < 19) (htab : ¬ ta = tb) (hto : 20 ≤ to) (hto2 : to ≤ 23) (hkk : k1 + k2 ≤ 1499) (ht1 : 11 ≤ t1 ∧ ¬ t1 = 19 ∧ ¬ t1 = ta ∧ ¬ t1 = tb ∧ ¬ t1 = to) (ht2 : 11 ≤ t2 ∧ ¬ t2 = 19 ∧ ¬ t2 = ta ∧ ¬ t2 = tb ∧ ¬ t2 = to) : ∀ x, (11 ≤ x ∧ ¬ x = 19 ∧ ¬ x = ta ∧ ¬ x = tb ∧ ¬ x = to) → ¬ (x = ta) := by intro x h; omega
theorem sc_209 {ta tb to k1 k2 t1 t2 : Nat} (hta : 11 ≤ ta) (hta2 : ta < 19) (htb : 11 ≤ tb) (htb2 : tb < 19) (htab : ¬ ta = tb) (hto : 20 ≤ to) (hto2 : to ≤ 23) (hkk : k1 + k2 ≤ 1499) (ht1 : 11 ≤ t1 ∧ ¬ t1 = 19 ∧ ¬ t1 = ta ∧ ¬ t1 = tb ∧ ¬ t1 = to) (ht2 : 11 ≤ t2 ∧ ¬ t2 = 19 ∧ ¬ t2 = ta ∧ ¬ t2 = tb ∧ ¬ t2 = to) : ∀ x, (x < 11 ∨ x = 19 ∨ x = ta ∨ x = tb ∨ x = to) ∨ (x = ta) → (x < 11 ∨ x = 19 ∨ x = ta ∨ x = tb ∨ x = to) := by intro x h; omega
theorem sc_210 {ta tb to k1 k2 t1 t2 : Nat} (hta : 11 ≤ ta) (hta2 : ta < 19) (htb : 11 ≤ tb) (htb2 : tb < 19) (htab : ¬ ta = tb) (hto : 20 ≤ to) (hto2 : to ≤ 23) (hkk : k1 + k2 ≤ 1499) (ht1 : 11 ≤ t1 ∧ ¬ t1 = 19 ∧ ¬ t1 = ta ∧ ¬ t1 = tb ∧ ¬ t1 = to) (ht2 : 11 ≤ t2 ∧ ¬ t2 = 19 ∧ ¬ t2 = ta ∧ ¬ t2 = tb ∧ ¬ t2 = to) : tb < 19 := by omega
theorem sc_211 {ta tb to k1 k2 t1 t2 : Nat} (hta : 11 ≤ ta) (hta2 : ta < 19) (htb : 11 ≤ tb) (htb2 : tb < 19) (htab : ¬ ta = tb) (hto : 20 ≤ to) (hto2 : to ≤ 23) (hkk : k1 + k2 ≤ 1499) (ht1 : 11 ≤ t1 ∧ ¬ t1 = 19 ∧ ¬ t1 = ta ∧ ¬ t1 = tb ∧ ¬ t1 = to) (ht2 : 11 ≤ t2 ∧ ¬ t2 = 19 ∧ ¬ t2 = ta ∧ ¬ t2 = tb ∧ ¬ t2 = to) : ¬ 7 = tb := by omega
theorem sc_212 {ta tb to k1 k2 t1 t2 : Nat} (hta : 11 ≤ ta) (hta2 : ta < 19) (htb : 11 ≤ tb) (htb2 : tb < 19) (htab : ¬ ta = tb) (hto : 20 ≤ to) (hto2 : to ≤ 23) (hkk : k1 + k2 ≤ 1499) (ht1 : 11 ≤ t1 ∧ ¬ t1 = 19 ∧ ¬ t1 = ta ∧ ¬ t1 = tb ∧ ¬ t1 = to) (ht2 : 11 ≤ t2 ∧ ¬ t2 = 19 ∧ ¬ t2 = ta ∧ ¬ t2 = tb ∧ ¬ t2 = to) : ¬ 9 = tb := by omega
theorem sc_213 {ta tb to k1 k2 t1 t2 : Nat} (hta : 11 ≤ ta) (hta2 : ta < 19) (htb : 11 ≤ tb) (htb2 : tb < 19) (htab : ¬ ta = tb) (hto : 20 ≤ to) (hto2 : to ≤ 23) (hkk : k1 + k2 ≤ 1499) (ht1 : 11 ≤ t1 ∧ ¬ t1 = 19 ∧ ¬ t1 = ta ∧ ¬ t1 = tb ∧ ¬ t1 = to) (ht2 : 11 ≤ t2 ∧ ¬ t2 = 19 ∧ ¬ t2 = ta ∧ ¬ t2 = tb ∧ ¬ t2 = to) : ¬ (30 = tb) := by omega
theorem sc_214 {ta tb to k1 k2 t1 t2 : Nat} (hta : 11 ≤ ta) (hta2 : ta < 19) (htb : 11 ≤ tb) (htb2 : tb < 19) (htab : ¬ ta = tb) (hto : 20 ≤ to) (hto2 : to ≤ 23) (hkk : k1 + k2 ≤ 1499) (ht1 : 11 ≤ t1 ∧ ¬ t1 = 19 ∧ ¬ t1 = ta ∧ ¬ t1 = tb ∧ ¬ t1 = to) (ht2 : 11 ≤ t2 ∧ ¬ t2 = 19 ∧ ¬ t2 = ta ∧ ¬ t2 = tb ∧ ¬ t2 = to) : ¬ (t1 = tb) := by omega
theorem sc_215 {ta tb to k1 k2 t1 t2 : Nat} (hta : 11 ≤ ta) (hta2 : ta < 19) (htb : 11 ≤ tb) (htb2 : tb < 19) (htab : ¬ ta = tb) (hto : 20 ≤ to) (hto2 : to ≤ 23) (hkk : k1 + k2 ≤ 1499) (ht1 : 11 ≤ t1 ∧ ¬ t1 = 19 ∧ ¬ t1 = ta ∧ ¬ t1 = tb ∧ ¬ t1 = to) (ht2 : 11 ≤ t2 ∧ ¬ t2 = 19 ∧ ¬ t2 = ta ∧ ¬ t2 = tb ∧ ¬ t2 = to) : ¬ (t2 = tb) := by omega
theorem sc_216 {ta tb to k1 k2 t1 t2 : Nat} (hta : 11 ≤ ta) (hta2 : ta < 19) (htb : 11 ≤ tb) (htb2 : tb < 19) (htab : ¬ ta = tb) (hto : 20 ≤ to) (hto2 : to ≤ 23) (hkk : k1 + k2 ≤ 1499) (ht1 : 11 ≤ t1 ∧ ¬ t1 = 19 ∧ ¬ t1 = ta ∧ ¬ t1 = tb ∧ ¬ t1 = to) (ht2 : 11 ≤ t2 ∧ ¬ t2 = 19 ∧ ¬ t2 = ta ∧ ¬ t2 = tb ∧ ¬ t2 = to) : ¬ (19 = tb) := by omega
theorem sc_217 {ta tb to k1 k2 t1 t2 : Nat} (hta : 11 ≤ ta) (hta2 : ta < 19) (htb : 11 ≤ tb) (htb2 : tb < 19) (htab : ¬ ta = tb) (hto : 20 ≤ to) (hto2 : to ≤ 23) (hkk : k1 + k2 ≤ 1499) (ht1 : 11 ≤ t1 ∧ ¬ t1 = 19 ∧ ¬ t1 = ta ∧ ¬ t1 = tb ∧ ¬ t1 = to) (ht2 : 11 ≤ t2 ∧ ¬ t2 = 19 ∧ ¬ t2 = ta ∧ ¬ t2 = tb ∧ ¬ t2 = to) : ¬ (to = tb) := by omega
theorem sc_218 {ta tb to k1 k2 t1 t2 : Nat} (hta : 11 ≤ ta) (hta2 : ta < 19) (htb : 11 ≤ tb) (htb2 : tb < 19) (htab : ¬ ta = tb) (hto : 20 ≤ to) (hto2 : to ≤ 23) (hkk : k1 + k2 ≤ 1499) (ht1 : 11 ≤ t1 ∧ ¬ t1 = 19 ∧ ¬ t1 = ta ∧ ¬ t1 = tb ∧ ¬ t1 = to) (ht2 : 11 ≤ t2 ∧ ¬ t2 = 19 ∧ ¬ t2 = ta ∧ ¬ t2 = tb ∧ ¬ t2 = to) : ¬ (6 = tb) := by omega
theorem sc_219 {ta tb to k1 k2 t1 t2 : Nat} (hta : 11 ≤ ta) (hta2 : ta < 19) (htb : 11 ≤ tb) (htb2 : tb < 19) (htab : ¬ ta = tb) (hto : 20 ≤ to) (hto2 : to ≤ 23) (hkk : k1 + k2 ≤ 1499) (ht1 : 11 ≤ t1 ∧ ¬ t1 = 19 ∧ ¬ t1 = ta ∧ ¬ t1 = tb ∧ ¬ t1 = to) (ht2 : 11 ≤ t2 ∧ ¬ t2 = 19 ∧ ¬ t2 = ta ∧ ¬ t2 = tb ∧ ¬ t2 = to) : ¬ (9 = tb) := by omega
theorem sc_220 {ta tb to k1 k2 t1 t2 : Nat} (hta : 11 ≤ ta) (hta2 : ta < 19) (htb : 11 ≤ tb) (htb2 : tb < 19) (htab : ¬ ta = tb) (hto : 20 ≤ to) (hto2 : to ≤ 23) (hkk : k1 + k2 ≤ 1499) (ht1 : 11 ≤ t1 ∧ ¬ t1 = 19 ∧ ¬ t1 = ta ∧ ¬ t1 = tb ∧ ¬ t1 = to) (ht2 : 11 ≤ t2 ∧ ¬ t2 = 19 ∧ ¬ t2 = ta ∧ ¬ t2 = tb ∧ ¬ t2 = to) : ¬ (3 = tb) := by omega
theorem sc_221 {ta tb to k1 k2 t1 t2 : Nat} (hta : 11 ≤ ta) (hta2 : ta < 19) (htb : 11 ≤ tb) (htb2 : tb < 19) (htab : ¬ ta = tb) (hto : 20 ≤ to) (hto2 : to ≤ 23) (hkk : k1 + k2 ≤ 1499) (ht1 : 11 ≤ t1 ∧ ¬ t1 = 19 ∧ ¬ t1 = ta ∧ ¬ t1 = tb ∧ ¬ t1 = to) (ht2 : 11 ≤ t2 ∧ ¬ t2 = 19 ∧ ¬ t2 = ta ∧ ¬ t2 = tb ∧ ¬ t2 = to) : ¬ (8 = tb) := by omega
theorem sc_222 {ta tb to k1 k2 t1 t2 : Nat} (hta : 11 ≤ ta) (hta2 : ta < 19) (htb : 11 ≤ tb) (htb2 : tb < 19) (htab : ¬ ta = tb) (hto : 20 ≤ to) (hto2 : to ≤ 23) (hkk : k1 + k2 ≤ 1499) (ht1 : 11 ≤ t1 ∧ ¬ t1 = 19 ∧ ¬ t1 = ta ∧ ¬ t1 = tb ∧ ¬ t1 = to) (ht2 : 11 ≤ t2 ∧ ¬ t2 = 19 ∧ ¬ t2 = ta ∧ ¬ t2 = tb ∧ ¬ t2 = to) : ¬ (7 = tb) := by omega
theorem sc_223 {ta tb to k1 k2 t1 t2 : Nat} (hta : 11 ≤ ta) (hta2 : ta < 19) (htb : 11 ≤ tb) (htb2 : tb < 19) (htab : ¬ ta = tb) (hto : 20 ≤ to) (hto2 : to ≤ 23) (hkk : k1 + k2 ≤ 1499) (ht1 : 11 ≤ t1 ∧ ¬ t1 = 19 ∧ ¬ t1 = ta ∧ ¬ t1 = tb ∧ ¬ t1 = to) (ht2 : 11 ≤ t2 ∧ ¬ t2 = 19 ∧ ¬ t2 = ta ∧ ¬ t2 = tb ∧ ¬ t2 = to) : ¬ (ta = tb) := by omega
theorem sc_224 {ta tb to k1 k2 t1 t2 : Nat} (hta : 11 ≤ ta) (hta2 : ta < 19) (htb : 11 ≤ tb) (htb2 : tb < 19) (htab : ¬ ta = tb) (hto : 20 ≤ to) (hto2 : to ≤ 23) (hkk : k1 + k2 ≤ 1499) (ht1 : 11 ≤ t1 ∧ ¬ t1 = 19 ∧ ¬ t1 = ta ∧ ¬ t1 = tb ∧ ¬ t1 = to) (ht2 : 11 ≤ t2 ∧ ¬ t2 = 19 ∧ ¬ t2 = ta ∧ ¬ t2 = tb ∧ ¬ t2 = to) : ∀ x, (11 ≤ x ∧ ¬ x = 19 ∧ ¬ x = ta ∧ ¬ x = tb ∧ ¬ x = to) → ¬ (x = tb) := by intro x h; omega
theorem sc_225 {ta tb to k1 k2 t1 t2 : Nat} (hta : 11 ≤ ta) (hta2 : ta < 19) (htb : 11 ≤ tb) (htb2 : tb < 19) (htab : ¬ ta = tb) (hto : 20 ≤ to) (hto2 : to ≤ 23) (hkk : k1 + k2 ≤ 1499) (ht1 : 11 ≤ t1 ∧ ¬ t1 = 19 ∧ ¬ t1 = ta ∧ ¬ t1 = tb ∧ ¬ t1 = to) (ht2 : 11 ≤ t2 ∧ ¬ t2 = 19 ∧ ¬ t2 = ta ∧ ¬ t2 = tb ∧ ¬ t2 = to) : ∀ x, (x < 11 ∨ x = 19 ∨ x = ta ∨ x = tb ∨ x = to) ∨ (x = tb) → (x < 11 ∨ x = 19 ∨ x = ta ∨ x = tb ∨ x = to) := by intro x h; omega
set_option maxHeartbeats 4000000 in
set_option maxRecDepth 100000 in
theorem n_setProductF (l : Launch) (D : va_G) (cA : Nat → ClassId) (lo MC MS : Nat) (G : gT) (B : Nat × Nat) (X : Nat × Nat) (ad V : Nat → Nat) (hW : w2 cA X ad V (G, B)) (hX1 : X.1 ≤ MC) (hX2 : X.2 ≤ MS) (hk hd hc : Nat) (hhk : G hk = some (30, .inr (0, [.ref hd, .ref hc, .ref (ad 5), .ref (ad 6), .ref (ad 7), .ref (ad 8), .ref (ad 9), .ref (ad 10)]))) (hhd : G hd = some (30, .inr (2, [.ref (ad 0), .ref (ad 1), .ref (ad 2)]))) (hcd : cdO ad hd hc G) (hf ta tb to : Nat) (sf : Int32) (hhf : G hf = some (to, .inr (3, [.int sf, .ref (ad ta), .ref (ad tb)]))) (hta : 11 ≤ ta) (hta2 : ta < 19) (htb : 11 ≤ tb) (htb2 : tb < 19) (htab : ¬ ta = tb) (hto : 20 ≤ to) (hto2 : to ≤ 23) (h1 : Nat) (p1 : Int) (q1 k1 : Nat) (hr1 : rf cA G (fun x => 11 ≤ x ∧ ¬ x = 19 ∧ ¬ x = ta ∧ ¬ x = tb ∧ ¬ x = to) h1 p1 q1) (hp1 : p1.natAbs < 1000000000 ^ k1) (hq1 : q1 < 1000000000 ^ k1) (hq01 : 0 < q1) (hco1 : Nat.Coprime p1.natAbs q1) (h2 : Nat) (p2 : Int) (q2 k2 : Nat) (hr2 : rf cA G (fun x => 11 ≤ x ∧ ¬ x = 19 ∧ ¬ x = ta ∧ ¬ x = tb ∧ ¬ x = to) h2 p2 q2) (hp2 : p2.natAbs < 1000000000 ^ k2) (hq2 : q2 < 1000000000 ^ k2) (hq02 : 0 < q2) (hco2 : Nat.Coprime p2.natAbs q2) (tu : Int32) (htu : tu = 0 ∨ p2 ≠ 0) (hkk : k1 + k2 ≤ 1499) : gMet l y_Ca_setProduct w_Ca_setProduct 6 163 D clS (gtys cA) lo MC MS [.ref hk, .ref hf, .ref h1, .ref h2, .int tu] G B (gQv D clS lo (fT cA X ad hd hc (fun x => x < 11 ∨ x = 19 ∨ x = ta ∨ x = tb ∨ x = to) G V hf ta tb to (frn (if tu = 0 then p1 * p2 else p1 * (p2.sign * q2)) (if tu = 0 then q1 * q2 else q1 * p2.natAbs)) (rdd (if tu = 0 then p1 * p2 else p1 * (p2.sign * q2)).natAbs (if tu = 0 then q1 * q2 else q1 * p2.natAbs)))) := by
  refine g_metv (cc := prog_2_method_4_code) (nL := 8) (L := [(0, .ref hk), (1, .ref hf), (2, .ref h1), (3, .ref h2), (4, .int tu)]) (by decide +kernel) rfl (Nat.le_of_ble_eq_true rfl) rfl ?_
  intro p e R s m args below meth c Q hF hRc hRs hRf hRl hret
  obtain ⟨hx, hb, hr, hml, hts0, hown, hlocks, hin, hK, hlo, hZ⟩ := hF
  have hts : ∀ w ∈ tbg, w.before args s = true := fun w h => hts0 w (List.mem_cons_of_mem _ h)
  obtain ⟨t1, a1, b1, ht1, hh1, hra1, hrb1⟩ := id hr1
  have ht1 : 11 ≤ t1 ∧ ¬ t1 = 19 ∧ ¬ t1 = ta ∧ ¬ t1 = tb ∧ ¬ t1 = to := ht1
  obtain ⟨t2, a2, b2, ht2, hh2, hra2, hrb2⟩ := id hr2
  have ht2 : 11 ≤ t2 ∧ ¬ t2 = 19 ∧ ¬ t2 = ta ∧ ¬ t2 = tb ∧ ¬ t2 = to := ht2
  obtain ⟨ga0, gb0, gc0, gd0, hhc⟩ := id hcd
  have hS0 : w2s cA X ad (fun x => x < 11 ∨ x = 19 ∨ x = ta ∨ x = tb ∨ x = to) G V V (G, B) := w2s_rf hW
  have bl_1 : B.1 ≤ MC := Nat.le_trans (w2_le hW).1 hX1
  have bl_2 : B.2 ≤ MS := Nat.le_trans (w2_le hW).2 hX2
  refine gs (pc' := 2) (fun _ _ _ _ _ hl => lv_iload hx hb d_Ca_setProduct_0 (lv_at hl 4 rfl)) ?_
  refine gsb (pc1 := 12) (pc2 := 5) (fun _ _ _ _ _ => lv_if_eq (tgt := 12) hx hb d_Ca_setProduct_2 (by decide)) (fun c_3 => ?_) (fun c_3 => ?_)
  · skip
    have hn : (if tu = 0 then p1 * p2 else p1 * (p2.sign * q2)) = p1 * p2 := if_pos c_3
    have hd9 : (if tu = 0 then q1 * q2 else q1 * p2.natAbs) = q1 * q2 := if_pos c_3
    rw [hn, hd9] at hret
    have hd0 : 0 < q2 := hq02
    have hco : Nat.Coprime p2.natAbs q2 := hco2
    obtain ⟨g1, hg1⟩ : ∃ g1, g1 = Nat.gcd p1.natAbs q2 := ⟨_, rfl⟩
    have hg10 : 0 < g1 := by rw [hg1]; exact Nat.gcd_pos_of_pos_right _ hd0
    obtain ⟨g2, hg2⟩ : ∃ g2, g2 = Nat.gcd p2.natAbs q1 := ⟨_, rfl⟩
    have hg20 : 0 < g2 := by rw [hg2]; exact Nat.gcd_pos_of_pos_right _ hq01
    refine gs (pc' := 13) (fun _ _ _ _ _ hl => lv_aload_n hx hb d_Ca_setProduct_12 rfl (lv_at hl 3 rfl)) ?_
    refine g_get hx hb hts hin_Fr hown hK hh2 rfl 1 (by decide) (hts _ wm167) (fun _ h9 => h9) rfl d_Ca_setProduct_13 ?_
    refine gst (pc' := 18) (L' := [(5, .ref a2), (0, .ref hk), (1, .ref hf), (2, .ref h1), (3, .ref h2), (4, .int tu)]) (fun _ _ _ _ _ hl => lv_astore hx hb d_Ca_setProduct_16 hl (by decide) rfl) ?_
    refine gs (pc' := 20) (fun _ _ _ _ _ hl => lv_iload hx hb d_Ca_setProduct_18 (lv_at hl 5 rfl)) ?_
    refine gsb (pc1 := 30) (pc2 := 23) (fun _ _ _ _ _ => lv_if_eq (tgt := 30) hx hb d_Ca_setProduct_20 (by decide)) (fun c_4 => ?_) (fun c_4 => ?_)
    · skip
      refine gs (pc' := 31) (fun _ _ _ _ _ hl => lv_aload_n hx hb d_Ca_setProduct_30 rfl (lv_at hl 4 rfl)) ?_
      refine g_get hx hb hts hin_Fr hown hK hh2 rfl 2 (by decide) (hts _ wm170) (fun _ h9 => h9) rfl d_Ca_setProduct_31 ?_
      refine gst (pc' := 36) (L' := [(6, .ref b2), (5, .ref a2), (0, .ref hk), (1, .ref hf), (2, .ref h1), (3, .ref h2), (4, .int tu)]) (fun _ _ _ _ _ hl => lv_astore hx hb d_Ca_setProduct_34 hl (by decide) rfl) ?_
      refine gs (pc' := 37) (fun _ _ _ _ _ hl => lv_aload_n hx hb d_Ca_setProduct_36 rfl (lv_at hl 2 rfl)) ?_
      refine g_get hx hb hts hin_Ca hown hK hhk rfl 1 (by decide) (hts _ wm131) (fun _ h9 => h9) rfl d_Ca_setProduct_37 ?_
      refine gs (pc' := 41) (fun _ _ _ _ _ hl => lv_aload_n hx hb d_Ca_setProduct_40 rfl (lv_at hl 4 rfl)) ?_
      refine g_get hx hb hts hin_Fr hown hK hh1 rfl 1 (by decide) (hts _ wm167) (fun _ h9 => h9) rfl d_Ca_setProduct_41 ?_
      refine gs (pc' := 46) (fun _ _ _ _ _ hl => lv_aload hx hb d_Ca_setProduct_44 (lv_at hl 0 rfl)) ?_
      have lt_5 : p1.natAbs < 1000000000 ^ (k1 + k2) := lb_up hp1 (sc_151 hta hta2 htb htb2 htab hto hto2 hkk ht1 ht2)
      have lt_6 : q2 < 1000000000 ^ (k1 + k2) := lb_up hq2 (sc_152 hta hta2 htb htb2 htab hto hto2 hkk ht1 ht2)
      refine g_outr hlo (g_runV (As := [.ref a1, .ref b2]) (rest := []) ⟨hx, hb, hml, hown, hts⟩ hK hZ hRc hRs (n_find l D cA lo MC MS G B X ad V hW hX1 hX2 hd hc ga0 gb0 gc0 gd0 hhc hhd a1 p1.natAbs b2 q2 (k1 + k2) (rd_mono (P1 := fun x => 5 ≤ x ∧ ¬ x = 19) hra1 (sc_150 hta hta2 htb htb2 htab hto hto2 hkk ht1 ht2)) (rd_mono (P1 := fun x => 5 ≤ x ∧ ¬ x = 19) hrb2 (sc_150 hta hta2 htb htb2 htab hto hto2 hkk ht1 ht2)) lt_5 lt_6 (sc_153 hta hta2 htb htb2 htab hto hto2 hkk ht1 ht2)) (fun _ _ => cwV 2 hts (tb_good (tb_cons wm399 (tb_cons wm400 (tb_cons wm401 (tb_cons wm7 k_Cd_find))))) rfl rfl rfl (by decide +kernel) ⟨by rw [hRf]; exact Nat.le_of_ble_eq_true rfl, by rw [hRl]; exact Nat.le_of_ble_eq_true rfl⟩) hhc rfl bl_1 bl_2 rfl (Nat.le_of_ble_eq_true rfl) d_Ca_setProduct_46) (fun r_10 G_7 B_8 p_9 => ?_)
      obtain ⟨e_14, V_11, s_12, k_13, g_16, g_17, g_18, g_19, f_15⟩ := p_9
      subst e_14
      have lt_20 : Nat.gcd p1.natAbs q2 < 1000000000 ^ (k1 + k2) := lb_gcd lt_5 lt_6
      have f_21 : G_7 hk = some (30, .inr (0, [.ref hd, .ref hc, .ref (ad 5), .ref (ad 6), .ref (ad 7), .ref (ad 8), .ref (ad 9), .ref (ad 10)])) := s_12.2.2 _ _ hhk (show ¬ (30 < 5 ∨ 30 = 19) by decide)
      have f_22 : G_7 hd = some (30, .inr (2, [.ref (ad 0), .ref (ad 1), .ref (ad 2)])) := s_12.2.2 _ _ hhd (show ¬ (30 < 5 ∨ 30 = 19) by decide)
      have f_23 : G_7 hf = some (to, .inr (3, [.int sf, .ref (ad ta), .ref (ad tb)])) := s_12.2.2 _ _ hhf (sc_154 hta hta2 htb htb2 htab hto hto2 hkk ht1 ht2)
      have f_24 : G_7 h1 = some (t1, .inr (3, [.int (sgI p1), .ref a1, .ref b1])) := s_12.2.2 _ _ hh1 (sc_155 hta hta2 htb htb2 htab hto hto2 hkk ht1 ht2)
      have f_25 : G_7 h2 = some (t2, .inr (3, [.int (sgI p2), .ref a2, .ref b2])) := s_12.2.2 _ _ hh2 (sc_156 hta hta2 htb htb2 htab hto hto2 hkk ht1 ht2)
      have rd_26 := rd_fr hra1 s_12.2.2 (sc_157 hta hta2 htb htb2 htab hto hto2 hkk ht1 ht2)
      have rd_27 := rd_fr hrb1 s_12.2.2 (sc_157 hta hta2 htb htb2 htab hto hto2 hkk ht1 ht2)
      have rd_28 := rd_fr hra2 s_12.2.2 (sc_157 hta hta2 htb htb2 htab hto hto2 hkk ht1 ht2)
      have rd_29 := rd_fr hrb2 s_12.2.2 (sc_157 hta hta2 htb htb2 htab hto hto2 hkk ht1 ht2)
      have W_30 := s_12.1
      have S_31 : w2s cA X ad (fun x => x < 11 ∨ x = 19 ∨ x = ta ∨ x = tb ∨ x = to) G V V_11 (G_7, B_8) := w2s_mono (w2s_tr hS0 s_12) (sc_158 hta hta2 htb htb2 htab hto hto2 hkk ht1 ht2)
      have bl_32 : B_8.1 ≤ MC := Nat.le_trans (w2_le W_30).1 hX1
      have bl_33 : B_8.2 ≤ MS := Nat.le_trans (w2_le W_30).2 hX2
      rw [← hg1] at k_13 lt_20
      refine gst (pc' := 51) (L' := [(7, .ref (ad 3)), (6, .ref b2), (5, .ref a2), (0, .ref hk), (1, .ref hf), (2, .ref h1), (3, .ref h2), (4, .int tu)]) (fun _ _ _ _ _ hl => lv_astore hx hb d_Ca_setProduct_49 hl (by decide) rfl) ?_
      refine gs (pc' := 52) (fun _ _ _ _ _ hl => lv_aload_n hx hb d_Ca_setProduct_51 rfl (lv_at hl 3 rfl)) ?_
      refine gs (pc' := 53) (fun _ _ _ _ _ hl => lv_aload_n hx hb d_Ca_setProduct_52 rfl (lv_at hl 3 rfl)) ?_
      refine g_get hx hb hts hin_Ca hown hK f_21 rfl 3 (by decide) (hts _ wm133) (fun _ h9 => h9) rfl d_Ca_setProduct_53 ?_
      refine gs (pc' := 57) (fun _ _ _ _ _ hl => lv_aload_n hx hb d_Ca_setProduct_56 rfl (lv_at hl 5 rfl)) ?_
      refine g_get hx hb hts hin_Fr hown hK f_24 rfl 1 (by decide) (hts _ wm167) (fun _ h9 => h9) rfl d_Ca_setProduct_57 ?_
      refine gs (pc' := 62) (fun _ _ _ _ _ hl => lv_aload hx hb d_Ca_setProduct_60 (lv_at hl 0 rfl)) ?_
      refine g_outv hlo (g_runV (As := [.ref (ad 6), .ref a1, .ref (ad 3)]) (rest := []) ⟨hx, hb, hml, hown, hts⟩ hK hZ hRc hRs (n_setQuotient l D cA lo MC MS G_7 B_8 X ad V_11 W_30 hX1 hX2 hk hd hc f_21 f_22 (cdO_i f_15) 6 (by decide) (by decide) a1 p1.natAbs (ad 3) g1 k1 (rd_mono (P1 := fun x => 3 ≤ x) rd_26 (sc_159 hta hta2 htb htb2 htab hto hto2 hkk ht1 ht2)) (rd_w2' (P := fun x => 3 ≤ x) W_30 (by decide) (by decide) k_13) hp1 (sc_160 hta hta2 htb htb2 htab hto hto2 hkk ht1 ht2) hg10) (fun _ _ => cwV 3 hts (tb_good (tb_cons wm489 (tb_cons wm491 (tb_cons ws9 (tb_cons wm3 k_Ca_setQuotient))))) rfl rfl rfl (by decide +kernel) ⟨by rw [hRf]; exact Nat.le_of_ble_eq_true rfl, by rw [hRl]; exact Nat.le_of_ble_eq_true rfl⟩) f_21 rfl bl_32 bl_33 rfl (Nat.le_of_ble_eq_true rfl) d_Ca_setProduct_62) (fun G_34 B_35 p_36 => ?_)
      obtain ⟨V_37, s_38, k_39⟩ := p_36
      have lt_40 : p1.natAbs / g1 < 1000000000 ^ k1 := Nat.lt_of_le_of_lt (Nat.div_le_self _ _) hp1
      have f_41 : G_34 hk = some (30, .inr (0, [.ref hd, .ref hc, .ref (ad 5), .ref (ad 6), .ref (ad 7), .ref (ad 8), .ref (ad 9), .ref (ad 10)])) := s_38.2.2 _ _ f_21 (show ¬ (30 < 3 ∨ 30 = 6) by decide)
      have f_42 : G_34 hd = some (30, .inr (2, [.ref (ad 0), .ref (ad 1), .ref (ad 2)])) := s_38.2.2 _ _ f_22 (show ¬ (30 < 3 ∨ 30 = 6) by decide)
      have f_43 : G_34 hf = some (to, .inr (3, [.int sf, .ref (ad ta), .ref (ad tb)])) := s_38.2.2 _ _ f_23 (sc_161 hta hta2 htb htb2 htab hto hto2 hkk ht1 ht2)
      have f_44 : G_34 h1 = some (t1, .inr (3, [.int (sgI p1), .ref a1, .ref b1])) := s_38.2.2 _ _ f_24 (sc_162 hta hta2 htb htb2 htab hto hto2 hkk ht1 ht2)
      have f_45 : G_34 h2 = some (t2, .inr (3, [.int (sgI p2), .ref a2, .ref b2])) := s_38.2.2 _ _ f_25 (sc_163 hta hta2 htb htb2 htab hto hto2 hkk ht1 ht2)
      have f_46 : G_34 hc = some (19, .inr (1, [.ref hd, .ref (ad 3), .ref (ad 4), .long g_16, .long g_17, .long g_18, .long g_19])) := s_38.2.2 _ _ f_15 (show ¬ (19 < 3 ∨ 19 = 6) by decide)
      have k_47 : V_37 3 = g1 := (s_38.2.1 3 (show ¬ (3 < 3 ∨ 3 = 6) by decide)).trans k_13
      have rd_48 := rd_fr rd_26 s_38.2.2 (sc_164 hta hta2 htb htb2 htab hto hto2 hkk ht1 ht2)
      have rd_49 := rd_fr rd_27 s_38.2.2 (sc_164 hta hta2 htb htb2 htab hto hto2 hkk ht1 ht2)
      have rd_50 := rd_fr rd_28 s_38.2.2 (sc_164 hta hta2 htb htb2 htab hto hto2 hkk ht1 ht2)
      have rd_51 := rd_fr rd_29 s_38.2.2 (sc_164 hta hta2 htb htb2 htab hto hto2 hkk ht1 ht2)
      have W_52 := s_38.1
      have S_53 : w2s cA X ad (fun x => x < 11 ∨ x = 19 ∨ x = ta ∨ x = tb ∨ x = to) G V V_37 (G_34, B_35) := w2s_mono (w2s_tr S_31 s_38) (sc_165 hta hta2 htb htb2 htab hto hto2 hkk ht1 ht2)
      have bl_54 : B_35.1 ≤ MC := Nat.le_trans (w2_le W_52).1 hX1
      have bl_55 : B_35.2 ≤ MS := Nat.le_trans (w2_le W_52).2 hX2
      refine gs (pc' := 66) (fun _ _ _ _ _ hl => lv_aload_n hx hb d_Ca_setProduct_65 rfl (lv_at hl 3 rfl)) ?_
      refine gs (pc' := 67) (fun _ _ _ _ _ hl => lv_aload_n hx hb d_Ca_setProduct_66 rfl (lv_at hl 3 rfl)) ?_
      refine g_get hx hb hts hin_Ca hown hK f_41 rfl 6 (by decide) (hts _ wm136) (fun _ h9 => h9) rfl d_Ca_setProduct_67 ?_
      refine gs (pc' := 72) (fun _ _ _ _ _ hl => lv_aload hx hb d_Ca_setProduct_70 (lv_at hl 1 rfl)) ?_
      refine gs (pc' := 74) (fun _ _ _ _ _ hl => lv_aload hx hb d_Ca_setProduct_72 (lv_at hl 0 rfl)) ?_
      refine g_outv hlo (g_runV (As := [.ref (ad 9), .ref b2, .ref (ad 3)]) (rest := []) ⟨hx, hb, hml, hown, hts⟩ hK hZ hRc hRs (n_setQuotient l D cA lo MC MS G_34 B_35 X ad V_37 W_52 hX1 hX2 hk hd hc f_41 f_42 (cdO_i f_46) 9 (by decide) (by decide) b2 q2 (ad 3) g1 k2 (rd_mono (P1 := fun x => 3 ≤ x) rd_51 (sc_159 hta hta2 htb htb2 htab hto hto2 hkk ht1 ht2)) (rd_w2' (P := fun x => 3 ≤ x) W_52 (by decide) (by decide) k_47) hq2 (sc_166 hta hta2 htb htb2 htab hto hto2 hkk ht1 ht2) hg10) (fun _ _ => cwV 3 hts (tb_good (tb_cons wm489 (tb_cons wm491 (tb_cons ws9 (tb_cons wm3 k_Ca_setQuotient))))) rfl rfl rfl (by decide +kernel) ⟨by rw [hRf]; exact Nat.le_of_ble_eq_true rfl, by rw [hRl]; exact Nat.le_of_ble_eq_true rfl⟩) f_41 rfl bl_54 bl_55 rfl (Nat.le_of_ble_eq_true rfl) d_Ca_setProduct_74) (fun G_56 B_57 p_58 => ?_)
      obtain ⟨V_59, s_60, k_61⟩ := p_58
      have lt_62 : q2 / g1 < 1000000000 ^ k2 := Nat.lt_of_le_of_lt (Nat.div_le_self _ _) hq2
      have f_63 : G_56 hk = some (30, .inr (0, [.ref hd, .ref hc, .ref (ad 5), .ref (ad 6), .ref (ad 7), .ref (ad 8), .ref (ad 9), .ref (ad 10)])) := s_60.2.2 _ _ f_41 (show ¬ (30 < 3 ∨ 30 = 9) by decide)
      have f_64 : G_56 hd = some (30, .inr (2, [.ref (ad 0), .ref (ad 1), .ref (ad 2)])) := s_60.2.2 _ _ f_42 (show ¬ (30 < 3 ∨ 30 = 9) by decide)
      have f_65 : G_56 hf = some (to, .inr (3, [.int sf, .ref (ad ta), .ref (ad tb)])) := s_60.2.2 _ _ f_43 (sc_167 hta hta2 htb htb2 htab hto hto2 hkk ht1 ht2)
      have f_66 : G_56 h1 = some (t1, .inr (3, [.int (sgI p1), .ref a1, .ref b1])) := s_60.2.2 _ _ f_44 (sc_168 hta hta2 htb htb2 htab hto hto2 hkk ht1 ht2)
      have f_67 : G_56 h2 = some (t2, .inr (3, [.int (sgI p2), .ref a2, .ref b2])) := s_60.2.2 _ _ f_45 (sc_169 hta hta2 htb htb2 htab hto hto2 hkk ht1 ht2)
      have f_68 : G_56 hc = some (19, .inr (1, [.ref hd, .ref (ad 3), .ref (ad 4), .long g_16, .long g_17, .long g_18, .long g_19])) := s_60.2.2 _ _ f_46 (show ¬ (19 < 3 ∨ 19 = 9) by decide)
      have k_69 : V_59 3 = g1 := (s_60.2.1 3 (show ¬ (3 < 3 ∨ 3 = 9) by decide)).trans k_47
      have k_70 : V_59 6 = p1.natAbs / g1 := (s_60.2.1 6 (show ¬ (6 < 3 ∨ 6 = 9) by decide)).trans k_39
      have rd_71 := rd_fr rd_48 s_60.2.2 (sc_170 hta hta2 htb htb2 htab hto hto2 hkk ht1 ht2)
      have rd_72 := rd_fr rd_49 s_60.2.2 (sc_170 hta hta2 htb htb2 htab hto hto2 hkk ht1 ht2)
      have rd_73 := rd_fr rd_50 s_60.2.2 (sc_170 hta hta2 htb htb2 htab hto hto2 hkk ht1 ht2)
      have rd_74 := rd_fr rd_51 s_60.2.2 (sc_170 hta hta2 htb htb2 htab hto hto2 hkk ht1 ht2)
      have W_75 := s_60.1
      have S_76 : w2s cA X ad (fun x => x < 11 ∨ x = 19 ∨ x = ta ∨ x = tb ∨ x = to) G V V_59 (G_56, B_57) := w2s_mono (w2s_tr S_53 s_60) (sc_171 hta hta2 htb htb2 htab hto hto2 hkk ht1 ht2)
      have bl_77 : B_57.1 ≤ MC := Nat.le_trans (w2_le W_75).1 hX1
      have bl_78 : B_57.2 ≤ MS := Nat.le_trans (w2_le W_75).2 hX2
      refine gs (pc' := 78) (fun _ _ _ _ _ hl => lv_aload_n hx hb d_Ca_setProduct_77 rfl (lv_at hl 3 rfl)) ?_
      refine g_get hx hb hts hin_Ca hown hK f_63 rfl 1 (by decide) (hts _ wm131) (fun _ h9 => h9) rfl d_Ca_setProduct_78 ?_
      refine gs (pc' := 83) (fun _ _ _ _ _ hl => lv_aload hx hb d_Ca_setProduct_81 (lv_at hl 2 rfl)) ?_
      refine gs (pc' := 84) (fun _ _ _ _ _ hl => lv_aload_n hx hb d_Ca_setProduct_83 rfl (lv_at hl 5 rfl)) ?_
      refine g_get hx hb hts hin_Fr hown hK f_66 rfl 2 (by decide) (hts _ wm170) (fun _ h9 => h9) rfl d_Ca_setProduct_84 ?_
      have lt_79 : p2.natAbs < 1000000000 ^ (k1 + k2) := lb_up hp2 (sc_152 hta hta2 htb htb2 htab hto hto2 hkk ht1 ht2)
      have lt_80 : q1 < 1000000000 ^ (k1 + k2) := lb_up hq1 (sc_151 hta hta2 htb htb2 htab hto hto2 hkk ht1 ht2)
      refine g_outr hlo (g_runV (As := [.ref a2, .ref b1]) (rest := []) ⟨hx, hb, hml, hown, hts⟩ hK hZ hRc hRs (n_find l D cA lo MC MS G_56 B_57 X ad V_59 W_75 hX1 hX2 hd hc g_16 g_17 g_18 g_19 f_68 f_64 a2 p2.natAbs b1 q1 (k1 + k2) (rd_mono (P1 := fun x => 5 ≤ x ∧ ¬ x = 19) rd_73 (sc_150 hta hta2 htb htb2 htab hto hto2 hkk ht1 ht2)) (rd_mono (P1 := fun x => 5 ≤ x ∧ ¬ x = 19) rd_72 (sc_150 hta hta2 htb htb2 htab hto hto2 hkk ht1 ht2)) lt_79 lt_80 (sc_153 hta hta2 htb htb2 htab hto hto2 hkk ht1 ht2)) (fun _ _ => cwV 2 hts (tb_good (tb_cons wm399 (tb_cons wm400 (tb_cons wm401 (tb_cons wm7 k_Cd_find))))) rfl rfl rfl (by decide +kernel) ⟨by rw [hRf]; exact Nat.le_of_ble_eq_true rfl, by rw [hRl]; exact Nat.le_of_ble_eq_true rfl⟩) f_68 rfl bl_77 bl_78 rfl (Nat.le_of_ble_eq_true rfl) d_Ca_setProduct_87) (fun r_84 G_81 B_82 p_83 => ?_)
      obtain ⟨e_88, V_85, s_86, k_87, g_90, g_91, g_92, g_93, f_89⟩ := p_83
      subst e_88
      have lt_94 : Nat.gcd p2.natAbs q1 < 1000000000 ^ (k1 + k2) := lb_gcd lt_79 lt_80
      have f_95 : G_81 hk = some (30, .inr (0, [.ref hd, .ref hc, .ref (ad 5), .ref (ad 6), .ref (ad 7), .ref (ad 8), .ref (ad 9), .ref (ad 10)])) := s_86.2.2 _ _ f_63 (show ¬ (30 < 5 ∨ 30 = 19) by decide)
      have f_96 : G_81 hd = some (30, .inr (2, [.ref (ad 0), .ref (ad 1), .ref (ad 2)])) := s_86.2.2 _ _ f_64 (show ¬ (30 < 5 ∨ 30 = 19) by decide)
      have f_97 : G_81 hf = some (to, .inr (3, [.int sf, .ref (ad ta), .ref (ad tb)])) := s_86.2.2 _ _ f_65 (sc_154 hta hta2 htb htb2 htab hto hto2 hkk ht1 ht2)
      have f_98 : G_81 h1 = some (t1, .inr (3, [.int (sgI p1), .ref a1, .ref b1])) := s_86.2.2 _ _ f_66 (sc_155 hta hta2 htb htb2 htab hto hto2 hkk ht1 ht2)
      have f_99 : G_81 h2 = some (t2, .inr (3, [.int (sgI p2), .ref a2, .ref b2])) := s_86.2.2 _ _ f_67 (sc_156 hta hta2 htb htb2 htab hto hto2 hkk ht1 ht2)
      have k_100 : V_85 6 = p1.natAbs / g1 := (s_86.2.1 6 (show ¬ (6 < 5 ∨ 6 = 19) by decide)).trans k_70
      have k_101 : V_85 9 = q2 / g1 := (s_86.2.1 9 (show ¬ (9 < 5 ∨ 9 = 19) by decide)).trans k_61
      have rd_102 := rd_fr rd_71 s_86.2.2 (sc_157 hta hta2 htb htb2 htab hto hto2 hkk ht1 ht2)
      have rd_103 := rd_fr rd_72 s_86.2.2 (sc_157 hta hta2 htb htb2 htab hto hto2 hkk ht1 ht2)
      have rd_104 := rd_fr rd_73 s_86.2.2 (sc_157 hta hta2 htb htb2 htab hto hto2 hkk ht1 ht2)
      have rd_105 := rd_fr rd_74 s_86.2.2 (sc_157 hta hta2 htb htb2 htab hto hto2 hkk ht1 ht2)
      have W_106 := s_86.1
      have S_107 : w2s cA X ad (fun x => x < 11 ∨ x = 19 ∨ x = ta ∨ x = tb ∨ x = to) G V V_85 (G_81, B_82) := w2s_mono (w2s_tr S_76 s_86) (sc_158 hta hta2 htb htb2 htab hto hto2 hkk ht1 ht2)
      have bl_108 : B_82.1 ≤ MC := Nat.le_trans (w2_le W_106).1 hX1
      have bl_109 : B_82.2 ≤ MS := Nat.le_trans (w2_le W_106).2 hX2
      rw [← hg2] at k_87 lt_94
      refine gst (pc' := 92) (L' := [(7, .ref (ad 3)), (6, .ref b2), (5, .ref a2), (0, .ref hk), (1, .ref hf), (2, .ref h1), (3, .ref h2), (4, .int tu)]) (fun _ _ _ _ _ hl => lv_astore hx hb d_Ca_setProduct_90 hl (by decide) rfl) ?_
      refine gs (pc' := 93) (fun _ _ _ _ _ hl => lv_aload_n hx hb d_Ca_setProduct_92 rfl (lv_at hl 3 rfl)) ?_
      refine gs (pc' := 94) (fun _ _ _ _ _ hl => lv_aload_n hx hb d_Ca_setProduct_93 rfl (lv_at hl 3 rfl)) ?_
      refine g_get hx hb hts hin_Ca hown hK f_95 rfl 5 (by decide) (hts _ wm135) (fun _ h9 => h9) rfl d_Ca_setProduct_94 ?_
      refine gs (pc' := 99) (fun _ _ _ _ _ hl => lv_aload hx hb d_Ca_setProduct_97 (lv_at hl 2 rfl)) ?_
      refine gs (pc' := 101) (fun _ _ _ _ _ hl => lv_aload hx hb d_Ca_setProduct_99 (lv_at hl 0 rfl)) ?_
      refine g_outv hlo (g_runV (As := [.ref (ad 8), .ref a2, .ref (ad 3)]) (rest := []) ⟨hx, hb, hml, hown, hts⟩ hK hZ hRc hRs (n_setQuotient l D cA lo MC MS G_81 B_82 X ad V_85 W_106 hX1 hX2 hk hd hc f_95 f_96 (cdO_i f_89) 8 (by decide) (by decide) a2 p2.natAbs (ad 3) g2 k2 (rd_mono (P1 := fun x => 3 ≤ x) rd_104 (sc_159 hta hta2 htb htb2 htab hto hto2 hkk ht1 ht2)) (rd_w2' (P := fun x => 3 ≤ x) W_106 (by decide) (by decide) k_87) hp2 (sc_166 hta hta2 htb htb2 htab hto hto2 hkk ht1 ht2) hg20) (fun _ _ => cwV 3 hts (tb_good (tb_cons wm489 (tb_cons wm491 (tb_cons ws9 (tb_cons wm3 k_Ca_setQuotient))))) rfl rfl rfl (by decide +kernel) ⟨by rw [hRf]; exact Nat.le_of_ble_eq_true rfl, by rw [hRl]; exact Nat.le_of_ble_eq_true rfl⟩) f_95 rfl bl_108 bl_109 rfl (Nat.le_of_ble_eq_true rfl) d_Ca_setProduct_101) (fun G_110 B_111 p_112 => ?_)
      obtain ⟨V_113, s_114, k_115⟩ := p_112
      have lt_116 : p2.natAbs / g2 < 1000000000 ^ k2 := Nat.lt_of_le_of_lt (Nat.div_le_self _ _) hp2
      have f_117 : G_110 hk = some (30, .inr (0, [.ref hd, .ref hc, .ref (ad 5), .ref (ad 6), .ref (ad 7), .ref (ad 8), .ref (ad 9), .ref (ad 10)])) := s_114.2.2 _ _ f_95 (show ¬ (30 < 3 ∨ 30 = 8) by decide)
      have f_118 : G_110 hd = some (30, .inr (2, [.ref (ad 0), .ref (ad 1), .ref (ad 2)])) := s_114.2.2 _ _ f_96 (show ¬ (30 < 3 ∨ 30 = 8) by decide)
      have f_119 : G_110 hf = some (to, .inr (3, [.int sf, .ref (ad ta), .ref (ad tb)])) := s_114.2.2 _ _ f_97 (sc_172 hta hta2 htb htb2 htab hto hto2 hkk ht1 ht2)
      have f_120 : G_110 h1 = some (t1, .inr (3, [.int (sgI p1), .ref a1, .ref b1])) := s_114.2.2 _ _ f_98 (sc_173 hta hta2 htb htb2 htab hto hto2 hkk ht1 ht2)
      have f_121 : G_110 h2 = some (t2, .inr (3, [.int (sgI p2), .ref a2, .ref b2])) := s_114.2.2 _ _ f_99 (sc_174 hta hta2 htb htb2 htab hto hto2 hkk ht1 ht2)
      have f_122 : G_110 hc = some (19, .inr (1, [.ref hd, .ref (ad 3), .ref (ad 4), .long g_90, .long g_91, .long g_92, .long g_93])) := s_114.2.2 _ _ f_89 (show ¬ (19 < 3 ∨ 19 = 8) by decide)
      have k_123 : V_113 6 = p1.natAbs / g1 := (s_114.2.1 6 (show ¬ (6 < 3 ∨ 6 = 8) by decide)).trans k_100
      have k_124 : V_113 9 = q2 / g1 := (s_114.2.1 9 (show ¬ (9 < 3 ∨ 9 = 8) by decide)).trans k_101
      have k_125 : V_113 3 = g2 := (s_114.2.1 3 (show ¬ (3 < 3 ∨ 3 = 8) by decide)).trans k_87
      have rd_126 := rd_fr rd_102 s_114.2.2 (sc_175 hta hta2 htb htb2 htab hto hto2 hkk ht1 ht2)
      have rd_127 := rd_fr rd_103 s_114.2.2 (sc_175 hta hta2 htb htb2 htab hto hto2 hkk ht1 ht2)
      have rd_128 := rd_fr rd_104 s_114.2.2 (sc_175 hta hta2 htb htb2 htab hto hto2 hkk ht1 ht2)
      have rd_129 := rd_fr rd_105 s_114.2.2 (sc_175 hta hta2 htb htb2 htab hto hto2 hkk ht1 ht2)
      have W_130 := s_114.1
      have S_131 : w2s cA X ad (fun x => x < 11 ∨ x = 19 ∨ x = ta ∨ x = tb ∨ x = to) G V V_113 (G_110, B_111) := w2s_mono (w2s_tr S_107 s_114) (sc_176 hta hta2 htb htb2 htab hto hto2 hkk ht1 ht2)
      have bl_132 : B_111.1 ≤ MC := Nat.le_trans (w2_le W_130).1 hX1
      have bl_133 : B_111.2 ≤ MS := Nat.le_trans (w2_le W_130).2 hX2
      refine gs (pc' := 105) (fun _ _ _ _ _ hl => lv_aload_n hx hb d_Ca_setProduct_104 rfl (lv_at hl 3 rfl)) ?_
      refine gs (pc' := 106) (fun _ _ _ _ _ hl => lv_aload_n hx hb d_Ca_setProduct_105 rfl (lv_at hl 3 rfl)) ?_
      refine g_get hx hb hts hin_Ca hown hK f_117 rfl 4 (by decide) (hts _ wm134) (fun _ h9 => h9) rfl d_Ca_setProduct_106 ?_
      refine gs (pc' := 110) (fun _ _ _ _ _ hl => lv_aload_n hx hb d_Ca_setProduct_109 rfl (lv_at hl 5 rfl)) ?_
      refine g_get hx hb hts hin_Fr hown hK f_120 rfl 2 (by decide) (hts _ wm170) (fun _ h9 => h9) rfl d_Ca_setProduct_110 ?_
      refine gs (pc' := 115) (fun _ _ _ _ _ hl => lv_aload hx hb d_Ca_setProduct_113 (lv_at hl 0 rfl)) ?_
      refine g_outv hlo (g_runV (As := [.ref (ad 7), .ref b1, .ref (ad 3)]) (rest := []) ⟨hx, hb, hml, hown, hts⟩ hK hZ hRc hRs (n_setQuotient l D cA lo MC MS G_110 B_111 X ad V_113 W_130 hX1 hX2 hk hd hc f_117 f_118 (cdO_i f_122) 7 (by decide) (by decide) b1 q1 (ad 3) g2 k1 (rd_mono (P1 := fun x => 3 ≤ x) rd_127 (sc_159 hta hta2 htb htb2 htab hto hto2 hkk ht1 ht2)) (rd_w2' (P := fun x => 3 ≤ x) W_130 (by decide) (by decide) k_125) hq1 (sc_160 hta hta2 htb htb2 htab hto hto2 hkk ht1 ht2) hg20) (fun _ _ => cwV 3 hts (tb_good (tb_cons wm489 (tb_cons wm491 (tb_cons ws9 (tb_cons wm3 k_Ca_setQuotient))))) rfl rfl rfl (by decide +kernel) ⟨by rw [hRf]; exact Nat.le_of_ble_eq_true rfl, by rw [hRl]; exact Nat.le_of_ble_eq_true rfl⟩) f_117 rfl bl_132 bl_133 rfl (Nat.le_of_ble_eq_true rfl) d_Ca_setProduct_115) (fun G_134 B_135 p_136 => ?_)
      obtain ⟨V_137, s_138, k_139⟩ := p_136
      have lt_140 : q1 / g2 < 1000000000 ^ k1 := Nat.lt_of_le_of_lt (Nat.div_le_self _ _) hq1
      have f_141 : G_134 hk = some (30, .inr (0, [.ref hd, .ref hc, .ref (ad 5), .ref (ad 6), .ref (ad 7), .ref (ad 8), .ref (ad 9), .ref (ad 10)])) := s_138.2.2 _ _ f_117 (show ¬ (30 < 3 ∨ 30 = 7) by decide)
      have f_142 : G_134 hd = some (30, .inr (2, [.ref (ad 0), .ref (ad 1), .ref (ad 2)])) := s_138.2.2 _ _ f_118 (show ¬ (30 < 3 ∨ 30 = 7) by decide)
      have f_143 : G_134 hf = some (to, .inr (3, [.int sf, .ref (ad ta), .ref (ad tb)])) := s_138.2.2 _ _ f_119 (sc_177 hta hta2 htb htb2 htab hto hto2 hkk ht1 ht2)
      have f_144 : G_134 h1 = some (t1, .inr (3, [.int (sgI p1), .ref a1, .ref b1])) := s_138.2.2 _ _ f_120 (sc_178 hta hta2 htb htb2 htab hto hto2 hkk ht1 ht2)
      have f_145 : G_134 h2 = some (t2, .inr (3, [.int (sgI p2), .ref a2, .ref b2])) := s_138.2.2 _ _ f_121 (sc_179 hta hta2 htb htb2 htab hto hto2 hkk ht1 ht2)
      have f_146 : G_134 hc = some (19, .inr (1, [.ref hd, .ref (ad 3), .ref (ad 4), .long g_90, .long g_91, .long g_92, .long g_93])) := s_138.2.2 _ _ f_122 (show ¬ (19 < 3 ∨ 19 = 7) by decide)
      have k_147 : V_137 6 = p1.natAbs / g1 := (s_138.2.1 6 (show ¬ (6 < 3 ∨ 6 = 7) by decide)).trans k_123
      have k_148 : V_137 9 = q2 / g1 := (s_138.2.1 9 (show ¬ (9 < 3 ∨ 9 = 7) by decide)).trans k_124
      have k_149 : V_137 3 = g2 := (s_138.2.1 3 (show ¬ (3 < 3 ∨ 3 = 7) by decide)).trans k_125
      have k_150 : V_137 8 = p2.natAbs / g2 := (s_138.2.1 8 (show ¬ (8 < 3 ∨ 8 = 7) by decide)).trans k_115
      have rd_151 := rd_fr rd_126 s_138.2.2 (sc_180 hta hta2 htb htb2 htab hto hto2 hkk ht1 ht2)
      have rd_152 := rd_fr rd_127 s_138.2.2 (sc_180 hta hta2 htb htb2 htab hto hto2 hkk ht1 ht2)
      have rd_153 := rd_fr rd_128 s_138.2.2 (sc_180 hta hta2 htb htb2 htab hto hto2 hkk ht1 ht2)
      have rd_154 := rd_fr rd_129 s_138.2.2 (sc_180 hta hta2 htb htb2 htab hto hto2 hkk ht1 ht2)
      have W_155 := s_138.1
      have S_156 : w2s cA X ad (fun x => x < 11 ∨ x = 19 ∨ x = ta ∨ x = tb ∨ x = to) G V V_137 (G_134, B_135) := w2s_mono (w2s_tr S_131 s_138) (sc_181 hta hta2 htb htb2 htab hto hto2 hkk ht1 ht2)
      have bl_157 : B_135.1 ≤ MC := Nat.le_trans (w2_le W_155).1 hX1
      have bl_158 : B_135.2 ≤ MS := Nat.le_trans (w2_le W_155).2 hX2
      refine gs (pc' := 119) (fun _ _ _ _ _ hl => lv_aload_n hx hb d_Ca_setProduct_118 rfl (lv_at hl 4 rfl)) ?_
      refine gs (pc' := 120) (fun _ _ _ _ _ hl => lv_aload_n hx hb d_Ca_setProduct_119 rfl (lv_at hl 5 rfl)) ?_
      refine g_get hx hb hts hin_Fr hown hK f_144 rfl 0 (by decide) (hts _ wm164) (fun _ h9 => h9) rfl d_Ca_setProduct_120 ?_
      refine gs (pc' := 124) (fun _ _ _ _ _ hl => lv_aload_n hx hb d_Ca_setProduct_123 rfl (lv_at hl 6 rfl)) ?_
      refine g_get hx hb hts hin_Fr hown hK f_145 rfl 0 (by decide) (hts _ wm164) (fun _ h9 => h9) rfl d_Ca_setProduct_124 ?_
      refine gs (pc' := 128) (fun _ _ _ _ _ hl => lv_imul hx hb d_Ca_setProduct_127) ?_
      refine g_eqi (show (sgI p1) * (sgI p2) = sgI (p1 * p2) from sgI_mul p1 p2) ?_
      refine g_put (ty := .int) hx hb hts hin_Fr ty_Fr ty_Fr_ok nm_Fr hown hK f_143 rfl 0 (by decide) (hts _ wm164) (fun _ h9 => h9) rfl (by decide +kernel) rfl rfl (Nat.le_of_ble_eq_true rfl) d_Ca_setProduct_128 (fun G_159 f_160 o_161 => ?_)
      have f_162 : G_159 hf = some (to, .inr (3, [.int (sgI (p1 * p2)), .ref (ad ta), .ref (ad tb)])) := f_160
      have fr_163 : gfr (fun x => x = to) G_134 G_159 := gfr_put gfr_rf f_143 rfl o_161
      have s_164 : w2s cA X ad (fun x => x = to) G_134 V_137 V_137 (G_159, B_135) := ⟨w2_fr W_155 fr_163 (sc_182 hta hta2 htb htb2 htab hto hto2 hkk ht1 ht2), fun _ _ => rfl, fr_163⟩
      have f_165 : G_159 hk = some (30, .inr (0, [.ref hd, .ref hc, .ref (ad 5), .ref (ad 6), .ref (ad 7), .ref (ad 8), .ref (ad 9), .ref (ad 10)])) := s_164.2.2 _ _ f_141 (sc_183 hta hta2 htb htb2 htab hto hto2 hkk ht1 ht2)
      have f_166 : G_159 hd = some (30, .inr (2, [.ref (ad 0), .ref (ad 1), .ref (ad 2)])) := s_164.2.2 _ _ f_142 (sc_183 hta hta2 htb htb2 htab hto hto2 hkk ht1 ht2)
      have f_167 : G_159 h1 = some (t1, .inr (3, [.int (sgI p1), .ref a1, .ref b1])) := s_164.2.2 _ _ f_144 (sc_184 hta hta2 htb htb2 htab hto hto2 hkk ht1 ht2)
      have f_168 : G_159 h2 = some (t2, .inr (3, [.int (sgI p2), .ref a2, .ref b2])) := s_164.2.2 _ _ f_145 (sc_185 hta hta2 htb htb2 htab hto hto2 hkk ht1 ht2)
      have f_169 : G_159 hc = some (19, .inr (1, [.ref hd, .ref (ad 3), .ref (ad 4), .long g_90, .long g_91, .long g_92, .long g_93])) := s_164.2.2 _ _ f_146 (sc_186 hta hta2 htb htb2 htab hto hto2 hkk ht1 ht2)
      have k_170 : V_137 6 = p1.natAbs / g1 := (s_164.2.1 6 (sc_187 hta hta2 htb htb2 htab hto hto2 hkk ht1 ht2)).trans k_147
      have k_171 : V_137 9 = q2 / g1 := (s_164.2.1 9 (sc_188 hta hta2 htb htb2 htab hto hto2 hkk ht1 ht2)).trans k_148
      have k_172 : V_137 3 = g2 := (s_164.2.1 3 (sc_189 hta hta2 htb htb2 htab hto hto2 hkk ht1 ht2)).trans k_149
      have k_173 : V_137 8 = p2.natAbs / g2 := (s_164.2.1 8 (sc_190 hta hta2 htb htb2 htab hto hto2 hkk ht1 ht2)).trans k_150
      have k_174 : V_137 7 = q1 / g2 := (s_164.2.1 7 (sc_191 hta hta2 htb htb2 htab hto hto2 hkk ht1 ht2)).trans k_139
      have rd_175 := rd_fr rd_151 s_164.2.2 (sc_192 hta hta2 htb htb2 htab hto hto2 hkk ht1 ht2)
      have rd_176 := rd_fr rd_152 s_164.2.2 (sc_192 hta hta2 htb htb2 htab hto hto2 hkk ht1 ht2)
      have rd_177 := rd_fr rd_153 s_164.2.2 (sc_192 hta hta2 htb htb2 htab hto hto2 hkk ht1 ht2)
      have rd_178 := rd_fr rd_154 s_164.2.2 (sc_192 hta hta2 htb htb2 htab hto hto2 hkk ht1 ht2)
      have W_179 := s_164.1
      have S_180 : w2s cA X ad (fun x => x < 11 ∨ x = 19 ∨ x = ta ∨ x = tb ∨ x = to) G V V_137 (G_159, B_135) := w2s_mono (w2s_tr S_156 s_164) (sc_193 hta hta2 htb htb2 htab hto hto2 hkk ht1 ht2)
      have bl_181 : B_135.1 ≤ MC := Nat.le_trans (w2_le W_179).1 hX1
      have bl_182 : B_135.2 ≤ MS := Nat.le_trans (w2_le W_179).2 hX2
      refine gs (pc' := 132) (fun _ _ _ _ _ hl => lv_aload_n hx hb d_Ca_setProduct_131 rfl (lv_at hl 4 rfl)) ?_
      refine g_get hx hb hts hin_Fr hown hK f_162 rfl 1 (by decide) (hts _ wm167) (fun _ h9 => h9) rfl d_Ca_setProduct_132 ?_
      refine gs (pc' := 136) (fun _ _ _ _ _ hl => lv_aload_n hx hb d_Ca_setProduct_135 rfl (lv_at hl 3 rfl)) ?_
      refine g_get hx hb hts hin_Ca hown hK f_165 rfl 3 (by decide) (hts _ wm133) (fun _ h9 => h9) rfl d_Ca_setProduct_136 ?_
      refine gs (pc' := 140) (fun _ _ _ _ _ hl => lv_aload_n hx hb d_Ca_setProduct_139 rfl (lv_at hl 3 rfl)) ?_
      refine g_get hx hb hts hin_Ca hown hK f_165 rfl 5 (by decide) (hts _ wm135) (fun _ h9 => h9) rfl d_Ca_setProduct_140 ?_
      obtain ⟨κo_183, ao_183, zo_183, fo_183, hho_183, hao_183, hzo_183, hDo_183, hco_183⟩ := w2_N W_179 (sc_194 hta hta2 htb htb2 htab hto hto2 hkk ht1 ht2)
      have hbo_183 : zo_183 ≤ 3000 := Nat.le_trans hzo_183 hco_183
      refine g_outv hlo (g_runV (As := [.ref (ad 6), .ref (ad 8)]) (rest := []) ⟨hx, hb, hml, hown, hts⟩ hK hZ hRc hRs (n_setProduct l D cA lo MC MS G_159 B_135 X ad V_137 W_179 hX1 hX2 ta (sc_194 hta hta2 htb htb2 htab hto hto2 hkk ht1 ht2) (ad 6) (p1.natAbs / g1) k1 (rd_w2' (P := fun x => ¬ x = ta) W_179 (by decide) (sc_195 hta hta2 htb htb2 htab hto hto2 hkk ht1 ht2) k_170) lt_40 (ad 8) (p2.natAbs / g2) k2 (rd_w2' (P := fun x => ¬ x = ta) W_179 (by decide) (sc_196 hta hta2 htb htb2 htab hto hto2 hkk ht1 ht2) k_173) lt_116 (sc_197 hta hta2 htb htb2 htab hto hto2 hkk ht1 ht2)) (fun _ _ => cwV 2 hts (tb_good (tb_cons wm563 (tb_cons wm564 (tb_cons wm565 (tb_cons wm5 k_Na_setProduct))))) rfl rfl rfl (by decide +kernel) ⟨by rw [hRf]; exact Nat.le_of_ble_eq_true rfl, by rw [hRl]; exact Nat.le_of_ble_eq_true rfl⟩) hho_183 rfl bl_181 bl_182 rfl (Nat.le_of_ble_eq_true rfl) d_Ca_setProduct_143) (fun G_184 B_185 p_186 => ?_)
      have lt_187 : (p1.natAbs / g1) * (p2.natAbs / g2) < 1000000000 ^ (k1 + k2) := lb_mul lt_40 lt_116
      obtain ⟨V_188, s_189, k_190⟩ := p_186
      have f_191 : G_184 hk = some (30, .inr (0, [.ref hd, .ref hc, .ref (ad 5), .ref (ad 6), .ref (ad 7), .ref (ad 8), .ref (ad 9), .ref (ad 10)])) := s_189.2.2 _ _ f_165 (sc_198 hta hta2 htb htb2 htab hto hto2 hkk ht1 ht2)
      have f_192 : G_184 hd = some (30, .inr (2, [.ref (ad 0), .ref (ad 1), .ref (ad 2)])) := s_189.2.2 _ _ f_166 (sc_198 hta hta2 htb htb2 htab hto hto2 hkk ht1 ht2)
      have f_193 : G_184 h1 = some (t1, .inr (3, [.int (sgI p1), .ref a1, .ref b1])) := s_189.2.2 _ _ f_167 (sc_199 hta hta2 htb htb2 htab hto hto2 hkk ht1 ht2)
      have f_194 : G_184 h2 = some (t2, .inr (3, [.int (sgI p2), .ref a2, .ref b2])) := s_189.2.2 _ _ f_168 (sc_200 hta hta2 htb htb2 htab hto hto2 hkk ht1 ht2)
      have f_195 : G_184 hc = some (19, .inr (1, [.ref hd, .ref (ad 3), .ref (ad 4), .long g_90, .long g_91, .long g_92, .long g_93])) := s_189.2.2 _ _ f_169 (sc_201 hta hta2 htb htb2 htab hto hto2 hkk ht1 ht2)
      have f_196 : G_184 hf = some (to, .inr (3, [.int (sgI (p1 * p2)), .ref (ad ta), .ref (ad tb)])) := s_189.2.2 _ _ f_162 (sc_202 hta hta2 htb htb2 htab hto hto2 hkk ht1 ht2)
      have k_197 : V_188 6 = p1.natAbs / g1 := (s_189.2.1 6 (sc_203 hta hta2 htb htb2 htab hto hto2 hkk ht1 ht2)).trans k_170
      have k_198 : V_188 9 = q2 / g1 := (s_189.2.1 9 (sc_204 hta hta2 htb htb2 htab hto hto2 hkk ht1 ht2)).trans k_171
      have k_199 : V_188 3 = g2 := (s_189.2.1 3 (sc_205 hta hta2 htb htb2 htab hto hto2 hkk ht1 ht2)).trans k_172
      have k_200 : V_188 8 = p2.natAbs / g2 := (s_189.2.1 8 (sc_206 hta hta2 htb htb2 htab hto hto2 hkk ht1 ht2)).trans k_173
      have k_201 : V_188 7 = q1 / g2 := (s_189.2.1 7 (sc_207 hta hta2 htb htb2 htab hto hto2 hkk ht1 ht2)).trans k_174
      have rd_202 := rd_fr rd_175 s_189.2.2 (sc_208 hta hta2 htb htb2 htab hto hto2 hkk ht1 ht2)
      have rd_203 := rd_fr rd_176 s_189.2.2 (sc_208 hta hta2 htb htb2 htab hto hto2 hkk ht1 ht2)
      have rd_204 := rd_fr rd_177 s_189.2.2 (sc_208 hta hta2 htb htb2 htab hto hto2 hkk ht1 ht2)
      have rd_205 := rd_fr rd_178 s_189.2.2 (sc_208 hta hta2 htb htb2 htab hto hto2 hkk ht1 ht2)
      have W_206 := s_189.1
      have S_207 : w2s cA X ad (fun x => x < 11 ∨ x = 19 ∨ x = ta ∨ x = tb ∨ x = to) G V V_188 (G_184, B_185) := w2s_mono (w2s_tr S_180 s_189) (sc_209 hta hta2 htb htb2 htab hto hto2 hkk ht1 ht2)
      have bl_208 : B_185.1 ≤ MC := Nat.le_trans (w2_le W_206).1 hX1
      have bl_209 : B_185.2 ≤ MS := Nat.le_trans (w2_le W_206).2 hX2
      refine gs (pc' := 147) (fun _ _ _ _ _ hl => lv_aload_n hx hb d_Ca_setProduct_146 rfl (lv_at hl 4 rfl)) ?_
      refine g_get hx hb hts hin_Fr hown hK f_196 rfl 2 (by decide) (hts _ wm170) (fun _ h9 => h9) rfl d_Ca_setProduct_147 ?_
      refine gs (pc' := 151) (fun _ _ _ _ _ hl => lv_aload_n hx hb d_Ca_setProduct_150 rfl (lv_at hl 3 rfl)) ?_
      refine g_get hx hb hts hin_Ca hown hK f_191 rfl 4 (by decide) (hts _ wm134) (fun _ h9 => h9) rfl d_Ca_setProduct_151 ?_
      refine gs (pc' := 155) (fun _ _ _ _ _ hl => lv_aload_n hx hb d_Ca_setProduct_154 rfl (lv_at hl 3 rfl)) ?_
      refine g_get hx hb hts hin_Ca hown hK f_191 rfl 6 (by decide) (hts _ wm136) (fun _ h9 => h9) rfl d_Ca_setProduct_155 ?_
      obtain ⟨κo_210, ao_210, zo_210, fo_210, hho_210, hao_210, hzo_210, hDo_210, hco_210⟩ := w2_N W_206 (sc_210 hta hta2 htb htb2 htab hto hto2 hkk ht1 ht2)
      have hbo_210 : zo_210 ≤ 3000 := Nat.le_trans hzo_210 hco_210
      refine g_outv hlo (g_runV (As := [.ref (ad 7), .ref (ad 9)]) (rest := []) ⟨hx, hb, hml, hown, hts⟩ hK hZ hRc hRs (n_setProduct l D cA lo MC MS G_184 B_185 X ad V_188 W_206 hX1 hX2 tb (sc_210 hta hta2 htb htb2 htab hto hto2 hkk ht1 ht2) (ad 7) (q1 / g2) k1 (rd_w2' (P := fun x => ¬ x = tb) W_206 (by decide) (sc_211 hta hta2 htb htb2 htab hto hto2 hkk ht1 ht2) k_201) lt_140 (ad 9) (q2 / g1) k2 (rd_w2' (P := fun x => ¬ x = tb) W_206 (by decide) (sc_212 hta hta2 htb htb2 htab hto hto2 hkk ht1 ht2) k_198) lt_62 (sc_197 hta hta2 htb htb2 htab hto hto2 hkk ht1 ht2)) (fun _ _ => cwV 2 hts (tb_good (tb_cons wm563 (tb_cons wm564 (tb_cons wm565 (tb_cons wm5 k_Na_setProduct))))) rfl rfl rfl (by decide +kernel) ⟨by rw [hRf]; exact Nat.le_of_ble_eq_true rfl, by rw [hRl]; exact Nat.le_of_ble_eq_true rfl⟩) hho_210 rfl bl_208 bl_209 rfl (Nat.le_of_ble_eq_true rfl) d_Ca_setProduct_158) (fun G_211 B_212 p_213 => ?_)
      have lt_214 : (q1 / g2) * (q2 / g1) < 1000000000 ^ (k1 + k2) := lb_mul lt_140 lt_62
      obtain ⟨V_215, s_216, k_217⟩ := p_213
      have f_218 : G_211 hk = some (30, .inr (0, [.ref hd, .ref hc, .ref (ad 5), .ref (ad 6), .ref (ad 7), .ref (ad 8), .ref (ad 9), .ref (ad 10)])) := s_216.2.2 _ _ f_191 (sc_213 hta hta2 htb htb2 htab hto hto2 hkk ht1 ht2)
      have f_219 : G_211 hd = some (30, .inr (2, [.ref (ad 0), .ref (ad 1), .ref (ad 2)])) := s_216.2.2 _ _ f_192 (sc_213 hta hta2 htb htb2 htab hto hto2 hkk ht1 ht2)
      have f_220 : G_211 h1 = some (t1, .inr (3, [.int (sgI p1), .ref a1, .ref b1])) := s_216.2.2 _ _ f_193 (sc_214 hta hta2 htb htb2 htab hto hto2 hkk ht1 ht2)
      have f_221 : G_211 h2 = some (t2, .inr (3, [.int (sgI p2), .ref a2, .ref b2])) := s_216.2.2 _ _ f_194 (sc_215 hta hta2 htb htb2 htab hto hto2 hkk ht1 ht2)
      have f_222 : G_211 hc = some (19, .inr (1, [.ref hd, .ref (ad 3), .ref (ad 4), .long g_90, .long g_91, .long g_92, .long g_93])) := s_216.2.2 _ _ f_195 (sc_216 hta hta2 htb htb2 htab hto hto2 hkk ht1 ht2)
      have f_223 : G_211 hf = some (to, .inr (3, [.int (sgI (p1 * p2)), .ref (ad ta), .ref (ad tb)])) := s_216.2.2 _ _ f_196 (sc_217 hta hta2 htb htb2 htab hto hto2 hkk ht1 ht2)
      have k_224 : V_215 6 = p1.natAbs / g1 := (s_216.2.1 6 (sc_218 hta hta2 htb htb2 htab hto hto2 hkk ht1 ht2)).trans k_197
      have k_225 : V_215 9 = q2 / g1 := (s_216.2.1 9 (sc_219 hta hta2 htb htb2 htab hto hto2 hkk ht1 ht2)).trans k_198
      have k_226 : V_215 3 = g2 := (s_216.2.1 3 (sc_220 hta hta2 htb htb2 htab hto hto2 hkk ht1 ht2)).trans k_199
      have k_227 : V_215 8 = p2.natAbs / g2 := (s_216.2.1 8 (sc_221 hta hta2 htb htb2 htab hto hto2 hkk ht1 ht2)).trans k_200
      have k_228 : V_215 7 = q1 / g2 := (s_216.2.1 7 (sc_222 hta hta2 htb htb2 htab hto hto2 hkk ht1 ht2)).trans k_201
      have k_229 : V_215 ta = (p1.natAbs / g1) * (p2.natAbs / g2) := (s_216.2.1 ta (sc_223 hta hta2 htb htb2 htab hto hto2 hkk ht1 ht2)).trans k_190
      have rd_230 := rd_fr rd_202 s_216.2.2 (sc_224 hta hta2 htb htb2 htab hto hto2 hkk ht1 ht2)
      have rd_231 := rd_fr rd_203 s_216.2.2 (sc_224 hta hta2 htb htb2 htab hto hto2 hkk ht1 ht2)
      have rd_232 := rd_fr rd_204 s_216.2.2 (sc_224 hta hta2 htb htb2 htab hto hto2 hkk ht1 ht2)
      have rd_233 := rd_fr rd_205 s_216.2.2 (sc_224 hta hta2 htb htb2 htab hto hto2 hkk ht1 ht2)
      have W_234 := s_216.1
      have S_235 : w2s cA X ad (fun x => x < 11 ∨ x = 19 ∨ x = ta ∨ x = tb ∨ x = to) G V V_215 (G_211, B_212) := w2s_mono (w2s_tr S_207 s_216) (sc_225 hta hta2 htb htb2 htab hto hto2 hkk ht1 ht2)
      have bl_236 : B_212.1 ≤ MC := Nat.le_trans (w2_le W_234).1 hX1
      have bl_237 : B_212.2 ≤ MS := Nat.le_trans (w2_le W_234).2 hX2
      have hfm := fr_mul (n1 := p1.natAbs) (d1 := q1) (n2 := p2.natAbs) (d2 := q2) hq01 hd0 hco1 hco hg1 hg2
      have hna : (p1 * p2).natAbs = p1.natAbs * p2.natAbs := Int.natAbs_mul _ _
      have hsg : sgI (p1 * p2) = sgI (frn (p1 * p2) (q1 * q2)) := (frn_sg _ _).symm
      exact hret 161 _ _ _ d_Ca_setProduct_161 bl_236 bl_237 ⟨V_215, S_235, k_229.trans (by rw [frn_abs, hna]; exact hfm.1), k_217.trans (by rw [hna]; exact hfm.2), by rw [← hsg]; exact f_223, cdO_i f_222⟩
    · skip
      exact absurd c_3 c_4
  · skip
    have hn : (if tu = 0 then p1 * p2 else p1 * (p2.sign * q2)) = p1 * (p2.sign * q2) := if_neg c_3
    have hd9 : (if tu = 0 then q1 * q2 else q1 * p2.natAbs) = q1 * p2.natAbs := if_neg c_3
    rw [hn, hd9] at hret
    have hd0 : 0 < p2.natAbs := (by have := htu.resolve_left c_3; omega)
    have hco : Nat.Coprime q2 p2.natAbs := hco2.symm
    obtain ⟨g1, hg1⟩ : ∃ g1, g1 = Nat.gcd p1.natAbs p2.natAbs := ⟨_, rfl⟩
    have hg10 : 0 < g1 := by rw [hg1]; exact Nat.gcd_pos_of_pos_right _ hd0
    obtain ⟨g2, hg2⟩ : ∃ g2, g2 = Nat.gcd q2 q1 := ⟨_, rfl⟩
    have hg20 : 0 < g2 := by rw [hg2]; exact Nat.gcd_pos_of_pos_right _ hq01
    refine gs (pc' := 6) (fun _ _ _ _ _ hl => lv_aload_n hx hb d_Ca_setProduct_5 rfl (lv_at hl 3 rfl)) ?_
    refine g_get hx hb hts hin_Fr hown hK hh2 rfl 2 (by decide) (hts _ wm170) (fun _ h9 => h9) rfl d_Ca_setProduct_6 ?_
    refine gs (pc' := 16) (fun _ _ _ _ _ hl => lv_goto (tgt := 16) hx hb d_Ca_setProduct_9 (by decide)) ?_
    refine gst (pc' := 18) (L' := [(5, .ref b2), (0, .ref hk), (1, .ref hf), (2, .ref h1), (3, .ref h2), (4, .int tu)]) (fun _ _ _ _ _ hl => lv_astore hx hb d_Ca_setProduct_16 hl (by decide) rfl) ?_
    refine gs (pc' := 20) (fun _ _ _ _ _ hl => lv_iload hx hb d_Ca_setProduct_18 (lv_at hl 5 rfl)) ?_
    refine gsb (pc1 := 30) (pc2 := 23) (fun _ _ _ _ _ => lv_if_eq (tgt := 30) hx hb d_Ca_setProduct_20 (by decide)) (fun c_238 => ?_) (fun c_238 => ?_)
    · skip
      exact absurd c_238 c_3
    · skip
      refine gs (pc' := 24) (fun _ _ _ _ _ hl => lv_aload_n hx hb d_Ca_setProduct_23 rfl (lv_at hl 4 rfl)) ?_
      refine g_get hx hb hts hin_Fr hown hK hh2 rfl 1 (by decide) (hts _ wm167) (fun _ h9 => h9) rfl d_Ca_setProduct_24 ?_
      refine gs (pc' := 34) (fun _ _ _ _ _ hl => lv_goto (tgt := 34) hx hb d_Ca_setProduct_27 (by decide)) ?_
      refine gst (pc' := 36) (L' := [(6, .ref a2), (5, .ref b2), (0, .ref hk), (1, .ref hf), (2, .ref h1), (3, .ref h2), (4, .int tu)]) (fun _ _ _ _ _ hl => lv_astore hx hb d_Ca_setProduct_34 hl (by decide) rfl) ?_
      refine gs (pc' := 37) (fun _ _ _ _ _ hl => lv_aload_n hx hb d_Ca_setProduct_36 rfl (lv_at hl 2 rfl)) ?_
      refine g_get hx hb hts hin_Ca hown hK hhk rfl 1 (by decide) (hts _ wm131) (fun _ h9 => h9) rfl d_Ca_setProduct_37 ?_
      refine gs (pc' := 41) (fun _ _ _ _ _ hl => lv_aload_n hx hb d_Ca_setProduct_40 rfl (lv_at hl 4 rfl)) ?_
      refine g_get hx hb hts hin_Fr hown hK hh1 rfl 1 (by decide) (hts _ wm167) (fun _ h9 => h9) rfl d_Ca_setProduct_41 ?_
      refine gs (pc' := 46) (fun _ _ _ _ _ hl => lv_aload hx hb d_Ca_setProduct_44 (lv_at hl 0 rfl)) ?_
      have lt_239 : p1.natAbs < 1000000000 ^ (k1 + k2) := lb_up hp1 (sc_151 hta hta2 htb htb2 htab hto hto2 hkk ht1 ht2)
      have lt_240 : p2.natAbs < 1000000000 ^ (k1 + k2) := lb_up hp2 (sc_152 hta hta2 htb htb2 htab hto hto2 hkk ht1 ht2)
      refine g_outr hlo (g_runV (As := [.ref a1, .ref a2]) (rest := []) ⟨hx, hb, hml, hown, hts⟩ hK hZ hRc hRs (n_find l D cA lo MC MS G B X ad V hW hX1 hX2 hd hc ga0 gb0 gc0 gd0 hhc hhd a1 p1.natAbs a2 p2.natAbs (k1 + k2) (rd_mono (P1 := fun x => 5 ≤ x ∧ ¬ x = 19) hra1 (sc_150 hta hta2 htb htb2 htab hto hto2 hkk ht1 ht2)) (rd_mono (P1 := fun x => 5 ≤ x ∧ ¬ x = 19) hra2 (sc_150 hta hta2 htb htb2 htab hto hto2 hkk ht1 ht2)) lt_239 lt_240 (sc_153 hta hta2 htb htb2 htab hto hto2 hkk ht1 ht2)) (fun _ _ => cwV 2 hts (tb_good (tb_cons wm399 (tb_cons wm400 (tb_cons wm401 (tb_cons wm7 k_Cd_find))))) rfl rfl rfl (by decide +kernel) ⟨by rw [hRf]; exact Nat.le_of_ble_eq_true rfl, by rw [hRl]; exact Nat.le_of_ble_eq_true rfl⟩) hhc rfl bl_1 bl_2 rfl (Nat.le_of_ble_eq_true rfl) d_Ca_setProduct_46) (fun r_244 G_241 B_242 p_243 => ?_)
      obtain ⟨e_248, V_245, s_246, k_247, g_250, g_251, g_252, g_253, f_249⟩ := p_243
      subst e_248
      have lt_254 : Nat.gcd p1.natAbs p2.natAbs < 1000000000 ^ (k1 + k2) := lb_gcd lt_239 lt_240
      have f_255 : G_241 hk = some (30, .inr (0, [.ref hd, .ref hc, .ref (ad 5), .ref (ad 6), .ref (ad 7), .ref (ad 8), .ref (ad 9), .ref (ad 10)])) := s_246.2.2 _ _ hhk (show ¬ (30 < 5 ∨ 30 = 19) by decide)
      have f_256 : G_241 hd = some (30, .inr (2, [.ref (ad 0), .ref (ad 1), .ref (ad 2)])) := s_246.2.2 _ _ hhd (show ¬ (30 < 5 ∨ 30 = 19) by decide)
      have f_257 : G_241 hf = some (to, .inr (3, [.int sf, .ref (ad ta), .ref (ad tb)])) := s_246.2.2 _ _ hhf (sc_154 hta hta2 htb htb2 htab hto hto2 hkk ht1 ht2)
      have f_258 : G_241 h1 = some (t1, .inr (3, [.int (sgI p1), .ref a1, .ref b1])) := s_246.2.2 _ _ hh1 (sc_155 hta hta2 htb htb2 htab hto hto2 hkk ht1 ht2)
      have f_259 : G_241 h2 = some (t2, .inr (3, [.int (sgI p2), .ref a2, .ref b2])) := s_246.2.2 _ _ hh2 (sc_156 hta hta2 htb htb2 htab hto hto2 hkk ht1 ht2)
      have rd_260 := rd_fr hra1 s_246.2.2 (sc_157 hta hta2 htb htb2 htab hto hto2 hkk ht1 ht2)
      have rd_261 := rd_fr hrb1 s_246.2.2 (sc_157 hta hta2 htb htb2 htab hto hto2 hkk ht1 ht2)
      have rd_262 := rd_fr hra2 s_246.2.2 (sc_157 hta hta2 htb htb2 htab hto hto2 hkk ht1 ht2)
      have rd_263 := rd_fr hrb2 s_246.2.2 (sc_157 hta hta2 htb htb2 htab hto hto2 hkk ht1 ht2)
      have W_264 := s_246.1
      have S_265 : w2s cA X ad (fun x => x < 11 ∨ x = 19 ∨ x = ta ∨ x = tb ∨ x = to) G V V_245 (G_241, B_242) := w2s_mono (w2s_tr hS0 s_246) (sc_158 hta hta2 htb htb2 htab hto hto2 hkk ht1 ht2)
      have bl_266 : B_242.1 ≤ MC := Nat.le_trans (w2_le W_264).1 hX1
      have bl_267 : B_242.2 ≤ MS := Nat.le_trans (w2_le W_264).2 hX2
      rw [← hg1] at k_247 lt_254
      refine gst (pc' := 51) (L' := [(7, .ref (ad 3)), (6, .ref a2), (5, .ref b2), (0, .ref hk), (1, .ref hf), (2, .ref h1), (3, .ref h2), (4, .int tu)]) (fun _ _ _ _ _ hl => lv_astore hx hb d_Ca_setProduct_49 hl (by decide) rfl) ?_
      refine gs (pc' := 52) (fun _ _ _ _ _ hl => lv_aload_n hx hb d_Ca_setProduct_51 rfl (lv_at hl 3 rfl)) ?_
      refine gs (pc' := 53) (fun _ _ _ _ _ hl => lv_aload_n hx hb d_Ca_setProduct_52 rfl (lv_at hl 3 rfl)) ?_
      refine g_get hx hb hts hin_Ca hown hK f_255 rfl 3 (by decide) (hts _ wm133) (fun _ h9 => h9) rfl d_Ca_setProduct_53 ?_
      refine gs (pc' := 57) (fun _ _ _ _ _ hl => lv_aload_n hx hb d_Ca_setProduct_56 rfl (lv_at hl 5 rfl)) ?_
      refine g_get hx hb hts hin_Fr hown hK f_258 rfl 1 (by decide) (hts _ wm167) (fun _ h9 => h9) rfl d_Ca_setProduct_57 ?_
      refine gs (pc' := 62) (fun _ _ _ _ _ hl => lv_aload hx hb d_Ca_setProduct_60 (lv_at hl 0 rfl)) ?_
      refine g_outv hlo (g_runV (As := [.ref (ad 6), .ref a1, .ref (ad 3)]) (rest := []) ⟨hx, hb, hml, hown, hts⟩ hK hZ hRc hRs (n_setQuotient l D cA lo MC MS G_241 B_242 X ad V_245 W_264 hX1 hX2 hk hd hc f_255 f_256 (cdO_i f_249) 6 (by decide) (by decide) a1 p1.natAbs (ad 3) g1 k1 (rd_mono (P1 := fun x => 3 ≤ x) rd_260 (sc_159 hta hta2 htb htb2 htab hto hto2 hkk ht1 ht2)) (rd_w2' (P := fun x => 3 ≤ x) W_264 (by decide) (by decide) k_247) hp1 (sc_160 hta hta2 htb htb2 htab hto hto2 hkk ht1 ht2) hg10) (fun _ _ => cwV 3 hts (tb_good (tb_cons wm489 (tb_cons wm491 (tb_cons ws9 (tb_cons wm3 k_Ca_setQuotient))))) rfl rfl rfl (by decide +kernel) ⟨by rw [hRf]; exact Nat.le_of_ble_eq_true rfl, by rw [hRl]; exact Nat.le_of_ble_eq_true rfl⟩) f_255 rfl bl_266 bl_267 rfl (Nat.le_of_ble_eq_true rfl) d_Ca_setProduct_62) (fun G_268 B_269 p_270 => ?_)
      obtain ⟨V_271, s_272, k_273⟩ := p_270
      have lt_274 : p1.natAbs / g1 < 1000000000 ^ k1 := Nat.lt_of_le_of_lt (Nat.div_le_self _ _) hp1
      have f_275 : G_268 hk = some (30, .inr (0, [.ref hd, .ref hc, .ref (ad 5), .ref (ad 6), .ref (ad 7), .ref (ad 8), .ref (ad 9), .ref (ad 10)])) := s_272.2.2 _ _ f_255 (show ¬ (30 < 3 ∨ 30 = 6) by decide)
      have f_276 : G_268 hd = some (30, .inr (2, [.ref (ad 0), .ref (ad 1), .ref (ad 2)])) := s_272.2.2 _ _ f_256 (show ¬ (30 < 3 ∨ 30 = 6) by decide)
      have f_277 : G_268 hf = some (to, .inr (3, [.int sf, .ref (ad ta), .ref (ad tb)])) := s_272.2.2 _ _ f_257 (sc_161 hta hta2 htb htb2 htab hto hto2 hkk ht1 ht2)
      have f_278 : G_268 h1 = some (t1, .inr (3, [.int (sgI p1), .ref a1, .ref b1])) := s_272.2.2 _ _ f_258 (sc_162 hta hta2 htb htb2 htab hto hto2 hkk ht1 ht2)
      have f_279 : G_268 h2 = some (t2, .inr (3, [.int (sgI p2), .ref a2, .ref b2])) := s_272.2.2 _ _ f_259 (sc_163 hta hta2 htb htb2 htab hto hto2 hkk ht1 ht2)
      have f_280 : G_268 hc = some (19, .inr (1, [.ref hd, .ref (ad 3), .ref (ad 4), .long g_250, .long g_251, .long g_252, .long g_253])) := s_272.2.2 _ _ f_249 (show ¬ (19 < 3 ∨ 19 = 6) by decide)
      have k_281 : V_271 3 = g1 := (s_272.2.1 3 (show ¬ (3 < 3 ∨ 3 = 6) by decide)).trans k_247
      have rd_282 := rd_fr rd_260 s_272.2.2 (sc_164 hta hta2 htb htb2 htab hto hto2 hkk ht1 ht2)
      have rd_283 := rd_fr rd_261 s_272.2.2 (sc_164 hta hta2 htb htb2 htab hto hto2 hkk ht1 ht2)
      have rd_284 := rd_fr rd_262 s_272.2.2 (sc_164 hta hta2 htb htb2 htab hto hto2 hkk ht1 ht2)
      have rd_285 := rd_fr rd_263 s_272.2.2 (sc_164 hta hta2 htb htb2 htab hto hto2 hkk ht1 ht2)
      have W_286 := s_272.1
      have S_287 : w2s cA X ad (fun x => x < 11 ∨ x = 19 ∨ x = ta ∨ x = tb ∨ x = to) G V V_271 (G_268, B_269) := w2s_mono (w2s_tr S_265 s_272) (sc_165 hta hta2 htb htb2 htab hto hto2 hkk ht1 ht2)
      have bl_288 : B_269.1 ≤ MC := Nat.le_trans (w2_le W_286).1 hX1
      have bl_289 : B_269.2 ≤ MS := Nat.le_trans (w2_le W_286).2 hX2
      refine gs (pc' := 66) (fun _ _ _ _ _ hl => lv_aload_n hx hb d_Ca_setProduct_65 rfl (lv_at hl 3 rfl)) ?_
      refine gs (pc' := 67) (fun _ _ _ _ _ hl => lv_aload_n hx hb d_Ca_setProduct_66 rfl (lv_at hl 3 rfl)) ?_
      refine g_get hx hb hts hin_Ca hown hK f_275 rfl 6 (by decide) (hts _ wm136) (fun _ h9 => h9) rfl d_Ca_setProduct_67 ?_
      refine gs (pc' := 72) (fun _ _ _ _ _ hl => lv_aload hx hb d_Ca_setProduct_70 (lv_at hl 1 rfl)) ?_
      refine gs (pc' := 74) (fun _ _ _ _ _ hl => lv_aload hx hb d_Ca_setProduct_72 (lv_at hl 0 rfl)) ?_
      refine g_outv hlo (g_runV (As := [.ref (ad 9), .ref a2, .ref (ad 3)]) (rest := []) ⟨hx, hb, hml, hown, hts⟩ hK hZ hRc hRs (n_setQuotient l D cA lo MC MS G_268 B_269 X ad V_271 W_286 hX1 hX2 hk hd hc f_275 f_276 (cdO_i f_280) 9 (by decide) (by decide) a2 p2.natAbs (ad 3) g1 k2 (rd_mono (P1 := fun x => 3 ≤ x) rd_284 (sc_159 hta hta2 htb htb2 htab hto hto2 hkk ht1 ht2)) (rd_w2' (P := fun x => 3 ≤ x) W_286 (by decide) (by decide) k_281) hp2 (sc_166 hta hta2 htb htb2 htab hto hto2 hkk ht1 ht2) hg10) (fun _ _ => cwV 3 hts (tb_good (tb_cons wm489 (tb_cons wm491 (tb_cons ws9 (tb_cons wm3 k_Ca_setQuotient))))) rfl rfl rfl (by decide +kernel) ⟨by rw [hRf]; exact Nat.le_of_ble_eq_true rfl, by rw [hRl]; exact Nat.le_of_ble_eq_true rfl⟩) f_275 rfl bl_288 bl_289 rfl (Nat.le_of_ble_eq_true rfl) d_Ca_setProduct_74) (fun G_290 B_291 p_292 => ?_)
      obtain ⟨V_293, s_294, k_295⟩ := p_292
      have lt_296 : p2.natAbs / g1 < 1000000000 ^ k2 := Nat.lt_of_le_of_lt (Nat.div_le_self _ _) hp2
      have f_297 : G_290 hk = some (30, .inr (0, [.ref hd, .ref hc, .ref (ad 5), .ref (ad 6), .ref (ad 7), .ref (ad 8), .ref (ad 9), .ref (ad 10)])) := s_294.2.2 _ _ f_275 (show ¬ (30 < 3 ∨ 30 = 9) by decide)
      have f_298 : G_290 hd = some (30, .inr (2, [.ref (ad 0), .ref (ad 1), .ref (ad 2)])) := s_294.2.2 _ _ f_276 (show ¬ (30 < 3 ∨ 30 = 9) by decide)
      have f_299 : G_290 hf = some (to, .inr (3, [.int sf, .ref (ad ta), .ref (ad tb)])) := s_294.2.2 _ _ f_277 (sc_167 hta hta2 htb htb2 htab hto hto2 hkk ht1 ht2)
      have f_300 : G_290 h1 = some (t1, .inr (3, [.int (sgI p1), .ref a1, .ref b1])) := s_294.2.2 _ _ f_278 (sc_168 hta hta2 htb htb2 htab hto hto2 hkk ht1 ht2)
      have f_301 : G_290 h2 = some (t2, .inr (3, [.int (sgI p2), .ref a2, .ref b2])) := s_294.2.2 _ _ f_279 (sc_169 hta hta2 htb htb2 htab hto hto2 hkk ht1 ht2)
      have f_302 : G_290 hc = some (19, .inr (1, [.ref hd, .ref (ad 3), .ref (ad 4), .long g_250, .long g_251, .long g_252, .long g_253])) := s_294.2.2 _ _ f_280 (show ¬ (19 < 3 ∨ 19 = 9) by decide)
      have k_303 : V_293 3 = g1 := (s_294.2.1 3 (show ¬ (3 < 3 ∨ 3 = 9) by decide)).trans k_281
      have k_304 : V_293 6 = p1.natAbs / g1 := (s_294.2.1 6 (show ¬ (6 < 3 ∨ 6 = 9) by decide)).trans k_273
      have rd_305 := rd_fr rd_282 s_294.2.2 (sc_170 hta hta2 htb htb2 htab hto hto2 hkk ht1 ht2)
      have rd_306 := rd_fr rd_283 s_294.2.2 (sc_170 hta hta2 htb htb2 htab hto hto2 hkk ht1 ht2)
      have rd_307 := rd_fr rd_284 s_294.2.2 (sc_170 hta hta2 htb htb2 htab hto hto2 hkk ht1 ht2)
      have rd_308 := rd_fr rd_285 s_294.2.2 (sc_170 hta hta2 htb htb2 htab hto hto2 hkk ht1 ht2)
      have W_309 := s_294.1
      have S_310 : w2s cA X ad (fun x => x < 11 ∨ x = 19 ∨ x = ta ∨ x = tb ∨ x = to) G V V_293 (G_290, B_291) := w2s_mono (w2s_tr S_287 s_294) (sc_171 hta hta2 htb htb2 htab hto hto2 hkk ht1 ht2)
      have bl_311 : B_291.1 ≤ MC := Nat.le_trans (w2_le W_309).1 hX1
      have bl_312 : B_291.2 ≤ MS := Nat.le_trans (w2_le W_309).2 hX2
      refine gs (pc' := 78) (fun _ _ _ _ _ hl => lv_aload_n hx hb d_Ca_setProduct_77 rfl (lv_at hl 3 rfl)) ?_
      refine g_get hx hb hts hin_Ca hown hK f_297 rfl 1 (by decide) (hts _ wm131) (fun _ h9 => h9) rfl d_Ca_setProduct_78 ?_
      refine gs (pc' := 83) (fun _ _ _ _ _ hl => lv_aload hx hb d_Ca_setProduct_81 (lv_at hl 2 rfl)) ?_
      refine gs (pc' := 84) (fun _ _ _ _ _ hl => lv_aload_n hx hb d_Ca_setProduct_83 rfl (lv_at hl 5 rfl)) ?_
      refine g_get hx hb hts hin_Fr hown hK f_300 rfl 2 (by decide) (hts _ wm170) (fun _ h9 => h9) rfl d_Ca_setProduct_84 ?_
      have lt_313 : q2 < 1000000000 ^ (k1 + k2) := lb_up hq2 (sc_152 hta hta2 htb htb2 htab hto hto2 hkk ht1 ht2)
      have lt_314 : q1 < 1000000000 ^ (k1 + k2) := lb_up hq1 (sc_151 hta hta2 htb htb2 htab hto hto2 hkk ht1 ht2)
      refine g_outr hlo (g_runV (As := [.ref b2, .ref b1]) (rest := []) ⟨hx, hb, hml, hown, hts⟩ hK hZ hRc hRs (n_find l D cA lo MC MS G_290 B_291 X ad V_293 W_309 hX1 hX2 hd hc g_250 g_251 g_252 g_253 f_302 f_298 b2 q2 b1 q1 (k1 + k2) (rd_mono (P1 := fun x => 5 ≤ x ∧ ¬ x = 19) rd_308 (sc_150 hta hta2 htb htb2 htab hto hto2 hkk ht1 ht2)) (rd_mono (P1 := fun x => 5 ≤ x ∧ ¬ x = 19) rd_306 (sc_150 hta hta2 htb htb2 htab hto hto2 hkk ht1 ht2)) lt_313 lt_314 (sc_153 hta hta2 htb htb2 htab hto hto2 hkk ht1 ht2)) (fun _ _ => cwV 2 hts (tb_good (tb_cons wm399 (tb_cons wm400 (tb_cons wm401 (tb_cons wm7 k_Cd_find))))) rfl rfl rfl (by decide +kernel) ⟨by rw [hRf]; exact Nat.le_of_ble_eq_true rfl, by rw [hRl]; exact Nat.le_of_ble_eq_true rfl⟩) f_302 rfl bl_311 bl_312 rfl (Nat.le_of_ble_eq_true rfl) d_Ca_setProduct_87) (fun r_318 G_315 B_316 p_317 => ?_)
      obtain ⟨e_322, V_319, s_320, k_321, g_324, g_325, g_326, g_327, f_323⟩ := p_317
      subst e_322
      have lt_328 : Nat.gcd q2 q1 < 1000000000 ^ (k1 + k2) := lb_gcd lt_313 lt_314
      have f_329 : G_315 hk = some (30, .inr (0, [.ref hd, .ref hc, .ref (ad 5), .ref (ad 6), .ref (ad 7), .ref (ad 8), .ref (ad 9), .ref (ad 10)])) := s_320.2.2 _ _ f_297 (show ¬ (30 < 5 ∨ 30 = 19) by decide)
      have f_330 : G_315 hd = some (30, .inr (2, [.ref (ad 0), .ref (ad 1), .ref (ad 2)])) := s_320.2.2 _ _ f_298 (show ¬ (30 < 5 ∨ 30 = 19) by decide)
      have f_331 : G_315 hf = some (to, .inr (3, [.int sf, .ref (ad ta), .ref (ad tb)])) := s_320.2.2 _ _ f_299 (sc_154 hta hta2 htb htb2 htab hto hto2 hkk ht1 ht2)
      have f_332 : G_315 h1 = some (t1, .inr (3, [.int (sgI p1), .ref a1, .ref b1])) := s_320.2.2 _ _ f_300 (sc_155 hta hta2 htb htb2 htab hto hto2 hkk ht1 ht2)
      have f_333 : G_315 h2 = some (t2, .inr (3, [.int (sgI p2), .ref a2, .ref b2])) := s_320.2.2 _ _ f_301 (sc_156 hta hta2 htb htb2 htab hto hto2 hkk ht1 ht2)
      have k_334 : V_319 6 = p1.natAbs / g1 := (s_320.2.1 6 (show ¬ (6 < 5 ∨ 6 = 19) by decide)).trans k_304
      have k_335 : V_319 9 = p2.natAbs / g1 := (s_320.2.1 9 (show ¬ (9 < 5 ∨ 9 = 19) by decide)).trans k_295
      have rd_336 := rd_fr rd_305 s_320.2.2 (sc_157 hta hta2 htb htb2 htab hto hto2 hkk ht1 ht2)
      have rd_337 := rd_fr rd_306 s_320.2.2 (sc_157 hta hta2 htb htb2 htab hto hto2 hkk ht1 ht2)
      have rd_338 := rd_fr rd_307 s_320.2.2 (sc_157 hta hta2 htb htb2 htab hto hto2 hkk ht1 ht2)
      have rd_339 := rd_fr rd_308 s_320.2.2 (sc_157 hta hta2 htb htb2 htab hto hto2 hkk ht1 ht2)
      have W_340 := s_320.1
      have S_341 : w2s cA X ad (fun x => x < 11 ∨ x = 19 ∨ x = ta ∨ x = tb ∨ x = to) G V V_319 (G_315, B_316) := w2s_mono (w2s_tr S_310 s_320) (sc_158 hta hta2 htb htb2 htab hto hto2 hkk ht1 ht2)
      have bl_342 : B_316.1 ≤ MC := Nat.le_trans (w2_le W_340).1 hX1
      have bl_343 : B_316.2 ≤ MS := Nat.le_trans (w2_le W_340).2 hX2
      rw [← hg2] at k_321 lt_328
      refine gst (pc' := 92) (L' := [(7, .ref (ad 3)), (6, .ref a2), (5, .ref b2), (0, .ref hk), (1, .ref hf), (2, .ref h1), (3, .ref h2), (4, .int tu)]) (fun _ _ _ _ _ hl => lv_astore hx hb d_Ca_setProduct_90 hl (by decide) rfl) ?_
      refine gs (pc' := 93) (fun _ _ _ _ _ hl => lv_aload_n hx hb d_Ca_setProduct_92 rfl (lv_at hl 3 rfl)) ?_
      refine gs (pc' := 94) (fun _ _ _ _ _ hl => lv_aload_n hx hb d_Ca_setProduct_93 rfl (lv_at hl 3 rfl)) ?_
      refine g_get hx hb hts hin_Ca hown hK f_329 rfl 5 (by decide) (hts _ wm135) (fun _ h9 => h9) rfl d_Ca_setProduct_94 ?_
      refine gs (pc' := 99) (fun _ _ _ _ _ hl => lv_aload hx hb d_Ca_setProduct_97 (lv_at hl 2 rfl)) ?_
      refine gs (pc' := 101) (fun _ _ _ _ _ hl => lv_aload hx hb d_Ca_setProduct_99 (lv_at hl 0 rfl)) ?_
      refine g_outv hlo (g_runV (As := [.ref (ad 8), .ref b2, .ref (ad 3)]) (rest := []) ⟨hx, hb, hml, hown, hts⟩ hK hZ hRc hRs (n_setQuotient l D cA lo MC MS G_315 B_316 X ad V_319 W_340 hX1 hX2 hk hd hc f_329 f_330 (cdO_i f_323) 8 (by decide) (by decide) b2 q2 (ad 3) g2 k2 (rd_mono (P1 := fun x => 3 ≤ x) rd_339 (sc_159 hta hta2 htb htb2 htab hto hto2 hkk ht1 ht2)) (rd_w2' (P := fun x => 3 ≤ x) W_340 (by decide) (by decide) k_321) hq2 (sc_166 hta hta2 htb htb2 htab hto hto2 hkk ht1 ht2) hg20) (fun _ _ => cwV 3 hts (tb_good (tb_cons wm489 (tb_cons wm491 (tb_cons ws9 (tb_cons wm3 k_Ca_setQuotient))))) rfl rfl rfl (by decide +kernel) ⟨by rw [hRf]; exact Nat.le_of_ble_eq_true rfl, by rw [hRl]; exact Nat.le_of_ble_eq_true rfl⟩) f_329 rfl bl_342 bl_343 rfl (Nat.le_of_ble_eq_true rfl) d_Ca_setProduct_101) (fun G_344 B_345 p_346 => ?_)
      obtain ⟨V_347, s_348, k_349⟩ := p_346
      have lt_350 : q2 / g2 < 1000000000 ^ k2 := Nat.lt_of_le_of_lt (Nat.div_le_self _ _) hq2
      have f_351 : G_344 hk = some (30, .inr (0, [.ref hd, .ref hc, .ref (ad 5), .ref (ad 6), .ref (ad 7), .ref (ad 8), .ref (ad 9), .ref (ad 10)])) := s_348.2.2 _ _ f_329 (show ¬ (30 < 3 ∨ 30 = 8) by decide)
      have f_352 : G_344 hd = some (30, .inr (2, [.ref (ad 0), .ref (ad 1), .ref (ad 2)])) := s_348.2.2 _ _ f_330 (show ¬ (30 < 3 ∨ 30 = 8) by decide)
      have f_353 : G_344 hf = some (to, .inr (3, [.int sf, .ref (ad ta), .ref (ad tb)])) := s_348.2.2 _ _ f_331 (sc_172 hta hta2 htb htb2 htab hto hto2 hkk ht1 ht2)
      have f_354 : G_344 h1 = some (t1, .inr (3, [.int (sgI p1), .ref a1, .ref b1])) := s_348.2.2 _ _ f_332 (sc_173 hta hta2 htb htb2 htab hto hto2 hkk ht1 ht2)
      have f_355 : G_344 h2 = some (t2, .inr (3, [.int (sgI p2), .ref a2, .ref b2])) := s_348.2.2 _ _ f_333 (sc_174 hta hta2 htb htb2 htab hto hto2 hkk ht1 ht2)
      have f_356 : G_344 hc = some (19, .inr (1, [.ref hd, .ref (ad 3), .ref (ad 4), .long g_324, .long g_325, .long g_326, .long g_327])) := s_348.2.2 _ _ f_323 (show ¬ (19 < 3 ∨ 19 = 8) by decide)
      have k_357 : V_347 6 = p1.natAbs / g1 := (s_348.2.1 6 (show ¬ (6 < 3 ∨ 6 = 8) by decide)).trans k_334
      have k_358 : V_347 9 = p2.natAbs / g1 := (s_348.2.1 9 (show ¬ (9 < 3 ∨ 9 = 8) by decide)).trans k_335
      have k_359 : V_347 3 = g2 := (s_348.2.1 3 (show ¬ (3 < 3 ∨ 3 = 8) by decide)).trans k_321
      have rd_360 := rd_fr rd_336 s_348.2.2 (sc_175 hta hta2 htb htb2 htab hto hto2 hkk ht1 ht2)
      have rd_361 := rd_fr rd_337 s_348.2.2 (sc_175 hta hta2 htb htb2 htab hto hto2 hkk ht1 ht2)
      have rd_362 := rd_fr rd_338 s_348.2.2 (sc_175 hta hta2 htb htb2 htab hto hto2 hkk ht1 ht2)
      have rd_363 := rd_fr rd_339 s_348.2.2 (sc_175 hta hta2 htb htb2 htab hto hto2 hkk ht1 ht2)
      have W_364 := s_348.1
      have S_365 : w2s cA X ad (fun x => x < 11 ∨ x = 19 ∨ x = ta ∨ x = tb ∨ x = to) G V V_347 (G_344, B_345) := w2s_mono (w2s_tr S_341 s_348) (sc_176 hta hta2 htb htb2 htab hto hto2 hkk ht1 ht2)
      have bl_366 : B_345.1 ≤ MC := Nat.le_trans (w2_le W_364).1 hX1
      have bl_367 : B_345.2 ≤ MS := Nat.le_trans (w2_le W_364).2 hX2
      refine gs (pc' := 105) (fun _ _ _ _ _ hl => lv_aload_n hx hb d_Ca_setProduct_104 rfl (lv_at hl 3 rfl)) ?_
      refine gs (pc' := 106) (fun _ _ _ _ _ hl => lv_aload_n hx hb d_Ca_setProduct_105 rfl (lv_at hl 3 rfl)) ?_
      refine g_get hx hb hts hin_Ca hown hK f_351 rfl 4 (by decide) (hts _ wm134) (fun _ h9 => h9) rfl d_Ca_setProduct_106 ?_
      refine gs (pc' := 110) (fun _ _ _ _ _ hl => lv_aload_n hx hb d_Ca_setProduct_109 rfl (lv_at hl 5 rfl)) ?_
      refine g_get hx hb hts hin_Fr hown hK f_354 rfl 2 (by decide) (hts _ wm170) (fun _ h9 => h9) rfl d_Ca_setProduct_110 ?_
      refine gs (pc' := 115) (fun _ _ _ _ _ hl => lv_aload hx hb d_Ca_setProduct_113 (lv_at hl 0 rfl)) ?_
      refine g_outv hlo (g_runV (As := [.ref (ad 7), .ref b1, .ref (ad 3)]) (rest := []) ⟨hx, hb, hml, hown, hts⟩ hK hZ hRc hRs (n_setQuotient l D cA lo MC MS G_344 B_345 X ad V_347 W_364 hX1 hX2 hk hd hc f_351 f_352 (cdO_i f_356) 7 (by decide) (by decide) b1 q1 (ad 3) g2 k1 (rd_mono (P1 := fun x => 3 ≤ x) rd_361 (sc_159 hta hta2 htb htb2 htab hto hto2 hkk ht1 ht2)) (rd_w2' (P := fun x => 3 ≤ x) W_364 (by decide) (by decide) k_359) hq1 (sc_160 hta hta2 htb htb2 htab hto hto2 hkk ht1 ht2) hg20) (fun _ _ => cwV 3 hts (tb_good (tb_cons wm489 (tb_cons wm491 (tb_cons ws9 (tb_cons wm3 k_Ca_setQuotient))))) rfl rfl rfl (by decide +kernel) ⟨by rw [hRf]; exact Nat.le_of_ble_eq_true rfl, by rw [hRl]; exact Nat.le_of_ble_eq_true rfl⟩) f_351 rfl bl_366 bl_367 rfl (Nat.le_of_ble_eq_true rfl) d_Ca_setProduct_115) (fun G_368 B_369 p_370 => ?_)
      obtain ⟨V_371, s_372, k_373⟩ := p_370
      have lt_374 : q1 / g2 < 1000000000 ^ k1 := Nat.lt_of_le_of_lt (Nat.div_le_self _ _) hq1
      have f_375 : G_368 hk = some (30, .inr (0, [.ref hd, .ref hc, .ref (ad 5), .ref (ad 6), .ref (ad 7), .ref (ad 8), .ref (ad 9), .ref (ad 10)])) := s_372.2.2 _ _ f_351 (show ¬ (30 < 3 ∨ 30 = 7) by decide)
      have f_376 : G_368 hd = some (30, .inr (2, [.ref (ad 0), .ref (ad 1), .ref (ad 2)])) := s_372.2.2 _ _ f_352 (show ¬ (30 < 3 ∨ 30 = 7) by decide)
      have f_377 : G_368 hf = some (to, .inr (3, [.int sf, .ref (ad ta), .ref (ad tb)])) := s_372.2.2 _ _ f_353 (sc_177 hta hta2 htb htb2 htab hto hto2 hkk ht1 ht2)
      have f_378 : G_368 h1 = some (t1, .inr (3, [.int (sgI p1), .ref a1, .ref b1])) := s_372.2.2 _ _ f_354 (sc_178 hta hta2 htb htb2 htab hto hto2 hkk ht1 ht2)
      have f_379 : G_368 h2 = some (t2, .inr (3, [.int (sgI p2), .ref a2, .ref b2])) := s_372.2.2 _ _ f_355 (sc_179 hta hta2 htb htb2 htab hto hto2 hkk ht1 ht2)
      have f_380 : G_368 hc = some (19, .inr (1, [.ref hd, .ref (ad 3), .ref (ad 4), .long g_324, .long g_325, .long g_326, .long g_327])) := s_372.2.2 _ _ f_356 (show ¬ (19 < 3 ∨ 19 = 7) by decide)
      have k_381 : V_371 6 = p1.natAbs / g1 := (s_372.2.1 6 (show ¬ (6 < 3 ∨ 6 = 7) by decide)).trans k_357
      have k_382 : V_371 9 = p2.natAbs / g1 := (s_372.2.1 9 (show ¬ (9 < 3 ∨ 9 = 7) by decide)).trans k_358
      have k_383 : V_371 3 = g2 := (s_372.2.1 3 (show ¬ (3 < 3 ∨ 3 = 7) by decide)).trans k_359
      have k_384 : V_371 8 = q2 / g2 := (s_372.2.1 8 (show ¬ (8 < 3 ∨ 8 = 7) by decide)).trans k_349
      have rd_385 := rd_fr rd_360 s_372.2.2 (sc_180 hta hta2 htb htb2 htab hto hto2 hkk ht1 ht2)
      have rd_386 := rd_fr rd_361 s_372.2.2 (sc_180 hta hta2 htb htb2 htab hto hto2 hkk ht1 ht2)
      have rd_387 := rd_fr rd_362 s_372.2.2 (sc_180 hta hta2 htb htb2 htab hto hto2 hkk ht1 ht2)
      have rd_388 := rd_fr rd_363 s_372.2.2 (sc_180 hta hta2 htb htb2 htab hto hto2 hkk ht1 ht2)
      have W_389 := s_372.1
      have S_390 : w2s cA X ad (fun x => x < 11 ∨ x = 19 ∨ x = ta ∨ x = tb ∨ x = to) G V V_371 (G_368, B_369) := w2s_mono (w2s_tr S_365 s_372) (sc_181 hta hta2 htb htb2 htab hto hto2 hkk ht1 ht2)
      have bl_391 : B_369.1 ≤ MC := Nat.le_trans (w2_le W_389).1 hX1
      have bl_392 : B_369.2 ≤ MS := Nat.le_trans (w2_le W_389).2 hX2
      refine gs (pc' := 119) (fun _ _ _ _ _ hl => lv_aload_n hx hb d_Ca_setProduct_118 rfl (lv_at hl 4 rfl)) ?_
      refine gs (pc' := 120) (fun _ _ _ _ _ hl => lv_aload_n hx hb d_Ca_setProduct_119 rfl (lv_at hl 5 rfl)) ?_
      refine g_get hx hb hts hin_Fr hown hK f_378 rfl 0 (by decide) (hts _ wm164) (fun _ h9 => h9) rfl d_Ca_setProduct_120 ?_
      refine gs (pc' := 124) (fun _ _ _ _ _ hl => lv_aload_n hx hb d_Ca_setProduct_123 rfl (lv_at hl 6 rfl)) ?_
      refine g_get hx hb hts hin_Fr hown hK f_379 rfl 0 (by decide) (hts _ wm164) (fun _ h9 => h9) rfl d_Ca_setProduct_124 ?_
      refine gs (pc' := 128) (fun _ _ _ _ _ hl => lv_imul hx hb d_Ca_setProduct_127) ?_
      refine g_eqi (show (sgI p1) * (sgI p2) = sgI (p1 * p2) from sgI_mul p1 p2) ?_
      refine g_put (ty := .int) hx hb hts hin_Fr ty_Fr ty_Fr_ok nm_Fr hown hK f_377 rfl 0 (by decide) (hts _ wm164) (fun _ h9 => h9) rfl (by decide +kernel) rfl rfl (Nat.le_of_ble_eq_true rfl) d_Ca_setProduct_128 (fun G_393 f_394 o_395 => ?_)
      have f_396 : G_393 hf = some (to, .inr (3, [.int (sgI (p1 * p2)), .ref (ad ta), .ref (ad tb)])) := f_394
      have fr_397 : gfr (fun x => x = to) G_368 G_393 := gfr_put gfr_rf f_377 rfl o_395
      have s_398 : w2s cA X ad (fun x => x = to) G_368 V_371 V_371 (G_393, B_369) := ⟨w2_fr W_389 fr_397 (sc_182 hta hta2 htb htb2 htab hto hto2 hkk ht1 ht2), fun _ _ => rfl, fr_397⟩
      have f_399 : G_393 hk = some (30, .inr (0, [.ref hd, .ref hc, .ref (ad 5), .ref (ad 6), .ref (ad 7), .ref (ad 8), .ref (ad 9), .ref (ad 10)])) := s_398.2.2 _ _ f_375 (sc_183 hta hta2 htb htb2 htab hto hto2 hkk ht1 ht2)
      have f_400 : G_393 hd = some (30, .inr (2, [.ref (ad 0), .ref (ad 1), .ref (ad 2)])) := s_398.2.2 _ _ f_376 (sc_183 hta hta2 htb htb2 htab hto hto2 hkk ht1 ht2)
      have f_401 : G_393 h1 = some (t1, .inr (3, [.int (sgI p1), .ref a1, .ref b1])) := s_398.2.2 _ _ f_378 (sc_184 hta hta2 htb htb2 htab hto hto2 hkk ht1 ht2)
      have f_402 : G_393 h2 = some (t2, .inr (3, [.int (sgI p2), .ref a2, .ref b2])) := s_398.2.2 _ _ f_379 (sc_185 hta hta2 htb htb2 htab hto hto2 hkk ht1 ht2)
      have f_403 : G_393 hc = some (19, .inr (1, [.ref hd, .ref (ad 3), .ref (ad 4), .long g_324, .long g_325, .long g_326, .long g_327])) := s_398.2.2 _ _ f_380 (sc_186 hta hta2 htb htb2 htab hto hto2 hkk ht1 ht2)
      have k_404 : V_371 6 = p1.natAbs / g1 := (s_398.2.1 6 (sc_187 hta hta2 htb htb2 htab hto hto2 hkk ht1 ht2)).trans k_381
      have k_405 : V_371 9 = p2.natAbs / g1 := (s_398.2.1 9 (sc_188 hta hta2 htb htb2 htab hto hto2 hkk ht1 ht2)).trans k_382
      have k_406 : V_371 3 = g2 := (s_398.2.1 3 (sc_189 hta hta2 htb htb2 htab hto hto2 hkk ht1 ht2)).trans k_383
      have k_407 : V_371 8 = q2 / g2 := (s_398.2.1 8 (sc_190 hta hta2 htb htb2 htab hto hto2 hkk ht1 ht2)).trans k_384
      have k_408 : V_371 7 = q1 / g2 := (s_398.2.1 7 (sc_191 hta hta2 htb htb2 htab hto hto2 hkk ht1 ht2)).trans k_373
      have rd_409 := rd_fr rd_385 s_398.2.2 (sc_192 hta hta2 htb htb2 htab hto hto2 hkk ht1 ht2)
      have rd_410 := rd_fr rd_386 s_398.2.2 (sc_192 hta hta2 htb htb2 htab hto hto2 hkk ht1 ht2)
      have rd_411 := rd_fr rd_387 s_398.2.2 (sc_192 hta hta2 htb htb2 htab hto hto2 hkk ht1 ht2)
      have rd_412 := rd_fr rd_388 s_398.2.2 (sc_192 hta hta2 htb htb2 htab hto hto2 hkk ht1 ht2)
      have W_413 := s_398.1
      have S_414 : w2s cA X ad (fun x => x < 11 ∨ x = 19 ∨ x = ta ∨ x = tb ∨ x = to) G V V_371 (G_393, B_369) := w2s_mono (w2s_tr S_390 s_398) (sc_193 hta hta2 htb htb2 htab hto hto2 hkk ht1 ht2)
      have bl_415 : B_369.1 ≤ MC := Nat.le_trans (w2_le W_413).1 hX1
      have bl_416 : B_369.2 ≤ MS := Nat.le_trans (w2_le W_413).2 hX2
      refine gs (pc' := 132) (fun _ _ _ _ _ hl => lv_aload_n hx hb d_Ca_setProduct_131 rfl (lv_at hl 4 rfl)) ?_
      refine g_get hx hb hts hin_Fr hown hK f_396 rfl 1 (by decide) (hts _ wm167) (fun _ h9 => h9) rfl d_Ca_setProduct_132 ?_
      refine gs (pc' := 136) (fun _ _ _ _ _ hl => lv_aload_n hx hb d_Ca_setProduct_135 rfl (lv_at hl 3 rfl)) ?_
      refine g_get hx hb hts hin_Ca hown hK f_399 rfl 3 (by decide) (hts _ wm133) (fun _ h9 => h9) rfl d_Ca_setProduct_136 ?_
      refine gs (pc' := 140) (fun _ _ _ _ _ hl => lv_aload_n hx hb d_Ca_setProduct_139 rfl (lv_at hl 3 rfl)) ?_
      refine g_get hx hb hts hin_Ca hown hK f_399 rfl 5 (by decide) (hts _ wm135) (fun _ h9 => h9) rfl d_Ca_setProduct_140 ?_
      obtain ⟨κo_417, ao_417, zo_417, fo_417, hho_417, hao_417, hzo_417, hDo_417, hco_417⟩ := w2_N W_413 (sc_194 hta hta2 htb htb2 htab hto hto2 hkk ht1 ht2)
      have hbo_417 : zo_417 ≤ 3000 := Nat.le_trans hzo_417 hco_417
      refine g_outv hlo (g_runV (As := [.ref (ad 6), .ref (ad 8)]) (rest := []) ⟨hx, hb, hml, hown, hts⟩ hK hZ hRc hRs (n_setProduct l D cA lo MC MS G_393 B_369 X ad V_371 W_413 hX1 hX2 ta (sc_194 hta hta2 htb htb2 htab hto hto2 hkk ht1 ht2) (ad 6) (p1.natAbs / g1) k1 (rd_w2' (P := fun x => ¬ x = ta) W_413 (by decide) (sc_195 hta hta2 htb htb2 htab hto hto2 hkk ht1 ht2) k_404) lt_274 (ad 8) (q2 / g2) k2 (rd_w2' (P := fun x => ¬ x = ta) W_413 (by decide) (sc_196 hta hta2 htb htb2 htab hto hto2 hkk ht1 ht2) k_407) lt_350 (sc_197 hta hta2 htb htb2 htab hto hto2 hkk ht1 ht2)) (fun _ _ => cwV 2 hts (tb_good (tb_cons wm563 (tb_cons wm564 (tb_cons wm565 (tb_cons wm5 k_Na_setProduct))))) rfl rfl rfl (by decide +kernel) ⟨by rw [hRf]; exact Nat.le_of_ble_eq_true rfl, by rw [hRl]; exact Nat.le_of_ble_eq_true rfl⟩) hho_417 rfl bl_415 bl_416 rfl (Nat.le_of_ble_eq_true rfl) d_Ca_setProduct_143) (fun G_418 B_419 p_420 => ?_)
      have lt_421 : (p1.natAbs / g1) * (q2 / g2) < 1000000000 ^ (k1 + k2) := lb_mul lt_274 lt_350
      obtain ⟨V_422, s_423, k_424⟩ := p_420
      have f_425 : G_418 hk = some (30, .inr (0, [.ref hd, .ref hc, .ref (ad 5), .ref (ad 6), .ref (ad 7), .ref (ad 8), .ref (ad 9), .ref (ad 10)])) := s_423.2.2 _ _ f_399 (sc_198 hta hta2 htb htb2 htab hto hto2 hkk ht1 ht2)
      have f_426 : G_418 hd = some (30, .inr (2, [.ref (ad 0), .ref (ad 1), .ref (ad 2)])) := s_423.2.2 _ _ f_400 (sc_198 hta hta2 htb htb2 htab hto hto2 hkk ht1 ht2)
      have f_427 : G_418 h1 = some (t1, .inr (3, [.int (sgI p1), .ref a1, .ref b1])) := s_423.2.2 _ _ f_401 (sc_199 hta hta2 htb htb2 htab hto hto2 hkk ht1 ht2)
      have f_428 : G_418 h2 = some (t2, .inr (3, [.int (sgI p2), .ref a2, .ref b2])) := s_423.2.2 _ _ f_402 (sc_200 hta hta2 htb htb2 htab hto hto2 hkk ht1 ht2)
      have f_429 : G_418 hc = some (19, .inr (1, [.ref hd, .ref (ad 3), .ref (ad 4), .long g_324, .long g_325, .long g_326, .long g_327])) := s_423.2.2 _ _ f_403 (sc_201 hta hta2 htb htb2 htab hto hto2 hkk ht1 ht2)
      have f_430 : G_418 hf = some (to, .inr (3, [.int (sgI (p1 * p2)), .ref (ad ta), .ref (ad tb)])) := s_423.2.2 _ _ f_396 (sc_202 hta hta2 htb htb2 htab hto hto2 hkk ht1 ht2)
      have k_431 : V_422 6 = p1.natAbs / g1 := (s_423.2.1 6 (sc_203 hta hta2 htb htb2 htab hto hto2 hkk ht1 ht2)).trans k_404
      have k_432 : V_422 9 = p2.natAbs / g1 := (s_423.2.1 9 (sc_204 hta hta2 htb htb2 htab hto hto2 hkk ht1 ht2)).trans k_405
      have k_433 : V_422 3 = g2 := (s_423.2.1 3 (sc_205 hta hta2 htb htb2 htab hto hto2 hkk ht1 ht2)).trans k_406
      have k_434 : V_422 8 = q2 / g2 := (s_423.2.1 8 (sc_206 hta hta2 htb htb2 htab hto hto2 hkk ht1 ht2)).trans k_407
      have k_435 : V_422 7 = q1 / g2 := (s_423.2.1 7 (sc_207 hta hta2 htb htb2 htab hto hto2 hkk ht1 ht2)).trans k_408
      have rd_436 := rd_fr rd_409 s_423.2.2 (sc_208 hta hta2 htb htb2 htab hto hto2 hkk ht1 ht2)
      have rd_437 := rd_fr rd_410 s_423.2.2 (sc_208 hta hta2 htb htb2 htab hto hto2 hkk ht1 ht2)
      have rd_438 := rd_fr rd_411 s_423.2.2 (sc_208 hta hta2 htb htb2 htab hto hto2 hkk ht1 ht2)
      have rd_439 := rd_fr rd_412 s_423.2.2 (sc_208 hta hta2 htb htb2 htab hto hto2 hkk ht1 ht2)
      have W_440 := s_423.1
      have S_441 : w2s cA X ad (fun x => x < 11 ∨ x = 19 ∨ x = ta ∨ x = tb ∨ x = to) G V V_422 (G_418, B_419) := w2s_mono (w2s_tr S_414 s_423) (sc_209 hta hta2 htb htb2 htab hto hto2 hkk ht1 ht2)
      have bl_442 : B_419.1 ≤ MC := Nat.le_trans (w2_le W_440).1 hX1
      have bl_443 : B_419.2 ≤ MS := Nat.le_trans (w2_le W_440).2 hX2
      refine gs (pc' := 147) (fun _ _ _ _ _ hl => lv_aload_n hx hb d_Ca_setProduct_146 rfl (lv_at hl 4 rfl)) ?_
      refine g_get hx hb hts hin_Fr hown hK f_430 rfl 2 (by decide) (hts _ wm170) (fun _ h9 => h9) rfl d_Ca_setProduct_147 ?_
      refine gs (pc' := 151) (fun _ _ _ _ _ hl => lv_aload_n hx hb d_Ca_setProduct_150 rfl (lv_at hl 3 rfl)) ?_
      refine g_get hx hb hts hin_Ca hown hK f_425 rfl 4 (by decide) (hts _ wm134) (fun _ h9 => h9) rfl d_Ca_setProduct_151 ?_
      refine gs (pc' := 155) (fun _ _ _ _ _ hl => lv_aload_n hx hb d_Ca_setProduct_154 rfl (lv_at hl 3 rfl)) ?_
      refine g_get hx hb hts hin_Ca hown hK f_425 rfl 6 (by decide) (hts _ wm136) (fun _ h9 => h9) rfl d_Ca_setProduct_155 ?_
      obtain ⟨κo_444, ao_444, zo_444, fo_444, hho_444, hao_444, hzo_444, hDo_444, hco_444⟩ := w2_N W_440 (sc_210 hta hta2 htb htb2 htab hto hto2 hkk ht1 ht2)
      have hbo_444 : zo_444 ≤ 3000 := Nat.le_trans hzo_444 hco_444
      refine g_outv hlo (g_runV (As := [.ref (ad 7), .ref (ad 9)]) (rest := []) ⟨hx, hb, hml, hown, hts⟩ hK hZ hRc hRs (n_setProduct l D cA lo MC MS G_418 B_419 X ad V_422 W_440 hX1 hX2 tb (sc_210 hta hta2 htb htb2 htab hto hto2 hkk ht1 ht2) (ad 7) (q1 / g2) k1 (rd_w2' (P := fun x => ¬ x = tb) W_440 (by decide) (sc_211 hta hta2 htb htb2 htab hto hto2 hkk ht1 ht2) k_435) lt_374 (ad 9) (p2.natAbs / g1) k2 (rd_w2' (P := fun x => ¬ x = tb) W_440 (by decide) (sc_212 hta hta2 htb htb2 htab hto hto2 hkk ht1 ht2) k_432) lt_296 (sc_197 hta hta2 htb htb2 htab hto hto2 hkk ht1 ht2)) (fun _ _ => cwV 2 hts (tb_good (tb_cons wm563 (tb_cons wm564 (tb_cons wm565 (tb_cons wm5 k_Na_setProduct))))) rfl rfl rfl (by decide +kernel) ⟨by rw [hRf]; exact Nat.le_of_ble_eq_true rfl, by rw [hRl]; exact Nat.le_of_ble_eq_true rfl⟩) hho_444 rfl bl_442 bl_443 rfl (Nat.le_of_ble_eq_true rfl) d_Ca_setProduct_158) (fun G_445 B_446 p_447 => ?_)
      have lt_448 : (q1 / g2) * (p2.natAbs / g1) < 1000000000 ^ (k1 + k2) := lb_mul lt_374 lt_296
      obtain ⟨V_449, s_450, k_451⟩ := p_447
      have f_452 : G_445 hk = some (30, .inr (0, [.ref hd, .ref hc, .ref (ad 5), .ref (ad 6), .ref (ad 7), .ref (ad 8), .ref (ad 9), .ref (ad 10)])) := s_450.2.2 _ _ f_425 (sc_213 hta hta2 htb htb2 htab hto hto2 hkk ht1 ht2)
      have f_453 : G_445 hd = some (30, .inr (2, [.ref (ad 0), .ref (ad 1), .ref (ad 2)])) := s_450.2.2 _ _ f_426 (sc_213 hta hta2 htb htb2 htab hto hto2 hkk ht1 ht2)
      have f_454 : G_445 h1 = some (t1, .inr (3, [.int (sgI p1), .ref a1, .ref b1])) := s_450.2.2 _ _ f_427 (sc_214 hta hta2 htb htb2 htab hto hto2 hkk ht1 ht2)
      have f_455 : G_445 h2 = some (t2, .inr (3, [.int (sgI p2), .ref a2, .ref b2])) := s_450.2.2 _ _ f_428 (sc_215 hta hta2 htb htb2 htab hto hto2 hkk ht1 ht2)
      have f_456 : G_445 hc = some (19, .inr (1, [.ref hd, .ref (ad 3), .ref (ad 4), .long g_324, .long g_325, .long g_326, .long g_327])) := s_450.2.2 _ _ f_429 (sc_216 hta hta2 htb htb2 htab hto hto2 hkk ht1 ht2)
      have f_457 : G_445 hf = some (to, .inr (3, [.int (sgI (p1 * p2)), .ref (ad ta), .ref (ad tb)])) := s_450.2.2 _ _ f_430 (sc_217 hta hta2 htb htb2 htab hto hto2 hkk ht1 ht2)
      have k_458 : V_449 6 = p1.natAbs / g1 := (s_450.2.1 6 (sc_218 hta hta2 htb htb2 htab hto hto2 hkk ht1 ht2)).trans k_431
      have k_459 : V_449 9 = p2.natAbs / g1 := (s_450.2.1 9 (sc_219 hta hta2 htb htb2 htab hto hto2 hkk ht1 ht2)).trans k_432
      have k_460 : V_449 3 = g2 := (s_450.2.1 3 (sc_220 hta hta2 htb htb2 htab hto hto2 hkk ht1 ht2)).trans k_433
      have k_461 : V_449 8 = q2 / g2 := (s_450.2.1 8 (sc_221 hta hta2 htb htb2 htab hto hto2 hkk ht1 ht2)).trans k_434
      have k_462 : V_449 7 = q1 / g2 := (s_450.2.1 7 (sc_222 hta hta2 htb htb2 htab hto hto2 hkk ht1 ht2)).trans k_435
      have k_463 : V_449 ta = (p1.natAbs / g1) * (q2 / g2) := (s_450.2.1 ta (sc_223 hta hta2 htb htb2 htab hto hto2 hkk ht1 ht2)).trans k_424
      have rd_464 := rd_fr rd_436 s_450.2.2 (sc_224 hta hta2 htb htb2 htab hto hto2 hkk ht1 ht2)
      have rd_465 := rd_fr rd_437 s_450.2.2 (sc_224 hta hta2 htb htb2 htab hto hto2 hkk ht1 ht2)
      have rd_466 := rd_fr rd_438 s_450.2.2 (sc_224 hta hta2 htb htb2 htab hto hto2 hkk ht1 ht2)
      have rd_467 := rd_fr rd_439 s_450.2.2 (sc_224 hta hta2 htb htb2 htab hto hto2 hkk ht1 ht2)
      have W_468 := s_450.1
      have S_469 : w2s cA X ad (fun x => x < 11 ∨ x = 19 ∨ x = ta ∨ x = tb ∨ x = to) G V V_449 (G_445, B_446) := w2s_mono (w2s_tr S_441 s_450) (sc_225 hta hta2 htb htb2 htab hto hto2 hkk ht1 ht2)
      have bl_470 : B_446.1 ≤ MC := Nat.le_trans (w2_le W_468).1 hX1
      have bl_471 : B_446.2 ≤ MS := Nat.le_trans (w2_le W_468).2 hX2
      have hfm := fr_mul (n1 := p1.natAbs) (d1 := q1) (n2 := q2) (d2 := p2.natAbs) hq01 hd0 hco1 hco hg1 hg2
      have hp20 : p2 ≠ 0 := by omega
      have hna : (p1 * (p2.sign * q2)).natAbs = p1.natAbs * q2 := by rw [Int.natAbs_mul, sgn_abs (fun z => absurd z hp20)]
      have hsg : sgI (p1 * p2) = sgI (frn (p1 * (p2.sign * q2)) (q1 * p2.natAbs)) := by rw [frn_sg, ← Int.mul_assoc, sgI_mulp hq02, sgn_of]
      exact hret 161 _ _ _ d_Ca_setProduct_161 bl_470 bl_471 ⟨V_449, S_469, k_463.trans (by rw [frn_abs, hna]; exact hfm.1), k_451.trans (by rw [hna]; exact hfm.2), by rw [← hsg]; exact f_457, cdO_i f_456⟩
theorem sc_226 {k1 k2 t1 t2 : Nat} (hkk : k1 + k2 ≤ 1499) (ht1 : 11 ≤ t1 ∧ ¬ t1 = 19) (ht2 : 11 ≤ t2 ∧ ¬ t2 = 19) : ∀ x, (11 ≤ x ∧ ¬ x = 19) → (¬ x = 6) := by intro x h; omega
theorem sc_227 {k1 k2 t1 t2 : Nat} (hkk : k1 + k2 ≤ 1499) (ht1 : 11 ≤ t1 ∧ ¬ t1 = 19) (ht2 : 11 ≤ t2 ∧ ¬ t2 = 19) : k1 + k2 ≤ 1500 := by omega
theorem sc_228 {k1 k2 t1 t2 : Nat} (hkk : k1 + k2 ≤ 1499) (ht1 : 11 ≤ t1 ∧ ¬ t1 = 19) (ht2 : 11 ≤ t2 ∧ ¬ t2 = 19) : ¬ (t1 = 6) := by omega
theorem sc_229 {k1 k2 t1 t2 : Nat} (hkk : k1 + k2 ≤ 1499) (ht1 : 11 ≤ t1 ∧ ¬ t1 = 19) (ht2 : 11 ≤ t2 ∧ ¬ t2 = 19) : ¬ (t2 = 6) := by omega
theorem sc_230 {k1 k2 t1 t2 : Nat} (hkk : k1 + k2 ≤ 1499) (ht1 : 11 ≤ t1 ∧ ¬ t1 = 19) (ht2 : 11 ≤ t2 ∧ ¬ t2 = 19) : ∀ x, (11 ≤ x ∧ ¬ x = 19) → ¬ (x = 6) := by intro x h; omega
theorem sc_231 {k1 k2 t1 t2 : Nat} (hkk : k1 + k2 ≤ 1499) (ht1 : 11 ≤ t1 ∧ ¬ t1 = 19) (ht2 : 11 ≤ t2 ∧ ¬ t2 = 19) : ∀ x, (x = 6 ∨ x = 8) ∨ (x = 6) → (x = 6 ∨ x = 8) := by intro x h; omega
theorem sc_232 {k1 k2 t1 t2 : Nat} (hkk : k1 + k2 ≤ 1499) (ht1 : 11 ≤ t1 ∧ ¬ t1 = 19) (ht2 : 11 ≤ t2 ∧ ¬ t2 = 19) : ∀ x, (11 ≤ x ∧ ¬ x = 19) → (¬ x = 8) := by intro x h; omega
theorem sc_233 {k1 k2 t1 t2 : Nat} (hkk : k1 + k2 ≤ 1499) (ht1 : 11 ≤ t1 ∧ ¬ t1 = 19) (ht2 : 11 ≤ t2 ∧ ¬ t2 = 19) : k2 + k1 ≤ 1500 := by omega
theorem sc_234 {k1 k2 t1 t2 : Nat} (hkk : k1 + k2 ≤ 1499) (ht1 : 11 ≤ t1 ∧ ¬ t1 = 19) (ht2 : 11 ≤ t2 ∧ ¬ t2 = 19) : ¬ (t1 = 8) := by omega
theorem sc_235 {k1 k2 t1 t2 : Nat} (hkk : k1 + k2 ≤ 1499) (ht1 : 11 ≤ t1 ∧ ¬ t1 = 19) (ht2 : 11 ≤ t2 ∧ ¬ t2 = 19) : ¬ (t2 = 8) := by omega
theorem sc_236 {k1 k2 t1 t2 : Nat} (hkk : k1 + k2 ≤ 1499) (ht1 : 11 ≤ t1 ∧ ¬ t1 = 19) (ht2 : 11 ≤ t2 ∧ ¬ t2 = 19) : ∀ x, (11 ≤ x ∧ ¬ x = 19) → ¬ (x = 8) := by intro x h; omega
theorem sc_237 {k1 k2 t1 t2 : Nat} (hkk : k1 + k2 ≤ 1499) (ht1 : 11 ≤ t1 ∧ ¬ t1 = 19) (ht2 : 11 ≤ t2 ∧ ¬ t2 = 19) : ∀ x, (x = 6 ∨ x = 8) ∨ (x = 8) → (x = 6 ∨ x = 8) := by intro x h; omega
set_option maxHeartbeats 4000000 in
set_option maxRecDepth 100000 in
theorem n_compareF (l : Launch) (D : va_G) (cA : Nat → ClassId) (lo MC MS : Nat) (G : gT) (B : Nat × Nat) (X : Nat × Nat) (ad V : Nat → Nat) (hW : w2 cA X ad V (G, B)) (hX1 : X.1 ≤ MC) (hX2 : X.2 ≤ MS) (hk hd hc : Nat) (hhk : G hk = some (30, .inr (0, [.ref hd, .ref hc, .ref (ad 5), .ref (ad 6), .ref (ad 7), .ref (ad 8), .ref (ad 9), .ref (ad 10)]))) (hhd : G hd = some (30, .inr (2, [.ref (ad 0), .ref (ad 1), .ref (ad 2)]))) (hcd : cdO ad hd hc G) (h1 : Nat) (p1 : Int) (q1 k1 : Nat) (hr1 : rf cA G (fun x => 11 ≤ x ∧ ¬ x = 19) h1 p1 q1) (hp1 : p1.natAbs < 1000000000 ^ k1) (hq1 : q1 < 1000000000 ^ k1) (hq01 : 0 < q1) (h2 : Nat) (p2 : Int) (q2 k2 : Nat) (hr2 : rf cA G (fun x => 11 ≤ x ∧ ¬ x = 19) h2 p2 q2) (hp2 : p2.natAbs < 1000000000 ^ k2) (hq2 : q2 < 1000000000 ^ k2) (hq02 : 0 < q2) (hkk : k1 + k2 ≤ 1499) : gMet l y_Ca_compare w_Ca_compare 5 135 D clS (gtys cA) lo MC MS [.ref hk, .ref h1, .ref h2] G B (gQi D clS lo (fun r u => r = sgI (p1 * q2 - p2 * q1) ∧ ∃ V1, w2s cA X ad (fun x => x = 6 ∨ x = 8) G V V1 u)) := by
  refine g_meti (cc := prog_2_method_6_code) (nL := 4) (L := [(0, .ref hk), (1, .ref h1), (2, .ref h2)]) (by decide +kernel) rfl (Nat.le_of_ble_eq_true rfl) rfl ?_
  intro p e R s m args below meth c Q hF hRc hRs hRf hRl hret
  obtain ⟨hx, hb, hr, hml, hts0, hown, hlocks, hin, hK, hlo, hZ⟩ := hF
  have hts : ∀ w ∈ tbg, w.before args s = true := fun w h => hts0 w (List.mem_cons_of_mem _ h)
  obtain ⟨t1, a1, b1, ht1, hh1, hra1, hrb1⟩ := id hr1
  have ht1 : 11 ≤ t1 ∧ ¬ t1 = 19 := ht1
  obtain ⟨t2, a2, b2, ht2, hh2, hra2, hrb2⟩ := id hr2
  have ht2 : 11 ≤ t2 ∧ ¬ t2 = 19 := ht2
  obtain ⟨ga0, gb0, gc0, gd0, hhc⟩ := id hcd
  have hS0 : w2s cA X ad (fun x => x = 6 ∨ x = 8) G V V (G, B) := w2s_rf hW
  have bl_1 : B.1 ≤ MC := Nat.le_trans (w2_le hW).1 hX1
  have bl_2 : B.2 ≤ MS := Nat.le_trans (w2_le hW).2 hX2
  refine gs (pc' := 1) (fun _ _ _ _ _ hl => lv_aload_n hx hb d_Ca_compare_0 rfl (lv_at hl 1 rfl)) ?_
  refine g_get hx hb hts hin_Fr hown hK hh1 rfl 0 (by decide) (hts _ wm164) (fun _ h9 => h9) rfl d_Ca_compare_1 ?_
  refine gs (pc' := 5) (fun _ _ _ _ _ hl => lv_aload_n hx hb d_Ca_compare_4 rfl (lv_at hl 2 rfl)) ?_
  refine g_get hx hb hts hin_Fr hown hK hh2 rfl 0 (by decide) (hts _ wm164) (fun _ h9 => h9) rfl d_Ca_compare_5 ?_
  refine gsb (pc1 := 28) (pc2 := 11) (fun _ _ _ _ _ => lv_icmp_eq (tgt := 28) hx hb d_Ca_compare_8 (by decide)) (fun c_3 => ?_) (fun c_3 => ?_)
  · skip
    have hce := cmp_eq (q1 := q1) (q2 := q2) c_3
    refine gs (pc' := 29) (fun _ _ _ _ _ hl => lv_aload_n hx hb d_Ca_compare_28 rfl (lv_at hl 0 rfl)) ?_
    refine g_get hx hb hts hin_Ca hown hK hhk rfl 3 (by decide) (hts _ wm133) (fun _ h9 => h9) rfl d_Ca_compare_29 ?_
    refine gs (pc' := 33) (fun _ _ _ _ _ hl => lv_aload_n hx hb d_Ca_compare_32 rfl (lv_at hl 1 rfl)) ?_
    refine g_get hx hb hts hin_Fr hown hK hh1 rfl 1 (by decide) (hts _ wm167) (fun _ h9 => h9) rfl d_Ca_compare_33 ?_
    refine gs (pc' := 37) (fun _ _ _ _ _ hl => lv_aload_n hx hb d_Ca_compare_36 rfl (lv_at hl 2 rfl)) ?_
    refine g_get hx hb hts hin_Fr hown hK hh2 rfl 2 (by decide) (hts _ wm170) (fun _ h9 => h9) rfl d_Ca_compare_37 ?_
    obtain ⟨κo_4, ao_4, zo_4, fo_4, hho_4, hao_4, hzo_4, hDo_4, hco_4⟩ := w2_N hW (show 6 < 19 by decide)
    have hbo_4 : zo_4 ≤ 3000 := Nat.le_trans hzo_4 hco_4
    refine g_outv hlo (g_runV (As := [.ref a1, .ref b2]) (rest := []) ⟨hx, hb, hml, hown, hts⟩ hK hZ hRc hRs (n_setProduct l D cA lo MC MS G B X ad V hW hX1 hX2 6 (by decide) a1 p1.natAbs k1 (rd_mono (P1 := fun x => ¬ x = 6) hra1 (sc_226 hkk ht1 ht2)) hp1 b2 q2 k2 (rd_mono (P1 := fun x => ¬ x = 6) hrb2 (sc_226 hkk ht1 ht2)) hq2 (sc_227 hkk ht1 ht2)) (fun _ _ => cwV 2 hts (tb_good (tb_cons wm563 (tb_cons wm564 (tb_cons wm565 (tb_cons wm5 k_Na_setProduct))))) rfl rfl rfl (by decide +kernel) ⟨by rw [hRf]; exact Nat.le_of_ble_eq_true rfl, by rw [hRl]; exact Nat.le_of_ble_eq_true rfl⟩) hho_4 rfl bl_1 bl_2 rfl (Nat.le_of_ble_eq_true rfl) d_Ca_compare_40) (fun G_5 B_6 p_7 => ?_)
    have lt_8 : p1.natAbs * q2 < 1000000000 ^ (k1 + k2) := lb_mul hp1 hq2
    obtain ⟨V_9, s_10, k_11⟩ := p_7
    have f_12 : G_5 hk = some (30, .inr (0, [.ref hd, .ref hc, .ref (ad 5), .ref (ad 6), .ref (ad 7), .ref (ad 8), .ref (ad 9), .ref (ad 10)])) := s_10.2.2 _ _ hhk (show ¬ (30 = 6) by decide)
    have f_13 : G_5 hd = some (30, .inr (2, [.ref (ad 0), .ref (ad 1), .ref (ad 2)])) := s_10.2.2 _ _ hhd (show ¬ (30 = 6) by decide)
    have f_14 : G_5 hc = some (19, .inr (1, [.ref hd, .ref (ad 3), .ref (ad 4), .long ga0, .long gb0, .long gc0, .long gd0])) := s_10.2.2 _ _ hhc (show ¬ (19 = 6) by decide)
    have f_15 : G_5 h1 = some (t1, .inr (3, [.int (sgI p1), .ref a1, .ref b1])) := s_10.2.2 _ _ hh1 (sc_228 hkk ht1 ht2)
    have f_16 : G_5 h2 = some (t2, .inr (3, [.int (sgI p2), .ref a2, .ref b2])) := s_10.2.2 _ _ hh2 (sc_229 hkk ht1 ht2)
    have rd_17 := rd_fr hra1 s_10.2.2 (sc_230 hkk ht1 ht2)
    have rd_18 := rd_fr hrb1 s_10.2.2 (sc_230 hkk ht1 ht2)
    have rd_19 := rd_fr hra2 s_10.2.2 (sc_230 hkk ht1 ht2)
    have rd_20 := rd_fr hrb2 s_10.2.2 (sc_230 hkk ht1 ht2)
    have W_21 := s_10.1
    have S_22 : w2s cA X ad (fun x => x = 6 ∨ x = 8) G V V_9 (G_5, B_6) := w2s_mono (w2s_tr hS0 s_10) (sc_231 hkk ht1 ht2)
    have bl_23 : B_6.1 ≤ MC := Nat.le_trans (w2_le W_21).1 hX1
    have bl_24 : B_6.2 ≤ MS := Nat.le_trans (w2_le W_21).2 hX2
    refine gs (pc' := 44) (fun _ _ _ _ _ hl => lv_aload_n hx hb d_Ca_compare_43 rfl (lv_at hl 0 rfl)) ?_
    refine g_get hx hb hts hin_Ca hown hK f_12 rfl 5 (by decide) (hts _ wm135) (fun _ h9 => h9) rfl d_Ca_compare_44 ?_
    refine gs (pc' := 48) (fun _ _ _ _ _ hl => lv_aload_n hx hb d_Ca_compare_47 rfl (lv_at hl 2 rfl)) ?_
    refine g_get hx hb hts hin_Fr hown hK f_16 rfl 1 (by decide) (hts _ wm167) (fun _ h9 => h9) rfl d_Ca_compare_48 ?_
    refine gs (pc' := 52) (fun _ _ _ _ _ hl => lv_aload_n hx hb d_Ca_compare_51 rfl (lv_at hl 1 rfl)) ?_
    refine g_get hx hb hts hin_Fr hown hK f_15 rfl 2 (by decide) (hts _ wm170) (fun _ h9 => h9) rfl d_Ca_compare_52 ?_
    obtain ⟨κo_25, ao_25, zo_25, fo_25, hho_25, hao_25, hzo_25, hDo_25, hco_25⟩ := w2_N W_21 (show 8 < 19 by decide)
    have hbo_25 : zo_25 ≤ 3000 := Nat.le_trans hzo_25 hco_25
    refine g_outv hlo (g_runV (As := [.ref a2, .ref b1]) (rest := []) ⟨hx, hb, hml, hown, hts⟩ hK hZ hRc hRs (n_setProduct l D cA lo MC MS G_5 B_6 X ad V_9 W_21 hX1 hX2 8 (by decide) a2 p2.natAbs k2 (rd_mono (P1 := fun x => ¬ x = 8) rd_19 (sc_232 hkk ht1 ht2)) hp2 b1 q1 k1 (rd_mono (P1 := fun x => ¬ x = 8) rd_18 (sc_232 hkk ht1 ht2)) hq1 (sc_233 hkk ht1 ht2)) (fun _ _ => cwV 2 hts (tb_good (tb_cons wm563 (tb_cons wm564 (tb_cons wm565 (tb_cons wm5 k_Na_setProduct))))) rfl rfl rfl (by decide +kernel) ⟨by rw [hRf]; exact Nat.le_of_ble_eq_true rfl, by rw [hRl]; exact Nat.le_of_ble_eq_true rfl⟩) hho_25 rfl bl_23 bl_24 rfl (Nat.le_of_ble_eq_true rfl) d_Ca_compare_55) (fun G_26 B_27 p_28 => ?_)
    have lt_29 : p2.natAbs * q1 < 1000000000 ^ (k2 + k1) := lb_mul hp2 hq1
    obtain ⟨V_30, s_31, k_32⟩ := p_28
    have f_33 : G_26 hk = some (30, .inr (0, [.ref hd, .ref hc, .ref (ad 5), .ref (ad 6), .ref (ad 7), .ref (ad 8), .ref (ad 9), .ref (ad 10)])) := s_31.2.2 _ _ f_12 (show ¬ (30 = 8) by decide)
    have f_34 : G_26 hd = some (30, .inr (2, [.ref (ad 0), .ref (ad 1), .ref (ad 2)])) := s_31.2.2 _ _ f_13 (show ¬ (30 = 8) by decide)
    have f_35 : G_26 hc = some (19, .inr (1, [.ref hd, .ref (ad 3), .ref (ad 4), .long ga0, .long gb0, .long gc0, .long gd0])) := s_31.2.2 _ _ f_14 (show ¬ (19 = 8) by decide)
    have f_36 : G_26 h1 = some (t1, .inr (3, [.int (sgI p1), .ref a1, .ref b1])) := s_31.2.2 _ _ f_15 (sc_234 hkk ht1 ht2)
    have f_37 : G_26 h2 = some (t2, .inr (3, [.int (sgI p2), .ref a2, .ref b2])) := s_31.2.2 _ _ f_16 (sc_235 hkk ht1 ht2)
    have k_38 : V_30 6 = p1.natAbs * q2 := (s_31.2.1 6 (show ¬ (6 = 8) by decide)).trans k_11
    have rd_39 := rd_fr rd_17 s_31.2.2 (sc_236 hkk ht1 ht2)
    have rd_40 := rd_fr rd_18 s_31.2.2 (sc_236 hkk ht1 ht2)
    have rd_41 := rd_fr rd_19 s_31.2.2 (sc_236 hkk ht1 ht2)
    have rd_42 := rd_fr rd_20 s_31.2.2 (sc_236 hkk ht1 ht2)
    have W_43 := s_31.1
    have S_44 : w2s cA X ad (fun x => x = 6 ∨ x = 8) G V V_30 (G_26, B_27) := w2s_mono (w2s_tr S_22 s_31) (sc_237 hkk ht1 ht2)
    have bl_45 : B_27.1 ≤ MC := Nat.le_trans (w2_le W_43).1 hX1
    have bl_46 : B_27.2 ≤ MS := Nat.le_trans (w2_le W_43).2 hX2
    refine gs (pc' := 59) (fun _ _ _ _ _ hl => lv_aload_n hx hb d_Ca_compare_58 rfl (lv_at hl 0 rfl)) ?_
    refine g_get hx hb hts hin_Ca hown hK f_33 rfl 3 (by decide) (hts _ wm133) (fun _ h9 => h9) rfl d_Ca_compare_59 ?_
    refine gs (pc' := 63) (fun _ _ _ _ _ hl => lv_aload_n hx hb d_Ca_compare_62 rfl (lv_at hl 0 rfl)) ?_
    refine g_get hx hb hts hin_Ca hown hK f_33 rfl 5 (by decide) (hts _ wm135) (fun _ h9 => h9) rfl d_Ca_compare_63 ?_
    obtain ⟨κo_47, ao_47, zo_47, fo_47, hho_47, hao_47, hzo_47, hDo_47, hco_47⟩ := w2_N W_43 (show 6 < 19 by decide)
    rw [k_38] at hDo_47
    have hbo_47 : zo_47 ≤ 3000 := Nat.le_trans hzo_47 hco_47
    refine g_outi hlo (g_runV (As := [.ref (ad 8)]) (rest := []) ⟨hx, hb, hml, hown, hts⟩ hK hZ hRc hRs (n_compare l D cA lo MC MS G_26 B_27 (fun _ => True) (fun _ => True) (ad 6) (p1.natAbs * q2) (ad 8) (p2.natAbs * q1) (rd_w2' (P := fun _ => True) W_43 (by decide) trivial k_38) (rd_w2' (P := fun _ => True) W_43 (by decide) trivial k_32) bl_45 bl_46) (fun _ _ => cwV 1 hts (tb_good (tb_cons wm576 (tb_cons wm404 (tb_cons wm405 (tb_cons wm5 k_Na_compare))))) rfl rfl rfl (by decide +kernel) ⟨by rw [hRf]; exact Nat.le_of_ble_eq_true rfl, by rw [hRl]; exact Nat.le_of_ble_eq_true rfl⟩) hho_47 rfl bl_45 bl_46 rfl (Nat.le_of_ble_eq_true rfl) d_Ca_compare_66) (fun r_51 G_48 B_49 p_50 => ?_)
    obtain ⟨u_52, cm_53⟩ := p_50
    cases u_52
    rcases cm_53 with ⟨q_54, hl_55⟩ | ⟨q_54, hl_55⟩ | ⟨q_54, hl_55⟩
    · skip
      subst q_54
      refine gst (pc' := 70) (L' := [(3, .int (-1)), (0, .ref hk), (1, .ref h1), (2, .ref h2)]) (fun _ _ _ _ _ hl => lv_istore_n hx hb d_Ca_compare_69 rfl hl (by decide) rfl) ?_
      refine gs (pc' := 71) (fun _ _ _ _ _ hl => lv_aload_n hx hb d_Ca_compare_70 rfl (lv_at hl 2 rfl)) ?_
      refine g_get hx hb hts hin_Fr hown hK f_36 rfl 0 (by decide) (hts _ wm164) (fun _ h9 => h9) rfl d_Ca_compare_71 ?_
      refine gsb (pc1 := 82) (pc2 := 77) (fun _ _ _ _ _ => lv_if_ge (tgt := 82) hx hb d_Ca_compare_74 (by decide)) (fun c_56 => ?_) (fun c_56 => ?_)
      · skip
        have hn0 : ¬ p1 < 0 := fun z => absurd (sgI_lt.mpr z) (Int32.not_lt.mpr c_56)
        refine gs (pc' := 83) (fun _ _ _ _ _ hl => lv_iload_n hx hb d_Ca_compare_82 rfl (lv_at hl 0 rfl)) ?_
        exact hret 83 _ _ _ _ d_Ca_compare_83 bl_45 bl_46 ⟨((hce.2.1 hn0).1 hl_55).symm, V_30, S_44⟩
      · skip
        have hn0 : p1 < 0 := sgI_lt.mp (Int32.not_le.mp c_56)
        refine gs (pc' := 78) (fun _ _ _ _ _ hl => lv_iload_n hx hb d_Ca_compare_77 rfl (lv_at hl 0 rfl)) ?_
        refine gs (pc' := 79) (fun _ _ _ _ _ hl => lv_ineg hx hb d_Ca_compare_78) ?_
        refine gs (pc' := 83) (fun _ _ _ _ _ hl => lv_goto (tgt := 83) hx hb d_Ca_compare_79 (by decide)) ?_
        exact hret 83 _ _ _ _ d_Ca_compare_83 bl_45 bl_46 ⟨((by decide : -(-1 : Int32) = 1).trans ((hce.1 hn0).1 hl_55).symm), V_30, S_44⟩
    · skip
      subst q_54
      refine gst (pc' := 70) (L' := [(3, .int (nI 0)), (0, .ref hk), (1, .ref h1), (2, .ref h2)]) (fun _ _ _ _ _ hl => lv_istore_n hx hb d_Ca_compare_69 rfl hl (by decide) rfl) ?_
      refine gs (pc' := 71) (fun _ _ _ _ _ hl => lv_aload_n hx hb d_Ca_compare_70 rfl (lv_at hl 2 rfl)) ?_
      refine g_get hx hb hts hin_Fr hown hK f_36 rfl 0 (by decide) (hts _ wm164) (fun _ h9 => h9) rfl d_Ca_compare_71 ?_
      refine gsb (pc1 := 82) (pc2 := 77) (fun _ _ _ _ _ => lv_if_ge (tgt := 82) hx hb d_Ca_compare_74 (by decide)) (fun c_57 => ?_) (fun c_57 => ?_)
      · skip
        have hn0 : ¬ p1 < 0 := fun z => absurd (sgI_lt.mpr z) (Int32.not_lt.mpr c_57)
        refine gs (pc' := 83) (fun _ _ _ _ _ hl => lv_iload_n hx hb d_Ca_compare_82 rfl (lv_at hl 0 rfl)) ?_
        exact hret 83 _ _ _ _ d_Ca_compare_83 bl_45 bl_46 ⟨(hce.2.2 hl_55).symm, V_30, S_44⟩
      · skip
        have hn0 : p1 < 0 := sgI_lt.mp (Int32.not_le.mp c_57)
        refine gs (pc' := 78) (fun _ _ _ _ _ hl => lv_iload_n hx hb d_Ca_compare_77 rfl (lv_at hl 0 rfl)) ?_
        refine gs (pc' := 79) (fun _ _ _ _ _ hl => lv_ineg hx hb d_Ca_compare_78) ?_
        refine gs (pc' := 83) (fun _ _ _ _ _ hl => lv_goto (tgt := 83) hx hb d_Ca_compare_79 (by decide)) ?_
        exact hret 83 _ _ _ _ d_Ca_compare_83 bl_45 bl_46 ⟨((by decide : -(nI 0) = (0 : Int32)).trans (hce.2.2 hl_55).symm), V_30, S_44⟩
    · skip
      subst q_54
      refine gst (pc' := 70) (L' := [(3, .int (nI 1)), (0, .ref hk), (1, .ref h1), (2, .ref h2)]) (fun _ _ _ _ _ hl => lv_istore_n hx hb d_Ca_compare_69 rfl hl (by decide) rfl) ?_
      refine gs (pc' := 71) (fun _ _ _ _ _ hl => lv_aload_n hx hb d_Ca_compare_70 rfl (lv_at hl 2 rfl)) ?_
      refine g_get hx hb hts hin_Fr hown hK f_36 rfl 0 (by decide) (hts _ wm164) (fun _ h9 => h9) rfl d_Ca_compare_71 ?_
      refine gsb (pc1 := 82) (pc2 := 77) (fun _ _ _ _ _ => lv_if_ge (tgt := 82) hx hb d_Ca_compare_74 (by decide)) (fun c_58 => ?_) (fun c_58 => ?_)
      · skip
        have hn0 : ¬ p1 < 0 := fun z => absurd (sgI_lt.mpr z) (Int32.not_lt.mpr c_58)
        refine gs (pc' := 83) (fun _ _ _ _ _ hl => lv_iload_n hx hb d_Ca_compare_82 rfl (lv_at hl 0 rfl)) ?_
        exact hret 83 _ _ _ _ d_Ca_compare_83 bl_45 bl_46 ⟨((hce.2.1 hn0).2 hl_55).symm, V_30, S_44⟩
      · skip
        have hn0 : p1 < 0 := sgI_lt.mp (Int32.not_le.mp c_58)
        refine gs (pc' := 78) (fun _ _ _ _ _ hl => lv_iload_n hx hb d_Ca_compare_77 rfl (lv_at hl 0 rfl)) ?_
        refine gs (pc' := 79) (fun _ _ _ _ _ hl => lv_ineg hx hb d_Ca_compare_78) ?_
        refine gs (pc' := 83) (fun _ _ _ _ _ hl => lv_goto (tgt := 83) hx hb d_Ca_compare_79 (by decide)) ?_
        exact hret 83 _ _ _ _ d_Ca_compare_83 bl_45 bl_46 ⟨((by decide : -(nI 1) = (-1 : Int32)).trans ((hce.1 hn0).2 hl_55).symm), V_30, S_44⟩
  · skip
    have hcs := cmp_sg hq01 hq02 c_3
    refine gs (pc' := 12) (fun _ _ _ _ _ hl => lv_aload_n hx hb d_Ca_compare_11 rfl (lv_at hl 1 rfl)) ?_
    refine g_get hx hb hts hin_Fr hown hK hh1 rfl 0 (by decide) (hts _ wm164) (fun _ h9 => h9) rfl d_Ca_compare_12 ?_
    refine gs (pc' := 16) (fun _ _ _ _ _ hl => lv_aload_n hx hb d_Ca_compare_15 rfl (lv_at hl 2 rfl)) ?_
    refine g_get hx hb hts hin_Fr hown hK hh2 rfl 0 (by decide) (hts _ wm164) (fun _ h9 => h9) rfl d_Ca_compare_16 ?_
    refine gsb (pc1 := 26) (pc2 := 22) (fun _ _ _ _ _ => lv_icmp_ge (tgt := 26) hx hb d_Ca_compare_19 (by decide)) (fun c_59 => ?_) (fun c_59 => ?_)
    · skip
      refine gs (pc' := 27) (fun _ _ _ _ _ hl => lv_iconst (v := nI 1) hx hb d_Ca_compare_26 (by decide)) ?_
      exact hret 27 _ _ _ _ d_Ca_compare_27 bl_1 bl_2 ⟨(hcs.1 c_59), V, hS0⟩
    · skip
      refine gs (pc' := 23) (fun _ _ _ _ _ hl => lv_iconst (v := (-1)) hx hb d_Ca_compare_22 (by decide)) ?_
      refine gs (pc' := 27) (fun _ _ _ _ _ hl => lv_goto (tgt := 27) hx hb d_Ca_compare_23 (by decide)) ?_
      exact hret 27 _ _ _ _ d_Ca_compare_27 bl_1 bl_2 ⟨(hcs.2 c_59), V, hS0⟩
