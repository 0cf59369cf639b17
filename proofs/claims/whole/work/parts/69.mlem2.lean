theorem lI_tmd {a b : Int} (ha1 : -9223372036854775808 ≤ a) (ha2 : a < 9223372036854775808) (hb1 : 0 < b) (hb2 : b < 9223372036854775808) : lI a - lI a / lI b * lI b = lI (a.tmod b) := by
  rw [lI_tdiv ha1 ha2 (by omega) hb2, lI_mul, lI_sub, Int.tmod_def, Int.mul_comm b]
theorem dv_sh {f : Nat → Int32} {r up j x : Nat} (hx : x < 2 ^ 31) : dv (dsh (df (sh (upd f (4300 * r + (up + j)) (nI x)) r)) up) (j + 1) = dv (dsh (df (sh f r)) up) j + x * 1000000000 ^ j := by
  rw [sh_us]
  exact dsh_upd hx
