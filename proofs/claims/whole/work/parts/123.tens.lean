/-! ===== the table of tens; magnitudes of longs ===== -/
section GT
variable {p : Program} {l : Launch} {e : Env} {R : Room} {s : State} {m : MethodId} {args : Array Value} {below : List Frame} {meth : Method} {c : Code} {Q : State → Prop}
variable {D : va_G} {cl : List vw_C} {tys : List (ClassId × FieldType)} {lo MC MS nL : Nat} {pc : Nat} {L : List (Nat × Value)} {st rest : List Value} {G : gT} {B : Nat × Nat} {cc : ByteArray}
theorem g_gets (hx : p.tables.exec = Jvm.exec) (hb : c.code = cc) {C n d own ref host : String} {v : Value} {index : Nat} (hZ : va_Z C n d v (fun q => lo ≤ q) s s.heap) (hown : s.vm.findClass own = some m.cls) (hlink : (Cond.fieldLinkNest own index ref n d host).before args s = true) (hsame : ∀ x, s.fieldFound? C n d = some x → s.fieldFound? ref n d = some x) (hdg : decode cc pc = .ok (.getstatic index, 3))
    (kk : gV p l e R s m args below meth c D cl lo nL Q (pc + 3) L (v :: rest) G B) : gV p l e R s m args below meth c D cl lo nL Q pc L rest G B :=
  fun H locs ls hH hl => va_getsN hx hb hZ hH.2.2 hown hlink hsame hdg (kk H locs ls hH hl)
theorem g_ti (hx : p.tables.exec = Jvm.exec) (hb : c.code = cc) {t N : Nat} {f : Nat → Value} (hT : va_T .int t N f (fun q => lo ≤ q) s s.heap) {i : Int32} (hin : vp_in i N) {v : Value} (hv : f i.toNatClampNeg = v) (hdg : decode cc pc = .ok (.iaload, 1))
    (kk : gV p l e R s m args below meth c D cl lo nL Q (pc + 1) L (v :: rest) G B) : gV p l e R s m args below meth c D cl lo nL Q pc L (.int i :: .ref t :: rest) G B :=
  fun H locs ls hH hl => va_ti hx hb hT hH.2.2 hin hv hdg (kk H locs ls hH hl)
end GT
theorem tens_at {j : Nat} (h : j < 2 ^ 31) : tensF (nI j).toNatClampNeg = .int (nI (10 ^ j)) := by rw [nI_clamp h]; rfl
theorem tens_le {j : Nat} (h : j ≤ 9) : 10 ^ j ≤ 1000000000 := Nat.pow_le_pow_right (n := 10) (by decide) h
theorem tens_pos (j : Nat) : 0 < 10 ^ j := Nat.pow_pos (by decide)
def absL (x : Int64) : Int64 := if x < 0 then -x else x
theorem lI_div {a b : Int} (ha1 : -9223372036854775808 ≤ a) (ha2 : a < 9223372036854775808) (hb1 : 1 < b) (hb2 : b < 9223372036854775808) : lI a / lI b = lI (a.tdiv b) := by
  apply Int64.toInt_inj.mp
  have h1 : (a.tdiv b).natAbs ≤ a.natAbs := Int.natAbs_tdiv_le_natAbs a b
  have h3 : (a.tdiv b).natAbs = a.natAbs / b.natAbs := Int.natAbs_tdiv a b
  have h4 : a.natAbs / b.natAbs ≤ a.natAbs / 2 := Nat.div_le_div_left (by omega) (by decide)
  rw [Int64.toInt_div, lI_toInt ha1 ha2, lI_toInt (by omega) hb2, lI_toInt (by omega) (by omega)]
  exact Int.bmod_eq_of_le (by omega) (by omega)
theorem mg_rest {y : Int64} {w : Nat} (h : y.toInt.natAbs = w) : (y / lN 1000000000).toInt.natAbs = w / 1000000000 := by
  have h1 := y.minValue_le_toInt
  have h2 := y.toInt_lt
  have h1 : -9223372036854775808 ≤ y.toInt := by simpa using h1
  have h2 : y.toInt < 9223372036854775808 := by simpa using h2
  have h3 : (y.toInt.tdiv ((1000000000 : Nat) : Int)).natAbs = y.toInt.natAbs / 1000000000 := Int.natAbs_tdiv _ _
  have h4 : y.toInt.natAbs / 1000000000 ≤ 9223372036854775808 / 1000000000 := Nat.div_le_div_right (by omega)
  have e : y / lN 1000000000 = lI (y.toInt.tdiv ((1000000000 : Nat) : Int)) := by
    conv => lhs; rw [lI_self y, lN_lI]
    exact lI_div h1 h2 (by omega) (by omega)
  rw [e, lI_toInt (by omega) (by omega), h3, h]
theorem mg_limb {y : Int64} {w : Nat} (h : y.toInt.natAbs = w) : (absL (y - y / lN 1000000000 * lN 1000000000)).toInt32 = nI (w % 1000000000) := by
  have h1 := y.minValue_le_toInt
  have h2 := y.toInt_lt
  have h1 : -9223372036854775808 ≤ y.toInt := by simpa using h1
  have h2 : y.toInt < 9223372036854775808 := by simpa using h2
  have e : y - y / lN 1000000000 * lN 1000000000 = lI (y.toInt.tmod ((1000000000 : Nat) : Int)) := by
    have e1 : y / lN 1000000000 = lI (y.toInt.tdiv ((1000000000 : Nat) : Int)) := by
      conv => lhs; rw [lI_self y, lN_lI]
      exact lI_div h1 h2 (by omega) (by omega)
    rw [e1, lN_lI, lI_mul]
    conv => lhs; lhs; rw [lI_self y]
    rw [lI_sub]
    congr 1
    rw [Int.tmod_def, Int.mul_comm]
  have h3 : (y.toInt.tmod ((1000000000 : Nat) : Int)).natAbs = y.toInt.natAbs % 1000000000 := Int.natAbs_tmod _ _
  have h4 : y.toInt.natAbs % 1000000000 < 1000000000 := Nat.mod_lt _ (by decide)
  rw [e]
  generalize hr : y.toInt.tmod ((1000000000 : Nat) : Int) = r at *
  unfold absL
  by_cases q : lI r < 0
  · rw [if_pos q]
    have q2 : r < 0 := by
      have q3 : lI r < lI 0 := q
      exact (lI_lt (by omega) (by omega) (by omega) (by omega)).mp q3
    have e2 : -lI r = lI (-r) := by
      have : -lI r = lI 0 - lI r := (Int64.zero_sub (lI r)).symm
      rw [this, lI_sub, Int.zero_sub]
    rw [e2]
    exact lI_i (by omega)
  · rw [if_neg q]
    have q2 : ¬ r < 0 := fun z => q (by
      have q3 : lI r < lI 0 := (lI_lt (by omega) (by omega) (by omega) (by omega)).mpr z
      exact q3)
    exact lI_i (by omega)
