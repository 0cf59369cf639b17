/-! ===== WHAT THE STATEMENT GIVES AT THE LAW'S ENTRY ===== -/
theorem fl_off {l : Launch} (h : l.flags = flags0) : ∀ e : Env, l.admits e → e.platform.stackTraces = false := fun e he => (congrArg Platform.stackTraces he.2.2.2.2.1).trans (by
  show (!l.flags.contains noTraceFlag) = false
  rw [h]
  decide +kernel)
theorem gls_of {args : Array Value} {s : State} {C n d : String} (hl : (Cond.laysStatic C n d).before args s = true) (hr : (Cond.isRef (.static C n d)).before args s = true) : gLS C n d s.heap.size s := by
  obtain ⟨c, k, i, f, a, cell, hc, hi, hst, ha, hcell, hs, hcls, hlt, hty⟩ := Cond.laysStatic_spec hl
  cases hv : (Term.static C n d).eval args s none [] s with
  | none => simp [Cond.before, Cond.holds, Cond.value, hv] at hr
  | some w =>
    obtain ⟨hst', a', cell', ha', hcell', -, hslot⟩ := Term.static_spec hi hv
    cases ha.symm.trans ha'
    cases hcell.symm.trans hcell'
    have hw : w.isRef = true := by
      simp only [Cond.before, Cond.holds, Cond.value, hv] at hr
      cases w <;> simp_all [Value.isRef]
    exact ⟨c, k, i, f, a, cell, w, hc, hi, hst, ha, hcell, hs, hcls, hlt, hty, hslot, hw, Nat.not_le.mpr (Array.getElem?_eq_some_iff.mp hcell).1⟩
theorem vkr_of {args : Array Value} {s : State} {own tx : String} {k : Nat} (h : (Cond.stringRef own k tx).before args s = true) : ∃ a : Nat, vk_R own k tx a s := by
  have hcur : ∃ cur, s.vm.findClass own = some cur := by
    have h1 := h
    simp only [Cond.before, Cond.holds, Cond.value] at h1
    cases hc : s.vm.findClass own with
    | none => simp [hc] at h1
    | some cur => exact ⟨cur, rfl⟩
  obtain ⟨cur, hcur⟩ := hcur
  obtain ⟨k', cf, i, a, -, -, -, -, -, h6⟩ := Cond.stringRef_spec hcur h
  exact ⟨a, vk_R.of h h6⟩
theorem no_st {x y : String} {s : State} {args : Array Value} (hx : (Cond.initialized x).before args s = true) (hy : (Cond.initialized y).before args s = true) (h : (Cond.not (.castable x y)).before args s = true) : ∃ c t : ClassId, s.vm.findClass x = some c ∧ s.vm.findClass y = some t ∧ s.vm.assignable c t = false := by
  obtain ⟨c, c', hc, -, -⟩ := Cond.castable_spec (ca_of hx)
  obtain ⟨t, t', ht, -, -⟩ := Cond.castable_spec (ca_of hy)
  refine ⟨c, t, hc, ht, ?_⟩
  simpa [Cond.before, Cond.holds, Cond.value, hc, ht] using h
theorem ar_p {s : State} {args : Array Value} {ty : FieldType} (h : (Cond.arrayClass ty).before args s = true) (hp : ∀ c : ClassId, s.vm.findClass ("[" ++ ty.toString) = some c → va_RA s c ty) : ∃ c : ClassId, ArrOfT s c ty ∧ va_RA s c ty := by
  obtain ⟨c, k, comp, h1, h2, h3⟩ := Cond.arrayClass_spec h
  exact ⟨c, fun n z => ⟨fun k h => (by cases h), k, h2, comp, h3⟩, hp c h1⟩
theorem ar_o {s : State} {args : Array Value} {C : String} (h : (Cond.arrayOver (.object C)).before args s = true) : ∃ c : ClassId, ArrOfT s c (.object C) ∧ va_RA s c (.object C) := by
  obtain ⟨comp, c, k, h1, -, h3, h4, h5⟩ := Cond.arrayOver_spec h
  exact ⟨c, fun n z => ⟨fun k h => (by cases h), k, h3, comp, h4⟩, k, comp, h3, h4, h1, h5⟩
theorem vaK_of {s : State} {args : Array Value} (hts : ∀ w ∈ lw_tbl, w.before args s = true) : ∃ (D : va_G) (cA : Nat → ClassId), va_K D clS (gtys cA) s := by
  have htg : ∀ w ∈ tbg, w.before args s = true := fun w h => hts w (tb_tbl h)
  obtain ⟨c0, i0, h0⟩ := u_known htg hin_Ca (htg _ wm52)
  obtain ⟨c1, i1, h1⟩ := u_known htg hin_Cd (htg _ wm99)
  obtain ⟨c2, i2, h2⟩ := u_known htg hin_Di (htg _ wm58)
  obtain ⟨c3, i3, h3⟩ := u_known htg hin_Fr (htg _ wm156)
  obtain ⟨c4, i4, h4⟩ := u_known htg hin_Na (htg _ wm64)
  obtain ⟨c5, i5, h5⟩ := u_known htg hin_Ro (htg _ wm216)
  obtain ⟨c6, i6, h6⟩ := u_known htg hin_Va (htg _ wm508)
  obtain ⟨c7, i7, h7⟩ := u_known htg hin_We (htg _ wm33)
  obtain ⟨c8, i8, h8⟩ := u_known htg hin_Mf (htg _ wm21)
  obtain ⟨c9, i9, h9⟩ := u_known htg hin_Mo (htg _ wm747)
  obtain ⟨a0, b0, d0⟩ := ar_p (htg _ wm49) (fun c h => h)
  obtain ⟨a1, b1, d1⟩ := ar_p (htg _ wm50) (fun c h => h)
  obtain ⟨a2, b2, d2⟩ := ar_o (C := "MetreFractions$Value") (hts _ (List.mem_append_right _ (List.mem_of_getElem? (i := 29) (by decide +kernel))))
  obtain ⟨a3, b3, d3⟩ := ar_o (C := "MetreFractions$Row") (hts _ (List.mem_append_right _ (List.mem_of_getElem? (i := 31) (by decide +kernel))))
  refine ⟨(fun k => [c0, c1, c2, c3, c4, c5, c6, c7, c8, c9].getD k c0, fun k => [i0, i1, i2, i3, i4, i5, i6, i7, i8, i9].getD k i0), fun k => [a0, a1, a2, a3].getD k a0, fun c q hq => ?_, fun k q hq => ?_⟩
  · match c, hq with
    | 0, hq => cases hq; exact h0
    | 1, hq => cases hq; exact h1
    | 2, hq => cases hq; exact h2
    | 3, hq => cases hq; exact h3
    | 4, hq => cases hq; exact h4
    | 5, hq => cases hq; exact h5
    | 6, hq => cases hq; exact h6
    | 7, hq => cases hq; exact h7
    | 8, hq => cases hq; exact h8
    | 9, hq => cases hq; exact h9
    | z + 10, hq => cases hq
  · match k, hq with
    | 0, hq => cases hq; exact ⟨b0, d0⟩
    | 1, hq => cases hq; exact ⟨b1, d1⟩
    | 2, hq => cases hq; exact ⟨b2, d2⟩
    | 3, hq => cases hq; exact ⟨b3, d3⟩
    | z + 4, hq => cases hq
theorem gZ_of {s : State} {args : Array Value} (hts : ∀ w ∈ lw_tbl, w.before args s = true) (hgv : (Jvm.Cond.and given_1 narrow_1).before args s = true) : gZ s.heap.size s := by
  have htg : ∀ w ∈ tbg, w.before args s = true := fun w h => hts w (tb_tbl h)
  have hs := flat_of_before _ hgv
  have hA : ∀ a : Nat, a < s.heap.size → ¬ s.heap.size ≤ a := fun a h => Nat.not_le.mpr h
  obtain ⟨aT, hT1, hT2⟩ := va_Tof (tm := (Term.static "MetreFractions" "TENS" "[I")) (ty := .int) (N := 10) (f := tensF) (A := fun q => s.heap.size ≤ q) (by decide) (hs (.arrayOf (Term.static "MetreFractions" "TENS" "[I") .int) (by decide +kernel)) (va_eqt (hs (.eq (.length (Term.static "MetreFractions" "TENS" "[I")) (.int 10)) (by decide +kernel))) (fun j hj => match j, hj with
    | 0, _ => va_eqt (z := nI (10 ^ 0)) (hs (.eq (.elem (Term.static "MetreFractions" "TENS" "[I") (.int (Int32.ofNat 0))) (.int (nI (10 ^ 0)))) (by decide +kernel))
    | 1, _ => va_eqt (z := nI (10 ^ 1)) (hs (.eq (.elem (Term.static "MetreFractions" "TENS" "[I") (.int (Int32.ofNat 1))) (.int (nI (10 ^ 1)))) (by decide +kernel))
    | 2, _ => va_eqt (z := nI (10 ^ 2)) (hs (.eq (.elem (Term.static "MetreFractions" "TENS" "[I") (.int (Int32.ofNat 2))) (.int (nI (10 ^ 2)))) (by decide +kernel))
    | 3, _ => va_eqt (z := nI (10 ^ 3)) (hs (.eq (.elem (Term.static "MetreFractions" "TENS" "[I") (.int (Int32.ofNat 3))) (.int (nI (10 ^ 3)))) (by decide +kernel))
    | 4, _ => va_eqt (z := nI (10 ^ 4)) (hs (.eq (.elem (Term.static "MetreFractions" "TENS" "[I") (.int (Int32.ofNat 4))) (.int (nI (10 ^ 4)))) (by decide +kernel))
    | 5, _ => va_eqt (z := nI (10 ^ 5)) (hs (.eq (.elem (Term.static "MetreFractions" "TENS" "[I") (.int (Int32.ofNat 5))) (.int (nI (10 ^ 5)))) (by decide +kernel))
    | 6, _ => va_eqt (z := nI (10 ^ 6)) (hs (.eq (.elem (Term.static "MetreFractions" "TENS" "[I") (.int (Int32.ofNat 6))) (.int (nI (10 ^ 6)))) (by decide +kernel))
    | 7, _ => va_eqt (z := nI (10 ^ 7)) (hs (.eq (.elem (Term.static "MetreFractions" "TENS" "[I") (.int (Int32.ofNat 7))) (.int (nI (10 ^ 7)))) (by decide +kernel))
    | 8, _ => va_eqt (z := nI (10 ^ 8)) (hs (.eq (.elem (Term.static "MetreFractions" "TENS" "[I") (.int (Int32.ofNat 8))) (.int (nI (10 ^ 8)))) (by decide +kernel))
    | 9, _ => va_eqt (z := nI (10 ^ 9)) (hs (.eq (.elem (Term.static "MetreFractions" "TENS" "[I") (.int (Int32.ofNat 9))) (.int (nI (10 ^ 9)))) (by decide +kernel))
    | z + 10, h => absurd h (by omega)) hA
  have hZ0 := va_Zof (A := fun q => s.heap.size ≤ q) (hts _ (List.mem_append_right _ (List.mem_of_getElem? (i := 425) (by decide +kernel)))) (htg _ wm1) hT1 hA
  have hS1 : ∀ x ∈ gStr, ∃ a : Nat, vk_R "MetreFractions" x.1 x.2 a s := by
    exact List.forall_mem_cons.mpr ⟨vkr_of (hts _ (List.mem_append_right _ (List.mem_of_getElem? (i := 340) (by decide +kernel)))), List.forall_mem_cons.mpr ⟨vkr_of (hts _ (List.mem_append_right _ (List.mem_of_getElem? (i := 379) (by decide +kernel)))), List.forall_mem_cons.mpr ⟨vkr_of (hts _ (List.mem_append_right _ (List.mem_of_getElem? (i := 617) (by decide +kernel)))), List.forall_mem_cons.mpr ⟨vkr_of (hts _ (List.mem_append_right _ (List.mem_of_getElem? (i := 619) (by decide +kernel)))), List.forall_mem_cons.mpr ⟨vkr_of (hts _ (List.mem_append_right _ (List.mem_of_getElem? (i := 651) (by decide +kernel)))), List.forall_mem_cons.mpr ⟨vkr_of (hts _ (List.mem_append_right _ (List.mem_of_getElem? (i := 659) (by decide +kernel)))), List.forall_mem_cons.mpr ⟨vkr_of (hts _ (List.mem_append_right _ (List.mem_of_getElem? (i := 660) (by decide +kernel)))), List.forall_mem_cons.mpr ⟨vkr_of (hts _ (List.mem_append_right _ (List.mem_of_getElem? (i := 715) (by decide +kernel)))), List.forall_mem_cons.mpr ⟨vkr_of (hts _ (List.mem_append_right _ (List.mem_of_getElem? (i := 727) (by decide +kernel)))), List.forall_mem_cons.mpr ⟨vkr_of (hts _ (List.mem_append_right _ (List.mem_of_getElem? (i := 729) (by decide +kernel)))), List.forall_mem_cons.mpr ⟨vkr_of (hts _ (List.mem_append_right _ (List.mem_of_getElem? (i := 552) (by decide +kernel)))), List.forall_mem_cons.mpr ⟨vkr_of (hts _ (List.mem_append_right _ (List.mem_of_getElem? (i := 676) (by decide +kernel)))), fun _ h => absurd h List.not_mem_nil⟩⟩⟩⟩⟩⟩⟩⟩⟩⟩⟩⟩
  have hN1 : ∀ x ∈ gNo, ∃ c t : ClassId, s.vm.findClass x.1 = some c ∧ s.vm.findClass x.2 = some t ∧ s.vm.assignable c t = false :=
    List.forall_mem_cons.mpr ⟨no_st (htg _ wm17) (htg _ wm16) (hs (.not (.castable "java/lang/IllegalArgumentException" "java/lang/ArithmeticException")) (by decide +kernel)), List.forall_mem_cons.mpr ⟨no_st (htg _ wm16) (htg _ wm19) (hs (.not (.castable "java/lang/ArithmeticException" "java/lang/IndexOutOfBoundsException")) (by decide +kernel)), List.forall_mem_cons.mpr ⟨no_st (htg _ wm17) (htg _ wm19) (hs (.not (.castable "java/lang/IllegalArgumentException" "java/lang/IndexOutOfBoundsException")) (by decide +kernel)), fun _ h => absurd h List.not_mem_nil⟩⟩⟩
  exact ⟨⟨va_Nw.of rfl (hts _ (List.mem_append_right _ (List.mem_of_getElem? (i := 34) (by decide +kernel)))), va_Nw.of rfl (hts _ (List.mem_append_right _ (List.mem_of_getElem? (i := 53) (by decide +kernel)))), va_Nw.of rfl (hts _ (List.mem_append_right _ (List.mem_of_getElem? (i := 59) (by decide +kernel)))), va_Nw.of rfl (hts _ (List.mem_append_right _ (List.mem_of_getElem? (i := 217) (by decide +kernel)))), va_Nw.of rfl (hts _ (List.mem_append_right _ (List.mem_of_getElem? (i := 424) (by decide +kernel)))), va_AO.of (hts _ (List.mem_append_right _ (List.mem_of_getElem? (i := 29) (by decide +kernel)))), va_AO.of (hts _ (List.mem_append_right _ (List.mem_of_getElem? (i := 31) (by decide +kernel)))), gls_of (hts _ (List.mem_append_right _ (List.mem_of_getElem? (i := 326) (by decide +kernel)))) (hs (.isRef (.static "java/lang/Throwable" "UNASSIGNED_STACK" "[Ljava/lang/StackTraceElement;")) (by decide +kernel)), gls_of (hts _ (List.mem_append_right _ (List.mem_of_getElem? (i := 328) (by decide +kernel)))) (hs (.isRef (.static "java/lang/Throwable" "SUPPRESSED_SENTINEL" "Ljava/util/List;")) (by decide +kernel)), hS1, hN1⟩, aT, hZ0, hT2⟩
/-! THE CLAIM OUT OF ONE WALK OF THE LAW'S BODY. Your part is whole_start (and what it stands on); all else here is the same for every law, but numbers. -/
def R_law : String := "MetreFractionsLaw"
def lw_P (b : Addr) (xs : List Int32) (args : Array Value) (s : State) : Prop := args = #[.ref b] ∧ s.IntsAt b xs ∧ xs.length ≤ 3072 ∧ (Jvm.Cond.and given_1 narrow_1).before args s = true
def lw_Q (_ : Array Value) (s : State) (o : Outcome) (t : State) : Prop := o = .returned (some (.int 1)) ∧ Framed s o t [] 601024 7293034
def lw_Z (below : List Frame) (a : Array Value) (s : State) : State → Prop := fun t => ∃ o, t.status = .running ∧ Ended t below o ∧ lw_Q a s o t
/-- the law's own end, with 1 on the stack, nothing written that was there before, its room as the claim has it -/
theorem lw_ret {p : Program} {l : Launch} {e : Env} {s : State} {m : MethodId} {below : List Frame} {meth : Method} {c : Code} {b : Nat} (hx : p.tables.exec = Jvm.exec) (hb : c.code = code) (hr : meth.sig.returnType = ret) (hlocks : meth.locks = false) {pc : Nat} {H : Heap} {ls : Array Slot} (hdg : decode code pc = .ok (.ireturn, 1)) : W p l e room_1 s m #[Value.ref b] below meth c H [] 601024 7293034 (lw_Z below #[Value.ref b] s) (F0 m pc ls [.int 1]) := by
  intro T hT X
  obtain ⟨fs, hret, hrun, hended, hW, hframe⟩ := X.leave (v := some (.int 1)) (hlocks := hlocks) (fun h => by rw [hr] at h; cases h)
  have hmeth' : T.vm.method? m = some meth := X.method'
  refine ⟨T.setFrames fs, ?_, .returned (some (.int 1)), hrun, hended, rfl, ⟨_, rfl⟩, hW, hframe⟩
  jvm_step X.here [X.here.top, hx, hb, hdg, hmeth', hr, ret, narrow_b1]
  (try refine ⟨rfl, ?_⟩); (try refine ⟨rfl, ?_⟩)
  first | (intro acts; rw [hret _ acts rfl rfl rfl]) | rw [hret _ _ rfl rfl rfl]
  exact Steps.refl _
/-- what holds at the law's entry: the machine, the code, the tables' words (any of lw_tbl by 'hts w (by decide +kernel)'), the script of L ints xs at the cell b, what the Statement gives of the start (any of its parts by flat_of_before) -/
def lw_At (p : Program) (s : State) (m : MethodId) (meth : Method) (c : Code) (b L : Nat) (xs : Nat → Int32) : Prop :=
  p.tables.exec = Jvm.exec ∧ c.code = code ∧ meth.sig.returnType = ret ∧ c.maxLocals = 8 ∧ s.vm.findClass R_law = some m.cls ∧ (∀ w ∈ lw_tbl, w.before #[Value.ref b] s = true) ∧ va_X b L xs s s.heap ∧ b < s.heap.size ∧ meth.locks = false ∧ (Jvm.Cond.and given_1 narrow_1).before #[Value.ref b] s = true
theorem gds_0 (s : State) : gds s.heap.size s.heap = 0 := by
  unfold gds
  rw [List.drop_eq_nil_of_le (by simp)]
  rfl
theorem whole_start {p : Program} {e : Env} {s : State} {m : MethodId} {below : List Frame} {meth : Method} {c : Code} (l : Launch) (hfl : ∀ e : Env, l.admits e → e.platform.stackTraces = false) {b L : Nat} {xs : Nat → Int32} (hL : L ≤ 3072) (C0 : lw_At p s m meth c b L xs) : W p l e room_1 s m #[Value.ref b] below meth c s.heap [] 0 0 (lw_Z below #[Value.ref b] s) (entryFrame m ([Value.ref b] : List Value).toArray 8) := by
  obtain ⟨hx, hb, hr, hml, hown, hts, hX, hbl, hlocks, hgv⟩ := C0
  have htg : ∀ w ∈ tbg, w.before #[Value.ref b] s = true := fun w h => hts w (tb_tbl h)
  obtain ⟨D, cA, hK⟩ := vaK_of hts
  have hZ := gZ_of hts hgv
  have hg0 := gds_0 s
  have h0 : LC p l room_1 s m #[Value.ref b] c D cA s.heap.size (s.heap.size + 601024) 7293034 b L xs := ⟨hx, hb, hml, hown, htg, hK, Nat.le_refl _, hZ, by rw [Nat.add_sub_cancel_left]; rfl, by rw [hg0]; rfl, rfl, rfl, hX, hbl, Nat.not_le.mpr hbl, hL, hfl⟩
  have K := law_start (e := e) (below := below) (meth := meth) (Q := lw_Z below #[Value.ref b] s) h0 (s.heap.size, 0) (show s.heap.size + 100000 ≤ s.heap.size + 601024 by omega) (show 0 + 1000000 ≤ 7293034 by decide) (fun L' G B hB1 hB2 => by
    refine gs (pc' := 1293) (fun _ _ _ _ _ hl => lv_iconst (v := 1) hx hb d_La_law_1292 (by decide)) ?_
    intro H locs ls hH hl
    have z1 := hH.1.2.2.1
    have z2 := hH.1.2.2.2
    refine va_forget (fun q hq => hH.2.2.2.2 q hq) ?_
    exact W.widen (by omega) (by omega) (lw_ret hx hb hr hlocks d_La_law_1293))
  have hl := lv_entry [Value.ref b] (n := 8) (Nat.le_of_ble_eq_true rfl)
  rw [lg_entry_eq]
  have K2 := K s.heap [] _ ⟨⟨fun a t e9 h => (by cases h), Nat.le_refl _, Nat.le_refl _, by rw [hg0]; exact Nat.le_refl _⟩, Nat.le_refl _, va_S.rf⟩ hl
  rw [Nat.sub_self, Nat.sub_self] at K2
  exact K2
set_option maxHeartbeats 4000000 in
theorem lw_walk (l : Launch) (hfl : ∀ e : Env, l.admits e → e.platform.stackTraces = false) (b : Addr) (xs : List Int32) : MetFree l x (headSpec (Jvm.Cond.code x code maxLocals ret :: tables_1) room_1) (lw_P b xs) (fun _ _ _ _ _ => True) lw_Q := by
  refine MetFree.of_bodyS (code := code) (maxLocals := maxLocals) (ret := ret) (by decide) ?_ ?_
  · intro args s m h hn
    obtain ⟨meth, c, h1, h2, h3, h4, h5, h6, -, -⟩ := Cond.code_spec hn (atoms_spec (ws := Jvm.Cond.code x code maxLocals ret :: tables_1) h _ List.mem_cons_self)
    exact ⟨meth, c, h1, h2, h3, h4, h5, h6⟩
  · intro p e s m args below meth c s₁ B hml0 hP _
    obtain ⟨rfl, hx, hbd, hgv⟩ := hP
    obtain ⟨scr, harrAt, hlist, hof, hsmall⟩ := hx
    obtain ⟨hcb, hkn, -, -⟩ := State.arrayAt?_spec harrAt
    have hown : s.vm.findClass R_law = some m.cls := findClass_of_methodNamed B.named
    have hts0 : ∀ c ∈ (Jvm.Cond.code x code maxLocals ret :: tables_1), c.before #[Value.ref b] s = true := atoms_spec (ws := Jvm.Cond.code x code maxLocals ret :: tables_1) B.pre
    have hts : ∀ w ∈ lw_tbl, w.before #[Value.ref b] s = true := k2_hts_sels lw_privs (fun w hw => hts0 w (List.mem_cons_of_mem _ hw)) lw_privs_ok
    have hml : c.maxLocals = 8 := B.maxLocals_eq (hts0 _ List.mem_cons_self)
    have X₀ : Stand p l e room_1 s m #[Value.ref b] below meth c s₁ [] 0 0 := Stand.of_body B
    have hh0 : s₁.heap = s.heap := by rw [B.state]; rfl
    have hsz : scr.slots.size = xs.length := by rw [← Array.length_toList, hlist, List.length_map]
    have hval : ∀ j : Nat, j < xs.length → scr.slots[j]? = some (.int (xs.getD j 0)) := fun j hj => by
      rw [← Array.getElem?_toList, hlist]
      simp [hj]
    have hbl : b < s.heap.size := (Array.getElem?_eq_some_iff.mp hcb).1
    have hX : va_X b xs.length (fun j => xs.getD j 0) s s.heap := ⟨scr, hcb, hof, hkn, hsz, hval⟩
    have K : W p l e room_1 s m #[Value.ref b] below meth c s₁.heap [] 0 0 (lw_Z below #[Value.ref b] s) (entryFrame m ([Value.ref b] : List Value).toArray 8) := by
      rw [hh0]
      exact whole_start l hfl hbd ⟨B.exec, B.bytes, B.returns, hml, hown, hts, hX, hbl, B.notSynchronized, hgv⟩
    obtain ⟨t, a1, o, b1, b2, b3⟩ := K s₁ rfl X₀
    exact ⟨t, o, a1, b1, b2, b3⟩
theorem lw_pre_spec {args : Array Value} {s : State} (h : (Jvm.Cond.and given_1 narrow_1).before args s = true) (hr : rest_1_c.before args s = true) : ∃ (b : Addr) (xs : List Int32), lw_P b xs args s := by
  have hs := flat_of_before _ h
  have hq := flat_of_before _ hr
  have hc : (Cond.count 1).before args s = true := hs _ (by decide +kernel)
  have harr : (Cond.arrayOf (.arg 0) .int).before args s = true := hs _ (by decide +kernel)
  have hle : (Cond.le (.length (.arg 0)) (.int 3072)).before args s = true := hs _ (by decide +kernel)
  have hlen : (Cond.isInt (.length (.arg 0))).before args s = true := hq _ (by decide +kernel)
  have hall : (Cond.all (.arg 0) (.isInt (.elem (.arg 0) (.index 0)))).before args s = true := hq _ (by decide +kernel)
  obtain ⟨b, xs, hb, hx⟩ := State.ints_of_pre rfl harr hlen hall
  have hsm : xs.length < 2 ^ 31 := hx.choose_spec.2.2.2
  have hev : (Term.length (.arg 0)).eval args s none [] s = some (.int xs.length.toInt32) := hx.length_eval hb
  have hv := Cond.le_ints hev (show (Term.int 3072).eval args s none [] s = some (.int 3072) from rfl)
  have hd : xs.length.toInt32 ≤ 3072 := by
    simpa [Cond.before, Cond.holds, hv] using hle
  have hN : xs.length ≤ 3072 := (Int32.ofNat_le_ofNat hsm (by decide)).mp (show Int32.ofNat xs.length ≤ Int32.ofNat 3072 from hd)
  exact ⟨b, xs, Cond.one_arg hc (show args[0]? = some (.ref b) from hb), hx, hN, h⟩
theorem lw_comes (l : Launch) (hfl : ∀ e : Env, l.admits e → e.platform.stackTraces = false) : Comes l x (Jvm.Cond.code x code maxLocals ret :: tables_1) room_1 (fun tb e args s => Calls_1 tb e args s ∧ rest_1 tb e args s ∧ Pre_1 tb e args s)
    (fun _ _ args s o t => lw_Q args s o t) := by
  intro p e ha hc hk s m args below hf hfit hheap happ hpre
  obtain ⟨b, xs, hP⟩ := lw_pre_spec hpre.2.2 hpre.2.1
  obtain ⟨k, o, h1, h2, h3, hQ⟩ := lw_walk l hfl b xs p e ha hc hk s m args below hf ((Spec.applies_iff_loose hf).mp happ).1 hP trivial
  exact ⟨k, o, h1, h2, h3, hQ⟩
theorem lw_frame {s t : State} {o : Outcome} {args : Array Value} (h : Framed s o t [] 601024 7293034) :
    Framed s o t (fieldLocs frame_1_writes args s ++ arrayLocs frame_1_arrays args s ++ staticLocs frame_1_statics s) 601024 7293034 := h
theorem lw_limb (L : Cond) (hL : ∀ (args : Array Value) (s t : State), L.after args s (.returned (some (.int 1))) t = true) :
    ArmFor flags0 classFile x code maxLocals ret World_1 tables_1 room_1 Calls_1 rest_1 Pre_1
      (fun tb e a s o t => postC L tb e a s o t ∧ Framed s o t (fieldLocs frame_1_writes a s ++ arrayLocs frame_1_arrays a s ++ staticLocs frame_1_statics s) 601024 7293034) := by
  intro l hf0 _ _ p e ha hc hk s m args below hf hfit hheap happ hpre
  obtain ⟨k, o, h1, h2, h3, rfl, hF⟩ := lw_comes l (fl_off hf0) p e ha hc hk s m args below hf hfit hheap happ hpre
  exact ⟨k, _, h1, h2, h3, hL args s _, lw_frame hF⟩
theorem i_vc : Claimed_1_1 ∧ Claimed_1_2 := ⟨lw_limb limb_1_1 (fun args s t => by simp [limb_1_1, Cond.after, Cond.holds, Cond.value]), lw_limb limb_1_2 (fun args s t => Cond.after_iff.mpr (by
  first | (rw [show limb_1_2 = Cond.eq .result (.int 1) from rfl, Cond.eq_ints (x := 1) (y := 1) rfl rfl]; simp; done) | (simp [limb_1_2, Cond.value, Term.eval]; done)))⟩
