/-! ===== METHODS THAT END IN A THROW ===== -/
theorem gds_grow {s t : State} {L : List Loc} {k n lo : Nat} (h : s.sameButNew t L k n) (hlo : lo ≤ s.heap.size) : gds lo s.heap ≤ gds lo t.heap ∧ gds lo t.heap ≤ gds lo s.heap + n := by
  obtain ⟨-, -, -, -, h5, h6⟩ := h
  have e1 : t.heap.toList.map (fun c => c.slots.size) = s.heap.toList.map (fun c => c.slots.size) ++ (t.heap.toList.drop s.heap.size).map (fun c => c.slots.size) := by
    rw [List.map_drop]
    have e2 : (t.heap.toList.map (fun c => c.slots.size)).take s.heap.size = s.heap.toList.map (fun c => c.slots.size) := by
      apply List.ext_getElem?
      intro i
      by_cases hi : i < s.heap.size
      · rw [List.getElem?_take_of_lt hi, List.getElem?_map, List.getElem?_map, Array.getElem?_toList, Array.getElem?_toList]
        obtain ⟨c', q1, -, q2, -⟩ := h6 i s.heap[i] (Array.getElem?_eq_getElem hi)
        rw [q1, Array.getElem?_eq_getElem hi]
        simp [q2]
      · rw [List.getElem?_eq_none (by simp; omega), List.getElem?_eq_none (by simp; omega)]
    rw [← e2, List.take_append_drop]
  have e3 : gds lo t.heap = gds lo s.heap + ((t.heap.toList.drop s.heap.size).map (fun c => c.slots.size)).sum := by
    unfold gds
    rw [List.map_drop, e1, List.drop_append_of_le_length (by simpa using hlo), List.sum_append, List.map_drop (l := s.heap.toList)]
  omega
def MetT (l : Launch) (y : MethodName) (ws : List Cond) (rm : Room) (Pc : Array Value → State → Prop) (Qc : Array Value → State → Outcome → State → Prop) (mc ms : Nat) (free : Addr → Prop) : Prop :=
  MetFree l y (headSpec ws rm) Pc (fun _ _ _ _ _ => True) (fun a st o t => Qc a st o t ∧ ∃ L, Jvm.Free.FrameEndT st o t L mc ms ∧ ∀ q ∈ L, free q.base)
def gMetT (l : Launch) (y : MethodName) (ws : List Cond) (fr lc : Nat) (D : va_G) (cl : List vw_C) (tys : List (ClassId × FieldType)) (lo MC MS : Nat) (av : List Value) (G : gT) (B : Nat × Nat) (Qc : Nat → Array Value → State → Outcome → State → Prop) : Prop :=
  ∀ sz ss : Nat, MetT l y ws (gR fr lc MC MS sz ss) (gPre D cl tys lo av G B sz ss) (Qc ss) (MC - sz) (MS - ss) (gA lo)
/-- the end by a throw of an object of the class xc -/
def gQx (D : va_G) (cl : List vw_C) (lo : Nat) (xc : String) (post : gT × Nat × Nat → Prop) : Nat → Array Value → State → Outcome → State → Prop := fun ss _ st o t =>
  (∃ (x : Nat) (u : gT × Nat × Nat) (ce : Cell), o = .threw x ∧ post u ∧ gB D cl lo ss u t ∧ t.heap[x]? = some ce ∧ st.vm.findClass xc = some ce.cls ∧ ce.vm = .none) ∧ va_F (gA lo) st t
def MQT (below : List Frame) (Qc : Array Value → State → Outcome → State → Prop) (a : Array Value) (s : State) (mc ms : Nat) (free : Addr → Prop) : State → Prop := fun t =>
  ∃ o, t.status = .running ∧ Ended t below o ∧ Qc a s o t ∧ ∃ L, Jvm.Free.FrameEndT s o t L mc ms ∧ ∀ q ∈ L, free q.base
theorem xt_MetF {l : Launch} {y : MethodName} {ws ws' : List Cond} {rm : Room} {Pc : Array Value → State → Prop} {Qc : Array Value → State → Outcome → State → Prop} {mc ms : Nat} {free : Addr → Prop} {cc : ByteArray} {maxL : Nat} {ret : Option FieldType}
    (hy : plainFor y = true) (hw : ws = Cond.code y cc maxL ret :: ws')
    (body : ∀ p e s m args below meth c s₁, BodyLoose p l y (headSpec ws rm) cc maxL ret e s m args below meth c s₁ → c.maxLocals = maxL → c.exceptionTable.isEmpty = true → Pc args s →
      W p l e (headSpec ws rm).room s m args below meth c s.heap [] 0 0 (MQT below Qc args s mc ms free) (entryFrame m args maxL)) : MetT l y ws rm Pc Qc mc ms free := by
  refine MetFree.of_bodySF (code := cc) (maxLocals := maxL) (ret := ret) hy ?_ ?_
  · intro args s m h hn
    obtain ⟨meth, c, h1, h2, h3, h4, h5, h6, -, -⟩ := Cond.code_spec hn (atoms_spec (ws := ws) h _ (by rw [hw]; exact List.mem_cons_self))
    exact ⟨meth, c, h1, h2, h3, h4, h5, h6⟩
  · intro p e s m args below meth c s₁ B hml hP _
    have hh0 : s₁.heap = s.heap := by rw [B.state]; rfl
    have hcode : (Cond.code y cc maxL ret).before args s = true := atoms_spec (ws := ws) B.pre _ (by rw [hw]; exact List.mem_cons_self)
    obtain ⟨t, a1, o, b1, b2, b3⟩ := body p e s m args below meth c s₁ B hml (B.noHandlers hcode) hP s₁ hh0 (Stand.of_body B)
    exact ⟨t, o, a1, b1, b2, ⟨b3.1, b3.2⟩⟩
theorem g_mett {l : Launch} {y : MethodName} {ws ws' : List Cond} {fr lc : Nat} {D : va_G} {cl : List vw_C} {tys : List (ClassId × FieldType)} {lo MC MS : Nat} {av : List Value} {G : gT} {B : Nat × Nat} {xc : String} {post : gT × Nat × Nat → Prop} {cc : ByteArray} {nL : Nat} {ret : Option FieldType} {L : List (Nat × Value)}
    (hy : plainFor y = true) (hw : ws = Cond.code y cc nL ret :: ws') (hlen : (lg_sl av).length ≤ nL) (hL : lv_args 0 av = L)
    (body : ∀ (p : Program) (e : Env) (R : Room) (s : State) (m : MethodId) (args : Array Value) (below : List Frame) (meth : Method) (c : Code) (Q : State → Prop), gF p s m args meth c cc nL ret y ws D cl tys lo → R.cells = MC - s.heap.size → R.slots = MS - gds lo s.heap → R.frames = fr → R.locals = lc → c.exceptionTable.isEmpty = true →
      Q = MQT below (gQx D cl lo xc post (gds lo s.heap)) args s (MC - s.heap.size) (MS - gds lo s.heap) (gA lo) → gV p l e R s m args below meth c D cl lo nL Q 0 L [] G B) :
    gMetT l y ws fr lc D cl tys lo MC MS av G B (gQx D cl lo xc post) := by
  intro sz ss
  refine xt_MetF (cc := cc) (maxL := nL) (ret := ret) hy hw ?_
  intro p e s m args below meth c s₁ Bd hml hne hv
  obtain ⟨rfl, hG, hK, hsz, hss, hZ⟩ := hv
  subst hsz
  subst hss
  have hts : ∀ w ∈ ws, w.before av.toArray s = true := atoms_spec (ws := ws) Bd.pre
  have hown : s.vm.findClass y.cls = some m.cls := findClass_of_methodNamed Bd.named
  have hnm : meth.name = y.name := (name_of_methodNamed Bd.named Bd.method).1
  have hl := lv_entry av (n := nL) hlen
  rw [hL] at hl
  rw [lg_entry_eq]
  have K := body p e (gR fr lc MC MS s.heap.size (gds lo s.heap)) s m av.toArray below meth c _ ⟨Bd.exec, Bd.bytes, Bd.returns, hml, hts, hown, Bd.notSynchronized, hnm, hK, hG.2.1, hZ⟩ rfl rfl rfl rfl hne rfl s.heap [] _ ⟨hG, Nat.le_refl _, va_S.rf⟩ hl
  rw [Nat.sub_self, Nat.sub_self] at K
  exact K
section XT
variable {p : Program} {l : Launch} {e : Env} {R : Room} {s : State} {m : MethodId} {args : Array Value} {below : List Frame} {meth : Method} {c : Code} {Q : State → Prop}
variable {D : va_G} {cl : List vw_C} {tys : List (ClassId × FieldType)} {lo MC MS nL : Nat} {pc : Nat} {L : List (Nat × Value)} {st rest : List Value} {G : gT} {B : Nat × Nat} {cc : ByteArray}
theorem xr_back {T U : State} {locs : List Loc} {cells slots k n : Nat} (X : Stand p l e R s m args below meth c T locs cells slots) (h : (xr_s s T).sameButNew ({ U with vm := (xr_s s T).vm } : State) [] k n) : s.sameButNew ({ U with vm := s.vm } : State) locs (cells + k) (slots + n) := by
  have h2 : (T.setVm s.vm).sameButNew ({ U with vm := s.vm } : State) [] k n := by
    obtain ⟨h1, h3⟩ := h
    refine ⟨?_, h3⟩
    have e0 := congrArg (fun z : State => z.setVm s.vm) h1
    have e1 : T.setVm s.vm = ({ s with heap := T.heap, slotsUsed := T.slotsUsed } : State).setFrames T.frames := X.same.1
    have e2 : (T.setVm s.vm).setFrames U.frames = ({ s with heap := T.heap, slotsUsed := T.slotsUsed } : State).setFrames U.frames := by rw [e1, State.setFrames_setFrames]
    show ({ U with vm := s.vm } : State) = { (T.setVm s.vm).setFrames U.frames with heap := U.heap, slotsUsed := U.slotsUsed }
    rw [e2]
    exact e0
  have h5 := X.same.trans h2
  rw [List.append_nil] at h5
  exact h5
/-- throw new xc(text) -/
theorem g_throw {xc tx : String} {ik ix ic : Nat} {post : gT × Nat × Nat → Prop} (hx : p.tables.exec = Jvm.exec) (hb : c.code = cc) (hml : c.maxLocals = nL) (hown : s.vm.findClass "MetreFractions" = some m.cls) (hts : ∀ w ∈ tbg, w.before args s = true) (hlo : lo ≤ s.heap.size) (hZ : gZ lo s)
    (hfl : ∀ e : Env, l.admits e → e.platform.stackTraces = false) (hlk : meth.locks = false) (hne : c.exceptionTable.isEmpty = true)
    (hat : ∀ U : State, (∀ w ∈ tbg, w.before args U = true) → gLS "java/lang/Throwable" "UNASSIGNED_STACK" "[Ljava/lang/StackTraceElement;" lo U → gLS "java/lang/Throwable" "SUPPRESSED_SENTINEL" "Ljava/util/List;" lo U → ∀ a ∈ Jvm.Bundle.ownAtoms "MetreFractions" ic xc xup, a.before args U = true)
    (hfit : Jvm.Bundle.fit xc = true) (w1 : Cond.classLink "MetreFractions" ik xc ∈ tbg) (w2 : Cond.instantiable xc 6 ∈ tbg) (w3 : Cond.initialized xc ∈ tbg) (hs : (ix, tx) ∈ gStr)
    (hRc : R.cells = MC - s.heap.size) (hRs : R.slots = MS - gds lo s.heap) (hfr : 6 ≤ R.frames) (hlc : 90 ≤ R.locals) (h1 : B.1 + 1 ≤ MC) (h2 : B.2 + 6 ≤ MS)
    (d0 : decode cc pc = .ok (.new ik, 3)) (d3 : decode cc (pc + 3) = .ok (.dup, 1)) (d4 : decode cc (pc + 4) = .ok (.ldc ix, 2)) (d6 : decode cc (pc + 6) = .ok (.invokespecial ic, 3)) (d9 : decode cc (pc + 9) = .ok (.athrow, 1))
    (hp : post (G, B.1 + 1, B.2 + 6)) (hQ : Q = MQT below (gQx D cl lo xc post (gds lo s.heap)) args s (MC - s.heap.size) (MS - gds lo s.heap) (gA lo)) :
    gV p l e R s m args below meth c D cl lo nL Q pc L [] G B := by
  intro H locs ls hH hl T hT X
  have hz1 := hH.1.2.2.1
  have hz2 := hH.1.2.2.2
  have hz3 := hH.2.2.1
  have hz4 := hH.2.1
  have hz5 := hH.1.2.1
  have X1 := xr_rebase X (by omega) (by omega)
  have hW : s.WarmedH (xr_s s T).vm := X.warmed
  have hts' : ∀ w ∈ tbg, w.before args (xr_s s T) = true := fun w hw => word_at hW (good_of_word (List.mem_filter.mp hw).2) (hts w hw)
  have hH0 : (xr_s s T).heap = H := hT
  have hZ' : gZ lo (xr_s s T) := gZ_move hZ hW (by rw [hH0]; exact hH.2.2.2.1)
  obtain ⟨⟨-, -, -, -, -, -, -, hX1, hX2, hX3, -⟩, -⟩ := id hZ'
  have hown' : (xr_s s T).vm.findClass "MetreFractions" = some m.cls := by rw [hW.alike.findClass]; exact hown
  have hA := hat (xr_s s T) hts' hX1 hX2
  obtain ⟨qa, hqa⟩ := hX3 _ hs
  obtain ⟨vm', cC, kC, k1, k2, k3, k4, X2, st2⟩ := X1.newCold hx hown' (hts' _ w1) (hts' _ w2) (hts' _ w3) (g := F0 m pc ls []) rfl (by rw [hb]; exact d0) (by simp only; omega) (by simp only; omega)
  have hout : ∀ q : Nat, ∀ x ∈ c.exceptionTable.toList, covers x q = false := fun q => covers_of_empty hne q
  have key : W p l e { R with cells := R.cells - (H.size - s.heap.size), slots := R.slots - (gds lo H - gds lo s.heap) } (xr_s s T) m args below meth c (H.push { cls := cC, slots := kC.instanceTypes.map defaultValue, vm := .none }) [] (0 + 1) (0 + 6) Q (F0 m (pc + 3) ls [.ref H.size]) := by
    refine lv_dup hx hb d3 rfl ?_
    refine va_ldcS hx hb hown' hqa d4 ?_
    intro T2 hT2 X3
    have hc2 : T2.heap[H.size]? = some ({ cls := cC, slots := kC.instanceTypes.map defaultValue, vm := .none } : Cell) := by rw [hT2, Array.getElem?_push_size]
    obtain ⟨U, s1, s2, s3, s4, s5, ce, s6, s7⟩ := X3.ctorThrowS hx (hfl e X.admits) (own := "MetreFractions") (cls := xc) (names := xup) (ic := ic) hown' hfit (by decide) hA (fun _ h => absurd h List.not_mem_nil) (a := H.size) k1 k2 hc2 (by rw [hH0]; exact Nat.le_refl _) (msg := .ref qa) rfl (g := F0 m (pc + 4 + 2) ls [.ref qa, .ref H.size, .ref H.size]) rfl (by rw [hml]; exact hl.1) rfl rfl (rest := []) rfl (by rw [hb]; exact d6) (by rw [hb]; exact d9) (hout _) (by simp [xup]; omega) (by have : JFrame.monitorRoom (F0 m (pc + 4 + 2) ls [.ref qa, .ref H.size, .ref H.size]) = 0 := rfl; simp [xup, Value.category, this]; omega) hlk
    refine ⟨U, s1, ?_⟩
    rw [hQ]
    have hsame := xr_same s5
    have hgd := gds_grow s5 (lo := lo) (by rw [hH0]; exact hz5)
    have hsz := s5.2.2.1
    have hsz0 := s5.2.1
    simp only [hH0] at hsame hgd hsz hsz0
    have hlt : H.size < U.heap.size := (Array.getElem?_eq_some_iff.mp s6).1
    have hkeep : ∀ q : Nat, q < H.size → U.heap[q]? = H[q]? := fun q hq => hsame q hq
    have hF : va_F (gA lo) s U := ⟨Nat.le_trans hz3 hsz0, fun q q1 q2 => by rw [hkeep q (Nat.lt_of_lt_of_le q1 hz3)]; exact hH.2.2.2.1 q q1 q2⟩
    refine ⟨.threw H.size, s2, s3, ⟨⟨H.size, (G, B.1 + 1, B.2 + 6), ce, rfl, hp, ⟨⟨fun a t e2 ha => ⟨(hH.1.1 a t e2 ha).1, (hH.1.1 a t e2 ha).2.kept (hkeep a (gm_lt hH.1.1 ha))⟩, ?_, ?_, ?_⟩, ?_⟩, s6, ?_, s7.vm⟩, hF⟩, locs, ⟨⟨_, rfl⟩, State.WarmedH.trans hW s4, ?_⟩, hH.2.2.2.2⟩
    · have : (({ U with vm := (xr_s s T).vm } : State)).heap = U.heap := rfl
      rw [this] at hsz0
      omega
    · show U.heap.size ≤ B.1 + 1
      exact Nat.le_trans hsz (by omega)
    · show gds lo U.heap ≤ B.2 + 6
      exact Nat.le_trans hgd.2 (by omega)
    · exact Nat.le_trans hz4 hgd.1
    · have := s7.cls
      rw [hW.alike.findClass] at this
      exact this
    · refine (xr_back X s5).mono ?_ ?_
      · omega
      · omega
  subst hT
  obtain ⟨t, a1, b1⟩ := key _ (by rfl) X2
  exact ⟨t, st2 t a1, b1⟩
end XT
