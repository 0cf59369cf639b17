/-! ===== CALLEES THAT THROW ===== -/
section XC
variable {p : Program} {l : Launch} {e : Env} {R : Room} {s : State} {m : MethodId} {args : Array Value} {below : List Frame} {meth : Method} {c : Code} {Q : State → Prop}
variable {D : va_G} {cl : List vw_C} {tys : List (ClassId × FieldType)} {lo MC MS nL : Nat} {pc : Nat} {L : List (Nat × Value)} {st rest : List Value} {G : gT} {B : Nat × Nat} {cc : ByteArray}
/-- a call that ends in a throw -/
def xt_Run (p : Program) (l : Launch) (e : Env) (R : Room) (s : State) (m : MethodId) (args : Array Value) (below : List Frame) (meth : Method) (c : Code) (H : Heap) (locs : List Loc) (cells slots mc ms : Nat) (g : JFrame) (rest : List Value) (Qa : State → Outcome → State → Prop) (free : Addr → Prop) : Prop :=
  ∀ T : State, T.heap = H → Stand p l e R s m args below meth c T locs cells slots → ∃ (v : Addr) (st₀ t T' : State) (L : List Loc), st₀.heap = H ∧ s.WarmedH st₀.vm ∧ Stand p l e R s m args below meth c T' (locs ++ L) (cells + mc) (slots + ms) ∧ (∀ q ∈ L, free q.base) ∧ T'.heap = t.heap ∧ T'.vm = t.vm ∧ Qa st₀ (.threw v) t ∧
    Steps p.tables e below (T.setTop g) ((T'.setTop { g with stack := rest }).pushFrame (.throwing v))
def xt_Post (Qc : Array Value → State → Outcome → State → Prop) (mc ms : Nat) (free : Addr → Prop) : Jvm.Free.Pt → Array Value → Addr → Jvm.Free.Pt → Prop := fun A a v B =>
  ∃ (g : JFrame) (mk : MethodId) (t : State) (L : List Loc), B.U.heap = t.heap ∧ B.U.vm = t.vm ∧ Qc a (A.U.calling g mk a) (.threw v) t ∧ B.locs = A.locs ++ L ∧ (∀ q ∈ L, free q.base) ∧ B.cells = A.cells + mc ∧ B.slots = A.slots + ms
theorem xt_back {y : MethodName} {len Wd : Nat} {ws : List Cond} {rm : Room} {Pc : Array Value → State → Prop} {Qc : Array Value → State → Outcome → State → Prop} {mc ms : Nat} {free : Addr → Prop} {bytes : ByteArray} {maxL : Nat} {ret : Option FieldType}
    (hM : MetT l y ws rm Pc Qc mc ms free) (hblind : FrameBlind Pc) (hrc : rm.cells = mc) (hrs : rm.slots = ms)
    (hframes : rm.frames + 1 ≤ R.frames) (hlocals : Wd + (maxL + 11) + rm.locals ≤ R.locals)
    (hws : ∀ w ∈ ws, ∀ (a' : Array Value) (U : State), s.WarmedH U.vm → w.before a' U = true) (hcode : Cond.code y bytes maxL ret ∈ ws) (hinit : ∀ (a' : Array Value) (U : State), s.WarmedH U.vm → (Cond.initialized y.cls).before a' U = true) :
    Jvm.Free.BackT l R p e below s args y len Wd (PreOf R mc ms Pc) (xt_Post Qc mc ms free) := by
  refine Jvm.Free.BackT.of_free (S := headSpec ws rm) (P := Pc) (K := fun _ _ _ _ _ => True) (Q := fun a st o t => Qc a st o t ∧ ∃ L, Jvm.Free.FrameEndT st o t L mc ms ∧ ∀ q ∈ L, free q.base) (bytes := bytes) (maxL := maxL) (ret := ret)
    (E := fun a st o t L k n => k = mc ∧ n = ms ∧ ∀ q ∈ L, free q.base) hM hframes hlocals ?_ ?_ (fun _ _ _ _ _ _ _ _ _ => trivial) ?_ ?_
  · intro m meth c A a X hp
    exact ⟨atoms_intro fun w hw => hws w hw _ _ X.warmed, hws _ hcode _ _ X.warmed, hinit _ _ X.warmed, by rw [show (headSpec ws rm).room.cells = mc from hrc]; exact hp.1, by rw [show (headSpec ws rm).room.slots = ms from hrs]; exact hp.2.1⟩
  · intro m meth c A a g mk X hp
    exact hblind _ _ _ _ hp.2.2
  · intro a st o t ⟨hq, L, hF, hL⟩
    exact ⟨L, mc, ms, hF, rfl, rfl, hL⟩
  · intro m meth c A a g mk v t L k n X hp hq hF ⟨e1, e2, hL⟩
    subst e1; subst e2
    exact ⟨g, mk, t, L, rfl, rfl, hq.1, rfl, hL, rfl, rfl⟩
theorem xt_runV {y : MethodName} {bytes : ByteArray} {maxL mc ms n index : Nat} {ret : Option FieldType} {ws : List Cond} {rm : Room} {Pc : Array Value → State → Prop} {Qc : Array Value → State → Outcome → State → Prop} {free : Addr → Prop} {Ts : List Cond} {own C : String} {b : Addr} {As : List Value} {g : JFrame} {H : Heap} {locs : List Loc} {cells slots : Nat} (S : CallFix p m c cc nL s args Ts own) (hM : MetT l y ws rm Pc Qc mc ms free) (cw : CallW R s args own C index y bytes maxL ret ws rm mc ms n) (hp : PreV s H C b Pc As)
    (hg : g.method = m) (hn : As.length = n) (hsize : g.locals.size = nL) (hstack : g.stack = As.reverse ++ .ref b :: rest) (hW : 2 * g.monitorRoom + (rest.map fun v => v.category).sum ≤ 8) (hdg : decode cc g.pc = .ok (.invokevirtual index, 3)) (hf : cells + mc ≤ R.cells ∧ slots + ms ≤ R.slots) :
    xt_Run p l e R s m args below meth c H locs cells slots mc ms g rest (Qc (Value.ref b :: As).toArray) (free) := by
  obtain ⟨⟨hrc, hrs, hfr, hlo, hws, hcw, hcode, hini, hy, hlen, hlink⟩, hinst, hsel⟩ := cw
  have hK : Jvm.Free.BackT l R p e below s args y 3 8 (PreOf R mc ms Pc) (xt_Post Qc mc ms free) := xt_back (bytes := bytes) (maxL := maxL) (ret := ret) hM hp.1 hrc hrs hfr hlo hws hcw (fun a' U hW => word_at hW (Or.inl (by first | rfl | simp [Cond.onTables, Cond.keeps, Cond.steady])) hini)
  obtain ⟨hexec, hb, hml, hown, -⟩ := S
  obtain ⟨-, ⟨cellB, hcB, hoB, hclB⟩, hPc⟩ := hp
  intro T hT X
  obtain ⟨mk, methM, hnamed, hmethM, hstM, habM⟩ := Cond.instanceMethod_spec hinst
  obtain ⟨methM', cM, hmethM', -, -, -, -, -, -, hsigM⟩ := Cond.code_spec hnamed hcode
  cases hmethM.symm.trans hmethM'
  obtain ⟨c2, r2, m2, q1, q2, q3, q4, kP, hkP, hkPi⟩ := Cond.selects_spec hsel
  cases hclB.symm.trans q1
  cases (State.methodFound?_of_named hnamed hy).symm.trans q2
  cases hnamed.symm.trans q3
  have hselP : selectMethod e.platform s.vm cellB.cls mk = .method mk := by rw [Launch.admits_selectMethod X.admits]; exact q4
  have hdg' : decode c.code g.pc = .ok (.invokevirtual index, 3) := by rw [hb]; exact hdg
  obtain ⟨vm₁, X₁, hstep₁⟩ := X.invokevirtual hexec hown hlink hnamed hmethM hstM hkP hkPi hy (a := b) (cell := cellB) (by rw [hT]; exact hcB)
    (fun z h => by rw [h] at hoB; cases hoB) hselP hmethM habM hkP hkPi (g := g) hg (argsL := As) (rest := rest) (hn.trans (hlen _ hsigM)) hstack hdg'
  obtain ⟨v, ⟨U', l2, c2, s2⟩, X', ⟨g', mk', t, L, e1, e2, hq, h1, hL, h2, h3⟩, hsteps⟩ := hK m meth c ⟨T.setVm vm₁, locs, cells, slots⟩ { g with stack := rest } (.invokevirtual index) mk (Value.ref b :: As).toArray X₁ hg (hsize.trans hml.symm) hdg' hW (X₁.named hnamed) ⟨hf.1, hf.2, hPc (T.setVm vm₁) hT X₁.warmed⟩
  dsimp only [Pt.U, Pt.locs, Pt.cells, Pt.slots] at X' e1 e2 h1 h2 h3 hsteps
  subst h1; subst h2; subst h3
  exact ⟨v, (T.setVm vm₁).calling g' mk' (Value.ref b :: As).toArray, t, U', L, hT, X₁.warmed, X', hL, e1, e2, hq, hstep₁ _ fun acts => by rw [doInvoke_state]; exact hsteps⟩
theorem g_thrV {y : MethodName} {ws : List Cond} {fr lc n index maxL ci tb : Nat} {bytes : ByteArray} {ret : Option FieldType} {Ts : List Cond} {own : String} {b : Nat} {As fs : List Value} {r : vw_C} {Qc : Nat → Array Value → State → Outcome → State → Prop} (S : CallFix p m c cc nL s args Ts own) (hK : va_K D cl tys s) (hZ : gZ lo s) (hRc : R.cells = MC - s.heap.size) (hRs : R.slots = MS - gds lo s.heap)
    (hM : gMetT l y ws fr lc D cl tys lo MC MS (.ref b :: As) G B Qc) (cw : ∀ sz ss, CallW R s args own r.1 index y bytes maxL ret ws (gR fr lc MC MS sz ss) (MC - sz) (MS - ss) n) (hbv : G b = some (tb, .inr (ci, fs))) (hc : cl[ci]? = some r) (h1 : B.1 ≤ MC) (h2 : B.2 ≤ MS) (hn : As.length = n) (hW : (rest.map fun v => v.category).sum ≤ 8) (hdg : decode cc pc = .ok (.invokevirtual index, 3)) :
    ∀ (H : Heap) (locs : List Loc) (ls : Array Slot), gH D cl lo s G B H locs → lv_has ls nL L → xt_Run p l e R s m args below meth c H locs (H.size - s.heap.size) (gds lo H - gds lo s.heap) (MC - H.size) (MS - gds lo H) (F0 m pc ls (As.reverse ++ .ref b :: rest)) rest (Qc (gds lo H) (Value.ref b :: As).toArray) (gA lo) := by
  intro H locs ls hH hl
  exact xt_runV S (hM H.size (gds lo H)) (cw _ _) ⟨g_blind, va_recv hK (gm_one hH.1.1 hbv) hc (q0 := 0) rfl, g_pre hK hZ hH⟩ rfl hn hl.1 rfl (lv_room hW) hdg (g_fits hH hRc hRs h1 h2)
/-- a throw that goes on upwards -/
theorem g_up {xc : String} {a : Array Value} {post post' : gT × Nat × Nat → Prop} {st0 : List Value} (hlk : meth.locks = false) (hne : c.exceptionTable.isEmpty = true) (h1 : B.1 ≤ MC) (h2 : B.2 ≤ MS)
    (hr : ∀ (H : Heap) (locs : List Loc) (ls : Array Slot), gH D cl lo s G B H locs → lv_has ls nL L → xt_Run p l e R s m args below meth c H locs (H.size - s.heap.size) (gds lo H - gds lo s.heap) (MC - H.size) (MS - gds lo H) (F0 m pc ls st0) rest (gQx D cl lo xc post (gds lo H) a) (gA lo))
    (hp : ∀ u, post u → post' u) (hQ : Q = MQT below (gQx D cl lo xc post' (gds lo s.heap)) args s (MC - s.heap.size) (MS - gds lo s.heap) (gA lo)) : gV p l e R s m args below meth c D cl lo nL Q pc L st0 G B := by
  intro H locs ls hH hl T hT X
  obtain ⟨v, st₀, t, T', L', q1, q2, X', q3, q4, q5, ⟨⟨x, u, ce, e1, e2, e3, e4, e5, e6⟩, e7⟩, hsteps⟩ := hr H locs ls hH hl T hT X
  cases e1
  have hz1 := hH.1.2.2.1
  have hz2 := hH.1.2.2.2
  have hz3 := hH.2.2.1
  have hz4 := hH.2.1
  obtain ⟨a1, a2, a3, a4, a5⟩ := X'.leaveThrown v (g := { F0 m pc ls st0 with stack := rest }) rfl rfl rfl (covers_of_empty hne _) hlk
  refine ⟨_, hsteps.trans a1, ?_⟩
  rw [hQ]
  have hheap : (T'.setFrames (.throwing v :: below)).heap = t.heap := q4
  refine ⟨.threw v, a2, a3, ⟨⟨v, u, ce, rfl, hp u e2, ⟨by rw [hheap]; exact e3.1, by rw [hheap]; exact Nat.le_trans hz4 e3.2⟩, by rw [hheap]; exact e4, ?_, e6⟩, ?_⟩, locs ++ L', ⟨⟨_, rfl⟩, a4, ?_⟩, ?_⟩
  · rw [q2.alike.findClass] at e5
    exact e5
  · obtain ⟨f1, f2⟩ := e7
    rw [q1] at f1 f2
    refine ⟨by rw [hheap]; exact Nat.le_trans hz3 f1, fun q g1 g2 => ?_⟩
    rw [hheap, f2 q (Nat.lt_of_lt_of_le g1 hz3) g2]
    exact hH.2.2.2.1 q g1 g2
  · exact a5.mono (by omega) (by omega)
  · intro q hq
    rcases List.mem_append.mp hq with h | h
    · exact hH.2.2.2.2 q h
    · exact q3 q h
/-- a throw that is caught here -/
theorem g_catch {xc own nm : String} {a : Array Value} {post : gT × Nat × Nat → Prop} {st0 : List Value} {pre rst : List ClassFile.ExceptionTableEntry} {x : ClassFile.ExceptionTableEntry} (hlo : lo ≤ s.heap.size) (hown : s.vm.findClass own = some m.cls)
    (hr : ∀ (H : Heap) (locs : List Loc) (ls : Array Slot), gH D cl lo s G B H locs → lv_has ls nL L → xt_Run p l e R s m args below meth c H locs (H.size - s.heap.size) (gds lo H - gds lo s.heap) (MC - H.size) (MS - gds lo H) (F0 m pc ls st0) rest (gQx D cl lo xc post (gds lo H) a) (gA lo))
    (hsplit : c.exceptionTable.toList = pre ++ x :: rst)
    (hpass : ∀ y ∈ pre, y.catchType ≠ 0 ∧ ∃ nm' : String, (Cond.classLink own y.catchType nm').before args s = true ∧ (Cond.not (.castable xc nm')).before args s = true)
    (hx : covers x pc = true) (h0 : x.catchType ≠ 0) (hlink : (Cond.classLink own x.catchType nm).before args s = true) (hcast : (Cond.castable xc nm).before args s = true)
    (kk : ∀ (v : Nat) (G1 : gT) (B1 : Nat × Nat), post (G1, B1) → gV p l e R s m args below meth c D cl lo nL Q x.handlerPc L [.ref v] G1 B1) : gV p l e R s m args below meth c D cl lo nL Q pc L st0 G B := by
  intro H locs ls hH hl T hT X
  obtain ⟨v, st₀, t, T', L', q1, q2, X', q3, q4, q5, ⟨⟨v', u, ce, e1, e2, e3, e4, e5, e6⟩, e7⟩, hsteps⟩ := hr H locs ls hH hl T hT X
  cases e1
  have hpl : e.platform.magicAccessors = ({} : Platform).magicAccessors := by rw [X.admits.platform]
  have hcls : s.vm.findClass xc = some ce.cls := by rw [← q2.alike.findClass]; exact e5
  obtain ⟨c3, cT, hc3, hcT, hasg⟩ := Cond.castable_spec hcast
  cases hcls.symm.trans hc3
  obtain ⟨hend, hk0⟩ := X'.catches_of_link hown h0 hlink hcT hasg
  obtain ⟨vm', XV, hst⟩ := X'.thenCaughtThrough v (g := { F0 m pc ls st0 with stack := rest }) rfl hsteps (cell := ce) (by rw [q4]; exact e4) (by rw [e6]; rfl) hk0 pre x rst hsplit (fun y hy => by
    obtain ⟨w0, nm', w1, w2⟩ := hpass y hy
    exact RowPassed.of_words hpl hown w0 w1 hcls w2) hx hend
  have hz3 := hH.2.2.1
  have hS : gH D cl lo s u.1 u.2 t.heap (locs ++ L') := by
    obtain ⟨f1, f2⟩ := e7
    rw [q1] at f1 f2
    refine ⟨e3.1, Nat.le_trans hH.2.1 e3.2, Nat.le_trans hz3 f1, fun q g1 g2 => ?_, fun q hq => ?_⟩
    · rw [f2 q (Nat.lt_of_lt_of_le g1 hz3) g2]
      exact hH.2.2.2.1 q g1 g2
    · rcases List.mem_append.mp hq with h | h
      · exact hH.2.2.2.2 q h
      · exact q3 q h
  have key : W p l e R s m args below meth c t.heap (locs ++ L') (H.size - s.heap.size + (MC - H.size)) (gds lo H - gds lo s.heap + (MS - gds lo H)) Q (F0 m x.handlerPc ls [.ref v]) := g_tight hlo (kk v u.1 u.2 e2 t.heap (locs ++ L') ls hS hl)
  obtain ⟨t2, a1, b1⟩ := key (T'.setVm vm') (by rw [← q4]; rfl) XV
  exact ⟨t2, hst.trans a1, b1⟩
end XC
