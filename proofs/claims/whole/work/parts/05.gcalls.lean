/-! ===== THE WALK OVER THE GHOST HEAP: a method's head, calls, ends ===== -/
/-- what is at hand in a method's body -/
def gF (p : Program) (s : State) (m : MethodId) (args : Array Value) (meth : Method) (c : Code) (cc : ByteArray) (nL : Nat) (ret : Option FieldType) (y : MethodName) (ws : List Cond) (D : va_G) (cl : List vw_C) (tys : List (ClassId × FieldType)) (lo : Nat) : Prop :=
  p.tables.exec = Jvm.exec ∧ c.code = cc ∧ meth.sig.returnType = ret ∧ c.maxLocals = nL ∧ (∀ w ∈ ws, w.before args s = true) ∧ s.vm.findClass y.cls = some m.cls ∧ meth.locks = false ∧ meth.name = y.name ∧ va_K D cl tys s ∧ lo ≤ s.heap.size ∧ gZ lo s
theorem g_met {l : Launch} {y : MethodName} {ws ws' : List Cond} {fr lc : Nat} {D : va_G} {cl : List vw_C} {tys : List (ClassId × FieldType)} {lo MC MS : Nat} {av : List Value} {G : gT} {B : Nat × Nat} {Qc : Nat → Array Value → State → Outcome → State → Prop} {cc : ByteArray} {nL : Nat} {ret : Option FieldType} {L : List (Nat × Value)}
    (hy : plainFor y = true) (hw : ws = Cond.code y cc nL ret :: ws') (hlen : (lg_sl av).length ≤ nL) (hL : lv_args 0 av = L)
    (body : ∀ (p : Program) (e : Env) (s : State) (m : MethodId) (below : List Frame) (meth : Method) (c : Code), gF p s m av.toArray meth c cc nL ret y ws D cl tys lo →
      gV p l e (gR fr lc MC MS s.heap.size (gds lo s.heap)) s m av.toArray below meth c D cl lo nL (MQ below (Qc (gds lo s.heap)) av.toArray s (MC - s.heap.size) (MS - gds lo s.heap) (gA lo)) 0 L [] G B) :
    gMet l y ws fr lc D cl tys lo MC MS av G B Qc := by
  intro sz ss
  refine va_MetF (cc := cc) (maxL := nL) (ret := ret) hy hw ?_
  intro p e s m args below meth c s₁ Bd hml hv
  obtain ⟨rfl, hG, hK, hsz, hss, hZ⟩ := hv
  subst hsz
  subst hss
  have hts : ∀ w ∈ ws, w.before av.toArray s = true := atoms_spec (ws := ws) Bd.pre
  have hown : s.vm.findClass y.cls = some m.cls := findClass_of_methodNamed Bd.named
  have hnm : meth.name = y.name := (name_of_methodNamed Bd.named Bd.method).1
  have hl := lv_entry av (n := nL) hlen
  rw [hL] at hl
  rw [lg_entry_eq]
  have K := body p e s m below meth c ⟨Bd.exec, Bd.bytes, Bd.returns, hml, hts, hown, Bd.notSynchronized, hnm, hK, hG.2.1, hZ⟩ s.heap [] _ ⟨hG, Nat.le_refl _, va_S.rf⟩ hl
  rw [Nat.sub_self, Nat.sub_self] at K
  exact K
section GC
variable {p : Program} {l : Launch} {e : Env} {R : Room} {s : State} {m : MethodId} {args : Array Value} {below : List Frame} {meth : Method} {c : Code} {Q : State → Prop}
variable {D : va_G} {cl : List vw_C} {tys : List (ClassId × FieldType)} {lo MC MS nL : Nat} {pc : Nat} {L : List (Nat × Value)} {st rest : List Value} {G : gT} {B : Nat × Nat} {cc : ByteArray}
theorem g_blind {av : List Value} {sz ss : Nat} : FrameBlind (gPre D cl tys lo av G B sz ss) := fun a U g mk q => by
  obtain ⟨q0, q1, q2, q3, q4, q5⟩ := q
  exact ⟨q0, q1, va_K.moved (u := U) (U := U.calling g mk a) (Vm.Alike.refl U.vm) q2, q3, q4, gZ_move (U := U.calling g mk a) q5 (State.WarmedH.refl U) (fun _ _ _ => rfl)⟩
theorem g_pre {H : Heap} {locs : List Loc} {av : List Value} (hK : va_K D cl tys s) (hZ : gZ lo s) (hH : gH D cl lo s G B H locs) : ∀ U : State, U.heap = H → s.WarmedH U.vm → gPre D cl tys lo av G B H.size (gds lo H) av.toArray U := fun U hU hW =>
  ⟨rfl, by rw [hU]; exact hH.1, va_K.moved hW.alike hK, by rw [hU], by rw [hU], gZ_move hZ hW (by rw [hU]; exact hH.2.2.2.1)⟩
theorem g_fits {H : Heap} {locs : List Loc} (hH : gH D cl lo s G B H locs) (hRc : R.cells = MC - s.heap.size) (hRs : R.slots = MS - gds lo s.heap) (h1 : B.1 ≤ MC) (h2 : B.2 ≤ MS) : H.size - s.heap.size + (MC - H.size) ≤ R.cells ∧ gds lo H - gds lo s.heap + (MS - gds lo H) ≤ R.slots := by
  have := hH.1.2.2.1
  have := hH.1.2.2.2
  have := hH.2.1
  have := hH.2.2.1
  exact ⟨by omega, by omega⟩
/-- behind a call: the callee's world -/
theorem g_outv {a : Array Value} {post : gT × Nat × Nat → Prop} {st0 : List Value} (hlo : lo ≤ s.heap.size)
    (hr : ∀ (H : Heap) (locs : List Loc) (ls : Array Slot), gH D cl lo s G B H locs → lv_has ls nL L → va_Run p l e R s m args below meth c H locs (H.size - s.heap.size) (gds lo H - gds lo s.heap) (MC - H.size) (MS - gds lo H) (F0 m pc ls st0) rest (gQv D cl lo post (gds lo H) a) (gA lo))
    (kk : ∀ (G1 : gT) (B1 : Nat × Nat), post (G1, B1) → gV p l e R s m args below meth c D cl lo nL Q (pc + 3) L rest G1 B1) : gV p l e R s m args below meth c D cl lo nL Q pc L st0 G B := by
  intro H locs ls hH hl
  refine va_callv (hr H locs ls hH hl) hH.2.2 (fun q _ h => h) (fun q h => h) (fun u t H1 locs1 ht hvm hw hB hz1 hk1 hS => ?_)
  refine g_tight hlo ?_
  subst ht
  exact kk u.1 u.2 hw _ locs1 ls ⟨hB.1, Nat.le_trans hH.2.1 hB.2, hS⟩ hl
theorem g_outi {a : Array Value} {post : Int32 → gT × Nat × Nat → Prop} {st0 : List Value} (hlo : lo ≤ s.heap.size)
    (hr : ∀ (H : Heap) (locs : List Loc) (ls : Array Slot), gH D cl lo s G B H locs → lv_has ls nL L → va_Run p l e R s m args below meth c H locs (H.size - s.heap.size) (gds lo H - gds lo s.heap) (MC - H.size) (MS - gds lo H) (F0 m pc ls st0) rest (gQi D cl lo post (gds lo H) a) (gA lo))
    (kk : ∀ (r : Int32) (G1 : gT) (B1 : Nat × Nat), post r (G1, B1) → gV p l e R s m args below meth c D cl lo nL Q (pc + 3) L (.int r :: rest) G1 B1) : gV p l e R s m args below meth c D cl lo nL Q pc L st0 G B := by
  intro H locs ls hH hl
  refine va_calli (hr H locs ls hH hl) hH.2.2 (fun q _ h => h) (fun q h => h) (fun r u t H1 locs1 ht hvm hw hB hz1 hk1 hS => ?_)
  refine g_tight hlo ?_
  subst ht
  exact kk r u.1 u.2 hw _ locs1 ls ⟨hB.1, Nat.le_trans hH.2.1 hB.2, hS⟩ hl
theorem g_outl {a : Array Value} {post : Int64 → gT × Nat × Nat → Prop} {st0 : List Value} (hlo : lo ≤ s.heap.size)
    (hr : ∀ (H : Heap) (locs : List Loc) (ls : Array Slot), gH D cl lo s G B H locs → lv_has ls nL L → va_Run p l e R s m args below meth c H locs (H.size - s.heap.size) (gds lo H - gds lo s.heap) (MC - H.size) (MS - gds lo H) (F0 m pc ls st0) rest (gQl D cl lo post (gds lo H) a) (gA lo))
    (kk : ∀ (r : Int64) (G1 : gT) (B1 : Nat × Nat), post r (G1, B1) → gV p l e R s m args below meth c D cl lo nL Q (pc + 3) L (.long r :: rest) G1 B1) : gV p l e R s m args below meth c D cl lo nL Q pc L st0 G B := by
  intro H locs ls hH hl
  refine va_calll (hr H locs ls hH hl) hH.2.2 (fun q _ h => h) (fun q h => h) (fun r u t H1 locs1 ht hvm hw hB hz1 hk1 hS => ?_)
  refine g_tight hlo ?_
  subst ht
  exact kk r u.1 u.2 hw _ locs1 ls ⟨hB.1, Nat.le_trans hH.2.1 hB.2, hS⟩ hl
theorem g_outr {a : Array Value} {post : Nat → gT × Nat × Nat → Prop} {st0 : List Value} (hlo : lo ≤ s.heap.size)
    (hr : ∀ (H : Heap) (locs : List Loc) (ls : Array Slot), gH D cl lo s G B H locs → lv_has ls nL L → va_Run p l e R s m args below meth c H locs (H.size - s.heap.size) (gds lo H - gds lo s.heap) (MC - H.size) (MS - gds lo H) (F0 m pc ls st0) rest (gQr D cl lo post (gds lo H) a) (gA lo))
    (kk : ∀ (r : Nat) (G1 : gT) (B1 : Nat × Nat), post r (G1, B1) → gV p l e R s m args below meth c D cl lo nL Q (pc + 3) L (.ref r :: rest) G1 B1) : gV p l e R s m args below meth c D cl lo nL Q pc L st0 G B := by
  intro H locs ls hH hl
  refine va_callr (hr H locs ls hH hl) hH.2.2 (fun q _ h => h) (fun q h => h) (fun u r t H1 locs1 ht hvm hw hB hz1 hk1 hS => ?_)
  refine g_tight hlo ?_
  subst ht
  exact kk r u.1 u.2 hB.1 _ locs1 ls ⟨hB.2.1, Nat.le_trans hH.2.1 hB.2.2, hS⟩ hl
/-- the run of a call, by the callee's contract: an instance method of the class C of the cell b -/
theorem g_runV {y : MethodName} {ws : List Cond} {fr lc n index maxL ci tb : Nat} {bytes : ByteArray} {ret : Option FieldType} {Ts : List Cond} {own : String} {b : Nat} {As fs : List Value} {r : vw_C} {Qc : Nat → Array Value → State → Outcome → State → Prop} (S : CallFix p m c cc nL s args Ts own) (hK : va_K D cl tys s) (hZ : gZ lo s) (hRc : R.cells = MC - s.heap.size) (hRs : R.slots = MS - gds lo s.heap)
    (hM : gMet l y ws fr lc D cl tys lo MC MS (.ref b :: As) G B Qc) (cw : ∀ sz ss, CallW R s args own r.1 index y bytes maxL ret ws (gR fr lc MC MS sz ss) (MC - sz) (MS - ss) n) (hbv : G b = some (tb, .inr (ci, fs))) (hc : cl[ci]? = some r) (h1 : B.1 ≤ MC) (h2 : B.2 ≤ MS) (hn : As.length = n) (hW : (rest.map fun v => v.category).sum ≤ 8) (hdg : decode cc pc = .ok (.invokevirtual index, 3)) :
    ∀ (H : Heap) (locs : List Loc) (ls : Array Slot), gH D cl lo s G B H locs → lv_has ls nL L → va_Run p l e R s m args below meth c H locs (H.size - s.heap.size) (gds lo H - gds lo s.heap) (MC - H.size) (MS - gds lo H) (F0 m pc ls (As.reverse ++ .ref b :: rest)) rest (Qc (gds lo H) (Value.ref b :: As).toArray) (gA lo) := by
  intro H locs ls hH hl
  exact va_runV S (hM H.size (gds lo H)) (cw _ _) ⟨g_blind, va_recv hK (gm_one hH.1.1 hbv) hc (q0 := 0) rfl, g_pre hK hZ hH⟩ rfl hn hl.1 rfl (lv_room hW) hdg (g_fits hH hRc hRs h1 h2)
/-- .. a private one, or a nest mate's -/
theorem g_runVN {y : MethodName} {ws : List Cond} {fr lc n index maxL ci tb : Nat} {bytes : ByteArray} {ret : Option FieldType} {Ts : List Cond} {own host : String} {b : Nat} {As fs : List Value} {r : vw_C} {Qc : Nat → Array Value → State → Outcome → State → Prop} (S : CallFix p m c cc nL s args Ts own) (hK : va_K D cl tys s) (hZ : gZ lo s) (hRc : R.cells = MC - s.heap.size) (hRs : R.slots = MS - gds lo s.heap)
    (hM : gMet l y ws fr lc D cl tys lo MC MS (.ref b :: As) G B Qc) (cw : ∀ sz ss, va_CN R s args own index y host bytes maxL ret ws (gR fr lc MC MS sz ss) (MC - sz) (MS - ss) n ∧ (Cond.instanceMethod y).before args s = true ∧ (Cond.selects r.1 y y).before args s = true) (hbv : G b = some (tb, .inr (ci, fs))) (hc : cl[ci]? = some r) (h1 : B.1 ≤ MC) (h2 : B.2 ≤ MS) (hn : As.length = n) (hW : (rest.map fun v => v.category).sum ≤ 8) (hdg : decode cc pc = .ok (.invokevirtual index, 3)) :
    ∀ (H : Heap) (locs : List Loc) (ls : Array Slot), gH D cl lo s G B H locs → lv_has ls nL L → va_Run p l e R s m args below meth c H locs (H.size - s.heap.size) (gds lo H - gds lo s.heap) (MC - H.size) (MS - gds lo H) (F0 m pc ls (As.reverse ++ .ref b :: rest)) rest (Qc (gds lo H) (Value.ref b :: As).toArray) (gA lo) := by
  intro H locs ls hH hl
  exact va_runVN S (hM H.size (gds lo H)) (cw _ _) ⟨g_blind, va_recv hK (gm_one hH.1.1 hbv) hc (q0 := 0) rfl, g_pre hK hZ hH⟩ rfl hn hl.1 rfl (lv_room hW) hdg (g_fits hH hRc hRs h1 h2)
/-- .. a constructor -/
theorem g_runI {y : MethodName} {ws : List Cond} {fr lc n index maxL : Nat} {bytes : ByteArray} {Ts : List Cond} {own : String} {b : Nat} {As : List Value} {Qc : Nat → Array Value → State → Outcome → State → Prop} (S : CallFix p m c cc nL s args Ts own) (hK : va_K D cl tys s) (hZ : gZ lo s) (hRc : R.cells = MC - s.heap.size) (hRs : R.slots = MS - gds lo s.heap)
    (hM : gMet l y ws fr lc D cl tys lo MC MS (.ref b :: As) G B Qc) (cw : ∀ sz ss, CallB R s args own index y bytes maxL none ws (gR fr lc MC MS sz ss) (MC - sz) (MS - ss) n ∧ y.name = "<init>" ∧ (Cond.instanceMethod y).before args s = true) (h1 : B.1 ≤ MC) (h2 : B.2 ≤ MS) (hn : As.length = n) (hW : (rest.map fun v => v.category).sum ≤ 8) (hdg : decode cc pc = .ok (.invokespecial index, 3)) :
    ∀ (H : Heap) (locs : List Loc) (ls : Array Slot), gH D cl lo s G B H locs → lv_has ls nL L → va_Run p l e R s m args below meth c H locs (H.size - s.heap.size) (gds lo H - gds lo s.heap) (MC - H.size) (MS - gds lo H) (F0 m pc ls (As.reverse ++ .ref b :: rest)) rest (Qc (gds lo H) (Value.ref b :: As).toArray) (gA lo) := by
  intro H locs ls hH hl
  exact va_runI S (hM H.size (gds lo H)) (cw _ _) ⟨g_blind, g_pre hK hZ hH⟩ rfl hn hl.1 rfl (lv_room hW) hdg (g_fits hH hRc hRs h1 h2)
/-- .. a static method -/
theorem g_runS {y : MethodName} {ws : List Cond} {fr lc n index maxL : Nat} {bytes : ByteArray} {ret : Option FieldType} {Ts : List Cond} {own : String} {As : List Value} {Qc : Nat → Array Value → State → Outcome → State → Prop} (S : CallFix p m c cc nL s args Ts own) (hK : va_K D cl tys s) (hZ : gZ lo s) (hRc : R.cells = MC - s.heap.size) (hRs : R.slots = MS - gds lo s.heap)
    (hM : gMet l y ws fr lc D cl tys lo MC MS As G B Qc) (cw : ∀ sz ss, CallB R s args own index y bytes maxL ret ws (gR fr lc MC MS sz ss) (MC - sz) (MS - ss) n ∧ (Cond.static y).before args s = true) (h1 : B.1 ≤ MC) (h2 : B.2 ≤ MS) (hn : As.length = n) (hW : (rest.map fun v => v.category).sum ≤ 8) (hdg : decode cc pc = .ok (.invokestatic index, 3)) :
    ∀ (H : Heap) (locs : List Loc) (ls : Array Slot), gH D cl lo s G B H locs → lv_has ls nL L → va_Run p l e R s m args below meth c H locs (H.size - s.heap.size) (gds lo H - gds lo s.heap) (MC - H.size) (MS - gds lo H) (F0 m pc ls (As.reverse ++ rest)) rest (Qc (gds lo H) As.toArray) (gA lo) := by
  intro H locs ls hH hl
  exact va_runS S (hM H.size (gds lo H)) (cw _ _) ⟨g_blind, g_pre hK hZ hH⟩ rfl hn hl.1 rfl (lv_room hW) hdg (g_fits hH hRc hRs h1 h2)
theorem g_runSN {y : MethodName} {ws : List Cond} {fr lc n index maxL : Nat} {bytes : ByteArray} {ret : Option FieldType} {Ts : List Cond} {own host : String} {As : List Value} {Qc : Nat → Array Value → State → Outcome → State → Prop} (S : CallFix p m c cc nL s args Ts own) (hK : va_K D cl tys s) (hZ : gZ lo s) (hRc : R.cells = MC - s.heap.size) (hRs : R.slots = MS - gds lo s.heap)
    (hM : gMet l y ws fr lc D cl tys lo MC MS As G B Qc) (cw : ∀ sz ss, va_CN R s args own index y host bytes maxL ret ws (gR fr lc MC MS sz ss) (MC - sz) (MS - ss) n ∧ (Cond.static y).before args s = true ∧ True) (h1 : B.1 ≤ MC) (h2 : B.2 ≤ MS) (hn : As.length = n) (hW : (rest.map fun v => v.category).sum ≤ 8) (hdg : decode cc pc = .ok (.invokestatic index, 3)) :
    ∀ (H : Heap) (locs : List Loc) (ls : Array Slot), gH D cl lo s G B H locs → lv_has ls nL L → va_Run p l e R s m args below meth c H locs (H.size - s.heap.size) (gds lo H - gds lo s.heap) (MC - H.size) (MS - gds lo H) (F0 m pc ls (As.reverse ++ rest)) rest (Qc (gds lo H) As.toArray) (gA lo) := by
  intro H locs ls hH hl
  exact va_runSN S (hM H.size (gds lo H)) (cw _ _) ⟨g_blind, g_pre hK hZ hH⟩ rfl hn hl.1 rfl (lv_room hW) hdg (g_fits hH hRc hRs h1 h2)
/-- ends -/
theorem g_wide {H : Heap} {locs : List Loc} {g : JFrame} (hH : gH D cl lo s G B H locs) (h1 : B.1 ≤ MC) (h2 : B.2 ≤ MS) (k : W p l e R s m args below meth c H locs (MC - s.heap.size) (MS - gds lo s.heap) Q g) : W p l e R s m args below meth c H locs (H.size - s.heap.size) (gds lo H - gds lo s.heap) Q g := by
  have := hH.1.2.2.1
  have := hH.1.2.2.2
  exact W.widen (by omega) (by omega) k
theorem g_vret {post : gT × Nat × Nat → Prop} (hx : p.tables.exec = Jvm.exec) (hb : c.code = cc) (hr : meth.sig.returnType = none) (hlocks : meth.locks = false) (h1 : B.1 ≤ MC) (h2 : B.2 ≤ MS) (hdg : decode cc pc = .ok (.return_, 1)) (hp : post (G, B)) :
    gV p l e R s m args below meth c D cl lo nL (MQ below (gQv D cl lo post (gds lo s.heap)) args s (MC - s.heap.size) (MS - gds lo s.heap) (gA lo)) pc L [] G B := by
  intro H locs ls hH hl
  refine g_wide hH h1 h2 ?_
  exact W.vret hx hb hr (fun t ht hW => ⟨⟨(G, B), rfl, hp, by rw [ht]; exact hH.1, by rw [ht]; exact hH.2.1⟩, hH.2.2.F ht⟩) hH.2.2.2.2 hdg hlocks
theorem g_iret {post : Int32 → gT × Nat × Nat → Prop} {v : Int32} (hx : p.tables.exec = Jvm.exec) (hb : c.code = cc) (hr : meth.sig.returnType = some .int) (hlocks : meth.locks = false) (h1 : B.1 ≤ MC) (h2 : B.2 ≤ MS) (hdg : decode cc pc = .ok (.ireturn, 1)) (hp : post v (G, B)) :
    gV p l e R s m args below meth c D cl lo nL (MQ below (gQi D cl lo post (gds lo s.heap)) args s (MC - s.heap.size) (MS - gds lo s.heap) (gA lo)) pc L [.int v] G B := by
  intro H locs ls hH hl
  refine g_wide hH h1 h2 ?_
  exact W.iret hx hb hr (fun t ht hW => ⟨⟨v, (G, B), rfl, hp, by rw [ht]; exact hH.1, by rw [ht]; exact hH.2.1⟩, hH.2.2.F ht⟩) hH.2.2.2.2 hdg hlocks
/-- a boolean -/
theorem g_zret {post : Int32 → gT × Nat × Nat → Prop} {v : Int32} (hx : p.tables.exec = Jvm.exec) (hb : c.code = cc) (hr : meth.sig.returnType = some .boolean) (hn : narrow .boolean (.int v) = .int v) (hlocks : meth.locks = false) (h1 : B.1 ≤ MC) (h2 : B.2 ≤ MS) (hdg : decode cc pc = .ok (.ireturn, 1)) (hp : post v (G, B)) :
    gV p l e R s m args below meth c D cl lo nL (MQ below (gQi D cl lo post (gds lo s.heap)) args s (MC - s.heap.size) (MS - gds lo s.heap) (gA lo)) pc L [.int v] G B := by
  intro H locs ls hH hl
  refine g_wide hH h1 h2 ?_
  exact W.zret hx hb hr hn (fun t ht hW => ⟨⟨v, (G, B), rfl, hp, by rw [ht]; exact hH.1, by rw [ht]; exact hH.2.1⟩, hH.2.2.F ht⟩) hH.2.2.2.2 hdg hlocks
theorem g_lret {post : Int64 → gT × Nat × Nat → Prop} {v : Int64} (hx : p.tables.exec = Jvm.exec) (hb : c.code = cc) (hr : meth.sig.returnType = some .long) (hlocks : meth.locks = false) (h1 : B.1 ≤ MC) (h2 : B.2 ≤ MS) (hdg : decode cc pc = .ok (.lreturn, 1)) (hp : post v (G, B)) :
    gV p l e R s m args below meth c D cl lo nL (MQ below (gQl D cl lo post (gds lo s.heap)) args s (MC - s.heap.size) (MS - gds lo s.heap) (gA lo)) pc L [.long v] G B := by
  intro H locs ls hH hl
  refine g_wide hH h1 h2 ?_
  exact W.lret hx hb hr (fun t ht hW => ⟨⟨v, (G, B), rfl, hp, by rw [ht]; exact hH.1, by rw [ht]; exact hH.2.1⟩, hH.2.2.F ht⟩) hH.2.2.2.2 hdg hlocks
theorem g_aret {post : Nat → gT × Nat × Nat → Prop} {v : Nat} {rt : FieldType} (hx : p.tables.exec = Jvm.exec) (hb : c.code = cc) (hr : meth.sig.returnType = some rt) (hrt : (∃ n, rt = .object n) ∨ ∃ t, rt = .array t) (hlocks : meth.locks = false) (h1 : B.1 ≤ MC) (h2 : B.2 ≤ MS) (hdg : decode cc pc = .ok (.areturn, 1)) (hp : post v (G, B)) :
    gV p l e R s m args below meth c D cl lo nL (MQ below (gQr D cl lo post (gds lo s.heap)) args s (MC - s.heap.size) (MS - gds lo s.heap) (gA lo)) pc L [.ref v] G B := by
  intro H locs ls hH hl
  refine g_wide hH h1 h2 ?_
  exact W.aret hx hb hr hrt (Or.inr ⟨v, rfl⟩) (fun t ht hW => ⟨⟨(G, B), v, rfl, trivial, hp, by rw [ht]; exact hH.1, by rw [ht]; exact hH.2.1⟩, hH.2.2.F ht⟩) hH.2.2.2.2 hdg hlocks
end GC
/-! ===== A METHOD'S CONTRACT, its end as a hypothesis ===== -/
section GM
variable {l : Launch} {y : MethodName} {ws ws' : List Cond} {fr lc : Nat} {D : va_G} {cl : List vw_C} {tys : List (ClassId × FieldType)} {lo MC MS : Nat} {av : List Value} {G : gT} {B : Nat × Nat} {cc : ByteArray} {nL : Nat} {L : List (Nat × Value)}
theorem g_metv {post : gT × Nat × Nat → Prop} (hy : plainFor y = true) (hw : ws = Cond.code y cc nL none :: ws') (hlen : (lg_sl av).length ≤ nL) (hL : lv_args 0 av = L)
    (body : ∀ (p : Program) (e : Env) (R : Room) (s : State) (m : MethodId) (args : Array Value) (below : List Frame) (meth : Method) (c : Code) (Q : State → Prop), gF p s m args meth c cc nL none y ws D cl tys lo → R.cells = MC - s.heap.size → R.slots = MS - gds lo s.heap → R.frames = fr → R.locals = lc →
      (∀ (pc : Nat) (L : List (Nat × Value)) (G1 : gT) (B1 : Nat × Nat), decode cc pc = .ok (.return_, 1) → B1.1 ≤ MC → B1.2 ≤ MS → post (G1, B1) → gV p l e R s m args below meth c D cl lo nL Q pc L [] G1 B1) →
      gV p l e R s m args below meth c D cl lo nL Q 0 L [] G B) :
    gMet l y ws fr lc D cl tys lo MC MS av G B (gQv D cl lo post) :=
  g_met hy hw hlen hL fun p e s m below meth c hF => body p e _ s m _ below meth c _ hF rfl rfl rfl rfl fun _ _ _ _ hd h1 h2 hp => g_vret hF.1 hF.2.1 hF.2.2.1 hF.2.2.2.2.2.2.1 h1 h2 hd hp
theorem g_meti {post : Int32 → gT × Nat × Nat → Prop} (hy : plainFor y = true) (hw : ws = Cond.code y cc nL (some .int) :: ws') (hlen : (lg_sl av).length ≤ nL) (hL : lv_args 0 av = L)
    (body : ∀ (p : Program) (e : Env) (R : Room) (s : State) (m : MethodId) (args : Array Value) (below : List Frame) (meth : Method) (c : Code) (Q : State → Prop), gF p s m args meth c cc nL (some .int) y ws D cl tys lo → R.cells = MC - s.heap.size → R.slots = MS - gds lo s.heap → R.frames = fr → R.locals = lc →
      (∀ (pc : Nat) (L : List (Nat × Value)) (v : Int32) (G1 : gT) (B1 : Nat × Nat), decode cc pc = .ok (.ireturn, 1) → B1.1 ≤ MC → B1.2 ≤ MS → post v (G1, B1) → gV p l e R s m args below meth c D cl lo nL Q pc L [.int v] G1 B1) →
      gV p l e R s m args below meth c D cl lo nL Q 0 L [] G B) :
    gMet l y ws fr lc D cl tys lo MC MS av G B (gQi D cl lo post) :=
  g_met hy hw hlen hL fun p e s m below meth c hF => body p e _ s m _ below meth c _ hF rfl rfl rfl rfl fun _ _ _ _ _ hd h1 h2 hp => g_iret hF.1 hF.2.1 hF.2.2.1 hF.2.2.2.2.2.2.1 h1 h2 hd hp
theorem g_metz {post : Int32 → gT × Nat × Nat → Prop} (hy : plainFor y = true) (hw : ws = Cond.code y cc nL (some .boolean) :: ws') (hlen : (lg_sl av).length ≤ nL) (hL : lv_args 0 av = L)
    (body : ∀ (p : Program) (e : Env) (R : Room) (s : State) (m : MethodId) (args : Array Value) (below : List Frame) (meth : Method) (c : Code) (Q : State → Prop), gF p s m args meth c cc nL (some .boolean) y ws D cl tys lo → R.cells = MC - s.heap.size → R.slots = MS - gds lo s.heap → R.frames = fr → R.locals = lc →
      (∀ (pc : Nat) (L : List (Nat × Value)) (v : Int32) (G1 : gT) (B1 : Nat × Nat), decode cc pc = .ok (.ireturn, 1) → B1.1 ≤ MC → B1.2 ≤ MS → narrow .boolean (.int v) = .int v → post v (G1, B1) → gV p l e R s m args below meth c D cl lo nL Q pc L [.int v] G1 B1) →
      gV p l e R s m args below meth c D cl lo nL Q 0 L [] G B) :
    gMet l y ws fr lc D cl tys lo MC MS av G B (gQi D cl lo post) :=
  g_met hy hw hlen hL fun p e s m below meth c hF => body p e _ s m _ below meth c _ hF rfl rfl rfl rfl fun _ _ _ _ _ hd h1 h2 hn hp => g_zret hF.1 hF.2.1 hF.2.2.1 hn hF.2.2.2.2.2.2.1 h1 h2 hd hp
theorem g_metl {post : Int64 → gT × Nat × Nat → Prop} (hy : plainFor y = true) (hw : ws = Cond.code y cc nL (some .long) :: ws') (hlen : (lg_sl av).length ≤ nL) (hL : lv_args 0 av = L)
    (body : ∀ (p : Program) (e : Env) (R : Room) (s : State) (m : MethodId) (args : Array Value) (below : List Frame) (meth : Method) (c : Code) (Q : State → Prop), gF p s m args meth c cc nL (some .long) y ws D cl tys lo → R.cells = MC - s.heap.size → R.slots = MS - gds lo s.heap → R.frames = fr → R.locals = lc →
      (∀ (pc : Nat) (L : List (Nat × Value)) (v : Int64) (G1 : gT) (B1 : Nat × Nat), decode cc pc = .ok (.lreturn, 1) → B1.1 ≤ MC → B1.2 ≤ MS → post v (G1, B1) → gV p l e R s m args below meth c D cl lo nL Q pc L [.long v] G1 B1) →
      gV p l e R s m args below meth c D cl lo nL Q 0 L [] G B) :
    gMet l y ws fr lc D cl tys lo MC MS av G B (gQl D cl lo post) :=
  g_met hy hw hlen hL fun p e s m below meth c hF => body p e _ s m _ below meth c _ hF rfl rfl rfl rfl fun _ _ _ _ _ hd h1 h2 hp => g_lret hF.1 hF.2.1 hF.2.2.1 hF.2.2.2.2.2.2.1 h1 h2 hd hp
theorem g_metr {post : Nat → gT × Nat × Nat → Prop} {rt : FieldType} (hrt : (∃ n, rt = .object n) ∨ ∃ t, rt = .array t) (hy : plainFor y = true) (hw : ws = Cond.code y cc nL (some rt) :: ws') (hlen : (lg_sl av).length ≤ nL) (hL : lv_args 0 av = L)
    (body : ∀ (p : Program) (e : Env) (R : Room) (s : State) (m : MethodId) (args : Array Value) (below : List Frame) (meth : Method) (c : Code) (Q : State → Prop), gF p s m args meth c cc nL (some rt) y ws D cl tys lo → R.cells = MC - s.heap.size → R.slots = MS - gds lo s.heap → R.frames = fr → R.locals = lc →
      (∀ (pc : Nat) (L : List (Nat × Value)) (v : Nat) (G1 : gT) (B1 : Nat × Nat), decode cc pc = .ok (.areturn, 1) → B1.1 ≤ MC → B1.2 ≤ MS → post v (G1, B1) → gV p l e R s m args below meth c D cl lo nL Q pc L [.ref v] G1 B1) →
      gV p l e R s m args below meth c D cl lo nL Q 0 L [] G B) :
    gMet l y ws fr lc D cl tys lo MC MS av G B (gQr D cl lo post) :=
  g_met hy hw hlen hL fun p e s m below meth c hF => body p e _ s m _ below meth c _ hF rfl rfl rfl rfl fun _ _ _ _ _ hd h1 h2 hp => g_aret hF.1 hF.2.1 hF.2.2.1 hrt hF.2.2.2.2.2.2.1 h1 h2 hd hp
end GM
