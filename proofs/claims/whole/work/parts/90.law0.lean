/-! ===== METHODS WITH AN EXCEPTION TABLE: their heads, their calls; the script ===== -/
section WH
variable {l : Launch} {y : MethodName} {ws ws' : List Cond} {fr lc : Nat} {D : va_G} {cl : List vw_C} {tys : List (ClassId × FieldType)} {lo MC MS : Nat} {av : List Value} {G : gT} {B : Nat × Nat} {cc : ByteArray} {nL : Nat} {L : List (Nat × Value)} {hh : List (Nat × Nat × Nat × Nat)}
theorem g_metiW {post : Int32 → gT × Nat × Nat → Prop} (hy : plainName y.cls = true) (hw : ws = Cond.codeWith y cc nL (some .int) hh :: ws') (hlen : (lg_sl av).length ≤ nL) (hL : lv_args 0 av = L)
    (body : ∀ (p : Program) (e : Env) (R : Room) (s : State) (m : MethodId) (args : Array Value) (below : List Frame) (meth : Method) (c : Code) (Q : State → Prop), gF p s m args meth c cc nL (some .int) y ws D cl tys lo → R.cells = MC - s.heap.size → R.slots = MS - gds lo s.heap → R.frames = fr → R.locals = lc → c.exceptionTable.toList.map (fun h => (h.startPc, h.endPc, h.handlerPc, h.catchType)) = hh →
      (∀ (pc : Nat) (L : List (Nat × Value)) (v : Int32) (G1 : gT) (B1 : Nat × Nat), decode cc pc = .ok (.ireturn, 1) → B1.1 ≤ MC → B1.2 ≤ MS → post v (G1, B1) → gV p l e R s m args below meth c D cl lo nL Q pc L [.int v] G1 B1) →
      gV p l e R s m args below meth c D cl lo nL Q 0 L [] G B) :
    gMet l y ws fr lc D cl tys lo MC MS av G B (gQi D cl lo post) := by
  intro sz ss
  refine va_MetW (cc := cc) (maxL := nL) (ret := some .int) (hh := hh) hy hw ?_
  intro p e s m args below meth c s₁ Bd hml hv
  obtain ⟨rfl, hG, hK, hsz, hss, hZ⟩ := hv
  subst hsz
  subst hss
  have hts : ∀ w ∈ ws, w.before av.toArray s = true := atoms_spec (ws := ws) Bd.pre
  have hown : s.vm.findClass y.cls = some m.cls := findClass_of_methodNamed Bd.named
  have hnm : meth.name = y.name := (name_of_methodNamed Bd.named Bd.method).1
  obtain ⟨m9, meth9, c9, hn9, hm9, hc9, -, -, hh9, -⟩ := Cond.codeWith_spec (hts _ (by rw [hw]; exact List.mem_cons_self))
  cases Bd.named.symm.trans hn9
  cases Bd.method.symm.trans hm9
  cases (Stand.of_body Bd).code.symm.trans hc9
  have hl := lv_entry av (n := nL) hlen
  rw [hL] at hl
  rw [lg_entry_eq]
  have hF : gF p s m av.toArray meth c cc nL (some .int) y ws D cl tys lo := ⟨Bd.exec, Bd.bytes, Bd.returns, hml, hts, hown, Bd.notSynchronized, hnm, hK, hG.2.1, hZ⟩
  have K := body p e (gR fr lc MC MS s.heap.size (gds lo s.heap)) s m av.toArray below meth c (MQ below (gQi D cl lo post (gds lo s.heap)) av.toArray s (MC - s.heap.size) (MS - gds lo s.heap) (gA lo)) hF rfl rfl rfl rfl hh9 (fun _ _ _ _ _ hd h1 h2 hp => g_iret hF.1 hF.2.1 hF.2.2.1 hF.2.2.2.2.2.2.1 h1 h2 hd hp) s.heap [] _ ⟨hG, Nat.le_refl _, va_S.rf⟩ hl
  rw [Nat.sub_self, Nat.sub_self] at K
  exact K
end WH
section WR
variable {p : Program} {l : Launch} {e : Env} {R : Room} {s : State} {m : MethodId} {args : Array Value} {below : List Frame} {meth : Method} {c : Code} {Q : State → Prop}
variable {D : va_G} {cl : List vw_C} {tys : List (ClassId × FieldType)} {lo MC MS nL : Nat} {pc : Nat} {L : List (Nat × Value)} {st rest : List Value} {G : gT} {B : Nat × Nat} {cc : ByteArray}
theorem xw_runS {y : MethodName} {bytes : ByteArray} {maxL mc ms n index : Nat} {ret : Option FieldType} {hh : List (Nat × Nat × Nat × Nat)} {ws ws' : List Cond} {rm : Room} {Pc : Array Value → State → Prop} {Qc : Array Value → State → Outcome → State → Prop} {free : Addr → Prop} {Ts : List Cond} {own : String} {As : List Value} {g : JFrame} {H : Heap} {locs : List Loc} {cells slots : Nat} (S : CallFix p m c cc nL s args Ts own) (hM : Met l y ws rm Pc Qc mc ms free)
    (hw : ws = Cond.codeWith y bytes maxL ret hh :: ws') (hT : GoodIn Ts (Cond.methodLink own index y :: Cond.static y :: Cond.initialized y.cls :: ws)) (hrc : rm.cells = mc) (hrs : rm.slots = ms) (hd : (y.cls ≠ "java/lang/invoke/MethodHandle" ∧ y.cls ≠ "java/lang/invoke/VarHandle") ∧ (parseMethodDescriptor y.desc).map (fun d => d.parameters.length) = some n) (hR : rm.frames + 1 ≤ R.frames ∧ 8 + (maxL + 11) + rm.locals ≤ R.locals) (hp : PreS s H Pc As)
    (hg : g.method = m) (hn : As.length = n) (hsize : g.locals.size = nL) (hstack : g.stack = As.reverse ++ rest) (hW : 2 * g.monitorRoom + (rest.map fun v => v.category).sum ≤ 8) (hdg : decode cc g.pc = .ok (.invokestatic index, 3)) (hf : cells + mc ≤ R.cells ∧ slots + ms ≤ R.slots) :
    va_Run p l e R s m args below meth c H locs cells slots mc ms g rest (Qc As.toArray) (free) := by
  obtain ⟨hx, hb, hml, ho, hts⟩ := S
  have hl : (Cond.methodLink own index y).before args s = true := hts _ (hT _ List.mem_cons_self).1
  have hstt : (Cond.static y).before args s = true := hts _ (hT _ (List.mem_cons_of_mem _ List.mem_cons_self)).1
  have hini : (Cond.initialized y.cls).before args s = true := hts _ (hT _ (List.mem_cons_of_mem _ (List.mem_cons_of_mem _ List.mem_cons_self))).1
  have hG : GoodIn Ts ws := fun w h => hT w (List.mem_cons_of_mem _ (List.mem_cons_of_mem _ (List.mem_cons_of_mem _ h)))
  have hcw : Cond.codeWith y bytes maxL ret hh ∈ ws := by rw [hw]; exact List.mem_cons_self
  have hcode : (Cond.codeWith y bytes maxL ret hh).before args s = true := hts _ (hG _ hcw).1
  have hK : Back l R p e below s args y 3 8 (PreOf R mc ms Pc) (PostOf Qc mc ms free) := va_backW (hh := hh) (bytes := bytes) (maxL := maxL) (ret := ret) hM hp.1 hrc hrs hR.1 hR.2 (pay_in hts hG) hcw (fun a' U hW => word_at hW (Or.inl (by first | rfl | simp [Cond.onTables, Cond.keeps, Cond.steady])) hini)
  intro T hT X
  obtain ⟨mk, methM, cM, hnamed, hmethM, -, -, -, -, -, -, hsigM⟩ := Cond.codeWith_spec hcode
  have hstatic : methM.isStatic = true := Cond.static_spec hnamed hmethM hstt
  obtain ⟨kP, hkP, -⟩ := className_of_methodNamed hnamed
  have hinitP : kP.init = .initialized := Cond.initialized_spec (findClass_of_methodNamed hnamed) hkP hini
  have hdg' : decode c.code g.pc = .ok (.invokestatic index, 3) := by rw [hb]; exact hdg
  have hlen : As.length = methM.sig.parameters.length := by
    have h2 := hd.2
    rw [hsigM] at h2
    exact hn.trans (Option.some.inj h2).symm
  obtain ⟨vm₁, X₁, hstep₁⟩ := X.invokestatic hx ho hl hnamed hmethM hstatic hkP hinitP hd.1 (g := g) hg (argsL := As) (rest := rest) hlen hstack hdg'
  obtain ⟨v, ⟨U', l2, c2, s2⟩, X', ⟨g', mk', t, L, e1, e2, hq, h1, hL, h2, h3⟩, hsteps⟩ := hK m meth c ⟨T.setVm vm₁, locs, cells, slots⟩ { g with stack := rest } (.invokestatic index) mk As.toArray X₁ hg (hsize.trans hml.symm) hdg' hW (X₁.named hnamed) ⟨hf.1, hf.2, hp.2 (T.setVm vm₁) hT X₁.warmed⟩
  dsimp only [Pt.U, Pt.locs, Pt.cells, Pt.slots] at X' e1 e2 h1 h2 h3 hsteps
  subst h1; subst h2; subst h3
  exact ⟨v, (T.setVm vm₁).calling g' mk' As.toArray, t, U', L, hT, X', hL, e1, e2, hq, fun target h => hstep₁ _ fun acts => by rw [doInvoke_state]; exact hsteps.trans h⟩
theorem g_runSW {y : MethodName} {ws ws' : List Cond} {fr lc n index maxL : Nat} {bytes : ByteArray} {ret : Option FieldType} {hh : List (Nat × Nat × Nat × Nat)} {Ts : List Cond} {own : String} {As : List Value} {Qc : Nat → Array Value → State → Outcome → State → Prop} (S : CallFix p m c cc nL s args Ts own) (hK : va_K D cl tys s) (hZ : gZ lo s) (hRc : R.cells = MC - s.heap.size) (hRs : R.slots = MS - gds lo s.heap)
    (hM : gMet l y ws fr lc D cl tys lo MC MS As G B Qc) (hw : ws = Cond.codeWith y bytes maxL ret hh :: ws') (hT : GoodIn Ts (Cond.methodLink own index y :: Cond.static y :: Cond.initialized y.cls :: ws)) (hd : (y.cls ≠ "java/lang/invoke/MethodHandle" ∧ y.cls ≠ "java/lang/invoke/VarHandle") ∧ (parseMethodDescriptor y.desc).map (fun d => d.parameters.length) = some n) (hR : fr + 1 ≤ R.frames ∧ 8 + (maxL + 11) + lc ≤ R.locals) (h1 : B.1 ≤ MC) (h2 : B.2 ≤ MS) (hn : As.length = n) (hW : (rest.map fun v => v.category).sum ≤ 8) (hdg : decode cc pc = .ok (.invokestatic index, 3)) :
    ∀ (H : Heap) (locs : List Loc) (ls : Array Slot), gH D cl lo s G B H locs → lv_has ls nL L → va_Run p l e R s m args below meth c H locs (H.size - s.heap.size) (gds lo H - gds lo s.heap) (MC - H.size) (MS - gds lo H) (F0 m pc ls (As.reverse ++ rest)) rest (Qc (gds lo H) As.toArray) (gA lo) := by
  intro H locs ls hH hl
  exact xw_runS S (hM H.size (gds lo H)) hw hT rfl rfl hd hR ⟨g_blind, g_pre hK hZ hH⟩ rfl hn hl.1 rfl (lv_room hW) hdg (g_fits hH hRc hRs h1 h2)
/-- the script is read -/
theorem g_sld (hx : p.tables.exec = Jvm.exec) (hb : c.code = cc) {b n : Nat} {xs : Nat → Int32} (hX : va_X b n xs s s.heap) (hbl : b < s.heap.size) (hbA : ¬ lo ≤ b) {i : Int32} (hin : vp_in i n) (hdg : decode cc pc = .ok (.iaload, 1))
    (kk : gV p l e R s m args below meth c D cl lo nL Q (pc + 1) L (.int (xs i.toNatClampNeg) :: rest) G B) : gV p l e R s m args below meth c D cl lo nL Q pc L (.int i :: .ref b :: rest) G B :=
  fun H locs ls hH hl => va_sld hx hb hX hbl hbA hH.2.2 hin hdg (kk H locs ls hH hl)
theorem g_slen (hx : p.tables.exec = Jvm.exec) (hb : c.code = cc) {b n : Nat} {xs : Nat → Int32} (hX : va_X b n xs s s.heap) (hbl : b < s.heap.size) (hbA : ¬ lo ≤ b) (hdg : decode cc pc = .ok (.arraylength, 1))
    (kk : gV p l e R s m args below meth c D cl lo nL Q (pc + 1) L (.int (Int32.ofNat n) :: rest) G B) : gV p l e R s m args below meth c D cl lo nL Q pc L (.ref b :: rest) G B :=
  fun H locs ls hH hl => va_slen hx hb hX hbl hbA hH.2.2 hdg (kk H locs ls hH hl)
end WR
theorem MW_fr {cA : Nat → ClassId} {hm : Nat} {A : Nat → Nat} {S : St} {th : Nat} {m o k : Option Rat} {G G1 : gT} {M : Nat → Prop} (h : MW cA hm A S th m o k G) (hf : gfr M G G1) (hM : ∀ x, 70 ≤ x → x < 90 → ¬ M x) : MW cA hm A S th m o k G1 := by
  obtain ⟨s, s2, kt, kb, ks, R, kf, h1, h2, h3, h4, h5, h6, h7⟩ := h
  exact ⟨s, s2, kt, kb, ks, R, kf, hf _ _ h1 (hM 70 (by decide) (by decide)), MR_fr h2 hf (hM 75 (by decide) (by decide)) (hM 76 (by decide) (by decide)), hf _ _ h3 (hM 83 (by decide) (by decide)), h4, h5, h6, MB_fr h7 hf (fun x h9 => hM x (by omega) (by omega))⟩
/-- a throw has cost a cell -/
theorem CW3_thr {cA : Nat → ClassId} {X : Nat × Nat} {a : AX} {S : St} {F : Nat → Option Rat} {V : Nat → Nat} {G : gT} {B : Nat × Nat} (hC : CW cA X a S F V (G, B)) : CW3 cA (X.1 + 6, X.2 + 209) a S (G, B.1 + 1, B.2 + 6) :=
  ⟨F, V, CW.move (M := fun _ => False) hC (fun _ _ h _ => h) (fun _ h => h.elim) (show B.1 + 1 + X.1 ≤ B.1 + (X.1 + 6) by omega) (show B.2 + 6 + X.2 ≤ B.2 + (X.2 + 209) by omega)⟩
/-- cells of tag 70 and above have turned -/
theorem CW3_up {cA : Nat → ClassId} {X : Nat × Nat} {a : AX} {S : St} {G G1 : gT} {B : Nat × Nat} {M : Nat → Prop} (h : CW3 cA X a S (G, B)) (hf : gfr M G G1) (hM : ∀ x, M x → 70 ≤ x) : CW3 cA X a S (G1, B) := by
  obtain ⟨F, V, hC⟩ := h
  exact ⟨F, V, CW.move hC hf hM (Nat.le_refl _) (Nat.le_refl _)⟩
/-- the rows of an exception table -/
theorem ex_1 {α β : Type} {f : α → β} {xs : List α} {b : β} (h : xs.map f = [b]) : ∃ x, xs = [] ++ x :: [] ∧ f x = b := by
  match xs, h with
  | [x], h => exact ⟨x, rfl, List.head_eq_of_cons_eq h⟩
theorem ex_2 {α β : Type} {f : α → β} {xs : List α} {b1 b2 : β} (h : xs.map f = [b1, b2]) : ∃ x y, xs = [x, y] ∧ f x = b1 ∧ f y = b2 := by
  match xs, h with
  | [x, y], h => exact ⟨x, y, rfl, List.head_eq_of_cons_eq h, List.head_eq_of_cons_eq (List.tail_eq_of_cons_eq h)⟩
