/-! ===== THE WALK OVER THE GHOST HEAP: rows ===== -/
/-- what the tables and the heap below lo say beside the classes: the nest's links, the table of tens -/
def tensF : Nat → Value := fun j => .int (nI (10 ^ j))
/-- what throws ask: Throwable's two statics, the texts -/
def gStr : List (Nat × String) := [(79, "a division by 0"), (90, "no such unit"), (129, "no such rule"), (132, "steps are not 1 .. 1000000000"), (151, "nothing is told by this number"), (155, "no such digit"), (158, "no such part"), (200, "a weight is not 1 .. 1000000000"), (206, "no such weight"), (210, "the whole is not 0 .. 1000000000000"), (216, "no such value"), (218, "no such row")]
def gLS (C n d : String) (lo : Nat) (U : State) : Prop := ∃ (cf : ClassId) (kf : Class) (fi : Nat) (f : Field) (a : Nat) (cell : Cell) (v : Value), U.vm.findClass C = some cf ∧ U.fieldFound? C n d = some (cf, kf, fi, f) ∧ f.isStatic = true ∧ kf.statics = some a ∧ U.heap[a]? = some cell ∧ cell.vm.isStatics = true ∧ cell.cls = cf ∧ f.slot < cell.slots.size ∧ kf.staticTypes[f.slot]? = some f.type ∧ cell.slots[f.slot]? = some v ∧ v.isRef = true ∧ ¬ lo ≤ a
theorem gLS_move {C n d : String} {lo : Nat} {s U : State} (h : gLS C n d lo s) (hW : s.WarmedH U.vm) (hq : ∀ a : Nat, a < s.heap.size → ¬ lo ≤ a → U.heap[a]? = s.heap[a]?) : gLS C n d lo U := by
  obtain ⟨cf, kf, fi, f, a, cell, v, h0, h1, h2, h3, h4, h5, h6, h7, h8, h9, h10, h11⟩ := h
  obtain ⟨k', hi', he⟩ := State.fieldFound?_setVm hW.alike h1
  exact ⟨cf, k', fi, f, a, cell, v, by rw [hW.alike.findClass]; exact h0, hi', h2, by rw [he]; exact h3, (hq a (Array.getElem?_eq_some_iff.mp h4).1 h11).trans h4, h5, h6, h7, by rw [he]; exact h8, h9, h10, h11⟩
/-- what cannot be caught there -/
def gNo : List (String × String) := [("java/lang/IllegalArgumentException", "java/lang/ArithmeticException"), ("java/lang/ArithmeticException", "java/lang/IndexOutOfBoundsException"), ("java/lang/IllegalArgumentException", "java/lang/IndexOutOfBoundsException")]
def gX (lo : Nat) (U : State) : Prop := gLS "java/lang/Throwable" "UNASSIGNED_STACK" "[Ljava/lang/StackTraceElement;" lo U ∧ gLS "java/lang/Throwable" "SUPPRESSED_SENTINEL" "Ljava/util/List;" lo U ∧ (∀ x ∈ gStr, ∃ a : Nat, vk_R "MetreFractions" x.1 x.2 a U) ∧ ∀ x ∈ gNo, ∃ c t : ClassId, U.vm.findClass x.1 = some c ∧ U.vm.findClass x.2 = some t ∧ U.vm.assignable c t = false
theorem gX_move {lo : Nat} {s U : State} (h : gX lo s) (hW : s.WarmedH U.vm) (hq : ∀ a : Nat, a < s.heap.size → ¬ lo ≤ a → U.heap[a]? = s.heap[a]?) : gX lo U := by
  obtain ⟨h1, h2, h3, h4⟩ := h
  exact ⟨gLS_move h1 hW hq, gLS_move h2 hW hq, fun x hx => by obtain ⟨a, ha⟩ := h3 x hx; exact ⟨a, ha.warm hW⟩, fun x hx => by obtain ⟨c, t, q1, q2, q3⟩ := h4 x hx; exact ⟨c, t, by rw [hW.alike.findClass]; exact q1, by rw [hW.alike.findClass]; exact q2, by rw [hW.alike.assignable]; exact q3⟩⟩
def gZ (lo : Nat) (U : State) : Prop := (va_Nw (.methodLinkNest "MetreFractions" 30 ⟨"MetreFractions$Weights", "<init>", "()V"⟩ "MetreFractions") U ∧ va_Nw (.methodLinkNest "MetreFractions" 37 ⟨"MetreFractions$Calculator", "<init>", "()V"⟩ "MetreFractions") U ∧ va_Nw (.methodLinkNest "MetreFractions$Calculator" 11 ⟨"MetreFractions$Divider", "<init>", "()V"⟩ "MetreFractions") U ∧ va_Nw (.methodLinkNest "MetreFractions" 76 ⟨"MetreFractions$Row", "<init>", "()V"⟩ "MetreFractions") U ∧ va_Nw (.fieldLinkNest "MetreFractions$Natural" 44 "MetreFractions" "TENS" "[I" "MetreFractions") U ∧ va_AO "MetreFractions$Value" U ∧ va_AO "MetreFractions$Row" U ∧ gX lo U) ∧
  ∃ aT : Nat, va_Z "MetreFractions" "TENS" "[I" (.ref aT) (fun q => lo ≤ q) U U.heap ∧ va_T .int aT 10 tensF (fun q => lo ≤ q) U U.heap
theorem gZ_move {lo : Nat} {s U : State} (h : gZ lo s) (hW : s.WarmedH U.vm) (hq : ∀ a : Nat, a < s.heap.size → ¬ lo ≤ a → U.heap[a]? = s.heap[a]?) : gZ lo U := by
  obtain ⟨⟨h1, h2, h3, h4, h5, h6, h7, h8⟩, aT, hz, ht⟩ := h
  exact ⟨⟨h1.warmM hW, h2.warmM hW, h3.warmM hW, h4.warmM hW, h5.warmF hW, h6.moved hW.alike, h7.moved hW.alike, gX_move h8 hW hq⟩, aT, (hz.moved hW.alike).kept hq, (ht.moved hW.alike).kept hq⟩
/-- what a walk holds at any place: the world, and that nothing below lo has turned -/
def gH (D : va_G) (cl : List vw_C) (lo : Nat) (s : State) (G : gT) (B : Nat × Nat) (H : Heap) (locs : List Loc) : Prop := gw D cl lo G B H ∧ gds lo s.heap ≤ gds lo H ∧ va_S (fun q => lo ≤ q) s.heap H locs
/-- the machine, at pc with the locals L and the stack st, in any heap that holds G within B, comes to Q -/
def gV (p : Program) (l : Launch) (e : Env) (R : Room) (s : State) (m : MethodId) (args : Array Value) (below : List Frame) (meth : Method) (c : Code) (D : va_G) (cl : List vw_C) (lo nL : Nat) (Q : State → Prop) (pc : Nat) (L : List (Nat × Value)) (st : List Value) (G : gT) (B : Nat × Nat) : Prop :=
  ∀ (H : Heap) (locs : List Loc) (ls : Array Slot), gH D cl lo s G B H locs → lv_has ls nL L → W p l e R s m args below meth c H locs (H.size - s.heap.size) (gds lo H - gds lo s.heap) Q (F0 m pc ls st)
/-- a method's end: the world u, which has not shrunk -/
def gB (D : va_G) (cl : List vw_C) (lo ss : Nat) (u : gT × Nat × Nat) (t : State) : Prop := gw D cl lo u.1 u.2 t.heap ∧ ss ≤ gds lo t.heap
abbrev gA (lo : Nat) : Nat → Prop := fun q => lo ≤ q
def gPre (D : va_G) (cl : List vw_C) (tys : List (ClassId × FieldType)) (lo : Nat) (av : List Value) (G : gT) (B : Nat × Nat) (sz ss : Nat) : Array Value → State → Prop := va_Pc av (fun U => gw D cl lo G B U.heap ∧ va_K D cl tys U ∧ U.heap.size = sz ∧ gds lo U.heap = ss ∧ gZ lo U)
abbrev gR (fr lc MC MS sz ss : Nat) : Room := { frames := fr, cells := MC - sz, slots := MS - ss, locals := lc }
/-- the contract: whatever the heap's size, the method ends as Qc says, within MC cells and MS slots in all -/
def gMet (l : Launch) (y : MethodName) (ws : List Cond) (fr lc : Nat) (D : va_G) (cl : List vw_C) (tys : List (ClassId × FieldType)) (lo MC MS : Nat) (av : List Value) (G : gT) (B : Nat × Nat) (Qc : Nat → Array Value → State → Outcome → State → Prop) : Prop :=
  ∀ sz ss : Nat, Met l y ws (gR fr lc MC MS sz ss) (gPre D cl tys lo av G B sz ss) (Qc ss) (MC - sz) (MS - ss) (gA lo)
abbrev gQv (D : va_G) (cl : List vw_C) (lo : Nat) (post : gT × Nat × Nat → Prop) : Nat → Array Value → State → Outcome → State → Prop := fun ss => va_Qv post (gB D cl lo ss) (gA lo)
abbrev gQi (D : va_G) (cl : List vw_C) (lo : Nat) (post : Int32 → gT × Nat × Nat → Prop) : Nat → Array Value → State → Outcome → State → Prop := fun ss => va_Qi post (gB D cl lo ss) (gA lo)
abbrev gQl (D : va_G) (cl : List vw_C) (lo : Nat) (post : Int64 → gT × Nat × Nat → Prop) : Nat → Array Value → State → Outcome → State → Prop := fun ss => va_Ql post (gB D cl lo ss) (gA lo)
abbrev gQr (D : va_G) (cl : List vw_C) (lo : Nat) (post : Nat → gT × Nat × Nat → Prop) : Nat → Array Value → State → Outcome → State → Prop := fun ss => va_Qr (fun _ => True) (fun u a t => post a u ∧ gB D cl lo ss u t) (gA lo)
section GV
variable {p : Program} {l : Launch} {e : Env} {R : Room} {s : State} {m : MethodId} {args : Array Value} {below : List Frame} {meth : Method} {c : Code} {Q : State → Prop}
variable {D : va_G} {cl : List vw_C} {tys : List (ClassId × FieldType)} {lo MC MS nL : Nat} {pc : Nat} {L : List (Nat × Value)} {st rest : List Value} {G : gT} {B : Nat × Nat} {cc : ByteArray}
theorem gs {pc' : Nat} {st' : List Value} (h : ∀ (H : Heap) (locs : List Loc) (ls : Array Slot) (k n : Nat), lv_has ls nL L → W p l e R s m args below meth c H locs k n Q (F0 m pc' ls st') → W p l e R s m args below meth c H locs k n Q (F0 m pc ls st)) (kk : gV p l e R s m args below meth c D cl lo nL Q pc' L st' G B) : gV p l e R s m args below meth c D cl lo nL Q pc L st G B :=
  fun H locs ls hH hl => h H locs ls _ _ hl (kk H locs ls hH hl)
theorem gst {pc' : Nat} {st' : List Value} {L' : List (Nat × Value)} (h : ∀ (H : Heap) (locs : List Loc) (ls : Array Slot) (k n : Nat), lv_has ls nL L → (∀ ls' : Array Slot, lv_has ls' nL L' → W p l e R s m args below meth c H locs k n Q (F0 m pc' ls' st')) → W p l e R s m args below meth c H locs k n Q (F0 m pc ls st)) (kk : gV p l e R s m args below meth c D cl lo nL Q pc' L' st' G B) : gV p l e R s m args below meth c D cl lo nL Q pc L st G B :=
  fun H locs ls hH hl => h H locs ls _ _ hl (fun ls' hl' => kk H locs ls' hH hl')
theorem gsb {P1 P2 : Prop} {pc1 pc2 : Nat} {st1 st2 : List Value} (h : ∀ (H : Heap) (locs : List Loc) (ls : Array Slot) (k n : Nat), (P1 → W p l e R s m args below meth c H locs k n Q (F0 m pc1 ls st1)) → (P2 → W p l e R s m args below meth c H locs k n Q (F0 m pc2 ls st2)) → W p l e R s m args below meth c H locs k n Q (F0 m pc ls st)) (k1 : P1 → gV p l e R s m args below meth c D cl lo nL Q pc1 L st1 G B) (k2 : P2 → gV p l e R s m args below meth c D cl lo nL Q pc2 L st2 G B) : gV p l e R s m args below meth c D cl lo nL Q pc L st G B :=
  fun H locs ls hH hl => h H locs ls _ _ (fun z => k1 z H locs ls hH hl) (fun z => k2 z H locs ls hH hl)
theorem gsub {L' : List (Nat × Value)} (ks : List Nat) (hp : lv_pick L ks = L') (kk : gV p l e R s m args below meth c D cl lo nL Q pc L' st G B) : gV p l e R s m args below meth c D cl lo nL Q pc L st G B :=
  fun H locs ls hH hl => kk H locs ls hH (lv_sub hl ks hp)
theorem g_topi {x : Int32} (kk : ∀ y : Int32, y = x → gV p l e R s m args below meth c D cl lo nL Q pc L (.int y :: rest) G B) : gV p l e R s m args below meth c D cl lo nL Q pc L (.int x :: rest) G B := kk x rfl
theorem g_topl {x : Int64} (kk : ∀ y : Int64, y = x → gV p l e R s m args below meth c D cl lo nL Q pc L (.long y :: rest) G B) : gV p l e R s m args below meth c D cl lo nL Q pc L (.long x :: rest) G B := kk x rfl
theorem g_eqi {x y : Int32} (h : x = y) (kk : gV p l e R s m args below meth c D cl lo nL Q pc L (.int y :: rest) G B) : gV p l e R s m args below meth c D cl lo nL Q pc L (.int x :: rest) G B := h ▸ kk
theorem g_eql {x y : Int64} (h : x = y) (kk : gV p l e R s m args below meth c D cl lo nL Q pc L (.long y :: rest) G B) : gV p l e R s m args below meth c D cl lo nL Q pc L (.long x :: rest) G B := h ▸ kk
theorem g_mono {B' : Nat × Nat} (h1 : B.1 ≤ B'.1) (h2 : B.2 ≤ B'.2) (kk : gV p l e R s m args below meth c D cl lo nL Q pc L st G B') : gV p l e R s m args below meth c D cl lo nL Q pc L st G B :=
  fun H locs ls hH hl => kk H locs ls ⟨⟨hH.1.1, hH.1.2.1, Nat.le_trans hH.1.2.2.1 h1, Nat.le_trans hH.1.2.2.2 h2⟩, hH.2⟩ hl
/-- tags may be turned at any time, cells forgotten -/
theorem g_ghost {G' : gT} (h : ∀ (a t : Nat) (e : va_E), G' a = some (t, e) → ∃ t0, G a = some (t0, e)) (kk : gV p l e R s m args below meth c D cl lo nL Q pc L st G' B) : gV p l e R s m args below meth c D cl lo nL Q pc L st G B :=
  fun H locs ls hH hl => kk H locs ls ⟨⟨fun a t e ha => by obtain ⟨t0, h0⟩ := h a t e ha; exact hH.1.1 a t0 e h0, hH.1.2⟩, hH.2⟩ hl
theorem g_get (hx : p.tables.exec = Jvm.exec) (hb : c.code = cc) {own ref C : String} {T : u_T} {N ci index : Nat} {Ts : List Cond} (hts : ∀ w ∈ Ts, w.before args s = true) (hin : ∀ w ∈ u_ws C T N, w ∈ Ts) (hown : s.vm.findClass own = some m.cls) (hK : va_K D cl tys s) {a t : Nat} {fs : List Value} (ha : G a = some (t, .inr (ci, fs))) (hc : cl[ci]? = some (C, T, N)) (k : Nat) (hk : k < N) (hlink : (Cond.fieldLink own index ref (T k).2.1 (T k).2.2.1).before args s = true) (hsame : ∀ x, s.fieldFound? (T k).1 (T k).2.1 (T k).2.2.1 = some x → s.fieldFound? ref (T k).2.1 (T k).2.2.1 = some x) {v : Value} (hv : fs[k]? = some v) (hdg : decode cc pc = .ok (.getfield index, 3))
    (kk : gV p l e R s m args below meth c D cl lo nL Q (pc + 3) L (v :: rest) G B) : gV p l e R s m args below meth c D cl lo nL Q pc L (.ref a :: rest) G B :=
  fun H locs ls hH hl => va_get hx hb hts hin hown hK (gm_one hH.1.1 ha) 0 rfl hc k hk hlink hsame hv hdg (kk H locs ls hH hl)
theorem g_stay {H H1 : Heap} {locs : List Loc} {a t i : Nat} {e0 e1 : va_E} {c0 c1 : Cell} (hH : gH D cl lo s G B H locs) (ha : G a = some (t, e0)) (h0 : H[a]? = some c0) (h1 : H1[a]? = some c1) (hs : c1.slots.size = c0.slots.size) (he : va_at D cl (a, e1) H1) (hz : H1.size = H.size) (oq : ∀ q : Nat, q ≠ a → H1[q]? = H[q]?) :
    gH D cl lo s (gset G a (t, e1)) B H1 (locs ++ [⟨a, i⟩]) ∧ H1.size - s.heap.size = H.size - s.heap.size ∧ gds lo H1 - gds lo s.heap = gds lo H - gds lo s.heap := by
  have hd : gds lo H1 = gds lo H := gds_put hz h0 h1 hs oq
  refine ⟨⟨⟨gm_put hH.1.1 ha he oq, by rw [hz]; exact hH.1.2.1, by rw [hz]; exact hH.1.2.2.1, by rw [hd]; exact hH.1.2.2.2⟩, by rw [hd]; exact hH.2.1, hH.2.2.put hz oq (hH.1.1 a t e0 ha).1⟩, by rw [hz], by rw [hd]⟩
theorem g_put (hx : p.tables.exec = Jvm.exec) (hb : c.code = cc) {own ref C : String} {T : u_T} {N ci index : Nat} {Ts : List Cond} (hts : ∀ w ∈ Ts, w.before args s = true) (hin : ∀ w ∈ u_ws C T N, w ∈ Ts) (ty0 : Nat → FieldType) (hty : ∀ k, k < N → parseFieldDescriptor (T k).2.2.1 = some (ty0 k)) (hnm : ∀ a, a < N → ∀ b, b < N → a ≠ b → (T a).2.1 ≠ (T b).2.1) (hown : s.vm.findClass own = some m.cls) (hK : va_K D cl tys s) {a t : Nat} {fs : List Value} (ha : G a = some (t, .inr (ci, fs))) (hc : cl[ci]? = some (C, T, N)) (k : Nat) (hk : k < N) (hlink : (Cond.fieldLink own index ref (T k).2.1 (T k).2.2.1).before args s = true) (hsame : ∀ x, s.fieldFound? (T k).1 (T k).2.1 (T k).2.2.1 = some x → s.fieldFound? ref (T k).2.1 (T k).2.2.1 = some x) (hfin : (T k).2.2.2 = false) {ty : FieldType} {v : Value} (hd : parseFieldDescriptor (T k).2.2.1 = some ty) (hn : narrow ty v = v) (hfit : fits ty v = true) (hl : k < fs.length)
    (hdg : decode cc pc = .ok (.putfield index, 3)) (kk : ∀ G1 : gT, G1 a = some (t, .inr (ci, fs.set k v)) → (∀ q, q ≠ a → G1 q = G q) → gV p l e R s m args below meth c D cl lo nL Q (pc + 3) L rest G1 B) : gV p l e R s m args below meth c D cl lo nL Q pc L (v :: .ref a :: rest) G B := by
  intro H locs ls hH hls
  have hap := va_apart (own := own) hts hin ty0 hty hnm hK hc
  obtain ⟨hlo, r, h1, cell, q1, q2, q3, q4⟩ := hH.1.1 a t _ ha
  have hr : r = (C, T, N) := Option.some.inj (h1.symm.trans hc)
  subst hr
  obtain ⟨hS, hfc, kC, hkC, hkind⟩ := hK.1 ci _ hc
  obtain ⟨cf, kf, fi, f, hi, hsl⟩ := hS k hk
  have hlay := hts _ (hin _ (u_in_lay hk))
  unfold u_lay at hlay
  rw [if_neg (by rw [hfin]; decide)] at hlay
  have hst := (u_facts hfc hkC (u_lays hts hin hk) hi).1
  have h6 := u_store hfc hkC hkind hlay hi hd hn hfit
  refine W.putK hx hb (f := f) ⟨hown, hlink, ⟨_, _, _, hsame _ hi⟩, hst⟩ (by rw [q2]; exact h6) q1 q3 (by rw [hsl]; exact k2_hasslot (q4 k hk)) rfl rfl hdg fun H' e1 e2 e3 => ?_
  rw [hsl] at e1 ⊢
  obtain ⟨k1, k2, k3⟩ := g_stay (i := D.2 ci k) (e1 := .inr (ci, fs.set k v)) hH ha q1 e1 (by simp [Cell.setSlot]) ⟨_, hc, t_OB.to (V := updV (vp_V fs) k v) ⟨_, e1, q2, q3, t_set q4 hap hk v⟩ (fun j _ => vp_updV_set hl v j)⟩ e2 e3
  have K := kk _ gset_s (fun q h => gset_n h) H' _ ls k1 hls
  rw [k2, k3] at K
  exact K
theorem g_putF (hx : p.tables.exec = Jvm.exec) (hb : c.code = cc) {own ref C : String} {T : u_T} {N ci index : Nat} {Ts : List Cond} (hts : ∀ w ∈ Ts, w.before args s = true) (hin : ∀ w ∈ u_ws C T N, w ∈ Ts) (ty0 : Nat → FieldType) (hty : ∀ k, k < N → parseFieldDescriptor (T k).2.2.1 = some (ty0 k)) (hnm : ∀ a, a < N → ∀ b, b < N → a ≠ b → (T a).2.1 ≠ (T b).2.1) (hown : s.vm.findClass own = some m.cls) (hK : va_K D cl tys s) {a t : Nat} {fs : List Value} (ha : G a = some (t, .inr (ci, fs))) (hc : cl[ci]? = some (C, T, N)) (k : Nat) (hk : k < N) (hlink : (Cond.fieldLink own index ref (T k).2.1 (T k).2.2.1).before args s = true) (hsame : ∀ x, s.fieldFound? (T k).1 (T k).2.1 (T k).2.2.1 = some x → s.fieldFound? ref (T k).2.1 (T k).2.2.1 = some x) (hfin : (T k).2.2.2 = true) (hin2 : meth.name = "<init>") (hdecl : (T k).1 = own) {ty : FieldType} {v : Value} (hd : parseFieldDescriptor (T k).2.2.1 = some ty) (hn : narrow ty v = v) (hfit : fits ty v = true) (hl : k < fs.length)
    (hdg : decode cc pc = .ok (.putfield index, 3)) (kk : ∀ G1 : gT, G1 a = some (t, .inr (ci, fs.set k v)) → (∀ q, q ≠ a → G1 q = G q) → gV p l e R s m args below meth c D cl lo nL Q (pc + 3) L rest G1 B) : gV p l e R s m args below meth c D cl lo nL Q pc L (v :: .ref a :: rest) G B := by
  intro H locs ls hH hls
  have hap := va_apart (own := own) hts hin ty0 hty hnm hK hc
  obtain ⟨hlo, r, h1, cell, q1, q2, q3, q4⟩ := hH.1.1 a t _ ha
  have hr : r = (C, T, N) := Option.some.inj (h1.symm.trans hc)
  subst hr
  obtain ⟨hS, hfc, kC, hkC, hkind⟩ := hK.1 ci _ hc
  obtain ⟨cf, kf, fi, f, hi, hsl⟩ := hS k hk
  have hlay := hts _ (hin _ (u_in_lay hk))
  unfold u_lay at hlay
  rw [if_pos hfin] at hlay
  have hst := (u_facts hfc hkC (u_lays hts hin hk) hi).1
  have hcf : m.cls = cf := by
    obtain ⟨_, _, c', _, _, _, -, -, hf', -, -, -, hown2, -⟩ := Cond.laysFinal_spec hlay
    have e1 : c' = cf := by have := hi.symm.trans hf'; simp at this; exact this.1.symm
    rw [hdecl] at hown2
    rw [← e1]; exact Option.some.inj (hown.symm.trans hown2)
  have h6 := u_fits hfc hkC hkind (Or.inr hlay) hi hd hn hfit
  refine W.putFinK hx hb hown hlink (hsame _ hi) hst hcf hin2 (by rw [q2]; exact h6) q1 q3 (by rw [hsl]; exact k2_hasslot (q4 k hk)) rfl rfl hdg fun H' e1 e2 e3 => ?_
  rw [hsl] at e1 ⊢
  obtain ⟨k1, k2, k3⟩ := g_stay (i := D.2 ci k) (e1 := .inr (ci, fs.set k v)) hH ha q1 e1 (by simp [Cell.setSlot]) ⟨_, hc, t_OB.to (V := updV (vp_V fs) k v) ⟨_, e1, q2, q3, t_set q4 hap hk v⟩ (fun j _ => vp_updV_set hl v j)⟩ e2 e3
  have K := kk _ gset_s (fun q h => gset_n h) H' _ ls k1 hls
  rw [k2, k3] at K
  exact K
theorem g_iald (hx : p.tables.exec = Jvm.exec) (hb : c.code = cc) (hK : va_K D cl tys s) (t0 : Nat) {a t : Nat} {cA : ClassId} {n : Nat} {f : Nat → Int32} (ha : G a = some (t, .inl (cA, n, .inl f))) (ht : tys[t0]? = some (cA, .int)) {i : Int32} (hin : vp_in i n) (hdg : decode cc pc = .ok (.iaload, 1))
    (kk : gV p l e R s m args below meth c D cl lo nL Q (pc + 1) L (.int (f i.toNatClampNeg) :: rest) G B) : gV p l e R s m args below meth c D cl lo nL Q pc L (.int i :: .ref a :: rest) G B :=
  fun H locs ls hH hl => va_iald hx hb hK (gm_one hH.1.1 ha) 0 t0 rfl ht hin hdg (kk H locs ls hH hl)
theorem g_lald (hx : p.tables.exec = Jvm.exec) (hb : c.code = cc) (hK : va_K D cl tys s) (t0 : Nat) {a t : Nat} {cA : ClassId} {n : Nat} {f : Nat → Int64} (ha : G a = some (t, .inl (cA, n, .inr (.inl f)))) (ht : tys[t0]? = some (cA, .long)) {i : Int32} (hin : vp_in i n) (hdg : decode cc pc = .ok (.laload, 1))
    (kk : gV p l e R s m args below meth c D cl lo nL Q (pc + 1) L (.long (f i.toNatClampNeg) :: rest) G B) : gV p l e R s m args below meth c D cl lo nL Q pc L (.int i :: .ref a :: rest) G B :=
  fun H locs ls hH hl => va_lald hx hb hK (gm_one hH.1.1 ha) 0 t0 rfl ht hin hdg (kk H locs ls hH hl)
theorem g_aald (hx : p.tables.exec = Jvm.exec) (hb : c.code = cc) (hK : va_K D cl tys s) (t0 : Nat) {a t : Nat} {cA : ClassId} {C : String} {n : Nat} {f : Nat → Option Nat} (ha : G a = some (t, .inl (cA, n, .inr (.inr (.inr (.inr f)))))) (ht : tys[t0]? = some (cA, .object C)) {i : Int32} (hin : vp_in i n) (hdg : decode cc pc = .ok (.aaload, 1))
    (kk : gV p l e R s m args below meth c D cl lo nL Q (pc + 1) L (va_rf (f i.toNatClampNeg) :: rest) G B) : gV p l e R s m args below meth c D cl lo nL Q pc L (.int i :: .ref a :: rest) G B :=
  fun H locs ls hH hl => va_aldq hx hb hK (gm_one hH.1.1 ha) 0 t0 rfl ht hin hdg (kk H locs ls hH hl)
theorem g_alen (hx : p.tables.exec = Jvm.exec) (hb : c.code = cc) (hK : va_K D cl tys s) (t0 : Nat) {a t : Nat} {cA : ClassId} {n : Nat} {x : (Nat → Int32) ⊕ (Nat → Int64) ⊕ (Nat → UInt32) ⊕ (Nat → UInt64) ⊕ (Nat → Option Nat)} (ha : G a = some (t, .inl (cA, n, x))) {ty : FieldType} (ht : tys[t0]? = some (cA, ty)) (hdg : decode cc pc = .ok (.arraylength, 1))
    (kk : gV p l e R s m args below meth c D cl lo nL Q (pc + 1) L (.int (nI n) :: rest) G B) : gV p l e R s m args below meth c D cl lo nL Q pc L (.ref a :: rest) G B :=
  fun H locs ls hH hl => va_alen hx hb hK (gm_one hH.1.1 ha) 0 t0 rfl ht rfl hdg (kk H locs ls hH hl)
theorem g_updV_i {f : Nat → Int32} {k : Nat} {x : Int32} : updV (fun j => Value.int (f j)) k (.int x) = fun j => Value.int (upd f k x j) := by
  funext q
  by_cases hq : q = k
  · subst hq; simp [updV, upd]
  · simp [updV, upd, hq]
theorem g_updV_l {f : Nat → Int64} {k : Nat} {x : Int64} : updV (fun j => Value.long (f j)) k (.long x) = fun j => Value.long (vp_updL f k x j) := by
  funext q
  by_cases hq : q = k
  · subst hq; simp [updV, vp_updL]
  · simp [updV, vp_updL, hq]
theorem g_updV_q {f : Nat → Option Nat} {k : Nat} {x : Nat} : updV (fun j => va_rf (f j)) k (.ref x) = fun j => va_rf (va_up f k (some x) j) := by
  funext q
  by_cases hq : q = k
  · subst hq; simp [updV, va_up, va_rf]
  · simp [updV, va_up, hq]
theorem g_iast (hx : p.tables.exec = Jvm.exec) (hb : c.code = cc) (hK : va_K D cl tys s) (t0 : Nat) {a t : Nat} {cA : ClassId} {n : Nat} {f : Nat → Int32} (ha : G a = some (t, .inl (cA, n, .inl f))) (ht : tys[t0]? = some (cA, .int)) {i x : Int32} (hin : vp_in i n) (hdg : decode cc pc = .ok (.iastore, 1))
    (kk : ∀ G1 : gT, G1 a = some (t, .inl (cA, n, .inl (upd f i.toNatClampNeg x))) → (∀ q, q ≠ a → G1 q = G q) → gV p l e R s m args below meth c D cl lo nL Q (pc + 1) L rest G1 B) : gV p l e R s m args below meth c D cl lo nL Q pc L (.int x :: .int i :: .ref a :: rest) G B := by
  intro H locs ls hH hls
  have hca : H[a]? = some (vp_cell cA (n, .inl f)) := (hH.1.1 a t _ ha).2
  refine W.iast hx hb hca ((hK.2 t0 _ ht).1 n (fun j => .int (f j))) (fun q => by cases q) (by show ¬ (i < 0 ∨ (arrV _ _ _).slots.size ≤ _); rw [arrV_size]; exact hin) rfl rfl hdg fun H1 e1 z oq => ?_
  have e2 : H1[a]? = some (vp_cell cA (n, .inl (upd f i.toNatClampNeg x))) := by rw [e1, vp_cell_i, vp_cell_i, arrV_store, g_updV_i]
  obtain ⟨k1, k2, k3⟩ := g_stay (i := i.toNatClampNeg) (e1 := .inl (cA, n, .inl (upd f i.toNatClampNeg x))) hH ha hca e2 (by rw [vp_cell_i, vp_cell_i, arrV_size, arrV_size]) e2 z oq
  have K := kk _ gset_s (fun q h => gset_n h) H1 _ ls k1 hls
  rw [k2, k3] at K
  exact K
theorem g_last (hx : p.tables.exec = Jvm.exec) (hb : c.code = cc) (hK : va_K D cl tys s) (t0 : Nat) {a t : Nat} {cA : ClassId} {n : Nat} {f : Nat → Int64} (ha : G a = some (t, .inl (cA, n, .inr (.inl f)))) (ht : tys[t0]? = some (cA, .long)) {i : Int32} {x : Int64} (hin : vp_in i n) (hdg : decode cc pc = .ok (.lastore, 1))
    (kk : ∀ G1 : gT, G1 a = some (t, .inl (cA, n, .inr (.inl (vp_updL f i.toNatClampNeg x)))) → (∀ q, q ≠ a → G1 q = G q) → gV p l e R s m args below meth c D cl lo nL Q (pc + 1) L rest G1 B) : gV p l e R s m args below meth c D cl lo nL Q pc L (.long x :: .int i :: .ref a :: rest) G B := by
  intro H locs ls hH hls
  have hca : H[a]? = some (vp_cell cA (n, .inr (.inl f))) := (hH.1.1 a t _ ha).2
  refine W.last hx hb hca ((hK.2 t0 _ ht).1 n (fun j => .long (f j))) (fun q => by cases q) (by show ¬ (i < 0 ∨ (arrV _ _ _).slots.size ≤ _); rw [arrV_size]; exact hin) rfl rfl hdg fun H1 e1 z oq => ?_
  have e2 : H1[a]? = some (vp_cell cA (n, .inr (.inl (vp_updL f i.toNatClampNeg x)))) := by rw [e1, vp_cell_l, vp_cell_l, arrV_store, g_updV_l]
  obtain ⟨k1, k2, k3⟩ := g_stay (i := i.toNatClampNeg) (e1 := .inl (cA, n, .inr (.inl (vp_updL f i.toNatClampNeg x)))) hH ha hca e2 (by rw [vp_cell_l, vp_cell_l, arrV_size, arrV_size]) e2 z oq
  have K := kk _ gset_s (fun q h => gset_n h) H1 _ ls k1 hls
  rw [k2, k3] at K
  exact K
theorem g_aast (hx : p.tables.exec = Jvm.exec) (hb : c.code = cc) (hK : va_K D cl tys s) (t0 ci : Nat) {a t tv : Nat} {cA : ClassId} {r : vw_C} {n v : Nat} {vs : List Value} {f : Nat → Option Nat} (ha : G a = some (t, .inl (cA, n, .inr (.inr (.inr (.inr f)))))) (ht : tys[t0]? = some (cA, .object r.1)) (hv : G v = some (tv, .inr (ci, vs))) (hc : cl[ci]? = some r) {i : Int32} (hin : vp_in i n) (hdg : decode cc pc = .ok (.aastore, 1))
    (kk : ∀ G1 : gT, G1 a = some (t, .inl (cA, n, .inr (.inr (.inr (.inr (va_up f i.toNatClampNeg (some v))))))) → (∀ q, q ≠ a → G1 q = G q) → gV p l e R s m args below meth c D cl lo nL Q (pc + 1) L rest G1 B) : gV p l e R s m args below meth c D cl lo nL Q pc L (.ref v :: .int i :: .ref a :: rest) G B := by
  intro H locs ls hH hls
  have hlt : i.toNatClampNeg < n := Nat.not_le.mp fun q => hin (Or.inr q)
  have h0 : ¬ i < 0 := fun q => hin (Or.inl q)
  have hca : H[a]? = some (vp_cell cA (n, .inr (.inr (.inr (.inr f))))) := (hH.1.1 a t _ ha).2
  obtain ⟨-, r', hr', cellV, g1, g2, g3, -⟩ := hH.1.1 v tv _ hv
  have hcls := (hK.1 ci r hc).2
  obtain ⟨kA, comp, k1, k2, k3, -⟩ := (hK.2 t0 _ ht).2
  have hcomp : comp = D.1 ci := Option.some.inj (k3.symm.trans hcls.1)
  subst hcomp
  obtain ⟨kC, hkC, -⟩ := hcls.2
  refine W.aast hx hb hca (fun q h => by cases h) (fun h => by cases h) k1 k2 rfl hkC ⟨h0, by show _ < (arrV _ _ _).slots.size; rw [arrV_size]; exact hlt⟩ g1 (fun q h => by rw [g3] at h; cases h) (by rw [g2]; exact hkC) (by rw [g2]; exact va_assign hcls) rfl rfl hdg fun H1 e1 z oq => ?_
  have e2 : H1[a]? = some (vp_cell cA (n, .inr (.inr (.inr (.inr (va_up f i.toNatClampNeg (some v))))))) := by rw [e1, vp_cell_q, vp_cell_q, arrV_store, g_updV_q]
  obtain ⟨k1, k2, k3⟩ := g_stay (i := i.toNatClampNeg) (e1 := .inl (cA, n, .inr (.inr (.inr (.inr (va_up f i.toNatClampNeg (some v))))))) hH ha hca e2 (by rw [vp_cell_q, vp_cell_q, arrV_size, arrV_size]) e2 z oq
  have K := kk _ gset_s (fun q h => gset_n h) H1 _ ls k1 hls
  rw [k2, k3] at K
  exact K
theorem g_come {H H1 : Heap} {locs : List Loc} {t N : Nat} {e1 : va_E} {c1 : Cell} (hlo : lo ≤ s.heap.size) (hH : gH D cl lo s G B H locs) (h1 : H1[H.size]? = some c1) (hs : c1.slots.size = N) (he : va_at D cl (H.size, e1) H1) (hz : H1.size = H.size + 1) (oq : ∀ q : Nat, q < H.size → H1[q]? = H[q]?) :
    gH D cl lo s (gset G H.size (t, e1)) (B.1 + 1, B.2 + N) H1 locs := by
  have hd : gds lo H1 = gds lo H + N := by rw [← hs]; exact gds_new hH.1.2.1 hz h1 oq
  have hS := hH.2.2
  refine ⟨⟨gm_new hH.1.1 hH.1.2.1 he oq, by rw [hz]; exact Nat.le_trans hH.1.2.1 (Nat.le_succ _), by rw [hz]; exact Nat.succ_le_succ hH.1.2.2.1, by rw [hd]; exact Nat.add_le_add_right hH.1.2.2.2 N⟩, by rw [hd]; exact Nat.le_trans hH.2.1 (Nat.le_add_right _ _), ?_⟩
  exact ⟨by rw [hz]; exact Nat.le_trans hS.1 (Nat.le_succ _), fun x g1 g2 => (oq x (Nat.lt_of_lt_of_le g1 hS.1)).trans (hS.2.1 x g1 g2), hS.2.2⟩
theorem g_roomC {H : Heap} {locs : List Loc} (hH : gH D cl lo s G B H locs) (hRc : R.cells = MC - s.heap.size) {k : Nat} (h1 : B.1 + k ≤ MC) : H.size - s.heap.size + k ≤ R.cells := by
  have := hH.1.2.2.1
  have := hH.2.2.1
  omega
theorem g_roomS {H : Heap} {locs : List Loc} (hH : gH D cl lo s G B H locs) (hRs : R.slots = MS - gds lo s.heap) {k : Nat} (h1 : B.2 + k ≤ MS) : gds lo H - gds lo s.heap + k ≤ R.slots := by
  have := hH.1.2.2.2
  have := hH.2.1
  omega
theorem g_new (hx : p.tables.exec = Jvm.exec) (hb : c.code = cc) {own C : String} {T : u_T} {N ci index : Nat} {Ts : List Cond} (hts : ∀ w ∈ Ts, w.before args s = true) (hin : ∀ w ∈ u_ws C T N, w ∈ Ts) (ty : Nat → FieldType) (hty : ∀ k, k < N → parseFieldDescriptor (T k).2.2.1 = some (ty k)) (hown : s.vm.findClass own = some m.cls) (hcl : (Cond.classLink own index C).before args s = true) (hinst : (Cond.instantiable C N).before args s = true) (hini : (Cond.initialized C).before args s = true)
    (hK : va_K D cl tys s) (hc : cl[ci]? = some (C, T, N)) {fs : List Value} (hfs : ∀ j, j < N → defaultValue (ty j) = vp_V fs j) (hlo : lo ≤ s.heap.size) (hRc : R.cells = MC - s.heap.size) (hRs : R.slots = MS - gds lo s.heap) (h1 : B.1 + 1 ≤ MC) (h2 : B.2 + N ≤ MS) (hdg : decode cc pc = .ok (.new index, 3)) (t : Nat)
    (kk : ∀ (q : Nat) (G1 : gT), G q = none → G1 q = some (t, .inr (ci, fs)) → (∀ x, x ≠ q → G1 x = G x) → gV p l e R s m args below meth c D cl lo nL Q (pc + 3) L (.ref q :: rest) G1 (B.1 + 1, B.2 + N)) : gV p l e R s m args below meth c D cl lo nL Q pc L rest G B := by
  intro H locs ls hH hls
  have hKn := hK.1 ci _ hc
  refine W.newcK hx hb hown hcl hinst hini rfl hdg (g_roomC hH hRc h1) (g_roomS hH hRs h2) hKn.2.1 rfl fun H1 kC hkC e1 z1 o1 => ?_
  refine g_tight hlo ?_
  have hN : (blank (D.1 ci) kC).slots.size = N := by
    obtain ⟨c2, k2, g1, g2, -, -, -, g3⟩ := Cond.instantiable_spec hinst
    cases hKn.2.1.symm.trans g1
    cases hkC.symm.trans g2
    simp [blank, g3]
  exact kk H.size _ (gm_fresh hH.1.1) gset_s (fun x hx => gset_n hx) H1 locs ls (g_come (t := t) hlo hH e1 hN ⟨_, hc, (u_born ty hts hin hKn hkC e1 hty).to hfs⟩ z1 o1) hls
/-- a new array of numbers -/
theorem g_newa (hx : p.tables.exec = Jvm.exec) (hb : c.code = cc) {atype : ArrayType} (harr : (Cond.arrayClass (newarray.typeOf atype)).before args s = true) (hK : va_K D cl tys s) (t0 : Nat) {cA : ClassId} (ht : tys[t0]? = some (cA, newarray.typeOf atype)) (hprim : ∀ C : String, newarray.typeOf atype ≠ .object C)
    {n : Int32} {N : Nat} {a0 : vp_A} (ha : ∀ cA : ClassId, vp_cell cA a0 = arrV cA N (fun _ => defaultValue (newarray.typeOf atype))) (hn : ¬ n < 0) (hN : n.toNatClampNeg = N) (hbytes : N * componentBytes (newarray.typeOf atype) ≤ 536870912) (hlo : lo ≤ s.heap.size) (hRc : R.cells = MC - s.heap.size) (hRs : R.slots = MS - gds lo s.heap) (h1 : B.1 + 1 ≤ MC) (h2 : B.2 + N ≤ MS) (hdg : decode cc pc = .ok (.newarray atype, 2)) (t : Nat)
    (kk : ∀ (q : Nat) (G1 : gT), G q = none → G1 q = some (t, .inl (cA, a0)) → (∀ x, x ≠ q → G1 x = G x) → gV p l e R s m args below meth c D cl lo nL Q (pc + 2) L (.ref q :: rest) G1 (B.1 + 1, B.2 + N)) : gV p l e R s m args below meth c D cl lo nL Q pc L (.int n :: rest) G B := by
  intro H locs ls hH hls
  refine va_newaK hx hb harr rfl hdg rfl hn hN hbytes (g_roomC hH hRc h1) (g_roomS hH hRs h2) rfl fun H1 cA' e1 z1 o1 hAr hNm => ?_
  refine g_tight hlo ?_
  have hcc : cA' = cA := by
    have h := (hK.2 t0 _ ht).2
    generalize newarray.typeOf atype = ty at *
    cases ty with
    | object C => exact absurd rfl (hprim C)
    | _ => exact Option.some.inj (hNm.symm.trans h)
  subst hcc
  have e2 : H1[H.size]? = some (vp_cell cA' a0) := by rw [ha]; exact e1
  exact kk H.size _ (gm_fresh hH.1.1) gset_s (fun x hx => gset_n hx) H1 locs ls (g_come (t := t) hlo hH e2 (by rw [ha, arrV_size]) e2 z1 o1) hls
/-- a new array of references -/
theorem g_anew (hx : p.tables.exec = Jvm.exec) (hb : c.code = cc) {own C : String} {index : Nat} (hown : s.vm.findClass own = some m.cls) (hclink : (Cond.classLink own index C).before args s = true) (hover : (Cond.arrayOver (.object C)).before args s = true) (hK : va_K D cl tys s) (t0 : Nat) {cA : ClassId} (ht : tys[t0]? = some (cA, .object C))
    {n : Int32} {N : Nat} (hn : ¬ n < 0) (hN : n.toNatClampNeg = N) (hbytes : N * 4 ≤ 536870912) (hlo : lo ≤ s.heap.size) (hRc : R.cells = MC - s.heap.size) (hRs : R.slots = MS - gds lo s.heap) (h1 : B.1 + 1 ≤ MC) (h2 : B.2 + N ≤ MS) (hdg : decode cc pc = .ok (.anewarray index, 3)) (t : Nat)
    (kk : ∀ (q : Nat) (G1 : gT), G q = none → G1 q = some (t, .inl (cA, N, .inr (.inr (.inr (.inr (fun _ => none)))))) → (∀ x, x ≠ q → G1 x = G x) → gV p l e R s m args below meth c D cl lo nL Q (pc + 3) L (.ref q :: rest) G1 (B.1 + 1, B.2 + N)) : gV p l e R s m args below meth c D cl lo nL Q pc L (.int n :: rest) G B := by
  intro H locs ls hH hls
  subst hN
  refine W.anew hx hb hown hclink hover rfl hdg rfl hn hbytes (g_roomC hH hRc h1) (g_roomS hH hRs h2) fun cA' kA comp f1 f2 f3 f4 => ?_
  refine g_tight hlo ?_
  obtain ⟨-, -, -, -, -, f5⟩ := (hK.2 t0 _ ht).2
  have hcc : cA' = cA := Option.some.inj (f1.symm.trans f5)
  subst hcc
  generalize hH1 : H.push ({ cls := cA', slots := Array.replicate n.toNatClampNeg .null, vm := .none } : Cell) = H1
  have z1 : H1.size = H.size + 1 := by rw [← hH1, Array.size_push]
  have e1 : H1[H.size]? = some (vp_cell cA' (n.toNatClampNeg, .inr (.inr (.inr (.inr (fun _ => none)))))) := by rw [← hH1, Array.getElem?_push_size, arrV_new]; rfl
  have o1 : ∀ q : Nat, q < H.size → H1[q]? = H[q]? := fun q hq => by rw [← hH1, Array.getElem?_push, if_neg (Nat.ne_of_lt hq)]
  exact kk H.size _ (gm_fresh hH.1.1) gset_s (fun x hx => gset_n hx) H1 locs ls (g_come (t := t) hlo hH e1 (by rw [vp_cell_q, arrV_size]) e1 z1 o1) hls
/-- System.arraycopy of ints, between two arrays or within one -/
theorem g_copyi (hx : p.tables.exec = Jvm.exec) (hb : c.code = cc) (hml : c.maxLocals = nL) {own : String} {index : Nat} (hown : s.vm.findClass own = some m.cls) (hlink : (Cond.methodLink own index arraycopyName).before args s = true) (hnat : (Cond.native arraycopyName).before args s = true) (hstat : (Cond.static arraycopyName).before args s = true) (hini : (Cond.initialized "java/lang/System").before args s = true)
    (hK : va_K D cl tys s) (t0 : Nat) {a0 a u0 u1 : Nat} {cA : ClassId} {n0 n1 : Nat} {f g : Nat → Int32} (ha0 : G a0 = some (u0, .inl (cA, n0, .inl f))) (ha1 : G a = some (u1, .inl (cA, n1, .inl g))) (ht : tys[t0]? = some (cA, .int))
    {sp dp n : Int32} (h1 : ¬ sp < 0) (h2 : ¬ dp < 0) (h3 : ¬ n < 0) (h4 : sp.toNatClampNeg + n.toNatClampNeg ≤ n0) (h5 : dp.toNatClampNeg + n.toNatClampNeg ≤ n1)
    (hframes : 1 ≤ R.frames) (hlocals : (rest.map fun v => v.category).sum + (nativeFrameWords "java/lang/System" "arraycopy" 5 + 11) ≤ R.locals) (hdg : decode cc pc = .ok (.invokestatic index, 3))
    (kk : ∀ G1 : gT, G1 a = some (u1, .inl (cA, n1, .inl (va_cpy f g sp.toNatClampNeg dp.toNatClampNeg n.toNatClampNeg))) → (∀ q, q ≠ a → G1 q = G q) → gV p l e R s m args below meth c D cl lo nL Q (pc + 3) L rest G1 B) : gV p l e R s m args below meth c D cl lo nL Q pc L (.int n :: .int dp :: .ref a :: .int sp :: .ref a0 :: rest) G B := by
  intro H locs ls hH hls
  have nn : ∀ z : Int32, ¬ z < 0 → z.toInt = (z.toNatClampNeg : Int) := by
    intro z hz
    have hz0 : (0 : Int) ≤ z.toInt := by
      have := Int32.not_lt.mp hz
      simpa using Int32.le_iff_toInt_le.mp this
    show z.toInt = ((z.toInt.toNat : Nat) : Int)
    omega
  intro T hT X
  have hc0 : H[a0]? = some (vp_cell cA (n0, .inl f)) := (hH.1.1 a0 u0 _ ha0).2
  have hc1 : H[a]? = some (vp_cell cA (n1, .inl g)) := (hH.1.1 a u1 _ ha1).2
  obtain ⟨-, k0, hk0, cm0, hkk0⟩ := (hK.2 t0 _ ht).1 n0 (fun j => .int (f j))
  obtain ⟨vm', X', step⟩ := X.arraycopy hx hown hlink hnat hstat hini (src := a0) (dst := a) (cs := vp_cell cA (n0, .inl f)) (cd := vp_cell cA (n1, .inl g)) (srcPos := sp) (destPos := dp) (n := n) (by rw [hT]; exact hc0) (by rw [hT]; exact hc1)
    (fun _ h => by cases h) (fun _ h => by cases h) (fun h => by cases h) (fun h => by cases h) hk0 hk0 hkk0 hkk0 (by simp [refKind]) h1 h2 h3
    (by rw [nn sp h1, nn n h3]; show ¬ _ > ((arrV cA n0 (fun j => .int (f j))).slots.size : Int); rw [arrV_size]; omega)
    (by rw [nn dp h2, nn n h3]; show ¬ _ > ((arrV cA n1 (fun j => .int (g j))).slots.size : Int); rw [arrV_size]; omega)
    (fun vm₁ _ i hi => by
      have e : (vp_cell cA (n0, .inl f)).slots.getD (sp.toNatClampNeg + i) .null = .int (f (sp.toNatClampNeg + i)) := by
        show (arrV cA n0 (fun j => .int (f j))).slots.getD _ _ = _
        rw [Array.getD_eq_getD_getElem?, arrV_read _ _ (by omega)]
        rfl
      refine ⟨?_, ?_⟩
      · rw [e]
        rfl
      · rw [e]
        exact trivial)
    (g := F0 m pc ls (.int n :: .int dp :: .ref a :: .int sp :: .ref a0 :: rest)) rfl (by rw [hml]; exact hls.1) (rest := rest) rfl (by rw [hb]; exact hdg) hframes (by show 2 * 0 + _ + _ ≤ _; omega)
  have e1 : copied (vp_cell cA (n0, .inl f)) (vp_cell cA (n1, .inl g)) sp dp n = vp_cell cA (n1, .inl (va_cpy f g sp.toNatClampNeg dp.toNatClampNeg n.toNatClampNeg)) := va_copied (fun z => .int z) cA cA f g h4
  rw [e1] at X' step
  have hl : a < H.size := (Array.getElem?_eq_some_iff.mp hc1).1
  generalize hH1 : H.setIfInBounds a (vp_cell cA (n1, .inl (va_cpy f g sp.toNatClampNeg dp.toNatClampNeg n.toNatClampNeg))) = H1
  have hheap : ((T.setVm vm').setCell a (vp_cell cA (n1, .inl (va_cpy f g sp.toNatClampNeg dp.toNatClampNeg n.toNatClampNeg)))).heap = H1 := by rw [← hH1, ← hT]; rfl
  have oq : ∀ q : Nat, q ≠ a → H1[q]? = H[q]? := fun q hq => by rw [← hH1]; simp [Array.getElem?_setIfInBounds, Ne.symm hq]
  have z : H1.size = H.size := by rw [← hH1]; simp
  have e2 : H1[a]? = some (vp_cell cA (n1, .inl (va_cpy f g sp.toNatClampNeg dp.toNatClampNeg n.toNatClampNeg))) := by rw [← hH1]; simp [Array.getElem?_setIfInBounds, hl]
  obtain ⟨⟨k1, k1b, k1c⟩, k2, k3⟩ := g_stay (i := 0) (e1 := .inl (cA, n1, .inl (va_cpy f g sp.toNatClampNeg dp.toNatClampNeg n.toNatClampNeg))) hH ha1 hc1 e2 (by rw [vp_cell_i, vp_cell_i, arrV_size, arrV_size]) e2 z oq
  have hS := hH.2.2
  have hlo1 : lo ≤ a := (hH.1.1 a u1 _ ha1).1
  have K := fun (lc : List Loc) (hlc : ∀ q ∈ lc, lo ≤ q.base) => kk _ gset_s (fun q h => gset_n h) H1 lc ls ⟨k1, k1b, ⟨k1c.1, k1c.2.1, hlc⟩⟩ hls
  rw [k2, k3] at K
  obtain ⟨t, a1, b1⟩ := K _ (fun q hq => by
      rcases List.mem_append.mp hq with h | h
      · exact hS.2.2 q h
      · obtain ⟨z, -, hz⟩ := List.mem_map.mp h
        rw [← hz]
        exact hlo1) _ hheap X'
  exact ⟨t, step t a1, b1⟩
end GV
