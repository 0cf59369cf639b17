/-! ===== WHAT IS MADE ANEW ===== -/
def gex (E : Nat → Prop) (G G1 : gT) : Prop := ∀ (x : Nat) (y : Nat × va_E), G x = some y → ¬ E x → G1 x = some y
theorem gex_rf {E : Nat → Prop} {G : gT} : gex E G G := fun _ _ h _ => h
theorem gex_tr {E E2 : Nat → Prop} {G G1 G2 : gT} (h1 : gex E G G1) (h2 : gex E2 G1 G2) (hE : ∀ x y, G x = some y → ¬ E x → ¬ E2 x) : gex E G G2 := fun x y h hn => h2 x y (h1 x y h hn) (hE x y h hn)
theorem gex_put {E : Nat → Prop} {G G1 G2 : gT} {a : Nat} (h : gex E G G1) (ho : ∀ q, q ≠ a → G2 q = G1 q) (ha : E a ∨ G a = none) : gex E G G2 := fun x y hx hn => by
  by_cases e : x = a
  · subst e
    rcases ha with z | z
    · exact absurd z hn
    · rw [z] at hx; cases hx
  · rw [ho x e]; exact h x y hx hn
theorem gex_new {E : Nat → Prop} {G G1 G2 : gT} {q : Nat} (h : gex E G G1) (h0 : G1 q = none) (ho : ∀ x, x ≠ q → G2 x = G1 x) : gex E G G2 := fun x y hx hn => by
  by_cases e : x = q
  · subst e
    have := h x y hx hn
    rw [h0] at this; cases this
  · rw [ho x e]; exact h x y hx hn
theorem gex_fr {E M : Nat → Prop} {G G1 G2 : gT} (h : gex E G G1) (hf : gfr M G1 G2) (hM : ∀ x y, G x = some y → ¬ E x → ¬ M y.1) : gex E G G2 := fun x y hx hn => hf x y (h x y hx hn) (hM x y hx hn)
theorem gex_mono {E E1 : Nat → Prop} {G G1 : gT} (h : gex E G G1) (hE : ∀ x y, G x = some y → E x → E1 x) : gex E1 G G1 := fun x y hx hn => h x y hx (fun z => hn (hE x y hx z))
/-- a cell that was not there before is not there in the smaller world -/
theorem gex_0 {E : Nat → Prop} {G G1 : gT} {q : Nat} (h : gex E G G1) (h0 : G1 q = none) (hE : ¬ E q) : G q = none := by
  cases hx : G q with
  | none => rfl
  | some y => have := h q y hx hE; rw [h0] at this; cases this
theorem isN_ex {cA : Nat → ClassId} {E : Nat → Prop} {G G1 : gT} {c t h v : Nat} (hn : isN cA G c t h v) (hf : gex E G G1) (hE : ∀ x y, G x = some y → y.1 = t → ¬ E x) : isN cA G1 c t h v := by
  obtain ⟨a, z, f, h1, h2, h3, h4⟩ := hn
  exact ⟨a, z, f, hf _ _ h1 (hE _ _ h1 rfl), hf _ _ h2 (hE _ _ h2 rfl), h3, h4⟩
theorem rd_ex {cA : Nat → ClassId} {P : Nat → Prop} {G G1 : gT} {h v : Nat} (hr : rd cA G P h v) (hf : gex (fun _ => False) G G1) : rd cA G1 P h v := by
  obtain ⟨t, c, h1, h2, h3⟩ := hr
  exact ⟨t, c, h1, h2, isN_ex h3 hf (fun _ _ _ _ z => z)⟩
theorem rf_ex {cA : Nat → ClassId} {P : Nat → Prop} {G G1 : gT} {h q : Nat} {p : Int} (hr : rf cA G P h p q) (hf : gex (fun _ => False) G G1) : rf cA G1 P h p q := by
  obtain ⟨t, ha, hb, h1, h2, h3, h4⟩ := hr
  exact ⟨t, ha, hb, h1, hf _ _ h2 (fun z => z), rd_ex h3 hf, rd_ex h4 hf⟩
theorem gfr_ex {M : Nat → Prop} {G G1 : gT} (h : gex (fun _ => False) G G1) : gfr M G G1 := fun q x hq _ => h q x hq (fun z => z)
section GX
variable {p : Program} {l : Launch} {e : Env} {R : Room} {s : State} {m : MethodId} {args : Array Value} {below : List Frame} {meth : Method} {c : Code} {Q : State → Prop}
variable {D : va_G} {cl : List vw_C} {tys : List (ClassId × FieldType)} {lo MC MS nL : Nat} {pc : Nat} {L : List (Nat × Value)} {st rest : List Value} {G : gT} {B : Nat × Nat} {cc : ByteArray}
theorem g_tagT (G : gT) : ∀ n : Nat, ∃ T : Nat, 100 ≤ T ∧ ∀ a x, a < n → G a = some x → x.1 < T
  | 0 => ⟨100, Nat.le_refl _, fun a x h => absurd h (Nat.not_lt_zero a)⟩
  | n + 1 => by
    obtain ⟨T, h0, hT⟩ := g_tagT G n
    cases hx : G n with
    | none =>
      refine ⟨T, h0, fun a x h hg => ?_⟩
      by_cases e : a = n
      · subst e; rw [hx] at hg; cases hg
      · exact hT a x (by omega) hg
    | some y =>
      refine ⟨T + y.1 + 1, by omega, fun a x h hg => ?_⟩
      by_cases e : a = n
      · subst e; rw [hx] at hg; cases hg; omega
      · have := hT a x (by omega) hg; omega
/-- a tag that nothing bears -/
theorem g_tag (kk : ∀ T : Nat, 100 ≤ T → (∀ a x, G a = some x → x.1 < T) → gV p l e R s m args below meth c D cl lo nL Q pc L st G B) : gV p l e R s m args below meth c D cl lo nL Q pc L st G B := by
  intro H locs ls hH hl
  obtain ⟨T, h0, hT⟩ := g_tagT G H.size
  exact kk T h0 (fun a x hx => hT a x (gm_lt hH.1.1 hx) hx) H locs ls hH hl
/-- .. a constructor of a nest mate's -/
theorem g_runIN {y : MethodName} {ws : List Cond} {fr lc n index maxL : Nat} {bytes : ByteArray} {Ts : List Cond} {own host : String} {b : Nat} {As : List Value} {Qc : Nat → Array Value → State → Outcome → State → Prop} (S : CallFix p m c cc nL s args Ts own) (hK : va_K D cl tys s) (hZ : gZ lo s) (hRc : R.cells = MC - s.heap.size) (hRs : R.slots = MS - gds lo s.heap)
    (hM : gMet l y ws fr lc D cl tys lo MC MS (.ref b :: As) G B Qc) (cw : ∀ sz ss, va_CN R s args own index y host bytes maxL none ws (gR fr lc MC MS sz ss) (MC - sz) (MS - ss) n ∧ y.name = "<init>" ∧ (Cond.instanceMethod y).before args s = true) (h1 : B.1 ≤ MC) (h2 : B.2 ≤ MS) (hn : As.length = n) (hW : (rest.map fun v => v.category).sum ≤ 8) (hdg : decode cc pc = .ok (.invokespecial index, 3)) :
    ∀ (H : Heap) (locs : List Loc) (ls : Array Slot), gH D cl lo s G B H locs → lv_has ls nL L → va_Run p l e R s m args below meth c H locs (H.size - s.heap.size) (gds lo H - gds lo s.heap) (MC - H.size) (MS - gds lo H) (F0 m pc ls (As.reverse ++ .ref b :: rest)) rest (Qc (gds lo H) (Value.ref b :: As).toArray) (gA lo) := by
  intro H locs ls hH hl
  exact va_runIN S (hM H.size (gds lo H)) (cw _ _) ⟨g_blind, g_pre hK hZ hH⟩ rfl hn hl.1 rfl (lv_room hW) hdg (g_fits hH hRc hRs h1 h2)
end GX
/-- the tags from T on become k -/
def retag (T k : Nat) (G : gT) : gT := fun a => match G a with
  | some (t, x) => some (if T ≤ t then k else t, x)
  | none => none
theorem retag_new {T k t a : Nat} {x : va_E} {G : gT} (h : G a = some (t, x)) (ht : T ≤ t) : retag T k G a = some (k, x) := by
  unfold retag; rw [h]; simp [ht]
theorem retag_old {T k t a : Nat} {x : va_E} {G : gT} (h : G a = some (t, x)) (ht : t < T) : retag T k G a = some (t, x) := by
  unfold retag; rw [h]; simp; omega
theorem retag_g {T k : Nat} {G : gT} (a t : Nat) (x : va_E) (h : retag T k G a = some (t, x)) : ∃ t0, G a = some (t0, x) := by
  unfold retag at h
  cases hg : G a with
  | none => rw [hg] at h; cases h
  | some y =>
    rw [hg] at h
    obtain ⟨t0, z⟩ := y
    cases h
    exact ⟨t0, rfl⟩
theorem retag_N {cA : Nat → ClassId} {T k c t h v : Nat} {G : gT} (hn : isN cA G c t h v) (ht : T ≤ t) : isN cA (retag T k G) c k h v := by
  obtain ⟨a, z, f, h1, h2, h3, h4⟩ := hn
  exact ⟨a, z, f, retag_new h1 ht, retag_new h2 ht, h3, h4⟩
theorem retag_ex {T k : Nat} {E : Nat → Prop} {G G1 : gT} (h : gex E G G1) (hT : ∀ a x, G a = some x → x.1 < T) : gex E G (retag T k G1) := fun x y hx hn => retag_old (h x y hx hn) (hT x y hx)
theorem g_Beq {p : Program} {l : Launch} {e : Env} {R : Room} {s : State} {m : MethodId} {args : Array Value} {below : List Frame} {meth : Method} {c : Code} {Q : State → Prop} {D : va_G} {cl : List vw_C} {lo nL pc : Nat} {L : List (Nat × Value)} {st : List Value} {G : gT} {B B' : Nat × Nat} (h : B = B') (kk : gV p l e R s m args below meth c D cl lo nL Q pc L st G B') : gV p l e R s m args below meth c D cl lo nL Q pc L st G B := h ▸ kk
theorem isN_0 {cA : Nat → ClassId} {G : gT} {κ t h a : Nat} {f : Nat → Int32} (h1 : G h = some (t, .inr (4, [.ref a, .int (nI 0)]))) (h2 : G a = some (t, .inl (cA 0, κ, .inl f))) : isN cA G κ t h 0 := ⟨a, 0, f, h1, h2, Nat.zero_le _, isD_0⟩
theorem gfr_gex {G G1 : gT} {q t : Nat} {x : va_E} (h : gex (fun y => y = q) G G1) (hq : G q = some (t, x)) : gfr (fun y => y = t) G G1 := fun a y ha hn => h a y ha (fun z => by
  subst z
  rw [hq] at ha
  cases ha
  exact hn rfl)
