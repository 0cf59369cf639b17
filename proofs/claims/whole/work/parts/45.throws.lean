/-! ===== THROWS: the walk over a start of its own; what is thrown anew ===== -/
section XR
variable {p : Program} {l : Launch} {e : Env} {R : Room} {s : State} {m : MethodId} {args : Array Value} {below : List Frame} {meth : Method} {c : Code} {T : State} {locs : List Loc} {cells slots : Nat}
/-- the state from which the rest of the walk may be told anew -/
def xr_s (s T : State) : State := ({ s with heap := T.heap, slotsUsed := T.slotsUsed } : State).setVm T.vm
theorem xr_rebase (X : Stand p l e R s m args below meth c T locs cells slots) (hc : cells ≤ R.cells) (hs : slots ≤ R.slots) :
    Stand p l e { R with cells := R.cells - cells, slots := R.slots - slots } (xr_s s T) m args below meth c T [] 0 0 := by
  have hal : s.vm.Alike T.vm := X.warmed.alike
  have hmeth : ∀ mm : MethodId, (xr_s s T).vm.method? mm = s.vm.method? mm := fun mm => by
    show T.vm.method? mm = _
    exact hal.method? mm
  have hcode : ∀ mm : MethodId, (xr_s s T).code? mm = s.code? mm := fun mm => by
    rw [State.code?_eq, State.code?_eq, hmeth]
  have hF : (xr_s s T).frames = .invoking m args :: below := X.frames
  have hm' : (xr_s s T).vm.method? m = some meth := by rw [hmeth]; exact X.method
  have hU : (xr_s s T).localsInUse = s.localsInUse := by
    rw [State.localsInUse_invoking hF hm' X.code, State.localsInUse_invoking X.frames X.method X.code]
  have hroom : (xr_s s T).hasRoom e.platform { R with cells := R.cells - cells, slots := R.slots - slots } = true := by
    have h := X.room
    have hb : (xr_s s T).slotsTrue = true := X.book
    have h1 := X.heapSize
    have h2 := X.used
    unfold State.hasRoom at h ⊢
    rw [hU, hb]
    simp only [Bool.and_eq_true, decide_eq_true_eq] at h ⊢
    obtain ⟨⟨⟨⟨q1, q2⟩, q3⟩, q4⟩, -⟩ := h
    refine ⟨⟨⟨⟨q1, q2⟩, ?_⟩, ?_⟩, trivial⟩
    · show T.heap.size + (R.cells - cells) ≤ _
      omega
    · show T.slotsUsed + (R.slots - slots) ≤ _
      omega
  have hhears : (xr_s s T).hears m below = true := by
    have h := X.hears
    cases hb : below with
    | nil => rw [hb] at h; simp only [State.hears] at h ⊢; rw [hmeth]; exact h
    | cons f r =>
      rw [hb] at h
      cases f <;> simp only [State.hears] at h ⊢ <;> first | (rw [hcode]; exact h) | (rw [hmeth]; exact h) | exact h
  have hT : T = (xr_s s T).setFrames T.frames := by
    have h := X.same.1
    have h2 : T = (T.setVm s.vm).setVm T.vm := rfl
    rw [h] at h2
    exact h2
  refine ⟨X.admits, X.cas, X.clock, hF, hroom, hhears, hm', X.code, X.here, X.tail, State.WarmedH.refl _, X.limits, X.bytes, ?_⟩
  show (xr_s s T).sameButNew T [] 0 0
  refine ⟨hT, Nat.le_refl _, Nat.le_refl _, ?_, ?_, fun a cl h => ⟨cl, h, rfl, rfl, fun _ _ => rfl⟩⟩
  · show T.slotsUsed = T.slotsUsed + ((T.heap.toList.drop T.heap.size).map (·.slots.size)).sum
    rw [List.drop_eq_nil_of_le (by simp)]
    rfl
  · show ((T.heap.toList.drop T.heap.size).map (·.slots.size)).sum ≤ 0
    rw [List.drop_eq_nil_of_le (by simp)]
    exact Nat.le_refl _
/-- a frame without a written place: every cell is what it was -/
theorem xr_same {s t : State} {k n : Nat} (h : s.sameButNew t [] k n) : ∀ q : Nat, q < s.heap.size → t.heap[q]? = s.heap[q]? := by
  intro q hq
  obtain ⟨c', h1, h2, h3, h4⟩ := h.2.2.2.2.2 q s.heap[q] (Array.getElem?_eq_getElem hq)
  rw [h1, Array.getElem?_eq_getElem hq]
  congr 1
  rw [h2]
  have e : c'.slots = s.heap[q].slots := by
    apply Array.ext_getElem?
    intro i
    exact h4 i (by simp)
  rw [e]
end XR
