/-! ===== THE GHOST HEAP: a map from addresses to (tag, cell); what a method knows of the heap, and of how much of it there is ===== -/
abbrev gT : Type := Nat → Option (Nat × va_E)
def gm (D : va_G) (cl : List vw_C) (lo : Nat) (G : gT) (H : Heap) : Prop := ∀ (a t : Nat) (e : va_E), G a = some (t, e) → lo ≤ a ∧ va_at D cl (a, e) H
/-- the slots of the cells from lo on -/
def gds (lo : Nat) (H : Heap) : Nat := ((H.toList.drop lo).map (fun c => c.slots.size)).sum
/-- the world: the heap holds G, has at most B.1 cells, and at most B.2 slots from lo on -/
def gw (D : va_G) (cl : List vw_C) (lo : Nat) (G : gT) (B : Nat × Nat) (H : Heap) : Prop := gm D cl lo G H ∧ lo ≤ H.size ∧ H.size ≤ B.1 ∧ gds lo H ≤ B.2
def gset (G : gT) (a : Nat) (x : Nat × va_E) : gT := fun q => if q = a then some x else G q
theorem gset_s {G : gT} {a : Nat} {x : Nat × va_E} : gset G a x a = some x := if_pos rfl
theorem gset_n {G : gT} {a q : Nat} {x : Nat × va_E} (h : q ≠ a) : gset G a x q = G q := if_neg h
theorem gne {G : gT} {a b : Nat} {x y : Nat × va_E} (ha : G a = some x) (hb : G b = some y) (h : x ≠ y) : a ≠ b := fun e => by
  subst e
  exact h (Option.some.inj (ha.symm.trans hb))
theorem gm_one {D : va_G} {cl : List vw_C} {lo : Nat} {G : gT} {H : Heap} {a t : Nat} {e : va_E} (h : gm D cl lo G H) (ha : G a = some (t, e)) : va_P D cl [(a, e)] H := by
  intro k q hk
  cases k with
  | zero => cases hk; exact (h a t e ha).2
  | succ k => simp at hk
theorem gm_lt {D : va_G} {cl : List vw_C} {lo : Nat} {G : gT} {H : Heap} {a : Nat} {x : Nat × va_E} (h : gm D cl lo G H) (ha : G a = some x) : a < H.size := va_at.lt (h a x.1 x.2 ha).2
theorem gm_fresh {D : va_G} {cl : List vw_C} {lo : Nat} {G : gT} {H : Heap} (h : gm D cl lo G H) : G H.size = none := by
  cases hx : G H.size with
  | none => rfl
  | some x => exact absurd (gm_lt h hx) (Nat.lt_irrefl _)
/-- one cell has turned -/
theorem gm_put {D : va_G} {cl : List vw_C} {lo : Nat} {G : gT} {H H1 : Heap} {a t : Nat} {e0 e : va_E} (h : gm D cl lo G H) (ha : G a = some (t, e0)) (he : va_at D cl (a, e) H1) (oq : ∀ q : Nat, q ≠ a → H1[q]? = H[q]?) : gm D cl lo (gset G a (t, e)) H1 := by
  intro b t' e' hb
  by_cases hab : b = a
  · subst hab
    rw [gset_s] at hb
    cases hb
    exact ⟨(h b t e0 ha).1, he⟩
  · rw [gset_n hab] at hb
    exact ⟨(h b t' e' hb).1, (h b t' e' hb).2.kept (oq b hab)⟩
/-- a cell has come -/
theorem gm_new {D : va_G} {cl : List vw_C} {lo : Nat} {G : gT} {H H1 : Heap} {t : Nat} {e : va_E} (h : gm D cl lo G H) (hlo : lo ≤ H.size) (he : va_at D cl (H.size, e) H1) (oq : ∀ q : Nat, q < H.size → H1[q]? = H[q]?) : gm D cl lo (gset G H.size (t, e)) H1 := by
  intro b t' e' hb
  by_cases hab : b = H.size
  · subst hab
    rw [gset_s] at hb
    cases hb
    exact ⟨hlo, he⟩
  · rw [gset_n hab] at hb
    exact ⟨(h b t' e' hb).1, (h b t' e' hb).2.kept (oq b (gm_lt h hb))⟩
theorem gds_put {lo : Nat} {H H1 : Heap} {a : Nat} {c c1 : Cell} (hz : H1.size = H.size) (hc : H[a]? = some c) (hc1 : H1[a]? = some c1) (hs : c1.slots.size = c.slots.size) (oq : ∀ q : Nat, q ≠ a → H1[q]? = H[q]?) : gds lo H1 = gds lo H := by
  have e : H1.toList.map (fun c => c.slots.size) = H.toList.map (fun c => c.slots.size) := by
    apply List.ext_getElem?
    intro i
    rw [List.getElem?_map, List.getElem?_map, Array.getElem?_toList, Array.getElem?_toList]
    by_cases hi : i = a
    · subst hi
      rw [hc, hc1]
      simp [hs]
    · rw [oq i hi]
  unfold gds
  rw [List.map_drop, List.map_drop, e]
theorem gds_new {lo : Nat} {H H1 : Heap} {c1 : Cell} (hlo : lo ≤ H.size) (hz : H1.size = H.size + 1) (hc1 : H1[H.size]? = some c1) (oq : ∀ q : Nat, q < H.size → H1[q]? = H[q]?) : gds lo H1 = gds lo H + c1.slots.size := by
  have e : H1.toList = H.toList ++ [c1] := by
    apply List.ext_getElem?
    intro i
    rw [Array.getElem?_toList]
    by_cases hi : i < H.size
    · rw [oq i hi, List.getElem?_append_left (by simpa using hi), Array.getElem?_toList]
    · by_cases h2 : i = H.size
      · subst h2
        rw [hc1]
        simp
      · rw [Array.getElem?_eq_none (by omega)]
        symm
        apply List.getElem?_eq_none
        simp
        omega
  unfold gds
  rw [e, List.drop_append_of_le_length (by simpa using hlo)]
  simp
section GV
variable {p : Program} {l : Launch} {e : Env} {R : Room} {s : State} {m : MethodId} {args : Array Value} {below : List Frame} {meth : Method} {c : Code} {H : Heap} {locs : List Loc} {cells slots : Nat} {Q : State → Prop}
/-- the count of cells and slots may be set to what the heap says -/
theorem g_tight {lo : Nat} {g : JFrame} (hlo : lo ≤ s.heap.size) (k : W p l e R s m args below meth c H locs (H.size - s.heap.size) (gds lo H - gds lo s.heap) Q g) : W p l e R s m args below meth c H locs cells slots Q g := by
  intro T hT X
  refine k T hT { X with same := ?_ }
  obtain ⟨h1, h2, h3, h4, h5, h6⟩ := X.same
  refine ⟨h1, h2, ?_, h4, ?_, h6⟩
  · show T.heap.size ≤ s.heap.size + (H.size - s.heap.size)
    have : s.heap.size ≤ T.heap.size := h2
    rw [hT] at *
    omega
  · show ((T.heap.toList.drop s.heap.size).map (·.slots.size)).sum ≤ _
    have e1 : T.heap.toList.map (fun c => c.slots.size) = s.heap.toList.map (fun c => c.slots.size) ++ (T.heap.toList.drop s.heap.size).map (fun c => c.slots.size) := by
      rw [List.map_drop]
      have e2 : (T.heap.toList.map (fun c => c.slots.size)).take s.heap.size = s.heap.toList.map (fun c => c.slots.size) := by
        apply List.ext_getElem?
        intro i
        by_cases hi : i < s.heap.size
        · rw [List.getElem?_take_of_lt hi, List.getElem?_map, List.getElem?_map, Array.getElem?_toList, Array.getElem?_toList]
          obtain ⟨c', q1, -, q2, -⟩ := h6 i s.heap[i] (Array.getElem?_eq_getElem hi)
          have q1 : T.heap[i]? = some c' := q1
          rw [q1, Array.getElem?_eq_getElem hi]
          simp [q2]
        · rw [List.getElem?_eq_none (by simp; omega), List.getElem?_eq_none (by simp; omega)]
      rw [← e2, List.take_append_drop]
    have e3 : gds lo T.heap = gds lo s.heap + ((T.heap.toList.drop s.heap.size).map (fun c => c.slots.size)).sum := by
      unfold gds
      rw [List.map_drop, e1, List.drop_append_of_le_length (by simpa using hlo), List.sum_append, List.map_drop (l := s.heap.toList)]
    rw [← hT, e3]
    omega
end GV
