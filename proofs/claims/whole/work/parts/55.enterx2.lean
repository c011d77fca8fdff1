theorem sv_keepAll {s' U : State} {k n : Nat} (h : s'.sameButNew ({ U with vm := s'.vm } : State) [] k n) : ∀ a : Nat, a < s'.heap.size → U.heap[a]? = s'.heap[a]? := by
  intro a ha
  obtain ⟨c', h1, h2, h3, h4⟩ := h.2.2.2.2.2 a _ (Array.getElem?_eq_getElem ha)
  have e1 : U.heap[a]? = some c' := h1
  rw [e1, Array.getElem?_eq_getElem ha, h2]
  have e2 : c'.slots = (s'.heap[a]).slots := Array.ext_getElem? (fun i => h4 i List.not_mem_nil)
  rw [e2]
theorem sv_sameT {s T U : State} {locs : List Loc} (h0 : s.sameButNew (T.setVm s.vm) locs 0 0) (h1 : ({ s with heap := T.heap, slotsUsed := T.slotsUsed } : State).sameButNew ({ U with vm := s.vm } : State) [] 1 6) : s.sameButNew ({ U with vm := s.vm } : State) locs 1 6 := by
  have hk := sv_keepAll (U := U) h1
  obtain ⟨a1, a2, a3, a4, a5, a6⟩ := h0
  obtain ⟨b1, b2, b3, b4, b5, b6⟩ := h1
  have e0 : T.heap.size = s.heap.size := by
    have z1 : s.heap.size ≤ T.heap.size := a2
    have z2 : T.heap.size ≤ s.heap.size + 0 := a3
    omega
  have e1 : T.slotsUsed = s.slotsUsed := by
    have z1 : T.slotsUsed = s.slotsUsed + ((T.heap.toList.drop s.heap.size).map (·.slots.size)).sum := a4
    have z2 : ((T.heap.toList.drop s.heap.size).map (·.slots.size)).sum ≤ 0 := a5
    omega
  have b2' : T.heap.size ≤ U.heap.size := b2
  have b3' : U.heap.size ≤ T.heap.size + 1 := b3
  have b4' : U.slotsUsed = T.slotsUsed + ((U.heap.toList.drop T.heap.size).map (·.slots.size)).sum := b4
  have b5' : ((U.heap.toList.drop T.heap.size).map (·.slots.size)).sum ≤ 6 := b5
  rw [e0] at b2' b3' b4' b5'
  rw [e1] at b4'
  refine ⟨b1, b2', b3', b4', b5', fun a c h => ?_⟩
  obtain ⟨c', q1, q2, q3, q4⟩ := a6 a c h
  have q1' : T.heap[a]? = some c' := q1
  exact ⟨c', (hk a (Array.getElem?_eq_some_iff.mp q1').1).trans q1', q2, q3, q4⟩
