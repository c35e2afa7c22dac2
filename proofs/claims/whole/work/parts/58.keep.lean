-- what one side's call leaves of the other side's world: H1 is the heap after, at least as long
theorem zGP_keep {D : va_G} {b0 n : Nat} {E : Nat → va_E} {H H1 : Heap} {A1 : Nat → Prop} (hP : zGP D b0 n E H) (h : ∀ q : Nat, q < H.size → ¬ A1 q → H1[q]? = H[q]?) (hA : ∀ q, A1 q → b0 + n ≤ q) : zGP D b0 n E H1 := by
  refine va_P.kept hP (fun k q hk => h q.1 (hP k q hk).lt (fun h2 => ?_))
  obtain ⟨a, ha, rfl⟩ := List.mem_map.mp (List.mem_of_getElem? hk)
  have h3 := (zGL_of ha).2
  have h4 : b0 + n ≤ a := hA a h2
  omega
theorem zRP_keep {D : va_G} {ka : Nat → ClassId} {cb : Nat} {M : zM} {H H1 : Heap} (hP : zRP D ka (cb + 346) M H) (h : ∀ q : Nat, q < H.size → ¬ zCA cb q → H1[q]? = H[q]?) : zRP D ka (cb + 346) M H1 := by
  refine va_P.kept hP (fun k q hk => h q.1 (hP k q hk).lt (fun h2 => ?_))
  obtain ⟨a, ha, rfl⟩ := List.mem_map.mp (List.mem_of_getElem? hk)
  obtain ⟨i, hi, rfl⟩ := List.mem_map.mp ha
  have hi := List.mem_range.mp hi
  have h4 : (cb ≤ cb + 346 + i ∧ cb + 346 + i < cb + 346) ∨ cb + 385 ≤ cb + 346 + i := h2
  omega
theorem zCS_keep {D : va_G} {ka : Nat → ClassId} {cb : Nat} {M : zM} {U t : State} (hC : zCS D ka cb M U) (h : ∀ q : Nat, q < U.heap.size → ¬ zRA (cb + 346) q → t.heap[q]? = U.heap[q]?) (hz : U.heap.size ≤ t.heap.size) (hK : va_K D vwCl (zty ka) t) : zCS D ka cb M t := by
  obtain ⟨P, C, A, ⟨hP, hQ, hs, -⟩, hR⟩ := hC
  refine ⟨P, C, A, ⟨?_, hQ, by omega, hK⟩, hR⟩
  refine va_P.kept hP (fun k q hk => h q.1 (hP k q hk).lt (fun h2 => ?_))
  obtain ⟨a, ha, rfl⟩ := List.mem_map.mp (List.mem_of_getElem? hk)
  have h4 : cb + 346 ≤ a ∧ a < cb + 346 + 39 := h2
  rcases List.mem_append.mp ha with h5 | h5
  · obtain ⟨i, hi, rfl⟩ := List.mem_map.mp h5
    have hi := List.mem_range.mp hi
    omega
  · have := hQ.2 a h5
    omega
