-- from the grown world to the class's world
theorem zCW_of {D : va_G} {ka : Nat → ClassId} {cb : Nat} {C : zC} {A : zA} {U : State} (hP : zGP D cb 346 (zCE ka cb C A) U.heap) (hz : cb + 385 ≤ U.heap.size) (hK : va_K D vwCl (zty ka) U) : zCW D ka cb [] C A U := by
  refine ⟨?_, ⟨List.nodup_nil, fun q h => by cases h⟩, hz, hK⟩
  show va_P D vwCl (va_pl (zCL cb []) (zCE ka cb C A)) U.heap
  unfold zCL
  rw [List.append_nil]
  exact hP
theorem zCS_first {D : va_G} {ka : Nat → ClassId} {cb : Nat} {x : Int32} {U : State} (hP : zGP D cb 346 (zCE ka cb (zC0 x) (zA0 cb)) U.heap) (hz : cb + 385 ≤ U.heap.size) (hK : va_K D vwCl (zty ka) U) : zCS D ka cb (zM0 x) U := ⟨[], zC0 x, zA0 cb, zCW_of hP hz hK, zRep_0 cb x⟩
