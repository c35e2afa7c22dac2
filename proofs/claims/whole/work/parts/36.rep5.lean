theorem zLR_new {cb : Nat} {P : List Nat} {C : zC} {A : zA} {M : zM} {σ : Nat → Nat} {q : Nat} {n lo hi : Int32} (hq : q ∉ zCL cb P) (h : ∀ i, i < zix (M 0 1) → zLRc cb P C A M (σ i) i) : ∀ i, i < zix (M 0 1) → zLRc cb (P ++ [q]) (zCnew C q n lo hi) A M (σ i) i := by
  intro i hi2
  obtain ⟨b1, b2, b3, b4, b5, b6, b7⟩ := h i hi2
  have hpr : ∀ a x y z, zPR cb P (C 22) (C 23) (C 24) a x y z → zPR cb (P ++ [q]) (zCnew C q n lo hi 22) (zCnew C q n lo hi 23) (zCnew C q n lo hi 24) a x y z := fun a x y z hp => by
    obtain ⟨h1, h2, h3, h4⟩ := hp
    obtain ⟨e1, e2, e3⟩ := zCnew_o (C := C) (n := n) (lo := lo) (hi := hi) (zPa_ne hq h1)
    exact ⟨zPa_l h1, e1.trans h2, e2.trans h3, e3.trans h4⟩
  refine ⟨b1, b2, b3, b4, b5, fun z => ?_, fun z => ?_⟩
  · obtain ⟨a, c1, c2⟩ := b6 z
    exact ⟨a, c1, hpr _ _ _ _ c2⟩
  · obtain ⟨a, c1, c2⟩ := b7 z
    exact ⟨a, c1, hpr _ _ _ _ c2⟩
