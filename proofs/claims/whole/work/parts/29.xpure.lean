theorem zn_nb {w : Int32} {n : Nat} (hn : n < 2 ^ 31) (h : ∀ k : Nat, k < n → ¬ w = nI k) : ¬ zbl w (nI n) := fun q => by
  obtain ⟨j, hj, e⟩ := zbl_of hn q
  exact h j hj e
theorem zn_nb3 {w : Int32} (h0 : ¬ w = 0) (h1 : ¬ w = 1) (h2 : ¬ w = 2) : ¬ zbl w 3 := zn_nb (n := 3) (by decide) (fun k hk => by
  rcases (show k = 0 ∨ k = 1 ∨ k = 2 by omega) with rfl | rfl | rfl
  · exact h0
  · exact h1
  · exact h2)
theorem zn_sub {f : Int32} {k : Nat} (h : f - 1 = nI k) : f = nI (k + 1) := by
  have : f - 1 + 1 = nI k + 1 := by rw [h]
  rw [Int32.sub_add_cancel, nI_1] at this
  exact this
theorem zans_part {C : zC} {M : zM} {a d : Nat} {f : Int32} (hf : ¬ f = 0) (h1 : C 22 a 0 = M 27 (4 * d + 1)) (h2 : C 23 a 0 = M 27 (4 * d + 2)) (h3 : C 24 a 0 = M 27 (4 * d + 3)) : zpart C a (f - 1) = if zbl f 4 then M 27 (4 * d + zix f) else -1 := by
  unfold zpart
  by_cases a1 : f = 1
  · subst a1
    rw [if_pos (by decide), if_pos (by decide), h1]
    rfl
  · rw [if_neg (show ¬ f - 1 = 0 from fun q => a1 (zn_sub (k := 0) q))]
    by_cases a2 : f = 2
    · subst a2
      rw [if_pos (by decide), if_pos (by decide), h2]
      rfl
    · rw [if_neg (show ¬ f - 1 = 1 from fun q => a2 (zn_sub (k := 1) q))]
      by_cases a3 : f = 3
      · subst a3
        rw [if_pos (by decide), if_pos (by decide), h3]
        rfl
      · rw [if_neg (show ¬ f - 1 = 2 from fun q => a3 (zn_sub (k := 2) q)), if_neg]
        exact zn_nb (n := 4) (by decide) (fun k hk => by
          rcases (show k = 0 ∨ k = 1 ∨ k = 2 ∨ k = 3 by omega) with rfl | rfl | rfl | rfl
          · exact hf
          · exact a1
          · exact a2
          · exact a3)
theorem zheld_part {C : zC} {M : zM} {a k : Nat} {f : Int32} (h1 : C 22 a 0 = M 6 k) (h2 : C 23 a 0 = M 7 k) (h3 : C 24 a 0 = M 8 k) : zpart C a f = if f = 0 then M 6 k else if f = 1 then M 7 k else if f = 2 then M 8 k else -1 := by
  unfold zpart
  rw [h1, h2, h3]
theorem zf_answered_i {M : zM} {d : Nat} {f : Int32} (c : zbl (nI d) 3) (q : ¬ M 26 d = 0) (z : zix (nI d) = d) : zf_answered M (nI d) f = if zbl f 4 then M 27 (4 * d + zix f) else -1 := by
  unfold zf_answered
  rw [z]
  by_cases hf : zbl f 4
  · rw [if_pos hf, if_pos ⟨c, q, hf⟩]
  · rw [if_neg hf, if_neg (fun h => hf h.2.2)]
