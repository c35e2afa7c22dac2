theorem zbestC_p {C : zC} {A : zA} {d cb : Nat} {P : List Nat} (hto : ∀ r b, r < 9 → A 2 d r = some b → zPa cb P b) : ∀ k b, k ≤ 9 → zbestC C A d k = some b → zPa cb P b := by
  intro k
  induction k with
  | zero => intro b _ h; cases h
  | succ k ih =>
    intro b hk h
    simp only [zbestC] at h
    split at h
    · exact ih b (by omega) h
    · rename_i a ha
      split at h
      · split at h
        · cases h; exact hto k _ (by omega) ha
        · rename_i b' hb
          split at h
          · cases h; exact hto k _ (by omega) ha
          · cases h; exact ih _ (by omega) hb
      · exact ih b (by omega) h
