theorem zOg_take {M : zM} (h : zOk M) (i : Int32) : zOk (zg_take M i) := by
  unfold zg_take
  split
  · rename_i h1
    obtain ⟨n, hn, e⟩ := zOk_lt h
    rw [e] at h1
    rw [e, zix_n (by omega)]
    exact zOk_take h hn e (zx_lt (by omega) h1).1
  · exact h
theorem zOg_twin {M : zM} (h : zOk M) (i : Int32) : zOk (zg_twin M i) := by
  unfold zg_twin
  split
  · rename_i h1
    obtain ⟨n, hn, e⟩ := zOk_lt h
    obtain ⟨h1, h2⟩ := h1
    rw [e] at h1 h2
    have h3 : ¬ n = 300 := fun q => h2 ((zn_eq300 hn).mpr q)
    have h4 := zOk_twin (i := zix i) h (show n < 300 by omega) e (zx_lt (by omega) h1).1
    rw [show zix (M 0 1) = n by rw [e, zix_n (by omega)]]
    exact h4
  · exact h
theorem zOg_dall (c : Nat) : ∀ (M : zM) (n k : Int32), zOk M → zOk (zdall c M n k).1 := by
  induction c with
  | zero => exact fun M n k h => h
  | succ c ih =>
    intro M n k h
    unfold zdall
    split
    · rename_i h1
      obtain ⟨q, hq, e⟩ := zOk_lt h
      have h2 : 0 < q := by
        rcases Nat.eq_zero_or_pos q with h3 | h3
        · exact absurd (by rw [e, h3]; decide) h1.2
        · exact h3
      exact ih _ _ _ (zOk_deliver h hq e h2)
    · exact h
theorem zOg_deliverAll {M : zM} (h : zOk M) (n : Int32) : zOk (zg_deliverAll M n) := zOg_dall _ M n 0 h
theorem zOg_receipt {M : zM} (h : zOk M) (r p : Int32) : zOk (zg_receipt M r p) := by
  unfold zg_receipt
  split
  · rename_i h1
    exact zOk_send h ⟨⟨_, zx9 h1.1.1⟩, ⟨_, zx4 h1.2.1⟩, Or.inr (Or.inl rfl)⟩
  · exact h
theorem zOg_tell {M : zM} (h : zOk M) (r d n lo hi : Int32) : zOk (zg_tell M r d n lo hi) := by
  unfold zg_tell
  split
  · rename_i h1
    exact zOk_sendTell h ⟨⟨_, zx9 h1.1.1⟩, h.2.1 _ (zx3 h1.2.1).1, Or.inr (Or.inr ⟨Or.inr rfl, _, zx3 h1.2.1⟩)⟩
  · exact h
