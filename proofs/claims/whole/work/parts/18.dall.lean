theorem zdall_stop {c : Nat} {N : zM} {n k : Int32} (h : n ≤ k ∨ N 0 1 = 0) : zdall c N n k = (N, k) := by
  cases c with
  | zero => rfl
  | succ c =>
    unfold zdall
    rw [if_neg]
    intro q
    rcases h with h | h
    · exact Int32.not_lt.mpr h q.1
    · exact q.2 h
theorem zdall_go {c : Nat} {N : zM} {n k : Int32} (h : ¬ n ≤ k) (h2 : ¬ N 0 1 = 0) : zdall (c + 1) N n k = zdall c (zdeliver N 0) n (k + 1) := by
  show (if k < n ∧ ¬ N 0 1 = 0 then zdall c (zdeliver N 0) n (k + 1) else (N, k)) = _
  rw [if_pos ⟨Int32.not_le.mp h, h2⟩]
theorem zbl_0 {N : zM} (h : zOk N) (h2 : ¬ zbl 0 (N 0 1)) : N 0 1 = 0 := by
  obtain ⟨⟨n, hn1, hn, -⟩, -⟩ := h
  rw [hn] at h2 ⊢
  rcases Nat.eq_zero_or_pos n with h0 | h0
  · rw [h0]; rfl
  · exact absurd (zbl_n (j := 0) h0 (by omega)) h2
theorem zbl_1 {N : zM} (h : zOk N) (h2 : zbl 0 (N 0 1)) : ¬ N 0 1 = 0 ∧ zmu (zdeliver N 0) < zmu N ∧ zOk (zdeliver N 0) ∧ zg_deliver N 0 = zdeliver N 0 := by
  obtain ⟨⟨n, hn1, hn, -⟩, -⟩ := id h
  have h0 : 0 < n := by
    rcases Nat.eq_zero_or_pos n with h0 | h0
    · subst h0
      rw [hn] at h2
      exact absurd (show nI 0 ≤ 0 by decide) h2.2
    · exact h0
  refine ⟨?_, zmu_deliver h hn1 hn h0, zOk_deliver h hn1 hn h0, ?_⟩
  · rw [hn]
    exact nI_ne0 h0 (by omega)
  · rw [zg_deliver, if_pos h2]
    rfl
