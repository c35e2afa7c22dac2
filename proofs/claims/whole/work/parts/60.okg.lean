-- zOk is kept by every call, as the law's walk wants it
theorem zx_lt {x : Int32} {n : Nat} (hn : n < 2 ^ 31) (h : zbl x (nI n)) : zix x < n ∧ x = nI (zix x) := by
  obtain ⟨j, hj, rfl⟩ := zbl_of hn h
  rw [zix_n (by omega)]
  exact ⟨hj, rfl⟩
theorem zx4 {x : Int32} (h : zbl x 4) : zix x < 4 ∧ x = nI (zix x) := zx_lt (n := 4) (by decide) h
theorem zx3 {x : Int32} (h : zbl x 3) : zix x < 3 ∧ x = nI (zix x) := zx_lt (n := 3) (by decide) h
theorem zx9 {x : Int32} (h : zbl x 9) : zix x < 9 ∧ x = nI (zix x) := zx_lt (n := 9) (by decide) h
theorem zOg_hall {M : zM} (h : zOk M) (p q : Int32) : zOk (zg_hall M p q) := by
  unfold zg_hall
  split
  · exact zOk_row h (by decide)
  · exact h
theorem zOg_crash {M : zM} (h : zOk M) (r : Int32) : zOk (zg_crash M r) := by
  unfold zg_crash
  split
  · exact zOk_row h (by decide)
  · exact h
theorem zOg_restart {M : zM} (h : zOk M) (r : Int32) : zOk (zg_restart M r) := by
  unfold zg_restart
  split
  · exact zOk_row h (by decide)
  · exact h
theorem zOg_measured {M : zM} (h : zOk M) (q x : Int32) : zOk (zg_measured M q x) := by
  unfold zg_measured
  split
  · exact zOk_row (zOk_row h (by decide)) (by decide)
  · exact h
theorem zOg_write {M : zM} (h : zOk M) (p lo hi : Int32) : zOk (zg_write M p lo hi) := by
  unfold zg_write
  split
  · rename_i h1
    exact zOk_write h (zx4 h1.1).1
  · exact h
theorem zOg_read {M : zM} (h : zOk M) (d p : Int32) : zOk (zg_read M d p) := by
  unfold zg_read
  split
  · rename_i h1
    have h2 := zx4 h1.2.1
    rw [h2.2]
    exact zOk_read h (zx3 h1.1).1 h2.1
  · exact h
theorem zOg_storeAgain {M : zM} (h : zOk M) (p : Int32) : zOk (zg_storeAgain M p) := by
  unfold zg_storeAgain
  split
  · rename_i h1
    exact zOk_sal h (zx4 h1.1).1
  · exact h
theorem zOg_askAgain {M : zM} (h : zOk M) (d : Int32) : zOk (zg_askAgain M d) := by
  unfold zg_askAgain
  split
  · rename_i h1
    exact zOk_aal h (zx3 h1.1).1
  · exact h
theorem zOg_forget {M : zM} (h : zOk M) (p : Int32) : zOk (zg_forget M p) := by
  unfold zg_forget
  split
  · exact zOk_forget h
  · exact h
theorem zOg_lie {M : zM} (h : zOk M) (r : Int32) : zOk (zg_lie M r) := by
  unfold zg_lie
  split
  · rename_i h1
    exact zOk_lie h (zx9 h1.1).1 h1.2.2
  · exact h
theorem zOg_deliver {M : zM} (h : zOk M) (i : Int32) : zOk (zg_deliver M i) := by
  unfold zg_deliver
  split
  · rename_i h1
    obtain ⟨n, hn, e⟩ := zOk_lt h
    rw [e] at h1
    exact zOk_deliver h hn e (zx_lt (by omega) h1).1
  · exact h
