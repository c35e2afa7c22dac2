theorem zOk_take {M : zM} {i n : Nat} (h : zOk M) (hn1 : n ≤ 300) (hn : M 0 1 = nI n) (hi : i < n) : zOk (ztake M i n) := by
  obtain ⟨⟨n', hn1', hn', hn2⟩, hA, hR, hW, hl⟩ := h
  have hnn : n' = n := (nI_eq (by omega) (by omega)).mp (hn'.symm.trans hn)
  subst hnn
  refine ⟨⟨n' - 1, by omega, rfl, fun j hj => ?_⟩, ?_, ?_, ?_, ?_⟩
  · by_cases hij : i ≤ j
    · exact zlok_at (hn2 (j + 1) (by omega)) (fun q h1 h2 => by unfold ztake zsh; rw [if_pos ⟨h1, h2⟩, if_neg (by omega), if_pos ⟨hij, hj⟩])
    · exact zlok_at (hn2 j (by omega)) (fun q h1 h2 => by unfold ztake zsh; rw [if_pos ⟨h1, h2⟩, if_neg (by omega), if_neg (by omega)])
  · unfold zokA at hA ⊢
    rw [ztake_k (by decide) (by decide)]
    exact hA
  · obtain ⟨R, hR⟩ := hR
    refine ⟨R, ?_⟩
    unfold zokD zans at hR ⊢
    rw [ztake_00, ztake_k (q := 18) (by decide) (by decide), ztake_k (q := 19) (by decide) (by decide), ztake_k (q := 17) (by decide) (by decide)]
    exact hR
  · unfold zokW zrcs at hW ⊢
    rw [ztake_k (q := 12) (by decide) (by decide), ztake_k (q := 14) (by decide) (by decide)]
    exact hW
  · unfold zliars at hl ⊢
    rw [ztake_k (q := 5) (by decide) (by decide)]
    exact hl
theorem zOk_twin {M : zM} {i n : Nat} (h : zOk M) (hn1 : n < 300) (hn : M 0 1 = nI n) (hi : i < n) : zOk (zst (zcopy M i n) 0 1 (M 0 1 + 1)) := by
  obtain ⟨⟨n', hn1', hn', hn2⟩, hA, hR, hW, hl⟩ := h
  have hnn : n' = n := (nI_eq (by omega) (by omega)).mp (hn'.symm.trans hn)
  subst hnn
  refine ⟨⟨n' + 1, by omega, by rw [zst_s, hn, nI_1], fun j hj => ?_⟩, ?_, ?_, ?_, ?_⟩
  · by_cases hjn : j = n'
    · exact zlok_at (hn2 i hi) (fun q h1 h2 => by rw [zst_k (by omega), zcopy_r ⟨h1, h2⟩, if_pos hjn])
    · exact zlok_at (hn2 j (by omega)) (fun q h1 h2 => by rw [zst_k (by omega), zcopy_r ⟨h1, h2⟩, if_neg hjn])
  · unfold zokA at hA ⊢
    rw [zst_k (by decide), zcopy_k (by decide)]
    exact hA
  · obtain ⟨R, hR⟩ := hR
    refine ⟨R, ?_⟩
    unfold zokD zans at hR ⊢
    rw [zst_i (by decide), zst_k (k' := 18) (by decide), zst_k (k' := 19) (by decide), zst_k (k' := 17) (by decide), zcopy_k (q := 0) (by decide), zcopy_k (q := 18) (by decide), zcopy_k (q := 19) (by decide), zcopy_k (q := 17) (by decide)]
    exact hR
  · unfold zokW zrcs at hW ⊢
    rw [zst_k (k' := 12) (by decide), zst_k (k' := 14) (by decide), zcopy_k (q := 12) (by decide), zcopy_k (q := 14) (by decide)]
    exact hW
  · unfold zliars at hl ⊢
    rw [zst_k (k' := 5) (by decide), zcopy_k (q := 5) (by decide)]
    exact hl
-- rows 12 and 14: the writers
theorem zOk_W {M N : zM} (h : zOk M) (hW : zokW N) (e0 : N 0 = M 0) (e5 : N 5 = M 5) (e16 : N 16 = M 16) (e17 : N 17 = M 17) (e18 : N 18 = M 18) (e19 : N 19 = M 19) (e31 : N 31 = M 31) (e32 : N 32 = M 32) (e33 : N 33 = M 33) (e34 : N 34 = M 34) (e35 : N 35 = M 35) (e36 : N 36 = M 36) : zOk N := by
  obtain ⟨hL, hA, hR, -, hl⟩ := h
  refine ⟨?_, ?_, ?_, hW, ?_⟩
  · unfold zokL zlok at hL ⊢
    rw [e0, e31, e32, e33, e34, e35, e36]
    exact hL
  · unfold zokA at hA ⊢
    rw [e16]
    exact hA
  · unfold zokD zans at hR ⊢
    rw [e0, e17, e18, e19]
    exact hR
  · unfold zliars at hl ⊢
    rw [e5]
    exact hl
theorem zrcs_oth {M : zM} {p p' r : Nat} {v : Int32} (hr : r < 9) (hp : p' ≠ p) : zrcs (zst M 14 (9 * p + r) v) p' = zrcs M p' := by
  unfold zrcs
  refine zcn_congr (fun j hj => ?_)
  rw [zst_i (by omega)]
theorem zOk_rcComes {M : zM} {p r : Nat} {n : Int32} (h : zOk M) (hr : r < 9) : zOk (zrcComes M p r n) := by
  have hW := h.2.2.2.1
  unfold zrcComes
  split
  · exact h
  · split
    · rename_i h1 h2
      refine zOk_W h (fun p' hp' ho => ?_) rfl rfl rfl rfl rfl rfl rfl rfl rfl rfl rfl rfl
      by_cases he : p' = p
      · rw [he]; exact h2
      · rw [zrcs_oth hr he]
        exact hW p' hp' ho
    · rename_i h1 h2
      refine zOk_W h (fun p' hp' ho => ?_) rfl rfl rfl rfl rfl rfl rfl rfl rfl rfl rfl rfl
      by_cases he : p' = p
      · subst he
        refine absurd ?_ ho
        show zst (zst M 14 (9 * p' + r) 1) 12 p' 0 12 p' = 0
        rw [zst_s]
      · have ho' : ¬ M 12 p' = 0 := by
          have : zst (zst M 14 (9 * p + r) 1) 12 p 0 12 p' = M 12 p' := by rw [zst_i he]; rfl
          rw [← this]
          exact ho
        show zrcs (zst M 14 (9 * p + r) 1) p' < 7
        rw [zrcs_oth hr he]
        exact hW p' hp' ho'
theorem zfgl_in {p : Nat} {M : zM} {r j : Nat} (hj : j < r) : zfgl p M r 14 (9 * p + j) = 0 := by
  induction r with
  | zero => omega
  | succ r ih =>
    unfold zfgl
    by_cases h : j = r
    · subst h; rw [zst_s]
    · rw [zst_i (by omega)]
      exact ih (by omega)
theorem zfgl_out {p : Nat} {M : zM} {r i : Nat} (hi : i < 9 * p ∨ 9 * p + r ≤ i) : zfgl p M r 14 i = M 14 i := by
  induction r with
  | zero => rfl
  | succ r ih =>
    unfold zfgl
    rw [zst_i (by omega)]
    exact ih (by omega)
theorem zOk_forget {M : zM} {p : Nat} (h : zOk M) : zOk (zfgl p M 9) := by
  have hW := h.2.2.2.1
  refine zOk_W h (fun p' hp' ho => ?_) (zfgl_k (by decide) 9) (zfgl_k (by decide) 9) (zfgl_k (by decide) 9) (zfgl_k (by decide) 9) (zfgl_k (by decide) 9) (zfgl_k (by decide) 9) (zfgl_k (by decide) 9) (zfgl_k (by decide) 9) (zfgl_k (by decide) 9) (zfgl_k (by decide) 9) (zfgl_k (by decide) 9) (zfgl_k (by decide) 9)
  by_cases he : p' = p
  · subst he
    have : zrcs (zfgl p' M 9) p' = 0 := zcn_none (fun j hj => by simp [zfgl_in hj])
    omega
  · have e : zrcs (zfgl p M 9) p' = zrcs M p' := zcn_congr (fun j hj => by rw [zfgl_out (by omega)])
    rw [e]
    exact hW p' hp' (by rw [← zfgl_k (p := p) (M := M) (k := 12) (by decide) 9]; exact ho)
theorem zlw_n {w : Int32} {r p : Nat} {d : Int32} (hr : r < 9) (hp : p < 4) (hw : w = 1 ∨ w = 2) : zlw w (nI r) (nI p) d := by
  refine ⟨⟨r, hr, rfl⟩, ⟨p, hp, rfl⟩, ?_⟩
  rcases hw with hw | hw
  · exact Or.inl hw
  · exact Or.inr (Or.inl hw)
theorem zlw_d {w : Int32} {r p d : Nat} (hr : r < 9) (hp : p < 4) (hd : d < 3) (hw : w = 3 ∨ w = 4) : zlw w (nI r) (nI p) (nI d) := ⟨⟨r, hr, rfl⟩, ⟨p, hp, rfl⟩, Or.inr (Or.inr ⟨hw, d, hd, rfl⟩)⟩
