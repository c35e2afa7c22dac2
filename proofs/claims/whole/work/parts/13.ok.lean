-- the reference's memory stays in order
theorem zcn_one {f g : Nat → Bool} {n r : Nat} (h : ∀ j, j < n → j ≠ r → g j = f j) : zcn g n ≤ zcn f n + 1 := by
  induction n with
  | zero => simp [zcn]
  | succ n ih =>
    by_cases hr : r = n
    · have e : zcn g n = zcn f n := zcn_congr (fun j hj => h j (by omega) (by omega))
      simp only [zcn, e]
      split <;> split <;> omega
    · have := ih (fun j hj => h j (by omega))
      simp only [zcn, h n (by omega) (fun q => hr q.symm)]
      split <;> omega
theorem zcn_none {f : Nat → Bool} {n : Nat} (h : ∀ j, j < n → f j = false) : zcn f n = 0 := by
  induction n with
  | zero => rfl
  | succ n ih => rw [zcn_f (h n (by omega)), ih (fun j hj => h j (by omega))]
theorem zOk_congr {M N : zM} (h : zOk M) (e0 : N 0 = M 0) (e5 : N 5 = M 5) (e12 : N 12 = M 12) (e14 : N 14 = M 14) (e16 : N 16 = M 16) (e17 : N 17 = M 17) (e18 : N 18 = M 18) (e19 : N 19 = M 19) (e31 : N 31 = M 31) (e32 : N 32 = M 32) (e33 : N 33 = M 33) (e34 : N 34 = M 34) (e35 : N 35 = M 35) (e36 : N 36 = M 36) : zOk N := by
  unfold zOk zokL zokA zokD zokW zliars zrcs zans zlok at h ⊢
  rw [e0, e5, e12, e14, e16, e17, e18, e19, e31, e32, e33, e34, e35, e36]
  exact h
theorem zOk_row {M : zM} {k i : Nat} {v : Int32} (h : zOk M) (hk : k = 1 ∨ k = 2 ∨ k = 3 ∨ k = 4 ∨ k = 6 ∨ k = 7 ∨ k = 8 ∨ k = 9 ∨ k = 10 ∨ k = 11 ∨ k = 13 ∨ k = 15 ∨ (20 ≤ k ∧ k ≤ 30) ∨ k = 37 ∨ k = 38) : zOk (zst M k i v) :=
  zOk_congr h (zst_k (by omega)) (zst_k (by omega)) (zst_k (by omega)) (zst_k (by omega)) (zst_k (by omega)) (zst_k (by omega)) (zst_k (by omega)) (zst_k (by omega)) (zst_k (by omega)) (zst_k (by omega)) (zst_k (by omega)) (zst_k (by omega)) (zst_k (by omega)) (zst_k (by omega))
-- a letter that is sent
theorem zsend_r {M : zM} {n : Nat} {w r p d x lo hi : Int32} (hn : M 0 1 = nI n) (h1 : n < 300) {q j : Nat} (hq : 31 ≤ q ∧ q ≤ 38) (hj : j ≠ n) : zsend M w r p d x lo hi q j = M q j := by
  rw [← zsend_n hn (by omega) (by rw [hn, zn_eq300 (by omega)]; omega)]
  simp only [zst_e]
  rw [if_neg (by omega), if_neg (by omega), if_neg (by omega), if_neg (by omega), if_neg (by omega), if_neg (by omega), if_neg (by omega), if_neg (by omega), if_neg (by omega)]
theorem zsend_at {M : zM} {n : Nat} {w r p d x lo hi : Int32} (hn : M 0 1 = nI n) (h1 : n < 300) :
    zsend M w r p d x lo hi 31 n = w ∧ zsend M w r p d x lo hi 32 n = r ∧ zsend M w r p d x lo hi 33 n = p ∧ zsend M w r p d x lo hi 34 n = d ∧ zsend M w r p d x lo hi 35 n = x ∧ zsend M w r p d x lo hi 36 n = x ∧ zsend M w r p d x lo hi 37 n = lo ∧ zsend M w r p d x lo hi 38 n = hi := by
  rw [← zsend_n hn (by omega) (by rw [hn, zn_eq300 (by omega)]; omega)]
  simp [zst_e]
abbrev zlw (w r p d : Int32) : Prop := (∃ r' : Nat, r' < 9 ∧ r = nI r') ∧ (∃ p' : Nat, p' < 4 ∧ p = nI p') ∧ (w = 1 ∨ w = 2 ∨ ((w = 3 ∨ w = 4) ∧ ∃ d' : Nat, d' < 3 ∧ d = nI d'))
theorem zOk_send {M : zM} {w r p d x lo hi : Int32} (h : zOk M) (hw : zlw w r p d) : zOk (zsend M w r p d x lo hi) := by
  obtain ⟨⟨n, hn1, hn, hn2⟩, hA, ⟨R, hR⟩, hW, hl⟩ := h
  by_cases hf : n = 300
  · rw [zsend_full (by rw [hn, hf]; rfl)]
    exact ⟨⟨n, hn1, hn, hn2⟩, hA, ⟨R, hR⟩, hW, hl⟩
  · have hne : ¬ M 0 1 = 300 := by rw [hn, zn_eq300 hn1]; exact hf
    refine ⟨⟨n + 1, by omega, by rw [zsend_01 hne, hn, nI_1], fun i hi' => ?_⟩, ?_, ⟨R, ?_⟩, ?_, ?_⟩
    · by_cases hi2 : i = n
      · subst hi2
        obtain ⟨a1, a2, a3, a4, a5, a6, -, -⟩ := zsend_at (w := w) (r := r) (p := p) (d := d) (x := x) (lo := lo) (hi := hi) hn (by omega)
        unfold zlok
        rw [a1, a2, a3, a4, a5, a6]
        obtain ⟨b1, b2, b3⟩ := hw
        refine ⟨b1, b2, ?_⟩
        rcases b3 with b3 | b3 | ⟨b3 | b3, b4⟩
        · exact Or.inl ⟨b3, rfl⟩
        · exact Or.inr (Or.inl b3)
        · exact Or.inr (Or.inr (Or.inl ⟨b3, b4⟩))
        · exact Or.inr (Or.inr (Or.inr ⟨b3, b4⟩))
      · exact zlok_at (hn2 i (by omega)) (fun q h1 h2 => zsend_r hn (by omega) ⟨h1, h2⟩ hi2)
    · unfold zokA at hA ⊢
      rw [zsend_k (by decide) (by decide)]
      exact hA
    · unfold zokD zans at hR ⊢
      rw [zsend_00, zsend_k (k := 18) (by decide) (by decide), zsend_k (k := 19) (by decide) (by decide), zsend_k (k := 17) (by decide) (by decide)]
      exact hR
    · unfold zokW zrcs at hW ⊢
      rw [zsend_k (k := 12) (by decide) (by decide), zsend_k (k := 14) (by decide) (by decide)]
      exact hW
    · unfold zliars at hl ⊢
      rw [zsend_k (k := 5) (by decide) (by decide)]
      exact hl
theorem zOk_sendTell {M : zM} {r p d w n lo hi : Int32} (h : zOk M) (hw : zlw 4 r p d) : zOk (zsendTell M r p d w n lo hi) := by
  by_cases hf : M 0 1 = 300
  · rw [zsendTell, if_pos hf]
    exact h
  · rw [zsendTell, if_neg hf]
    have h2 := zOk_send (x := w) (lo := lo) (hi := hi) h hw
    obtain ⟨⟨k, hk1, hk, -⟩, -⟩ := h
    have hk3 : k < 300 := by
      rw [hk, zn_eq300 hk1] at hf
      omega
    have hz : zix (M 0 1) = k := by rw [hk]; exact zix_n (by omega)
    obtain ⟨a1, a2, a3, a4, -⟩ := zsend_at (w := 4) (r := r) (p := p) (d := d) (x := w) (lo := lo) (hi := hi) hk hk3
    obtain ⟨⟨n2, hn1, hn, hn2⟩, hA, hR, hW, hl⟩ := h2
    refine ⟨⟨n2, hn1, hn, fun i hi' => ?_⟩, hA, hR, hW, hl⟩
    have hi3 := hn2 i hi'
    rw [hz]
    by_cases hi2 : i = k
    · subst hi2
      unfold zlok
      rw [zst_k (k' := 31) (by decide), zst_k (k' := 32) (by decide), zst_k (k' := 33) (by decide), zst_k (k' := 34) (by decide), a1, a2, a3, a4]
      obtain ⟨b1, b2, b3⟩ := hw
      refine ⟨b1, b2, Or.inr (Or.inr (Or.inr ⟨rfl, ?_⟩))⟩
      rcases b3 with b3 | b3 | ⟨-, b4⟩
      · exact absurd b3 (by decide)
      · exact absurd b3 (by decide)
      · exact b4
    · exact zlok_at hi3 (fun q h1 h2 => by rw [zst_e, if_neg (by omega)])
