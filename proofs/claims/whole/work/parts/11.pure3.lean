theorem zLt_of {M N : zM} (h : zLt M) (e : N 0 1 = M 0 1) : zLt N := by
  obtain ⟨n, h1, h2⟩ := h
  exact ⟨n, h1, e.trans h2⟩
theorem zstoreComes_300 {M : zM} (h : zLt M) {k q : Nat} (hq : q ≠ 0) (h2 : q ≠ 6 ∧ q ≠ 7 ∧ q ≠ 8) : zstoreComes M k q 300 = M q 300 := by
  simp only [zstoreComes]
  split
  · rw [zsend_300 (zLt_st (zLt_st (zLt_st h (by decide)) (by decide)) (by decide)) hq, zst_k h2.2.2, zst_k h2.2.1, zst_k h2.1]
  · rw [zsend_300 h hq]
theorem zrcComes_k {M : zM} {p r q : Nat} {n : Int32} (h2 : q ≠ 12 ∧ q ≠ 13 ∧ q ≠ 14) : zrcComes M p r n q = M q := by
  simp only [zrcComes]
  split
  · rfl
  · split
    · rw [zst_k h2.2.2]
    · rw [zst_k h2.2.1, zst_k h2.1, zst_k h2.2.2]
theorem zsendTell_300 {M : zM} (h : zLt M) {r p d w n lo hi : Int32} {q : Nat} (hq : q ≠ 0) (h2 : q ≠ 36) : zsendTell M r p d w n lo hi q 300 = M q 300 := by
  simp only [zsendTell]
  split
  · rfl
  · rw [zst_k h2, zsend_300 h hq]
-- what holds of the reference's memory between calls
def zlok (M : zM) (i : Nat) : Prop :=
  (∃ r : Nat, r < 9 ∧ M 32 i = nI r) ∧ (∃ p : Nat, p < 4 ∧ M 33 i = nI p) ∧
  ((M 31 i = 1 ∧ M 36 i = M 35 i) ∨ M 31 i = 2 ∨ (M 31 i = 3 ∧ ∃ d : Nat, d < 3 ∧ M 34 i = nI d) ∨ (M 31 i = 4 ∧ ∃ d : Nat, d < 3 ∧ M 34 i = nI d))
def zokL (M : zM) (n : Nat) : Prop := n ≤ 300 ∧ M 0 1 = nI n ∧ ∀ i, i < n → zlok M i
def zokA (M : zM) : Prop := ∀ d, d < 3 → ∃ p : Nat, p < 4 ∧ M 16 d = nI p
def zokD (M : zM) (R : Nat) : Prop := 1 ≤ R ∧ R ≤ 9 ∧ M 0 0 = nI R ∧ ∀ d, d < 3 → M 18 d = 1 → zans M d < 7 ∧ ∃ k : Nat, 1 ≤ k ∧ k ≤ R ∧ M 17 d = nI k
def zokW (M : zM) : Prop := ∀ p, p < 4 → ¬ M 12 p = 0 → zrcs M p < 7
def zOk (M : zM) : Prop := (∃ n, zokL M n) ∧ zokA M ∧ (∃ R, zokD M R) ∧ zokW M ∧ zliars M ≤ 2
theorem zOk_lt {M : zM} (h : zOk M) : zLt M := by
  obtain ⟨⟨n, h1, h2, -⟩, -⟩ := h
  exact ⟨n, h1, h2⟩
theorem ztake_300 {M : zM} {i n q : Nat} (hq : 31 ≤ q ∧ q ≤ 38) : ztake M i n q 300 = M q i := by
  unfold ztake zsh
  rw [if_pos hq, if_pos rfl]
theorem ztake_k {M : zM} {i n q : Nat} (hq : q < 31 ∨ 38 < q) (h0 : q ≠ 0) : ztake M i n q = M q := by
  funext j
  unfold ztake zsh
  rw [if_neg (by omega), if_neg (by omega)]
theorem ztake_01 {M : zM} {i n : Nat} : ztake M i n 0 1 = nI (n - 1) := rfl
theorem ztake_00 {M : zM} {i n : Nat} : ztake M i n 0 0 = M 0 0 := rfl
theorem zlok_at {M N : zM} {i j : Nat} (h : zlok M i) (e : ∀ q, 31 ≤ q → q ≤ 38 → N q j = M q i) : zlok N j := by
  unfold zlok at h ⊢
  rw [e 31 (by decide) (by decide), e 32 (by decide) (by decide), e 33 (by decide) (by decide), e 34 (by decide) (by decide), e 35 (by decide) (by decide), e 36 (by decide) (by decide)]
  exact h
theorem ztake_lok {M : zM} {i n : Nat} (h : zlok M i) : zlok (ztake M i n) 300 := zlok_at h (fun q h1 h2 => ztake_300 ⟨h1, h2⟩)
theorem ztake_lt {M : zM} {i n : Nat} (h : n ≤ 300) : zLt (ztake M i n) := ⟨n - 1, by omega, rfl⟩
