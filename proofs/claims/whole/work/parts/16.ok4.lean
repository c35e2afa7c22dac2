theorem zOk_read {M : zM} {d p : Nat} (h : zOk M) (hd : d < 3) (hp : p < 4) : zOk (zread M d (nI p)) := by
  obtain ⟨hL, hA, ⟨R, hR1, hR2, hR3, hR4⟩, hW, hI⟩ := h
  unfold zread
  refine zOk_ask (R := R) (zOL_row (zOL_row (zOL_row hL (by decide)) (by decide)) (by decide)) (fun d' hd' => ?_) ⟨hR1, hR2, hR3⟩ (fun d' hd' he ho => ?_) hd ⟨1, by omega, by omega, ?_⟩ hW hI
  · by_cases he : d' = d
    · subst he
      exact ⟨p, hp, zst_s _ _ _ _⟩
    · rw [zst_i he]
      exact hA d' hd'
  · have ho' : M 18 d' = 1 := by
      have : zst (zst (zst M 18 d 1) 17 d 1) 16 d (nI p) 18 d' = M 18 d' := by rw [zst_k (by decide), zst_k (by decide), zst_i he]
      rw [← this]; exact ho
    obtain ⟨a, k, k1, k2, k3⟩ := hR4 d' hd' ho'
    refine ⟨a, k, k1, k2, ?_⟩
    rw [zst_k (by decide), zst_i he]
    exact k3
  · rw [zst_k (by decide), zst_s]
    rfl
theorem zOk_lie {M : zM} {r : Nat} (h : zOk M) (hr : r < 9) (h2 : ¬ zliars M = 2) : zOk (zst M 5 r 1) := by
  obtain ⟨hL, hA, hR, hW, hI⟩ := h
  refine ⟨hL, hA, hR, hW, ?_⟩
  have : zliars (zst M 5 r 1) ≤ zliars M + 1 := zcn_one (r := r) (fun j hj hjr => by rw [zst_i hjr])
  omega
theorem zans_oth {M : zM} {d d' r : Nat} {v : Int32} (hr : r < 9) (h : d' ≠ d) : zans (zst M 19 (9 * d + r) v) d' = zans M d' := zcn_congr (fun j hj => by rw [zst_i (by omega)])
theorem zans_one {M : zM} {d r : Nat} {v : Int32} : zans (zst M 19 (9 * d + r) v) d ≤ zans M d + 1 := zcn_one (r := r) (fun j hj hjr => by rw [zst_i (by omega)])
/-- the memory with one more told, before it is looked at -/
def ztold (M : zM) (d r : Nat) : zM := zst (zst (zst (zst M 19 (9 * d + r) 1) 20 (9 * d + r) (M 36 300)) 21 (9 * d + r) (M 37 300)) 22 (9 * d + r) (M 38 300)
theorem zknow_k {M : zM} {d p b k : Nat} (h : k ≠ 23 ∧ k ≠ 24 ∧ k ≠ 25) : zknow M d p b k = M k := by
  unfold zknow
  split
  · rfl
  · rw [zst_k h.2.2, zst_k h.2.1, zst_k h.1]
theorem zanswer_k {M : zM} {d p b k : Nat} (h : k < 18 ∨ k = 19 ∨ k = 20 ∨ k = 21 ∨ k = 22 ∨ 30 < k) : zanswer M d p b k = M k := by
  unfold zanswer
  rw [zst_k (by omega), zst_k (by omega), zst_k (by omega), zst_k (by omega), zst_k (by omega), zst_k (by omega), zst_k (by omega), zst_k (by omega), zst_k (by omega), zknow_k (by omega)]
theorem zanswer_18 {M : zM} {d p b : Nat} : zanswer M d p b 18 = zst M 18 d 2 18 := by
  unfold zanswer
  rw [zst_k (by decide), zst_k (by decide), zst_k (by decide), zst_k (by decide), zst_k (by decide), zst_k (by decide), zst_k (by decide), zst_k (by decide), zst_r, zst_r, zknow_k (by decide)]
theorem zOk_looks {M : zM} {d R : Nat} (hL : zOL M) (hA : zokA M) (hR1 : 1 ≤ R ∧ R ≤ 9 ∧ M 0 0 = nI R) (hR2 : ∀ d', d' < 3 → d' ≠ d → M 18 d' = 1 → zans M d' < 7 ∧ ∃ k : Nat, 1 ≤ k ∧ k ≤ R ∧ M 17 d' = nI k) (hd : d < 3) (hr : ∃ k : Nat, 1 ≤ k ∧ k ≤ R ∧ M 17 d = nI k) (hW : zokW M) (hI : zliars M ≤ 2) : zOk (zlooks M d) := by
  have hdone : ∀ (N : zM) (v : Int32), ¬ v = 1 → N 18 = zst M 18 d v 18 → (∀ k, k < 18 ∨ k = 19 ∨ 30 < k → N k = M k) → zOk N := by
    intro N v hv e18 e
    refine ⟨zOL_congr hL (e 0 (by decide)) (e 31 (by decide)) (e 32 (by decide)) (e 33 (by decide)) (e 34 (by decide)) (e 35 (by decide)) (e 36 (by decide)), zokA_of hA (e 16 (by decide)), ⟨R, hR1.1, hR1.2.1, by rw [e 0 (by decide)]; exact hR1.2.2, fun d' hd' ho => ?_⟩, zokW_of hW (e 12 (by decide)) (e 14 (by decide)), zokI_of hI (e 5 (by decide))⟩
    rw [e18] at ho
    by_cases he : d' = d
    · subst he
      rw [zst_s] at ho
      exact absurd ho hv
    · rw [zst_i he] at ho
      have := hR2 d' hd' he ho
      unfold zans at this ⊢
      rw [e 19 (by decide), e 17 (by decide)]
      exact this
  cases hb : zbest M d 9 with
  | some b =>
    simp only [zlooks, hb]
    exact hdone _ 2 (by decide) zanswer_18 (fun k hk => zanswer_k (by omega))
  | none =>
    by_cases h : M 17 d = M 0 0
    · rw [zlooks_b hb h]
      exact hdone _ 3 (by decide) rfl (fun k hk => zst_k (by omega))
    · rw [zlooks_n hb h]
      obtain ⟨k, k1, k2, k3⟩ := hr
      have hk : k < R := by
        rcases Nat.lt_or_ge k R with q | q
        · exact q
        · exact absurd (by rw [k3, hR1.2.2, show k = R by omega]) h
      refine zOk_ask (R := R) (zOL_row hL (by decide)) hA hR1 (fun d' hd' he ho => ?_) hd ⟨k + 1, by omega, by omega, ?_⟩ hW hI
      · obtain ⟨a, j, j1, j2, j3⟩ := hR2 d' hd' he ho
        refine ⟨a, j, j1, j2, ?_⟩
        rw [zst_i he]
        exact j3
      · rw [zst_s, k3, nI_1]
theorem ztellComes_eq {M : zM} {d r : Nat} (h : ¬ (¬ M 18 d = 1 ∨ ¬ M 35 300 = M 15 d ∨ ¬ M 19 (9 * d + r) = 0)) : ztellComes M d r = if zans (ztold M d r) d = 7 then zlooks (ztold M d r) d else ztold M d r := by
  unfold ztellComes ztold
  rw [if_neg h]
theorem ztellComes_no {M : zM} {d r : Nat} (h : ¬ M 18 d = 1 ∨ ¬ M 35 300 = M 15 d ∨ ¬ M 19 (9 * d + r) = 0) : ztellComes M d r = M := by
  unfold ztellComes
  rw [if_pos h]
theorem zOk_tellComes {M : zM} {d r : Nat} (h : zOk M) (hd : d < 3) (hr : r < 9) : zOk (ztellComes M d r) := by
  by_cases hc : ¬ M 18 d = 1 ∨ ¬ M 35 300 = M 15 d ∨ ¬ M 19 (9 * d + r) = 0
  · rw [ztellComes_no hc]
    exact h
  · rw [ztellComes_eq hc]
    obtain ⟨hL, hA, ⟨R, hR1, hR2, hR3, hR4⟩, hW, hI⟩ := h
    have h18 : M 18 d = 1 := Classical.not_not.mp (fun q => hc (Or.inl q))
    have hle : zans (ztold M d r) d ≤ zans M d + 1 := zans_one
    obtain ⟨hlt, hk⟩ := hR4 d hd h18
    have hL' : zOL (ztold M d r) := zOL_row (zOL_row (zOL_row (zOL_row hL (by decide)) (by decide)) (by decide)) (by decide)
    have hoth : ∀ d', d' < 3 → d' ≠ d → M 18 d' = 1 → zans (ztold M d r) d' < 7 ∧ ∃ k : Nat, 1 ≤ k ∧ k ≤ R ∧ M 17 d' = nI k := by
      intro d' hd' he ho
      have e : zans (ztold M d r) d' = zans M d' := zans_oth (M := M) (v := 1) hr he
      rw [e]
      exact hR4 d' hd' ho
    split
    · exact zOk_looks hL' hA ⟨hR1, hR2, hR3⟩ hoth hd hk hW hI
    · rename_i h7
      refine ⟨hL', hA, ⟨R, hR1, hR2, hR3, fun d' hd' ho => ?_⟩, hW, hI⟩
      by_cases he : d' = d
      · subst he
        exact ⟨by omega, hk⟩
      · exact hoth d' hd' he ho
theorem zOk_storeComes {M : zM} {k r p : Nat} (h : zOk M) (hr : r < 9) (hp : p < 4) (h32 : M 32 300 = nI r) (h33 : M 33 300 = nI p) : zOk (zstoreComes M k) := by
  simp only [zstoreComes, h32, h33]
  refine zOk_send ?_ (zlw_n hr hp (Or.inr rfl))
  split
  · exact zOk_row (zOk_row (zOk_row h (by decide)) (by decide)) (by decide)
  · exact h
theorem zOk_comes {M : zM} (h : zOk M) (hk : zlok M 300) : zOk (zcomes M) := by
  obtain ⟨⟨r, hr, h32⟩, ⟨p, hp, h33⟩, hk⟩ := hk
  have z_r : zix (nI r) = r := zix_n (by omega)
  have z_p : zix (nI p) = p := zix_n (by omega)
  rcases hk with ⟨h31, -⟩ | h31 | ⟨h31, d, hd, h34⟩ | ⟨h31, d, hd, h34⟩
  · simp only [zcomes, h31, if_true]
    split
    · exact h
    · exact zOk_storeComes h hr hp h32 h33
  · have e : zcomes M = zrcComes M p r (M 35 300) := by simp [zcomes, h31, h32, h33, z_r, z_p]
    rw [e]
    exact zOk_rcComes h hr
  · have e : zcomes M = if zdeaf M r then M else zsendTell M (nI r) (nI p) (nI d) (M 35 300) (M 6 (4 * r + p)) (M 7 (4 * r + p)) (M 8 (4 * r + p)) := by simp [zcomes, h31, h32, h33, h34, z_r, z_p]
    rw [e]
    split
    · exact h
    · exact zOk_sendTell h (zlw_d hr hp hd (Or.inr rfl))
  · have e : zcomes M = ztellComes M d r := by simp [zcomes, h31, h32, h34, z_r, zix_n (show d < 2 ^ 31 by omega)]
    rw [e]
    exact zOk_tellComes h hd hr
theorem zOk_deliver {M : zM} {i n : Nat} (h : zOk M) (hn1 : n ≤ 300) (hn : M 0 1 = nI n) (hi : i < n) : zOk (zdeliver M i) := by
  have hz : zix (M 0 1) = n := by rw [hn]; exact zix_n (by omega)
  unfold zdeliver
  rw [hz]
  obtain ⟨⟨n', hn1', hn', hn2⟩, -⟩ := id h
  have hnn : n' = n := (nI_eq (by omega) (by omega)).mp (hn'.symm.trans hn)
  subst hnn
  exact zOk_comes (zOk_take h hn1 hn hi) (ztake_lok (hn2 i hi))
