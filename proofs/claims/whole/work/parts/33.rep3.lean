def zsendP (M : zM) (w r p d n pn lo hi : Int32) : zM :=
  if M 0 1 = 300 then M else
    zst (zst (zst (zst (zst (zst (zst (zst (zst M 31 (zix (M 0 1)) w) 32 (zix (M 0 1)) r) 33 (zix (M 0 1)) p) 34 (zix (M 0 1)) d) 35 (zix (M 0 1)) n) 36 (zix (M 0 1)) pn) 37 (zix (M 0 1)) lo) 38 (zix (M 0 1)) hi) 0 1 (M 0 1 + 1)
theorem zsendP_n (M : zM) (w r p d n lo hi : Int32) : zsendP M w r p d n n lo hi = zsend M w r p d n lo hi := rfl
theorem zsendP_t (M : zM) (r p d q n lo hi : Int32) : zsendP M 4 r p d q n lo hi = zsendTell M r p d q n lo hi := by
  unfold zsendP zsendTell zsend
  split
  · rfl
  · funext k j
    simp only [zst_e]
    by_cases h1 : k = 36 ∧ j = zix (M 0 1)
    · rw [if_pos h1, if_neg (by omega), if_neg (by omega), if_neg (by omega), if_pos h1]
    · simp only [if_neg h1]
def zsC (C : zC) (j : Nat) (k r p d n : Int32) : zC := if C 13 0 0 = 300 then C else zs3 (zs3 (zs3 (zs3 (zs3 (zs3 C 14 j 0 k) 15 j 0 r) 16 j 0 p) 17 j 0 d) 18 j 0 n) 13 0 0 (C 13 0 0 + 1)
def zsA (C : zC) (A : zA) (j : Nat) (v : Option Nat) : zA := if C 13 0 0 = 300 then A else zs3 A 6 j 0 v
section ZRV
variable {cb : Nat} {P : List Nat} {C C' : zC} {A A' : zA} {M M' : zM}
/-- only the post changes -/
theorem zRep_P (h : zRep cb P C A M) (hC : ∀ k, ¬ (13 ≤ k ∧ k ≤ 18) → C' k = C k) (hA : ∀ k, k ≠ 5 → k ≠ 6 → A' k = A k) (hM : ∀ k, k ≠ 0 → ¬ (31 ≤ k ∧ k ≤ 38) → M' k = M k) (h0 : M' 0 0 = M 0 0) (hG : zG4 cb (zPR cb P (C 22) (C 23) (C 24)) (C' 13) (A' 5 0) (C' 14) (C' 15) (C' 16) (C' 17) (C' 18) (A' 6) (M' 0) (M' 31) (M' 32) (M' 33) (M' 34) (M' 35) (M' 36) (M' 37) (M' 38)) : zRep cb P C' A' M' := by
  unfold zRep at h ⊢
  rw [hC 0 (by omega), hC 1 (by omega), hC 2 (by omega), hC 3 (by omega), hC 4 (by omega), hC 5 (by omega), hC 6 (by omega), hC 7 (by omega), hC 8 (by omega), hC 9 (by omega), hC 10 (by omega), hC 11 (by omega), hC 12 (by omega), hC 19 (by omega), hC 20 (by omega), hC 21 (by omega), hC 22 (by omega), hC 23 (by omega), hC 24 (by omega)]
  rw [hA 0 (by omega) (by omega), hA 1 (by omega) (by omega), hA 2 (by omega) (by omega), hA 3 (by omega) (by omega), hA 4 (by omega) (by omega), hA 7 (by omega) (by omega)]
  rw [h0, hM 1 (by omega) (by omega), hM 2 (by omega) (by omega), hM 3 (by omega) (by omega), hM 4 (by omega) (by omega), hM 5 (by omega) (by omega), hM 6 (by omega) (by omega), hM 7 (by omega) (by omega), hM 8 (by omega) (by omega), hM 9 (by omega) (by omega), hM 10 (by omega) (by omega), hM 11 (by omega) (by omega), hM 12 (by omega) (by omega), hM 13 (by omega) (by omega), hM 14 (by omega) (by omega), hM 15 (by omega) (by omega), hM 16 (by omega) (by omega), hM 17 (by omega) (by omega), hM 18 (by omega) (by omega), hM 19 (by omega) (by omega), hM 20 (by omega) (by omega), hM 21 (by omega) (by omega), hM 22 (by omega) (by omega), hM 23 (by omega) (by omega), hM 24 (by omega) (by omega), hM 25 (by omega) (by omega), hM 26 (by omega) (by omega), hM 27 (by omega) (by omega), hM 28 (by omega) (by omega), hM 29 (by omega) (by omega), hM 30 (by omega) (by omega)]
  obtain ⟨e0, g1, g2, g3, g4, g5⟩ := h
  exact ⟨e0, g1, g2, g3, hG, g5⟩
abbrev zLRc (cb : Nat) (P : List Nat) (C : zC) (A : zA) (M : zM) (j i : Nat) : Prop := zLR (zPR cb P (C 22) (C 23) (C 24)) (C 14) (C 15) (C 16) (C 17) (C 18) (A 6) (M 31) (M 32) (M 33) (M 34) (M 35) (M 36) (M 37) (M 38) j i
theorem zRep_send (h : zRep cb P C A M) {n0 : Nat} {σ : Nat → Nat} (hn1 : n0 ≤ 300) (hn : M 0 1 = nI n0) (hσ : ∀ i, i < 300 → A 5 0 i = some (cb + (42 + σ i)) ∧ σ i < 300) (hinj : ∀ i j, i < 300 → j < 300 → σ i = σ j → i = j) (hLR : ∀ i, i < zix (M 0 1) → zLRc cb P C A M (σ i) i)
    {w r p d n pn lo hi : Int32} {v : Option Nat} (h1 : w = 1 → ∃ a, v = some a ∧ zPR cb P (C 22) (C 23) (C 24) a n lo hi) (h4 : w = 4 → ∃ a, v = some a ∧ zPR cb P (C 22) (C 23) (C 24) a pn lo hi) :
    zRep cb P (zsC C (σ n0) w r p d n) (zsA C A (σ n0) v) (zsendP M w r p d n pn lo hi) := by
  have hc := zr_count h
  have hz : zix (M 0 1) = n0 := by rw [hn]; exact zix_n (by omega)
  by_cases hf : M 0 1 = 300
  · have hf' : C 13 0 0 = 300 := hc.trans hf
    unfold zsC zsA zsendP
    rw [if_pos hf', if_pos hf', if_pos hf]
    exact h
  · have hf' : ¬ C 13 0 0 = 300 := fun q => hf (hc.symm.trans q)
    have hn3 : n0 < 300 := by
      rw [hn, zn_eq300 hn1] at hf
      omega
    unfold zsC zsA zsendP
    rw [if_neg hf', if_neg hf', if_neg hf, hz]
    refine zRep_P h (fun k hk => ?_) (fun k _ hk => zs3_k hk) (fun k h0 hk => ?_) ?_ ⟨?_, σ, hσ, hinj, fun i hi' => ?_⟩
    · rw [zs3_k (by omega), zs3_k (by omega), zs3_k (by omega), zs3_k (by omega), zs3_k (by omega), zs3_k (by omega)]
    · rw [zst_k (by omega), zst_k (by omega), zst_k (by omega), zst_k (by omega), zst_k (by omega), zst_k (by omega), zst_k (by omega), zst_k (by omega), zst_k (by omega)]
    · rw [zst_i (by decide), zst_k (by decide), zst_k (by decide), zst_k (by decide), zst_k (by decide), zst_k (by decide), zst_k (by decide), zst_k (by decide), zst_k (by decide)]
    · rw [zs3_s, zst_s, hc]
    · rw [zst_s, hn, nI_1, zix_n (by omega)] at hi'
      by_cases e : i = n0
      · subst e
        unfold zLR
        simp only [zs3_e, zst_e]
        refine ⟨by simp, by simp, by simp, by simp, by simp, fun q => ?_, fun q => ?_⟩
        · simp at q ⊢
          exact h1 q
        · simp at q ⊢
          exact h4 q
      · have hne : σ i ≠ σ n0 := fun q => e (hinj i n0 (by omega) hn3 q)
        have hL := hLR i (by rw [hz]; omega)
        unfold zLRc zLR at hL
        unfold zLR
        simp only [zs3_e, zst_e]
        simp [hne, e]
        exact hL
end ZRV
