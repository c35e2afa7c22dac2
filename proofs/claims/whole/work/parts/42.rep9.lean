def ztau (i n j : Nat) : Nat := if j = n - 1 then i else if i ≤ j ∧ j < n - 1 then j + 1 else j
theorem ztau_lt {i n j : Nat} (hi : i < n) (hn : n ≤ 300) (hj : j < 300) : ztau i n j < 300 := by
  unfold ztau
  split
  · omega
  · split <;> omega
theorem ztau_inj {i n j k : Nat} (hi : i < n) (h : ztau i n j = ztau i n k) : j = k := by
  unfold ztau at h
  split at h <;> split at h <;> (try split at h) <;> (try split at h) <;> omega
section ZRT
variable {cb : Nat} {P : List Nat} {C : zC} {A : zA} {M : zM}
theorem zLR_at {pr : zPr} {k r p d n : zF2} {lp : zQ2} {mk mr mp md mn mpn ml mh mk' mr' mp' md' mn' mpn' ml' mh' : zF1} {x i i' : Nat} (h : zLR pr k r p d n lp mk mr mp md mn mpn ml mh x i) (e1 : mk' i' = mk i) (e2 : mr' i' = mr i) (e3 : mp' i' = mp i) (e4 : md' i' = md i) (e5 : mn' i' = mn i) (e6 : mpn' i' = mpn i) (e7 : ml' i' = ml i) (e8 : mh' i' = mh i) : zLR pr k r p d n lp mk' mr' mp' md' mn' mpn' ml' mh' x i' := by
  unfold zLR at h ⊢
  rw [e1, e2, e3, e4, e5, e6, e7, e8]
  exact h
abbrev zAtk (A : zA) (i n : Nat) : zA := zA5 A (va_up (zrow (A 5 0) i (n - 1)) (n - 1) (A 5 0 i))
theorem zAtk_k {i n k : Nat} (h : k ≠ 5) : zAtk A i n k = A k := va_up_ne _ _ h
theorem zAtk_5 {i n j : Nat} : zAtk A i n 5 0 j = A 5 0 (ztau i n j) := by
  unfold zAtk
  rw [zA5_50]
  unfold ztau
  by_cases h : j = n - 1
  · rw [if_pos h, h, va_up_self]
  · rw [if_neg h, va_up_ne _ _ h]
    unfold zrow
    split <;> rfl
theorem zRep_take (h : zRep cb P C A M) {n i : Nat} {σ : Nat → Nat} (hn1 : n ≤ 300) (hn : M 0 1 = nI n) (hσ : ∀ i, i < 300 → A 5 0 i = some (cb + (42 + σ i)) ∧ σ i < 300) (hinj : ∀ i j, i < 300 → j < 300 → σ i = σ j → i = j) (hLR : ∀ i, i < zix (M 0 1) → zLRc cb P C A M (σ i) i) (hi : i < n) :
    zRep cb P (zs3 C 13 0 0 (C 13 0 0 - 1)) (zAtk A i n) (ztake M i n) ∧ zLRc cb P (zs3 C 13 0 0 (C 13 0 0 - 1)) (zAtk A i n) (ztake M i n) (σ i) 300 := by
  have hz : zix (M 0 1) = n := by rw [hn]; exact zix_n (by omega)
  have hA6 : zAtk A i n 6 = A 6 := zAtk_k (by decide)
  constructor
  · refine zRep_P h (fun k hk => zs3_k (by omega)) (fun k h5 _ => zAtk_k h5) (fun k h0 hk => ztake_k (by omega) h0) rfl ⟨?_, fun j => σ (ztau i n j), fun j hj => ?_, fun j k hj hk e => ?_, fun j hj => ?_⟩
    · rw [zs3_s, zr_count h, hn, zn_sub1 (by omega)]
      rfl
    · have hl := ztau_lt hi hn1 hj
      rw [zAtk_5]
      exact hσ _ hl
    · exact ztau_inj hi (hinj _ _ (ztau_lt hi hn1 hj) (ztau_lt hi hn1 hk) e)
    · rw [ztake_01, zix_n (by omega)] at hj
      have ht : ztau i n j < n := by
        unfold ztau
        split
        · omega
        · split <;> omega
      have hrow : ∀ q, 31 ≤ q → q ≤ 38 → ztake M i n q j = M q (ztau i n j) := by
        intro q h1 h2
        unfold ztake zsh ztau
        rw [if_pos ⟨h1, h2⟩, if_neg (by omega), if_neg (show ¬ j = n - 1 by omega)]
        split <;> rfl
      rw [hA6]
      exact zLR_at (hLR _ (by rw [hz]; exact ht)) (hrow 31 (by decide) (by decide)) (hrow 32 (by decide) (by decide)) (hrow 33 (by decide) (by decide)) (hrow 34 (by decide) (by decide)) (hrow 35 (by decide) (by decide)) (hrow 36 (by decide) (by decide)) (hrow 37 (by decide) (by decide)) (hrow 38 (by decide) (by decide))
  · unfold zLRc
    rw [hA6]
    exact zLR_at (hLR i (by rw [hz]; exact hi)) (ztake_300 (by decide)) (ztake_300 (by decide)) (ztake_300 (by decide)) (ztake_300 (by decide)) (ztake_300 (by decide)) (ztake_300 (by decide)) (ztake_300 (by decide)) (ztake_300 (by decide))
end ZRT
