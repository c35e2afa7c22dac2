section ZRB
variable {cb : Nat} {P : List Nat} {C : zC} {A : zA} {M : zM}
theorem zalk_rel (h : zRep cb P C A M) {d r a : Nat} (hd : d < 3) (ha : C 22 a 0 = M 20 (9 * d + r) ∧ C 23 a 0 = M 21 (9 * d + r) ∧ C 24 a 0 = M 22 (9 * d + r)) : ∀ n, n ≤ 9 → zalkC C A d a n = zalk M d r n := by
  intro n
  induction n with
  | zero => intro _; rfl
  | succ k ih =>
    intro hk
    have ih := ih (by omega)
    rcases zr_told h hd (show k < 9 by omega) with ⟨q1, q2⟩ | ⟨b, q1, q2, -, q4, q5, q6⟩
    · rw [zalkC_n q1, zalk_f (fun z => z.1 q2), ih]
    · by_cases hl : zlike C b a
      · rw [zalkC_t q1 hl, zalk_s ⟨q2, ?_⟩, ih]
        obtain ⟨l1, l2, l3⟩ := hl
        rw [q4, ha.1] at l1
        rw [q5, ha.2.1] at l2
        rw [q6, ha.2.2] at l3
        exact ⟨l1.symm, l2.symm, l3.symm⟩
      · rw [zalkC_f q1 hl, zalk_f (fun z => hl ?_), ih]
        obtain ⟨-, l1, l2, l3⟩ := z
        exact ⟨by rw [q4, ha.1]; exact l1.symm, by rw [q5, ha.2.1]; exact l2.symm, by rw [q6, ha.2.2]; exact l3.symm⟩
theorem zpref_rel {d r b x y : Nat} (hx : C 22 x 0 = M 20 (9 * d + r) ∧ C 23 x 0 = M 21 (9 * d + r) ∧ C 24 x 0 = M 22 (9 * d + r)) (hy : C 22 y 0 = M 20 (9 * d + b) ∧ C 23 y 0 = M 21 (9 * d + b) ∧ C 24 y 0 = M 22 (9 * d + b)) : zpref C x y = zbet M (9 * d + r) (9 * d + b) := by
  unfold zpref zbet
  rw [hx.1, hx.2.1, hx.2.2, hy.1, hy.2.1, hy.2.2]
theorem zbest_rel (h : zRep cb P C A M) {d : Nat} (hd : d < 3) : ∀ k, k ≤ 9 → (zbestC C A d k = none ∧ zbest M d k = none) ∨ ∃ b a, zbestC C A d k = some a ∧ zbest M d k = some b ∧ b < 9 ∧ zPa cb P a ∧ C 22 a 0 = M 20 (9 * d + b) ∧ C 23 a 0 = M 21 (9 * d + b) ∧ C 24 a 0 = M 22 (9 * d + b) := by
  intro k
  induction k with
  | zero => intro _; exact Or.inl ⟨rfl, rfl⟩
  | succ k ih =>
    intro hk
    have ih := ih (by omega)
    rcases zr_told h hd (show k < 9 by omega) with ⟨q1, q2⟩ | ⟨x, q1, q2, q3, q4, q5, q6⟩
    · rw [zbestC_n q1, zbest_1 (fun z => z.1 q2)]
      exact ih
    · have hal := zalk_rel h (r := k) hd ⟨q4, q5, q6⟩ 9 (Nat.le_refl _)
      by_cases h3 : 3 ≤ zalk M d k 9
      · have hbel : zbel M d k := ⟨q2, h3⟩
        have h3c : 3 ≤ zalkC C A d x 9 := by rw [hal]; exact h3
        rcases ih with ⟨i1, i2⟩ | ⟨b, y, i1, i2, i3, i4, i5⟩
        · rw [zbestC_0 q1 h3c i1]
          right
          refine ⟨k, x, rfl, ?_, by omega, q3, q4, q5, q6⟩
          simp only [zbest, i2]
          rw [if_pos hbel]
        · have hpr := zpref_rel (C := C) (M := M) (d := d) ⟨q4, q5, q6⟩ i5
          by_cases hb : zpref C x y = true
          · rw [zbestC_t q1 h3c i1 hb, zbest_4 hbel i2 (by rw [← hpr]; exact hb)]
            exact Or.inr ⟨k, x, rfl, rfl, by omega, q3, q4, q5, q6⟩
          · rw [zbestC_k q1 i1 hb, zbest_3 i2 (by rw [← hpr]; exact hb)]
            exact Or.inr ⟨b, y, i1, i2, i3, i4, i5⟩
      · rw [zbestC_f q1 (by rw [hal]; exact h3), zbest_1 (fun z => h3 z.2)]
        exact ih
/-- an answer: x is the pair that the reader keeps -/
theorem zRep_settle (h : zRep cb P C A M) {d p b x : Nat} (hd : d < 3) (hp : p < 4) (hpt : M 16 d = nI p) (hx : zPR cb P (C 22) (C 23) (C 24) x (zknow M d p b 23 (4 * d + p)) (zknow M d p b 24 (4 * d + p)) (zknow M d p b 25 (4 * d + p))) :
    zRep cb P (zs3 (zs3 C 12 d 0 (C 11 d 0)) 8 d 0 2) (zs3 (zs3 (zs3 A 4 d 0 (some x)) 3 d p (some x)) 7 0 p (some x)) (zanswer M d p b) := by
  have hk23 : ∀ k', k' = 23 ∨ k' = 24 ∨ k' = 25 → ∀ j, j ≠ 4 * d + p → zknow M d p b k' j = M k' j := by
    intro k' hk' j hj
    unfold zknow
    split
    · rfl
    · simp only [zst_e]
      rw [if_neg (by omega), if_neg (by omega), if_neg (by omega)]
  have e23 : ∀ k', k' = 23 ∨ k' = 24 ∨ k' = 25 → zanswer M d p b k' = zknow M d p b k' := by
    intro k' hk'
    unfold zanswer
    rw [zst_k (by omega), zst_k (by omega), zst_k (by omega), zst_k (by omega), zst_k (by omega), zst_k (by omega), zst_k (by omega), zst_k (by omega), zst_k (by omega)]
  have e27 : ∀ j, zanswer M d p b 27 j = if j = 4 * d + 3 then zknow M d p b 25 (4 * d + p) else if j = 4 * d + 2 then zknow M d p b 24 (4 * d + p) else if j = 4 * d + 1 then zknow M d p b 23 (4 * d + p) else if j = 4 * d then nI p else M 27 j := by
    intro j
    unfold zanswer
    rw [zst_k (by decide), zst_k (by decide), zst_k (by decide), zst_e, zst_e, zst_e, zst_e, zst_k (by decide), zst_k (by decide), zknow_k (k := 27) (by decide)]
    simp
  have e26 : ∀ j, zanswer M d p b 26 j = if j = d then 1 else M 26 j := by
    intro j
    unfold zanswer
    rw [zst_k (by decide), zst_k (by decide), zst_k (by decide), zst_k (by decide), zst_k (by decide), zst_k (by decide), zst_k (by decide), zst_e, zst_k (by decide), zknow_k (k := 26) (by decide)]
    simp
  have e28 : ∀ j, zanswer M d p b 28 j = if j = p then 1 else M 28 j := by
    intro j
    unfold zanswer
    rw [zst_k (by decide), zst_k (by decide), zst_e, zst_k (by decide), zst_k (by decide), zst_k (by decide), zst_k (by decide), zst_k (by decide), zst_k (by decide), zknow_k (k := 28) (by decide)]
    simp
  have e29 : ∀ j, zanswer M d p b 29 j = if j = p then zknow M d p b 24 (4 * d + p) else M 29 j := by
    intro j
    unfold zanswer
    rw [zst_k (by decide), zst_e, zst_k (by decide), zst_k (by decide), zst_k (by decide), zst_k (by decide), zst_k (by decide), zst_k (by decide), zst_k (by decide), zknow_k (k := 29) (by decide)]
    simp
  have e30 : ∀ j, zanswer M d p b 30 j = if j = p then zknow M d p b 25 (4 * d + p) else M 30 j := by
    intro j
    unfold zanswer
    rw [zst_e, zst_k (by decide), zst_k (by decide), zst_k (by decide), zst_k (by decide), zst_k (by decide), zst_k (by decide), zst_k (by decide), zst_k (by decide), zknow_k (k := 30) (by decide)]
    simp
  have ek : ∀ k', k' < 18 ∨ k' = 19 ∨ k' = 20 ∨ k' = 21 ∨ k' = 22 ∨ 30 < k' → zanswer M d p b k' = M k' := fun k' hk' => zanswer_k hk'
  obtain ⟨e0, g1, g2, g3, g4, g5, g6⟩ := h
  unfold zRep
  rw [ek 0 (by decide), ek 1 (by decide), ek 2 (by decide), ek 3 (by decide), ek 4 (by decide), ek 5 (by decide), ek 6 (by decide), ek 7 (by decide), ek 8 (by decide), ek 9 (by decide), ek 10 (by decide), ek 11 (by decide), ek 12 (by decide), ek 13 (by decide), ek 14 (by decide), ek 15 (by decide), ek 16 (by decide), ek 17 (by decide), ek 19 (by decide), ek 20 (by decide), ek 21 (by decide), ek 22 (by decide), ek 31 (by decide), ek 32 (by decide), ek 33 (by decide), ek 34 (by decide), ek 35 (by decide), ek 36 (by decide), ek 37 (by decide), ek 38 (by decide), zanswer_18, e23 23 (by decide), e23 24 (by decide), e23 25 (by decide)]
  refine ⟨e0, g1, g2, fun d' hd' => ?_, g4, fun p' hp' => ?_, g6⟩
  · obtain ⟨a1, a2, a3, a4, a5, a6, a7, a8, a9⟩ := g3 d' hd'
    have hA2 : zs3 (zs3 (zs3 A 4 d 0 (some x)) 3 d p (some x)) 7 0 p (some x) 2 = A 2 := by rw [zs3_k (by decide), zs3_k (by decide), zs3_k (by decide)]
    have hA3 : ∀ j, zs3 (zs3 (zs3 A 4 d 0 (some x)) 3 d p (some x)) 7 0 p (some x) 3 d' j = if d' = d ∧ j = p then some x else A 3 d' j := by
      intro j
      rw [zs3_k (by decide), zs3_e, zs3_k (by decide)]
      simp
    have hA4 : zs3 (zs3 (zs3 A 4 d 0 (some x)) 3 d p (some x)) 7 0 p (some x) 4 d' 0 = if d' = d then some x else A 4 d' 0 := by
      rw [zs3_k (by decide), zs3_k (by decide), zs3_e]
      simp
    rw [hA2, hA4]
    have h12 : zs3 (zs3 C 12 d 0 (C 11 d 0)) 8 d 0 2 12 d' 0 = if d' = d then C 11 d 0 else C 12 d' 0 := by
      rw [zs3_k (by decide), zs3_e]
      simp
    have h8 : zs3 (zs3 C 12 d 0 (C 11 d 0)) 8 d 0 2 8 d' 0 = if d' = d then 2 else C 8 d' 0 := by
      rw [zs3_e, zs3_k (by decide)]
      simp
    rw [h12, h8]
    refine ⟨a1, ?_, a3, a4, a5, ?_, a7, fun p' hp' => ?_, ?_⟩
    · rw [zst_e]
      by_cases e : d' = d
      · rw [if_pos e, if_pos ⟨rfl, e⟩]
      · rw [if_neg e, if_neg (fun q => e q.2)]
        exact a2
    · rw [e27]
      by_cases e : d' = d
      · subst e
        rw [if_pos rfl, if_neg (by omega), if_neg (by omega), if_neg (by omega), if_pos rfl, a5, hpt]
      · rw [if_neg e, if_neg (by omega), if_neg (by omega), if_neg (by omega), if_neg (by omega)]
        exact a6
    · rw [hA3]
      by_cases e : d' = d ∧ p' = p
      · rw [if_pos e]
        obtain ⟨rfl, rfl⟩ := e
        exact ⟨x, rfl, hx⟩
      · rw [if_neg e, hk23 23 (by decide) _ (by omega), hk23 24 (by decide) _ (by omega), hk23 25 (by decide) _ (by omega)]
        exact a8 p' hp'
    · rw [e26, e27, e27, e27]
      by_cases e : d' = d
      · subst e
        rw [if_pos rfl, if_pos rfl, if_neg (by omega), if_neg (by omega), if_pos rfl, if_neg (by omega), if_pos rfl, if_pos rfl]
        exact Or.inr ⟨x, rfl, by decide, hx⟩
      · rw [if_neg e, if_neg e, if_neg (by omega), if_neg (by omega), if_neg (by omega), if_neg (by omega), if_neg (by omega), if_neg (by omega), if_neg (by omega), if_neg (by omega), if_neg (by omega), if_neg (by omega), if_neg (by omega), if_neg (by omega)]
        exact a9
  · obtain ⟨a1, a2⟩ := g5 p' hp'
    refine ⟨a1, ?_⟩
    rw [e28, e29, e30, zs3_e]
    by_cases e : p' = p
    · subst e
      rw [if_pos rfl, if_pos rfl, if_pos rfl, if_pos ⟨rfl, rfl, rfl⟩]
      exact Or.inr ⟨x, _, rfl, by decide, hx⟩
    · rw [if_neg e, if_neg e, if_neg e, if_neg (fun q => e q.2.2), zs3_k (by decide), zs3_k (by decide)]
      exact a2
theorem zhears_f (h : zRep cb P C A M) {d r : Nat} (hd : d < 3) (hr : r < 9) (hh : ¬ zhearsD C A d r (M 35 300)) : ¬ M 18 d = 1 ∨ ¬ M 35 300 = M 15 d ∨ ¬ M 19 (9 * d + r) = 0 := by
  refine Classical.byContradiction (fun q => hh ⟨?_, ?_, ?_⟩)
  · rw [zr_st h hd]
    exact Classical.not_not.mp (fun z => q (Or.inl z))
  · rw [zr_q h hd]
    exact Classical.not_not.mp (fun z => q (Or.inr (Or.inl z)))
  · rcases zr_told h hd hr with t | ⟨a, t, t2, -⟩
    · exact t.1
    · exact absurd (Or.inr (Or.inr t2)) q
theorem zhears_t (h : zRep cb P C A M) {d r : Nat} (hd : d < 3) (hr : r < 9) (hh : zhearsD C A d r (M 35 300)) : ¬ (¬ M 18 d = 1 ∨ ¬ M 35 300 = M 15 d ∨ ¬ M 19 (9 * d + r) = 0) := by
  obtain ⟨h1, h2, h3⟩ := hh
  rw [zr_st h hd] at h1
  rw [zr_q h hd] at h2
  rintro (q | q | q)
  · exact q h1
  · exact q h2
  · rcases zr_told h hd hr with t | ⟨a, t, -⟩
    · exact q t.2
    · rw [h3] at t; cases t
end ZRB
