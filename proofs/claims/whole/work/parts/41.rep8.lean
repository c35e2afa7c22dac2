section ZRC8
variable {cb : Nat} {P : List Nat} {C : zC} {A : zA} {M : zM}
theorem zr_hto (h : zRep cb P C A M) {d : Nat} (hd : d < 3) : ∀ r b, r < 9 → A 2 d r = some b → zPa cb P b := by
  intro r b hr hb
  rcases zr_told h hd hr with q | ⟨a, q1, -, q3, -⟩
  · rw [q.1] at hb; cases hb
  · rw [q1] at hb; cases hb; exact q3
theorem zknow_a {d p b : Nat} (h : ¬ M 20 b < M 23 (4 * d + p)) : zknow M d p b 23 (4 * d + p) = M 20 b ∧ zknow M d p b 24 (4 * d + p) = M 21 b ∧ zknow M d p b 25 (4 * d + p) = M 22 b := by
  unfold zknow
  rw [if_neg h]
  simp [zst_e]
theorem zknow_b {d p b : Nat} (h : M 20 b < M 23 (4 * d + p)) : zknow M d p b = M := by
  unfold zknow
  rw [if_pos h]
theorem zRep_hearW (h : zRep cb P C A M) {p r a : Nat} (hp : p < 4) (hr : r < 9) (hla : A 1 p 0 = some a) (hw : ¬ M 12 p = 0 → zrcs M p < 7) (n : Int32) : zRep cb P (zhearC C p r a n) A (zrcComes M p r n) := by
  have hC5 := zr_open h hp
  have hC3 := zr_rc h hp hr
  have hC4 := zr_cnt h hp
  have h9 : C 22 a 0 = M 9 p := by
    obtain ⟨b, b1, -, b2, -⟩ := zr_lat h hp
    rw [hla] at b1
    cases b1
    exact b2
  have g2 := h.2.2.1
  unfold zhearC zrcComes
  rw [hC5, h9, hC3]
  by_cases c1 : M 12 p = 0 ∨ ¬ M 9 p = n
  · rw [if_pos (c1.imp id (fun q => Or.inl (fun z => q z.symm))), if_pos c1]
    exact h
  · rw [if_neg c1]
    have ho : ¬ M 12 p = 0 := fun q => c1 (Or.inl q)
    have hn : M 9 p = n := Classical.not_not.mp (fun q => c1 (Or.inr q))
    have hlt := hw ho
    by_cases c2 : M 14 (9 * p + r) = 0
    · rw [if_neg (by rintro (q | q | q); exact ho q; exact q hn.symm; exact q c2)]
      have hcnt : zrcs (zst M 14 (9 * p + r) 1) p = zrcs M p + 1 := zcn_inc hr (fun j hj hjr => by rw [zst_i (by omega)]) (by simp [c2]) (by simp [zst_s])
      have hG : ∀ (C' : zC) (M' : zM), C' 3 = zs3 C 3 p r 1 3 → C' 4 = zs3 C 4 p 0 (C 4 p 0 + 1) 4 → (∀ p', p' < 4 → C' 5 p' 0 = M' 12 p') → (∀ p', p' < 4 → C' 6 p' 0 = M' 13 p') → M' 9 = M 9 → M' 10 = M 10 → M' 11 = M 11 → M' 14 = zst M 14 (9 * p + r) 1 14 → zG2 (zPR cb P (C 22) (C 23) (C 24)) (C' 3) (C' 4) (C' 5) (C' 6) (A 1) (M' 9) (M' 10) (M' 11) (M' 12) (M' 13) (M' 14) := by
        intro C' M' e3 e4 e5 e6 m9 m10 m11 m14 p' hp'
        obtain ⟨a1, a2, a3, a4, a5⟩ := g2 p' hp'
        rw [e3, e4, m9, m10, m11, m14]
        refine ⟨fun r' hr' => ?_, ?_, e5 p' hp', e6 p' hp', a5⟩
        · by_cases e : p' = p ∧ r' = r
          · obtain ⟨rfl, rfl⟩ := e
            rw [zs3_s, zst_s]
            exact ⟨rfl, Or.inr rfl⟩
          · rw [zs3_e, if_neg (fun q => e ⟨q.2.1, q.2.2⟩), zst_i (by omega)]
            exact a1 r' hr'
        · by_cases e : p' = p
          · subst e
            rw [zs3_s, a2, nI_1]
            congr 1
            exact hcnt.symm
          · rw [zs3_o e, a2]
            congr 1
            exact zcn_congr (fun j hj => by rw [zst_i (by omega)])
      rw [hcnt]
      have hcond : (C 4 p 0 + 1 < 7) ↔ zrcs M p + 1 < 7 := by
        rw [hC4, nI_1]
        exact nI_ltI (b := 7) (by omega) (by decide)
      by_cases c3 : zrcs M p + 1 < 7
      · rw [if_pos (hcond.mpr c3), if_pos c3]
        refine zRep_W h (fun k hk => by rw [zs3_k (by omega), zs3_k (by omega)]) (fun k _ => rfl) (fun k hk => by rw [zst_k (by omega)]) (hG _ _ ?_ ?_ ?_ ?_ rfl rfl rfl rfl)
        · rw [zs3_k (by decide)]
        · rfl
        · intro p' hp'; exact (g2 p' hp').2.2.1
        · intro p' hp'; exact (g2 p' hp').2.2.2.1
      · rw [if_neg (fun q => c3 (hcond.mp q)), if_neg c3]
        refine zRep_W h (fun k hk => by rw [zs3_k (by omega), zs3_k (by omega), zs3_k (by omega), zs3_k (by omega)]) (fun k _ => rfl) (fun k hk => by rw [zst_k (by omega), zst_k (by omega), zst_k (by omega)]) (hG _ _ ?_ ?_ ?_ ?_ rfl rfl rfl rfl)
        · rw [zs3_k (by decide), zs3_k (by decide), zs3_k (by decide)]
        · rw [zs3_k (by decide), zs3_k (by decide)]
          rfl
        · intro p' hp'
          rw [zs3_k (by decide), zst_k (by decide)]
          by_cases e : p' = p
          · subst e; rw [zs3_s, zst_s]
          · rw [zs3_o e, zst_i e]; exact (g2 p' hp').2.2.1
        · intro p' hp'
          by_cases e : p' = p
          · subst e; rw [zs3_s, zst_s]
          · rw [zs3_o e, zst_i e]; exact (g2 p' hp').2.2.2.1
    · rw [if_pos (Or.inr (Or.inr c2))]
      have hcnt : zrcs (zst M 14 (9 * p + r) 1) p = zrcs M p := zcn_congr (fun j hj => by
        by_cases e : j = r
        · subst e
          rw [zst_s]
          simp [c2]
        · rw [zst_i (by omega)])
      rw [hcnt, if_pos hlt]
      refine zRep_W h (fun k _ => rfl) (fun k _ => rfl) (fun k hk => by rw [zst_k (by omega)]) (fun p' hp' => ?_)
      have h1 : M 14 (9 * p + r) = 1 := (zr_rc01 h hp hr).resolve_left c2
      have e14 : zst M 14 (9 * p + r) 1 14 = M 14 := by
        funext j
        by_cases e : j = 9 * p + r
        · rw [e, zst_s, h1]
        · rw [zst_i e]
      rw [e14]
      exact g2 p' hp'
end ZRC8
