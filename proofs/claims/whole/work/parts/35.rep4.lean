section ZRX
variable {cb : Nat} {P : List Nat} {C C' : zC} {A A' : zA} {M M' : zM}
theorem zRep_mono {P' : List Nat} (h : zRep cb P C A M) (hpr : ∀ a x y z, zPR cb P (C 22) (C 23) (C 24) a x y z → zPR cb P' (C' 22) (C' 23) (C' 24) a x y z) (hC : ∀ k, k < 22 → C' k = C k) : zRep cb P' C' A M := by
  unfold zRep at h ⊢
  rw [hC 0 (by omega), hC 1 (by omega), hC 2 (by omega), hC 3 (by omega), hC 4 (by omega), hC 5 (by omega), hC 6 (by omega), hC 7 (by omega), hC 8 (by omega), hC 9 (by omega), hC 10 (by omega), hC 11 (by omega), hC 12 (by omega), hC 13 (by omega), hC 14 (by omega), hC 15 (by omega), hC 16 (by omega), hC 17 (by omega), hC 18 (by omega), hC 19 (by omega), hC 20 (by omega), hC 21 (by omega)]
  obtain ⟨e0, g1, g2, g3, g4, g5, g6⟩ := h
  refine ⟨e0, fun r hr => ?_, fun p hp => ?_, fun d hd => ?_, ?_, fun p hp => ?_, g6⟩
  · obtain ⟨a1, a2, a3⟩ := g1 r hr
    exact ⟨a1, a2, fun p hp => by obtain ⟨a, b1, b2⟩ := a3 p hp; exact ⟨a, b1, hpr _ _ _ _ b2⟩⟩
  · obtain ⟨a1, a2, a3, a4, a, b1, b2⟩ := g2 p hp
    exact ⟨a1, a2, a3, a4, a, b1, hpr _ _ _ _ b2⟩
  · obtain ⟨a1, a2, a3, a4, a5, a6, a7, a8, a9⟩ := g3 d hd
    refine ⟨a1, a2, a3, a4, a5, a6, fun r hr => ?_, fun p hp => ?_, ?_⟩
    · rcases a7 r hr with b | ⟨a, b1, b2, b3⟩
      · exact Or.inl b
      · exact Or.inr ⟨a, b1, b2, hpr _ _ _ _ b3⟩
    · obtain ⟨a, b1, b2⟩ := a8 p hp
      exact ⟨a, b1, hpr _ _ _ _ b2⟩
    · rcases a9 with b | ⟨a, b1, b2, b3⟩
      · exact Or.inl b
      · exact Or.inr ⟨a, b1, b2, hpr _ _ _ _ b3⟩
  · obtain ⟨a1, σ, a2, a3, a4⟩ := g4
    refine ⟨a1, σ, a2, a3, fun i hi => ?_⟩
    obtain ⟨b1, b2, b3, b4, b5, b6, b7⟩ := a4 i hi
    refine ⟨b1, b2, b3, b4, b5, fun q => ?_, fun q => ?_⟩
    · obtain ⟨a, c1, c2⟩ := b6 q
      exact ⟨a, c1, hpr _ _ _ _ c2⟩
    · obtain ⟨a, c1, c2⟩ := b7 q
      exact ⟨a, c1, hpr _ _ _ _ c2⟩
  · obtain ⟨a1, a2⟩ := g5 p hp
    refine ⟨a1, ?_⟩
    rcases a2 with b | ⟨a, n, b1, b2, b3⟩
    · exact Or.inl b
    · exact Or.inr ⟨a, n, b1, b2, hpr _ _ _ _ b3⟩
abbrev zCnew (C : zC) (q : Nat) (n lo hi : Int32) : zC := zs3 (zs3 (zs3 (zs3 (zs3 (zs3 C 22 q 0 0) 23 q 0 0) 24 q 0 0) 22 q 0 n) 23 q 0 lo) 24 q 0 hi
theorem zCnew_22 {q : Nat} {n lo hi : Int32} : zCnew C q n lo hi 22 q 0 = n ∧ zCnew C q n lo hi 23 q 0 = lo ∧ zCnew C q n lo hi 24 q 0 = hi := by
  simp [zCnew, zs3_e]
theorem zCnew_o {q a : Nat} {n lo hi : Int32} (h : a ≠ q) : zCnew C q n lo hi 22 a 0 = C 22 a 0 ∧ zCnew C q n lo hi 23 a 0 = C 23 a 0 ∧ zCnew C q n lo hi 24 a 0 = C 24 a 0 := by
  simp [zCnew, zs3_e, h]
theorem zCnew_k {q k : Nat} {n lo hi : Int32} (h : k < 22) : zCnew C q n lo hi k = C k := by
  unfold zCnew
  rw [zs3_k (by omega), zs3_k (by omega), zs3_k (by omega), zs3_k (by omega), zs3_k (by omega), zs3_k (by omega)]
theorem zPa_ne {q a : Nat} (hq : q ∉ zCL cb P) (h : zPa cb P a) : a ≠ q := fun e => hq (e ▸ zCL_p h)
theorem zRep_newP (h : zRep cb P C A M) {q : Nat} (hq : q ∉ zCL cb P) (n lo hi : Int32) : zRep cb (P ++ [q]) (zCnew C q n lo hi) A M := by
  refine zRep_mono h (fun a x y z hp => ?_) (fun k hk => zCnew_k hk)
  obtain ⟨h1, h2, h3, h4⟩ := hp
  obtain ⟨e1, e2, e3⟩ := zCnew_o (C := C) (n := n) (lo := lo) (hi := hi) (zPa_ne hq h1)
  exact ⟨zPa_l h1, e1.trans h2, e2.trans h3, e3.trans h4⟩
theorem zRep_hold (h : zRep cb P C A M) {r p a : Nat} {n lo hi : Int32} (hr : r < 9) (hp : p < 4) (ha : zPR cb P (C 22) (C 23) (C 24) a n lo hi) : zRep cb P C (zs3 A 0 r p (some a)) (zst (zst (zst M 6 (4 * r + p) n) 7 (4 * r + p) lo) 8 (4 * r + p) hi) := by
  obtain ⟨e0, g1, g2, g3, g4, g5, g6⟩ := h
  refine ⟨e0, fun r' hr' => ⟨(g1 r' hr').1, (g1 r' hr').2.1, fun p' hp' => ?_⟩, g2, g3, g4, g5, g6⟩
  rw [zst_k (k' := 6) (by decide), zst_k (k' := 6) (by decide), zst_k (k' := 7) (by decide)]
  by_cases e : r' = r ∧ p' = p
  · obtain ⟨rfl, rfl⟩ := e
    rw [zst_s, zst_s, zst_s, zs3_s]
    exact ⟨a, rfl, ha⟩
  · have hne : 4 * r' + p' ≠ 4 * r + p := by omega
    rw [zst_i hne, zst_i hne, zst_i hne, zs3_e, if_neg (fun q => e ⟨q.2.1, q.2.2⟩)]
    exact (g1 r' hr').2.2 p' hp'
-- a write
def zW1 (M : zM) (p : Nat) (lo hi : Int32) : zM := zst (zst (zst (zst M 9 p (M 9 p + 1)) 10 p lo) 11 p hi) 12 p 1
abbrev zCbeg (C : zC) (q p : Nat) (n lo hi : Int32) : zC := zs3 (zclr (zs3 (zCnew C q n lo hi) 5 p 0 1) p 9) 4 p 0 0
theorem zRep_begin (h : zRep cb P C A M) {q p : Nat} (hq : q ∉ zCL cb P) (hp : p < 4) (n lo hi : Int32) (hn : n = M 9 p + 1) : zRep cb (P ++ [q]) (zCbeg C q p n lo hi) (zs3 A 1 p 0 (some q)) (zfgl p (zW1 M p lo hi) 9) := by
  have h2 := zRep_newP h hq n lo hi
  have g2 := h2.2.2.1
  have hC : ∀ k, k ≠ 3 → k ≠ 4 → k ≠ 5 → zCbeg C q p n lo hi k = zCnew C q n lo hi k := fun k h3 h4 h5 => by
    unfold zCbeg
    rw [zs3_k h4, zclr_k h3, zs3_k h5]
  have hM : ∀ k, ¬ (9 ≤ k ∧ k ≤ 14) → zfgl p (zW1 M p lo hi) 9 k = M k := fun k hk => by
    rw [zfgl_k (by omega) 9]
    unfold zW1
    rw [zst_k (by omega), zst_k (by omega), zst_k (by omega), zst_k (by omega)]
  refine zRep_W h2 (fun k hk => hC k (by omega) (by omega) (by omega)) (fun k hk => zs3_k hk) hM (fun p' hp' => ?_)
  obtain ⟨a1, a2, a3, a4, a5⟩ := g2 p' hp'
  rw [hC 6 (by decide) (by decide) (by decide), zfgl_k (k := 9) (by decide) 9, zfgl_k (k := 10) (by decide) 9, zfgl_k (k := 11) (by decide) 9, zfgl_k (k := 12) (by decide) 9, zfgl_k (k := 13) (by decide) 9]
  by_cases e : p' = p
  · subst e
    refine ⟨fun r hr => ?_, ?_, ?_, ?_, q, zs3_s _ _ _ _ _, zPa_r, ?_⟩
    · unfold zCbeg
      rw [zs3_k (by decide), zclr_in hr, zfgl_in hr]
      exact ⟨rfl, Or.inl rfl⟩
    · unfold zCbeg
      rw [zs3_s, zcn_none (fun j hj => by simp [zfgl_in hj])]
      rfl
    · unfold zCbeg zW1
      rw [zs3_k (by decide), zclr_k (by decide), zs3_s, zst_s]
    · unfold zW1
      rw [zst_k (by decide), zst_k (by decide), zst_k (by decide), zst_k (by decide)]
      exact a4
    · obtain ⟨b1, b2, b3⟩ := zCnew_22 (C := C) (q := q) (n := n) (lo := lo) (hi := hi)
      refine ⟨b1.trans ?_, b2.trans ?_, b3.trans ?_⟩
      · unfold zW1
        rw [zst_k (by decide), zst_k (by decide), zst_k (by decide), zst_s]
        exact hn
      · unfold zW1
        rw [zst_k (by decide), zst_k (by decide), zst_s]
      · unfold zW1
        rw [zst_k (by decide), zst_s]
  · refine ⟨fun r hr => ?_, ?_, ?_, ?_, ?_⟩
    · unfold zCbeg zW1
      rw [zs3_k (by decide), zclr_o e, zs3_k (by decide), zfgl_out (by omega), zst_k (by decide), zst_k (by decide), zst_k (by decide), zst_k (by decide)]
      exact a1 r hr
    · unfold zCbeg
      rw [zs3_o e, zclr_k (by decide), zs3_k (by decide), a2]
      congr 1
      refine zcn_congr (fun j hj => ?_)
      unfold zW1
      rw [zfgl_out (by omega), zst_k (by decide), zst_k (by decide), zst_k (by decide), zst_k (by decide)]
    · unfold zCbeg zW1
      rw [zs3_k (by decide), zclr_k (by decide), zs3_o e, zst_i e, zst_k (by decide), zst_k (by decide), zst_k (by decide)]
      exact a3
    · unfold zW1
      rw [zst_k (by decide), zst_k (by decide), zst_k (by decide), zst_k (by decide)]
      exact a4
    · unfold zW1
      rw [zs3_o e, zst_k (k' := 9) (by decide), zst_k (k' := 9) (by decide), zst_k (k' := 9) (by decide), zst_i e, zst_k (k' := 10) (by decide), zst_k (k' := 10) (by decide), zst_i e, zst_k (k' := 10) (by decide), zst_k (k' := 11) (by decide), zst_i e, zst_k (k' := 11) (by decide), zst_k (k' := 11) (by decide)]
      exact a5
end ZRX
-- sends see only the rows of the post
theorem zsend_rows {M N : zM} {w r p d x lo hi : Int32} (h : ∀ q, q = 0 ∨ (31 ≤ q ∧ q ≤ 38) → M q = N q) (q : Nat) (hq : q = 0 ∨ (31 ≤ q ∧ q ≤ 38)) : zsend M w r p d x lo hi q = zsend N w r p d x lo hi q := by
  have h0 : M 0 = N 0 := h 0 (Or.inl rfl)
  unfold zsend
  rw [h0]
  split
  · exact h q hq
  · funext j
    simp only [zst_e]
    rw [h q hq]
theorem zwl_sal {p : Nat} {M : zM} (r : Nat) (hr : r ≤ 9) : (∀ q, q = 0 ∨ (31 ≤ q ∧ q ≤ 38) → zwl p M r q = (zsal p (zfgl p M 9) r).1 q) ∧ (zsal p (zfgl p M 9) r).2 = r := by
  induction r with
  | zero =>
    refine ⟨fun q hq => ?_, rfl⟩
    show M q = zfgl p M 9 q
    rw [zfgl_k (by omega) 9]
  | succ r ih =>
    obtain ⟨ih1, ih2⟩ := ih (by omega)
    have h0 : (zsal p (zfgl p M 9) r).1 14 (9 * p + r) = 0 := by rw [zsal_k (by decide) (by decide) r, zfgl_in (by omega)]
    rw [zsal_s h0]
    refine ⟨fun q hq => ?_, by simp [ih2]⟩
    show zstoreTo (zst (zwl p M r) 14 (9 * p + r) 0) p (nI r) q = zstoreTo (zsal p (zfgl p M 9) r).1 p (nI r) q
    unfold zstoreTo
    rw [zst_k (k' := 9) (by decide), zst_k (k' := 10) (by decide), zst_k (k' := 11) (by decide), zwl_k (k := 9) (by decide) (by decide) (by decide) r, zwl_k (k := 10) (by decide) (by decide) (by decide) r, zwl_k (k := 11) (by decide) (by decide) (by decide) r, zsal_k (k := 9) (by decide) (by decide) r, zsal_k (k := 10) (by decide) (by decide) r, zsal_k (k := 11) (by decide) (by decide) r, zfgl_k (k := 9) (by decide) 9, zfgl_k (k := 10) (by decide) 9, zfgl_k (k := 11) (by decide) 9]
    exact zsend_rows (fun q' hq' => by rw [zst_k (by omega)]; exact ih1 q' hq') q hq
theorem zwrite_eq {p : Nat} {M : zM} {lo hi : Int32} : (zsal p (zfgl p (zW1 M p lo hi) 9) 9).1 = zwrite M p lo hi := by
  show _ = zwl p (zW1 M p lo hi) 9
  funext q
  by_cases hq : q = 0 ∨ (31 ≤ q ∧ q ≤ 38)
  · exact ((zwl_sal 9 (Nat.le_refl _)).1 q hq).symm
  · rw [zsal_k (by omega) (by omega) 9]
    by_cases h14 : q = 14
    · subst h14
      funext i
      rw [zwl_14]
    · rw [zfgl_k h14 9, zwl_k (by omega) h14 (by omega) 9]
