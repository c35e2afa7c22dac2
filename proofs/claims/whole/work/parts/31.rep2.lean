section ZRU
variable {cb : Nat} {P : List Nat} {C C' : zC} {A A' : zA} {M M' : zM}
theorem zRep_hall (h : zRep cb P C A M) (p : Nat) (v : Int32) : zRep cb P (zs3 C 19 0 p v) A (zst M 1 p v) := by
  obtain ⟨e0, g1, g2, g3, g4, g5, g6⟩ := h
  refine ⟨e0, g1, g2, g3, g4, fun p' hp' => ⟨?_, (g5 p' hp').2⟩, g6⟩
  by_cases e : p' = p
  · subst e
    rw [zs3_s, zst_s]
  · rw [zs3_i e, zst_i e]
    exact (g5 p' hp').1
theorem zRep_meas (h : zRep cb P C A M) (x : Nat) (v : Int32) : zRep cb P (zs3 (zs3 C 20 0 x 1) 21 0 x v) A (zst (zst M 2 x 1) 3 x v) := by
  obtain ⟨e0, g1, g2, g3, g4, g5, g6⟩ := h
  refine ⟨e0, g1, g2, g3, g4, g5, fun x' hx' => ?_⟩
  rw [zs3_k (k' := 20) (by decide), zst_k (k' := 2) (by decide)]
  by_cases e : x' = x
  · subst e
    rw [zs3_s, zst_s, zs3_s, zst_s]
    exact ⟨rfl, rfl⟩
  · rw [zs3_i e, zst_i e, zs3_i e, zst_i e]
    exact g6 x' hx'
theorem zRep_up (h : zRep cb P C A M) (r : Nat) (v w : Int32) (hv : v = zb (w = 0)) : zRep cb P (zs3 C 1 r 0 v) A (zst M 4 r w) := by
  obtain ⟨e0, g1, g2, g3, g4, g5, g6⟩ := h
  refine ⟨e0, fun r' hr' => ⟨?_, (g1 r' hr').2⟩, g2, g3, g4, g5, g6⟩
  by_cases e : r' = r
  · subst e
    rw [zs3_s, hv]
    simp only [zst_s]
  · rw [zs3_o e]
    simp only [zst_i e]
    exact (g1 r' hr').1
theorem zRep_lie (h : zRep cb P C A M) (r : Nat) (v : Int32) : zRep cb P (zs3 C 2 r 0 v) A (zst M 5 r v) := by
  obtain ⟨e0, g1, g2, g3, g4, g5, g6⟩ := h
  refine ⟨e0, fun r' hr' => ⟨(g1 r' hr').1, ?_, (g1 r' hr').2.2⟩, g2, g3, g4, g5, g6⟩
  by_cases e : r' = r
  · subst e
    rw [zs3_s, zst_s]
  · rw [zs3_o e, zst_i e]
    exact (g1 r' hr').2.1
/-- only the writers change -/
theorem zRep_W (h : zRep cb P C A M) (hC : ∀ k, ¬ (3 ≤ k ∧ k ≤ 6) → C' k = C k) (hA : ∀ k, k ≠ 1 → A' k = A k) (hM : ∀ k, ¬ (9 ≤ k ∧ k ≤ 14) → M' k = M k) (hG : zG2 (zPR cb P (C 22) (C 23) (C 24)) (C' 3) (C' 4) (C' 5) (C' 6) (A' 1) (M' 9) (M' 10) (M' 11) (M' 12) (M' 13) (M' 14)) : zRep cb P C' A' M' := by
  unfold zRep at h ⊢
  rw [hC 0 (by omega), hC 1 (by omega), hC 2 (by omega), hC 7 (by omega), hC 8 (by omega), hC 9 (by omega), hC 10 (by omega), hC 11 (by omega), hC 12 (by omega), hC 13 (by omega), hC 14 (by omega), hC 15 (by omega), hC 16 (by omega), hC 17 (by omega), hC 18 (by omega), hC 19 (by omega), hC 20 (by omega), hC 21 (by omega), hC 22 (by omega), hC 23 (by omega), hC 24 (by omega)]
  rw [hA 0 (by omega), hA 2 (by omega), hA 3 (by omega), hA 4 (by omega), hA 5 (by omega), hA 6 (by omega), hA 7 (by omega)]
  rw [hM 0 (by omega), hM 1 (by omega), hM 2 (by omega), hM 3 (by omega), hM 4 (by omega), hM 5 (by omega), hM 6 (by omega), hM 7 (by omega), hM 8 (by omega), hM 15 (by omega), hM 16 (by omega), hM 17 (by omega), hM 18 (by omega), hM 19 (by omega), hM 20 (by omega), hM 21 (by omega), hM 22 (by omega), hM 23 (by omega), hM 24 (by omega), hM 25 (by omega), hM 26 (by omega), hM 27 (by omega), hM 28 (by omega), hM 29 (by omega), hM 30 (by omega), hM 31 (by omega), hM 32 (by omega), hM 33 (by omega), hM 34 (by omega), hM 35 (by omega), hM 36 (by omega), hM 37 (by omega), hM 38 (by omega)]
  obtain ⟨e0, g1, g2, g3, g4, g5⟩ := h
  exact ⟨e0, g1, hG, g3, g4, g5⟩
theorem zclr_k {p k r : Nat} (h : k ≠ 3) : zclr C p r k = C k := by
  induction r with
  | zero => rfl
  | succ r ih => unfold zclr; rw [zs3_k h, ih]
theorem zclr_o {p p' r : Nat} (h : p' ≠ p) : zclr C p r 3 p' = C 3 p' := by
  induction r with
  | zero => rfl
  | succ r ih => unfold zclr; rw [zs3_o h, ih]
theorem zclr_in {p r j : Nat} (h : j < r) : zclr C p r 3 p j = 0 := by
  induction r with
  | zero => omega
  | succ r ih =>
    unfold zclr
    by_cases e : j = r
    · subst e; rw [zs3_s]
    · rw [zs3_i e]
      exact ih (by omega)
theorem zRep_forget (h : zRep cb P C A M) {p : Nat} (hp : p < 4) : zRep cb P (zs3 (zclr C p 9) 4 p 0 0) A (zfgl p M 9) := by
  have g2 := h.2.2.1
  refine zRep_W h (fun k hk => by rw [zs3_k (by omega), zclr_k (by omega)]) (fun k hk => rfl) (fun k hk => zfgl_k (by omega) 9) (fun p' hp' => ?_)
  obtain ⟨a1, a2, a3, a4, a5⟩ := g2 p' hp'
  rw [zs3_k (k' := 3) (by decide), zs3_k (k' := 5) (by decide), zs3_k (k' := 6) (by decide), zclr_k (k := 5) (by decide), zclr_k (k := 6) (by decide), zfgl_k (k := 9) (by decide) 9, zfgl_k (k := 10) (by decide) 9, zfgl_k (k := 11) (by decide) 9, zfgl_k (k := 12) (by decide) 9, zfgl_k (k := 13) (by decide) 9]
  by_cases e : p' = p
  · subst e
    refine ⟨fun r hr => by rw [zclr_in hr, zfgl_in hr]; exact ⟨rfl, Or.inl rfl⟩, ?_, a3, a4, a5⟩
    rw [zs3_s, zcn_none (fun j hj => by simp [zfgl_in hj])]
    rfl
  · refine ⟨fun r hr => by rw [zclr_o e, zfgl_out (by omega)]; exact a1 r hr, ?_, a3, a4, a5⟩
    rw [zs3_o e, zclr_k (by decide), a2]
    congr 1
    exact zcn_congr (fun j hj => by rw [zfgl_out (by omega)])
end ZRU
theorem zRep_eq {cb : Nat} {P : List Nat} {C : zC} {A : zA} {M M' : zM} (h : zRep cb P C A M) (e : M = M') : zRep cb P C A M' := e ▸ h
theorem zalarmAt_no {M : zM} {h : Nat} (h2 : M 2 h = 0) {n : Nat} : zalarmAt M h n = false := by
  induction n with
  | zero => rfl
  | succ n ih => simp [zalarmAt, ih, h2]
