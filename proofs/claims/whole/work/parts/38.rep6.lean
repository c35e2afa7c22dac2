section ZRD
variable {cb : Nat} {P : List Nat} {C C' : zC} {A A' : zA} {M M' : zM}
/-- only the readers change -/
theorem zRep_D (h : zRep cb P C A M) (hC : ∀ k, ¬ (7 ≤ k ∧ k ≤ 12) → C' k = C k) (hA : ∀ k, ¬ (2 ≤ k ∧ k ≤ 4) → A' k = A k) (hM : ∀ k, ¬ (15 ≤ k ∧ k ≤ 27) → M' k = M k) (hG : zG3 (zPR cb P (C 22) (C 23) (C 24)) (C' 7) (C' 8) (C' 9) (C' 10) (C' 11) (C' 12) (A' 2) (A' 3) (A' 4) (M' 15) (M' 16) (M' 17) (M' 18) (M' 19) (M' 20) (M' 21) (M' 22) (M' 23) (M' 24) (M' 25) (M' 26) (M' 27)) : zRep cb P C' A' M' := by
  unfold zRep at h ⊢
  rw [hC 0 (by omega), hC 1 (by omega), hC 2 (by omega), hC 3 (by omega), hC 4 (by omega), hC 5 (by omega), hC 6 (by omega), hC 13 (by omega), hC 14 (by omega), hC 15 (by omega), hC 16 (by omega), hC 17 (by omega), hC 18 (by omega), hC 19 (by omega), hC 20 (by omega), hC 21 (by omega), hC 22 (by omega), hC 23 (by omega), hC 24 (by omega)]
  rw [hA 0 (by omega), hA 1 (by omega), hA 5 (by omega), hA 6 (by omega), hA 7 (by omega)]
  rw [hM 0 (by omega), hM 1 (by omega), hM 2 (by omega), hM 3 (by omega), hM 4 (by omega), hM 5 (by omega), hM 6 (by omega), hM 7 (by omega), hM 8 (by omega), hM 9 (by omega), hM 10 (by omega), hM 11 (by omega), hM 12 (by omega), hM 13 (by omega), hM 14 (by omega), hM 28 (by omega), hM 29 (by omega), hM 30 (by omega), hM 31 (by omega), hM 32 (by omega), hM 33 (by omega), hM 34 (by omega), hM 35 (by omega), hM 36 (by omega), hM 37 (by omega), hM 38 (by omega)]
  obtain ⟨e0, g1, g2, g3, g4, g5⟩ := h
  exact ⟨e0, g1, g2, hG, g4, g5⟩
theorem zRep_sp (h : zRep cb P C A M) (d : Nat) (v : Int32) : zRep cb P (zs3 (zs3 C 8 d 0 1) 11 d 0 v) A (zst (zst M 18 d 1) 16 d v) := by
  have g3 := h.2.2.2.1
  refine zRep_D h (fun k hk => by rw [zs3_k (by omega), zs3_k (by omega)]) (fun k _ => rfl) (fun k hk => by rw [zst_k (by omega), zst_k (by omega)]) (fun d' hd' => ?_)
  obtain ⟨a1, a2, a3, a4, a5, a6, a7⟩ := g3 d' hd'
  refine ⟨a1, ?_, a3, a4, ?_, a6, a7⟩
  · rw [zs3_k (by decide), zst_k (by decide)]
    by_cases e : d' = d
    · subst e; rw [zs3_s, zst_s]
    · rw [zs3_o e, zst_i e]; exact a2
  · by_cases e : d' = d
    · subst e; rw [zs3_s, zst_s]
    · rw [zs3_o e, zst_i e]; exact a5
theorem zRep_busy (h : zRep cb P C A M) (d : Nat) (v : Int32) : zRep cb P (zs3 C 8 d 0 v) A (zst M 18 d v) := by
  have g3 := h.2.2.2.1
  refine zRep_D h (fun k hk => by rw [zs3_k (by omega)]) (fun k _ => rfl) (fun k hk => by rw [zst_k (by omega)]) (fun d' hd' => ?_)
  obtain ⟨a1, a2, a3⟩ := g3 d' hd'
  refine ⟨a1, ?_, a3⟩
  by_cases e : d' = d
  · subst e; rw [zs3_s, zst_s]
  · rw [zs3_o e, zst_i e]; exact a2
def ztcl (d : Nat) (M : zM) : Nat → zM
  | 0 => M
  | k + 1 => zst (ztcl d M k) 19 (9 * d + k) 0
theorem ztcl_k {d k : Nat} (h : k ≠ 19) (r : Nat) : ztcl d M r k = M k := by
  induction r with
  | zero => rfl
  | succ r ih => unfold ztcl; rw [zst_k h, ih]
theorem ztcl_19 {d i : Nat} (r : Nat) : ztcl d M r 19 i = if 9 * d ≤ i ∧ i < 9 * d + r then 0 else M 19 i := by
  induction r with
  | zero => rw [if_neg (by omega)]; rfl
  | succ r ih =>
    unfold ztcl
    rw [zst_e, ih]
    by_cases h : i = 9 * d + r
    · rw [if_pos ⟨rfl, h⟩, if_pos (by omega)]
    · rw [if_neg (by omega)]
      by_cases h2 : 9 * d ≤ i ∧ i < 9 * d + r
      · rw [if_pos h2, if_pos (by omega)]
      · rw [if_neg h2, if_neg (by omega)]
theorem ztc_k {d k : Nat} (h : k ≠ 2) (r : Nat) : ztc A d r k = A k := by
  induction r with
  | zero => rfl
  | succ r ih => unfold ztc; rw [zs3_k h, ih]
theorem ztc_o {d d' : Nat} (h : d' ≠ d) (r : Nat) : ztc A d r 2 d' = A 2 d' := by
  induction r with
  | zero => rfl
  | succ r ih => unfold ztc; rw [zs3_o h, ih]
theorem ztc_in {d j : Nat} (r : Nat) (h : j < r) : ztc A d r 2 d j = none := by
  induction r with
  | zero => omega
  | succ r ih =>
    unfold ztc
    by_cases e : j = r
    · subst e; rw [zs3_s]
    · rw [zs3_i e]; exact ih (by omega)
theorem zRep_round (h : zRep cb P C A M) (d : Nat) (x : Int32) : zRep cb P (zroundC C d x) (ztc A d 9) (ztcl d (zst (zst M 17 d x) 15 d (M 15 d + 1)) 9) := by
  have g3 := h.2.2.2.1
  unfold zroundC
  refine zRep_D h (fun k hk => by rw [zs3_k (by omega), zs3_k (by omega), zs3_k (by omega)]) (fun k hk => ztc_k (by omega) 9) (fun k hk => by rw [ztcl_k (by omega) 9, zst_k (by omega), zst_k (by omega)]) (fun d' hd' => ?_)
  obtain ⟨a1, a2, a3, a4, a5, a6, a7, a8⟩ := g3 d' hd'
  rw [ztc_k (k := 3) (by decide) 9, ztc_k (k := 4) (by decide) 9, ztcl_k (k := 15) (by decide) 9, ztcl_k (k := 16) (by decide) 9, ztcl_k (k := 17) (by decide) 9, ztcl_k (k := 18) (by decide) 9, ztcl_k (k := 20) (by decide) 9, ztcl_k (k := 21) (by decide) 9, ztcl_k (k := 22) (by decide) 9, ztcl_k (k := 23) (by decide) 9, ztcl_k (k := 24) (by decide) 9, ztcl_k (k := 25) (by decide) 9, ztcl_k (k := 26) (by decide) 9, ztcl_k (k := 27) (by decide) 9]
  by_cases e : d' = d
  · subst e
    refine ⟨?_, a2, ?_, ?_, a5, a6, fun r hr => Or.inl ⟨ztc_in 9 hr, by rw [ztcl_19, if_pos (by omega)]⟩, a8⟩
    · rw [zs3_s, zcn_none (fun j hj => by rw [ztcl_19, if_pos (by omega)]; rfl)]
      rfl
    · rw [zs3_k (by decide), zs3_s, zst_s]
      have : zs3 C 10 d' 0 x 9 d' 0 = C 9 d' 0 := by rw [zs3_k (by decide)]
      rw [a3]
    · rw [zs3_k (by decide), zs3_k (by decide), zs3_s, zst_k (by decide), zst_s]
  · refine ⟨?_, a2, ?_, ?_, a5, a6, fun r hr => ?_, a8⟩
    · rw [zs3_o e, zs3_k (by decide), zs3_k (by decide), a1]
      congr 1
      refine zcn_congr (fun j hj => ?_)
      rw [ztcl_19, if_neg (by omega), zst_k (by decide), zst_k (by decide)]
    · rw [zs3_k (by decide), zs3_o e, zs3_k (by decide), zst_i e, zst_k (by decide)]
      exact a3
    · rw [zs3_k (by decide), zs3_k (by decide), zs3_o e, zst_k (by decide), zst_i e]
      exact a4
    · rw [ztc_o e 9, ztcl_19, if_neg (by omega)]
      exact a7 r hr
theorem zaskl_aal {d : Nat} {M : zM} (r : Nat) (hr : r ≤ 9) : (∀ q, q = 0 ∨ (31 ≤ q ∧ q ≤ 38) → zaskl d M r q = (zaal d (ztcl d M 9) r).1 q) := by
  induction r with
  | zero =>
    intro q hq
    show M q = ztcl d M 9 q
    rw [ztcl_k (by omega) 9]
  | succ r ih =>
    have ih1 := ih (by omega)
    have h0 : (zaal d (ztcl d M 9) r).1 19 (9 * d + r) = 0 := by rw [zaal_k (by decide) (by decide) r, ztcl_19, if_pos (by omega)]
    rw [zaal_s h0]
    intro q hq
    show zsend (zst (zaskl d M r) 19 (9 * d + r) 0) 3 (nI r) (zaskl d M r 16 d) (nI d) (zaskl d M r 15 d) 0 0 q = zsend (zaal d (ztcl d M 9) r).1 3 (nI r) ((zaal d (ztcl d M 9) r).1 16 d) (nI d) ((zaal d (ztcl d M 9) r).1 15 d) 0 0 q
    rw [zaskl_k (k := 16) (by decide) (by decide) (by decide) r, zaskl_k (k := 15) (by decide) (by decide) (by decide) r, zaal_k (k := 16) (by decide) (by decide) r, zaal_k (k := 15) (by decide) (by decide) r, ztcl_k (k := 16) (by decide) 9, ztcl_k (k := 15) (by decide) 9]
    exact zsend_rows (fun q' hq' => by rw [zst_k (by omega)]; exact ih1 q' hq') q hq
theorem zask_eq {d : Nat} {M : zM} : (zaal d (ztcl d M 9) 9).1 = zaskl d M 9 := by
  funext q
  by_cases hq : q = 0 ∨ (31 ≤ q ∧ q ≤ 38)
  · exact ((zaskl_aal 9 (Nat.le_refl _)) q hq).symm
  · rw [zaal_k (by omega) (by omega) 9]
    by_cases h19 : q = 19
    · subst h19
      funext i
      rw [ztcl_19, zaskl_19]
    · rw [ztcl_k h19 9, zaskl_k (by omega) h19 (by omega) 9]
theorem zst_comm {M : zM} {k i k' i' : Nat} {v v' : Int32} (h : k ≠ k') : zst (zst M k i v) k' i' v' = zst (zst M k' i' v') k i v := by
  funext q j
  simp only [zst_e]
  by_cases h1 : q = k ∧ j = i
  · rw [if_pos h1, if_neg (by omega), if_pos h1]
  · rw [if_neg h1, if_neg h1]
theorem zread_eq {d : Nat} {M : zM} {v : Int32} : (zaal d (ztcl d (zst (zst (zst (zst M 18 d 1) 16 d v) 17 d 1) 15 d (zst (zst M 18 d 1) 16 d v 15 d + 1)) 9) 9).1 = zread M d v := by
  rw [zask_eq]
  unfold zread zaskAll
  rw [zst_comm (M := zst M 18 d 1) (k := 16) (k' := 17) (by decide)]
  rfl
theorem zcn_inc {f g : Nat → Bool} {n r : Nat} (hr : r < n) (h : ∀ j, j < n → j ≠ r → g j = f j) (h0 : f r = false) (h1 : g r = true) : zcn g n = zcn f n + 1 := by
  induction n with
  | zero => omega
  | succ n ih =>
    by_cases e : r = n
    · subst e
      rw [zcn_s h1, zcn_f h0, zcn_congr (fun j hj => h j (by omega) (by omega))]
    · simp only [zcn]
      rw [ih (by omega) (fun j hj => h j (by omega)), h n (by omega) (fun q => e q.symm)]
      omega
theorem zRep_told (h : zRep cb P C A M) {d r a : Nat} (hd : d < 3) (hr : r < 9) (h0 : A 2 d r = none) (ha : zPR cb P (C 22) (C 23) (C 24) a (M 36 300) (M 37 300) (M 38 300)) : zRep cb P (zs3 C 7 d 0 (C 7 d 0 + 1)) (zs3 A 2 d r (some a)) (ztold M d r) := by
  have g3 := h.2.2.2.1
  unfold ztold
  refine zRep_D h (fun k hk => by rw [zs3_k (by omega)]) (fun k hk => zs3_k (by omega)) (fun k hk => by rw [zst_k (by omega), zst_k (by omega), zst_k (by omega), zst_k (by omega)]) (fun d' hd' => ?_)
  obtain ⟨a1, a2, a3, a4, a5, a6, a7, a8⟩ := g3 d' hd'
  have hm0 : M 19 (9 * d + r) = 0 := by
    rcases zr_told h hd hr with q | ⟨b, q, -⟩
    · exact q.2
    · rw [h0] at q; cases q
  rw [zst_k (k' := 19) (by decide), zst_k (k' := 19) (by decide), zst_k (k' := 19) (by decide), zst_k (k' := 20) (by decide), zst_k (k' := 20) (by decide), zst_k (k' := 21) (by decide)]
  refine ⟨?_, a2, a3, a4, a5, a6, fun r' hr' => ?_, a8⟩
  · by_cases e : d' = d
    · subst e
      rw [zs3_s, a1, nI_1]
      congr 1
      exact (zcn_inc hr (fun j hj hjr => by rw [zst_i (by omega)]) (by simp [hm0]) (by simp [zst_s])).symm
    · rw [zs3_o e, a1]
      congr 1
      exact zcn_congr (fun j hj => by rw [zst_i (by omega)])
  · by_cases e : d' = d ∧ r' = r
    · obtain ⟨rfl, rfl⟩ := e
      rw [zst_s, zst_s, zst_s, zst_s, zs3_s]
      exact Or.inr ⟨a, rfl, by decide, ha⟩
    · have hne : 9 * d' + r' ≠ 9 * d + r := by omega
      rw [zst_i hne, zst_i hne, zst_i hne, zst_i hne, zs3_e, if_neg (fun q => e ⟨q.2.1, q.2.2⟩)]
      exact a7 r' hr'
end ZRD
