def zOL (M : zM) : Prop := ∃ n, zokL M n
theorem zOL_congr {M N : zM} (h : zOL M) (e0 : N 0 = M 0) (e31 : N 31 = M 31) (e32 : N 32 = M 32) (e33 : N 33 = M 33) (e34 : N 34 = M 34) (e35 : N 35 = M 35) (e36 : N 36 = M 36) : zOL N := by
  unfold zOL zokL zlok at h ⊢
  rw [e0, e31, e32, e33, e34, e35, e36]
  exact h
theorem zOL_row {M : zM} {k i : Nat} {v : Int32} (h : zOL M) (hk : 0 < k ∧ k < 31) : zOL (zst M k i v) :=
  zOL_congr h (zst_k (by omega)) (zst_k (by omega)) (zst_k (by omega)) (zst_k (by omega)) (zst_k (by omega)) (zst_k (by omega)) (zst_k (by omega))
theorem zOL_send {M : zM} {w r p d x lo hi : Int32} (h : zOL M) (hw : zlw w r p d) : zOL (zsend M w r p d x lo hi) := by
  obtain ⟨n, hn1, hn, hn2⟩ := h
  by_cases hf : n = 300
  · rw [zsend_full (by rw [hn, hf]; rfl)]
    exact ⟨n, hn1, hn, hn2⟩
  · have hne : ¬ M 0 1 = 300 := by rw [hn, zn_eq300 hn1]; exact hf
    refine ⟨n + 1, by omega, by rw [zsend_01 hne, hn, nI_1], fun i hi' => ?_⟩
    by_cases hi2 : i = n
    · subst hi2
      obtain ⟨a1, a2, a3, a4, a5, a6, -, -⟩ := zsend_at (w := w) (r := r) (p := p) (d := d) (x := x) (lo := lo) (hi := hi) hn (by omega)
      unfold zlok
      rw [a1, a2, a3, a4, a5, a6]
      obtain ⟨b1, b2, b3⟩ := hw
      refine ⟨b1, b2, ?_⟩
      rcases b3 with b3 | b3 | ⟨b3 | b3, b4⟩
      · exact Or.inl ⟨b3, rfl⟩
      · exact Or.inr (Or.inl b3)
      · exact Or.inr (Or.inr (Or.inl ⟨b3, b4⟩))
      · exact Or.inr (Or.inr (Or.inr ⟨b3, b4⟩))
    · exact zlok_at (hn2 i (by omega)) (fun q h1 h2 => zsend_r hn (by omega) ⟨h1, h2⟩ hi2)
theorem zOL_wl {p : Nat} {M : zM} (h : zOL M) (hp : p < 4) : ∀ r, r ≤ 9 → zOL (zwl p M r) := by
  intro r
  induction r with
  | zero => intro _; exact h
  | succ r ih => intro hr; exact zOL_send (zOL_row (ih (by omega)) (by decide)) (zlw_n (by omega) hp (Or.inl rfl))
theorem zOL_sal {p : Nat} {M : zM} (h : zOL M) (hp : p < 4) : ∀ r, r ≤ 9 → zOL (zsal p M r).1 := by
  intro r
  induction r with
  | zero => intro _; exact h
  | succ r ih =>
    intro hr
    unfold zsal
    split
    · exact zOL_send (ih (by omega)) (zlw_n (by omega) hp (Or.inl rfl))
    · exact ih (by omega)
theorem zOL_askl {d p : Nat} {M : zM} (h : zOL M) (hd : d < 3) (hp : p < 4) (ha : M 16 d = nI p) : ∀ r, r ≤ 9 → zOL (zaskl d M r) := by
  intro r
  induction r with
  | zero => intro _; exact h
  | succ r ih =>
    intro hr
    unfold zaskl
    rw [zaskl_k (k := 16) (by decide) (by decide) (by decide) r, ha]
    exact zOL_send (zOL_row (ih (by omega)) (by decide)) (zlw_d (by omega) hp hd (Or.inl rfl))
theorem zOL_aal {d p : Nat} {M : zM} (h : zOL M) (hd : d < 3) (hp : p < 4) (ha : M 16 d = nI p) : ∀ r, r ≤ 9 → zOL (zaal d M r).1 := by
  intro r
  induction r with
  | zero => intro _; exact h
  | succ r ih =>
    intro hr
    unfold zaal
    split
    · have := zaal_k (d := d) (M := M) (k := 16) (by decide) (by decide) r
      show zOL (zsend (zaal d M r).1 3 (nI r) ((zaal d M r).1 16 d) (nI d) ((zaal d M r).1 15 d) 0 0)
      rw [this, ha]
      exact zOL_send (ih (by omega)) (zlw_d (by omega) hp hd (Or.inl rfl))
    · exact ih (by omega)
theorem zwl_14 {p : Nat} {M : zM} {r i : Nat} : zwl p M r 14 i = zfgl p M r 14 i := by
  induction r generalizing i with
  | zero => rfl
  | succ r ih =>
    unfold zwl zfgl
    rw [zstoreTo_k (by decide) (by decide), zst_e, zst_e, ih]
theorem zwl_00 {p : Nat} {M : zM} {r : Nat} : zwl p M r 0 0 = M 0 0 := by
  induction r with
  | zero => rfl
  | succ r ih => unfold zwl zstoreTo; rw [zsend_00, zst_k (by decide), ih]
theorem zsal_00 {p : Nat} {M : zM} {r : Nat} : (zsal p M r).1 0 0 = M 0 0 := by
  induction r with
  | zero => rfl
  | succ r ih =>
    unfold zsal
    split
    · show zstoreTo (zsal p M r).1 p (nI r) 0 0 = _
      unfold zstoreTo
      rw [zsend_00, ih]
    · exact ih
theorem zaskl_00 {d : Nat} {M : zM} {r : Nat} : zaskl d M r 0 0 = M 0 0 := by
  induction r with
  | zero => rfl
  | succ r ih => unfold zaskl; rw [zsend_00, zst_k (by decide), ih]
theorem zaal_00 {d : Nat} {M : zM} {r : Nat} : (zaal d M r).1 0 0 = M 0 0 := by
  induction r with
  | zero => rfl
  | succ r ih =>
    unfold zaal
    split
    · show zsend (zaal d M r).1 3 (nI r) ((zaal d M r).1 16 d) (nI d) ((zaal d M r).1 15 d) 0 0 0 0 = _
      rw [zsend_00, ih]
    · exact ih
theorem zaskl_19 {d : Nat} {M : zM} {r i : Nat} : zaskl d M r 19 i = if 9 * d ≤ i ∧ i < 9 * d + r then 0 else M 19 i := by
  induction r with
  | zero => rw [if_neg (by omega)]; rfl
  | succ r ih =>
    unfold zaskl
    rw [zsend_k (by decide) (by decide), zst_e, ih]
    by_cases h : i = 9 * d + r
    · rw [if_pos ⟨rfl, h⟩, if_pos (by omega)]
    · rw [if_neg (by omega)]
      by_cases h2 : 9 * d ≤ i ∧ i < 9 * d + r
      · rw [if_pos h2, if_pos (by omega)]
      · rw [if_neg h2, if_neg (by omega)]
theorem zokA_of {M N : zM} (h : zokA M) (e : N 16 = M 16) : zokA N := by unfold zokA at h ⊢; rw [e]; exact h
theorem zokW_of {M N : zM} (h : zokW M) (e : N 12 = M 12) (e2 : N 14 = M 14) : zokW N := by unfold zokW zrcs at h ⊢; rw [e, e2]; exact h
theorem zokD_of {M N : zM} {R : Nat} (h : zokD M R) (e0 : N 0 0 = M 0 0) (e : N 17 = M 17) (e1 : N 18 = M 18) (e2 : N 19 = M 19) : zokD N R := by unfold zokD zans at h ⊢; rw [e0, e, e1, e2]; exact h
theorem zokI_of {M N : zM} (h : zliars M ≤ 2) (e : N 5 = M 5) : zliars N ≤ 2 := by unfold zliars at h ⊢; rw [e]; exact h
theorem zOk_write {M : zM} {p : Nat} {lo hi : Int32} (h : zOk M) (hp : p < 4) : zOk (zwrite M p lo hi) := by
  obtain ⟨hL, hA, ⟨R, hR⟩, hW, hI⟩ := h
  unfold zwrite
  refine ⟨zOL_wl (zOL_row (zOL_row (zOL_row (zOL_row hL (by decide)) (by decide)) (by decide)) (by decide)) hp 9 (by decide), zokA_of hA ?_, ⟨R, zokD_of hR ?_ ?_ ?_ ?_⟩, fun p' hp' ho => ?_, zokI_of hI ?_⟩
  · rw [zwl_k (by decide) (by decide) (by decide) 9]; rfl
  · rw [zwl_00]; rfl
  · rw [zwl_k (by decide) (by decide) (by decide) 9]; rfl
  · rw [zwl_k (by decide) (by decide) (by decide) 9]; rfl
  · rw [zwl_k (by decide) (by decide) (by decide) 9]; rfl
  · by_cases he : p' = p
    · subst he
      have : zrcs (zwl p' (zst (zst (zst (zst M 9 p' (M 9 p' + 1)) 10 p' lo) 11 p' hi) 12 p' 1) 9) p' = 0 := zcn_none (fun j hj => by rw [zwl_14, zfgl_in hj]; rfl)
      omega
    · have e : zrcs (zwl p (zst (zst (zst (zst M 9 p (M 9 p + 1)) 10 p lo) 11 p hi) 12 p 1) 9) p' = zrcs M p' := zcn_congr (fun j hj => by rw [zwl_14, zfgl_out (by omega)]; rfl)
      rw [e]
      refine hW p' hp' ?_
      rw [zwl_k (by decide) (by decide) (by decide) 9, zst_i he] at ho
      exact ho
  · rw [zwl_k (by decide) (by decide) (by decide) 9]; rfl
theorem zOk_sal {M : zM} {p : Nat} (h : zOk M) (hp : p < 4) : zOk (zsal p M 9).1 := by
  obtain ⟨hL, hA, ⟨R, hR⟩, hW, hI⟩ := h
  exact ⟨zOL_sal hL hp 9 (by decide), zokA_of hA (zsal_k (by decide) (by decide) 9), ⟨R, zokD_of hR zsal_00 (zsal_k (by decide) (by decide) 9) (zsal_k (by decide) (by decide) 9) (zsal_k (by decide) (by decide) 9)⟩, zokW_of hW (zsal_k (by decide) (by decide) 9) (zsal_k (by decide) (by decide) 9), zokI_of hI (zsal_k (by decide) (by decide) 9)⟩
theorem zOk_aal {M : zM} {d : Nat} (h : zOk M) (hd : d < 3) : zOk (zaal d M 9).1 := by
  obtain ⟨hL, hA, ⟨R, hR⟩, hW, hI⟩ := h
  obtain ⟨p, hp, ha⟩ := hA d hd
  exact ⟨zOL_aal hL hd hp ha 9 (by decide), zokA_of hA (zaal_k (by decide) (by decide) 9), ⟨R, zokD_of hR zaal_00 (zaal_k (by decide) (by decide) 9) (zaal_k (by decide) (by decide) 9) (zaal_k (by decide) (by decide) 9)⟩, zokW_of hW (zaal_k (by decide) (by decide) 9) (zaal_k (by decide) (by decide) 9), zokI_of hI (zaal_k (by decide) (by decide) 9)⟩
theorem zans_ask {M : zM} {d : Nat} : zans (zaskAll M d) d = 0 := zcn_none (fun j hj => by
  unfold zaskAll
  rw [zaskl_19, if_pos (by omega)]
  rfl)
theorem zans_ask2 {M : zM} {d d' : Nat} (h : d' ≠ d) : zans (zaskAll M d) d' = zans M d' := zcn_congr (fun j hj => by
  unfold zaskAll
  rw [zaskl_19, if_neg (by omega)]
  rfl)
theorem zaskAll_k {M : zM} {d k : Nat} (h0 : k ≠ 0) (h1 : k ≠ 19) (h2 : k ≠ 15) (h : k < 31 ∨ 38 < k) : zaskAll M d k = M k := by
  unfold zaskAll
  rw [zaskl_k h0 h1 h 9, zst_k h2]
/-- a new question: what M must have is all but the told of d -/
theorem zOk_ask {M : zM} {d R : Nat} (hL : zOL M) (hA : zokA M) (hR1 : 1 ≤ R ∧ R ≤ 9 ∧ M 0 0 = nI R) (hR2 : ∀ d', d' < 3 → d' ≠ d → M 18 d' = 1 → zans M d' < 7 ∧ ∃ k : Nat, 1 ≤ k ∧ k ≤ R ∧ M 17 d' = nI k) (hd : d < 3) (hr : ∃ k : Nat, 1 ≤ k ∧ k ≤ R ∧ M 17 d = nI k) (hW : zokW M) (hI : zliars M ≤ 2) : zOk (zaskAll M d) := by
  obtain ⟨p, hp, ha⟩ := hA d hd
  refine ⟨zOL_askl (M := zst M 15 d (M 15 d + 1)) (zOL_row hL (by decide)) hd hp ha 9 (by decide), zokA_of hA (zaskAll_k (by decide) (by decide) (by decide) (by decide)), ⟨R, hR1.1, hR1.2.1, ?_, fun d' hd' ho => ?_⟩, zokW_of hW (zaskAll_k (by decide) (by decide) (by decide) (by decide)) (zaskAll_k (by decide) (by decide) (by decide) (by decide)), zokI_of hI (zaskAll_k (by decide) (by decide) (by decide) (by decide))⟩
  · unfold zaskAll
    rw [zaskl_00, zst_k (by decide)]
    exact hR1.2.2
  · rw [zaskAll_k (k := 17) (by decide) (by decide) (by decide) (by decide)]
    by_cases he : d' = d
    · subst he
      rw [zans_ask]
      exact ⟨by decide, hr⟩
    · rw [zans_ask2 he]
      refine hR2 d' hd' he ?_
      rw [zaskAll_k (k := 18) (by decide) (by decide) (by decide) (by decide)] at ho
      exact ho
