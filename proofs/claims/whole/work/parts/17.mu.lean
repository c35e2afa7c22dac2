-- deliveries come to an end
theorem zsum_congr {f g : Nat → Nat} {n : Nat} (h : ∀ j, j < n → f j = g j) : zsum f n = zsum g n := by
  induction n with
  | zero => rfl
  | succ n ih => simp only [zsum]; rw [ih (fun j hj => h j (by omega)), h n (by omega)]
theorem zsum_first (f : Nat → Nat) (n : Nat) : zsum f (n + 1) = f 0 + zsum (fun j => f (j + 1)) n := by
  induction n with
  | zero => simp [zsum]
  | succ n ih =>
    show zsum f (n + 1) + f (n + 1) = f 0 + (zsum (fun j => f (j + 1)) n + f (n + 1))
    rw [ih]
    omega
theorem zsum_at {f g : Nat → Nat} {n d c : Nat} (hd : d < n) (h : ∀ j, j < n → j ≠ d → f j = g j) (hc : f d = g d + c) : zsum f n = zsum g n + c := by
  induction n with
  | zero => omega
  | succ n ih =>
    simp only [zsum]
    by_cases he : d = n
    · subst he
      rw [zsum_congr (fun j hj => h j (by omega) (by omega)), hc]
      omega
    · rw [ih (by omega) (fun j hj => h j (by omega)), h n (by omega) (fun q => he q.symm)]
      omega
theorem zsum_le {f g : Nat → Nat} {n : Nat} (h : ∀ j, j < n → f j ≤ g j) : zsum f n ≤ zsum g n := by
  induction n with
  | zero => exact Nat.le_refl _
  | succ n ih =>
    have h1 := ih (fun j hj => h j (by omega))
    have h2 := h n (by omega)
    simp only [zsum]
    omega
def zS (M : zM) : Nat := zsum (fun i => zwt (M 31 i)) (zix (M 0 1))
def zTf (M : zM) (d : Nat) : Nat := if M 18 d = 1 then 18 * (zix (M 0 0) - zix (M 17 d)) else 0
def zTT (M : zM) : Nat := zsum (zTf M) 3
theorem zmu_eq (M : zM) : zmu M = zS M + zTT M := rfl
theorem zS_of {M N : zM} (e0 : N 0 1 = M 0 1) (e : N 31 = M 31) : zS N = zS M := by unfold zS; rw [e0, e]
theorem zT_of {M N : zM} (e0 : N 0 0 = M 0 0) (e : N 17 = M 17) (e2 : N 18 = M 18) : zTT N = zTT M := by unfold zTT zTf; rw [e0, e, e2]
theorem zS_send {M : zM} {w r p d x lo hi : Int32} (h : zLt M) : zS (zsend M w r p d x lo hi) ≤ zS M + zwt w := by
  obtain ⟨n, hn1, hn⟩ := h
  by_cases hf : n = 300
  · rw [zsend_full (by rw [hn, hf]; rfl)]
    omega
  · have hne : ¬ M 0 1 = 300 := by rw [hn, zn_eq300 hn1]; exact hf
    unfold zS
    rw [zsend_01 hne, hn, nI_1, zix_n (by omega), zix_n (by omega)]
    show zsum _ n + zwt (zsend M w r p d x lo hi 31 n) ≤ _
    rw [(zsend_at hn (by omega)).1, zsum_congr (fun j hj => by rw [zsend_r hn (by omega) (by decide) (by omega)])]
    omega
theorem zT_send {M : zM} {w r p d x lo hi : Int32} : zTT (zsend M w r p d x lo hi) = zTT M := zT_of zsend_00 (zsend_k (by decide) (by decide)) (zsend_k (by decide) (by decide))
theorem zS_askl {d : Nat} {M : zM} (h : zLt M) (r : Nat) : zS (zaskl d M r) ≤ zS M + 2 * r := by
  induction r with
  | zero => exact Nat.le_refl _
  | succ r ih =>
    unfold zaskl
    have h1 := zS_send (w := 3) (r := nI r) (p := zaskl d M r 16 d) (d := nI d) (x := zaskl d M r 15 d) (lo := 0) (hi := 0) (zLt_st (k := 19) (i := 9 * d + r) (v := 0) (zLt_askl (d := d) h r) (by decide))
    have h2 : zS (zst (zaskl d M r) 19 (9 * d + r) 0) = zS (zaskl d M r) := zS_of rfl rfl
    have h3 : zwt 3 = 2 := by decide
    omega
theorem zT_askl {d : Nat} {M : zM} (r : Nat) : zTT (zaskl d M r) = zTT M := zT_of zaskl_00 (zaskl_k (by decide) (by decide) (by decide) r) (zaskl_k (by decide) (by decide) (by decide) r)
theorem zmu_looks {M : zM} {d R k : Nat} (hL : zLt M) (hd : d < 3) (hR : R ≤ 9) (h0 : M 0 0 = nI R) (hk : k ≤ R) (h17 : M 17 d = nI k) (h18 : M 18 d = 1) : zmu (zlooks M d) ≤ zmu M := by
  have hdone : ∀ (N : zM) (v : Int32), ¬ v = 1 → N 18 = zst M 18 d v 18 → N 0 = M 0 → N 17 = M 17 → N 31 = M 31 → zmu N ≤ zmu M := by
    intro N v hv e18 e0 e17 e31
    rw [zmu_eq, zmu_eq, zS_of (by rw [e0]) e31]
    refine Nat.add_le_add_left (zsum_le (fun j hj => ?_)) _
    unfold zTf
    rw [e18, e0, e17]
    by_cases he : j = d
    · subst he
      rw [zst_s, if_neg hv]
      exact Nat.zero_le _
    · rw [zst_i he]
      exact Nat.le_refl _
  cases hb : zbest M d 9 with
  | some b =>
    simp only [zlooks, hb]
    exact hdone _ 2 (by decide) zanswer_18 (zanswer_k (by decide)) (zanswer_k (by decide)) (zanswer_k (by decide))
  | none =>
    by_cases h : M 17 d = M 0 0
    · rw [zlooks_b hb h]
      exact hdone _ 3 (by decide) rfl rfl rfl rfl
    · rw [zlooks_n hb h]
      have hk2 : k < R := by
        rcases Nat.lt_or_ge k R with q | q
        · exact q
        · exact absurd (by rw [h17, h0, show k = R by omega]) h
      unfold zaskAll
      rw [zmu_eq, zmu_eq, zT_askl]
      have hS := zS_askl (d := d) (M := zst (zst M 17 d (M 17 d + 1)) 15 d (zst M 17 d (M 17 d + 1) 15 d + 1)) (zLt_st (zLt_st hL (by decide)) (by decide)) 9
      have hS2 : zS (zst (zst M 17 d (M 17 d + 1)) 15 d (zst M 17 d (M 17 d + 1) 15 d + 1)) = zS M := zS_of rfl rfl
      have hT : zTT M = zTT (zst (zst M 17 d (M 17 d + 1)) 15 d (zst M 17 d (M 17 d + 1) 15 d + 1)) + 18 := by
        refine zsum_at hd (fun j hj he => ?_) ?_
        · unfold zTf
          rw [zst_k (k' := 18) (by decide), zst_k (k' := 18) (by decide), zst_k (k' := 0) (by decide), zst_k (k' := 0) (by decide), zst_k (k' := 17) (by decide), zst_i he]
        · unfold zTf
          rw [zst_k (k' := 18) (by decide), zst_k (k' := 18) (by decide), zst_k (k' := 0) (by decide), zst_k (k' := 0) (by decide), zst_k (k' := 17) (by decide), zst_s, h18, h0, h17, nI_1, if_pos rfl, if_pos rfl, zix_n (by omega), zix_n (by omega), zix_n (by omega)]
          omega
      omega
theorem zmu_comes {M : zM} (h : zOk M) (hk : zlok M 300) : zmu (zcomes M) + 1 ≤ zmu M + zwt (M 31 300) := by
  have hL := zOk_lt h
  obtain ⟨⟨r, hr, h32⟩, ⟨p, hp, h33⟩, hk⟩ := hk
  have z_r : zix (nI r) = r := zix_n (by omega)
  have z_p : zix (nI p) = p := zix_n (by omega)
  have w1 : zwt 1 = 2 := by decide
  have w2 : zwt 2 = 1 := by decide
  have w3 : zwt 3 = 2 := by decide
  have w4 : zwt 4 = 1 := by decide
  rcases hk with ⟨h31, -⟩ | h31 | ⟨h31, d, hd, h34⟩ | ⟨h31, d, hd, h34⟩
  · rw [h31]
    simp only [zcomes, h31, if_true]
    split
    · omega
    · simp only [zstoreComes]
      split
      · have a := zS_send (w := 2) (r := M 32 300) (p := M 33 300) (d := -1) (x := M 35 300) (lo := 0) (hi := 0) (zLt_st (k := 8) (i := 4 * zix (M 32 300) + zix (M 33 300)) (v := M 38 300) (zLt_st (k := 7) (i := 4 * zix (M 32 300) + zix (M 33 300)) (v := M 37 300) (zLt_st (k := 6) (i := 4 * zix (M 32 300) + zix (M 33 300)) (v := M 35 300) hL (by decide)) (by decide)) (by decide))
        rw [zmu_eq, zmu_eq, zT_send]
        have b : zS (zst (zst (zst M 6 (4 * zix (M 32 300) + zix (M 33 300)) (M 35 300)) 7 (4 * zix (M 32 300) + zix (M 33 300)) (M 37 300)) 8 (4 * zix (M 32 300) + zix (M 33 300)) (M 38 300)) = zS M := zS_of rfl rfl
        have c : zTT (zst (zst (zst M 6 (4 * zix (M 32 300) + zix (M 33 300)) (M 35 300)) 7 (4 * zix (M 32 300) + zix (M 33 300)) (M 37 300)) 8 (4 * zix (M 32 300) + zix (M 33 300)) (M 38 300)) = zTT M := zT_of rfl rfl rfl
        omega
      · have a := zS_send (w := 2) (r := M 32 300) (p := M 33 300) (d := -1) (x := M 35 300) (lo := 0) (hi := 0) hL
        rw [zmu_eq, zmu_eq, zT_send]
        omega
  · have e : zcomes M = zrcComes M p r (M 35 300) := by simp [zcomes, h31, h32, h33, z_r, z_p]
    rw [e, h31, w2, zmu_eq, zmu_eq, zS_of (by rw [zrcComes_k (by decide)]) (zrcComes_k (by decide)), zT_of (by rw [zrcComes_k (by decide)]) (zrcComes_k (by decide)) (zrcComes_k (by decide))]
    omega
  · have e : zcomes M = if zdeaf M r then M else zsendTell M (nI r) (nI p) (nI d) (M 35 300) (M 6 (4 * r + p)) (M 7 (4 * r + p)) (M 8 (4 * r + p)) := by simp [zcomes, h31, h32, h33, h34, z_r, z_p]
    rw [e, h31]
    split
    · omega
    · unfold zsendTell
      split
      · omega
      · have a := zS_send (w := 4) (r := nI r) (p := nI p) (d := nI d) (x := M 35 300) (lo := M 7 (4 * r + p)) (hi := M 8 (4 * r + p)) hL
        have b : zS (zst (zsend M 4 (nI r) (nI p) (nI d) (M 35 300) (M 7 (4 * r + p)) (M 8 (4 * r + p))) 36 (zix (M 0 1)) (M 6 (4 * r + p))) = zS (zsend M 4 (nI r) (nI p) (nI d) (M 35 300) (M 7 (4 * r + p)) (M 8 (4 * r + p))) := zS_of rfl rfl
        have c : zTT (zst (zsend M 4 (nI r) (nI p) (nI d) (M 35 300) (M 7 (4 * r + p)) (M 8 (4 * r + p))) 36 (zix (M 0 1)) (M 6 (4 * r + p))) = zTT (zsend M 4 (nI r) (nI p) (nI d) (M 35 300) (M 7 (4 * r + p)) (M 8 (4 * r + p))) := zT_of rfl rfl rfl
        rw [zmu_eq, zmu_eq, b, c, zT_send]
        omega
  · have e : zcomes M = ztellComes M d r := by simp [zcomes, h31, h32, h34, z_r, zix_n (show d < 2 ^ 31 by omega)]
    rw [e, h31, w4]
    by_cases hc : ¬ M 18 d = 1 ∨ ¬ M 35 300 = M 15 d ∨ ¬ M 19 (9 * d + r) = 0
    · rw [ztellComes_no hc]
      omega
    · rw [ztellComes_eq hc]
      obtain ⟨-, -, ⟨R, hR1, hR2, hR3, hR4⟩, -, -⟩ := h
      have h18 : M 18 d = 1 := Classical.not_not.mp (fun q => hc (Or.inl q))
      obtain ⟨-, k, k1, k2, k3⟩ := hR4 d hd h18
      have e2 : zmu (ztold M d r) = zmu M := by rw [zmu_eq, zmu_eq]; exact congr (congrArg _ (zS_of rfl rfl)) (zT_of rfl rfl rfl)
      split
      · have := zmu_looks (M := ztold M d r) (k := k) (zLt_of hL rfl) hd hR2 hR3 k2 k3 h18
        omega
      · omega
theorem zmu_deliver {M : zM} {n : Nat} (h : zOk M) (hn1 : n ≤ 300) (hn : M 0 1 = nI n) (hi : 0 < n) : zmu (zdeliver M 0) < zmu M := by
  have hz : zix (M 0 1) = n := by rw [hn]; exact zix_n (by omega)
  obtain ⟨⟨n', hn1', hn', hn2⟩, -⟩ := id h
  have hnn : n' = n := (nI_eq (by omega) (by omega)).mp (hn'.symm.trans hn)
  subst hnn
  unfold zdeliver
  rw [hz]
  have a := zmu_comes (zOk_take h hn1 hn hi) (ztake_lok (n := n') (hn2 0 hi))
  rw [ztake_300 (by decide)] at a
  have b : zS M = zwt (M 31 0) + zS (ztake M 0 n') := by
    obtain ⟨m, rfl⟩ : ∃ m, n' = m + 1 := ⟨n' - 1, by omega⟩
    unfold zS
    rw [hz, zsum_first, ztake_01, zix_n (by omega)]
    congr 1
    refine zsum_congr (fun j hj => ?_)
    unfold ztake zsh
    rw [if_pos (by decide), if_neg (by omega), if_pos (by omega)]
  have c : zTT (ztake M 0 n') = zTT M := zT_of rfl (ztake_k (by decide) (by decide)) (ztake_k (by decide) (by decide))
  rw [zmu_eq] at a ⊢
  rw [zmu_eq] at a
  rw [zmu_eq]
  omega
