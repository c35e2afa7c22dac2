theorem z_top {p : Program} {l : Launch} {e : Env} {R : Room} {s : State} {m : MethodId} {args : Array Value} {below : List Frame} {meth : Method} {c : Code} {H : Heap} {locs : List Loc} {cells slots : Nat} {Q : State → Prop} {pc : Nat} {ls : Array Slot} {rest : List Value} {x y : Int32} (h : x = y)
    (k : W p l e R s m args below meth c H locs cells slots Q (F0 m pc ls (.int y :: rest))) : W p l e R s m args below meth c H locs cells slots Q (F0 m pc ls (.int x :: rest)) := by
  rw [h]
  exact k
theorem zalk_s {M : zM} {d r k : Nat} (h : ¬ M 19 (9 * d + k) = 0 ∧ zsame M (9 * d + r) (9 * d + k)) : zalk M d r (k + 1) = zalk M d r k + 1 := zcn_s (decide_eq_true h)
theorem zalk_f {M : zM} {d r k : Nat} (h : ¬ (¬ M 19 (9 * d + k) = 0 ∧ zsame M (9 * d + r) (9 * d + k))) : zalk M d r (k + 1) = zalk M d r k := zcn_f (decide_eq_false h)
theorem zalk_le (M : zM) (d r k : Nat) : zalk M d r k ≤ k := zcn_le _ k
def zoi (d : Nat) : Option Nat → Int32
  | none => -1
  | some b => nI (9 * d + b)
theorem zbest_lt {M : zM} {d : Nat} (k : Nat) : ∀ b, zbest M d k = some b → b < k := by
  induction k with
  | zero => intro b h; cases h
  | succ k ih =>
    intro b h
    simp only [zbest] at h
    split at h
    · split at h
      · cases h; omega
      · cases h
    · rename_i b' hb
      have := ih b' hb
      split at h
      · cases h; omega
      · cases h; omega
theorem zbest_1 {M : zM} {d k : Nat} (h : ¬ zbel M d k) : zbest M d (k + 1) = zbest M d k := by
  simp only [zbest]
  split
  · rename_i hb
    rw [if_neg h, hb]
  · rename_i b hb
    rw [if_neg (fun q => h q.1), hb]
theorem zoi_some {d : Nat} {o : Option Nat} (h : ¬ zoi d o = -1) : ∃ b, o = some b := by
  cases o with
  | none => exact absurd rfl h
  | some b => exact ⟨b, rfl⟩
theorem zoi_none {d : Nat} {o : Option Nat} (hd : d < 3) (ho : ∀ b, o = some b → b < 9) (h : zoi d o = -1) : o = none := by
  cases o with
  | none => rfl
  | some b =>
    have hb := ho b rfl
    exact absurd (show nI (9 * d + b) < 0 by rw [show nI (9 * d + b) = -1 from h]; decide) (nI_pos (by omega))
theorem zbest_2 {M : zM} {d k : Nat} (hd : d < 3) (hk : k < 9) (h : zbel M d k) (hb : zoi d (zbest M d k) = -1) : zbest M d (k + 1) = some k := by
  have hn := zoi_none hd (fun b q => by have := zbest_lt k b q; omega) hb
  simp only [zbest, hn]
  rw [if_pos h]
theorem zbest_3 {M : zM} {d k b : Nat} (hb : zbest M d k = some b) (c : ¬ zbet M (9 * d + k) (9 * d + b) = true) : zbest M d (k + 1) = zbest M d k := by
  simp only [zbest, hb]
  rw [if_neg (fun q => c q.2)]
theorem zbest_4 {M : zM} {d k b : Nat} (h : zbel M d k) (hb : zbest M d k = some b) (c : zbet M (9 * d + k) (9 * d + b) = true) : zbest M d (k + 1) = some k := by
  simp only [zbest, hb]
  rw [if_pos ⟨h, c⟩]
theorem zlooks_s {M : zM} {d b p : Nat} (hb : zbest M d 9 = some b) (ha : M 16 d = nI p) (hp : p < 4) : zlooks M d = zanswer M d p (9 * d + b) := by
  simp only [zlooks, hb, ha]
  rw [zix_n (by omega)]
theorem zlooks_b {M : zM} {d : Nat} (hb : zbest M d 9 = none) (h : M 17 d = M 0 0) : zlooks M d = zst M 18 d 3 := by
  simp only [zlooks, hb]
  rw [if_pos h]
theorem zlooks_n {M : zM} {d : Nat} (hb : zbest M d 9 = none) (h : ¬ M 17 d = M 0 0) : zlooks M d = zaskAll (zst M 17 d (M 17 d + 1)) d := by
  simp only [zlooks, hb]
  rw [if_neg h]
-- a letter that is sent doesn't lie at place 300
theorem zsend_300 {M : zM} {w r p d n lo hi : Int32} (h : zLt M) {q : Nat} (hq : q ≠ 0) : zsend M w r p d n lo hi q 300 = M q 300 := by
  obtain ⟨k, h1, h2⟩ := h
  by_cases hk : k = 300
  · rw [zsend_full (by rw [h2, hk]; rfl)]
  · have hz : zix (M 0 1) = k := by rw [h2]; exact zix_n (by omega)
    have h3 : ∀ (N : zM) (k' : Nat) (v : Int32), zst N k' k v q 300 = N q 300 := by
      intro N k' v
      rw [zst_e, if_neg (by omega)]
    unfold zsend
    rw [if_neg (by rw [h2, zn_eq300 h1]; exact hk), hz, zst_e, if_neg (by omega)]
    simp only [h3]
-- taking a letter out
theorem zcopy_k {M : zM} {a b q : Nat} (h : q < 31 ∨ 38 < q) : zcopy M a b q = M q := by
  unfold zcopy
  rw [zst_k (by omega), zst_k (by omega), zst_k (by omega), zst_k (by omega), zst_k (by omega), zst_k (by omega), zst_k (by omega), zst_k (by omega)]
theorem zcopy_r {M : zM} {a b q : Nat} (h : 31 ≤ q ∧ q ≤ 38) (j : Nat) : zcopy M a b q j = if j = b then M q a else M q j := by
  unfold zcopy
  simp only [zst_e]
  have h2 : q = 31 ∨ q = 32 ∨ q = 33 ∨ q = 34 ∨ q = 35 ∨ q = 36 ∨ q = 37 ∨ q = 38 := by omega
  rcases h2 with rfl | rfl | rfl | rfl | rfl | rfl | rfl | rfl <;> simp
theorem zn_sub1 {n : Nat} (h : 0 < n) : nI n - 1 = nI (n - 1) := by
  obtain ⟨k, rfl⟩ : ∃ k, n = k + 1 := ⟨n - 1, by omega⟩
  rw [nI_pred]
  rfl
theorem zsh_0 {M : zM} {i n : Nat} (hn : M 0 1 = nI n) (h1 : n ≤ 300) (hi : i < n) : zst (zcopy M i 300) 0 1 (M 0 1 - 1) = zsh M i i n := by
  funext q j
  unfold zsh
  rw [zst_e]
  by_cases hq : 31 ≤ q ∧ q ≤ 38
  · rw [if_pos hq, if_neg (by omega), zcopy_r hq]
    by_cases hj : j = 300
    · rw [if_pos hj, if_pos hj]
    · rw [if_neg hj, if_neg hj, if_neg (by omega)]
  · rw [if_neg hq]
    by_cases h0 : q = 0 ∧ j = 1
    · rw [if_pos h0, if_pos h0, hn, zn_sub1 (by omega)]
    · rw [if_neg h0, if_neg h0, zcopy_k (by omega)]
theorem zsh_s {M : zM} {i k n : Nat} (h1 : n ≤ 300) (hi : i ≤ k) (hk : k < n - 1) : zcopy (zsh M i k n) (k + 1) k = zsh M i (k + 1) n := by
  funext q j
  by_cases hq : 31 ≤ q ∧ q ≤ 38
  · rw [zcopy_r hq]
    unfold zsh
    simp only [if_pos hq]
    by_cases hj : j = k
    · subst hj
      rw [if_pos rfl, if_neg (by omega), if_neg (by omega), if_neg (by omega), if_pos (by omega)]
    · rw [if_neg hj]
      by_cases h3 : j = 300
      · rw [if_pos h3, if_pos h3]
      · rw [if_neg h3, if_neg h3]
        by_cases h4 : i ≤ j ∧ j < k
        · rw [if_pos h4, if_pos (by omega)]
        · rw [if_neg h4, if_neg (by omega)]
  · rw [zcopy_k (by omega)]
    unfold zsh
    rw [if_neg hq, if_neg hq]
theorem zsend_le {M : zM} {w r p d n lo hi : Int32} (h : zLt M) (hle : zsend M w r p d n lo hi 0 1 ≤ M 0 1) : M 0 1 = 300 := by
  by_cases hf : M 0 1 = 300
  · exact hf
  · obtain ⟨k, h1, h2⟩ := h
    rw [zsend_01 hf, h2, nI_1] at hle
    exact absurd hle (nI_ge (by omega) (by omega))
theorem zalarmAt_m {M : zM} {h k : Nat} (hk : zalarmAt M h (k + 1) = true) : ∀ n, zalarmAt M h (k + 1 + n) = true := by
  intro n
  induction n with
  | zero => exact hk
  | succ n ih =>
    show (zalarmAt M h (k + 1 + n) || _) = true
    rw [ih, Bool.true_or]
theorem zalarmAt_4 {M : zM} {h k : Nat} (hk : zalarmAt M h (k + 1) = true) (h4 : k < 4) : zalarmAt M h 4 = true := by
  have := zalarmAt_m hk (4 - (k + 1))
  rw [show k + 1 + (4 - (k + 1)) = 4 by omega] at this
  exact this
theorem zanswer_t {M : zM} {d p b : Nat} (h : M 20 b < M 23 (4 * d + p)) : zst (zst (zst (zst (zst (zst (zst (zst (zst M 18 d 2) 26 d 1) 27 (4 * d) (nI p)) 27 (4 * d + 1) (M 23 (4 * d + p))) 27 (4 * d + 2) (M 24 (4 * d + p))) 27 (4 * d + 3) (M 25 (4 * d + p))) 28 p 1) 29 p (M 24 (4 * d + p))) 30 p (M 25 (4 * d + p)) = zanswer M d p b := by
  have e : zknow M d p b = M := by unfold zknow; rw [if_pos h]
  unfold zanswer
  rw [e]
theorem zanswer_f {M : zM} {d p b : Nat} (h : ¬ M 20 b < M 23 (4 * d + p)) : zst (zst (zst (zst (zst (zst (zst (zst (zst (zst (zst (zst M 23 (4 * d + p) (M 20 b)) 24 (4 * d + p) (M 21 b)) 25 (4 * d + p) (M 22 b)) 18 d 2) 26 d 1) 27 (4 * d) (nI p)) 27 (4 * d + 1) ((zst M 23 (4 * d + p) (M 20 b)) 23 (4 * d + p))) 27 (4 * d + 2) ((zst (zst M 23 (4 * d + p) (M 20 b)) 24 (4 * d + p) (M 21 b)) 24 (4 * d + p))) 27 (4 * d + 3) ((zst (zst (zst M 23 (4 * d + p) (M 20 b)) 24 (4 * d + p) (M 21 b)) 25 (4 * d + p) (M 22 b)) 25 (4 * d + p))) 28 p 1) 29 p ((zst (zst M 23 (4 * d + p) (M 20 b)) 24 (4 * d + p) (M 21 b)) 24 (4 * d + p))) 30 p ((zst (zst (zst M 23 (4 * d + p) (M 20 b)) 24 (4 * d + p) (M 21 b)) 25 (4 * d + p) (M 22 b)) 25 (4 * d + p)) = zanswer M d p b := by
  have e : zknow M d p b = zst (zst (zst M 23 (4 * d + p) (M 20 b)) 24 (4 * d + p) (M 21 b)) 25 (4 * d + p) (M 22 b) := by unfold zknow; rw [if_neg h]
  unfold zanswer
  rw [e]
  rfl
