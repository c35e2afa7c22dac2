-- the reference's memory: row k, place i; row 0: 0 rounds, 1 letters; rows 1 to 38 its arrays in their order
abbrev zM : Type := Nat → Nat → Int32
def zst (M : zM) (k i : Nat) (v : Int32) : zM := va_up M k (upd (M k) i v)
theorem zst_k {M : zM} {k i k' : Nat} {v : Int32} (h : k' ≠ k) : zst M k i v k' = M k' := by simp [zst, va_up, h]
theorem zst_s (M : zM) (k i : Nat) (v : Int32) : zst M k i v k i = v := by simp [zst, va_up, upd]
theorem zst_i {M : zM} {k i j : Nat} {v : Int32} (h : j ≠ i) : zst M k i v k j = M k j := by simp [zst, va_up, upd, h]
theorem zst_r (M : zM) (k i : Nat) (v : Int32) : zst M k i v k = upd (M k) i v := by simp [zst, va_up]
theorem zst_e (M : zM) (k i : Nat) (v : Int32) (k' j : Nat) : zst M k i v k' j = if k' = k ∧ j = i then v else M k' j := by
  by_cases h : k' = k
  · subst h
    by_cases h2 : j = i
    · subst h2; simp [zst_s]
    · simp [zst_i h2, h2]
  · simp [zst_k h, h]
-- numbers
theorem zn_ge {x : Int32} : ¬ x < 0 ↔ 0 ≤ x := Int32.not_lt
abbrev zbl (x e : Int32) : Prop := ¬ x < 0 ∧ ¬ e ≤ x
def zb (p : Prop) [Decidable p] : Int32 := if p then 1 else 0
theorem zb_t {p : Prop} [Decidable p] (h : p) : zb p = 1 := by simp [zb, h]
theorem zb_f {p : Prop} [Decidable p] (h : ¬ p) : zb p = 0 := by simp [zb, h]
def zix (x : Int32) : Nat := x.toNatClampNeg
theorem zix_n {j : Nat} (h : j < 2 ^ 31) : zix (nI j) = j := nI_clamp h
theorem zbl_n {j n : Nat} (h : j < n) (hn : n < 2 ^ 31) : zbl (nI j) (nI n) := ⟨nI_pos (by omega), nI_ge h hn⟩
theorem zbl_of {x : Int32} {n : Nat} (hn : n < 2 ^ 31) (h : zbl x (nI n)) : ∃ j : Nat, j < n ∧ x = nI j := by
  rcases pk_ix x hn with h1 | h1 | h1
  · exact absurd h1 h.1
  · exact absurd h1 h.2
  · exact h1
-- counting
def zcn (f : Nat → Bool) : Nat → Nat
  | 0 => 0
  | n + 1 => zcn f n + (if f n then 1 else 0)
theorem zcn_le (f : Nat → Bool) (n : Nat) : zcn f n ≤ n := by
  induction n with
  | zero => simp [zcn]
  | succ n ih => simp only [zcn]; split <;> omega
theorem zcn_congr {f g : Nat → Bool} {n : Nat} (h : ∀ j, j < n → f j = g j) : zcn f n = zcn g n := by
  induction n with
  | zero => rfl
  | succ n ih => simp only [zcn]; rw [ih (fun j hj => h j (by omega)), h n (by omega)]
-- what the reference does, call by call
def zsend (M : zM) (w r p d n lo hi : Int32) : zM :=
  if M 0 1 = 300 then M else
    zst (zst (zst (zst (zst (zst (zst (zst (zst M 31 (zix (M 0 1)) w) 32 (zix (M 0 1)) r) 33 (zix (M 0 1)) p) 34 (zix (M 0 1)) d) 35 (zix (M 0 1)) n) 36 (zix (M 0 1)) n) 37 (zix (M 0 1)) lo) 38 (zix (M 0 1)) hi) 0 1 (M 0 1 + 1)
def zsendTell (M : zM) (r p d q n lo hi : Int32) : zM :=
  if M 0 1 = 300 then M else zst (zsend M 4 r p d q lo hi) 36 (zix (M 0 1)) n
def zcopy (M : zM) (a b : Nat) : zM :=
  zst (zst (zst (zst (zst (zst (zst (zst M 31 b (M 31 a)) 32 b (M 32 a)) 33 b (M 33 a)) 34 b (M 34 a)) 35 b (M 35 a)) 36 b (M 36 a)) 37 b (M 37 a)) 38 b (M 38 a)
-- after the letters from i on have moved down as far as k
def zsh (M : zM) (i k n : Nat) : zM := fun q j =>
  if 31 ≤ q ∧ q ≤ 38 then (if j = 300 then M q i else if i ≤ j ∧ j < k then M q (j + 1) else M q j)
  else if q = 0 ∧ j = 1 then nI (n - 1) else M q j
def ztake (M : zM) (i n : Nat) : zM := zsh M i (n - 1) n
def zstoreTo (M : zM) (p : Nat) (r : Int32) : zM := zsend M 1 r (nI p) (-1) (M 9 p) (M 10 p) (M 11 p)
def zwl (p : Nat) (M : zM) : Nat → zM
  | 0 => M
  | r + 1 => zstoreTo (zst (zwl p M r) 14 (9 * p + r) 0) p (nI r)
def zwrite (M : zM) (p : Nat) (lo hi : Int32) : zM := zwl p (zst (zst (zst (zst M 9 p (M 9 p + 1)) 10 p lo) 11 p hi) 12 p 1) 9
def zsal (p : Nat) (M : zM) : Nat → zM × Nat
  | 0 => (M, 0)
  | r + 1 => if (zsal p M r).1 14 (9 * p + r) = 0 then (zstoreTo (zsal p M r).1 p (nI r), (zsal p M r).2 + 1) else zsal p M r
def zrcs (M : zM) (p : Nat) : Nat := zcn (fun r => decide (¬ M 14 (9 * p + r) = 0)) 9
def zrcComes (M : zM) (p r : Nat) (n : Int32) : zM :=
  if M 12 p = 0 ∨ ¬ M 9 p = n then M
  else if zrcs (zst M 14 (9 * p + r) 1) p < 7 then zst M 14 (9 * p + r) 1
  else zst (zst (zst M 14 (9 * p + r) 1) 12 p 0) 13 p n
def zfgl (p : Nat) (M : zM) : Nat → zM
  | 0 => M
  | r + 1 => zst (zfgl p M r) 14 (9 * p + r) 0
def zaskl (d : Nat) (M : zM) : Nat → zM
  | 0 => M
  | r + 1 => zsend (zst (zaskl d M r) 19 (9 * d + r) 0) 3 (nI r) (zaskl d M r 16 d) (nI d) (zaskl d M r 15 d) 0 0
def zaskAll (M : zM) (d : Nat) : zM := zaskl d (zst M 15 d (M 15 d + 1)) 9
def zread (M : zM) (d : Nat) (p : Int32) : zM := zaskAll (zst (zst (zst M 18 d 1) 17 d 1) 16 d p) d
def zaal (d : Nat) (M : zM) : Nat → zM × Nat
  | 0 => (M, 0)
  | r + 1 => if (zaal d M r).1 19 (9 * d + r) = 0 then (zsend (zaal d M r).1 3 (nI r) ((zaal d M r).1 16 d) (nI d) ((zaal d M r).1 15 d) 0 0, (zaal d M r).2 + 1) else zaal d M r
def zans (M : zM) (d : Nat) : Nat := zcn (fun r => decide (¬ M 19 (9 * d + r) = 0)) 9
abbrev zsame (M : zM) (a b : Nat) : Prop := M 20 a = M 20 b ∧ M 21 a = M 21 b ∧ M 22 a = M 22 b
def zalk (M : zM) (d r : Nat) (n : Nat) : Nat := zcn (fun s => decide (¬ M 19 (9 * d + s) = 0 ∧ zsame M (9 * d + r) (9 * d + s))) n
abbrev zbel (M : zM) (d r : Nat) : Prop := ¬ M 19 (9 * d + r) = 0 ∧ 3 ≤ zalk M d r 9
def zbet (M : zM) (a b : Nat) : Bool :=
  if ¬ M 20 a = M 20 b then decide (M 20 b < M 20 a) else if ¬ M 21 a = M 21 b then decide (M 21 a < M 21 b) else decide (M 22 a < M 22 b)
def zbest (M : zM) (d : Nat) : Nat → Option Nat
  | 0 => none
  | r + 1 => match zbest M d r with
    | none => if zbel M d r then some r else none
    | some b => if zbel M d r ∧ zbet M (9 * d + r) (9 * d + b) = true then some r else some b
def zknow (M : zM) (d p b : Nat) : zM :=
  if M 20 b < M 23 (4 * d + p) then M else zst (zst (zst M 23 (4 * d + p) (M 20 b)) 24 (4 * d + p) (M 21 b)) 25 (4 * d + p) (M 22 b)
def zanswer (M : zM) (d p b : Nat) : zM :=
  zst (zst (zst (zst (zst (zst (zst (zst (zst (zknow M d p b) 18 d 2) 26 d 1) 27 (4 * d) (nI p)) 27 (4 * d + 1) (zknow M d p b 23 (4 * d + p))) 27 (4 * d + 2) (zknow M d p b 24 (4 * d + p))) 27 (4 * d + 3) (zknow M d p b 25 (4 * d + p))) 28 p 1) 29 p (zknow M d p b 24 (4 * d + p))) 30 p (zknow M d p b 25 (4 * d + p))
def zlooks (M : zM) (d : Nat) : zM := match zbest M d 9 with
  | some b => zanswer M d (zix (M 16 d)) (9 * d + b)
  | none => if M 17 d = M 0 0 then zst M 18 d 3 else zaskAll (zst M 17 d (M 17 d + 1)) d
-- a letter that comes lies at place 300
def ztellComes (M : zM) (d r : Nat) : zM :=
  if ¬ M 18 d = 1 ∨ ¬ M 35 300 = M 15 d ∨ ¬ M 19 (9 * d + r) = 0 then M
  else
    let N := zst (zst (zst (zst M 19 (9 * d + r) 1) 20 (9 * d + r) (M 36 300)) 21 (9 * d + r) (M 37 300)) 22 (9 * d + r) (M 38 300)
    if zans N d = 7 then zlooks N d else N
def zstoreComes (M : zM) (k : Nat) : zM :=
  let N := if M 6 k < M 35 300 then zst (zst (zst M 6 k (M 35 300)) 7 k (M 37 300)) 8 k (M 38 300) else M
  zsend N 2 (M 32 300) (M 33 300) (-1) (M 35 300) 0 0
abbrev zdeaf (M : zM) (r : Nat) : Prop := ¬ M 4 r = 0 ∨ ¬ M 5 r = 0
def zcomes (M : zM) : zM :=
  let r := zix (M 32 300)
  let p := zix (M 33 300)
  if M 31 300 = 1 then (if zdeaf M r then M else zstoreComes M (4 * r + p))
  else if M 31 300 = 2 then zrcComes M p r (M 35 300)
  else if M 31 300 = 3 then (if zdeaf M r then M else zsendTell M (M 32 300) (M 33 300) (M 34 300) (M 35 300) (M 6 (4 * r + p)) (M 7 (4 * r + p)) (M 8 (4 * r + p)))
  else ztellComes M (zix (M 34 300)) r
def zdeliver (M : zM) (i : Nat) : zM := zcomes (ztake M i (zix (M 0 1)))
-- at most c letters more come, b are wanted
def zdall : Nat → zM → Int32 → Int32 → zM × Int32
  | 0, M, _, k => (M, k)
  | c + 1, M, n, k => if k < n ∧ ¬ M 0 1 = 0 then zdall c (zdeliver M 0) n (k + 1) else (M, k)
def zliars (M : zM) : Nat := zcn (fun r => decide (¬ M 5 r = 0)) 9
def zalarmAt (M : zM) (h : Nat) : Nat → Bool
  | 0 => false
  | p + 1 => zalarmAt M h p || decide (¬ M 2 h = 0 ∧ ¬ M 28 p = 0 ∧ M 1 p = nI h ∧ (M 3 h < M 29 p ∨ M 30 p < M 3 h))
def zalarm (M : zM) (i : Int32) : Nat → Int32 → Nat → Int32
  | 0, _, _ => -1
  | c + 1, n, h => if zalarmAt M h 4 then (if n = i then nI h else zalarm M i c (n + 1) (h + 1)) else zalarm M i c n (h + 1)
-- a letter's weight, and what a run of deliveries can't pass
def zwt (k : Int32) : Nat := if k = 1 ∨ k = 3 then 2 else 1
def zsum (f : Nat → Nat) : Nat → Nat
  | 0 => 0
  | n + 1 => zsum f n + f n
def zmu (M : zM) : Nat := zsum (fun i => zwt (M 31 i)) (zix (M 0 1)) + zsum (fun d => if M 18 d = 1 then 18 * (zix (M 0 0) - zix (M 17 d)) else 0) 3
-- the calls: answer and memory behind it
def zf_hall (_ : zM) (p h : Int32) : Int32 := zb (zbl p 4 ∧ zbl h 3)
def zg_hall (M : zM) (p h : Int32) : zM := if zbl p 4 ∧ zbl h 3 then zst M 1 (zix p) h else M
abbrev zo_write (M : zM) (p lo hi : Int32) : Prop := zbl p 4 ∧ M 12 (zix p) = 0 ∧ lo ≤ hi
def zf_write (M : zM) (p lo hi : Int32) : Int32 := if zo_write M p lo hi then zwrite M (zix p) lo hi 9 (zix p) else -1
def zg_write (M : zM) (p lo hi : Int32) : zM := if zo_write M p lo hi then zwrite M (zix p) lo hi else M
abbrev zo_read (M : zM) (d p : Int32) : Prop := zbl d 3 ∧ zbl p 4 ∧ ¬ M 18 (zix d) = 1
def zf_read (M : zM) (d p : Int32) : Int32 := if zo_read M d p then zread M (zix d) p 15 (zix d) else -1
def zg_read (M : zM) (d p : Int32) : zM := if zo_read M d p then zread M (zix d) p else M
abbrev zo_storeAgain (M : zM) (p : Int32) : Prop := zbl p 4 ∧ ¬ M 12 (zix p) = 0
def zf_storeAgain (M : zM) (p : Int32) : Int32 := if zo_storeAgain M p then nI (zsal (zix p) M 9).2 else -1
def zg_storeAgain (M : zM) (p : Int32) : zM := if zo_storeAgain M p then (zsal (zix p) M 9).1 else M
abbrev zo_askAgain (M : zM) (d : Int32) : Prop := zbl d 3 ∧ M 18 (zix d) = 1
def zf_askAgain (M : zM) (d : Int32) : Int32 := if zo_askAgain M d then nI (zaal (zix d) M 9).2 else -1
def zg_askAgain (M : zM) (d : Int32) : zM := if zo_askAgain M d then (zaal (zix d) M 9).1 else M
def zf_letter (M : zM) (i w : Int32) : Int32 := if zbl i (M 0 1) then (if w = 0 then M 31 (zix i) else if w = 1 then M 32 (zix i) else if w = 2 then M 33 (zix i) else if w = 3 then M 34 (zix i) else if w = 4 then M 35 (zix i) else -1) else -1
def zf_deliver (M : zM) (i : Int32) : Int32 := zb (zbl i (M 0 1))
def zg_deliver (M : zM) (i : Int32) : zM := if zbl i (M 0 1) then zdeliver M (zix i) else M
def zf_deliverAll (M : zM) (n : Int32) : Int32 := (zdall (zmu M) M n 0).2
def zg_deliverAll (M : zM) (n : Int32) : zM := (zdall (zmu M) M n 0).1
def zg_take (M : zM) (i : Int32) : zM := if zbl i (M 0 1) then ztake M (zix i) (zix (M 0 1)) else M
abbrev zo_twin (M : zM) (i : Int32) : Prop := zbl i (M 0 1) ∧ ¬ M 0 1 = 300
def zf_twin (M : zM) (i : Int32) : Int32 := zb (zo_twin M i)
def zg_twin (M : zM) (i : Int32) : zM := if zo_twin M i then zst (zcopy M (zix i) (zix (M 0 1))) 0 1 (M 0 1 + 1) else M
abbrev zo_lie (M : zM) (r : Int32) : Prop := zbl r 9 ∧ M 5 (zix r) = 0 ∧ ¬ zliars M = 2
def zf_lie (M : zM) (r : Int32) : Int32 := zb (zo_lie M r)
def zg_lie (M : zM) (r : Int32) : zM := if zo_lie M r then zst M 5 (zix r) 1 else M
abbrev zlies (M : zM) (r : Int32) : Prop := zbl r 9 ∧ ¬ M 5 (zix r) = 0 ∧ M 4 (zix r) = 0
abbrev zo_tell (M : zM) (r d n lo hi : Int32) : Prop := zlies M r ∧ zbl d 3 ∧ M 18 (zix d) = 1 ∧ ¬ n < 0 ∧ lo ≤ hi
def zf_tell (M : zM) (r d n lo hi : Int32) : Int32 := zb (zo_tell M r d n lo hi)
def zg_tell (M : zM) (r d n lo hi : Int32) : zM := if zo_tell M r d n lo hi then zsendTell M r (M 16 (zix d)) d (M 15 (zix d)) n lo hi else M
abbrev zo_receipt (M : zM) (r p : Int32) : Prop := zlies M r ∧ zbl p 4 ∧ ¬ M 9 (zix p) = 0
def zf_receipt (M : zM) (r p : Int32) : Int32 := zb (zo_receipt M r p)
def zg_receipt (M : zM) (r p : Int32) : zM := if zo_receipt M r p then zsend M 2 r p (-1) (M 9 (zix p)) 0 0 else M
abbrev zo_crash (M : zM) (r : Int32) : Prop := zbl r 9 ∧ M 4 (zix r) = 0
def zf_crash (M : zM) (r : Int32) : Int32 := zb (zo_crash M r)
def zg_crash (M : zM) (r : Int32) : zM := if zo_crash M r then zst M 4 (zix r) 1 else M
abbrev zo_restart (M : zM) (r : Int32) : Prop := zbl r 9 ∧ ¬ M 4 (zix r) = 0
def zf_restart (M : zM) (r : Int32) : Int32 := zb (zo_restart M r)
def zg_restart (M : zM) (r : Int32) : zM := if zo_restart M r then zst M 4 (zix r) 0 else M
def zf_forget (_ : zM) (p : Int32) : Int32 := zb (zbl p 4)
def zg_forget (M : zM) (p : Int32) : zM := if zbl p 4 then zfgl (zix p) M 9 else M
def zf_outcome (M : zM) (d : Int32) : Int32 := if zbl d 3 then M 18 (zix d) else -1
def zf_answered (M : zM) (d f : Int32) : Int32 := if zbl d 3 ∧ ¬ M 26 (zix d) = 0 ∧ zbl f 4 then M 27 (4 * zix d + zix f) else -1
def zf_reader (M : zM) (d w : Int32) : Int32 := if zbl d 3 ∧ zbl w 3 then (if w = 0 then M 15 (zix d) else if ¬ M 18 (zix d) = 1 then 0 else if w = 1 then M 17 (zix d) else nI (zans M (zix d))) else -1
def zf_writer (M : zM) (p w : Int32) : Int32 := if zbl p 4 then (if w = 0 then M 9 (zix p) else if w = 1 then zb (¬ M 12 (zix p) = 0) else if w = 2 then nI (zrcs M (zix p)) else if w = 3 then M 13 (zix p) else -1) else -1
def zf_held (M : zM) (r p f : Int32) : Int32 := if zbl r 9 ∧ zbl p 4 then (if f = 0 then M 6 (4 * zix r + zix p) else if f = 1 then M 7 (4 * zix r + zix p) else if f = 2 then M 8 (4 * zix r + zix p) else -1) else -1
def zf_measured (_ : zM) (h _ : Int32) : Int32 := zb (zbl h 3)
def zg_measured (M : zM) (h x : Int32) : zM := if zbl h 3 then zst (zst M 2 (zix h) 1) 3 (zix h) x else M
def zf_alarm (M : zM) (i : Int32) : Int32 := zalarm M i 3 0 0
theorem zb_0 {p : Prop} [Decidable p] (h : zb p = 0) : ¬ p := fun hp => by rw [zb_t hp] at h; exact absurd h (by decide)
theorem zb_1 {p : Prop} [Decidable p] (h : ¬ zb p = 0) : p := by
  by_cases hp : p
  · exact hp
  · exact absurd (zb_f hp) h
theorem zb_n (p : Prop) [Decidable p] : narrow .boolean (.int (zb p)) = .int (zb p) := by
  unfold zb
  split <;> rfl
theorem zn_m9 (w : Nat) : (9 : Int32) * nI w = nI (9 * w) := pk_mul 9 w
theorem zn_m4 (w : Nat) : (4 : Int32) * nI w = nI (4 * w) := pk_mul 4 w
theorem zn_a9 (w r : Nat) : (9 : Int32) * nI w + nI r = nI (9 * w + r) := by rw [zn_m9, nI_add]
theorem zn_a4 (w r : Nat) : (4 : Int32) * nI w + nI r = nI (4 * w + r) := by rw [zn_m4, nI_add]
theorem zn_b4_1 (w : Nat) : (4 : Int32) * nI w + 1 = nI (4 * w + 1) := zn_a4 w 1
theorem zn_b4_2 (w : Nat) : (4 : Int32) * nI w + 2 = nI (4 * w + 2) := zn_a4 w 2
theorem zn_b4_3 (w : Nat) : (4 : Int32) * nI w + 3 = nI (4 * w + 3) := zn_a4 w 3
-- the number of letters stays within the post
def zLt (M : zM) : Prop := ∃ n : Nat, n ≤ 300 ∧ M 0 1 = nI n
theorem zn_300 : (300 : Int32) = nI 300 := by decide
theorem zn_eq300 {n : Nat} (h : n ≤ 300) : nI n = 300 ↔ n = 300 := by rw [zn_300]; exact nI_eq (by omega) (by decide)
theorem zLt_st {M : zM} {k i : Nat} {v : Int32} (h : zLt M) (hk : 0 ≠ k) : zLt (zst M k i v) := by
  obtain ⟨n, h1, h2⟩ := h
  exact ⟨n, h1, by rw [zst_k hk]; exact h2⟩
theorem zsend_full {M : zM} {w r p d n lo hi : Int32} (h : M 0 1 = 300) : zsend M w r p d n lo hi = M := by simp [zsend, h]
theorem zsend_k {M : zM} {w r p d n lo hi : Int32} {k : Nat} (h0 : k ≠ 0) (h : k < 31 ∨ 38 < k) : zsend M w r p d n lo hi k = M k := by
  unfold zsend
  split
  · rfl
  · rw [zst_k h0, zst_k (by omega), zst_k (by omega), zst_k (by omega), zst_k (by omega), zst_k (by omega), zst_k (by omega), zst_k (by omega), zst_k (by omega)]
theorem zsend_01 {M : zM} {w r p d n lo hi : Int32} (h : ¬ M 0 1 = 300) : zsend M w r p d n lo hi 0 1 = M 0 1 + 1 := by
  unfold zsend
  rw [if_neg h, zst_s]
theorem zsend_00 {M : zM} {w r p d n lo hi : Int32} : zsend M w r p d n lo hi 0 0 = M 0 0 := by
  unfold zsend
  split
  · rfl
  · rw [zst_i (by decide), zst_k (by decide), zst_k (by decide), zst_k (by decide), zst_k (by decide), zst_k (by decide), zst_k (by decide), zst_k (by decide), zst_k (by decide)]
theorem zLt_send {M : zM} {w r p d n lo hi : Int32} (h : zLt M) : zLt (zsend M w r p d n lo hi) := by
  obtain ⟨k, h1, h2⟩ := h
  by_cases hk : k = 300
  · rw [zsend_full (by rw [h2, hk]; rfl)]
    exact ⟨k, h1, h2⟩
  · refine ⟨k + 1, by omega, ?_⟩
    rw [zsend_01 (by rw [h2, zn_eq300 h1]; exact hk), h2, nI_1]
theorem zLt_storeTo {M : zM} {p : Nat} {r : Int32} (h : zLt M) : zLt (zstoreTo M p r) := zLt_send h
theorem zLt_wl {p : Nat} {M : zM} (h : zLt M) (r : Nat) : zLt (zwl p M r) := by
  induction r with
  | zero => exact h
  | succ r ih => exact zLt_storeTo (zLt_st ih (by decide))
theorem zLt_sal {p : Nat} {M : zM} (h : zLt M) (r : Nat) : zLt (zsal p M r).1 := by
  induction r with
  | zero => exact h
  | succ r ih =>
    unfold zsal
    split
    · exact zLt_storeTo ih
    · exact ih
theorem zLt_askl {d : Nat} {M : zM} (h : zLt M) (r : Nat) : zLt (zaskl d M r) := by
  induction r with
  | zero => exact h
  | succ r ih => exact zLt_send (zLt_st ih (by decide))
theorem zLt_aal {d : Nat} {M : zM} (h : zLt M) (r : Nat) : zLt (zaal d M r).1 := by
  induction r with
  | zero => exact h
  | succ r ih =>
    unfold zaal
    split
    · exact zLt_send ih
    · exact ih
theorem zstoreTo_k {M : zM} {p : Nat} {r : Int32} {k : Nat} (h0 : k ≠ 0) (h : k < 31 ∨ 38 < k) : zstoreTo M p r k = M k := zsend_k h0 h
theorem zwl_k {p : Nat} {M : zM} {k : Nat} (h0 : k ≠ 0) (h1 : k ≠ 14) (h : k < 31 ∨ 38 < k) (r : Nat) : zwl p M r k = M k := by
  induction r with
  | zero => rfl
  | succ r ih => unfold zwl; rw [zstoreTo_k h0 h, zst_k h1, ih]
theorem zsal_k {p : Nat} {M : zM} {k : Nat} (h0 : k ≠ 0) (h : k < 31 ∨ 38 < k) (r : Nat) : (zsal p M r).1 k = M k := by
  induction r with
  | zero => rfl
  | succ r ih =>
    unfold zsal
    split
    · show zstoreTo (zsal p M r).1 p (nI r) k = M k
      rw [zstoreTo_k h0 h, ih]
    · exact ih
theorem zsal_le {p : Nat} {M : zM} (r : Nat) : (zsal p M r).2 ≤ r := by
  induction r with
  | zero => exact Nat.le_refl _
  | succ r ih =>
    unfold zsal
    split
    · show (zsal p M r).2 + 1 ≤ r + 1
      omega
    · omega
theorem zaskl_k {d : Nat} {M : zM} {k : Nat} (h0 : k ≠ 0) (h1 : k ≠ 19) (h : k < 31 ∨ 38 < k) (r : Nat) : zaskl d M r k = M k := by
  induction r with
  | zero => rfl
  | succ r ih => unfold zaskl; rw [zsend_k h0 h, zst_k h1, ih]
theorem zaal_k {d : Nat} {M : zM} {k : Nat} (h0 : k ≠ 0) (h : k < 31 ∨ 38 < k) (r : Nat) : (zaal d M r).1 k = M k := by
  induction r with
  | zero => rfl
  | succ r ih =>
    unfold zaal
    split
    · show zsend (zaal d M r).1 3 (nI r) ((zaal d M r).1 16 d) (nI d) ((zaal d M r).1 15 d) 0 0 k = M k
      rw [zsend_k h0 h, ih]
    · exact ih
theorem zfgl_k {p : Nat} {M : zM} {k : Nat} (h1 : k ≠ 14) (r : Nat) : zfgl p M r k = M k := by
  induction r with
  | zero => rfl
  | succ r ih => unfold zfgl; rw [zst_k h1, ih]
theorem zsend_n {M : zM} {n : Nat} {w r p d q lo hi : Int32} (hn : M 0 1 = nI n) (h1 : n ≤ 300) (h : ¬ M 0 1 = 300) : zst (zst (zst (zst (zst (zst (zst (zst (zst M 31 n w) 32 n r) 33 n p) 34 n d) 35 n q) 36 n q) 37 n lo) 38 n hi) 0 1 (M 0 1 + 1) = zsend M w r p d q lo hi := by
  have hz : zix (M 0 1) = n := by rw [hn]; exact zix_n (by omega)
  unfold zsend
  rw [if_neg h, hz]
theorem zcn_s {f : Nat → Bool} {k : Nat} (h : f k = true) : zcn f (k + 1) = zcn f k + 1 := by simp [zcn, h]
theorem zcn_f {f : Nat → Bool} {k : Nat} (h : f k = false) : zcn f (k + 1) = zcn f k := by simp [zcn, h]
theorem zsal_s {p r : Nat} {M : zM} (h : (zsal p M r).1 14 (9 * p + r) = 0) : zsal p M (r + 1) = (zstoreTo (zsal p M r).1 p (nI r), (zsal p M r).2 + 1) := by simp [zsal, h]
theorem zsal_n {p r : Nat} {M : zM} (h : ¬ (zsal p M r).1 14 (9 * p + r) = 0) : zsal p M (r + 1) = zsal p M r := by simp [zsal, h]
theorem zaal_s {d r : Nat} {M : zM} (h : (zaal d M r).1 19 (9 * d + r) = 0) : zaal d M (r + 1) = (zsend (zaal d M r).1 3 (nI r) ((zaal d M r).1 16 d) (nI d) ((zaal d M r).1 15 d) 0 0, (zaal d M r).2 + 1) := by simp [zaal, h]
theorem zaal_n {d r : Nat} {M : zM} (h : ¬ (zaal d M r).1 19 (9 * d + r) = 0) : zaal d M (r + 1) = zaal d M r := by simp [zaal, h]
theorem zn_lt7 {n : Nat} (h : n < 2 ^ 31) : (7 : Int32) ≤ nI n ↔ 7 ≤ n := nI_leI (a := 7) (by decide) h
theorem zrcs_le (M : zM) (p : Nat) : zrcs M p ≤ 9 := zcn_le _ 9
theorem zans_le (M : zM) (d : Nat) : zans M d ≤ 9 := zcn_le _ 9
