-- what the class's small methods do to its memory
def zpart (C : zC) (a : Nat) (f : Int32) : Int32 := if f = 0 then C 22 a 0 else if f = 1 then C 23 a 0 else if f = 2 then C 24 a 0 else -1
abbrev zlike (C : zC) (a b : Nat) : Prop := C 22 a 0 = C 22 b 0 ∧ C 23 a 0 = C 23 b 0 ∧ C 24 a 0 = C 24 b 0
def zpref (C : zC) (a b : Nat) : Bool :=
  if ¬ C 22 a 0 = C 22 b 0 then decide (C 22 b 0 < C 22 a 0) else if ¬ C 23 a 0 = C 23 b 0 then decide (C 23 a 0 < C 23 b 0) else decide (C 24 a 0 < C 24 b 0)
def zclr (C : zC) (p : Nat) : Nat → zC
  | 0 => C
  | k + 1 => zs3 (zclr C p k) 3 p k 0
def ztc (A : zA) (d : Nat) : Nat → zA
  | 0 => A
  | k + 1 => zs3 (ztc A d k) 2 d k none
def zA5 (A : zA) (g : Nat → Option Nat) : zA := va_up A 5 (va_up (A 5) 0 g)
def zrow (f : Nat → Option Nat) (i k : Nat) : Nat → Option Nat := fun j => if i ≤ j ∧ j < k then f (j + 1) else f j
theorem zrow_0 (A : zA) (i : Nat) : zA5 A (zrow (A 5 0) i i) = A := by
  have e : zrow (A 5 0) i i = A 5 0 := by
    funext j
    unfold zrow
    rw [if_neg (by omega)]
  unfold zA5
  rw [e]
  funext k o
  by_cases hk : k = 5
  · subst hk
    rw [va_up_self]
    by_cases ho : o = 0
    · subst ho; rw [va_up_self]
    · rw [va_up_ne _ _ ho]
  · rw [va_up_ne _ _ hk]
theorem zA5_50 (A : zA) (g : Nat → Option Nat) : zA5 A g 5 0 = g := by simp [zA5, va_up]
theorem zs3_A5 (A : zA) (g : Nat → Option Nat) (j : Nat) (v : Option Nat) : zs3 (zA5 A g) 5 0 j v = zA5 A (va_up g j v) := by
  unfold zs3 zA5
  funext k o i
  by_cases hk : k = 5
  · subst hk
    simp [va_up]
    split <;> rfl
  · simp [va_up, hk]
theorem zrow_s (f : Nat → Option Nat) (i k : Nat) (h : i ≤ k) : va_up (zrow f i k) k (f (k + 1)) = zrow f i (k + 1) := by
  funext j
  by_cases hj : j = k
  · subst hj
    rw [va_up_self]
    unfold zrow
    rw [if_pos (by omega)]
  · rw [va_up_ne _ _ hj]
    unfold zrow
    by_cases h2 : i ≤ j ∧ j < k
    · rw [if_pos h2, if_pos (by omega)]
    · rw [if_neg h2, if_neg (by omega)]
theorem z_tsw {x : Int32} {n : Nat} (hn : n < 2 ^ 31) (h : ∀ k : Nat, k ≤ n → ¬ x = nI k) : x.toInt < 0 ∨ (n : Int) < x.toInt := by
  by_cases h0 : x < 0
  · exact Or.inl (by have := Int32.lt_iff_toInt_lt.mp h0; simpa using this)
  · obtain ⟨j, hj, rfl⟩ := nI_of h0
    right
    rw [nI_toInt hj]
    rcases Nat.lt_or_ge n j with q | q
    · exact_mod_cast q
    · exact absurd rfl (h j q)
def zhearC (C : zC) (p r a : Nat) (n : Int32) : zC :=
  if C 5 p 0 = 0 ∨ ¬ n = C 22 a 0 ∨ ¬ C 3 p r = 0 then C
  else if C 4 p 0 + 1 < 7 then zs3 (zs3 C 3 p r 1) 4 p 0 (C 4 p 0 + 1)
  else zs3 (zs3 (zs3 (zs3 C 3 p r 1) 4 p 0 (C 4 p 0 + 1)) 5 p 0 0) 6 p 0 n
def zroundC (C : zC) (d : Nat) (x : Int32) : zC := zs3 (zs3 (zs3 C 10 d 0 x) 9 d 0 (C 9 d 0 + 1)) 7 d 0 0
def zhearsD (C : zC) (A : zA) (d r : Nat) (q : Int32) : Prop := C 8 d 0 = 1 ∧ q = C 9 d 0 ∧ A 2 d r = none
def zalkC (C : zC) (A : zA) (d a : Nat) : Nat → Nat
  | 0 => 0
  | k + 1 => match A 2 d k with
    | none => zalkC C A d a k
    | some b => if zlike C b a then zalkC C A d a k + 1 else zalkC C A d a k
def zbestC (C : zC) (A : zA) (d : Nat) : Nat → Option Nat
  | 0 => none
  | k + 1 => match A 2 d k with
    | none => zbestC C A d k
    | some a => if 3 ≤ zalkC C A d a 9 then (match zbestC C A d k with
      | none => some a
      | some b => if zpref C a b = true then some a else some b) else zbestC C A d k
theorem zalkC_n {C : zC} {A : zA} {d a k : Nat} (h : A 2 d k = none) : zalkC C A d a (k + 1) = zalkC C A d a k := by simp [zalkC, h]
theorem zalkC_t {C : zC} {A : zA} {d a k b : Nat} (h : A 2 d k = some b) (h2 : zlike C b a) : zalkC C A d a (k + 1) = zalkC C A d a k + 1 := by
  simp only [zalkC, h]
  rw [if_pos h2]
theorem zalkC_f {C : zC} {A : zA} {d a k b : Nat} (h : A 2 d k = some b) (h2 : ¬ zlike C b a) : zalkC C A d a (k + 1) = zalkC C A d a k := by
  simp only [zalkC, h]
  rw [if_neg h2]
theorem zalkC_le (C : zC) (A : zA) (d a k : Nat) : zalkC C A d a k ≤ k := by
  induction k with
  | zero => exact Nat.le_refl _
  | succ k ih =>
    unfold zalkC
    split
    · omega
    · split <;> omega
theorem zbestC_n {C : zC} {A : zA} {d k : Nat} (h : A 2 d k = none) : zbestC C A d (k + 1) = zbestC C A d k := by simp [zbestC, h]
theorem zbestC_f {C : zC} {A : zA} {d k a : Nat} (h : A 2 d k = some a) (h2 : ¬ 3 ≤ zalkC C A d a 9) : zbestC C A d (k + 1) = zbestC C A d k := by
  simp only [zbestC, h]
  rw [if_neg h2]
theorem zbestC_0 {C : zC} {A : zA} {d k a : Nat} (h : A 2 d k = some a) (h2 : 3 ≤ zalkC C A d a 9) (h3 : zbestC C A d k = none) : zbestC C A d (k + 1) = some a := by
  simp only [zbestC, h, h3]
  rw [if_pos h2]
theorem zbestC_t {C : zC} {A : zA} {d k a b : Nat} (h : A 2 d k = some a) (h2 : 3 ≤ zalkC C A d a 9) (h3 : zbestC C A d k = some b) (h4 : zpref C a b = true) : zbestC C A d (k + 1) = some a := by
  simp only [zbestC, h, h3]
  rw [if_pos h2, if_pos h4]
theorem zbestC_k {C : zC} {A : zA} {d k a b : Nat} (h : A 2 d k = some a) (h3 : zbestC C A d k = some b) (h4 : ¬ zpref C a b = true) : zbestC C A d (k + 1) = zbestC C A d k := by
  simp only [zbestC, h, h3]
  rw [if_neg h4]
  split <;> rfl
