-- the reference's cells: its object at rb, its array k at rb + k
def zlen : Nat → Nat
  | 1 => 4 | 2 => 3 | 3 => 3 | 4 => 9 | 5 => 9 | 6 => 36 | 7 => 36 | 8 => 36 | 9 => 4 | 10 => 4 | 11 => 4 | 12 => 4 | 13 => 4 | 14 => 36
  | 15 => 3 | 16 => 3 | 17 => 3 | 18 => 3 | 19 => 27 | 20 => 27 | 21 => 27 | 22 => 27 | 23 => 12 | 24 => 12 | 25 => 12 | 26 => 3 | 27 => 12 | 28 => 4 | 29 => 4 | 30 => 4
  | _ => 301
def zbo (k : Nat) : Bool := k == 2 || k == 4 || k == 5 || k == 12 || k == 14 || k == 19 || k == 26 || k == 28
theorem zlen_lt (k : Nat) : zlen k < 2 ^ 31 := by
  unfold zlen
  split <;> decide
def zRF (rb : Nat) (M : zM) : List Value := [.int (M 0 0), .ref (rb + 1), .ref (rb + 2), .ref (rb + 3), .ref (rb + 4), .ref (rb + 5), .ref (rb + 6), .ref (rb + 7), .ref (rb + 8), .ref (rb + 9), .ref (rb + 10), .ref (rb + 11), .ref (rb + 12), .ref (rb + 13), .ref (rb + 14), .ref (rb + 15), .ref (rb + 16), .ref (rb + 17), .ref (rb + 18), .ref (rb + 19), .ref (rb + 20), .ref (rb + 21), .ref (rb + 22), .ref (rb + 23), .ref (rb + 24), .ref (rb + 25), .ref (rb + 26), .ref (rb + 27), .ref (rb + 28), .ref (rb + 29), .ref (rb + 30), .int (M 0 1), .ref (rb + 31), .ref (rb + 32), .ref (rb + 33), .ref (rb + 34), .ref (rb + 35), .ref (rb + 36), .ref (rb + 37), .ref (rb + 38)]
def zRE (ka : Nat → ClassId) (rb : Nat) (M : zM) (a : Nat) : va_E :=
  if a = rb then .inr (zciM, zRF rb M) else if a < rb then .inr (0, []) else .inl (ka (if zbo (a - rb) then 1 else 0), zlen (a - rb), .inl (M (a - rb)))
def zRL (rb : Nat) : List Nat := (List.range 39).map (fun k => rb + k)
def zRA (rb : Nat) : Nat → Prop := fun q => rb ≤ q ∧ q < rb + 39
theorem zRL_in {rb k : Nat} (h : k < 39) : rb + k ∈ zRL rb := List.mem_map.mpr ⟨k, List.mem_range.mpr h, rfl⟩
theorem zRL_0 {rb : Nat} : rb ∈ zRL rb := zRL_in (k := 0) (by decide)
theorem zRE_o (ka : Nat → ClassId) (rb : Nat) (M : zM) : zRE ka rb M rb = .inr (zciM, zRF rb M) := by simp [zRE]
theorem zRE_a (ka : Nat → ClassId) (rb : Nat) (M : zM) {k : Nat} (h : 0 < k) : zRE ka rb M (rb + k) = .inl (ka (if zbo k then 1 else 0), zlen k, .inl (M k)) := by
  unfold zRE
  rw [if_neg (by omega), if_neg (by omega), Nat.add_sub_cancel_left]
theorem zRE_up (ka : Nat → ClassId) (rb : Nat) (M : zM) {k i : Nat} {x : Int32} (h : 0 < k) : va_up (zRE ka rb M) (rb + k) (.inl (ka (if zbo k then 1 else 0), zlen k, .inl (upd (M k) i x))) = zRE ka rb (zst M k i x) := by
  funext a
  by_cases ha : a = rb + k
  · subst ha
    rw [va_up_self, zRE_a _ _ _ h, zst_r]
  · rw [va_up_ne _ _ ha]
    unfold zRE
    split
    · unfold zRF
      rw [zst_k (by omega)]
    · split
      · rfl
      · rw [zst_k (by omega)]
theorem zRE_ul (ka : Nat → ClassId) (rb : Nat) (M : zM) (x : Int32) : va_up (zRE ka rb M) rb (.inr (zciM, (zRF rb M).set 31 (.int x))) = zRE ka rb (zst M 0 1 x) := by
  funext a
  by_cases ha : a = rb
  · subst ha
    rw [va_up_self, zRE_o]
    rfl
  · rw [va_up_ne _ _ ha]
    unfold zRE
    rw [if_neg ha, if_neg ha]
    split
    · rfl
    · rw [zst_k (by omega)]
theorem zR_D (E : Nat → va_E) (rb : Nat) : va_D (zRA rb) (va_pl (zRL rb) E) := by
  refine ⟨fun i j x y hi hj hxy => ?_, fun k q hk => ?_⟩
  · simp only [va_pl, zRL, List.map_map, List.getElem?_map, List.getElem?_range, Option.map_eq_some_iff] at hi hj
    obtain ⟨i', hi1, rfl⟩ := hi
    obtain ⟨j', hj1, rfl⟩ := hj
    have h1 := List.getElem?_eq_some_iff.mp hi1
    have h2 := List.getElem?_eq_some_iff.mp hj1
    simp at h1 h2 hxy
    omega
  · have hm := List.mem_of_getElem? hk
    obtain ⟨a, ha, rfl⟩ := List.mem_map.mp hm
    obtain ⟨k', hk', rfl⟩ := List.mem_map.mp ha
    have := List.mem_range.mp hk'
    exact ⟨by show rb ≤ rb + k'; omega, by show rb + k' < rb + 39; omega⟩
