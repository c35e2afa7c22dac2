-- the class's first memory, and what holds of it
def zC0 (x : Int32) : zC
  | 0, _ => fun _ => x
  | 1, _ => fun _ => 1
  | _, _ => fun _ => 0
def zA0 (cb : Nat) : zA
  | 0, _ => zF (cb + 1) 4
  | 1, _ => fun _ => some (cb + 1)
  | 3, _ => zF (cb + 1) 4
  | 5, _ => zPF (cb + 41) 300
  | _, _ => fun _ => none
theorem zM0_k (x : Int32) {k : Nat} (h : k ≠ 0) : zM0 x k = fun _ => 0 := by
  funext j
  unfold zM0
  rw [if_neg (fun h2 => h h2.1)]
theorem zM0_00 (x : Int32) : zM0 x 0 0 = x := if_pos ⟨rfl, rfl⟩
theorem zM0_01 (x : Int32) : zM0 x 0 1 = 0 := if_neg (by decide)
theorem zF_in {a k j : Nat} (h : j < k) : zF a k j = some a := if_pos h
theorem zRep_0 (cb : Nat) (x : Int32) : zRep cb [] (zC0 x) (zA0 cb) (zM0 x) := by
  unfold zRep
  rw [zM0_k x (k := 1) (by decide), zM0_k x (k := 2) (by decide), zM0_k x (k := 3) (by decide), zM0_k x (k := 4) (by decide), zM0_k x (k := 5) (by decide), zM0_k x (k := 6) (by decide), zM0_k x (k := 7) (by decide), zM0_k x (k := 8) (by decide), zM0_k x (k := 9) (by decide), zM0_k x (k := 10) (by decide), zM0_k x (k := 11) (by decide), zM0_k x (k := 12) (by decide), zM0_k x (k := 13) (by decide), zM0_k x (k := 14) (by decide), zM0_k x (k := 15) (by decide), zM0_k x (k := 16) (by decide), zM0_k x (k := 17) (by decide), zM0_k x (k := 18) (by decide), zM0_k x (k := 19) (by decide), zM0_k x (k := 20) (by decide), zM0_k x (k := 21) (by decide), zM0_k x (k := 22) (by decide), zM0_k x (k := 23) (by decide), zM0_k x (k := 24) (by decide), zM0_k x (k := 25) (by decide), zM0_k x (k := 26) (by decide), zM0_k x (k := 27) (by decide), zM0_k x (k := 28) (by decide), zM0_k x (k := 29) (by decide), zM0_k x (k := 30) (by decide)]
  refine ⟨(zM0_00 x).symm, fun r hr => ⟨?_, rfl, fun p hp => ⟨cb + 1, zF_in hp, Or.inl rfl, rfl, rfl, rfl⟩⟩, fun p hp => ⟨fun r hr => ⟨rfl, Or.inl rfl⟩, ?_, rfl, rfl, cb + 1, rfl, Or.inl rfl, rfl, rfl, rfl⟩, fun d hd => ⟨?_, rfl, rfl, rfl, rfl, rfl, fun r hr => Or.inl ⟨rfl, rfl⟩, fun p hp => ⟨cb + 1, zF_in hp, Or.inl rfl, rfl, rfl, rfl⟩, Or.inl ⟨rfl, rfl⟩⟩, ⟨(zM0_01 x).symm, fun i => i, fun i hi => ⟨?_, hi⟩, fun i j _ _ h => h, fun i hi => ?_⟩, fun p hp => ⟨rfl, Or.inl ⟨rfl, rfl⟩⟩, fun h hh => ⟨rfl, rfl⟩⟩
  · show (1 : Int32) = zb ((0 : Int32) = 0)
    decide
  · show (0 : Int32) = nI (zcn (fun r => decide (¬ (0 : Int32) = 0)) 9)
    decide
  · show (0 : Int32) = nI (zcn (fun r => decide (¬ (0 : Int32) = 0)) 9)
    decide
  · show zPF (cb + 41) 300 i = _
    unfold zPF
    rw [if_pos hi, show cb + 41 + 1 + i = cb + (42 + i) by omega]
  · rw [zM0_01] at hi
    exact absurd hi (by rw [show zix 0 = 0 by decide]; omega)
theorem zOk_0 {x : Int32} {R : Nat} (h1 : 1 ≤ R) (h2 : R ≤ 9) (hx : x = nI R) : zOk (zM0 x) := by
  have e0 : (0 : Int32) = nI 0 := by decide
  refine ⟨⟨0, by omega, (zM0_01 x).trans e0, fun i hi => by omega⟩, fun d hd => ⟨0, by omega, ?_⟩, ⟨R, h1, h2, (zM0_00 x).trans hx, fun d hd h => ?_⟩, fun p hp h => ?_, ?_⟩
  · rw [zM0_k x (by decide)]
    exact e0
  · rw [zM0_k x (by decide)] at h
    exact absurd h (show ¬ (0 : Int32) = 1 by decide)
  · rw [zM0_k x (by decide)] at h
    exact absurd rfl h
  · unfold zliars
    rw [zM0_k x (by decide)]
    decide
theorem zclamp_m (x : Int32) : (if 1 < (if x < 9 then x else 9) then (if x < 9 then x else 9) else 1) = zclamp x := by
  have e1 : (1 : Int32).toInt = 1 := by decide
  have e9 : (9 : Int32).toInt = 9 := by decide
  unfold zclamp
  apply Int32.toInt_inj.mp
  by_cases h1 : x < 9
  · by_cases h2 : 1 < x
    · rw [if_pos h1, if_pos h2, if_pos (by rw [Int32.le_iff_toInt_le]; rw [Int32.lt_iff_toInt_lt] at h2; omega), if_pos (by rw [Int32.le_iff_toInt_le]; rw [Int32.lt_iff_toInt_lt] at h1; omega)]
    · rw [if_pos h1, if_neg h2]
      by_cases h3 : 1 ≤ x
      · rw [if_pos h3, if_pos (by rw [Int32.le_iff_toInt_le]; rw [Int32.lt_iff_toInt_lt] at h1; omega)]
        rw [Int32.le_iff_toInt_le] at h3
        rw [Int32.lt_iff_toInt_lt] at h2
        omega
      · rw [if_neg h3]
  · rw [if_neg h1, if_pos (by decide), if_pos (by rw [Int32.le_iff_toInt_le]; rw [Int32.lt_iff_toInt_lt] at h1; omega)]
    by_cases h3 : x ≤ 9
    · rw [if_pos h3]
      rw [Int32.le_iff_toInt_le] at h3
      rw [Int32.lt_iff_toInt_lt] at h1
      omega
    · rw [if_neg h3]
theorem zclamp_R (x : Int32) : ∃ R : Nat, 1 ≤ R ∧ R ≤ 9 ∧ zclamp x = nI R := by
  unfold zclamp
  have e1 : (1 : Int32).toInt = 1 := by decide
  have e9 : (9 : Int32).toInt = 9 := by decide
  by_cases h1 : 1 ≤ x
  · rw [if_pos h1]
    by_cases h2 : x ≤ 9
    · rw [if_pos h2]
      rw [Int32.le_iff_toInt_le] at h1 h2
      have h3 : x.toInt = 1 ∨ x.toInt = 2 ∨ x.toInt = 3 ∨ x.toInt = 4 ∨ x.toInt = 5 ∨ x.toInt = 6 ∨ x.toInt = 7 ∨ x.toInt = 8 ∨ x.toInt = 9 := by omega
      rcases h3 with h | h | h | h | h | h | h | h | h
      · exact ⟨1, by decide, by decide, Int32.toInt_inj.mp (h.trans (by decide))⟩
      · exact ⟨2, by decide, by decide, Int32.toInt_inj.mp (h.trans (by decide))⟩
      · exact ⟨3, by decide, by decide, Int32.toInt_inj.mp (h.trans (by decide))⟩
      · exact ⟨4, by decide, by decide, Int32.toInt_inj.mp (h.trans (by decide))⟩
      · exact ⟨5, by decide, by decide, Int32.toInt_inj.mp (h.trans (by decide))⟩
      · exact ⟨6, by decide, by decide, Int32.toInt_inj.mp (h.trans (by decide))⟩
      · exact ⟨7, by decide, by decide, Int32.toInt_inj.mp (h.trans (by decide))⟩
      · exact ⟨8, by decide, by decide, Int32.toInt_inj.mp (h.trans (by decide))⟩
      · exact ⟨9, by decide, by decide, Int32.toInt_inj.mp (h.trans (by decide))⟩
    · rw [if_neg h2]
      exact ⟨9, by decide, by decide, by decide⟩
  · rw [if_neg h1]
    exact ⟨1, by decide, by decide, by decide⟩
theorem zOk_first (x : Int32) : zOk (zM0 (zclamp x)) := by
  obtain ⟨R, h1, h2, h3⟩ := zclamp_R x
  exact zOk_0 h1 h2 h3
