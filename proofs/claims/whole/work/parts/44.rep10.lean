theorem ztwin_eq {M : zM} {i n : Nat} (hn1 : n < 300) (hn : M 0 1 = nI n) : zsendP M (M 31 i) (M 32 i) (M 33 i) (M 34 i) (M 35 i) (M 36 i) (M 37 i) (M 38 i) = zst (zcopy M i n) 0 1 (M 0 1 + 1) := by
  have hz : zix (M 0 1) = n := by rw [hn]; exact zix_n (by omega)
  unfold zsendP zcopy
  rw [if_neg (by rw [hn, zn_eq300 (by omega)]; omega), hz]
