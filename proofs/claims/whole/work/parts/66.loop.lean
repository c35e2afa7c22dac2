-- the law's switch and its loop
theorem zl_cmp {L i : Nat} (hL : L ≤ 3073) (hi : i < 4000) : Int32.ofNat L - 6 < nI i ↔ ¬ i + 6 ≤ L := by
  rcases Nat.lt_or_ge L 6 with h | h
  · have h1 : Int32.ofNat L - 6 < 0 := (by decide +kernel : ∀ k, k < 6 → Int32.ofNat k - 6 < 0) L h
    have h2 : (0 : Int32) ≤ nI i := nI_pos' (by omega)
    exact ⟨fun _ => by omega, fun _ => Int32.lt_of_lt_of_le h1 h2⟩
  · have e : Int32.ofNat L - 6 = nI (L - 6) := by
      have h3 : Int32.ofNat L = nI (L - 6) + 6 := by
        have h4 := nI_add (L - 6) 6
        rw [Nat.sub_add_cancel h] at h4
        exact h4.symm
      rw [h3]
      exact Int32.add_sub_cancel _ _
    rw [e, nI_ltI (by omega) (by omega)]
    omega
theorem zl_sw {x : Int32} (h : ¬ (x.toInt < 0 ∨ 23 < x.toInt)) : ∃ j : Nat, j < 24 ∧ x = nI j :=
  ⟨x.toInt.toNat, by omega, Int32.toInt_inj.mp (by rw [nI_toInt (by omega)]; omega)⟩
section ZJL
variable {p : Program} {l : Launch} {e : Env} {s : State} {m : MethodId} {args : Array Value} {below : List Frame} {meth : Method} {c : Code} {H : Heap} {locs : List Loc} {cells slots : Nat} {Q : State → Prop}
variable {b L cb : Nat} {xs : Nat → Int32} {ls : Array Slot} {D : va_G} {ka : Nat → ClassId} {M : zM}
theorem zj_switch (hC : zJC p s m c args b L xs D ka cb) (hO : zOk M) (hJ : zJS D ka cb M M H) (hS : va_S (zGA cb) s.heap H locs) {i : Nat} (hi : i + 6 ≤ L) (hL : L ≤ 3073) (hl : lv_has ls 4 [(3, .int (nI i)), (2, .ref (cb + 346)), (1, .ref cb), (0, .ref b)]) (hc : cells + 1 ≤ 655885) (hs : slots + 3 ≤ 7134594)
    (kk : ∀ (H1 : Heap) (locs1 : List Loc) (M1 : zM), zOk M1 → zJS D ka cb M1 M1 H1 → va_S (zGA cb) s.heap H1 locs1 → W p l e room_1 s m args below meth c H1 locs1 (cells + 1) (slots + 3) Q (F0 m 854 ls [])) : W p l e room_1 s m args below meth c H locs cells slots Q (F0 m 37 ls []) := by
  obtain ⟨hx, hb, -, -, -, -, hX, hbl, hcb⟩ := id hC
  refine lv_aload_n hx hb zd_J_law_37 rfl (lv_at hl 3 rfl) ?_
  refine lv_iload_n hx hb zd_J_law_38 rfl (lv_at hl 0 rfl) ?_
  refine va_sld hx hb hX hbl (fun h => ?_) hS (fun h8 => h8.elim (fun q => absurd q (nI_pos (by omega))) (fun q => by rw [nI_clamp (by omega)] at q; omega)) zd_J_law_39 ?_
  · have h : cb ≤ b := h
    omega
  rw [nI_clamp (by omega)]
  refine lv_bipush (v := 31) hx hb zd_J_law_40 (by decide) ?_
  refine lv_iand hx hb zd_J_law_42 ?_
  generalize xs i &&& 31 = x
  by_cases h : x.toInt < 0 ∨ 23 < x.toInt
  · refine lv_tableOut (tgt := 854) hx hb zd_J_law_43 h (by decide) ?_
    refine W.widen (k := cells + 1) (n := slots + 3) (by omega) (by omega) ?_
    exact kk H locs M hO hJ hS
  obtain ⟨j, hj, rfl⟩ := zl_sw h
  clear h
  rcases (show j = 0 ∨ j = 1 ∨ j = 2 ∨ j = 3 ∨ j = 4 ∨ j = 5 ∨ j = 6 ∨ j = 7 ∨ j = 8 ∨ j = 9 ∨ j = 10 ∨ j = 11 ∨ j = 12 ∨ j = 13 ∨ j = 14 ∨ j = 15 ∨ j = 16 ∨ j = 17 ∨ j = 18 ∨ j = 19 ∨ j = 20 ∨ j = 21 ∨ j = 22 ∨ j = 23 by omega) with rfl | rfl | rfl | rfl | rfl | rfl | rfl | rfl | rfl | rfl | rfl | rfl | rfl | rfl | rfl | rfl | rfl | rfl | rfl | rfl | rfl | rfl | rfl | rfl
  · exact lv_tableIn (off := 109) (tgt := 152) hx hb zd_J_law_43 (by decide +kernel) (by decide +kernel) (by decide +kernel) (by decide) (zj_hall hC hO hJ hS hi hL hl hc hs kk)
  · exact lv_tableIn (off := 142) (tgt := 185) hx hb zd_J_law_43 (by decide +kernel) (by decide +kernel) (by decide +kernel) (by decide) (zj_write hC hO hJ hS hi hL hl hc hs kk)
  · exact lv_tableIn (off := 185) (tgt := 228) hx hb zd_J_law_43 (by decide +kernel) (by decide +kernel) (by decide +kernel) (by decide) (zj_read hC hO hJ hS hi hL hl hc hs kk)
  · exact lv_tableIn (off := 218) (tgt := 261) hx hb zd_J_law_43 (by decide +kernel) (by decide +kernel) (by decide +kernel) (by decide) (zj_storeAgain hC hO hJ hS hi hL hl hc hs kk)
  · exact lv_tableIn (off := 241) (tgt := 284) hx hb zd_J_law_43 (by decide +kernel) (by decide +kernel) (by decide +kernel) (by decide) (zj_askAgain hC hO hJ hS hi hL hl hc hs kk)
  · exact lv_tableIn (off := 264) (tgt := 307) hx hb zd_J_law_43 (by decide +kernel) (by decide +kernel) (by decide +kernel) (by decide) (zj_letters hC hO hJ hS hi hL hl hc hs kk)
  · exact lv_tableIn (off := 277) (tgt := 320) hx hb zd_J_law_43 (by decide +kernel) (by decide +kernel) (by decide +kernel) (by decide) (zj_letter hC hO hJ hS hi hL hl hc hs kk)
  · exact lv_tableIn (off := 310) (tgt := 353) hx hb zd_J_law_43 (by decide +kernel) (by decide +kernel) (by decide +kernel) (by decide) (zj_deliver hC hO hJ hS hi hL hl hc hs kk)
  · exact lv_tableIn (off := 333) (tgt := 376) hx hb zd_J_law_43 (by decide +kernel) (by decide +kernel) (by decide +kernel) (by decide) (zj_deliverAll hC hO hJ hS hi hL hl hc hs kk)
  · exact lv_tableIn (off := 356) (tgt := 399) hx hb zd_J_law_43 (by decide +kernel) (by decide +kernel) (by decide +kernel) (by decide) (zj_lose hC hO hJ hS hi hL hl hc hs kk)
  · exact lv_tableIn (off := 379) (tgt := 422) hx hb zd_J_law_43 (by decide +kernel) (by decide +kernel) (by decide +kernel) (by decide) (zj_twin hC hO hJ hS hi hL hl hc hs kk)
  · exact lv_tableIn (off := 402) (tgt := 445) hx hb zd_J_law_43 (by decide +kernel) (by decide +kernel) (by decide +kernel) (by decide) (zj_lie hC hO hJ hS hi hL hl hc hs kk)
  · exact lv_tableIn (off := 425) (tgt := 468) hx hb zd_J_law_43 (by decide +kernel) (by decide +kernel) (by decide +kernel) (by decide) (zj_tell hC hO hJ hS hi hL hl hc hs kk)
  · exact lv_tableIn (off := 488) (tgt := 531) hx hb zd_J_law_43 (by decide +kernel) (by decide +kernel) (by decide +kernel) (by decide) (zj_receipt hC hO hJ hS hi hL hl hc hs kk)
  · exact lv_tableIn (off := 521) (tgt := 564) hx hb zd_J_law_43 (by decide +kernel) (by decide +kernel) (by decide +kernel) (by decide) (zj_crash hC hO hJ hS hi hL hl hc hs kk)
  · exact lv_tableIn (off := 544) (tgt := 587) hx hb zd_J_law_43 (by decide +kernel) (by decide +kernel) (by decide +kernel) (by decide) (zj_restart hC hO hJ hS hi hL hl hc hs kk)
  · exact lv_tableIn (off := 567) (tgt := 610) hx hb zd_J_law_43 (by decide +kernel) (by decide +kernel) (by decide +kernel) (by decide) (zj_forget hC hO hJ hS hi hL hl hc hs kk)
  · exact lv_tableIn (off := 590) (tgt := 633) hx hb zd_J_law_43 (by decide +kernel) (by decide +kernel) (by decide +kernel) (by decide) (zj_outcome hC hO hJ hS hi hL hl hc hs kk)
  · exact lv_tableIn (off := 613) (tgt := 656) hx hb zd_J_law_43 (by decide +kernel) (by decide +kernel) (by decide +kernel) (by decide) (zj_answered hC hO hJ hS hi hL hl hc hs kk)
  · exact lv_tableIn (off := 646) (tgt := 689) hx hb zd_J_law_43 (by decide +kernel) (by decide +kernel) (by decide +kernel) (by decide) (zj_reader hC hO hJ hS hi hL hl hc hs kk)
  · exact lv_tableIn (off := 679) (tgt := 722) hx hb zd_J_law_43 (by decide +kernel) (by decide +kernel) (by decide +kernel) (by decide) (zj_writer hC hO hJ hS hi hL hl hc hs kk)
  · exact lv_tableIn (off := 712) (tgt := 755) hx hb zd_J_law_43 (by decide +kernel) (by decide +kernel) (by decide +kernel) (by decide) (zj_held hC hO hJ hS hi hL hl hc hs kk)
  · exact lv_tableIn (off := 755) (tgt := 798) hx hb zd_J_law_43 (by decide +kernel) (by decide +kernel) (by decide +kernel) (by decide) (zj_measured hC hO hJ hS hi hL hl hc hs kk)
  · exact lv_tableIn (off := 788) (tgt := 831) hx hb zd_J_law_43 (by decide +kernel) (by decide +kernel) (by decide +kernel) (by decide) (zj_alarm hC hO hJ hS hi hL hl hc hs kk)
theorem zj_loop (hL : L ≤ 3073) (hC : zJC p s m c args b L xs D ka cb) (hend : ∀ (H1 : Heap) (locs1 : List Loc) (cl sl : Nat) (ls' : Array Slot), va_S (zGA cb) s.heap H1 locs1 → cl ≤ 655885 → sl ≤ 7134594 → W p l e room_1 s m args below meth c H1 locs1 cl sl Q (F0 m 860 ls' [])) (n : Nat) : ∀ (i cells slots : Nat) (M : zM) (H : Heap) (locs : List Loc) (ls : Array Slot), i < 4000 → L ≤ i + 6 * n → cells + n ≤ 655885 → slots + 3 * n ≤ 7134594 → zOk M → zJS D ka cb M M H → va_S (zGA cb) s.heap H locs → lv_has ls 4 [(3, .int (nI i)), (2, .ref (cb + 346)), (1, .ref cb), (0, .ref b)] → W p l e room_1 s m args below meth c H locs cells slots Q (F0 m 28 ls []) := by
  obtain ⟨hx, hb, -, -, -, -, hX, hbl, hcb⟩ := id hC
  induction n with
  | zero =>
    intro i cells slots M H locs ls hi hn hc hs hO hJ hS hl
    refine lv_iload_n hx hb zd_J_law_28 rfl (lv_at hl 0 rfl) ?_
    refine lv_aload_n hx hb zd_J_law_29 rfl (lv_at hl 3 rfl) ?_
    refine va_slen hx hb hX hbl (fun h => ?_) hS zd_J_law_30 ?_
    · have h : cb ≤ b := h
      omega
    refine lv_bipush (v := 6) hx hb zd_J_law_31 (by decide) ?_
    refine lv_isub hx hb zd_J_law_33 ?_
    refine lv_icmp_gt (tgt := 860) hx hb zd_J_law_34 (by decide) (fun h => hend H locs cells slots ls hS (by omega) (by omega)) (fun h => absurd ((zl_cmp hL hi).mpr (by omega)) h)
  | succ n ih =>
    intro i cells slots M H locs ls hi hn hc hs hO hJ hS hl
    refine lv_iload_n hx hb zd_J_law_28 rfl (lv_at hl 0 rfl) ?_
    refine lv_aload_n hx hb zd_J_law_29 rfl (lv_at hl 3 rfl) ?_
    refine va_slen hx hb hX hbl (fun h => ?_) hS zd_J_law_30 ?_
    · have h : cb ≤ b := h
      omega
    refine lv_bipush (v := 6) hx hb zd_J_law_31 (by decide) ?_
    refine lv_isub hx hb zd_J_law_33 ?_
    refine lv_icmp_gt (tgt := 860) hx hb zd_J_law_34 (by decide) (fun h => hend H locs cells slots ls hS (by omega) (by omega)) (fun h => ?_)
    have hi6 : i + 6 ≤ L := Decidable.not_not.mp (fun h9 => h ((zl_cmp hL hi).mpr h9))
    refine zj_switch hC hO hJ hS hi6 hL hl (by omega) (by omega) (fun H locs M hO hJ hS => ?_)
    refine lv_iinc (k := 0) (x := nI i) (v := nI (i + 6)) (lv' := [(3, .int (nI (i + 6))), (2, .ref (cb + 346)), (1, .ref cb), (0, .ref b)]) hx hb zd_J_law_854 hl rfl (nI_add i 6) (by decide) rfl (fun ls hl => ?_)
    refine lv_goto (tgt := 28) hx hb zd_J_law_857 (by decide) ?_
    exact ih (i + 6) (cells + 1) (slots + 3) M H locs ls (by omega) (by omega) (by omega) (by omega) hO hJ hS hl
end ZJL
