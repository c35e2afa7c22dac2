-- the law's cases, written by gen_law.py
section ZJC2
variable {p : Program} {l : Launch} {e : Env} {s : State} {m : MethodId} {args : Array Value} {below : List Frame} {meth : Method} {c : Code} {H : Heap} {locs : List Loc} {cells slots : Nat} {Q : State → Prop}
variable {b L cb : Nat} {xs : Nat → Int32} {ls : Array Slot} {D : va_G} {ka : Nat → ClassId} {M : zM}
theorem zj_forget (hC : zJC p s m c args b L xs D ka cb) (hO : zOk M) (hJ : zJS D ka cb M M H) (hS : va_S (zGA cb) s.heap H locs) {i : Nat} (hi : i + 6 ≤ L) (hL : L ≤ 3073) (hl : lv_has ls 4 [(3, .int (nI i)), (2, .ref (cb + 346)), (1, .ref cb), (0, .ref b)]) (hc : cells + 1 ≤ 655885) (hs : slots + 3 ≤ 7134594)
    (kk : ∀ (H1 : Heap) (locs1 : List Loc) (M1 : zM), zOk M1 → zJS D ka cb M1 M1 H1 → va_S (zGA cb) s.heap H1 locs1 → W p l e room_1 s m args below meth c H1 locs1 (cells + 1) (slots + 3) Q (F0 m 854 ls [])) : W p l e room_1 s m args below meth c H locs cells slots Q (F0 m 610 ls []) := by
  obtain ⟨hx, hb, -⟩ := id hC
  refine lv_aload_n hx hb zd_J_law_610 rfl (lv_at hl 2 rfl) ?_
  refine zJ_arg 1 hC hS hl hi hL (by decide) (by decide) zd_J_law_611 zd_J_law_612 zd_J_law_613 zd_J_law_614 zd_J_law_615 ?_
  refine zJ_ci (nA := 1) (As := [.int (xs (i + 1))]) (rest := []) (zc_m_X_forget l D ka cb M (xs (i + 1))) (zg_X_forget zk_J_92) rfl (by decide) ⟨rfl, rfl⟩ ⟨Nat.le_of_ble_eq_true rfl, Nat.le_of_ble_eq_true rfl⟩ hC hJ hS hl.1 rfl rfl (Nat.le_of_ble_eq_true rfl) ⟨show cells + 0 ≤ 655885 by omega, show slots + 0 ≤ 7134594 by omega⟩ zd_J_law_616 (fun H locs hJ hS => ?_)
  refine lv_aload_n hx hb zd_J_law_619 rfl (lv_at hl 1 rfl) ?_
  refine zJ_arg 1 hC hS hl hi hL (by decide) (by decide) zd_J_law_620 zd_J_law_621 zd_J_law_622 zd_J_law_623 zd_J_law_624 ?_
  refine zJ_ri (nA := 1) (As := [.int (xs (i + 1))]) (rest := [.int _]) (zm_forget l D ka (cb + 346) M (xs (i + 1))) (zg_M_forget zk_J_95) rfl (by decide) ⟨rfl, rfl⟩ ⟨Nat.le_of_ble_eq_true rfl, Nat.le_of_ble_eq_true rfl⟩ hC hJ hS hl.1 rfl rfl (Nat.le_of_ble_eq_true rfl) ⟨show cells + 0 ≤ 655885 by omega, show slots + 0 ≤ 7134594 by omega⟩ zd_J_law_625 (fun H locs hJ hS => ?_)
  refine lv_icmp_eq (tgt := 854) hx hb zd_J_law_628 (by decide) (fun _ => ?_) (fun h => absurd rfl h)
  refine W.widen (k := cells + 1) (n := slots + 3) (by omega) (by omega) ?_
  exact kk H locs _ (zOg_forget hO _) hJ hS
theorem zj_outcome (hC : zJC p s m c args b L xs D ka cb) (hO : zOk M) (hJ : zJS D ka cb M M H) (hS : va_S (zGA cb) s.heap H locs) {i : Nat} (hi : i + 6 ≤ L) (hL : L ≤ 3073) (hl : lv_has ls 4 [(3, .int (nI i)), (2, .ref (cb + 346)), (1, .ref cb), (0, .ref b)]) (hc : cells + 1 ≤ 655885) (hs : slots + 3 ≤ 7134594)
    (kk : ∀ (H1 : Heap) (locs1 : List Loc) (M1 : zM), zOk M1 → zJS D ka cb M1 M1 H1 → va_S (zGA cb) s.heap H1 locs1 → W p l e room_1 s m args below meth c H1 locs1 (cells + 1) (slots + 3) Q (F0 m 854 ls [])) : W p l e room_1 s m args below meth c H locs cells slots Q (F0 m 633 ls []) := by
  obtain ⟨hx, hb, -⟩ := id hC
  refine lv_aload_n hx hb zd_J_law_633 rfl (lv_at hl 2 rfl) ?_
  refine zJ_arg 1 hC hS hl hi hL (by decide) (by decide) zd_J_law_634 zd_J_law_635 zd_J_law_636 zd_J_law_637 zd_J_law_638 ?_
  refine zJ_cs (nA := 1) (As := [.int (xs (i + 1))]) (rest := []) (zc_m_X_outcome l D ka cb M (xs (i + 1))) (zg_X_outcome zk_J_96) rfl (by decide) ⟨rfl, rfl⟩ ⟨Nat.le_of_ble_eq_true rfl, Nat.le_of_ble_eq_true rfl⟩ hC hJ hl.1 rfl rfl (Nat.le_of_ble_eq_true rfl) ⟨show cells ≤ 655885 by omega, show slots ≤ 7134594 by omega⟩ zd_J_law_639 ?_
  refine lv_aload_n hx hb zd_J_law_642 rfl (lv_at hl 1 rfl) ?_
  refine zJ_arg 1 hC hS hl hi hL (by decide) (by decide) zd_J_law_643 zd_J_law_644 zd_J_law_645 zd_J_law_646 zd_J_law_647 ?_
  refine zJ_rs (nA := 1) (As := [.int (xs (i + 1))]) (rest := [.int _]) (zm_outcome l D ka (cb + 346) M (xs (i + 1))) (zg_M_outcome zk_J_99) rfl (by decide) ⟨rfl, rfl⟩ ⟨Nat.le_of_ble_eq_true rfl, Nat.le_of_ble_eq_true rfl⟩ hC hJ hl.1 rfl rfl (Nat.le_of_ble_eq_true rfl) ⟨show cells ≤ 655885 by omega, show slots ≤ 7134594 by omega⟩ zd_J_law_648 ?_
  refine lv_icmp_eq (tgt := 854) hx hb zd_J_law_651 (by decide) (fun _ => ?_) (fun h => absurd rfl h)
  refine W.widen (k := cells + 1) (n := slots + 3) (by omega) (by omega) ?_
  exact kk H locs M hO hJ hS
theorem zj_answered (hC : zJC p s m c args b L xs D ka cb) (hO : zOk M) (hJ : zJS D ka cb M M H) (hS : va_S (zGA cb) s.heap H locs) {i : Nat} (hi : i + 6 ≤ L) (hL : L ≤ 3073) (hl : lv_has ls 4 [(3, .int (nI i)), (2, .ref (cb + 346)), (1, .ref cb), (0, .ref b)]) (hc : cells + 1 ≤ 655885) (hs : slots + 3 ≤ 7134594)
    (kk : ∀ (H1 : Heap) (locs1 : List Loc) (M1 : zM), zOk M1 → zJS D ka cb M1 M1 H1 → va_S (zGA cb) s.heap H1 locs1 → W p l e room_1 s m args below meth c H1 locs1 (cells + 1) (slots + 3) Q (F0 m 854 ls [])) : W p l e room_1 s m args below meth c H locs cells slots Q (F0 m 656 ls []) := by
  obtain ⟨hx, hb, -⟩ := id hC
  refine lv_aload_n hx hb zd_J_law_656 rfl (lv_at hl 2 rfl) ?_
  refine zJ_arg 1 hC hS hl hi hL (by decide) (by decide) zd_J_law_657 zd_J_law_658 zd_J_law_659 zd_J_law_660 zd_J_law_661 ?_
  refine zJ_arg 2 hC hS hl hi hL (by decide) (by decide) zd_J_law_662 zd_J_law_663 zd_J_law_664 zd_J_law_665 zd_J_law_666 ?_
  refine zJ_cs (nA := 2) (As := [.int (xs (i + 1)), .int (xs (i + 2))]) (rest := []) (zc_m_X_answered l D ka cb M (xs (i + 1)) (xs (i + 2))) (zg_X_answered zk_J_100) rfl (by decide) ⟨rfl, rfl⟩ ⟨Nat.le_of_ble_eq_true rfl, Nat.le_of_ble_eq_true rfl⟩ hC hJ hl.1 rfl rfl (Nat.le_of_ble_eq_true rfl) ⟨show cells ≤ 655885 by omega, show slots ≤ 7134594 by omega⟩ zd_J_law_667 ?_
  refine lv_aload_n hx hb zd_J_law_670 rfl (lv_at hl 1 rfl) ?_
  refine zJ_arg 1 hC hS hl hi hL (by decide) (by decide) zd_J_law_671 zd_J_law_672 zd_J_law_673 zd_J_law_674 zd_J_law_675 ?_
  refine zJ_arg 2 hC hS hl hi hL (by decide) (by decide) zd_J_law_676 zd_J_law_677 zd_J_law_678 zd_J_law_679 zd_J_law_680 ?_
  refine zJ_rs (nA := 2) (As := [.int (xs (i + 1)), .int (xs (i + 2))]) (rest := [.int _]) (zm_answered l D ka (cb + 346) M (xs (i + 1)) (xs (i + 2))) (zg_M_answered zk_J_103) rfl (by decide) ⟨rfl, rfl⟩ ⟨Nat.le_of_ble_eq_true rfl, Nat.le_of_ble_eq_true rfl⟩ hC hJ hl.1 rfl rfl (Nat.le_of_ble_eq_true rfl) ⟨show cells ≤ 655885 by omega, show slots ≤ 7134594 by omega⟩ zd_J_law_681 ?_
  refine lv_icmp_eq (tgt := 854) hx hb zd_J_law_684 (by decide) (fun _ => ?_) (fun h => absurd rfl h)
  refine W.widen (k := cells + 1) (n := slots + 3) (by omega) (by omega) ?_
  exact kk H locs M hO hJ hS
theorem zj_reader (hC : zJC p s m c args b L xs D ka cb) (hO : zOk M) (hJ : zJS D ka cb M M H) (hS : va_S (zGA cb) s.heap H locs) {i : Nat} (hi : i + 6 ≤ L) (hL : L ≤ 3073) (hl : lv_has ls 4 [(3, .int (nI i)), (2, .ref (cb + 346)), (1, .ref cb), (0, .ref b)]) (hc : cells + 1 ≤ 655885) (hs : slots + 3 ≤ 7134594)
    (kk : ∀ (H1 : Heap) (locs1 : List Loc) (M1 : zM), zOk M1 → zJS D ka cb M1 M1 H1 → va_S (zGA cb) s.heap H1 locs1 → W p l e room_1 s m args below meth c H1 locs1 (cells + 1) (slots + 3) Q (F0 m 854 ls [])) : W p l e room_1 s m args below meth c H locs cells slots Q (F0 m 689 ls []) := by
  obtain ⟨hx, hb, -⟩ := id hC
  refine lv_aload_n hx hb zd_J_law_689 rfl (lv_at hl 2 rfl) ?_
  refine zJ_arg 1 hC hS hl hi hL (by decide) (by decide) zd_J_law_690 zd_J_law_691 zd_J_law_692 zd_J_law_693 zd_J_law_694 ?_
  refine zJ_arg 2 hC hS hl hi hL (by decide) (by decide) zd_J_law_695 zd_J_law_696 zd_J_law_697 zd_J_law_698 zd_J_law_699 ?_
  refine zJ_cs (nA := 2) (As := [.int (xs (i + 1)), .int (xs (i + 2))]) (rest := []) (zc_m_X_reader l D ka cb M (xs (i + 1)) (xs (i + 2))) (zg_X_reader zk_J_104) rfl (by decide) ⟨rfl, rfl⟩ ⟨Nat.le_of_ble_eq_true rfl, Nat.le_of_ble_eq_true rfl⟩ hC hJ hl.1 rfl rfl (Nat.le_of_ble_eq_true rfl) ⟨show cells ≤ 655885 by omega, show slots ≤ 7134594 by omega⟩ zd_J_law_700 ?_
  refine lv_aload_n hx hb zd_J_law_703 rfl (lv_at hl 1 rfl) ?_
  refine zJ_arg 1 hC hS hl hi hL (by decide) (by decide) zd_J_law_704 zd_J_law_705 zd_J_law_706 zd_J_law_707 zd_J_law_708 ?_
  refine zJ_arg 2 hC hS hl hi hL (by decide) (by decide) zd_J_law_709 zd_J_law_710 zd_J_law_711 zd_J_law_712 zd_J_law_713 ?_
  refine zJ_rs (nA := 2) (As := [.int (xs (i + 1)), .int (xs (i + 2))]) (rest := [.int _]) (zm_reader l D ka (cb + 346) M (xs (i + 1)) (xs (i + 2))) (zg_M_reader zk_J_107) rfl (by decide) ⟨rfl, rfl⟩ ⟨Nat.le_of_ble_eq_true rfl, Nat.le_of_ble_eq_true rfl⟩ hC hJ hl.1 rfl rfl (Nat.le_of_ble_eq_true rfl) ⟨show cells ≤ 655885 by omega, show slots ≤ 7134594 by omega⟩ zd_J_law_714 ?_
  refine lv_icmp_eq (tgt := 854) hx hb zd_J_law_717 (by decide) (fun _ => ?_) (fun h => absurd rfl h)
  refine W.widen (k := cells + 1) (n := slots + 3) (by omega) (by omega) ?_
  exact kk H locs M hO hJ hS
theorem zj_writer (hC : zJC p s m c args b L xs D ka cb) (hO : zOk M) (hJ : zJS D ka cb M M H) (hS : va_S (zGA cb) s.heap H locs) {i : Nat} (hi : i + 6 ≤ L) (hL : L ≤ 3073) (hl : lv_has ls 4 [(3, .int (nI i)), (2, .ref (cb + 346)), (1, .ref cb), (0, .ref b)]) (hc : cells + 1 ≤ 655885) (hs : slots + 3 ≤ 7134594)
    (kk : ∀ (H1 : Heap) (locs1 : List Loc) (M1 : zM), zOk M1 → zJS D ka cb M1 M1 H1 → va_S (zGA cb) s.heap H1 locs1 → W p l e room_1 s m args below meth c H1 locs1 (cells + 1) (slots + 3) Q (F0 m 854 ls [])) : W p l e room_1 s m args below meth c H locs cells slots Q (F0 m 722 ls []) := by
  obtain ⟨hx, hb, -⟩ := id hC
  refine lv_aload_n hx hb zd_J_law_722 rfl (lv_at hl 2 rfl) ?_
  refine zJ_arg 1 hC hS hl hi hL (by decide) (by decide) zd_J_law_723 zd_J_law_724 zd_J_law_725 zd_J_law_726 zd_J_law_727 ?_
  refine zJ_arg 2 hC hS hl hi hL (by decide) (by decide) zd_J_law_728 zd_J_law_729 zd_J_law_730 zd_J_law_731 zd_J_law_732 ?_
  refine zJ_cs (nA := 2) (As := [.int (xs (i + 1)), .int (xs (i + 2))]) (rest := []) (zc_m_X_writer l D ka cb M (xs (i + 1)) (xs (i + 2))) (zg_X_writer zk_J_108) rfl (by decide) ⟨rfl, rfl⟩ ⟨Nat.le_of_ble_eq_true rfl, Nat.le_of_ble_eq_true rfl⟩ hC hJ hl.1 rfl rfl (Nat.le_of_ble_eq_true rfl) ⟨show cells ≤ 655885 by omega, show slots ≤ 7134594 by omega⟩ zd_J_law_733 ?_
  refine lv_aload_n hx hb zd_J_law_736 rfl (lv_at hl 1 rfl) ?_
  refine zJ_arg 1 hC hS hl hi hL (by decide) (by decide) zd_J_law_737 zd_J_law_738 zd_J_law_739 zd_J_law_740 zd_J_law_741 ?_
  refine zJ_arg 2 hC hS hl hi hL (by decide) (by decide) zd_J_law_742 zd_J_law_743 zd_J_law_744 zd_J_law_745 zd_J_law_746 ?_
  refine zJ_rs (nA := 2) (As := [.int (xs (i + 1)), .int (xs (i + 2))]) (rest := [.int _]) (zm_writer l D ka (cb + 346) M (xs (i + 1)) (xs (i + 2))) (zg_M_writer zk_J_111) rfl (by decide) ⟨rfl, rfl⟩ ⟨Nat.le_of_ble_eq_true rfl, Nat.le_of_ble_eq_true rfl⟩ hC hJ hl.1 rfl rfl (Nat.le_of_ble_eq_true rfl) ⟨show cells ≤ 655885 by omega, show slots ≤ 7134594 by omega⟩ zd_J_law_747 ?_
  refine lv_icmp_eq (tgt := 854) hx hb zd_J_law_750 (by decide) (fun _ => ?_) (fun h => absurd rfl h)
  refine W.widen (k := cells + 1) (n := slots + 3) (by omega) (by omega) ?_
  exact kk H locs M hO hJ hS
theorem zj_held (hC : zJC p s m c args b L xs D ka cb) (hO : zOk M) (hJ : zJS D ka cb M M H) (hS : va_S (zGA cb) s.heap H locs) {i : Nat} (hi : i + 6 ≤ L) (hL : L ≤ 3073) (hl : lv_has ls 4 [(3, .int (nI i)), (2, .ref (cb + 346)), (1, .ref cb), (0, .ref b)]) (hc : cells + 1 ≤ 655885) (hs : slots + 3 ≤ 7134594)
    (kk : ∀ (H1 : Heap) (locs1 : List Loc) (M1 : zM), zOk M1 → zJS D ka cb M1 M1 H1 → va_S (zGA cb) s.heap H1 locs1 → W p l e room_1 s m args below meth c H1 locs1 (cells + 1) (slots + 3) Q (F0 m 854 ls [])) : W p l e room_1 s m args below meth c H locs cells slots Q (F0 m 755 ls []) := by
  obtain ⟨hx, hb, -⟩ := id hC
  refine lv_aload_n hx hb zd_J_law_755 rfl (lv_at hl 2 rfl) ?_
  refine zJ_arg 1 hC hS hl hi hL (by decide) (by decide) zd_J_law_756 zd_J_law_757 zd_J_law_758 zd_J_law_759 zd_J_law_760 ?_
  refine zJ_arg 2 hC hS hl hi hL (by decide) (by decide) zd_J_law_761 zd_J_law_762 zd_J_law_763 zd_J_law_764 zd_J_law_765 ?_
  refine zJ_arg 3 hC hS hl hi hL (by decide) (by decide) zd_J_law_766 zd_J_law_767 zd_J_law_768 zd_J_law_769 zd_J_law_770 ?_
  refine zJ_cs (nA := 3) (As := [.int (xs (i + 1)), .int (xs (i + 2)), .int (xs (i + 3))]) (rest := []) (zc_m_X_held l D ka cb M (xs (i + 1)) (xs (i + 2)) (xs (i + 3))) (zg_X_held zk_J_112) rfl (by decide) ⟨rfl, rfl⟩ ⟨Nat.le_of_ble_eq_true rfl, Nat.le_of_ble_eq_true rfl⟩ hC hJ hl.1 rfl rfl (Nat.le_of_ble_eq_true rfl) ⟨show cells ≤ 655885 by omega, show slots ≤ 7134594 by omega⟩ zd_J_law_771 ?_
  refine lv_aload_n hx hb zd_J_law_774 rfl (lv_at hl 1 rfl) ?_
  refine zJ_arg 1 hC hS hl hi hL (by decide) (by decide) zd_J_law_775 zd_J_law_776 zd_J_law_777 zd_J_law_778 zd_J_law_779 ?_
  refine zJ_arg 2 hC hS hl hi hL (by decide) (by decide) zd_J_law_780 zd_J_law_781 zd_J_law_782 zd_J_law_783 zd_J_law_784 ?_
  refine zJ_arg 3 hC hS hl hi hL (by decide) (by decide) zd_J_law_785 zd_J_law_786 zd_J_law_787 zd_J_law_788 zd_J_law_789 ?_
  refine zJ_rs (nA := 3) (As := [.int (xs (i + 1)), .int (xs (i + 2)), .int (xs (i + 3))]) (rest := [.int _]) (zm_held l D ka (cb + 346) M (xs (i + 1)) (xs (i + 2)) (xs (i + 3))) (zg_M_held zk_J_115) rfl (by decide) ⟨rfl, rfl⟩ ⟨Nat.le_of_ble_eq_true rfl, Nat.le_of_ble_eq_true rfl⟩ hC hJ hl.1 rfl rfl (Nat.le_of_ble_eq_true rfl) ⟨show cells ≤ 655885 by omega, show slots ≤ 7134594 by omega⟩ zd_J_law_790 ?_
  refine lv_icmp_eq (tgt := 854) hx hb zd_J_law_793 (by decide) (fun _ => ?_) (fun h => absurd rfl h)
  refine W.widen (k := cells + 1) (n := slots + 3) (by omega) (by omega) ?_
  exact kk H locs M hO hJ hS
theorem zj_measured (hC : zJC p s m c args b L xs D ka cb) (hO : zOk M) (hJ : zJS D ka cb M M H) (hS : va_S (zGA cb) s.heap H locs) {i : Nat} (hi : i + 6 ≤ L) (hL : L ≤ 3073) (hl : lv_has ls 4 [(3, .int (nI i)), (2, .ref (cb + 346)), (1, .ref cb), (0, .ref b)]) (hc : cells + 1 ≤ 655885) (hs : slots + 3 ≤ 7134594)
    (kk : ∀ (H1 : Heap) (locs1 : List Loc) (M1 : zM), zOk M1 → zJS D ka cb M1 M1 H1 → va_S (zGA cb) s.heap H1 locs1 → W p l e room_1 s m args below meth c H1 locs1 (cells + 1) (slots + 3) Q (F0 m 854 ls [])) : W p l e room_1 s m args below meth c H locs cells slots Q (F0 m 798 ls []) := by
  obtain ⟨hx, hb, -⟩ := id hC
  refine lv_aload_n hx hb zd_J_law_798 rfl (lv_at hl 2 rfl) ?_
  refine zJ_arg 1 hC hS hl hi hL (by decide) (by decide) zd_J_law_799 zd_J_law_800 zd_J_law_801 zd_J_law_802 zd_J_law_803 ?_
  refine zJ_arg 2 hC hS hl hi hL (by decide) (by decide) zd_J_law_804 zd_J_law_805 zd_J_law_806 zd_J_law_807 zd_J_law_808 ?_
  refine zJ_ci (nA := 2) (As := [.int (xs (i + 1)), .int (xs (i + 2))]) (rest := []) (zc_m_X_measured l D ka cb M (xs (i + 1)) (xs (i + 2))) (zg_X_measured zk_J_116) rfl (by decide) ⟨rfl, rfl⟩ ⟨Nat.le_of_ble_eq_true rfl, Nat.le_of_ble_eq_true rfl⟩ hC hJ hS hl.1 rfl rfl (Nat.le_of_ble_eq_true rfl) ⟨show cells + 0 ≤ 655885 by omega, show slots + 0 ≤ 7134594 by omega⟩ zd_J_law_809 (fun H locs hJ hS => ?_)
  refine lv_aload_n hx hb zd_J_law_812 rfl (lv_at hl 1 rfl) ?_
  refine zJ_arg 1 hC hS hl hi hL (by decide) (by decide) zd_J_law_813 zd_J_law_814 zd_J_law_815 zd_J_law_816 zd_J_law_817 ?_
  refine zJ_arg 2 hC hS hl hi hL (by decide) (by decide) zd_J_law_818 zd_J_law_819 zd_J_law_820 zd_J_law_821 zd_J_law_822 ?_
  refine zJ_ri (nA := 2) (As := [.int (xs (i + 1)), .int (xs (i + 2))]) (rest := [.int _]) (zm_measured l D ka (cb + 346) M (xs (i + 1)) (xs (i + 2))) (zg_M_measured zk_J_119) rfl (by decide) ⟨rfl, rfl⟩ ⟨Nat.le_of_ble_eq_true rfl, Nat.le_of_ble_eq_true rfl⟩ hC hJ hS hl.1 rfl rfl (Nat.le_of_ble_eq_true rfl) ⟨show cells + 0 ≤ 655885 by omega, show slots + 0 ≤ 7134594 by omega⟩ zd_J_law_823 (fun H locs hJ hS => ?_)
  refine lv_icmp_eq (tgt := 854) hx hb zd_J_law_826 (by decide) (fun _ => ?_) (fun h => absurd rfl h)
  refine W.widen (k := cells + 1) (n := slots + 3) (by omega) (by omega) ?_
  exact kk H locs _ (zOg_measured hO _ _) hJ hS
theorem zj_alarm (hC : zJC p s m c args b L xs D ka cb) (hO : zOk M) (hJ : zJS D ka cb M M H) (hS : va_S (zGA cb) s.heap H locs) {i : Nat} (hi : i + 6 ≤ L) (hL : L ≤ 3073) (hl : lv_has ls 4 [(3, .int (nI i)), (2, .ref (cb + 346)), (1, .ref cb), (0, .ref b)]) (hc : cells + 1 ≤ 655885) (hs : slots + 3 ≤ 7134594)
    (kk : ∀ (H1 : Heap) (locs1 : List Loc) (M1 : zM), zOk M1 → zJS D ka cb M1 M1 H1 → va_S (zGA cb) s.heap H1 locs1 → W p l e room_1 s m args below meth c H1 locs1 (cells + 1) (slots + 3) Q (F0 m 854 ls [])) : W p l e room_1 s m args below meth c H locs cells slots Q (F0 m 831 ls []) := by
  obtain ⟨hx, hb, -⟩ := id hC
  refine lv_aload_n hx hb zd_J_law_831 rfl (lv_at hl 2 rfl) ?_
  refine zJ_arg 1 hC hS hl hi hL (by decide) (by decide) zd_J_law_832 zd_J_law_833 zd_J_law_834 zd_J_law_835 zd_J_law_836 ?_
  refine zJ_cs (nA := 1) (As := [.int (xs (i + 1))]) (rest := []) (zc_m_X_alarm l D ka cb M (xs (i + 1))) (zg_X_alarm zk_J_120) rfl (by decide) ⟨rfl, rfl⟩ ⟨Nat.le_of_ble_eq_true rfl, Nat.le_of_ble_eq_true rfl⟩ hC hJ hl.1 rfl rfl (Nat.le_of_ble_eq_true rfl) ⟨show cells ≤ 655885 by omega, show slots ≤ 7134594 by omega⟩ zd_J_law_837 ?_
  refine lv_aload_n hx hb zd_J_law_840 rfl (lv_at hl 1 rfl) ?_
  refine zJ_arg 1 hC hS hl hi hL (by decide) (by decide) zd_J_law_841 zd_J_law_842 zd_J_law_843 zd_J_law_844 zd_J_law_845 ?_
  refine zJ_rs (nA := 1) (As := [.int (xs (i + 1))]) (rest := [.int _]) (zm_alarm l D ka (cb + 346) M (xs (i + 1))) (zg_M_alarm zk_J_123) rfl (by decide) ⟨rfl, rfl⟩ ⟨Nat.le_of_ble_eq_true rfl, Nat.le_of_ble_eq_true rfl⟩ hC hJ hl.1 rfl rfl (Nat.le_of_ble_eq_true rfl) ⟨show cells ≤ 655885 by omega, show slots ≤ 7134594 by omega⟩ zd_J_law_846 ?_
  refine lv_icmp_eq (tgt := 854) hx hb zd_J_law_849 (by decide) (fun _ => ?_) (fun h => absurd rfl h)
  refine W.widen (k := cells + 1) (n := slots + 3) (by omega) (by omega) ?_
  exact kk H locs M hO hJ hS
end ZJC2
