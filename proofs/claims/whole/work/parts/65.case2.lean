-- the law's cases, written by gen_law.py
section ZJC1
variable {p : Program} {l : Launch} {e : Env} {s : State} {m : MethodId} {args : Array Value} {below : List Frame} {meth : Method} {c : Code} {H : Heap} {locs : List Loc} {cells slots : Nat} {Q : State → Prop}
variable {b L cb : Nat} {xs : Nat → Int32} {ls : Array Slot} {D : va_G} {ka : Nat → ClassId} {M : zM}
theorem zj_deliverAll (hC : zJC p s m c args b L xs D ka cb) (hO : zOk M) (hJ : zJS D ka cb M M H) (hS : va_S (zGA cb) s.heap H locs) {i : Nat} (hi : i + 6 ≤ L) (hL : L ≤ 3073) (hl : lv_has ls 4 [(3, .int (nI i)), (2, .ref (cb + 346)), (1, .ref cb), (0, .ref b)]) (hc : cells + 1 ≤ 655885) (hs : slots + 3 ≤ 7134594)
    (kk : ∀ (H1 : Heap) (locs1 : List Loc) (M1 : zM), zOk M1 → zJS D ka cb M1 M1 H1 → va_S (zGA cb) s.heap H1 locs1 → W p l e room_1 s m args below meth c H1 locs1 (cells + 1) (slots + 3) Q (F0 m 854 ls [])) : W p l e room_1 s m args below meth c H locs cells slots Q (F0 m 376 ls []) := by
  obtain ⟨hx, hb, -⟩ := id hC
  refine lv_aload_n hx hb zd_J_law_376 rfl (lv_at hl 2 rfl) ?_
  refine zJ_arg 1 hC hS hl hi hL (by decide) (by decide) zd_J_law_377 zd_J_law_378 zd_J_law_379 zd_J_law_380 zd_J_law_381 ?_
  refine zJ_ci (nA := 1) (As := [.int (xs (i + 1))]) (rest := []) (zc_m_X_deliverAll l D ka cb M hO (xs (i + 1))) (zg_X_deliverAll zk_J_59) rfl (by decide) ⟨rfl, rfl⟩ ⟨Nat.le_of_ble_eq_true rfl, Nat.le_of_ble_eq_true rfl⟩ hC hJ hS hl.1 rfl rfl (Nat.le_of_ble_eq_true rfl) ⟨show cells + 0 ≤ 655885 by omega, show slots + 0 ≤ 7134594 by omega⟩ zd_J_law_382 (fun H locs hJ hS => ?_)
  refine lv_aload_n hx hb zd_J_law_385 rfl (lv_at hl 1 rfl) ?_
  refine zJ_arg 1 hC hS hl hi hL (by decide) (by decide) zd_J_law_386 zd_J_law_387 zd_J_law_388 zd_J_law_389 zd_J_law_390 ?_
  refine zJ_ri (nA := 1) (As := [.int (xs (i + 1))]) (rest := [.int _]) (zm_deliverAll l D ka (cb + 346) M hO (xs (i + 1))) (zg_M_deliverAll zk_J_62) rfl (by decide) ⟨rfl, rfl⟩ ⟨Nat.le_of_ble_eq_true rfl, Nat.le_of_ble_eq_true rfl⟩ hC hJ hS hl.1 rfl rfl (Nat.le_of_ble_eq_true rfl) ⟨show cells + 0 ≤ 655885 by omega, show slots + 0 ≤ 7134594 by omega⟩ zd_J_law_391 (fun H locs hJ hS => ?_)
  refine lv_icmp_eq (tgt := 854) hx hb zd_J_law_394 (by decide) (fun _ => ?_) (fun h => absurd rfl h)
  refine W.widen (k := cells + 1) (n := slots + 3) (by omega) (by omega) ?_
  exact kk H locs _ (zOg_deliverAll hO _) hJ hS
theorem zj_lose (hC : zJC p s m c args b L xs D ka cb) (hO : zOk M) (hJ : zJS D ka cb M M H) (hS : va_S (zGA cb) s.heap H locs) {i : Nat} (hi : i + 6 ≤ L) (hL : L ≤ 3073) (hl : lv_has ls 4 [(3, .int (nI i)), (2, .ref (cb + 346)), (1, .ref cb), (0, .ref b)]) (hc : cells + 1 ≤ 655885) (hs : slots + 3 ≤ 7134594)
    (kk : ∀ (H1 : Heap) (locs1 : List Loc) (M1 : zM), zOk M1 → zJS D ka cb M1 M1 H1 → va_S (zGA cb) s.heap H1 locs1 → W p l e room_1 s m args below meth c H1 locs1 (cells + 1) (slots + 3) Q (F0 m 854 ls [])) : W p l e room_1 s m args below meth c H locs cells slots Q (F0 m 399 ls []) := by
  obtain ⟨hx, hb, -⟩ := id hC
  refine lv_aload_n hx hb zd_J_law_399 rfl (lv_at hl 2 rfl) ?_
  refine zJ_arg 1 hC hS hl hi hL (by decide) (by decide) zd_J_law_400 zd_J_law_401 zd_J_law_402 zd_J_law_403 zd_J_law_404 ?_
  refine zJ_ci (nA := 1) (As := [.int (xs (i + 1))]) (rest := []) (zc_m_X_lose l D ka cb M (zOk_lt hO) (xs (i + 1))) (zg_X_lose zk_J_63) rfl (by decide) ⟨rfl, rfl⟩ ⟨Nat.le_of_ble_eq_true rfl, Nat.le_of_ble_eq_true rfl⟩ hC hJ hS hl.1 rfl rfl (Nat.le_of_ble_eq_true rfl) ⟨show cells + 0 ≤ 655885 by omega, show slots + 0 ≤ 7134594 by omega⟩ zd_J_law_405 (fun H locs hJ hS => ?_)
  refine lv_aload_n hx hb zd_J_law_408 rfl (lv_at hl 1 rfl) ?_
  refine zJ_arg 1 hC hS hl hi hL (by decide) (by decide) zd_J_law_409 zd_J_law_410 zd_J_law_411 zd_J_law_412 zd_J_law_413 ?_
  refine zJ_ri (nA := 1) (As := [.int (xs (i + 1))]) (rest := [.int _]) (zm_lose l D ka (cb + 346) M (zOk_lt hO) (xs (i + 1))) (zg_M_lose zk_J_66) rfl (by decide) ⟨rfl, rfl⟩ ⟨Nat.le_of_ble_eq_true rfl, Nat.le_of_ble_eq_true rfl⟩ hC hJ hS hl.1 rfl rfl (Nat.le_of_ble_eq_true rfl) ⟨show cells + 0 ≤ 655885 by omega, show slots + 0 ≤ 7134594 by omega⟩ zd_J_law_414 (fun H locs hJ hS => ?_)
  refine lv_icmp_eq (tgt := 854) hx hb zd_J_law_417 (by decide) (fun _ => ?_) (fun h => absurd rfl h)
  refine W.widen (k := cells + 1) (n := slots + 3) (by omega) (by omega) ?_
  exact kk H locs _ (zOg_take hO _) hJ hS
theorem zj_twin (hC : zJC p s m c args b L xs D ka cb) (hO : zOk M) (hJ : zJS D ka cb M M H) (hS : va_S (zGA cb) s.heap H locs) {i : Nat} (hi : i + 6 ≤ L) (hL : L ≤ 3073) (hl : lv_has ls 4 [(3, .int (nI i)), (2, .ref (cb + 346)), (1, .ref cb), (0, .ref b)]) (hc : cells + 1 ≤ 655885) (hs : slots + 3 ≤ 7134594)
    (kk : ∀ (H1 : Heap) (locs1 : List Loc) (M1 : zM), zOk M1 → zJS D ka cb M1 M1 H1 → va_S (zGA cb) s.heap H1 locs1 → W p l e room_1 s m args below meth c H1 locs1 (cells + 1) (slots + 3) Q (F0 m 854 ls [])) : W p l e room_1 s m args below meth c H locs cells slots Q (F0 m 422 ls []) := by
  obtain ⟨hx, hb, -⟩ := id hC
  refine lv_aload_n hx hb zd_J_law_422 rfl (lv_at hl 2 rfl) ?_
  refine zJ_arg 1 hC hS hl hi hL (by decide) (by decide) zd_J_law_423 zd_J_law_424 zd_J_law_425 zd_J_law_426 zd_J_law_427 ?_
  refine zJ_ci (nA := 1) (As := [.int (xs (i + 1))]) (rest := []) (zc_m_X_twin l D ka cb M (zOk_lt hO) (xs (i + 1))) (zg_X_twin zk_J_67) rfl (by decide) ⟨rfl, rfl⟩ ⟨Nat.le_of_ble_eq_true rfl, Nat.le_of_ble_eq_true rfl⟩ hC hJ hS hl.1 rfl rfl (Nat.le_of_ble_eq_true rfl) ⟨show cells + 0 ≤ 655885 by omega, show slots + 0 ≤ 7134594 by omega⟩ zd_J_law_428 (fun H locs hJ hS => ?_)
  refine lv_aload_n hx hb zd_J_law_431 rfl (lv_at hl 1 rfl) ?_
  refine zJ_arg 1 hC hS hl hi hL (by decide) (by decide) zd_J_law_432 zd_J_law_433 zd_J_law_434 zd_J_law_435 zd_J_law_436 ?_
  refine zJ_ri (nA := 1) (As := [.int (xs (i + 1))]) (rest := [.int _]) (zm_twin l D ka (cb + 346) M (zOk_lt hO) (xs (i + 1))) (zg_M_twin zk_J_70) rfl (by decide) ⟨rfl, rfl⟩ ⟨Nat.le_of_ble_eq_true rfl, Nat.le_of_ble_eq_true rfl⟩ hC hJ hS hl.1 rfl rfl (Nat.le_of_ble_eq_true rfl) ⟨show cells + 0 ≤ 655885 by omega, show slots + 0 ≤ 7134594 by omega⟩ zd_J_law_437 (fun H locs hJ hS => ?_)
  refine lv_icmp_eq (tgt := 854) hx hb zd_J_law_440 (by decide) (fun _ => ?_) (fun h => absurd rfl h)
  refine W.widen (k := cells + 1) (n := slots + 3) (by omega) (by omega) ?_
  exact kk H locs _ (zOg_twin hO _) hJ hS
theorem zj_lie (hC : zJC p s m c args b L xs D ka cb) (hO : zOk M) (hJ : zJS D ka cb M M H) (hS : va_S (zGA cb) s.heap H locs) {i : Nat} (hi : i + 6 ≤ L) (hL : L ≤ 3073) (hl : lv_has ls 4 [(3, .int (nI i)), (2, .ref (cb + 346)), (1, .ref cb), (0, .ref b)]) (hc : cells + 1 ≤ 655885) (hs : slots + 3 ≤ 7134594)
    (kk : ∀ (H1 : Heap) (locs1 : List Loc) (M1 : zM), zOk M1 → zJS D ka cb M1 M1 H1 → va_S (zGA cb) s.heap H1 locs1 → W p l e room_1 s m args below meth c H1 locs1 (cells + 1) (slots + 3) Q (F0 m 854 ls [])) : W p l e room_1 s m args below meth c H locs cells slots Q (F0 m 445 ls []) := by
  obtain ⟨hx, hb, -⟩ := id hC
  refine lv_aload_n hx hb zd_J_law_445 rfl (lv_at hl 2 rfl) ?_
  refine zJ_arg 1 hC hS hl hi hL (by decide) (by decide) zd_J_law_446 zd_J_law_447 zd_J_law_448 zd_J_law_449 zd_J_law_450 ?_
  refine zJ_ci (nA := 1) (As := [.int (xs (i + 1))]) (rest := []) (zc_m_X_lie l D ka cb M hO (xs (i + 1))) (zg_X_lie zk_J_71) rfl (by decide) ⟨rfl, rfl⟩ ⟨Nat.le_of_ble_eq_true rfl, Nat.le_of_ble_eq_true rfl⟩ hC hJ hS hl.1 rfl rfl (Nat.le_of_ble_eq_true rfl) ⟨show cells + 0 ≤ 655885 by omega, show slots + 0 ≤ 7134594 by omega⟩ zd_J_law_451 (fun H locs hJ hS => ?_)
  refine lv_aload_n hx hb zd_J_law_454 rfl (lv_at hl 1 rfl) ?_
  refine zJ_arg 1 hC hS hl hi hL (by decide) (by decide) zd_J_law_455 zd_J_law_456 zd_J_law_457 zd_J_law_458 zd_J_law_459 ?_
  refine zJ_ri (nA := 1) (As := [.int (xs (i + 1))]) (rest := [.int _]) (zm_lie l D ka (cb + 346) M (xs (i + 1))) (zg_M_lie zk_J_74) rfl (by decide) ⟨rfl, rfl⟩ ⟨Nat.le_of_ble_eq_true rfl, Nat.le_of_ble_eq_true rfl⟩ hC hJ hS hl.1 rfl rfl (Nat.le_of_ble_eq_true rfl) ⟨show cells + 0 ≤ 655885 by omega, show slots + 0 ≤ 7134594 by omega⟩ zd_J_law_460 (fun H locs hJ hS => ?_)
  refine lv_icmp_eq (tgt := 854) hx hb zd_J_law_463 (by decide) (fun _ => ?_) (fun h => absurd rfl h)
  refine W.widen (k := cells + 1) (n := slots + 3) (by omega) (by omega) ?_
  exact kk H locs _ (zOg_lie hO _) hJ hS
theorem zj_tell (hC : zJC p s m c args b L xs D ka cb) (hO : zOk M) (hJ : zJS D ka cb M M H) (hS : va_S (zGA cb) s.heap H locs) {i : Nat} (hi : i + 6 ≤ L) (hL : L ≤ 3073) (hl : lv_has ls 4 [(3, .int (nI i)), (2, .ref (cb + 346)), (1, .ref cb), (0, .ref b)]) (hc : cells + 1 ≤ 655885) (hs : slots + 3 ≤ 7134594)
    (kk : ∀ (H1 : Heap) (locs1 : List Loc) (M1 : zM), zOk M1 → zJS D ka cb M1 M1 H1 → va_S (zGA cb) s.heap H1 locs1 → W p l e room_1 s m args below meth c H1 locs1 (cells + 1) (slots + 3) Q (F0 m 854 ls [])) : W p l e room_1 s m args below meth c H locs cells slots Q (F0 m 468 ls []) := by
  obtain ⟨hx, hb, -⟩ := id hC
  refine lv_aload_n hx hb zd_J_law_468 rfl (lv_at hl 2 rfl) ?_
  refine zJ_arg 1 hC hS hl hi hL (by decide) (by decide) zd_J_law_469 zd_J_law_470 zd_J_law_471 zd_J_law_472 zd_J_law_473 ?_
  refine zJ_arg 2 hC hS hl hi hL (by decide) (by decide) zd_J_law_474 zd_J_law_475 zd_J_law_476 zd_J_law_477 zd_J_law_478 ?_
  refine zJ_arg 3 hC hS hl hi hL (by decide) (by decide) zd_J_law_479 zd_J_law_480 zd_J_law_481 zd_J_law_482 zd_J_law_483 ?_
  refine zJ_arg 4 hC hS hl hi hL (by decide) (by decide) zd_J_law_484 zd_J_law_485 zd_J_law_486 zd_J_law_487 zd_J_law_488 ?_
  refine zJ_arg 5 hC hS hl hi hL (by decide) (by decide) zd_J_law_489 zd_J_law_490 zd_J_law_491 zd_J_law_492 zd_J_law_493 ?_
  refine zJ_ci (nA := 5) (As := [.int (xs (i + 1)), .int (xs (i + 2)), .int (xs (i + 3)), .int (xs (i + 4)), .int (xs (i + 5))]) (rest := []) (zc_m_X_tell l D ka cb M (zOk_lt hO) (xs (i + 1)) (xs (i + 2)) (xs (i + 3)) (xs (i + 4)) (xs (i + 5))) (zg_X_tell zk_J_75) rfl (by decide) ⟨rfl, rfl⟩ ⟨Nat.le_of_ble_eq_true rfl, Nat.le_of_ble_eq_true rfl⟩ hC hJ hS hl.1 rfl rfl (Nat.le_of_ble_eq_true rfl) ⟨show cells + 1 ≤ 655885 by omega, show slots + 3 ≤ 7134594 by omega⟩ zd_J_law_494 (fun H locs hJ hS => ?_)
  refine lv_aload_n hx hb zd_J_law_497 rfl (lv_at hl 1 rfl) ?_
  refine zJ_arg 1 hC hS hl hi hL (by decide) (by decide) zd_J_law_498 zd_J_law_499 zd_J_law_500 zd_J_law_501 zd_J_law_502 ?_
  refine zJ_arg 2 hC hS hl hi hL (by decide) (by decide) zd_J_law_503 zd_J_law_504 zd_J_law_505 zd_J_law_506 zd_J_law_507 ?_
  refine zJ_arg 3 hC hS hl hi hL (by decide) (by decide) zd_J_law_508 zd_J_law_509 zd_J_law_510 zd_J_law_511 zd_J_law_512 ?_
  refine zJ_arg 4 hC hS hl hi hL (by decide) (by decide) zd_J_law_513 zd_J_law_514 zd_J_law_515 zd_J_law_516 zd_J_law_517 ?_
  refine zJ_arg 5 hC hS hl hi hL (by decide) (by decide) zd_J_law_518 zd_J_law_519 zd_J_law_520 zd_J_law_521 zd_J_law_522 ?_
  refine zJ_ri (nA := 5) (As := [.int (xs (i + 1)), .int (xs (i + 2)), .int (xs (i + 3)), .int (xs (i + 4)), .int (xs (i + 5))]) (rest := [.int _]) (zm_tell l D ka (cb + 346) M (zOk_lt hO) (xs (i + 1)) (xs (i + 2)) (xs (i + 3)) (xs (i + 4)) (xs (i + 5))) (zg_M_tell zk_J_79) rfl (by decide) ⟨rfl, rfl⟩ ⟨Nat.le_of_ble_eq_true rfl, Nat.le_of_ble_eq_true rfl⟩ hC hJ hS hl.1 rfl rfl (Nat.le_of_ble_eq_true rfl) ⟨show cells + 1 ≤ 655885 by omega, show slots + 3 ≤ 7134594 by omega⟩ zd_J_law_523 (fun H locs hJ hS => ?_)
  refine lv_icmp_eq (tgt := 854) hx hb zd_J_law_526 (by decide) (fun _ => ?_) (fun h => absurd rfl h)
  refine W.widen (k := cells + 1) (n := slots + 3) (by omega) (by omega) ?_
  exact kk H locs _ (zOg_tell hO _ _ _ _ _) hJ hS
theorem zj_receipt (hC : zJC p s m c args b L xs D ka cb) (hO : zOk M) (hJ : zJS D ka cb M M H) (hS : va_S (zGA cb) s.heap H locs) {i : Nat} (hi : i + 6 ≤ L) (hL : L ≤ 3073) (hl : lv_has ls 4 [(3, .int (nI i)), (2, .ref (cb + 346)), (1, .ref cb), (0, .ref b)]) (hc : cells + 1 ≤ 655885) (hs : slots + 3 ≤ 7134594)
    (kk : ∀ (H1 : Heap) (locs1 : List Loc) (M1 : zM), zOk M1 → zJS D ka cb M1 M1 H1 → va_S (zGA cb) s.heap H1 locs1 → W p l e room_1 s m args below meth c H1 locs1 (cells + 1) (slots + 3) Q (F0 m 854 ls [])) : W p l e room_1 s m args below meth c H locs cells slots Q (F0 m 531 ls []) := by
  obtain ⟨hx, hb, -⟩ := id hC
  refine lv_aload_n hx hb zd_J_law_531 rfl (lv_at hl 2 rfl) ?_
  refine zJ_arg 1 hC hS hl hi hL (by decide) (by decide) zd_J_law_532 zd_J_law_533 zd_J_law_534 zd_J_law_535 zd_J_law_536 ?_
  refine zJ_arg 2 hC hS hl hi hL (by decide) (by decide) zd_J_law_537 zd_J_law_538 zd_J_law_539 zd_J_law_540 zd_J_law_541 ?_
  refine zJ_ci (nA := 2) (As := [.int (xs (i + 1)), .int (xs (i + 2))]) (rest := []) (zc_m_X_receipt l D ka cb M (zOk_lt hO) (xs (i + 1)) (xs (i + 2))) (zg_X_receipt zk_J_80) rfl (by decide) ⟨rfl, rfl⟩ ⟨Nat.le_of_ble_eq_true rfl, Nat.le_of_ble_eq_true rfl⟩ hC hJ hS hl.1 rfl rfl (Nat.le_of_ble_eq_true rfl) ⟨show cells + 0 ≤ 655885 by omega, show slots + 0 ≤ 7134594 by omega⟩ zd_J_law_542 (fun H locs hJ hS => ?_)
  refine lv_aload_n hx hb zd_J_law_545 rfl (lv_at hl 1 rfl) ?_
  refine zJ_arg 1 hC hS hl hi hL (by decide) (by decide) zd_J_law_546 zd_J_law_547 zd_J_law_548 zd_J_law_549 zd_J_law_550 ?_
  refine zJ_arg 2 hC hS hl hi hL (by decide) (by decide) zd_J_law_551 zd_J_law_552 zd_J_law_553 zd_J_law_554 zd_J_law_555 ?_
  refine zJ_ri (nA := 2) (As := [.int (xs (i + 1)), .int (xs (i + 2))]) (rest := [.int _]) (zm_receipt l D ka (cb + 346) M (zOk_lt hO) (xs (i + 1)) (xs (i + 2))) (zg_M_receipt zk_J_83) rfl (by decide) ⟨rfl, rfl⟩ ⟨Nat.le_of_ble_eq_true rfl, Nat.le_of_ble_eq_true rfl⟩ hC hJ hS hl.1 rfl rfl (Nat.le_of_ble_eq_true rfl) ⟨show cells + 0 ≤ 655885 by omega, show slots + 0 ≤ 7134594 by omega⟩ zd_J_law_556 (fun H locs hJ hS => ?_)
  refine lv_icmp_eq (tgt := 854) hx hb zd_J_law_559 (by decide) (fun _ => ?_) (fun h => absurd rfl h)
  refine W.widen (k := cells + 1) (n := slots + 3) (by omega) (by omega) ?_
  exact kk H locs _ (zOg_receipt hO _ _) hJ hS
theorem zj_crash (hC : zJC p s m c args b L xs D ka cb) (hO : zOk M) (hJ : zJS D ka cb M M H) (hS : va_S (zGA cb) s.heap H locs) {i : Nat} (hi : i + 6 ≤ L) (hL : L ≤ 3073) (hl : lv_has ls 4 [(3, .int (nI i)), (2, .ref (cb + 346)), (1, .ref cb), (0, .ref b)]) (hc : cells + 1 ≤ 655885) (hs : slots + 3 ≤ 7134594)
    (kk : ∀ (H1 : Heap) (locs1 : List Loc) (M1 : zM), zOk M1 → zJS D ka cb M1 M1 H1 → va_S (zGA cb) s.heap H1 locs1 → W p l e room_1 s m args below meth c H1 locs1 (cells + 1) (slots + 3) Q (F0 m 854 ls [])) : W p l e room_1 s m args below meth c H locs cells slots Q (F0 m 564 ls []) := by
  obtain ⟨hx, hb, -⟩ := id hC
  refine lv_aload_n hx hb zd_J_law_564 rfl (lv_at hl 2 rfl) ?_
  refine zJ_arg 1 hC hS hl hi hL (by decide) (by decide) zd_J_law_565 zd_J_law_566 zd_J_law_567 zd_J_law_568 zd_J_law_569 ?_
  refine zJ_ci (nA := 1) (As := [.int (xs (i + 1))]) (rest := []) (zc_m_X_crash l D ka cb M (xs (i + 1))) (zg_X_crash zk_J_84) rfl (by decide) ⟨rfl, rfl⟩ ⟨Nat.le_of_ble_eq_true rfl, Nat.le_of_ble_eq_true rfl⟩ hC hJ hS hl.1 rfl rfl (Nat.le_of_ble_eq_true rfl) ⟨show cells + 0 ≤ 655885 by omega, show slots + 0 ≤ 7134594 by omega⟩ zd_J_law_570 (fun H locs hJ hS => ?_)
  refine lv_aload_n hx hb zd_J_law_573 rfl (lv_at hl 1 rfl) ?_
  refine zJ_arg 1 hC hS hl hi hL (by decide) (by decide) zd_J_law_574 zd_J_law_575 zd_J_law_576 zd_J_law_577 zd_J_law_578 ?_
  refine zJ_ri (nA := 1) (As := [.int (xs (i + 1))]) (rest := [.int _]) (zm_crash l D ka (cb + 346) M (xs (i + 1))) (zg_M_crash zk_J_87) rfl (by decide) ⟨rfl, rfl⟩ ⟨Nat.le_of_ble_eq_true rfl, Nat.le_of_ble_eq_true rfl⟩ hC hJ hS hl.1 rfl rfl (Nat.le_of_ble_eq_true rfl) ⟨show cells + 0 ≤ 655885 by omega, show slots + 0 ≤ 7134594 by omega⟩ zd_J_law_579 (fun H locs hJ hS => ?_)
  refine lv_icmp_eq (tgt := 854) hx hb zd_J_law_582 (by decide) (fun _ => ?_) (fun h => absurd rfl h)
  refine W.widen (k := cells + 1) (n := slots + 3) (by omega) (by omega) ?_
  exact kk H locs _ (zOg_crash hO _) hJ hS
theorem zj_restart (hC : zJC p s m c args b L xs D ka cb) (hO : zOk M) (hJ : zJS D ka cb M M H) (hS : va_S (zGA cb) s.heap H locs) {i : Nat} (hi : i + 6 ≤ L) (hL : L ≤ 3073) (hl : lv_has ls 4 [(3, .int (nI i)), (2, .ref (cb + 346)), (1, .ref cb), (0, .ref b)]) (hc : cells + 1 ≤ 655885) (hs : slots + 3 ≤ 7134594)
    (kk : ∀ (H1 : Heap) (locs1 : List Loc) (M1 : zM), zOk M1 → zJS D ka cb M1 M1 H1 → va_S (zGA cb) s.heap H1 locs1 → W p l e room_1 s m args below meth c H1 locs1 (cells + 1) (slots + 3) Q (F0 m 854 ls [])) : W p l e room_1 s m args below meth c H locs cells slots Q (F0 m 587 ls []) := by
  obtain ⟨hx, hb, -⟩ := id hC
  refine lv_aload_n hx hb zd_J_law_587 rfl (lv_at hl 2 rfl) ?_
  refine zJ_arg 1 hC hS hl hi hL (by decide) (by decide) zd_J_law_588 zd_J_law_589 zd_J_law_590 zd_J_law_591 zd_J_law_592 ?_
  refine zJ_ci (nA := 1) (As := [.int (xs (i + 1))]) (rest := []) (zc_m_X_restart l D ka cb M (xs (i + 1))) (zg_X_restart zk_J_88) rfl (by decide) ⟨rfl, rfl⟩ ⟨Nat.le_of_ble_eq_true rfl, Nat.le_of_ble_eq_true rfl⟩ hC hJ hS hl.1 rfl rfl (Nat.le_of_ble_eq_true rfl) ⟨show cells + 0 ≤ 655885 by omega, show slots + 0 ≤ 7134594 by omega⟩ zd_J_law_593 (fun H locs hJ hS => ?_)
  refine lv_aload_n hx hb zd_J_law_596 rfl (lv_at hl 1 rfl) ?_
  refine zJ_arg 1 hC hS hl hi hL (by decide) (by decide) zd_J_law_597 zd_J_law_598 zd_J_law_599 zd_J_law_600 zd_J_law_601 ?_
  refine zJ_ri (nA := 1) (As := [.int (xs (i + 1))]) (rest := [.int _]) (zm_restart l D ka (cb + 346) M (xs (i + 1))) (zg_M_restart zk_J_91) rfl (by decide) ⟨rfl, rfl⟩ ⟨Nat.le_of_ble_eq_true rfl, Nat.le_of_ble_eq_true rfl⟩ hC hJ hS hl.1 rfl rfl (Nat.le_of_ble_eq_true rfl) ⟨show cells + 0 ≤ 655885 by omega, show slots + 0 ≤ 7134594 by omega⟩ zd_J_law_602 (fun H locs hJ hS => ?_)
  refine lv_icmp_eq (tgt := 854) hx hb zd_J_law_605 (by decide) (fun _ => ?_) (fun h => absurd rfl h)
  refine W.widen (k := cells + 1) (n := slots + 3) (by omega) (by omega) ?_
  exact kk H locs _ (zOg_restart hO _) hJ hS
end ZJC1
