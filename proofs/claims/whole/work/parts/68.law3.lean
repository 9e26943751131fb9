set_option maxRecDepth 100000 in
set_option maxHeartbeats 4000000 in
theorem o_waiting {p : Program} {l : Launch} {e : Env} {s : State} {m : MethodId} {args : Array Value} {below : List Frame} {meth : Method} {c : Code} {H : Heap} {ls : Array Slot} {cells slots : Nat} {Q : State → Prop} {X : WX} {S : Nat → Nat → Nat} {b L V i : Nat} {xs : Nat → Int32} (C0 : LwS p m c s args ls H X S b L V i xs cells slots) (nx : LwN p l e s m args below meth c ls H cells slots Q X V) : W p l e room_1 s m args below meth c H [] cells slots Q (F0 m 496 ls []) := by
  obtain ⟨cf, hX, hK, hN, hP, hV, hV1, hsc, hbl, hbA, hi, hL, hl, hcs⟩ := C0
  have hx := cf.1
  have hb := cf.2.1
  have hS : va_S (xA X) H H [] := va_S.rf
  obtain ⟨hmm, heq, hkv⟩ := hV.quest (q := nI (S 38 0)) (r := nI (S 0 6)) hV1 (by rw [hV.1.2.2.2.2.2.2.2.1.1])
  refine lv_aload_n hx hb d_L_law_496 rfl (lv_at hl 1 rfl) ?_
  refine x_callVi (As := []) (rest := []) cf hK hN hP hS (k_T_waiting l hX hV.2.1 ) (cw_T_waiting cf.2.2.2.2 w_389 ⟨Nat.le_of_ble_eq_true rfl, Nat.le_of_ble_eq_true rfl⟩) (rv_T hK hP) hl.1 rfl rfl (Nat.le_of_ble_eq_true rfl) hcs d_L_law_497 (fun H1 locs1 hP hS => ?_)
  refine lv_aload_n hx hb d_L_law_500 rfl (lv_at hl 2 rfl) ?_
  refine x_callVi (As := []) (rest := [.int (nI (S 38 0))]) cf hK hN hP hS (k_M_waiting l hX hmm.1 ) (cw_M_waiting cf.2.2.2.2 w_675 ⟨Nat.le_of_ble_eq_true rfl, Nat.le_of_ble_eq_true rfl⟩) (rv_M hK hP) hl.1 rfl rfl (Nat.le_of_ble_eq_true rfl) hcs d_L_law_501 (fun H1 locs1 hP hS => ?_)
  refine lv_icmp_eq (tgt := 746) hx hb d_L_law_504 (by decide) (fun _ => nx _ _ _ hP hS hkv) (fun h => absurd heq h)
set_option maxRecDepth 100000 in
set_option maxHeartbeats 4000000 in
theorem o_message {p : Program} {l : Launch} {e : Env} {s : State} {m : MethodId} {args : Array Value} {below : List Frame} {meth : Method} {c : Code} {H : Heap} {ls : Array Slot} {cells slots : Nat} {Q : State → Prop} {X : WX} {S : Nat → Nat → Nat} {b L V i : Nat} {xs : Nat → Int32} (C0 : LwS p m c s args ls H X S b L V i xs cells slots) (nx : LwN p l e s m args below meth c ls H cells slots Q X V) : W p l e room_1 s m args below meth c H [] cells slots Q (F0 m 509 ls []) := by
  obtain ⟨cf, hX, hK, hN, hP, hV, hV1, hsc, hbl, hbA, hi, hL, hl, hcs⟩ := C0
  have hx := cf.1
  have hb := cf.2.1
  have hS : va_S (xA X) H H [] := va_S.rf
  obtain ⟨hmm, heq, hkv⟩ := hV.quest hV1 (hV.1.message (xs (i + 1)))
  refine lv_aload_n hx hb d_L_law_509 rfl (lv_at hl 1 rfl) ?_
  refine l_arg (j := 1) cf hl hsc hbl hbA hS (by omega) hL (by decide) d_L_law_510 d_L_law_511 d_L_law_512 d_L_law_513 d_L_law_514 ?_
  refine x_callVi (As := [.int (xs (i + 1))]) (rest := []) cf hK hN hP hS (k_T_message l hX hV.2.1 (xs (i + 1))) (cw_T_message cf.2.2.2.2 w_393 ⟨Nat.le_of_ble_eq_true rfl, Nat.le_of_ble_eq_true rfl⟩) (rv_T hK hP) hl.1 rfl rfl (Nat.le_of_ble_eq_true rfl) hcs d_L_law_515 (fun H1 locs1 hP hS => ?_)
  refine lv_aload_n hx hb d_L_law_518 rfl (lv_at hl 2 rfl) ?_
  refine l_arg (j := 1) cf hl hsc hbl hbA hS (by omega) hL (by decide) d_L_law_519 d_L_law_520 d_L_law_521 d_L_law_522 d_L_law_523 ?_
  refine x_callVi (As := [.int (xs (i + 1))]) (rest := [.int (qMessage S (xs (i + 1)))]) cf hK hN hP hS (k_M_message l hX hmm.1 (xs (i + 1))) (cw_M_message cf.2.2.2.2 w_679 ⟨Nat.le_of_ble_eq_true rfl, Nat.le_of_ble_eq_true rfl⟩) (rv_M hK hP) hl.1 rfl rfl (Nat.le_of_ble_eq_true rfl) hcs d_L_law_524 (fun H1 locs1 hP hS => ?_)
  refine lv_icmp_eq (tgt := 746) hx hb d_L_law_527 (by decide) (fun _ => nx _ _ _ hP hS hkv) (fun h => absurd heq h)
set_option maxRecDepth 100000 in
set_option maxHeartbeats 4000000 in
theorem o_block {p : Program} {l : Launch} {e : Env} {s : State} {m : MethodId} {args : Array Value} {below : List Frame} {meth : Method} {c : Code} {H : Heap} {ls : Array Slot} {cells slots : Nat} {Q : State → Prop} {X : WX} {S : Nat → Nat → Nat} {b L V i : Nat} {xs : Nat → Int32} (C0 : LwS p m c s args ls H X S b L V i xs cells slots) (nx : LwN p l e s m args below meth c ls H cells slots Q X V) : W p l e room_1 s m args below meth c H [] cells slots Q (F0 m 532 ls []) := by
  obtain ⟨cf, hX, hK, hN, hP, hV, hV1, hsc, hbl, hbA, hi, hL, hl, hcs⟩ := C0
  have hx := cf.1
  have hb := cf.2.1
  have hS : va_S (xA X) H H [] := va_S.rf
  obtain ⟨hmm, heq, hkv⟩ := hV.quest hV1 (hV.1.block (xs (i + 1)))
  refine lv_aload_n hx hb d_L_law_532 rfl (lv_at hl 1 rfl) ?_
  refine l_arg (j := 1) cf hl hsc hbl hbA hS (by omega) hL (by decide) d_L_law_533 d_L_law_534 d_L_law_535 d_L_law_536 d_L_law_537 ?_
  refine x_callVi (As := [.int (xs (i + 1))]) (rest := []) cf hK hN hP hS (k_T_block l hX hV.2.1 (xs (i + 1))) (cw_T_block cf.2.2.2.2 w_397 ⟨Nat.le_of_ble_eq_true rfl, Nat.le_of_ble_eq_true rfl⟩) (rv_T hK hP) hl.1 rfl rfl (Nat.le_of_ble_eq_true rfl) hcs d_L_law_538 (fun H1 locs1 hP hS => ?_)
  refine lv_aload_n hx hb d_L_law_541 rfl (lv_at hl 2 rfl) ?_
  refine l_arg (j := 1) cf hl hsc hbl hbA hS (by omega) hL (by decide) d_L_law_542 d_L_law_543 d_L_law_544 d_L_law_545 d_L_law_546 ?_
  refine x_callVi (As := [.int (xs (i + 1))]) (rest := [.int (qBlock S (xs (i + 1)))]) cf hK hN hP hS (k_M_block l hX hmm.1 (xs (i + 1))) (cw_M_block cf.2.2.2.2 w_683 ⟨Nat.le_of_ble_eq_true rfl, Nat.le_of_ble_eq_true rfl⟩) (rv_M hK hP) hl.1 rfl rfl (Nat.le_of_ble_eq_true rfl) hcs d_L_law_547 (fun H1 locs1 hP hS => ?_)
  refine lv_icmp_eq (tgt := 746) hx hb d_L_law_550 (by decide) (fun _ => nx _ _ _ hP hS hkv) (fun h => absurd heq h)
set_option maxRecDepth 100000 in
set_option maxHeartbeats 4000000 in
theorem o_payload {p : Program} {l : Launch} {e : Env} {s : State} {m : MethodId} {args : Array Value} {below : List Frame} {meth : Method} {c : Code} {H : Heap} {ls : Array Slot} {cells slots : Nat} {Q : State → Prop} {X : WX} {S : Nat → Nat → Nat} {b L V i : Nat} {xs : Nat → Int32} (C0 : LwS p m c s args ls H X S b L V i xs cells slots) (nx : LwN p l e s m args below meth c ls H cells slots Q X V) : W p l e room_1 s m args below meth c H [] cells slots Q (F0 m 555 ls []) := by
  obtain ⟨cf, hX, hK, hN, hP, hV, hV1, hsc, hbl, hbA, hi, hL, hl, hcs⟩ := C0
  have hx := cf.1
  have hb := cf.2.1
  have hS : va_S (xA X) H H [] := va_S.rf
  obtain ⟨hmm, heq, hkv⟩ := hV.quest hV1 (hV.1.payload (xs (i + 1)))
  refine lv_aload_n hx hb d_L_law_555 rfl (lv_at hl 1 rfl) ?_
  refine l_arg (j := 1) cf hl hsc hbl hbA hS (by omega) hL (by decide) d_L_law_556 d_L_law_557 d_L_law_558 d_L_law_559 d_L_law_560 ?_
  refine x_callVi (As := [.int (xs (i + 1))]) (rest := []) cf hK hN hP hS (k_T_payload l hX hV.2.1 (xs (i + 1))) (cw_T_payload cf.2.2.2.2 w_401 ⟨Nat.le_of_ble_eq_true rfl, Nat.le_of_ble_eq_true rfl⟩) (rv_T hK hP) hl.1 rfl rfl (Nat.le_of_ble_eq_true rfl) hcs d_L_law_561 (fun H1 locs1 hP hS => ?_)
  refine lv_aload_n hx hb d_L_law_564 rfl (lv_at hl 2 rfl) ?_
  refine l_arg (j := 1) cf hl hsc hbl hbA hS (by omega) hL (by decide) d_L_law_565 d_L_law_566 d_L_law_567 d_L_law_568 d_L_law_569 ?_
  refine x_callVi (As := [.int (xs (i + 1))]) (rest := [.int (qPayload S (xs (i + 1)))]) cf hK hN hP hS (k_M_payload l hX hmm.1 (xs (i + 1))) (cw_M_payload cf.2.2.2.2 w_687 ⟨Nat.le_of_ble_eq_true rfl, Nat.le_of_ble_eq_true rfl⟩) (rv_M hK hP) hl.1 rfl rfl (Nat.le_of_ble_eq_true rfl) hcs d_L_law_570 (fun H1 locs1 hP hS => ?_)
  refine lv_icmp_eq (tgt := 746) hx hb d_L_law_573 (by decide) (fun _ => nx _ _ _ hP hS hkv) (fun h => absurd heq h)
set_option maxRecDepth 100000 in
set_option maxHeartbeats 4000000 in
theorem o_votes {p : Program} {l : Launch} {e : Env} {s : State} {m : MethodId} {args : Array Value} {below : List Frame} {meth : Method} {c : Code} {H : Heap} {ls : Array Slot} {cells slots : Nat} {Q : State → Prop} {X : WX} {S : Nat → Nat → Nat} {b L V i : Nat} {xs : Nat → Int32} (C0 : LwS p m c s args ls H X S b L V i xs cells slots) (nx : LwN p l e s m args below meth c ls H cells slots Q X V) : W p l e room_1 s m args below meth c H [] cells slots Q (F0 m 578 ls []) := by
  obtain ⟨cf, hX, hK, hN, hP, hV, hV1, hsc, hbl, hbA, hi, hL, hl, hcs⟩ := C0
  have hx := cf.1
  have hb := cf.2.1
  have hS : va_S (xA X) H H [] := va_S.rf
  obtain ⟨hmm, heq, hkv⟩ := hV.quest hV1 (hV.1.votes (xs (i + 1)))
  refine lv_aload_n hx hb d_L_law_578 rfl (lv_at hl 1 rfl) ?_
  refine l_arg (j := 1) cf hl hsc hbl hbA hS (by omega) hL (by decide) d_L_law_579 d_L_law_580 d_L_law_581 d_L_law_582 d_L_law_583 ?_
  refine x_callVi (As := [.int (xs (i + 1))]) (rest := []) cf hK hN hP hS (k_T_votes l hX hV.2.1 (xs (i + 1))) (cw_T_votes cf.2.2.2.2 w_405 ⟨Nat.le_of_ble_eq_true rfl, Nat.le_of_ble_eq_true rfl⟩) (rv_T hK hP) hl.1 rfl rfl (Nat.le_of_ble_eq_true rfl) hcs d_L_law_584 (fun H1 locs1 hP hS => ?_)
  refine lv_aload_n hx hb d_L_law_587 rfl (lv_at hl 2 rfl) ?_
  refine l_arg (j := 1) cf hl hsc hbl hbA hS (by omega) hL (by decide) d_L_law_588 d_L_law_589 d_L_law_590 d_L_law_591 d_L_law_592 ?_
  refine x_callVi (As := [.int (xs (i + 1))]) (rest := [.int (qVotes S (xs (i + 1)))]) cf hK hN hP hS (k_M_votes l hX hmm.1 (xs (i + 1))) (cw_M_votes cf.2.2.2.2 w_691 ⟨Nat.le_of_ble_eq_true rfl, Nat.le_of_ble_eq_true rfl⟩) (rv_M hK hP) hl.1 rfl rfl (Nat.le_of_ble_eq_true rfl) hcs d_L_law_593 (fun H1 locs1 hP hS => ?_)
  refine lv_icmp_eq (tgt := 746) hx hb d_L_law_596 (by decide) (fun _ => nx _ _ _ hP hS hkv) (fun h => absurd heq h)
set_option maxRecDepth 100000 in
set_option maxHeartbeats 4000000 in
theorem o_state {p : Program} {l : Launch} {e : Env} {s : State} {m : MethodId} {args : Array Value} {below : List Frame} {meth : Method} {c : Code} {H : Heap} {ls : Array Slot} {cells slots : Nat} {Q : State → Prop} {X : WX} {S : Nat → Nat → Nat} {b L V i : Nat} {xs : Nat → Int32} (C0 : LwS p m c s args ls H X S b L V i xs cells slots) (nx : LwN p l e s m args below meth c ls H cells slots Q X V) : W p l e room_1 s m args below meth c H [] cells slots Q (F0 m 601 ls []) := by
  obtain ⟨cf, hX, hK, hN, hP, hV, hV1, hsc, hbl, hbA, hi, hL, hl, hcs⟩ := C0
  have hx := cf.1
  have hb := cf.2.1
  have hS : va_S (xA X) H H [] := va_S.rf
  obtain ⟨hmm, heq, hkv⟩ := hV.quest hV1 (hV.1.state (xs (i + 1)) (xs (i + 2)))
  refine lv_aload_n hx hb d_L_law_601 rfl (lv_at hl 1 rfl) ?_
  refine l_arg (j := 1) cf hl hsc hbl hbA hS (by omega) hL (by decide) d_L_law_602 d_L_law_603 d_L_law_604 d_L_law_605 d_L_law_606 ?_
  refine l_arg (j := 2) cf hl hsc hbl hbA hS (by omega) hL (by decide) d_L_law_607 d_L_law_608 d_L_law_609 d_L_law_610 d_L_law_611 ?_
  refine x_callVi (As := [.int (xs (i + 1)), .int (xs (i + 2))]) (rest := []) cf hK hN hP hS (k_T_state l hX hV.2.1 (xs (i + 1)) (xs (i + 2))) (cw_T_state cf.2.2.2.2 w_409 ⟨Nat.le_of_ble_eq_true rfl, Nat.le_of_ble_eq_true rfl⟩) (rv_T hK hP) hl.1 rfl rfl (Nat.le_of_ble_eq_true rfl) hcs d_L_law_612 (fun H1 locs1 hP hS => ?_)
  refine lv_aload_n hx hb d_L_law_615 rfl (lv_at hl 2 rfl) ?_
  refine l_arg (j := 1) cf hl hsc hbl hbA hS (by omega) hL (by decide) d_L_law_616 d_L_law_617 d_L_law_618 d_L_law_619 d_L_law_620 ?_
  refine l_arg (j := 2) cf hl hsc hbl hbA hS (by omega) hL (by decide) d_L_law_621 d_L_law_622 d_L_law_623 d_L_law_624 d_L_law_625 ?_
  refine x_callVi (As := [.int (xs (i + 1)), .int (xs (i + 2))]) (rest := [.int (qState S X.2.2.1 (xs (i + 1)) (xs (i + 2)))]) cf hK hN hP hS (k_M_state l hX hmm.1 (xs (i + 1)) (xs (i + 2))) (cw_M_state cf.2.2.2.2 w_695 ⟨Nat.le_of_ble_eq_true rfl, Nat.le_of_ble_eq_true rfl⟩) (rv_M hK hP) hl.1 rfl rfl (Nat.le_of_ble_eq_true rfl) hcs d_L_law_626 (fun H1 locs1 hP hS => ?_)
  refine lv_icmp_eq (tgt := 746) hx hb d_L_law_629 (by decide) (fun _ => nx _ _ _ hP hS hkv) (fun h => absurd heq h)
set_option maxRecDepth 100000 in
set_option maxHeartbeats 4000000 in
theorem o_committed {p : Program} {l : Launch} {e : Env} {s : State} {m : MethodId} {args : Array Value} {below : List Frame} {meth : Method} {c : Code} {H : Heap} {ls : Array Slot} {cells slots : Nat} {Q : State → Prop} {X : WX} {S : Nat → Nat → Nat} {b L V i : Nat} {xs : Nat → Int32} (C0 : LwS p m c s args ls H X S b L V i xs cells slots) (nx : LwN p l e s m args below meth c ls H cells slots Q X V) : W p l e room_1 s m args below meth c H [] cells slots Q (F0 m 634 ls []) := by
  obtain ⟨cf, hX, hK, hN, hP, hV, hV1, hsc, hbl, hbA, hi, hL, hl, hcs⟩ := C0
  have hx := cf.1
  have hb := cf.2.1
  have hS : va_S (xA X) H H [] := va_S.rf
  obtain ⟨hmm, heq, hkv⟩ := hV.committed hV1 (xs (i + 1)) (xs (i + 2))
  refine lv_aload_n hx hb d_L_law_634 rfl (lv_at hl 1 rfl) ?_
  refine l_arg (j := 1) cf hl hsc hbl hbA hS (by omega) hL (by decide) d_L_law_635 d_L_law_636 d_L_law_637 d_L_law_638 d_L_law_639 ?_
  refine l_arg (j := 2) cf hl hsc hbl hbA hS (by omega) hL (by decide) d_L_law_640 d_L_law_641 d_L_law_642 d_L_law_643 d_L_law_644 ?_
  refine x_callVi (As := [.int (xs (i + 1)), .int (xs (i + 2))]) (rest := []) cf hK hN hP hS (k_T_committed l hX hV.2.1 (xs (i + 1)) (xs (i + 2))) (cw_T_committed cf.2.2.2.2 w_413 ⟨Nat.le_of_ble_eq_true rfl, Nat.le_of_ble_eq_true rfl⟩) (rv_T hK hP) hl.1 rfl rfl (Nat.le_of_ble_eq_true rfl) hcs d_L_law_645 (fun H1 locs1 hP hS => ?_)
  refine lv_aload_n hx hb d_L_law_648 rfl (lv_at hl 2 rfl) ?_
  refine l_arg (j := 1) cf hl hsc hbl hbA hS (by omega) hL (by decide) d_L_law_649 d_L_law_650 d_L_law_651 d_L_law_652 d_L_law_653 ?_
  refine l_arg (j := 2) cf hl hsc hbl hbA hS (by omega) hL (by decide) d_L_law_654 d_L_law_655 d_L_law_656 d_L_law_657 d_L_law_658 ?_
  refine x_callVi (As := [.int (xs (i + 1)), .int (xs (i + 2))]) (rest := [.int (qCommitted S (xs (i + 1)) (xs (i + 2)))]) cf hK hN hP hS (k_M_committed l hX hmm.1 hmm.2.2 (xs (i + 1)) (xs (i + 2))) (cw_M_committed cf.2.2.2.2 w_703 ⟨Nat.le_of_ble_eq_true rfl, Nat.le_of_ble_eq_true rfl⟩) (rv_M hK hP) hl.1 rfl rfl (Nat.le_of_ble_eq_true rfl) hcs d_L_law_659 (fun H1 locs1 hP hS => ?_)
  refine lv_icmp_eq (tgt := 746) hx hb d_L_law_662 (by decide) (fun _ => nx _ _ _ hP hS hkv) (fun h => absurd heq h)
set_option maxRecDepth 100000 in
set_option maxHeartbeats 4000000 in
theorem o_balance {p : Program} {l : Launch} {e : Env} {s : State} {m : MethodId} {args : Array Value} {below : List Frame} {meth : Method} {c : Code} {H : Heap} {ls : Array Slot} {cells slots : Nat} {Q : State → Prop} {X : WX} {S : Nat → Nat → Nat} {b L V i : Nat} {xs : Nat → Int32} (C0 : LwS p m c s args ls H X S b L V i xs cells slots) (nx : LwN p l e s m args below meth c ls H cells slots Q X V) : W p l e room_1 s m args below meth c H [] cells slots Q (F0 m 667 ls []) := by
  obtain ⟨cf, hX, hK, hN, hP, hV, hV1, hsc, hbl, hbA, hi, hL, hl, hcs⟩ := C0
  have hx := cf.1
  have hb := cf.2.1
  have hS : va_S (xA X) H H [] := va_S.rf
  obtain ⟨hmm, heq, hkv⟩ := hV.balance hV1 (xs (i + 1)) (xs (i + 2))
  refine lv_aload_n hx hb d_L_law_667 rfl (lv_at hl 1 rfl) ?_
  refine l_arg (j := 1) cf hl hsc hbl hbA hS (by omega) hL (by decide) d_L_law_668 d_L_law_669 d_L_law_670 d_L_law_671 d_L_law_672 ?_
  refine l_arg (j := 2) cf hl hsc hbl hbA hS (by omega) hL (by decide) d_L_law_673 d_L_law_674 d_L_law_675 d_L_law_676 d_L_law_677 ?_
  refine x_callVi (As := [.int (xs (i + 1)), .int (xs (i + 2))]) (rest := []) cf hK hN hP hS (k_T_balance l hX hV.2.1 (xs (i + 1)) (xs (i + 2))) (cw_T_balance cf.2.2.2.2 w_422 ⟨Nat.le_of_ble_eq_true rfl, Nat.le_of_ble_eq_true rfl⟩) (rv_T hK hP) hl.1 rfl rfl (Nat.le_of_ble_eq_true rfl) hcs d_L_law_678 (fun H1 locs1 hP hS => ?_)
  refine lv_aload_n hx hb d_L_law_681 rfl (lv_at hl 2 rfl) ?_
  refine l_arg (j := 1) cf hl hsc hbl hbA hS (by omega) hL (by decide) d_L_law_682 d_L_law_683 d_L_law_684 d_L_law_685 d_L_law_686 ?_
  refine l_arg (j := 2) cf hl hsc hbl hbA hS (by omega) hL (by decide) d_L_law_687 d_L_law_688 d_L_law_689 d_L_law_690 d_L_law_691 ?_
  refine x_callVi (As := [.int (xs (i + 1)), .int (xs (i + 2))]) (rest := [.int (qBalance S (xs (i + 1)) (xs (i + 2)))]) cf hK hN hP hS (k_M_balance l hX hmm.1 hmm.2.2 (xs (i + 1)) (xs (i + 2))) (cw_M_balance cf.2.2.2.2 w_711 ⟨Nat.le_of_ble_eq_true rfl, Nat.le_of_ble_eq_true rfl⟩) (rv_M hK hP) hl.1 rfl rfl (Nat.le_of_ble_eq_true rfl) hcs d_L_law_692 (fun H1 locs1 hP hS => ?_)
  refine lv_icmp_eq (tgt := 746) hx hb d_L_law_695 (by decide) (fun _ => nx _ _ _ hP hS hkv) (fun h => absurd heq h)
set_option maxRecDepth 100000 in
set_option maxHeartbeats 4000000 in
theorem o_outcome {p : Program} {l : Launch} {e : Env} {s : State} {m : MethodId} {args : Array Value} {below : List Frame} {meth : Method} {c : Code} {H : Heap} {ls : Array Slot} {cells slots : Nat} {Q : State → Prop} {X : WX} {S : Nat → Nat → Nat} {b L V i : Nat} {xs : Nat → Int32} (C0 : LwS p m c s args ls H X S b L V i xs cells slots) (nx : LwN p l e s m args below meth c ls H cells slots Q X V) : W p l e room_1 s m args below meth c H [] cells slots Q (F0 m 700 ls []) := by
  obtain ⟨cf, hX, hK, hN, hP, hV, hV1, hsc, hbl, hbA, hi, hL, hl, hcs⟩ := C0
  have hx := cf.1
  have hb := cf.2.1
  have hS : va_S (xA X) H H [] := va_S.rf
  obtain ⟨hmm, heq, hkv⟩ := hV.outcome hV1 (xs (i + 1)) (xs (i + 2))
  refine lv_aload_n hx hb d_L_law_700 rfl (lv_at hl 1 rfl) ?_
  refine l_arg (j := 1) cf hl hsc hbl hbA hS (by omega) hL (by decide) d_L_law_701 d_L_law_702 d_L_law_703 d_L_law_704 d_L_law_705 ?_
  refine l_arg (j := 2) cf hl hsc hbl hbA hS (by omega) hL (by decide) d_L_law_706 d_L_law_707 d_L_law_708 d_L_law_709 d_L_law_710 ?_
  refine x_callVi (As := [.int (xs (i + 1)), .int (xs (i + 2))]) (rest := []) cf hK hN hP hS (k_T_outcome l hX hV.2.1 (xs (i + 1)) (xs (i + 2))) (cw_T_outcome cf.2.2.2.2 w_440 ⟨Nat.le_of_ble_eq_true rfl, Nat.le_of_ble_eq_true rfl⟩) (rv_T hK hP) hl.1 rfl rfl (Nat.le_of_ble_eq_true rfl) hcs d_L_law_711 (fun H1 locs1 hP hS => ?_)
  refine lv_aload_n hx hb d_L_law_714 rfl (lv_at hl 2 rfl) ?_
  refine l_arg (j := 1) cf hl hsc hbl hbA hS (by omega) hL (by decide) d_L_law_715 d_L_law_716 d_L_law_717 d_L_law_718 d_L_law_719 ?_
  refine l_arg (j := 2) cf hl hsc hbl hbA hS (by omega) hL (by decide) d_L_law_720 d_L_law_721 d_L_law_722 d_L_law_723 d_L_law_724 ?_
  refine x_callVi (As := [.int (xs (i + 1)), .int (xs (i + 2))]) (rest := [.int (qOutcome S (xs (i + 1)) (xs (i + 2)))]) cf hK hN hP hS (k_M_outcome l hX hmm.1 hmm.2.2 (xs (i + 1)) (xs (i + 2))) (cw_M_outcome cf.2.2.2.2 w_719 ⟨Nat.le_of_ble_eq_true rfl, Nat.le_of_ble_eq_true rfl⟩) (rv_M hK hP) hl.1 rfl rfl (Nat.le_of_ble_eq_true rfl) hcs d_L_law_725 (fun H1 locs1 hP hS => ?_)
  refine lv_icmp_eq (tgt := 746) hx hb d_L_law_728 (by decide) (fun _ => nx _ _ _ hP hS hkv) (fun h => absurd heq h)
set_option maxRecDepth 100000 in
set_option maxHeartbeats 4000000 in
theorem o_lost {p : Program} {l : Launch} {e : Env} {s : State} {m : MethodId} {args : Array Value} {below : List Frame} {meth : Method} {c : Code} {H : Heap} {ls : Array Slot} {cells slots : Nat} {Q : State → Prop} {X : WX} {S : Nat → Nat → Nat} {b L V i : Nat} {xs : Nat → Int32} (C0 : LwS p m c s args ls H X S b L V i xs cells slots) (nx : LwN p l e s m args below meth c ls H cells slots Q X V) : W p l e room_1 s m args below meth c H [] cells slots Q (F0 m 733 ls []) := by
  obtain ⟨cf, hX, hK, hN, hP, hV, hV1, hsc, hbl, hbA, hi, hL, hl, hcs⟩ := C0
  have hx := cf.1
  have hb := cf.2.1
  have hS : va_S (xA X) H H [] := va_S.rf
  obtain ⟨hmm, heq, hkv⟩ := hV.quest (q := nI (S 38 1)) (r := nI (S 0 7)) hV1 (by rw [hV.1.2.2.2.2.2.2.2.1.2.1])
  refine lv_aload_n hx hb d_L_law_733 rfl (lv_at hl 1 rfl) ?_
  refine x_callVi (As := []) (rest := []) cf hK hN hP hS (k_T_lost l hX hV.2.1 ) (cw_T_lost cf.2.2.2.2 w_448 ⟨Nat.le_of_ble_eq_true rfl, Nat.le_of_ble_eq_true rfl⟩) (rv_T hK hP) hl.1 rfl rfl (Nat.le_of_ble_eq_true rfl) hcs d_L_law_734 (fun H1 locs1 hP hS => ?_)
  refine lv_aload_n hx hb d_L_law_737 rfl (lv_at hl 2 rfl) ?_
  refine x_callVi (As := []) (rest := [.int (nI (S 38 1))]) cf hK hN hP hS (k_M_lost l hX hmm.1 ) (cw_M_lost cf.2.2.2.2 w_723 ⟨Nat.le_of_ble_eq_true rfl, Nat.le_of_ble_eq_true rfl⟩) (rv_M hK hP) hl.1 rfl rfl (Nat.le_of_ble_eq_true rfl) hcs d_L_law_738 (fun H1 locs1 hP hS => ?_)
  refine lv_icmp_eq (tgt := 746) hx hb d_L_law_741 (by decide) (fun _ => nx _ _ _ hP hS hkv) (fun h => absurd heq h)
