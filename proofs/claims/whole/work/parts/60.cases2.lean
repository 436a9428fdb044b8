/-! the law: calls 7 to 13 -/
theorem dL_law_539 : decode cL_law 539 = .ok (.aload_n 1, 1) := by decide +kernel
theorem dL_law_540 : decode cL_law 540 = .ok (.aload_n 0, 1) := by decide +kernel
theorem dL_law_541 : decode cL_law 541 = .ok (.iload_n 3, 1) := by decide +kernel
theorem dL_law_542 : decode cL_law 542 = .ok (.iconst 1, 1) := by decide +kernel
theorem dL_law_543 : decode cL_law 543 = .ok (.iadd, 1) := by decide +kernel
theorem dL_law_544 : decode cL_law 544 = .ok (.iaload, 1) := by decide +kernel
theorem dL_law_545 : decode cL_law 545 = .ok (.aload_n 0, 1) := by decide +kernel
theorem dL_law_546 : decode cL_law 546 = .ok (.iload_n 3, 1) := by decide +kernel
theorem dL_law_547 : decode cL_law 547 = .ok (.iconst 2, 1) := by decide +kernel
theorem dL_law_548 : decode cL_law 548 = .ok (.iadd, 1) := by decide +kernel
theorem dL_law_549 : decode cL_law 549 = .ok (.iaload, 1) := by decide +kernel
theorem dL_law_550 : decode cL_law 550 = .ok (.aload_n 0, 1) := by decide +kernel
theorem dL_law_551 : decode cL_law 551 = .ok (.iload_n 3, 1) := by decide +kernel
theorem dL_law_552 : decode cL_law 552 = .ok (.iconst 3, 1) := by decide +kernel
theorem dL_law_553 : decode cL_law 553 = .ok (.iadd, 1) := by decide +kernel
theorem dL_law_554 : decode cL_law 554 = .ok (.iaload, 1) := by decide +kernel
theorem dL_law_555 : decode cL_law 555 = .ok (.invokevirtual 48, 3) := by decide +kernel
theorem dL_law_558 : decode cL_law 558 = .ok (.aload_n 2, 1) := by decide +kernel
theorem dL_law_559 : decode cL_law 559 = .ok (.aload_n 0, 1) := by decide +kernel
theorem dL_law_560 : decode cL_law 560 = .ok (.iload_n 3, 1) := by decide +kernel
theorem dL_law_561 : decode cL_law 561 = .ok (.iconst 1, 1) := by decide +kernel
theorem dL_law_562 : decode cL_law 562 = .ok (.iadd, 1) := by decide +kernel
theorem dL_law_563 : decode cL_law 563 = .ok (.iaload, 1) := by decide +kernel
theorem dL_law_564 : decode cL_law 564 = .ok (.aload_n 0, 1) := by decide +kernel
theorem dL_law_565 : decode cL_law 565 = .ok (.iload_n 3, 1) := by decide +kernel
theorem dL_law_566 : decode cL_law 566 = .ok (.iconst 2, 1) := by decide +kernel
theorem dL_law_567 : decode cL_law 567 = .ok (.iadd, 1) := by decide +kernel
theorem dL_law_568 : decode cL_law 568 = .ok (.iaload, 1) := by decide +kernel
theorem dL_law_569 : decode cL_law 569 = .ok (.aload_n 0, 1) := by decide +kernel
theorem dL_law_570 : decode cL_law 570 = .ok (.iload_n 3, 1) := by decide +kernel
theorem dL_law_571 : decode cL_law 571 = .ok (.iconst 3, 1) := by decide +kernel
theorem dL_law_572 : decode cL_law 572 = .ok (.iadd, 1) := by decide +kernel
theorem dL_law_573 : decode cL_law 573 = .ok (.iaload, 1) := by decide +kernel
theorem dL_law_574 : decode cL_law 574 = .ok (.invokevirtual 51, 3) := by decide +kernel
theorem dL_law_577 : decode cL_law 577 = .ok (.if_icmp .eq 1502, 3) := by decide +kernel
set_option maxHeartbeats 400000 in
set_option maxRecDepth 20000 in
theorem law_7 {E : EV} (hE : EOK E) {q v0 : Nat} (hXS : EXS E q v0) {X : TX} {b L : Nat} {xs : Nat → Int32} (h : CX E X cL_law RL ret room_1 4) (hX : LX X b L xs) (hL : L ≤ 3072) {z : Int} (h0 : 0 ≤ z) (h1 : z ≤ L - 6) {A : AS} (K : ∀ A2 : AS, JL E (LQP E) X 2079 [(3, .int (iI z)), (2, eA E 76), (1, eA E 74), (0, .ref b)] [] (A2, A2)) : JL E (LQP E) X 539 [(3, .int (iI z)), (2, eA E 76), (1, eA E 74), (0, .ref b)] [] (A, A) := by
  refine j_aload_n h 2 dL_law_539 rfl rfl ?_
  refine j_aload_n h 3 dL_law_540 rfl rfl ?_
  refine j_iload_n h 0 dL_law_541 rfl rfl ?_
  refine j_iconst h dL_law_542 ?_
  refine j_iadd h dL_law_543 ?_
  refine j_sld h hX hL (by omega) (by omega) dL_law_544 ?_
  refine j_aload_n h 3 dL_law_545 rfl rfl ?_
  refine j_iload_n h 0 dL_law_546 rfl rfl ?_
  refine j_iconst h dL_law_547 ?_
  refine j_iadd h dL_law_548 ?_
  refine j_sld h hX hL (by omega) (by omega) dL_law_549 ?_
  refine j_aload_n h 3 dL_law_550 rfl rfl ?_
  refine j_iload_n h 0 dL_law_551 rfl rfl ?_
  refine j_iconst h dL_law_552 ?_
  refine j_iadd h dL_law_553 ?_
  refine j_sld h hX hL (by omega) (by omega) dL_law_554 ?_
  refine j_callV h (ct_L (fun g0 => p_tail hE (okI_of (xs (z + 1).toNat)) (okI_of (xs (z + 2).toNat)) (okI_of (xs (z + 3).toNat)))) m_X3_tail a_l_L_48 rfl rfl ⟨Nat.le_of_ble_eq_true rfl, Nat.le_of_ble_eq_true rfl⟩ (ci := 3) rfl (by omega) rcL3 rfl rfl (Nat.le_of_ble_eq_true rfl) dL_law_555 ?_
  refine j_aload_n h 1 dL_law_558 rfl rfl ?_
  refine j_aload_n h 3 dL_law_559 rfl rfl ?_
  refine j_iload_n h 0 dL_law_560 rfl rfl ?_
  refine j_iconst h dL_law_561 ?_
  refine j_iadd h dL_law_562 ?_
  refine j_sld h hX hL (by omega) (by omega) dL_law_563 ?_
  refine j_aload_n h 3 dL_law_564 rfl rfl ?_
  refine j_iload_n h 0 dL_law_565 rfl rfl ?_
  refine j_iconst h dL_law_566 ?_
  refine j_iadd h dL_law_567 ?_
  refine j_sld h hX hL (by omega) (by omega) dL_law_568 ?_
  refine j_aload_n h 3 dL_law_569 rfl rfl ?_
  refine j_iload_n h 0 dL_law_570 rfl rfl ?_
  refine j_iconst h dL_law_571 ?_
  refine j_iadd h dL_law_572 ?_
  refine j_sld h hX hL (by omega) (by omega) dL_law_573 ?_
  refine j_callV h (ct_R (fun g0 => q_tail hE (okI_of (xs (z + 1).toNat)) (okI_of (xs (z + 2).toNat)) (okI_of (xs (z + 3).toNat)))) m_X4_tail a_l_L_51 rfl rfl ⟨Nat.le_of_ble_eq_true rfl, Nat.le_of_ble_eq_true rfl⟩ (ci := 4) rfl (by omega) rcL4 rfl rfl (Nat.le_of_ble_eq_true rfl) dL_law_574 ?_
  exact j_rcmp_eq h 2079 dL_law_577 (by decide) (fun _ => K _) (fun w => absurd rfl w)
theorem dL_law_582 : decode cL_law 582 = .ok (.aload_n 1, 1) := by decide +kernel
theorem dL_law_583 : decode cL_law 583 = .ok (.aload_n 0, 1) := by decide +kernel
theorem dL_law_584 : decode cL_law 584 = .ok (.iload_n 3, 1) := by decide +kernel
theorem dL_law_585 : decode cL_law 585 = .ok (.iconst 1, 1) := by decide +kernel
theorem dL_law_586 : decode cL_law 586 = .ok (.iadd, 1) := by decide +kernel
theorem dL_law_587 : decode cL_law 587 = .ok (.iaload, 1) := by decide +kernel
theorem dL_law_588 : decode cL_law 588 = .ok (.aload_n 0, 1) := by decide +kernel
theorem dL_law_589 : decode cL_law 589 = .ok (.iload_n 3, 1) := by decide +kernel
theorem dL_law_590 : decode cL_law 590 = .ok (.iconst 2, 1) := by decide +kernel
theorem dL_law_591 : decode cL_law 591 = .ok (.iadd, 1) := by decide +kernel
theorem dL_law_592 : decode cL_law 592 = .ok (.iaload, 1) := by decide +kernel
theorem dL_law_593 : decode cL_law 593 = .ok (.invokevirtual 52, 3) := by decide +kernel
theorem dL_law_596 : decode cL_law 596 = .ok (.aload_n 2, 1) := by decide +kernel
theorem dL_law_597 : decode cL_law 597 = .ok (.aload_n 0, 1) := by decide +kernel
theorem dL_law_598 : decode cL_law 598 = .ok (.iload_n 3, 1) := by decide +kernel
theorem dL_law_599 : decode cL_law 599 = .ok (.iconst 1, 1) := by decide +kernel
theorem dL_law_600 : decode cL_law 600 = .ok (.iadd, 1) := by decide +kernel
theorem dL_law_601 : decode cL_law 601 = .ok (.iaload, 1) := by decide +kernel
theorem dL_law_602 : decode cL_law 602 = .ok (.aload_n 0, 1) := by decide +kernel
theorem dL_law_603 : decode cL_law 603 = .ok (.iload_n 3, 1) := by decide +kernel
theorem dL_law_604 : decode cL_law 604 = .ok (.iconst 2, 1) := by decide +kernel
theorem dL_law_605 : decode cL_law 605 = .ok (.iadd, 1) := by decide +kernel
theorem dL_law_606 : decode cL_law 606 = .ok (.iaload, 1) := by decide +kernel
theorem dL_law_607 : decode cL_law 607 = .ok (.invokevirtual 55, 3) := by decide +kernel
theorem dL_law_610 : decode cL_law 610 = .ok (.if_icmp .eq 1469, 3) := by decide +kernel
set_option maxHeartbeats 400000 in
set_option maxRecDepth 20000 in
theorem law_8 {E : EV} (hE : EOK E) {q v0 : Nat} (hXS : EXS E q v0) {X : TX} {b L : Nat} {xs : Nat → Int32} (h : CX E X cL_law RL ret room_1 4) (hX : LX X b L xs) (hL : L ≤ 3072) {z : Int} (h0 : 0 ≤ z) (h1 : z ≤ L - 6) {A : AS} (K : ∀ A2 : AS, JL E (LQP E) X 2079 [(3, .int (iI z)), (2, eA E 76), (1, eA E 74), (0, .ref b)] [] (A2, A2)) : JL E (LQP E) X 582 [(3, .int (iI z)), (2, eA E 76), (1, eA E 74), (0, .ref b)] [] (A, A) := by
  refine j_aload_n h 2 dL_law_582 rfl rfl ?_
  refine j_aload_n h 3 dL_law_583 rfl rfl ?_
  refine j_iload_n h 0 dL_law_584 rfl rfl ?_
  refine j_iconst h dL_law_585 ?_
  refine j_iadd h dL_law_586 ?_
  refine j_sld h hX hL (by omega) (by omega) dL_law_587 ?_
  refine j_aload_n h 3 dL_law_588 rfl rfl ?_
  refine j_iload_n h 0 dL_law_589 rfl rfl ?_
  refine j_iconst h dL_law_590 ?_
  refine j_iadd h dL_law_591 ?_
  refine j_sld h hX hL (by omega) (by omega) dL_law_592 ?_
  refine j_callV h (ct_L (fun g0 => p_number hE (okI_of (xs (z + 1).toNat)) (okI_of (xs (z + 2).toNat)))) m_X3_number a_l_L_52 rfl rfl ⟨Nat.le_of_ble_eq_true rfl, Nat.le_of_ble_eq_true rfl⟩ (ci := 3) rfl (by omega) rcL3 rfl rfl (Nat.le_of_ble_eq_true rfl) dL_law_593 ?_
  refine j_aload_n h 1 dL_law_596 rfl rfl ?_
  refine j_aload_n h 3 dL_law_597 rfl rfl ?_
  refine j_iload_n h 0 dL_law_598 rfl rfl ?_
  refine j_iconst h dL_law_599 ?_
  refine j_iadd h dL_law_600 ?_
  refine j_sld h hX hL (by omega) (by omega) dL_law_601 ?_
  refine j_aload_n h 3 dL_law_602 rfl rfl ?_
  refine j_iload_n h 0 dL_law_603 rfl rfl ?_
  refine j_iconst h dL_law_604 ?_
  refine j_iadd h dL_law_605 ?_
  refine j_sld h hX hL (by omega) (by omega) dL_law_606 ?_
  refine j_callV h (ct_R (fun g0 => q_number hE (okI_of (xs (z + 1).toNat)) (okI_of (xs (z + 2).toNat)))) m_X4_number a_l_L_55 rfl rfl ⟨Nat.le_of_ble_eq_true rfl, Nat.le_of_ble_eq_true rfl⟩ (ci := 4) rfl (by omega) rcL4 rfl rfl (Nat.le_of_ble_eq_true rfl) dL_law_607 ?_
  exact j_rcmp_eq h 2079 dL_law_610 (by decide) (fun _ => K _) (fun w => absurd rfl w)
theorem dL_law_615 : decode cL_law 615 = .ok (.aload_n 1, 1) := by decide +kernel
theorem dL_law_616 : decode cL_law 616 = .ok (.aload_n 0, 1) := by decide +kernel
theorem dL_law_617 : decode cL_law 617 = .ok (.iload_n 3, 1) := by decide +kernel
theorem dL_law_618 : decode cL_law 618 = .ok (.iconst 1, 1) := by decide +kernel
theorem dL_law_619 : decode cL_law 619 = .ok (.iadd, 1) := by decide +kernel
theorem dL_law_620 : decode cL_law 620 = .ok (.iaload, 1) := by decide +kernel
theorem dL_law_621 : decode cL_law 621 = .ok (.i2l, 1) := by decide +kernel
theorem dL_law_622 : decode cL_law 622 = .ok (.bipush 32, 2) := by decide +kernel
theorem dL_law_624 : decode cL_law 624 = .ok (.lshl, 1) := by decide +kernel
theorem dL_law_625 : decode cL_law 625 = .ok (.aload_n 0, 1) := by decide +kernel
theorem dL_law_626 : decode cL_law 626 = .ok (.iload_n 3, 1) := by decide +kernel
theorem dL_law_627 : decode cL_law 627 = .ok (.iconst 2, 1) := by decide +kernel
theorem dL_law_628 : decode cL_law 628 = .ok (.iadd, 1) := by decide +kernel
theorem dL_law_629 : decode cL_law 629 = .ok (.iaload, 1) := by decide +kernel
theorem dL_law_630 : decode cL_law 630 = .ok (.i2l, 1) := by decide +kernel
theorem dL_law_631 : decode cL_law 631 = .ok (.ldc2_w 23, 3) := by decide +kernel
theorem dL_law_634 : decode cL_law 634 = .ok (.land, 1) := by decide +kernel
theorem dL_law_635 : decode cL_law 635 = .ok (.lor, 1) := by decide +kernel
theorem dL_law_636 : decode cL_law 636 = .ok (.aload_n 0, 1) := by decide +kernel
theorem dL_law_637 : decode cL_law 637 = .ok (.iload_n 3, 1) := by decide +kernel
theorem dL_law_638 : decode cL_law 638 = .ok (.iconst 3, 1) := by decide +kernel
theorem dL_law_639 : decode cL_law 639 = .ok (.iadd, 1) := by decide +kernel
theorem dL_law_640 : decode cL_law 640 = .ok (.iaload, 1) := by decide +kernel
theorem dL_law_641 : decode cL_law 641 = .ok (.invokevirtual 56, 3) := by decide +kernel
theorem dL_law_644 : decode cL_law 644 = .ok (.aload_n 2, 1) := by decide +kernel
theorem dL_law_645 : decode cL_law 645 = .ok (.aload_n 0, 1) := by decide +kernel
theorem dL_law_646 : decode cL_law 646 = .ok (.iload_n 3, 1) := by decide +kernel
theorem dL_law_647 : decode cL_law 647 = .ok (.iconst 1, 1) := by decide +kernel
theorem dL_law_648 : decode cL_law 648 = .ok (.iadd, 1) := by decide +kernel
theorem dL_law_649 : decode cL_law 649 = .ok (.iaload, 1) := by decide +kernel
theorem dL_law_650 : decode cL_law 650 = .ok (.i2l, 1) := by decide +kernel
theorem dL_law_651 : decode cL_law 651 = .ok (.bipush 32, 2) := by decide +kernel
theorem dL_law_653 : decode cL_law 653 = .ok (.lshl, 1) := by decide +kernel
theorem dL_law_654 : decode cL_law 654 = .ok (.aload_n 0, 1) := by decide +kernel
theorem dL_law_655 : decode cL_law 655 = .ok (.iload_n 3, 1) := by decide +kernel
theorem dL_law_656 : decode cL_law 656 = .ok (.iconst 2, 1) := by decide +kernel
theorem dL_law_657 : decode cL_law 657 = .ok (.iadd, 1) := by decide +kernel
theorem dL_law_658 : decode cL_law 658 = .ok (.iaload, 1) := by decide +kernel
theorem dL_law_659 : decode cL_law 659 = .ok (.i2l, 1) := by decide +kernel
theorem dL_law_660 : decode cL_law 660 = .ok (.ldc2_w 23, 3) := by decide +kernel
theorem dL_law_663 : decode cL_law 663 = .ok (.land, 1) := by decide +kernel
theorem dL_law_664 : decode cL_law 664 = .ok (.lor, 1) := by decide +kernel
theorem dL_law_665 : decode cL_law 665 = .ok (.aload_n 0, 1) := by decide +kernel
theorem dL_law_666 : decode cL_law 666 = .ok (.iload_n 3, 1) := by decide +kernel
theorem dL_law_667 : decode cL_law 667 = .ok (.iconst 3, 1) := by decide +kernel
theorem dL_law_668 : decode cL_law 668 = .ok (.iadd, 1) := by decide +kernel
theorem dL_law_669 : decode cL_law 669 = .ok (.iaload, 1) := by decide +kernel
theorem dL_law_670 : decode cL_law 670 = .ok (.invokevirtual 60, 3) := by decide +kernel
theorem dL_law_673 : decode cL_law 673 = .ok (.if_icmp .eq 1406, 3) := by decide +kernel
set_option maxHeartbeats 400000 in
set_option maxRecDepth 20000 in
theorem law_9 {E : EV} (hE : EOK E) {q v0 : Nat} (hXS : EXS E q v0) {X : TX} {b L : Nat} {xs : Nat → Int32} (h : CX E X cL_law RL ret room_1 4) (hX : LX X b L xs) (hL : L ≤ 3072) {z : Int} (h0 : 0 ≤ z) (h1 : z ≤ L - 6) {A : AS} (K : ∀ A2 : AS, JL E (LQP E) X 2079 [(3, .int (iI z)), (2, eA E 76), (1, eA E 74), (0, .ref b)] [] (A2, A2)) : JL E (LQP E) X 615 [(3, .int (iI z)), (2, eA E 76), (1, eA E 74), (0, .ref b)] [] (A, A) := by
  refine j_aload_n h 2 dL_law_615 rfl rfl ?_
  refine j_aload_n h 3 dL_law_616 rfl rfl ?_
  refine j_iload_n h 0 dL_law_617 rfl rfl ?_
  refine j_iconst h dL_law_618 ?_
  refine j_iadd h dL_law_619 ?_
  refine j_sld h hX hL (by omega) (by omega) dL_law_620 ?_
  refine j_i2l h _ dL_law_621 rfl ?_
  refine j_bipush h dL_law_622 (by decide) ?_
  refine j_lshl h _ dL_law_624 rfl ?_
  refine j_aload_n h 3 dL_law_625 rfl rfl ?_
  refine j_iload_n h 0 dL_law_626 rfl rfl ?_
  refine j_iconst h dL_law_627 ?_
  refine j_iadd h dL_law_628 ?_
  refine j_sld h hX hL (by omega) (by omega) dL_law_629 ?_
  refine j_i2l h _ dL_law_630 rfl ?_
  refine j_ldc2 h (4294967295) a_k_L_23 (by decide) dL_law_631 ?_
  refine j_land h _ dL_law_634 rfl ?_
  refine j_lor h _ dL_law_635 rfl ?_
  refine j_aload_n h 3 dL_law_636 rfl rfl ?_
  refine j_iload_n h 0 dL_law_637 rfl rfl ?_
  refine j_iconst h dL_law_638 ?_
  refine j_iadd h dL_law_639 ?_
  refine j_sld h hX hL (by omega) (by omega) dL_law_640 ?_
  refine j_callV h (ct_L (fun g0 => p_big hE (okI_of (xs (z + 3).toNat)))) m_X3_big a_l_L_56 rfl rfl ⟨Nat.le_of_ble_eq_true rfl, Nat.le_of_ble_eq_true rfl⟩ (ci := 3) rfl (by omega) rcL3 rfl rfl (Nat.le_of_ble_eq_true rfl) dL_law_641 ?_
  refine j_aload_n h 1 dL_law_644 rfl rfl ?_
  refine j_aload_n h 3 dL_law_645 rfl rfl ?_
  refine j_iload_n h 0 dL_law_646 rfl rfl ?_
  refine j_iconst h dL_law_647 ?_
  refine j_iadd h dL_law_648 ?_
  refine j_sld h hX hL (by omega) (by omega) dL_law_649 ?_
  refine j_i2l h _ dL_law_650 rfl ?_
  refine j_bipush h dL_law_651 (by decide) ?_
  refine j_lshl h _ dL_law_653 rfl ?_
  refine j_aload_n h 3 dL_law_654 rfl rfl ?_
  refine j_iload_n h 0 dL_law_655 rfl rfl ?_
  refine j_iconst h dL_law_656 ?_
  refine j_iadd h dL_law_657 ?_
  refine j_sld h hX hL (by omega) (by omega) dL_law_658 ?_
  refine j_i2l h _ dL_law_659 rfl ?_
  refine j_ldc2 h (4294967295) a_k_L_23 (by decide) dL_law_660 ?_
  refine j_land h _ dL_law_663 rfl ?_
  refine j_lor h _ dL_law_664 rfl ?_
  refine j_aload_n h 3 dL_law_665 rfl rfl ?_
  refine j_iload_n h 0 dL_law_666 rfl rfl ?_
  refine j_iconst h dL_law_667 ?_
  refine j_iadd h dL_law_668 ?_
  refine j_sld h hX hL (by omega) (by omega) dL_law_669 ?_
  refine j_callV h (ct_R (fun g0 => q_big hE (okI_of (xs (z + 3).toNat)))) m_X4_big a_l_L_60 rfl rfl ⟨Nat.le_of_ble_eq_true rfl, Nat.le_of_ble_eq_true rfl⟩ (ci := 4) rfl (by omega) rcL4 rfl rfl (Nat.le_of_ble_eq_true rfl) dL_law_670 ?_
  exact j_rcmp_eq h 2079 dL_law_673 (by decide) (fun _ => K _) (fun w => absurd rfl w)
theorem dL_law_678 : decode cL_law 678 = .ok (.aload_n 1, 1) := by decide +kernel
theorem dL_law_679 : decode cL_law 679 = .ok (.aload_n 0, 1) := by decide +kernel
theorem dL_law_680 : decode cL_law 680 = .ok (.iload_n 3, 1) := by decide +kernel
theorem dL_law_681 : decode cL_law 681 = .ok (.iconst 1, 1) := by decide +kernel
theorem dL_law_682 : decode cL_law 682 = .ok (.iadd, 1) := by decide +kernel
theorem dL_law_683 : decode cL_law 683 = .ok (.iaload, 1) := by decide +kernel
theorem dL_law_684 : decode cL_law 684 = .ok (.invokevirtual 61, 3) := by decide +kernel
theorem dL_law_687 : decode cL_law 687 = .ok (.aload_n 2, 1) := by decide +kernel
theorem dL_law_688 : decode cL_law 688 = .ok (.aload_n 0, 1) := by decide +kernel
theorem dL_law_689 : decode cL_law 689 = .ok (.iload_n 3, 1) := by decide +kernel
theorem dL_law_690 : decode cL_law 690 = .ok (.iconst 1, 1) := by decide +kernel
theorem dL_law_691 : decode cL_law 691 = .ok (.iadd, 1) := by decide +kernel
theorem dL_law_692 : decode cL_law 692 = .ok (.iaload, 1) := by decide +kernel
theorem dL_law_693 : decode cL_law 693 = .ok (.invokevirtual 64, 3) := by decide +kernel
theorem dL_law_696 : decode cL_law 696 = .ok (.if_icmp .eq 1383, 3) := by decide +kernel
set_option maxHeartbeats 400000 in
set_option maxRecDepth 20000 in
theorem law_10 {E : EV} (hE : EOK E) {q v0 : Nat} (hXS : EXS E q v0) {X : TX} {b L : Nat} {xs : Nat → Int32} (h : CX E X cL_law RL ret room_1 4) (hX : LX X b L xs) (hL : L ≤ 3072) {z : Int} (h0 : 0 ≤ z) (h1 : z ≤ L - 6) {A : AS} (K : ∀ A2 : AS, JL E (LQP E) X 2079 [(3, .int (iI z)), (2, eA E 76), (1, eA E 74), (0, .ref b)] [] (A2, A2)) : JL E (LQP E) X 678 [(3, .int (iI z)), (2, eA E 76), (1, eA E 74), (0, .ref b)] [] (A, A) := by
  refine j_aload_n h 2 dL_law_678 rfl rfl ?_
  refine j_aload_n h 3 dL_law_679 rfl rfl ?_
  refine j_iload_n h 0 dL_law_680 rfl rfl ?_
  refine j_iconst h dL_law_681 ?_
  refine j_iadd h dL_law_682 ?_
  refine j_sld h hX hL (by omega) (by omega) dL_law_683 ?_
  refine j_callV h (ct_L (fun g0 => p_length hE (okI_of (xs (z + 1).toNat)))) m_X3_length a_l_L_61 rfl rfl ⟨Nat.le_of_ble_eq_true rfl, Nat.le_of_ble_eq_true rfl⟩ (ci := 3) rfl (by omega) rcL3 rfl rfl (Nat.le_of_ble_eq_true rfl) dL_law_684 ?_
  refine j_aload_n h 1 dL_law_687 rfl rfl ?_
  refine j_aload_n h 3 dL_law_688 rfl rfl ?_
  refine j_iload_n h 0 dL_law_689 rfl rfl ?_
  refine j_iconst h dL_law_690 ?_
  refine j_iadd h dL_law_691 ?_
  refine j_sld h hX hL (by omega) (by omega) dL_law_692 ?_
  refine j_callV h (ct_R (fun g0 => q_length hE (okI_of (xs (z + 1).toNat)))) m_X4_length a_l_L_64 rfl rfl ⟨Nat.le_of_ble_eq_true rfl, Nat.le_of_ble_eq_true rfl⟩ (ci := 4) rfl (by omega) rcL4 rfl rfl (Nat.le_of_ble_eq_true rfl) dL_law_693 ?_
  exact j_rcmp_eq h 2079 dL_law_696 (by decide) (fun _ => K _) (fun w => absurd rfl w)
theorem dL_law_701 : decode cL_law 701 = .ok (.aload_n 1, 1) := by decide +kernel
theorem dL_law_702 : decode cL_law 702 = .ok (.aload_n 0, 1) := by decide +kernel
theorem dL_law_703 : decode cL_law 703 = .ok (.iload_n 3, 1) := by decide +kernel
theorem dL_law_704 : decode cL_law 704 = .ok (.iconst 1, 1) := by decide +kernel
theorem dL_law_705 : decode cL_law 705 = .ok (.iadd, 1) := by decide +kernel
theorem dL_law_706 : decode cL_law 706 = .ok (.iaload, 1) := by decide +kernel
theorem dL_law_707 : decode cL_law 707 = .ok (.invokevirtual 65, 3) := by decide +kernel
theorem dL_law_710 : decode cL_law 710 = .ok (.aload_n 2, 1) := by decide +kernel
theorem dL_law_711 : decode cL_law 711 = .ok (.aload_n 0, 1) := by decide +kernel
theorem dL_law_712 : decode cL_law 712 = .ok (.iload_n 3, 1) := by decide +kernel
theorem dL_law_713 : decode cL_law 713 = .ok (.iconst 1, 1) := by decide +kernel
theorem dL_law_714 : decode cL_law 714 = .ok (.iadd, 1) := by decide +kernel
theorem dL_law_715 : decode cL_law 715 = .ok (.iaload, 1) := by decide +kernel
theorem dL_law_716 : decode cL_law 716 = .ok (.invokevirtual 69, 3) := by decide +kernel
theorem dL_law_719 : decode cL_law 719 = .ok (.if_icmp .eq 1360, 3) := by decide +kernel
set_option maxHeartbeats 400000 in
set_option maxRecDepth 20000 in
theorem law_11 {E : EV} (hE : EOK E) {q v0 : Nat} (hXS : EXS E q v0) {X : TX} {b L : Nat} {xs : Nat → Int32} (h : CX E X cL_law RL ret room_1 4) (hX : LX X b L xs) (hL : L ≤ 3072) {z : Int} (h0 : 0 ≤ z) (h1 : z ≤ L - 6) {A : AS} (K : ∀ A2 : AS, JL E (LQP E) X 2079 [(3, .int (iI z)), (2, eA E 76), (1, eA E 74), (0, .ref b)] [] (A2, A2)) : JL E (LQP E) X 701 [(3, .int (iI z)), (2, eA E 76), (1, eA E 74), (0, .ref b)] [] (A, A) := by
  refine j_aload_n h 2 dL_law_701 rfl rfl ?_
  refine j_aload_n h 3 dL_law_702 rfl rfl ?_
  refine j_iload_n h 0 dL_law_703 rfl rfl ?_
  refine j_iconst h dL_law_704 ?_
  refine j_iadd h dL_law_705 ?_
  refine j_sld h hX hL (by omega) (by omega) dL_law_706 ?_
  refine j_callV h (ct_L (fun g0 => p_isEmpty hE (okI_of (xs (z + 1).toNat)))) m_X3_isEmpty a_l_L_65 rfl rfl ⟨Nat.le_of_ble_eq_true rfl, Nat.le_of_ble_eq_true rfl⟩ (ci := 3) rfl (by omega) rcL3 rfl rfl (Nat.le_of_ble_eq_true rfl) dL_law_707 ?_
  refine j_aload_n h 1 dL_law_710 rfl rfl ?_
  refine j_aload_n h 3 dL_law_711 rfl rfl ?_
  refine j_iload_n h 0 dL_law_712 rfl rfl ?_
  refine j_iconst h dL_law_713 ?_
  refine j_iadd h dL_law_714 ?_
  refine j_sld h hX hL (by omega) (by omega) dL_law_715 ?_
  refine j_callV h (ct_R (fun g0 => q_isEmpty hE (okI_of (xs (z + 1).toNat)))) m_X4_isEmpty a_l_L_69 rfl rfl ⟨Nat.le_of_ble_eq_true rfl, Nat.le_of_ble_eq_true rfl⟩ (ci := 4) rfl (by omega) rcL4 rfl rfl (Nat.le_of_ble_eq_true rfl) dL_law_716 ?_
  exact j_rcmp_eq h 2079 dL_law_719 (by decide) (fun _ => K _) (fun w => absurd rfl w)
theorem dL_law_724 : decode cL_law 724 = .ok (.aload_n 1, 1) := by decide +kernel
theorem dL_law_725 : decode cL_law 725 = .ok (.aload_n 0, 1) := by decide +kernel
theorem dL_law_726 : decode cL_law 726 = .ok (.iload_n 3, 1) := by decide +kernel
theorem dL_law_727 : decode cL_law 727 = .ok (.iconst 1, 1) := by decide +kernel
theorem dL_law_728 : decode cL_law 728 = .ok (.iadd, 1) := by decide +kernel
theorem dL_law_729 : decode cL_law 729 = .ok (.iaload, 1) := by decide +kernel
theorem dL_law_730 : decode cL_law 730 = .ok (.invokevirtual 70, 3) := by decide +kernel
theorem dL_law_733 : decode cL_law 733 = .ok (.aload_n 2, 1) := by decide +kernel
theorem dL_law_734 : decode cL_law 734 = .ok (.aload_n 0, 1) := by decide +kernel
theorem dL_law_735 : decode cL_law 735 = .ok (.iload_n 3, 1) := by decide +kernel
theorem dL_law_736 : decode cL_law 736 = .ok (.iconst 1, 1) := by decide +kernel
theorem dL_law_737 : decode cL_law 737 = .ok (.iadd, 1) := by decide +kernel
theorem dL_law_738 : decode cL_law 738 = .ok (.iaload, 1) := by decide +kernel
theorem dL_law_739 : decode cL_law 739 = .ok (.invokevirtual 73, 3) := by decide +kernel
theorem dL_law_742 : decode cL_law 742 = .ok (.if_icmp .eq 1337, 3) := by decide +kernel
set_option maxHeartbeats 400000 in
set_option maxRecDepth 20000 in
theorem law_12 {E : EV} (hE : EOK E) {q v0 : Nat} (hXS : EXS E q v0) {X : TX} {b L : Nat} {xs : Nat → Int32} (h : CX E X cL_law RL ret room_1 4) (hX : LX X b L xs) (hL : L ≤ 3072) {z : Int} (h0 : 0 ≤ z) (h1 : z ≤ L - 6) {A : AS} (K : ∀ A2 : AS, JL E (LQP E) X 2079 [(3, .int (iI z)), (2, eA E 76), (1, eA E 74), (0, .ref b)] [] (A2, A2)) : JL E (LQP E) X 724 [(3, .int (iI z)), (2, eA E 76), (1, eA E 74), (0, .ref b)] [] (A, A) := by
  refine j_aload_n h 2 dL_law_724 rfl rfl ?_
  refine j_aload_n h 3 dL_law_725 rfl rfl ?_
  refine j_iload_n h 0 dL_law_726 rfl rfl ?_
  refine j_iconst h dL_law_727 ?_
  refine j_iadd h dL_law_728 ?_
  refine j_sld h hX hL (by omega) (by omega) dL_law_729 ?_
  refine j_callV h (ct_L (fun g0 => p_isBlank hE (okI_of (xs (z + 1).toNat)))) m_X3_isBlank a_l_L_70 rfl rfl ⟨Nat.le_of_ble_eq_true rfl, Nat.le_of_ble_eq_true rfl⟩ (ci := 3) rfl (by omega) rcL3 rfl rfl (Nat.le_of_ble_eq_true rfl) dL_law_730 ?_
  refine j_aload_n h 1 dL_law_733 rfl rfl ?_
  refine j_aload_n h 3 dL_law_734 rfl rfl ?_
  refine j_iload_n h 0 dL_law_735 rfl rfl ?_
  refine j_iconst h dL_law_736 ?_
  refine j_iadd h dL_law_737 ?_
  refine j_sld h hX hL (by omega) (by omega) dL_law_738 ?_
  refine j_callV h (ct_R (fun g0 => q_isBlank hE (okI_of (xs (z + 1).toNat)))) m_X4_isBlank a_l_L_73 rfl rfl ⟨Nat.le_of_ble_eq_true rfl, Nat.le_of_ble_eq_true rfl⟩ (ci := 4) rfl (by omega) rcL4 rfl rfl (Nat.le_of_ble_eq_true rfl) dL_law_739 ?_
  exact j_rcmp_eq h 2079 dL_law_742 (by decide) (fun _ => K _) (fun w => absurd rfl w)
theorem dL_law_747 : decode cL_law 747 = .ok (.aload_n 1, 1) := by decide +kernel
theorem dL_law_748 : decode cL_law 748 = .ok (.aload_n 0, 1) := by decide +kernel
theorem dL_law_749 : decode cL_law 749 = .ok (.iload_n 3, 1) := by decide +kernel
theorem dL_law_750 : decode cL_law 750 = .ok (.iconst 1, 1) := by decide +kernel
theorem dL_law_751 : decode cL_law 751 = .ok (.iadd, 1) := by decide +kernel
theorem dL_law_752 : decode cL_law 752 = .ok (.iaload, 1) := by decide +kernel
theorem dL_law_753 : decode cL_law 753 = .ok (.aload_n 0, 1) := by decide +kernel
theorem dL_law_754 : decode cL_law 754 = .ok (.iload_n 3, 1) := by decide +kernel
theorem dL_law_755 : decode cL_law 755 = .ok (.iconst 2, 1) := by decide +kernel
theorem dL_law_756 : decode cL_law 756 = .ok (.iadd, 1) := by decide +kernel
theorem dL_law_757 : decode cL_law 757 = .ok (.iaload, 1) := by decide +kernel
theorem dL_law_758 : decode cL_law 758 = .ok (.invokevirtual 74, 3) := by decide +kernel
theorem dL_law_761 : decode cL_law 761 = .ok (.aload_n 2, 1) := by decide +kernel
theorem dL_law_762 : decode cL_law 762 = .ok (.aload_n 0, 1) := by decide +kernel
theorem dL_law_763 : decode cL_law 763 = .ok (.iload_n 3, 1) := by decide +kernel
theorem dL_law_764 : decode cL_law 764 = .ok (.iconst 1, 1) := by decide +kernel
theorem dL_law_765 : decode cL_law 765 = .ok (.iadd, 1) := by decide +kernel
theorem dL_law_766 : decode cL_law 766 = .ok (.iaload, 1) := by decide +kernel
theorem dL_law_767 : decode cL_law 767 = .ok (.aload_n 0, 1) := by decide +kernel
theorem dL_law_768 : decode cL_law 768 = .ok (.iload_n 3, 1) := by decide +kernel
theorem dL_law_769 : decode cL_law 769 = .ok (.iconst 2, 1) := by decide +kernel
theorem dL_law_770 : decode cL_law 770 = .ok (.iadd, 1) := by decide +kernel
theorem dL_law_771 : decode cL_law 771 = .ok (.iaload, 1) := by decide +kernel
theorem dL_law_772 : decode cL_law 772 = .ok (.invokevirtual 77, 3) := by decide +kernel
theorem dL_law_775 : decode cL_law 775 = .ok (.if_icmp .eq 1304, 3) := by decide +kernel
set_option maxHeartbeats 400000 in
set_option maxRecDepth 20000 in
theorem law_13 {E : EV} (hE : EOK E) {q v0 : Nat} (hXS : EXS E q v0) {X : TX} {b L : Nat} {xs : Nat → Int32} (h : CX E X cL_law RL ret room_1 4) (hX : LX X b L xs) (hL : L ≤ 3072) {z : Int} (h0 : 0 ≤ z) (h1 : z ≤ L - 6) {A : AS} (K : ∀ A2 : AS, JL E (LQP E) X 2079 [(3, .int (iI z)), (2, eA E 76), (1, eA E 74), (0, .ref b)] [] (A2, A2)) : JL E (LQP E) X 747 [(3, .int (iI z)), (2, eA E 76), (1, eA E 74), (0, .ref b)] [] (A, A) := by
  refine j_aload_n h 2 dL_law_747 rfl rfl ?_
  refine j_aload_n h 3 dL_law_748 rfl rfl ?_
  refine j_iload_n h 0 dL_law_749 rfl rfl ?_
  refine j_iconst h dL_law_750 ?_
  refine j_iadd h dL_law_751 ?_
  refine j_sld h hX hL (by omega) (by omega) dL_law_752 ?_
  refine j_aload_n h 3 dL_law_753 rfl rfl ?_
  refine j_iload_n h 0 dL_law_754 rfl rfl ?_
  refine j_iconst h dL_law_755 ?_
  refine j_iadd h dL_law_756 ?_
  refine j_sld h hX hL (by omega) (by omega) dL_law_757 ?_
  refine j_callV h (ct_L (fun g0 => p_charAt hE (okI_of (xs (z + 1).toNat)) (okI_of (xs (z + 2).toNat)))) m_X3_charAt a_l_L_74 rfl rfl ⟨Nat.le_of_ble_eq_true rfl, Nat.le_of_ble_eq_true rfl⟩ (ci := 3) rfl (by omega) rcL3 rfl rfl (Nat.le_of_ble_eq_true rfl) dL_law_758 ?_
  refine j_aload_n h 1 dL_law_761 rfl rfl ?_
  refine j_aload_n h 3 dL_law_762 rfl rfl ?_
  refine j_iload_n h 0 dL_law_763 rfl rfl ?_
  refine j_iconst h dL_law_764 ?_
  refine j_iadd h dL_law_765 ?_
  refine j_sld h hX hL (by omega) (by omega) dL_law_766 ?_
  refine j_aload_n h 3 dL_law_767 rfl rfl ?_
  refine j_iload_n h 0 dL_law_768 rfl rfl ?_
  refine j_iconst h dL_law_769 ?_
  refine j_iadd h dL_law_770 ?_
  refine j_sld h hX hL (by omega) (by omega) dL_law_771 ?_
  refine j_callV h (ct_R (fun g0 => q_charAt hE (okI_of (xs (z + 1).toNat)) (okI_of (xs (z + 2).toNat)))) m_X4_charAt a_l_L_77 rfl rfl ⟨Nat.le_of_ble_eq_true rfl, Nat.le_of_ble_eq_true rfl⟩ (ci := 4) rfl (by omega) rcL4 rfl rfl (Nat.le_of_ble_eq_true rfl) dL_law_772 ?_
  exact j_rcmp_eq h 2079 dL_law_775 (by decide) (fun _ => K _) (fun w => absurd rfl w)
