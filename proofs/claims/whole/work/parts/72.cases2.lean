section LW
variable {x : MX} {b N : Nat} {xs : Nat → Int32} {D : va_G} {a1 a2 : Nat → Nat} {cc : C5}
set_option maxHeartbeats 4000000 in
theorem law_c15 (C : Lx x b N xs D a1 a2 cc) (hN : N ≤ 320) {i0 : Nat} (hi : i0 + 4 < N) (kk : ∀ (F' G' : FF) (L' : Int64), SS F' G' → WL x b D a1 a2 cc (nI i0) 1047 [] F' G' L' L') {F G : FF} {L : Int64} (S : SS F G) : WL x b D a1 a2 cc (nI i0) 503 [] F G L L := by
  obtain ⟨n, nr, ns, h, nx, sz, S⟩ := S
  refine WL.al1 (pc := 503) C dL_law_503 ?_
  refine WL.callNI (pc := 504) (av := []) (rest := []) C dL_law_504 (k_X5_cover x.2.1 F L nr ns S.1.2.1 S.1.2.2.2.2.1) ml_L_76 rfl rfl rfl (Nat.le_of_ble_eq_true rfl) ⟨Nat.le_of_ble_eq_true rfl, Nat.le_of_ble_eq_true rfl⟩ ?_
  refine WL.al2 (pc := 507) C dL_law_507 ?_
  refine WL.callMI (pc := 508) (av := []) (rest := _) C dL_law_508 (k_X6_cover x.2.1 G L nr ns S.mr) ml_L_79 rfl rfl rfl (Nat.le_of_ble_eq_true rfl) ⟨Nat.le_of_ble_eq_true rfl, Nat.le_of_ble_eq_true rfl⟩ ?_
  have e := S.cover
  refine WL.ceq (pc := 511) C dL_law_511 (by decide) e ?_
  exact kk _ _ _ ⟨n, nr, ns, h, nx, sz, S.w17 _ _⟩
set_option maxHeartbeats 4000000 in
theorem law_c16 (C : Lx x b N xs D a1 a2 cc) (hN : N ≤ 320) {i0 : Nat} (hi : i0 + 4 < N) (kk : ∀ (F' G' : FF) (L' : Int64), SS F' G' → WL x b D a1 a2 cc (nI i0) 1047 [] F' G' L' L') {F G : FF} {L : Int64} (S : SS F G) : WL x b D a1 a2 cc (nI i0) 516 [] F G L L := by
  obtain ⟨n, nr, ns, h, nx, sz, S⟩ := S
  refine WL.al1 (pc := 516) C dL_law_516 ?_
  refine WL.arg (pc := 517) (k := 1) C hN (by omega) dL_law_517 dL_law_518 dL_law_519 dL_law_520 dL_law_521 rfl ?_
  refine WL.bool (pc := 522) C dL_law_522 dL_law_525 dL_law_526 dL_law_529 ?_
  refine WL.callNI (pc := 530) (av := [.int (b2 (nz (xs (i0 + 1))))]) (rest := []) C dL_law_530 (k_X5_wrong x.2.1 F L nr ns (nz (xs (i0 + 1))) S.1.2.1) ml_L_80 rfl rfl rfl (Nat.le_of_ble_eq_true rfl) ⟨Nat.le_of_ble_eq_true rfl, Nat.le_of_ble_eq_true rfl⟩ ?_
  refine WL.al2 (pc := 533) C dL_law_533 ?_
  refine WL.arg (pc := 534) (k := 1) C hN (by omega) dL_law_534 dL_law_535 dL_law_536 dL_law_537 dL_law_538 rfl ?_
  refine WL.bool (pc := 539) C dL_law_539 dL_law_542 dL_law_543 dL_law_546 ?_
  refine WL.callMI (pc := 547) (av := [.int (b2 (nz (xs (i0 + 1))))]) (rest := _) C dL_law_547 (k_X6_wrong x.2.1 G L nr ns (nz (xs (i0 + 1))) S.mr) ml_L_84 rfl rfl rfl (Nat.le_of_ble_eq_true rfl) ⟨Nat.le_of_ble_eq_true rfl, Nat.le_of_ble_eq_true rfl⟩ ?_
  have e := S.wrong (nz (xs (i0 + 1)))
  refine WL.ceq (pc := 550) C dL_law_550 (by decide) e ?_
  exact kk _ _ _ ⟨n, nr, ns, h, nx, sz, S⟩
set_option maxHeartbeats 4000000 in
theorem law_c17 (C : Lx x b N xs D a1 a2 cc) (hN : N ≤ 320) {i0 : Nat} (hi : i0 + 4 < N) (kk : ∀ (F' G' : FF) (L' : Int64), SS F' G' → WL x b D a1 a2 cc (nI i0) 1047 [] F' G' L' L') {F G : FF} {L : Int64} (S : SS F G) : WL x b D a1 a2 cc (nI i0) 555 [] F G L L := by
  obtain ⟨n, nr, ns, h, nx, sz, S⟩ := S
  refine WL.al1 (pc := 555) C dL_law_555 ?_
  refine WL.arg (pc := 556) (k := 1) C hN (by omega) dL_law_556 dL_law_557 dL_law_558 dL_law_559 dL_law_560 rfl ?_
  refine WL.arg (pc := 561) (k := 2) C hN (by omega) dL_law_561 dL_law_562 dL_law_563 dL_law_564 dL_law_565 rfl ?_
  refine WL.callNI (pc := 566) (av := [.int (xs (i0 + 1)), .int (xs (i0 + 2))]) (rest := []) C dL_law_566 (k_X5_judge x.2.1 F L nr ns (xs (i0 + 1)) (xs (i0 + 2)) S.1.2.1 S.1.2.2.2.2.1) ml_L_85 rfl rfl rfl (Nat.le_of_ble_eq_true rfl) ⟨Nat.le_of_ble_eq_true rfl, Nat.le_of_ble_eq_true rfl⟩ ?_
  refine WL.al2 (pc := 569) C dL_law_569 ?_
  refine WL.arg (pc := 570) (k := 1) C hN (by omega) dL_law_570 dL_law_571 dL_law_572 dL_law_573 dL_law_574 rfl ?_
  refine WL.arg (pc := 575) (k := 2) C hN (by omega) dL_law_575 dL_law_576 dL_law_577 dL_law_578 dL_law_579 rfl ?_
  refine WL.callMI (pc := 580) (av := [.int (xs (i0 + 1)), .int (xs (i0 + 2))]) (rest := _) C dL_law_580 (k_X6_judge x.2.1 G L nr ns (xs (i0 + 1)) (xs (i0 + 2)) S.mr) ml_L_88 rfl rfl rfl (Nat.le_of_ble_eq_true rfl) ⟨Nat.le_of_ble_eq_true rfl, Nat.le_of_ble_eq_true rfl⟩ ?_
  obtain ⟨e, sF, sG⟩ := S.judge (xs (i0 + 1)) (xs (i0 + 2))
  refine WL.ceq (pc := 583) C dL_law_583 (by decide) e ?_
  exact kk _ _ _ ⟨n, nr, ns, h, nx, sz, S.sc sF sG⟩
set_option maxHeartbeats 4000000 in
theorem law_c18 (C : Lx x b N xs D a1 a2 cc) (hN : N ≤ 320) {i0 : Nat} (hi : i0 + 4 < N) (kk : ∀ (F' G' : FF) (L' : Int64), SS F' G' → WL x b D a1 a2 cc (nI i0) 1047 [] F' G' L' L') {F G : FF} {L : Int64} (S : SS F G) : WL x b D a1 a2 cc (nI i0) 588 [] F G L L := by
  obtain ⟨n, nr, ns, h, nx, sz, S⟩ := S
  refine WL.al1 (pc := 588) C dL_law_588 ?_
  refine WL.arg (pc := 589) (k := 1) C hN (by omega) dL_law_589 dL_law_590 dL_law_591 dL_law_592 dL_law_593 rfl ?_
  refine WL.arg (pc := 594) (k := 2) C hN (by omega) dL_law_594 dL_law_595 dL_law_596 dL_law_597 dL_law_598 rfl ?_
  refine WL.arg (pc := 599) (k := 3) C hN (by omega) dL_law_599 dL_law_600 dL_law_601 dL_law_602 dL_law_603 rfl ?_
  refine WL.arg (pc := 604) (k := 4) C hN (by omega) dL_law_604 dL_law_605 dL_law_606 dL_law_607 dL_law_608 rfl ?_
  refine WL.callNI (pc := 609) (av := [.int (xs (i0 + 1)), .int (xs (i0 + 2)), .int (xs (i0 + 3)), .int (xs (i0 + 4))]) (rest := []) C dL_law_609 (k_X5_hear x.2.1 F L nr ns h (xs (i0 + 1)) (xs (i0 + 2)) (xs (i0 + 3)) (xs (i0 + 4)) S.1.2.1 S.1.2.2.1) ml_L_89 rfl rfl rfl (Nat.le_of_ble_eq_true rfl) ⟨Nat.le_of_ble_eq_true rfl, Nat.le_of_ble_eq_true rfl⟩ ?_
  refine WL.al2 (pc := 612) C dL_law_612 ?_
  refine WL.arg (pc := 613) (k := 1) C hN (by omega) dL_law_613 dL_law_614 dL_law_615 dL_law_616 dL_law_617 rfl ?_
  refine WL.arg (pc := 618) (k := 2) C hN (by omega) dL_law_618 dL_law_619 dL_law_620 dL_law_621 dL_law_622 rfl ?_
  refine WL.arg (pc := 623) (k := 3) C hN (by omega) dL_law_623 dL_law_624 dL_law_625 dL_law_626 dL_law_627 rfl ?_
  refine WL.arg (pc := 628) (k := 4) C hN (by omega) dL_law_628 dL_law_629 dL_law_630 dL_law_631 dL_law_632 rfl ?_
  refine WL.callMI (pc := 633) (av := [.int (xs (i0 + 1)), .int (xs (i0 + 2)), .int (xs (i0 + 3)), .int (xs (i0 + 4))]) (rest := _) C dL_law_633 (k_X6_hear x.2.1 G L nr ns h (xs (i0 + 1)) (xs (i0 + 2)) (xs (i0 + 3)) (xs (i0 + 4)) S.mr S.mh) ml_L_93 rfl rfl rfl (Nat.le_of_ble_eq_true rfl) ⟨Nat.le_of_ble_eq_true rfl, Nat.le_of_ble_eq_true rfl⟩ ?_
  obtain ⟨e, h', S'⟩ := S.hear (xs (i0 + 1)) (xs (i0 + 2)) (xs (i0 + 3)) (xs (i0 + 4))
  refine WL.ceq (pc := 636) C dL_law_636 (by decide) e ?_
  exact kk _ _ _ ⟨n, nr, ns, h', nx, sz, S'⟩
set_option maxHeartbeats 4000000 in
theorem law_c19 (C : Lx x b N xs D a1 a2 cc) (hN : N ≤ 320) {i0 : Nat} (hi : i0 + 4 < N) (kk : ∀ (F' G' : FF) (L' : Int64), SS F' G' → WL x b D a1 a2 cc (nI i0) 1047 [] F' G' L' L') {F G : FF} {L : Int64} (S : SS F G) : WL x b D a1 a2 cc (nI i0) 641 [] F G L L := by
  obtain ⟨n, nr, ns, h, nx, sz, S⟩ := S
  refine WL.al1 (pc := 641) C dL_law_641 ?_
  refine WL.callNI (pc := 642) (av := []) (rest := []) C dL_law_642 (k_X5_unhear x.2.1 F L ) ml_L_94 rfl rfl rfl (Nat.le_of_ble_eq_true rfl) ⟨Nat.le_of_ble_eq_true rfl, Nat.le_of_ble_eq_true rfl⟩ ?_
  refine WL.al2 (pc := 645) C dL_law_645 ?_
  refine WL.callMI (pc := 646) (av := []) (rest := _) C dL_law_646 (k_X6_unhear x.2.1 G L ) ml_L_97 rfl rfl rfl (Nat.le_of_ble_eq_true rfl) ⟨Nat.le_of_ble_eq_true rfl, Nat.le_of_ble_eq_true rfl⟩ ?_
  obtain ⟨e, S'⟩ := S.unhear
  refine WL.ceq (pc := 649) C dL_law_649 (by decide) e ?_
  exact kk _ _ _ ⟨n, nr, ns, 0, nx, sz, S'⟩
set_option maxHeartbeats 4000000 in
theorem law_c20 (C : Lx x b N xs D a1 a2 cc) (hN : N ≤ 320) {i0 : Nat} (hi : i0 + 4 < N) (kk : ∀ (F' G' : FF) (L' : Int64), SS F' G' → WL x b D a1 a2 cc (nI i0) 1047 [] F' G' L' L') {F G : FF} {L : Int64} (S : SS F G) : WL x b D a1 a2 cc (nI i0) 654 [] F G L L := by
  obtain ⟨n, nr, ns, h, nx, sz, S⟩ := S
  refine WL.al1 (pc := 654) C dL_law_654 ?_
  refine WL.arg (pc := 655) (k := 1) C hN (by omega) dL_law_655 dL_law_656 dL_law_657 dL_law_658 dL_law_659 rfl ?_
  refine WL.callNI (pc := 660) (av := [.int (xs (i0 + 1))]) (rest := []) C dL_law_660 (k_X5_expect x.2.1 F L nr ns h (xs (i0 + 1)) S.1.2.1 S.1.2.2.1) ml_L_98 rfl rfl rfl (Nat.le_of_ble_eq_true rfl) ⟨Nat.le_of_ble_eq_true rfl, Nat.le_of_ble_eq_true rfl⟩ ?_
  refine WL.al2 (pc := 663) C dL_law_663 ?_
  refine WL.arg (pc := 664) (k := 1) C hN (by omega) dL_law_664 dL_law_665 dL_law_666 dL_law_667 dL_law_668 rfl ?_
  refine WL.callMI (pc := 669) (av := [.int (xs (i0 + 1))]) (rest := _) C dL_law_669 (k_X6_expect x.2.1 G L nr ns h (xs (i0 + 1)) S.mr S.mh) ml_L_101 rfl rfl rfl (Nat.le_of_ble_eq_true rfl) ⟨Nat.le_of_ble_eq_true rfl, Nat.le_of_ble_eq_true rfl⟩ ?_
  have e := S.expect (xs (i0 + 1))
  refine WL.ceq (pc := 672) C dL_law_672 (by decide) e ?_
  exact kk _ _ _ ⟨n, nr, ns, h, nx, sz, S⟩
set_option maxHeartbeats 4000000 in
theorem law_c21 (C : Lx x b N xs D a1 a2 cc) (hN : N ≤ 320) {i0 : Nat} (hi : i0 + 4 < N) (kk : ∀ (F' G' : FF) (L' : Int64), SS F' G' → WL x b D a1 a2 cc (nI i0) 1047 [] F' G' L' L') {F G : FF} {L : Int64} (S : SS F G) : WL x b D a1 a2 cc (nI i0) 677 [] F G L L := by
  obtain ⟨n, nr, ns, h, nx, sz, S⟩ := S
  refine WL.al1 (pc := 677) C dL_law_677 ?_
  refine WL.arg (pc := 678) (k := 1) C hN (by omega) dL_law_678 dL_law_679 dL_law_680 dL_law_681 dL_law_682 rfl ?_
  refine WL.arg (pc := 683) (k := 2) C hN (by omega) dL_law_683 dL_law_684 dL_law_685 dL_law_686 dL_law_687 rfl ?_
  refine WL.arg (pc := 688) (k := 3) C hN (by omega) dL_law_688 dL_law_689 dL_law_690 dL_law_691 dL_law_692 rfl ?_
  refine WL.arg (pc := 693) (k := 4) C hN (by omega) dL_law_693 dL_law_694 dL_law_695 dL_law_696 dL_law_697 rfl ?_
  refine WL.callNI (pc := 698) (av := [.int (xs (i0 + 1)), .int (xs (i0 + 2)), .int (xs (i0 + 3)), .int (xs (i0 + 4))]) (rest := []) C dL_law_698 (k_X5_gone x.2.1 F L nr ns (xs (i0 + 1)) (xs (i0 + 2)) (xs (i0 + 3)) (xs (i0 + 4)) S.1.2.1) ml_L_102 rfl rfl rfl (Nat.le_of_ble_eq_true rfl) ⟨Nat.le_of_ble_eq_true rfl, Nat.le_of_ble_eq_true rfl⟩ ?_
  refine WL.al2 (pc := 701) C dL_law_701 ?_
  refine WL.arg (pc := 702) (k := 1) C hN (by omega) dL_law_702 dL_law_703 dL_law_704 dL_law_705 dL_law_706 rfl ?_
  refine WL.arg (pc := 707) (k := 2) C hN (by omega) dL_law_707 dL_law_708 dL_law_709 dL_law_710 dL_law_711 rfl ?_
  refine WL.arg (pc := 712) (k := 3) C hN (by omega) dL_law_712 dL_law_713 dL_law_714 dL_law_715 dL_law_716 rfl ?_
  refine WL.arg (pc := 717) (k := 4) C hN (by omega) dL_law_717 dL_law_718 dL_law_719 dL_law_720 dL_law_721 rfl ?_
  refine WL.callMI (pc := 722) (av := [.int (xs (i0 + 1)), .int (xs (i0 + 2)), .int (xs (i0 + 3)), .int (xs (i0 + 4))]) (rest := _) C dL_law_722 (k_X6_gone x.2.1 G L nr ns (xs (i0 + 1)) (xs (i0 + 2)) (xs (i0 + 3)) (xs (i0 + 4)) S.mr) ml_L_105 rfl rfl rfl (Nat.le_of_ble_eq_true rfl) ⟨Nat.le_of_ble_eq_true rfl, Nat.le_of_ble_eq_true rfl⟩ ?_
  have e := S.gone (xs (i0 + 1)) (xs (i0 + 2)) (xs (i0 + 3)) (xs (i0 + 4))
  refine WL.ceq (pc := 725) C dL_law_725 (by decide) e ?_
  exact kk _ _ _ ⟨n, nr, ns, h, nx, sz, S⟩
set_option maxHeartbeats 4000000 in
theorem law_c22 (C : Lx x b N xs D a1 a2 cc) (hN : N ≤ 320) {i0 : Nat} (hi : i0 + 4 < N) (kk : ∀ (F' G' : FF) (L' : Int64), SS F' G' → WL x b D a1 a2 cc (nI i0) 1047 [] F' G' L' L') {F G : FF} {L : Int64} (S : SS F G) : WL x b D a1 a2 cc (nI i0) 730 [] F G L L := by
  obtain ⟨n, nr, ns, h, nx, sz, S⟩ := S
  obtain ⟨aa, la, ea⟩ := sh_abs (F := F) S.1.2.1.2.2.1 S.1.2.1.2.2.2 (ix (xs (i0 + 1)))
  obtain ⟨ab, lb, eb⟩ := shM_abs (G := G) S.1.2.1.2.2.1 S.1.2.1.2.2.2 (ix (xs (i0 + 1)))
  refine WL.al1 (pc := 730) C dL_law_730 ?_
  refine WL.arg (pc := 731) (k := 1) C hN (by omega) dL_law_731 dL_law_732 dL_law_733 dL_law_734 dL_law_735 rfl ?_
  refine WL.arg (pc := 736) (k := 2) C hN (by omega) dL_law_736 dL_law_737 dL_law_738 dL_law_739 dL_law_740 rfl ?_
  refine WL.bool (pc := 741) C dL_law_741 dL_law_744 dL_law_745 dL_law_748 ?_
  refine WL.callNI (pc := 749) (av := [.int (xs (i0 + 1)), .int (b2 (nz (xs (i0 + 2))))]) (rest := []) C dL_law_749 (k_X5_share x.2.1 F L nr ns aa (xs (i0 + 1)) (nz (xs (i0 + 2))) S.1.2.1 S.1.2.2.2.2.1 ea la) ml_L_106 rfl rfl rfl (Nat.le_of_ble_eq_true rfl) ⟨Nat.le_of_ble_eq_true rfl, Nat.le_of_ble_eq_true rfl⟩ ?_
  refine WL.al2 (pc := 752) C dL_law_752 ?_
  refine WL.arg (pc := 753) (k := 1) C hN (by omega) dL_law_753 dL_law_754 dL_law_755 dL_law_756 dL_law_757 rfl ?_
  refine WL.arg (pc := 758) (k := 2) C hN (by omega) dL_law_758 dL_law_759 dL_law_760 dL_law_761 dL_law_762 rfl ?_
  refine WL.bool (pc := 763) C dL_law_763 dL_law_766 dL_law_767 dL_law_770 ?_
  refine WL.callMI (pc := 771) (av := [.int (xs (i0 + 1)), .int (b2 (nz (xs (i0 + 2))))]) (rest := _) C dL_law_771 (k_X6_share x.2.1 G L nr ns ab (xs (i0 + 1)) (nz (xs (i0 + 2))) S.mr eb lb) ml_L_110 rfl rfl rfl (Nat.le_of_ble_eq_true rfl) ⟨Nat.le_of_ble_eq_true rfl, Nat.le_of_ble_eq_true rfl⟩ ?_
  have e := S.share2 (up := nz (xs (i0 + 2))) ea eb la lb
  refine WL.ceq (pc := 774) C dL_law_774 (by decide) e ?_
  exact kk _ _ _ ⟨n, nr, ns, h, nx, sz, S.shS _⟩
set_option maxHeartbeats 4000000 in
theorem law_c23 (C : Lx x b N xs D a1 a2 cc) (hN : N ≤ 320) {i0 : Nat} (hi : i0 + 4 < N) (kk : ∀ (F' G' : FF) (L' : Int64), SS F' G' → WL x b D a1 a2 cc (nI i0) 1047 [] F' G' L' L') {F G : FF} {L : Int64} (S : SS F G) : WL x b D a1 a2 cc (nI i0) 779 [] F G L L := by
  obtain ⟨n, nr, ns, h, nx, sz, S⟩ := S
  refine WL.al1 (pc := 779) C dL_law_779 ?_
  refine WL.arg (pc := 780) (k := 1) C hN (by omega) dL_law_780 dL_law_781 dL_law_782 dL_law_783 dL_law_784 rfl ?_
  refine WL.arg (pc := 785) (k := 2) C hN (by omega) dL_law_785 dL_law_786 dL_law_787 dL_law_788 dL_law_789 rfl ?_
  refine WL.arg (pc := 790) (k := 3) C hN (by omega) dL_law_790 dL_law_791 dL_law_792 dL_law_793 dL_law_794 rfl ?_
  refine WL.arg (pc := 795) (k := 4) C hN (by omega) dL_law_795 dL_law_796 dL_law_797 dL_law_798 dL_law_799 rfl ?_
  refine WL.callNI (pc := 800) (av := [.int (xs (i0 + 1)), .int (xs (i0 + 2)), .int (xs (i0 + 3)), .int (xs (i0 + 4))]) (rest := []) C dL_law_800 (k_X5_rests x.2.1 F L nr ns (xs (i0 + 1)) (xs (i0 + 2)) (xs (i0 + 3)) (xs (i0 + 4)) S.1.2.1 S.1.2.2.2.2.1) ml_L_111 rfl rfl rfl (Nat.le_of_ble_eq_true rfl) ⟨Nat.le_of_ble_eq_true rfl, Nat.le_of_ble_eq_true rfl⟩ ?_
  refine WL.al2 (pc := 803) C dL_law_803 ?_
  refine WL.arg (pc := 804) (k := 1) C hN (by omega) dL_law_804 dL_law_805 dL_law_806 dL_law_807 dL_law_808 rfl ?_
  refine WL.arg (pc := 809) (k := 2) C hN (by omega) dL_law_809 dL_law_810 dL_law_811 dL_law_812 dL_law_813 rfl ?_
  refine WL.arg (pc := 814) (k := 3) C hN (by omega) dL_law_814 dL_law_815 dL_law_816 dL_law_817 dL_law_818 rfl ?_
  refine WL.arg (pc := 819) (k := 4) C hN (by omega) dL_law_819 dL_law_820 dL_law_821 dL_law_822 dL_law_823 rfl ?_
  refine WL.callMI (pc := 824) (av := [.int (xs (i0 + 1)), .int (xs (i0 + 2)), .int (xs (i0 + 3)), .int (xs (i0 + 4))]) (rest := _) C dL_law_824 (k_X6_rests x.2.1 G L nr ns (xs (i0 + 1)) (xs (i0 + 2)) (xs (i0 + 3)) (xs (i0 + 4)) S.mr) ml_L_114 rfl rfl rfl (Nat.le_of_ble_eq_true rfl) ⟨Nat.le_of_ble_eq_true rfl, Nat.le_of_ble_eq_true rfl⟩ ?_
  have e := S.rests (xs (i0 + 1)) (xs (i0 + 2)) (xs (i0 + 3)) (xs (i0 + 4))
  refine WL.ceq (pc := 827) C dL_law_827 (by decide) e ?_
  exact kk _ _ _ ⟨n, nr, ns, h, nx, sz, S⟩
set_option maxHeartbeats 4000000 in
theorem law_c24 (C : Lx x b N xs D a1 a2 cc) (hN : N ≤ 320) {i0 : Nat} (hi : i0 + 4 < N) (kk : ∀ (F' G' : FF) (L' : Int64), SS F' G' → WL x b D a1 a2 cc (nI i0) 1047 [] F' G' L' L') {F G : FF} {L : Int64} (S : SS F G) : WL x b D a1 a2 cc (nI i0) 832 [] F G L L := by
  obtain ⟨n, nr, ns, h, nx, sz, S⟩ := S
  refine WL.al1 (pc := 832) C dL_law_832 ?_
  refine WL.arg (pc := 833) (k := 1) C hN (by omega) dL_law_833 dL_law_834 dL_law_835 dL_law_836 dL_law_837 rfl ?_
  refine WL.arg (pc := 838) (k := 2) C hN (by omega) dL_law_838 dL_law_839 dL_law_840 dL_law_841 dL_law_842 rfl ?_
  refine WL.arg (pc := 843) (k := 3) C hN (by omega) dL_law_843 dL_law_844 dL_law_845 dL_law_846 dL_law_847 rfl ?_
  refine WL.arg (pc := 848) (k := 4) C hN (by omega) dL_law_848 dL_law_849 dL_law_850 dL_law_851 dL_law_852 rfl ?_
  refine WL.bool (pc := 853) C dL_law_853 dL_law_856 dL_law_857 dL_law_860 ?_
  refine WL.callNI (pc := 861) (av := [.int (xs (i0 + 1)), .int (xs (i0 + 2)), .int (xs (i0 + 3)), .int (b2 (nz (xs (i0 + 4))))]) (rest := []) C dL_law_861 (k_X5_flicker x.2.1 F L nr ns (xs (i0 + 1)) (xs (i0 + 2)) (xs (i0 + 3)) (nz (xs (i0 + 4))) S.1.2.1 S.1.2.2.2.2.1) ml_L_115 rfl rfl rfl (Nat.le_of_ble_eq_true rfl) ⟨Nat.le_of_ble_eq_true rfl, Nat.le_of_ble_eq_true rfl⟩ ?_
  refine WL.al2 (pc := 864) C dL_law_864 ?_
  refine WL.arg (pc := 865) (k := 1) C hN (by omega) dL_law_865 dL_law_866 dL_law_867 dL_law_868 dL_law_869 rfl ?_
  refine WL.arg (pc := 870) (k := 2) C hN (by omega) dL_law_870 dL_law_871 dL_law_872 dL_law_873 dL_law_874 rfl ?_
  refine WL.arg (pc := 875) (k := 3) C hN (by omega) dL_law_875 dL_law_876 dL_law_877 dL_law_878 dL_law_879 rfl ?_
  refine WL.arg (pc := 880) (k := 4) C hN (by omega) dL_law_880 dL_law_881 dL_law_882 dL_law_883 dL_law_884 rfl ?_
  refine WL.bool (pc := 885) C dL_law_885 dL_law_888 dL_law_889 dL_law_892 ?_
  refine WL.callMI (pc := 893) (av := [.int (xs (i0 + 1)), .int (xs (i0 + 2)), .int (xs (i0 + 3)), .int (b2 (nz (xs (i0 + 4))))]) (rest := _) C dL_law_893 (k_X6_flicker x.2.1 G L nr ns (xs (i0 + 1)) (xs (i0 + 2)) (xs (i0 + 3)) (nz (xs (i0 + 4))) S.mr) ml_L_119 rfl rfl rfl (Nat.le_of_ble_eq_true rfl) ⟨Nat.le_of_ble_eq_true rfl, Nat.le_of_ble_eq_true rfl⟩ ?_
  have e := S.flicker (xs (i0 + 1)) (xs (i0 + 2)) (xs (i0 + 3)) (nz (xs (i0 + 4)))
  refine WL.ceq (pc := 896) C dL_law_896 (by decide) e ?_
  exact kk _ _ _ ⟨n, nr, ns, h, nx, sz, S.flS _ _ _⟩
set_option maxHeartbeats 4000000 in
theorem law_c25 (C : Lx x b N xs D a1 a2 cc) (hN : N ≤ 320) {i0 : Nat} (hi : i0 + 4 < N) (kk : ∀ (F' G' : FF) (L' : Int64), SS F' G' → WL x b D a1 a2 cc (nI i0) 1047 [] F' G' L' L') {F G : FF} {L : Int64} (S : SS F G) : WL x b D a1 a2 cc (nI i0) 901 [] F G L L := by
  obtain ⟨n, nr, ns, h, nx, sz, S⟩ := S
  refine WL.al1 (pc := 901) C dL_law_901 ?_
  refine WL.arg (pc := 902) (k := 1) C hN (by omega) dL_law_902 dL_law_903 dL_law_904 dL_law_905 dL_law_906 rfl ?_
  refine WL.i2l (pc := 907) C dL_law_907 ?_
  refine WL.bip (pc := 908) (v := 32) C dL_law_908 (by decide) ?_
  refine WL.lshl (pc := 910) C dL_law_910 ?_
  refine WL.arg (pc := 911) (k := 2) C hN (by omega) dL_law_911 dL_law_912 dL_law_913 dL_law_914 dL_law_915 rfl ?_
  refine WL.i2l (pc := 916) C dL_law_916 ?_
  refine WL.ldc2 (pc := 917) C dL_law_917 cs_L_120 ?_
  refine WL.land (pc := 920) C dL_law_920 ?_
  refine WL.lor (pc := 921) C dL_law_921 ?_
  refine WL.callNL (pc := 922) (av := [.long ((((xs (i0 + 1))).toInt64 <<< ((32 : Int32).toInt64 &&& 63)) ||| (((xs (i0 + 2))).toInt64 &&& 4294967295))]) (rest := []) C dL_law_922 (k_X5_seed x.2.1 F L ((((xs (i0 + 1))).toInt64 <<< ((32 : Int32).toInt64 &&& 63)) ||| (((xs (i0 + 2))).toInt64 &&& 4294967295))) ml_L_122 rfl rfl rfl (Nat.le_of_ble_eq_true rfl) ⟨Nat.le_of_ble_eq_true rfl, Nat.le_of_ble_eq_true rfl⟩ ?_
  refine WL.al2 (pc := 925) C dL_law_925 ?_
  refine WL.arg (pc := 926) (k := 1) C hN (by omega) dL_law_926 dL_law_927 dL_law_928 dL_law_929 dL_law_930 rfl ?_
  refine WL.i2l (pc := 931) C dL_law_931 ?_
  refine WL.bip (pc := 932) (v := 32) C dL_law_932 (by decide) ?_
  refine WL.lshl (pc := 934) C dL_law_934 ?_
  refine WL.arg (pc := 935) (k := 2) C hN (by omega) dL_law_935 dL_law_936 dL_law_937 dL_law_938 dL_law_939 rfl ?_
  refine WL.i2l (pc := 940) C dL_law_940 ?_
  refine WL.ldc2 (pc := 941) C dL_law_941 cs_L_120 ?_
  refine WL.land (pc := 944) C dL_law_944 ?_
  refine WL.lor (pc := 945) C dL_law_945 ?_
  refine WL.callML (pc := 946) (av := [.long ((((xs (i0 + 1))).toInt64 <<< ((32 : Int32).toInt64 &&& 63)) ||| (((xs (i0 + 2))).toInt64 &&& 4294967295))]) (rest := _) C dL_law_946 (k_X6_seed x.2.1 G L ((((xs (i0 + 1))).toInt64 <<< ((32 : Int32).toInt64 &&& 63)) ||| (((xs (i0 + 2))).toInt64 &&& 4294967295))) ml_L_126 rfl rfl rfl (Nat.le_of_ble_eq_true rfl) ⟨Nat.le_of_ble_eq_true rfl, Nat.le_of_ble_eq_true rfl⟩ ?_
  refine WL.lceq (pc := 949) C dL_law_949 dL_law_950 (by decide) rfl ?_
  exact kk _ _ _ ⟨n, nr, ns, h, nx, sz, S⟩
set_option maxHeartbeats 4000000 in
theorem law_c26 (C : Lx x b N xs D a1 a2 cc) (hN : N ≤ 320) {i0 : Nat} (hi : i0 + 4 < N) (kk : ∀ (F' G' : FF) (L' : Int64), SS F' G' → WL x b D a1 a2 cc (nI i0) 1047 [] F' G' L' L') {F G : FF} {L : Int64} (S : SS F G) : WL x b D a1 a2 cc (nI i0) 955 [] F G L L := by
  obtain ⟨n, nr, ns, h, nx, sz, S⟩ := S
  refine WL.al1 (pc := 955) C dL_law_955 ?_
  refine WL.arg (pc := 956) (k := 1) C hN (by omega) dL_law_956 dL_law_957 dL_law_958 dL_law_959 dL_law_960 rfl ?_
  refine WL.callNI (pc := 961) (av := [.int (xs (i0 + 1))]) (rest := []) C dL_law_961 (k_X5_winters x.2.1 F L nr ns (xs (i0 + 1)) S.1.2.1 S.1.2.2.2.2.1) ml_L_127 rfl rfl rfl (Nat.le_of_ble_eq_true rfl) ⟨Nat.le_of_ble_eq_true rfl, Nat.le_of_ble_eq_true rfl⟩ ?_
  refine WL.al2 (pc := 964) C dL_law_964 ?_
  refine WL.arg (pc := 965) (k := 1) C hN (by omega) dL_law_965 dL_law_966 dL_law_967 dL_law_968 dL_law_969 rfl ?_
  refine WL.callMI (pc := 970) (av := [.int (xs (i0 + 1))]) (rest := _) C dL_law_970 (k_X6_winters x.2.1 G L nr ns (xs (i0 + 1)) S.mr) ml_L_130 rfl rfl rfl (Nat.le_of_ble_eq_true rfl) ⟨Nat.le_of_ble_eq_true rfl, Nat.le_of_ble_eq_true rfl⟩ ?_
  obtain ⟨e, eL, sF, sG⟩ := S.winters L (xs (i0 + 1))
  refine WL.ceq (pc := 973) C dL_law_973 (by decide) e ?_
  rw [eL]
  exact kk _ _ _ ⟨n, nr, ns, h, nx, sz, S.sc sF sG⟩
set_option maxHeartbeats 4000000 in
theorem law_c27 (C : Lx x b N xs D a1 a2 cc) (hN : N ≤ 320) {i0 : Nat} (hi : i0 + 4 < N) (kk : ∀ (F' G' : FF) (L' : Int64), SS F' G' → WL x b D a1 a2 cc (nI i0) 1047 [] F' G' L' L') {F G : FF} {L : Int64} (S : SS F G) : WL x b D a1 a2 cc (nI i0) 978 [] F G L L := by
  obtain ⟨n, nr, ns, h, nx, sz, S⟩ := S
  refine WL.al1 (pc := 978) C dL_law_978 ?_
  refine WL.arg (pc := 979) (k := 1) C hN (by omega) dL_law_979 dL_law_980 dL_law_981 dL_law_982 dL_law_983 rfl ?_
  refine WL.callNI (pc := 984) (av := [.int (xs (i0 + 1))]) (rest := []) C dL_law_984 (k_X5_keep x.2.1 F L (xs (i0 + 1)) S.1.2.2.2.2.1) ml_L_131 rfl rfl rfl (Nat.le_of_ble_eq_true rfl) ⟨Nat.le_of_ble_eq_true rfl, Nat.le_of_ble_eq_true rfl⟩ ?_
  refine WL.al2 (pc := 987) C dL_law_987 ?_
  refine WL.arg (pc := 988) (k := 1) C hN (by omega) dL_law_988 dL_law_989 dL_law_990 dL_law_991 dL_law_992 rfl ?_
  refine WL.callMI (pc := 993) (av := [.int (xs (i0 + 1))]) (rest := _) C dL_law_993 (k_X6_keep x.2.1 G L (xs (i0 + 1))) ml_L_134 rfl rfl rfl (Nat.le_of_ble_eq_true rfl) ⟨Nat.le_of_ble_eq_true rfl, Nat.le_of_ble_eq_true rfl⟩ ?_
  obtain ⟨e, S'⟩ := S.keep (xs (i0 + 1))
  refine WL.ceq (pc := 996) C dL_law_996 (by decide) e ?_
  exact kk _ _ _ ⟨n, nr, ns, h, nx, sz, S'⟩
set_option maxHeartbeats 4000000 in
theorem law_c28 (C : Lx x b N xs D a1 a2 cc) (hN : N ≤ 320) {i0 : Nat} (hi : i0 + 4 < N) (kk : ∀ (F' G' : FF) (L' : Int64), SS F' G' → WL x b D a1 a2 cc (nI i0) 1047 [] F' G' L' L') {F G : FF} {L : Int64} (S : SS F G) : WL x b D a1 a2 cc (nI i0) 1001 [] F G L L := by
  obtain ⟨n, nr, ns, h, nx, sz, S⟩ := S
  refine WL.al1 (pc := 1001) C dL_law_1001 ?_
  refine WL.arg (pc := 1002) (k := 1) C hN (by omega) dL_law_1002 dL_law_1003 dL_law_1004 dL_law_1005 dL_law_1006 rfl ?_
  refine WL.callNI (pc := 1007) (av := [.int (xs (i0 + 1))]) (rest := []) C dL_law_1007 (k_X5_again x.2.1 F L (xs (i0 + 1)) S.1.2.2.2.2.1) ml_L_135 rfl rfl rfl (Nat.le_of_ble_eq_true rfl) ⟨Nat.le_of_ble_eq_true rfl, Nat.le_of_ble_eq_true rfl⟩ ?_
  refine WL.al2 (pc := 1010) C dL_law_1010 ?_
  refine WL.arg (pc := 1011) (k := 1) C hN (by omega) dL_law_1011 dL_law_1012 dL_law_1013 dL_law_1014 dL_law_1015 rfl ?_
  refine WL.callMI (pc := 1016) (av := [.int (xs (i0 + 1))]) (rest := _) C dL_law_1016 (k_X6_again x.2.1 G L (xs (i0 + 1))) ml_L_138 rfl rfl rfl (Nat.le_of_ble_eq_true rfl) ⟨Nat.le_of_ble_eq_true rfl, Nat.le_of_ble_eq_true rfl⟩ ?_
  obtain ⟨e, sz', S'⟩ := S.again (xs (i0 + 1))
  refine WL.ceq (pc := 1019) C dL_law_1019 (by decide) e ?_
  exact kk _ _ _ ⟨n, nr, ns, h, nx, sz', S'⟩
set_option maxHeartbeats 4000000 in
theorem law_c29 (C : Lx x b N xs D a1 a2 cc) (hN : N ≤ 320) {i0 : Nat} (hi : i0 + 4 < N) (kk : ∀ (F' G' : FF) (L' : Int64), SS F' G' → WL x b D a1 a2 cc (nI i0) 1047 [] F' G' L' L') {F G : FF} {L : Int64} (S : SS F G) : WL x b D a1 a2 cc (nI i0) 1024 [] F G L L := by
  obtain ⟨n, nr, ns, h, nx, sz, S⟩ := S
  refine WL.al1 (pc := 1024) C dL_law_1024 ?_
  refine WL.arg (pc := 1025) (k := 1) C hN (by omega) dL_law_1025 dL_law_1026 dL_law_1027 dL_law_1028 dL_law_1029 rfl ?_
  refine WL.callNI (pc := 1030) (av := [.int (xs (i0 + 1))]) (rest := []) C dL_law_1030 (k_X5_count x.2.1 F L nr ns (xs (i0 + 1)) S.1.2.1 S.1.2.2.2.2.1) ml_L_139 rfl rfl rfl (Nat.le_of_ble_eq_true rfl) ⟨Nat.le_of_ble_eq_true rfl, Nat.le_of_ble_eq_true rfl⟩ ?_
  refine WL.al2 (pc := 1033) C dL_law_1033 ?_
  refine WL.arg (pc := 1034) (k := 1) C hN (by omega) dL_law_1034 dL_law_1035 dL_law_1036 dL_law_1037 dL_law_1038 rfl ?_
  refine WL.callMI (pc := 1039) (av := [.int (xs (i0 + 1))]) (rest := _) C dL_law_1039 (k_X6_count x.2.1 G L (xs (i0 + 1))) ml_L_142 rfl rfl rfl (Nat.le_of_ble_eq_true rfl) ⟨Nat.le_of_ble_eq_true rfl, Nat.le_of_ble_eq_true rfl⟩ ?_
  have e := S.count (xs (i0 + 1))
  refine WL.ceq (pc := 1042) C dL_law_1042 (by decide) e ?_
  exact kk _ _ _ ⟨n, nr, ns, h, nx, sz, S⟩
end LW
