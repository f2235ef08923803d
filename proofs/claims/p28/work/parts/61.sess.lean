theorem zi_101_482 : zI 101 482 = some (.iload 14, []) := by decide +kernel
theorem zi_101_484 : zI 101 484 = some (.iload 9, []) := by decide +kernel
theorem zi_101_486 : zI 101 486 = some (.if_icmp .ge 263, [749]) := by decide +kernel
theorem zi_101_489 : zI 101 489 = some (.aload_n 3, []) := by decide +kernel
theorem zi_101_490 : zI 101 490 = some (.iload 14, []) := by decide +kernel
theorem zi_101_492 : zI 101 492 = some (.iconst 3, []) := by decide +kernel
theorem zi_101_493 : zI 101 493 = some (.invokevirtual 64, [7, 0, 2, 6, 247, 248, 9, 246, 0, 539]) := by decide +kernel
theorem zi_101_496 : zI 101 496 = some (.istore 15, []) := by decide +kernel
theorem zi_101_498 : zI 101 498 = some (.iload 11, []) := by decide +kernel
theorem zi_101_500 : zI 101 500 = some (.iload 15, []) := by decide +kernel
theorem zi_101_502 : zI 101 502 = some (.iadd, []) := by decide +kernel
theorem zi_101_503 : zI 101 503 = some (.istore 11, []) := by decide +kernel
theorem zi_101_505 : zI 101 505 = some (.iload 12, []) := by decide +kernel
theorem zi_101_507 : zI 101 507 = some (.aload_n 3, []) := by decide +kernel
theorem zi_101_508 : zI 101 508 = some (.iload 14, []) := by decide +kernel
theorem zi_101_510 : zI 101 510 = some (.bipush 6, []) := by decide +kernel
theorem zi_101_512 : zI 101 512 = some (.invokevirtual 64, [7, 0, 2, 6, 247, 248, 9, 246, 0, 539]) := by decide +kernel
theorem zi_101_515 : zI 101 515 = some (.invokestatic 67, [0, 4, 540, 541, 542, 543]) := by decide +kernel
theorem zi_101_518 : zI 101 518 = some (.istore 12, []) := by decide +kernel
theorem zi_101_520 : zI 101 520 = some (.iload 13, []) := by decide +kernel
theorem zi_101_522 : zI 101 522 = some (.aload_n 3, []) := by decide +kernel
theorem zi_101_523 : zI 101 523 = some (.iload 14, []) := by decide +kernel
theorem zi_101_525 : zI 101 525 = some (.iconst 4, []) := by decide +kernel
theorem zi_101_526 : zI 101 526 = some (.invokevirtual 64, [7, 0, 2, 6, 247, 248, 9, 246, 0, 539]) := by decide +kernel
theorem zi_101_529 : zI 101 529 = some (.ifCond .le 7, [536]) := by decide +kernel
theorem zi_101_532 : zI 101 532 = some (.iconst 1, []) := by decide +kernel
theorem zi_101_533 : zI 101 533 = some (.goto 4, [537]) := by decide +kernel
theorem zi_101_536 : zI 101 536 = some (.iconst 0, []) := by decide +kernel
theorem zi_101_537 : zI 101 537 = some (.iadd, []) := by decide +kernel
theorem zi_101_538 : zI 101 538 = some (.istore 13, []) := by decide +kernel
theorem zi_101_540 : zI 101 540 = some (.aload_n 3, []) := by decide +kernel
theorem zi_101_541 : zI 101 541 = some (.iload 14, []) := by decide +kernel
theorem zi_101_543 : zI 101 543 = some (.iconst 4, []) := by decide +kernel
theorem zi_101_544 : zI 101 544 = some (.invokevirtual 64, [7, 0, 2, 6, 247, 248, 9, 246, 0, 539]) := by decide +kernel
theorem zi_101_547 : zI 101 547 = some (.iload 15, []) := by decide +kernel
theorem zi_101_549 : zI 101 549 = some (.if_icmp .gt 82, [631]) := by decide +kernel
theorem zi_101_552 : zI 101 552 = some (.aload_n 3, []) := by decide +kernel
theorem zi_101_553 : zI 101 553 = some (.iload 14, []) := by decide +kernel
theorem zi_101_555 : zI 101 555 = some (.iconst 5, []) := by decide +kernel
theorem zi_101_556 : zI 101 556 = some (.invokevirtual 64, [7, 0, 2, 6, 247, 248, 9, 246, 0, 539]) := by decide +kernel
theorem zi_101_559 : zI 101 559 = some (.iload 15, []) := by decide +kernel
theorem zi_101_561 : zI 101 561 = some (.if_icmp .gt 70, [631]) := by decide +kernel
theorem zi_101_564 : zI 101 564 = some (.aload_n 3, []) := by decide +kernel
theorem zi_101_565 : zI 101 565 = some (.iload 14, []) := by decide +kernel
theorem zi_101_567 : zI 101 567 = some (.bipush 6, []) := by decide +kernel
theorem zi_101_569 : zI 101 569 = some (.invokevirtual 64, [7, 0, 2, 6, 247, 248, 9, 246, 0, 539]) := by decide +kernel
theorem zi_101_572 : zI 101 572 = some (.iconst 1, []) := by decide +kernel
theorem zi_101_573 : zI 101 573 = some (.if_icmp .lt 58, [631]) := by decide +kernel
theorem zi_101_576 : zI 101 576 = some (.aload_n 3, []) := by decide +kernel
theorem zi_101_577 : zI 101 577 = some (.iload 14, []) := by decide +kernel
theorem zi_101_579 : zI 101 579 = some (.iconst 0, []) := by decide +kernel
theorem zi_101_580 : zI 101 580 = some (.invokevirtual 72, [16, 0, 2, 6, 546, 547, 9, 545, 0, 544]) := by decide +kernel
theorem zi_101_583 : zI 101 583 = some (.iload 14, []) := by decide +kernel
theorem zi_101_585 : zI 101 585 = some (.ifCond .ne 7, [592]) := by decide +kernel
theorem zi_101_588 : zI 101 588 = some (.iconst 0, []) := by decide +kernel
theorem zi_101_589 : zI 101 589 = some (.goto 14, [603]) := by decide +kernel
theorem zi_101_592 : zI 101 592 = some (.aload_n 3, []) := by decide +kernel
theorem zi_101_593 : zI 101 593 = some (.iload 14, []) := by decide +kernel
theorem zi_101_595 : zI 101 595 = some (.iconst 1, []) := by decide +kernel
theorem zi_101_596 : zI 101 596 = some (.isub, []) := by decide +kernel
theorem zi_101_597 : zI 101 597 = some (.iconst 0, []) := by decide +kernel
theorem zi_101_598 : zI 101 598 = some (.invokevirtual 72, [16, 0, 2, 6, 546, 547, 9, 545, 0, 544]) := by decide +kernel
theorem zi_101_601 : zI 101 601 = some (.iconst 1, []) := by decide +kernel
theorem zi_101_602 : zI 101 602 = some (.iadd, []) := by decide +kernel
theorem zi_101_603 : zI 101 603 = some (.if_icmp .lt 28, [631]) := by decide +kernel
theorem zi_101_606 : zI 101 606 = some (.aload_n 3, []) := by decide +kernel
theorem zi_101_607 : zI 101 607 = some (.aload_n 3, []) := by decide +kernel
theorem zi_101_608 : zI 101 608 = some (.iload 14, []) := by decide +kernel
theorem zi_101_610 : zI 101 610 = some (.iload 15, []) := by decide +kernel
theorem zi_101_612 : zI 101 612 = some (.iconst 1, []) := by decide +kernel
theorem zi_101_613 : zI 101 613 = some (.isub, []) := by decide +kernel
theorem zi_101_614 : zI 101 614 = some (.invokevirtual 72, [16, 0, 2, 6, 546, 547, 9, 545, 0, 544]) := by decide +kernel
theorem zi_101_617 : zI 101 617 = some (.iconst 0, []) := by decide +kernel
theorem zi_101_618 : zI 101 618 = some (.invokevirtual 35, [3, 0, 2, 6, 460, 461, 9, 459, 0, 524]) := by decide +kernel
theorem zi_101_621 : zI 101 621 = some (.aload_n 3, []) := by decide +kernel
theorem zi_101_622 : zI 101 622 = some (.iload 14, []) := by decide +kernel
theorem zi_101_624 : zI 101 624 = some (.iconst 2, []) := by decide +kernel
theorem zi_101_625 : zI 101 625 = some (.invokevirtual 64, [7, 0, 2, 6, 247, 248, 9, 246, 0, 539]) := by decide +kernel
theorem zi_101_628 : zI 101 628 = some (.if_icmp .eq 5, [633]) := by decide +kernel
theorem zi_101_633 : zI 101 633 = some (.iconst 0, []) := by decide +kernel
theorem zi_101_634 : zI 101 634 = some (.istore 16, []) := by decide +kernel
theorem zi_101_636 : zI 101 636 = some (.iload 16, []) := by decide +kernel
theorem zi_101_638 : zI 101 638 = some (.iload 15, []) := by decide +kernel
theorem zi_101_640 : zI 101 640 = some (.if_icmp .ge 103, [743]) := by decide +kernel
theorem zi_101_643 : zI 101 643 = some (.aload_n 3, []) := by decide +kernel
theorem zi_101_644 : zI 101 644 = some (.iload 14, []) := by decide +kernel
theorem zi_101_646 : zI 101 646 = some (.iload 16, []) := by decide +kernel
theorem zi_101_648 : zI 101 648 = some (.invokevirtual 72, [16, 0, 2, 6, 546, 547, 9, 545, 0, 544]) := by decide +kernel
theorem zi_101_651 : zI 101 651 = some (.istore 17, []) := by decide +kernel
theorem zi_101_653 : zI 101 653 = some (.aload_n 3, []) := by decide +kernel
theorem zi_101_654 : zI 101 654 = some (.iload 17, []) := by decide +kernel
theorem zi_101_656 : zI 101 656 = some (.bipush 6, []) := by decide +kernel
theorem zi_101_658 : zI 101 658 = some (.invokevirtual 35, [3, 0, 2, 6, 460, 461, 9, 459, 0, 524]) := by decide +kernel
theorem zi_101_661 : zI 101 661 = some (.iload 14, []) := by decide +kernel
theorem zi_101_663 : zI 101 663 = some (.if_icmp .ne 72, [735]) := by decide +kernel
theorem zi_101_666 : zI 101 666 = some (.aload_n 3, []) := by decide +kernel
theorem zi_101_667 : zI 101 667 = some (.iload 17, []) := by decide +kernel
theorem zi_101_669 : zI 101 669 = some (.iconst 5, []) := by decide +kernel
theorem zi_101_670 : zI 101 670 = some (.invokevirtual 35, [3, 0, 2, 6, 460, 461, 9, 459, 0, 524]) := by decide +kernel
theorem zi_101_673 : zI 101 673 = some (.aload_n 3, []) := by decide +kernel
theorem zi_101_674 : zI 101 674 = some (.iload 14, []) := by decide +kernel
theorem zi_101_676 : zI 101 676 = some (.iconst 0, []) := by decide +kernel
theorem zi_101_677 : zI 101 677 = some (.invokevirtual 64, [7, 0, 2, 6, 247, 248, 9, 246, 0, 539]) := by decide +kernel
theorem zi_101_680 : zI 101 680 = some (.if_icmp .ne 55, [735]) := by decide +kernel
theorem zi_101_683 : zI 101 683 = some (.iload 16, []) := by decide +kernel
theorem zi_101_685 : zI 101 685 = some (.ifCond .le 52, [737]) := by decide +kernel
theorem zi_101_688 : zI 101 688 = some (.iload 17, []) := by decide +kernel
theorem zi_101_690 : zI 101 690 = some (.aload_n 3, []) := by decide +kernel
theorem zi_101_691 : zI 101 691 = some (.iload 14, []) := by decide +kernel
theorem zi_101_693 : zI 101 693 = some (.iload 16, []) := by decide +kernel
theorem zi_101_695 : zI 101 695 = some (.iconst 1, []) := by decide +kernel
theorem zi_101_696 : zI 101 696 = some (.isub, []) := by decide +kernel
theorem zi_101_697 : zI 101 697 = some (.invokevirtual 72, [16, 0, 2, 6, 546, 547, 9, 545, 0, 544]) := by decide +kernel
theorem zi_101_700 : zI 101 700 = some (.if_icmp .le 35, [735]) := by decide +kernel
theorem zi_101_703 : zI 101 703 = some (.aload_n 3, []) := by decide +kernel
theorem zi_101_704 : zI 101 704 = some (.iload 17, []) := by decide +kernel
theorem zi_101_706 : zI 101 706 = some (.iconst 0, []) := by decide +kernel
theorem zi_101_707 : zI 101 707 = some (.invokevirtual 35, [3, 0, 2, 6, 460, 461, 9, 459, 0, 524]) := by decide +kernel
theorem zi_101_710 : zI 101 710 = some (.aload_n 3, []) := by decide +kernel
theorem zi_101_711 : zI 101 711 = some (.aload_n 3, []) := by decide +kernel
theorem zi_101_712 : zI 101 712 = some (.iload 14, []) := by decide +kernel
theorem zi_101_714 : zI 101 714 = some (.iload 16, []) := by decide +kernel
theorem zi_101_716 : zI 101 716 = some (.iconst 1, []) := by decide +kernel
theorem zi_101_717 : zI 101 717 = some (.isub, []) := by decide +kernel
theorem zi_101_718 : zI 101 718 = some (.invokevirtual 72, [16, 0, 2, 6, 546, 547, 9, 545, 0, 544]) := by decide +kernel
theorem zi_101_721 : zI 101 721 = some (.iconst 0, []) := by decide +kernel
theorem zi_101_722 : zI 101 722 = some (.invokevirtual 35, [3, 0, 2, 6, 460, 461, 9, 459, 0, 524]) := by decide +kernel
theorem zi_101_725 : zI 101 725 = some (.isub, []) := by decide +kernel
theorem zi_101_726 : zI 101 726 = some (.aload_n 2, []) := by decide +kernel
theorem zi_101_727 : zI 101 727 = some (.getfield 39, [7, 7, 525]) := by decide +kernel
theorem zi_101_730 : zI 101 730 = some (.iconst 1, []) := by decide +kernel
theorem zi_101_731 : zI 101 731 = some (.iaload, []) := by decide +kernel
theorem zi_101_732 : zI 101 732 = some (.if_icmp .le 5, [737]) := by decide +kernel
theorem zi_101_737 : zI 101 737 = some (.iinc 16 1, []) := by decide +kernel
theorem zi_101_740 : zI 101 740 = some (.goto (-104), [636]) := by decide +kernel
theorem zi_101_743 : zI 101 743 = some (.iinc 14 1, []) := by decide +kernel
theorem zi_101_746 : zI 101 746 = some (.goto (-264), [482]) := by decide +kernel
theorem zi_101_749 : zI 101 749 = some (.iload 11, []) := by decide +kernel
theorem zi_101_751 : zI 101 751 = some (.iload 10, []) := by decide +kernel
theorem zi_101_753 : zI 101 753 = some (.if_icmp .ne 97, [850]) := by decide +kernel
theorem zi_101_756 : zI 101 756 = some (.aload_n 3, []) := by decide +kernel
theorem zi_101_757 : zI 101 757 = some (.iconst 4, []) := by decide +kernel
theorem zi_101_758 : zI 101 758 = some (.invokevirtual 31, [15, 0, 1, 6, 232, 233, 9, 231, 0, 523]) := by decide +kernel
theorem zi_101_761 : zI 101 761 = some (.iload 13, []) := by decide +kernel
theorem zi_101_763 : zI 101 763 = some (.if_icmp .ne 87, [850]) := by decide +kernel
theorem zi_101_766 : zI 101 766 = some (.aload_n 3, []) := by decide +kernel
theorem zi_101_767 : zI 101 767 = some (.invokevirtual 75, [27, 0, 0, 6, 251, 252, 9, 250, 0, 548]) := by decide +kernel
theorem zi_101_770 : zI 101 770 = some (.ifCond .ge 7, [777]) := by decide +kernel
theorem zi_101_773 : zI 101 773 = some (.iconst 1, []) := by decide +kernel
theorem zi_101_774 : zI 101 774 = some (.goto 4, [778]) := by decide +kernel
theorem zi_101_777 : zI 101 777 = some (.iconst 0, []) := by decide +kernel
theorem zi_101_778 : zI 101 778 = some (.iload 9, []) := by decide +kernel
theorem zi_101_780 : zI 101 780 = some (.ifCond .ne 7, [787]) := by decide +kernel
theorem zi_101_783 : zI 101 783 = some (.iconst 1, []) := by decide +kernel
theorem zi_101_784 : zI 101 784 = some (.goto 4, [788]) := by decide +kernel
theorem zi_101_787 : zI 101 787 = some (.iconst 0, []) := by decide +kernel
theorem zi_101_788 : zI 101 788 = some (.if_icmp .ne 62, [850]) := by decide +kernel
theorem zi_101_791 : zI 101 791 = some (.iload 9, []) := by decide +kernel
theorem zi_101_793 : zI 101 793 = some (.ifCond .le 18, [811]) := by decide +kernel
theorem zi_101_796 : zI 101 796 = some (.aload_n 3, []) := by decide +kernel
theorem zi_101_797 : zI 101 797 = some (.aload_n 3, []) := by decide +kernel
theorem zi_101_798 : zI 101 798 = some (.invokevirtual 75, [27, 0, 0, 6, 251, 252, 9, 250, 0, 548]) := by decide +kernel
theorem zi_101_801 : zI 101 801 = some (.bipush 6, []) := by decide +kernel
theorem zi_101_803 : zI 101 803 = some (.invokevirtual 64, [7, 0, 2, 6, 247, 248, 9, 246, 0, 539]) := by decide +kernel
theorem zi_101_806 : zI 101 806 = some (.iload 12, []) := by decide +kernel
theorem zi_101_808 : zI 101 808 = some (.if_icmp .ne 42, [850]) := by decide +kernel
theorem zi_101_811 : zI 101 811 = some (.aload_n 3, []) := by decide +kernel
theorem zi_101_812 : zI 101 812 = some (.aload_n 2, []) := by decide +kernel
theorem zi_101_813 : zI 101 813 = some (.getfield 39, [7, 7, 525]) := by decide +kernel
theorem zi_101_816 : zI 101 816 = some (.iconst 1, []) := by decide +kernel
theorem zi_101_817 : zI 101 817 = some (.iaload, []) := by decide +kernel
theorem zi_101_818 : zI 101 818 = some (.invokevirtual 79, [91, 0, 1, 6, 551, 552, 9, 550, 0, 549]) := by decide +kernel
theorem zi_101_821 : zI 101 821 = some (.iload 9, []) := by decide +kernel
theorem zi_101_823 : zI 101 823 = some (.if_icmp .ne 27, [850]) := by decide +kernel
theorem zi_101_826 : zI 101 826 = some (.aload_n 3, []) := by decide +kernel
theorem zi_101_827 : zI 101 827 = some (.invokevirtual 82, [89, 0, 0, 6, 555, 556, 9, 554, 0, 553]) := by decide +kernel
theorem zi_101_830 : zI 101 830 = some (.iload 9, []) := by decide +kernel
theorem zi_101_832 : zI 101 832 = some (.ifCond .ne 7, [839]) := by decide +kernel
theorem zi_101_835 : zI 101 835 = some (.dconst 0, []) := by decide +kernel
theorem zi_101_836 : zI 101 836 = some (.goto 10, [846]) := by decide +kernel
theorem zi_101_839 : zI 101 839 = some (.iload 10, []) := by decide +kernel
theorem zi_101_841 : zI 101 841 = some (.i2d, []) := by decide +kernel
theorem zi_101_842 : zI 101 842 = some (.iload 9, []) := by decide +kernel
theorem zi_101_844 : zI 101 844 = some (.i2d, []) := by decide +kernel
theorem zi_101_845 : zI 101 845 = some (.ddiv, []) := by decide +kernel
theorem zi_101_846 : zI 101 846 = some (.dcmp .l, []) := by decide +kernel
theorem zi_101_847 : zI 101 847 = some (.ifCond .eq 5, [852]) := by decide +kernel
/-! the law: what it asks of sessions -/
/-- the most that any has -/
def zmx (U : Nat → Nat) : Nat → Nat
  | 0 => 0
  | n + 1 => if zmx U n < U n then U n else zmx U n
theorem zmx_ge (U : Nat → Nat) : ∀ (n s : Nat), s < n → U s ≤ zmx U n
  | 0, s, h => absurd h (by omega)
  | n + 1, s, h => by
    simp only [zmx]
    rcases Nat.lt_or_ge s n with k | k
    · have := zmx_ge U n s k
      split <;> omega
    · obtain rfl : s = n := by omega
      split <;> omega
theorem zmx_is (U : Nat → Nat) : ∀ n, zmx U n = 0 ∨ ∃ s, s < n ∧ zmx U n = U s
  | 0 => .inl rfl
  | n + 1 => by
    simp only [zmx]
    split
    · exact .inr ⟨n, by omega, rfl⟩
    · rcases zmx_is U n with k | ⟨s, h1, h2⟩
      · exact .inl k
      · exact .inr ⟨s, by omega, h2⟩
theorem zmx_le {U : Nat → Nat} {B n : Nat} (h : ∀ s, s < n → U s ≤ B) : zmx U n ≤ B := by
  rcases zmx_is U n with k | ⟨s, h1, h2⟩
  · omega
  · rw [h2]
    exact h s h1
theorem zmx_max {U : Nat → Nat} {n : Nat} (h1 : zmx U n < 2 ^ 31) (h2 : U n < 2 ^ 31) : (if nI (zmx U n) < nI (U n) then nI (U n) else nI (zmx U n)) = nI (zmx U (n + 1)) := by
  simp only [zmx]
  by_cases k : zmx U n < U n
  · rw [if_pos k, if_pos ((nI_ltI h1 h2).mpr k)]
  · rw [if_neg k, if_neg fun w => k ((nI_ltI h1 h2).mp w)]
section
theorem l_s2 {o : Nat} {h : zH} {F : Nat → Nat → Int32} {g : Nat → Nat} {x : Nat → Nat} {sh gp wi bk rl rt e u d : Nat} {T1 T4 : Int32} {D : Int64} {Q : zR → Prop} (w : zOw o h F (g 0) (g 1) (g 2) sh gp wi bk rl rt e u d) (q : zOk F g x sh gp wi bk) {C : Nat → Nat → Nat} {Z : Nat → Nat} (qs : zses F (g 4) (F 31 1) (g 0) C Z) {s : Nat} (hs : s < g 4) (X11 X12 : Option Value) (X13 : Int32) (k : ∀ X17, zev 101 482 [some (.ref 0), some (.int T1), some (.ref o), some (.ref (o + 1)), some (.int T4), some (.long D), none, some (.int (nI (g 0))), some (.int (nI (g 1))), some (.int (nI (g 4))), some (.int (nI (zkeys F (g 0)))), X11, X12, some (.int X13), some (.int (nI (s + 1))), some (.int (nI (Z s))), some (.int (nI (Z s))), X17] [] (nput (o + 1) F g h) Q) (i : Nat) (hi : i ≤ Z s) (X17 : Option Value) : zev 101 636 [some (.ref 0), some (.int T1), some (.ref o), some (.ref (o + 1)), some (.int T4), some (.long D), none, some (.int (nI (g 0))), some (.int (nI (g 1))), some (.int (nI (g 4))), some (.int (nI (zkeys F (g 0)))), X11, X12, some (.int X13), some (.int (nI s)), some (.int (nI (Z s))), some (.int (nI i)), X17] [] (nput (o + 1) F g h) Q := by
  have hb := w.hb
  have hb2 := w.hb2
  have hn := q.nb.n70
  have hS := q.S70
  obtain ⟨dr, hdr, hO⟩ := w.ob
  obtain ⟨sf, s1, s2, s3, s4, s5⟩ := w.se
  obtain ⟨z0, zn, z1, z2, z3, z4⟩ := qs.sz s hs
  rcases Nat.lt_or_ge i (Z s) with hiz | hiz
  · have next := l_s2 w q qs hs X11 X12 X13 k (i + 1) hiz
    obtain ⟨e1, e2, e3⟩ := qs.el s hs i hiz
    have a1 := c_inSession hb q qs s i hs hiz
    have b6 := c_ofLine6 hb q (C s i) e1
    rw [e2] at b6
    have b5 := c_ofLine5 hb q (C s i) e1
    rw [e3] at b5
    have b0 := c_ofLine0 hb q (C s i) e1
    have d0 := c_ofSession0 hb q qs s hs
    rcases Nat.eq_zero_or_pos i with h0 | h0
    · subst h0
      refine zev_of (fun _ kk => zr_iload (pc' := 638) zi_101_636 rfl rfl kk) ?_
      refine zev_of (fun _ kk => zr_iload (pc' := 640) zi_101_638 rfl rfl kk) ?_
      refine zv_icmp (pc' := 643) zi_101_640 rfl (fun h640 => ?_) (fun h640 => ?_)
      · replace h640 := zc_ge_t (by omega) (by omega) h640
        omega
      · replace h640 := zc_ge_f (by omega) (by omega) h640
        refine zev_of (fun _ kk => zr_aload_n (pc' := 644) zi_101_643 rfl rfl kk) ?_
        refine zev_of (fun _ kk => zr_iload (pc' := 646) zi_101_644 rfl rfl kk) ?_
        refine zev_of (fun _ kk => zr_iload (pc' := 648) zi_101_646 rfl rfl kk) ?_
        refine zev_of (fun _ kk => zr_v2 (pc' := 651) zi_101_648 (nput_at hb (k := 0) rfl) rfl a1 rfl kk) ?_
        refine zev_of (fun _ kk => zr_istore (pc' := 653) zi_101_651 (Nat.le_of_ble_eq_true rfl) rfl rfl kk) ?_
        dsimp only [zst1, zst2, zkill, List.set, List.getElem?_cons_succ, List.getElem?_cons_zero]
        refine zev_of (fun _ kk => zr_aload_n (pc' := 654) zi_101_653 rfl rfl kk) ?_
        refine zev_of (fun _ kk => zr_iload (pc' := 656) zi_101_654 rfl rfl kk) ?_
        refine zev_of (fun _ kk => zr_bipush (v := (nI 6)) (pc' := 658) zi_101_656 rfl rfl kk) ?_
        refine zev_of (fun _ kk => zr_v2 (pc' := 661) zi_101_658 (nput_at hb (k := 0) rfl) rfl b6 rfl kk) ?_
        refine zev_of (fun _ kk => zr_iload (pc' := 663) zi_101_661 rfl rfl kk) ?_
        refine zv_icmp (pc' := 666) zi_101_663 rfl (fun h663 => ?_) (fun h663 => ?_)
        · replace h663 := zc_ne_t h663
          exact absurd rfl h663
        · replace h663 := zc_ne_f h663
          refine zev_of (fun _ kk => zr_aload_n (pc' := 667) zi_101_666 rfl rfl kk) ?_
          refine zev_of (fun _ kk => zr_iload (pc' := 669) zi_101_667 rfl rfl kk) ?_
          refine zev_of (fun _ kk => zr_iconst (v := (nI 5)) (pc' := 670) zi_101_669 rfl rfl kk) ?_
          refine zev_of (fun _ kk => zr_v2 (pc' := 673) zi_101_670 (nput_at hb (k := 0) rfl) rfl b5 rfl kk) ?_
          refine zev_of (fun _ kk => zr_aload_n (pc' := 674) zi_101_673 rfl rfl kk) ?_
          refine zev_of (fun _ kk => zr_iload (pc' := 676) zi_101_674 rfl rfl kk) ?_
          refine zev_of (fun _ kk => zr_iconst (v := (nI 0)) (pc' := 677) zi_101_676 rfl rfl kk) ?_
          refine zev_of (fun _ kk => zr_v2 (pc' := 680) zi_101_677 (nput_at hb (k := 0) rfl) rfl d0 rfl kk) ?_
          refine zv_icmp (pc' := 683) zi_101_680 rfl (fun h680 => ?_) (fun h680 => ?_)
          · replace h680 := zc_ne_t h680
            exact absurd rfl h680
          · replace h680 := zc_ne_f h680
            refine zev_of (fun _ kk => zr_iload (pc' := 685) zi_101_683 rfl rfl kk) ?_
            refine zv_if (pc' := 688) zi_101_685 rfl (fun h685 => ?_) (fun h685 => ?_)
            · replace h685 := zx_le_t h685
              refine zev_of (fun _ kk => zr_iinc (pc' := 740) zi_101_737 rfl (by first | exact n_inc _ | rfl) rfl rfl kk) ?_
              dsimp only [zst1, zst2, zkill, List.set, List.getElem?_cons_succ, List.getElem?_cons_zero]
              refine zev_of (fun _ kk => zr_goto zi_101_740 kk) ?_
              exact next _
            · replace h685 := zx_le_f h685
              exact absurd (by decide) h685
    · have a2 := c_inSession hb q qs s (i - 1) hs (by omega)
      obtain ⟨f1, f2, f3⟩ := qs.el s hs (i - 1) (by omega)
      have c0 := c_ofLine0 hb q (C s (i - 1)) f1
      obtain ⟨g1, g2, g3⟩ := qs.ch s hs (i - 1) (by omega)
      rw [show i - 1 + 1 = i by omega] at g1 g3
      rw [q.nb.s1.1] at g3
      refine zev_of (fun _ kk => zr_iload (pc' := 638) zi_101_636 rfl rfl kk) ?_
      refine zev_of (fun _ kk => zr_iload (pc' := 640) zi_101_638 rfl rfl kk) ?_
      refine zv_icmp (pc' := 643) zi_101_640 rfl (fun h640 => ?_) (fun h640 => ?_)
      · replace h640 := zc_ge_t (by omega) (by omega) h640
        omega
      · replace h640 := zc_ge_f (by omega) (by omega) h640
        refine zev_of (fun _ kk => zr_aload_n (pc' := 644) zi_101_643 rfl rfl kk) ?_
        refine zev_of (fun _ kk => zr_iload (pc' := 646) zi_101_644 rfl rfl kk) ?_
        refine zev_of (fun _ kk => zr_iload (pc' := 648) zi_101_646 rfl rfl kk) ?_
        refine zev_of (fun _ kk => zr_v2 (pc' := 651) zi_101_648 (nput_at hb (k := 0) rfl) rfl a1 rfl kk) ?_
        refine zev_of (fun _ kk => zr_istore (pc' := 653) zi_101_651 (Nat.le_of_ble_eq_true rfl) rfl rfl kk) ?_
        dsimp only [zst1, zst2, zkill, List.set, List.getElem?_cons_succ, List.getElem?_cons_zero]
        refine zev_of (fun _ kk => zr_aload_n (pc' := 654) zi_101_653 rfl rfl kk) ?_
        refine zev_of (fun _ kk => zr_iload (pc' := 656) zi_101_654 rfl rfl kk) ?_
        refine zev_of (fun _ kk => zr_bipush (v := (nI 6)) (pc' := 658) zi_101_656 rfl rfl kk) ?_
        refine zev_of (fun _ kk => zr_v2 (pc' := 661) zi_101_658 (nput_at hb (k := 0) rfl) rfl b6 rfl kk) ?_
        refine zev_of (fun _ kk => zr_iload (pc' := 663) zi_101_661 rfl rfl kk) ?_
        refine zv_icmp (pc' := 666) zi_101_663 rfl (fun h663 => ?_) (fun h663 => ?_)
        · replace h663 := zc_ne_t h663
          exact absurd rfl h663
        · replace h663 := zc_ne_f h663
          refine zev_of (fun _ kk => zr_aload_n (pc' := 667) zi_101_666 rfl rfl kk) ?_
          refine zev_of (fun _ kk => zr_iload (pc' := 669) zi_101_667 rfl rfl kk) ?_
          refine zev_of (fun _ kk => zr_iconst (v := (nI 5)) (pc' := 670) zi_101_669 rfl rfl kk) ?_
          refine zev_of (fun _ kk => zr_v2 (pc' := 673) zi_101_670 (nput_at hb (k := 0) rfl) rfl b5 rfl kk) ?_
          refine zev_of (fun _ kk => zr_aload_n (pc' := 674) zi_101_673 rfl rfl kk) ?_
          refine zev_of (fun _ kk => zr_iload (pc' := 676) zi_101_674 rfl rfl kk) ?_
          refine zev_of (fun _ kk => zr_iconst (v := (nI 0)) (pc' := 677) zi_101_676 rfl rfl kk) ?_
          refine zev_of (fun _ kk => zr_v2 (pc' := 680) zi_101_677 (nput_at hb (k := 0) rfl) rfl d0 rfl kk) ?_
          refine zv_icmp (pc' := 683) zi_101_680 rfl (fun h680 => ?_) (fun h680 => ?_)
          · replace h680 := zc_ne_t h680
            exact absurd rfl h680
          · replace h680 := zc_ne_f h680
            refine zev_of (fun _ kk => zr_iload (pc' := 685) zi_101_683 rfl rfl kk) ?_
            refine zv_if (pc' := 688) zi_101_685 rfl (fun h685 => ?_) (fun h685 => ?_)
            · replace h685 := zx_le_t h685
              exact absurd h685 (nI_nle h0 (by omega))
            · replace h685 := zx_le_f h685
              refine zev_of (fun _ kk => zr_iload (pc' := 690) zi_101_688 rfl rfl kk) ?_
              refine zev_of (fun _ kk => zr_aload_n (pc' := 691) zi_101_690 rfl rfl kk) ?_
              refine zev_of (fun _ kk => zr_iload (pc' := 693) zi_101_691 rfl rfl kk) ?_
              refine zev_of (fun _ kk => zr_iload (pc' := 695) zi_101_693 rfl rfl kk) ?_
              refine zev_of (fun _ kk => zr_iconst (v := (nI 1)) (pc' := 696) zi_101_695 rfl rfl kk) ?_
              refine zev_of (fun _ kk => zr_isub (pc' := 697) zi_101_696 (by first | exact pk_sub (by omega) | rfl) rfl kk) ?_
              refine zev_of (fun _ kk => zr_v2 (pc' := 700) zi_101_697 (nput_at hb (k := 0) rfl) rfl a2 rfl kk) ?_
              refine zv_icmp (pc' := 703) zi_101_700 rfl (fun h700 => ?_) (fun h700 => ?_)
              · replace h700 := zc_le_t (by omega) (by omega) h700
                omega
              · replace h700 := zc_le_f (by omega) (by omega) h700
                refine zev_of (fun _ kk => zr_aload_n (pc' := 704) zi_101_703 rfl rfl kk) ?_
                refine zev_of (fun _ kk => zr_iload (pc' := 706) zi_101_704 rfl rfl kk) ?_
                refine zev_of (fun _ kk => zr_iconst (v := (nI 0)) (pc' := 707) zi_101_706 rfl rfl kk) ?_
                refine zev_of (fun _ kk => zr_v2 (pc' := 710) zi_101_707 (nput_at hb (k := 0) rfl) rfl b0 rfl kk) ?_
                refine zev_of (fun _ kk => zr_aload_n (pc' := 711) zi_101_710 rfl rfl kk) ?_
                refine zev_of (fun _ kk => zr_aload_n (pc' := 712) zi_101_711 rfl rfl kk) ?_
                refine zev_of (fun _ kk => zr_iload (pc' := 714) zi_101_712 rfl rfl kk) ?_
                refine zev_of (fun _ kk => zr_iload (pc' := 716) zi_101_714 rfl rfl kk) ?_
                refine zev_of (fun _ kk => zr_iconst (v := (nI 1)) (pc' := 717) zi_101_716 rfl rfl kk) ?_
                refine zev_of (fun _ kk => zr_isub (pc' := 718) zi_101_717 (by first | exact pk_sub (by omega) | rfl) rfl kk) ?_
                refine zev_of (fun _ kk => zr_v2 (pc' := 721) zi_101_718 (nput_at hb (k := 0) rfl) rfl a2 rfl kk) ?_
                refine zev_of (fun _ kk => zr_iconst (v := (nI 0)) (pc' := 722) zi_101_721 rfl rfl kk) ?_
                refine zev_of (fun _ kk => zr_v2 (pc' := 725) zi_101_722 (nput_at hb (k := 0) rfl) rfl c0 rfl kk) ?_
                refine zev_of (fun _ kk => zr_isub (pc' := 726) zi_101_725 rfl rfl kk) ?_
                refine zev_of (fun _ kk => zr_aload_n (pc' := 727) zi_101_726 rfl rfl kk) ?_
                refine zev_of (fun _ kk => zo_get (pc' := 730) zi_101_727 hb hO rfl rfl kk) ?_
                refine zev_of (fun _ kk => zr_iconst (v := (nI 1)) (pc' := 731) zi_101_730 rfl rfl kk) ?_
                refine zev_of (fun _ kk => zo_iald (j := 1) (v := nI gp) (pc' := 732) zi_101_731 hb s1 (by omega) (by omega) (by omega) s3 rfl kk) ?_
                refine zv_icmp (pc' := 735) zi_101_732 rfl (fun h732 => ?_) (fun h732 => ?_)
                · replace h732 := zx_le_t h732
                  refine zev_of (fun _ kk => zr_iinc (pc' := 740) zi_101_737 rfl (by first | exact n_inc _ | rfl) rfl rfl kk) ?_
                  dsimp only [zst1, zst2, zkill, List.set, List.getElem?_cons_succ, List.getElem?_cons_zero]
                  refine zev_of (fun _ kk => zr_goto zi_101_740 kk) ?_
                  exact next _
                · replace h732 := zx_le_f h732
                  exact absurd g3 h732
  · have e : i = Z s := by omega
    subst e
    refine zev_of (fun _ kk => zr_iload (pc' := 638) zi_101_636 rfl rfl kk) ?_
    refine zev_of (fun _ kk => zr_iload (pc' := 640) zi_101_638 rfl rfl kk) ?_
    refine zv_icmp (pc' := 643) zi_101_640 rfl (fun h640 => ?_) (fun h640 => ?_)
    · replace h640 := zc_ge_t (by omega) (by omega) h640
      refine zev_of (fun _ kk => zr_iinc (pc' := 746) zi_101_743 rfl (by first | exact n_inc _ | rfl) rfl rfl kk) ?_
      dsimp only [zst1, zst2, zkill, List.set, List.getElem?_cons_succ, List.getElem?_cons_zero]
      refine zev_of (fun _ kk => zr_goto zi_101_746 kk) ?_
      exact k _
    · replace h640 := zc_ge_f (by omega) (by omega) h640
      omega
termination_by Z s - i
theorem l_sess {o : Nat} {h : zH} {F : Nat → Nat → Int32} {g : Nat → Nat} {x : Nat → Nat} {sh gp wi bk rl rt e u d : Nat} {T1 T4 : Int32} {D : Int64} {Q : zR → Prop} (w : zOw o h F (g 0) (g 1) (g 2) sh gp wi bk rl rt e u d) (q : zOk F g x sh gp wi bk) {C : Nat → Nat → Nat} {Z : Nat → Nat} (qs : zses F (g 4) (F 31 1) (g 0) C Z) (k : ∀ X15 X16 X17, zev 101 749 [some (.ref 0), some (.int T1), some (.ref o), some (.ref (o + 1)), some (.int T4), some (.long D), none, some (.int (nI (g 0))), some (.int (nI (g 1))), some (.int (nI (g 4))), some (.int (nI (zkeys F (g 0)))), some (.int (nI (zsum Z (g 4)))), some (.int (nI (zmx (zU F (g 4)) (g 4)))), some (.int (nI (zcnt (zbrk F) (g 4)))), some (.int (nI (g 4))), X15, X16, X17] [] (nput (o + 1) F g h) Q) (s : Nat) (hs : s ≤ g 4) (X15 X16 X17 : Option Value) : zev 101 482 [some (.ref 0), some (.int T1), some (.ref o), some (.ref (o + 1)), some (.int T4), some (.long D), none, some (.int (nI (g 0))), some (.int (nI (g 1))), some (.int (nI (g 4))), some (.int (nI (zkeys F (g 0)))), some (.int (nI (zsum Z s))), some (.int (nI (zmx (zU F (g 4)) s))), some (.int (nI (zcnt (zbrk F) s))), some (.int (nI s)), X15, X16, X17] [] (nput (o + 1) F g h) Q := by
  have hb := w.hb
  have hn := q.nb.n70
  have hS := q.S70
  rcases Nat.lt_or_ge s (g 4) with hsS | hsS
  · have next := l_sess w q qs k (s + 1) hsS
    obtain ⟨z0, zn, z1, z2, z3, wo, hwo, z4⟩ := qs.sz s hsS
    have e2 := (qs.el s hsS (Z s - 1) (by omega)).1
    have hU0 := zU_pos (F := F) (S := g 4) hsS
    have hU1 := zU_le (F := F) (g 4) s
    have hM : zmx (zU F (g 4)) s ≤ 70 := zmx_le fun y _ => Nat.le_trans (zU_le _ _) hS
    have d3 := c_ofSession3 hb q qs s hsS
    have d6 := c_ofSession6 hb q qs s hsS
    have d4 := c_ofSession4 hb q qs s hsS
    obtain ⟨r5, ⟨v5, hv5, rfl⟩, d5⟩ := c_ofSession5 hb q qs s hsS
    have d2 := c_ofSession2 hb q qs s hsS
    have a0 := c_inSession hb q qs s 0 hsS z0
    have a1 := c_inSession hb q qs s (Z s - 1) hsS (by omega)
    have b0 := c_ofLine0 hb q (C s (Z s - 1)) e2
    have h606 : ∀ (X16 X17 : Option Value), zev 101 606 [some (.ref 0), some (.int T1), some (.ref o), some (.ref (o + 1)), some (.int T4), some (.long D), none, some (.int (nI (g 0))), some (.int (nI (g 1))), some (.int (nI (g 4))), some (.int (nI (zkeys F (g 0)))), some (.int (nI (zsum Z (s + 1)))), some (.int (nI (zmx (zU F (g 4)) (s + 1)))), some (.int (nI (zcnt (zbrk F) (s + 1)))), some (.int (nI s)), some (.int (nI (Z s))), X16, X17] [] (nput (o + 1) F g h) Q := by
      intro X16 X17
      refine zev_of (fun _ kk => zr_aload_n (pc' := 607) zi_101_606 rfl rfl kk) ?_
      refine zev_of (fun _ kk => zr_aload_n (pc' := 608) zi_101_607 rfl rfl kk) ?_
      refine zev_of (fun _ kk => zr_iload (pc' := 610) zi_101_608 rfl rfl kk) ?_
      refine zev_of (fun _ kk => zr_iload (pc' := 612) zi_101_610 rfl rfl kk) ?_
      refine zev_of (fun _ kk => zr_iconst (v := (nI 1)) (pc' := 613) zi_101_612 rfl rfl kk) ?_
      refine zev_of (fun _ kk => zr_isub (pc' := 614) zi_101_613 (by first | exact pk_sub (by omega) | rfl) rfl kk) ?_
      refine zev_of (fun _ kk => zr_v2 (pc' := 617) zi_101_614 (nput_at hb (k := 0) rfl) rfl a1 rfl kk) ?_
      refine zev_of (fun _ kk => zr_iconst (v := (nI 0)) (pc' := 618) zi_101_617 rfl rfl kk) ?_
      refine zev_of (fun _ kk => zr_v2 (pc' := 621) zi_101_618 (nput_at hb (k := 0) rfl) rfl b0 rfl kk) ?_
      refine zev_of (fun _ kk => zr_aload_n (pc' := 622) zi_101_621 rfl rfl kk) ?_
      refine zev_of (fun _ kk => zr_iload (pc' := 624) zi_101_622 rfl rfl kk) ?_
      refine zev_of (fun _ kk => zr_iconst (v := (nI 2)) (pc' := 625) zi_101_624 rfl rfl kk) ?_
      refine zev_of (fun _ kk => zr_v2 (pc' := 628) zi_101_625 (nput_at hb (k := 0) rfl) rfl d2 rfl kk) ?_
      refine zv_icmp (pc' := 631) zi_101_628 rfl (fun h628 => ?_) (fun h628 => ?_)
      · replace h628 := zc_eq_t h628
        refine zev_of (fun _ kk => zr_iconst (v := (nI 0)) (pc' := 634) zi_101_633 rfl rfl kk) ?_
        refine zev_of (fun _ kk => zr_istore (pc' := 636) zi_101_634 (Nat.le_of_ble_eq_true rfl) rfl rfl kk) ?_
        dsimp only [zst1, zst2, zkill, List.set, List.getElem?_cons_succ, List.getElem?_cons_zero]
        exact l_s2 w q qs hsS _ _ _ (fun X => next _ _ X) 0 (Nat.zero_le _) _
      · replace h628 := zc_eq_f h628
        exact absurd rfl h628
    have h540 : ∀ (X16 X17 : Option Value), zev 101 540 [some (.ref 0), some (.int T1), some (.ref o), some (.ref (o + 1)), some (.int T4), some (.long D), none, some (.int (nI (g 0))), some (.int (nI (g 1))), some (.int (nI (g 4))), some (.int (nI (zkeys F (g 0)))), some (.int (nI (zsum Z (s + 1)))), some (.int (nI (zmx (zU F (g 4)) (s + 1)))), some (.int (nI (zcnt (zbrk F) (s + 1)))), some (.int (nI s)), some (.int (nI (Z s))), X16, X17] [] (nput (o + 1) F g h) Q := by
      intro X16 X17
      have d4 := d4
      rw [z4] at d4
      rcases Nat.eq_zero_or_pos s with h0 | h0
      · have p3 := (qs.el s hsS 0 z0).1
        subst h0
        refine zev_of (fun _ kk => zr_aload_n (pc' := 541) zi_101_540 rfl rfl kk) ?_
        refine zev_of (fun _ kk => zr_iload (pc' := 543) zi_101_541 rfl rfl kk) ?_
        refine zev_of (fun _ kk => zr_iconst (v := (nI 4)) (pc' := 544) zi_101_543 rfl rfl kk) ?_
        refine zev_of (fun _ kk => zr_v2 (pc' := 547) zi_101_544 (nput_at hb (k := 0) rfl) rfl d4 rfl kk) ?_
        refine zev_of (fun _ kk => zr_iload (pc' := 549) zi_101_547 rfl rfl kk) ?_
        refine zv_icmp (pc' := 552) zi_101_549 rfl (fun h549 => ?_) (fun h549 => ?_)
        · replace h549 := zc_gt_t (by omega) (by omega) h549
          omega
        · replace h549 := zc_gt_f (by omega) (by omega) h549
          refine zev_of (fun _ kk => zr_aload_n (pc' := 553) zi_101_552 rfl rfl kk) ?_
          refine zev_of (fun _ kk => zr_iload (pc' := 555) zi_101_553 rfl rfl kk) ?_
          refine zev_of (fun _ kk => zr_iconst (v := (nI 5)) (pc' := 556) zi_101_555 rfl rfl kk) ?_
          refine zev_of (fun _ kk => zr_v2 (pc' := 559) zi_101_556 (nput_at hb (k := 0) rfl) rfl d5 rfl kk) ?_
          refine zev_of (fun _ kk => zr_iload (pc' := 561) zi_101_559 rfl rfl kk) ?_
          refine zv_icmp (pc' := 564) zi_101_561 rfl (fun h561 => ?_) (fun h561 => ?_)
          · replace h561 := zc_gt_t (by omega) (by omega) h561
            omega
          · replace h561 := zc_gt_f (by omega) (by omega) h561
            refine zev_of (fun _ kk => zr_aload_n (pc' := 565) zi_101_564 rfl rfl kk) ?_
            refine zev_of (fun _ kk => zr_iload (pc' := 567) zi_101_565 rfl rfl kk) ?_
            refine zev_of (fun _ kk => zr_bipush (v := (nI 6)) (pc' := 569) zi_101_567 rfl rfl kk) ?_
            refine zev_of (fun _ kk => zr_v2 (pc' := 572) zi_101_569 (nput_at hb (k := 0) rfl) rfl d6 rfl kk) ?_
            refine zev_of (fun _ kk => zr_iconst (v := (nI 1)) (pc' := 573) zi_101_572 rfl rfl kk) ?_
            refine zv_icmp (pc' := 576) zi_101_573 rfl (fun h573 => ?_) (fun h573 => ?_)
            · replace h573 := zc_lt_t (by omega) (by omega) h573
              omega
            · replace h573 := zc_lt_f (by omega) (by omega) h573
              refine zev_of (fun _ kk => zr_aload_n (pc' := 577) zi_101_576 rfl rfl kk) ?_
              refine zev_of (fun _ kk => zr_iload (pc' := 579) zi_101_577 rfl rfl kk) ?_
              refine zev_of (fun _ kk => zr_iconst (v := (nI 0)) (pc' := 580) zi_101_579 rfl rfl kk) ?_
              refine zev_of (fun _ kk => zr_v2 (pc' := 583) zi_101_580 (nput_at hb (k := 0) rfl) rfl a0 rfl kk) ?_
              refine zev_of (fun _ kk => zr_iload (pc' := 585) zi_101_583 rfl rfl kk) ?_
              refine zv_if (pc' := 588) zi_101_585 rfl (fun h585 => ?_) (fun h585 => ?_)
              · replace h585 := zc_ne_t h585
                exact absurd rfl h585
              · replace h585 := zc_ne_f h585
                refine zev_of (fun _ kk => zr_iconst (v := (nI 0)) (pc' := 589) zi_101_588 rfl rfl kk) ?_
                refine zev_of (fun _ kk => zr_goto zi_101_589 kk) ?_
                refine zv_icmp (pc' := 606) zi_101_603 rfl (fun h603 => ?_) (fun h603 => ?_)
                · replace h603 := zc_lt_t (by omega) (by omega) h603
                  exact absurd h603 (Nat.not_lt_zero _)
                · replace h603 := zc_lt_f (by omega) (by omega) h603
                  exact h606 _ _
      · have p0 := (qs.sz (s - 1) (by omega)).1
        have p1 := c_inSession hb q qs (s - 1) 0 (by omega) p0
        have p2 := qs.fi (s - 1) (by omega)
        have p3 := (qs.el s hsS 0 z0).1
        rw [show s - 1 + 1 = s by omega] at p2
        refine zev_of (fun _ kk => zr_aload_n (pc' := 541) zi_101_540 rfl rfl kk) ?_
        refine zev_of (fun _ kk => zr_iload (pc' := 543) zi_101_541 rfl rfl kk) ?_
        refine zev_of (fun _ kk => zr_iconst (v := (nI 4)) (pc' := 544) zi_101_543 rfl rfl kk) ?_
        refine zev_of (fun _ kk => zr_v2 (pc' := 547) zi_101_544 (nput_at hb (k := 0) rfl) rfl d4 rfl kk) ?_
        refine zev_of (fun _ kk => zr_iload (pc' := 549) zi_101_547 rfl rfl kk) ?_
        refine zv_icmp (pc' := 552) zi_101_549 rfl (fun h549 => ?_) (fun h549 => ?_)
        · replace h549 := zc_gt_t (by omega) (by omega) h549
          omega
        · replace h549 := zc_gt_f (by omega) (by omega) h549
          refine zev_of (fun _ kk => zr_aload_n (pc' := 553) zi_101_552 rfl rfl kk) ?_
          refine zev_of (fun _ kk => zr_iload (pc' := 555) zi_101_553 rfl rfl kk) ?_
          refine zev_of (fun _ kk => zr_iconst (v := (nI 5)) (pc' := 556) zi_101_555 rfl rfl kk) ?_
          refine zev_of (fun _ kk => zr_v2 (pc' := 559) zi_101_556 (nput_at hb (k := 0) rfl) rfl d5 rfl kk) ?_
          refine zev_of (fun _ kk => zr_iload (pc' := 561) zi_101_559 rfl rfl kk) ?_
          refine zv_icmp (pc' := 564) zi_101_561 rfl (fun h561 => ?_) (fun h561 => ?_)
          · replace h561 := zc_gt_t (by omega) (by omega) h561
            omega
          · replace h561 := zc_gt_f (by omega) (by omega) h561
            refine zev_of (fun _ kk => zr_aload_n (pc' := 565) zi_101_564 rfl rfl kk) ?_
            refine zev_of (fun _ kk => zr_iload (pc' := 567) zi_101_565 rfl rfl kk) ?_
            refine zev_of (fun _ kk => zr_bipush (v := (nI 6)) (pc' := 569) zi_101_567 rfl rfl kk) ?_
            refine zev_of (fun _ kk => zr_v2 (pc' := 572) zi_101_569 (nput_at hb (k := 0) rfl) rfl d6 rfl kk) ?_
            refine zev_of (fun _ kk => zr_iconst (v := (nI 1)) (pc' := 573) zi_101_572 rfl rfl kk) ?_
            refine zv_icmp (pc' := 576) zi_101_573 rfl (fun h573 => ?_) (fun h573 => ?_)
            · replace h573 := zc_lt_t (by omega) (by omega) h573
              omega
            · replace h573 := zc_lt_f (by omega) (by omega) h573
              refine zev_of (fun _ kk => zr_aload_n (pc' := 577) zi_101_576 rfl rfl kk) ?_
              refine zev_of (fun _ kk => zr_iload (pc' := 579) zi_101_577 rfl rfl kk) ?_
              refine zev_of (fun _ kk => zr_iconst (v := (nI 0)) (pc' := 580) zi_101_579 rfl rfl kk) ?_
              refine zev_of (fun _ kk => zr_v2 (pc' := 583) zi_101_580 (nput_at hb (k := 0) rfl) rfl a0 rfl kk) ?_
              refine zev_of (fun _ kk => zr_iload (pc' := 585) zi_101_583 rfl rfl kk) ?_
              refine zv_if (pc' := 588) zi_101_585 rfl (fun h585 => ?_) (fun h585 => ?_)
              · replace h585 := zc_ne_t h585
                refine zev_of (fun _ kk => zr_aload_n (pc' := 593) zi_101_592 rfl rfl kk) ?_
                refine zev_of (fun _ kk => zr_iload (pc' := 595) zi_101_593 rfl rfl kk) ?_
                refine zev_of (fun _ kk => zr_iconst (v := (nI 1)) (pc' := 596) zi_101_595 rfl rfl kk) ?_
                refine zev_of (fun _ kk => zr_isub (pc' := 597) zi_101_596 (by first | exact pk_sub (by omega) | rfl) rfl kk) ?_
                refine zev_of (fun _ kk => zr_iconst (v := (nI 0)) (pc' := 598) zi_101_597 rfl rfl kk) ?_
                refine zev_of (fun _ kk => zr_v2 (pc' := 601) zi_101_598 (nput_at hb (k := 0) rfl) rfl p1 rfl kk) ?_
                refine zev_of (fun _ kk => zr_iconst (v := (nI 1)) (pc' := 602) zi_101_601 rfl rfl kk) ?_
                refine zev_of (fun _ kk => zr_iadd (pc' := 603) zi_101_602 (by first | exact nI_add _ _ | rfl) rfl kk) ?_
                refine zv_icmp (pc' := 606) zi_101_603 rfl (fun h603 => ?_) (fun h603 => ?_)
                · replace h603 := zc_lt_t (by omega) (by omega) h603
                  omega
                · replace h603 := zc_lt_f (by omega) (by omega) h603
                  exact h606 _ _
              · replace h585 := zc_ne_f h585
                exact absurd h585 (nI_ne0 h0 (by omega))
    refine zev_of (fun _ kk => zr_iload (pc' := 484) zi_101_482 rfl rfl kk) ?_
    refine zev_of (fun _ kk => zr_iload (pc' := 486) zi_101_484 rfl rfl kk) ?_
    refine zv_icmp (pc' := 489) zi_101_486 rfl (fun h486 => ?_) (fun h486 => ?_)
    · replace h486 := zc_ge_t (by omega) (by omega) h486
      omega
    · replace h486 := zc_ge_f (by omega) (by omega) h486
      refine zev_of (fun _ kk => zr_aload_n (pc' := 490) zi_101_489 rfl rfl kk) ?_
      refine zev_of (fun _ kk => zr_iload (pc' := 492) zi_101_490 rfl rfl kk) ?_
      refine zev_of (fun _ kk => zr_iconst (v := (nI 3)) (pc' := 493) zi_101_492 rfl rfl kk) ?_
      refine zev_of (fun _ kk => zr_v2 (pc' := 496) zi_101_493 (nput_at hb (k := 0) rfl) rfl d3 rfl kk) ?_
      refine zev_of (fun _ kk => zr_istore (pc' := 498) zi_101_496 (Nat.le_of_ble_eq_true rfl) rfl rfl kk) ?_
      dsimp only [zst1, zst2, zkill, List.set, List.getElem?_cons_succ, List.getElem?_cons_zero]
      refine zev_of (fun _ kk => zr_iload (pc' := 500) zi_101_498 rfl rfl kk) ?_
      refine zev_of (fun _ kk => zr_iload (pc' := 502) zi_101_500 rfl rfl kk) ?_
      refine zev_of (fun _ kk => zr_iadd (pc' := 503) zi_101_502 (by first | exact nI_add _ _ | rfl) rfl kk) ?_
      refine zev_of (fun _ kk => zr_istore (pc' := 505) zi_101_503 (Nat.le_of_ble_eq_true rfl) rfl rfl kk) ?_
      dsimp only [zst1, zst2, zkill, List.set, List.getElem?_cons_succ, List.getElem?_cons_zero]
      refine zev_of (fun _ kk => zr_iload (pc' := 507) zi_101_505 rfl rfl kk) ?_
      refine zev_of (fun _ kk => zr_aload_n (pc' := 508) zi_101_507 rfl rfl kk) ?_
      refine zev_of (fun _ kk => zr_iload (pc' := 510) zi_101_508 rfl rfl kk) ?_
      refine zev_of (fun _ kk => zr_bipush (v := (nI 6)) (pc' := 512) zi_101_510 rfl rfl kk) ?_
      refine zev_of (fun _ kk => zr_v2 (pc' := 515) zi_101_512 (nput_at hb (k := 0) rfl) rfl d6 rfl kk) ?_
      refine zev_of (fun _ kk => zr_mmax (pc' := 518) zi_101_515 rfl rfl kk) ?_
      rw [zmx_max (by omega) (by omega)]
      refine zev_of (fun _ kk => zr_istore (pc' := 520) zi_101_518 (Nat.le_of_ble_eq_true rfl) rfl rfl kk) ?_
      dsimp only [zst1, zst2, zkill, List.set, List.getElem?_cons_succ, List.getElem?_cons_zero]
      refine zev_of (fun _ kk => zr_iload (pc' := 522) zi_101_520 rfl rfl kk) ?_
      refine zev_of (fun _ kk => zr_aload_n (pc' := 523) zi_101_522 rfl rfl kk) ?_
      refine zev_of (fun _ kk => zr_iload (pc' := 525) zi_101_523 rfl rfl kk) ?_
      refine zev_of (fun _ kk => zr_iconst (v := (nI 4)) (pc' := 526) zi_101_525 rfl rfl kk) ?_
      refine zev_of (fun _ kk => zr_v2 (pc' := 529) zi_101_526 (nput_at hb (k := 0) rfl) rfl d4 rfl kk) ?_
      refine zv_if (pc' := 532) zi_101_529 rfl (fun h529 => ?_) (fun h529 => ?_)
      · replace h529 := zx_le_t h529
        refine zev_of (fun _ kk => zr_iconst (v := (nI 0)) (pc' := 537) zi_101_536 rfl rfl kk) ?_
        refine zev_of (fun _ kk => zr_iadd (pc' := 538) zi_101_537 (by first | exact nI_add _ _ | rfl) rfl kk) ?_
        refine zev_of (fun _ kk => zr_istore (pc' := 540) zi_101_538 (Nat.le_of_ble_eq_true rfl) rfl rfl kk) ?_
        dsimp only [zst1, zst2, zkill, List.set, List.getElem?_cons_succ, List.getElem?_cons_zero]
        have e : zcnt (zbrk F) (s + 1) = zcnt (zbrk F) s := zcnt_f (by simp only [zbrk, decide_eq_false_iff_not]; exact Int32.not_lt.mpr h529)
        have h := h540 X16 X17
        rw [e] at h
        exact h
      · replace h529 := zx_le_f h529
        refine zev_of (fun _ kk => zr_iconst (v := (nI 1)) (pc' := 533) zi_101_532 rfl rfl kk) ?_
        refine zev_of (fun _ kk => zr_goto zi_101_533 kk) ?_
        refine zev_of (fun _ kk => zr_iadd (pc' := 538) zi_101_537 (by first | exact nI_add _ _ | rfl) rfl kk) ?_
        refine zev_of (fun _ kk => zr_istore (pc' := 540) zi_101_538 (Nat.le_of_ble_eq_true rfl) rfl rfl kk) ?_
        dsimp only [zst1, zst2, zkill, List.set, List.getElem?_cons_succ, List.getElem?_cons_zero]
        have e : zcnt (zbrk F) (s + 1) = zcnt (zbrk F) s + 1 := zcnt_t (by simp only [zbrk, decide_eq_true_eq]; exact Int32.not_le.mp h529)
        have h := h540 X16 X17
        rw [e] at h
        exact h
  · have e : s = g 4 := by omega
    subst e
    refine zev_of (fun _ kk => zr_iload (pc' := 484) zi_101_482 rfl rfl kk) ?_
    refine zev_of (fun _ kk => zr_iload (pc' := 486) zi_101_484 rfl rfl kk) ?_
    refine zv_icmp (pc' := 489) zi_101_486 rfl (fun h486 => ?_) (fun h486 => ?_)
    · replace h486 := zc_ge_t (by omega) (by omega) h486
      exact k _ _ _
    · replace h486 := zc_ge_f (by omega) (by omega) h486
      omega
termination_by g 4 - s
theorem fp_eq : ∀ a, a < 71 → ∀ s, s < 70 → Op.cmpValue (FP.dcmp (FP.ddiv (FP.i2d (nI a)) (FP.i2d (nI (s + 1)))) (FP.ddiv (FP.i2d (nI a)) (FP.i2d (nI (s + 1))))) .l = 0 := by decide +kernel
theorem fp_eq0 : Op.cmpValue (FP.dcmp 0 0) .l = 0 := by decide +kernel
theorem l_sums {o : Nat} {h : zH} {F : Nat → Nat → Int32} {g : Nat → Nat} {x : Nat → Nat} {sh gp wi bk rl rt e u d : Nat} {T1 T4 : Int32} {D : Int64} {Q : zR → Prop} (w : zOw o h F (g 0) (g 1) (g 2) sh gp wi bk rl rt e u d) (q : zOk F g x sh gp wi bk) {C : Nat → Nat → Nat} {Z : Nat → Nat} (qs : zses F (g 4) (F 31 1) (g 0) C Z) (X14 : Int32) (X15 X16 X17 : Option Value) (k : zev 101 852 [some (.ref 0), some (.int T1), some (.ref o), some (.ref (o + 1)), some (.int T4), some (.long D), none, some (.int (nI (g 0))), some (.int (nI (g 1))), some (.int (nI (g 4))), some (.int (nI (zkeys F (g 0)))), some (.int (nI (zsum Z (g 4)))), some (.int (nI (zmx (zU F (g 4)) (g 4)))), some (.int (nI (zcnt (zbrk F) (g 4)))), some (.int X14), X15, X16, X17] [] (nput (o + 1) F g h) Q) : zev 101 749 [some (.ref 0), some (.int T1), some (.ref o), some (.ref (o + 1)), some (.int T4), some (.long D), none, some (.int (nI (g 0))), some (.int (nI (g 1))), some (.int (nI (g 4))), some (.int (nI (zkeys F (g 0)))), some (.int (nI (zsum Z (g 4)))), some (.int (nI (zmx (zU F (g 4)) (g 4)))), some (.int (nI (zcnt (zbrk F) (g 4)))), some (.int X14), X15, X16, X17] [] (nput (o + 1) F g h) Q := by
  have hb := w.hb
  have hb2 := w.hb2
  have hn := q.nb.n70
  have hS := q.S70
  obtain ⟨dr, hdr, hO⟩ := w.ob
  obtain ⟨sf, s1, s2, s3, s4, s5⟩ := w.se
  have esum : zsum Z (g 4) = zkeys F (g 0) := qs.sm
  have hK : zkeys F (g 0) ≤ 70 := Nat.le_trans (zcnt_le _ _) hn
  have m4 := c_many4 hb q
  have sw := c_sessionsWith hb q
  have me := c_meanSession hb q
  obtain ⟨r, hr, us⟩ := c_usual hb q
  rw [esum] at k ⊢
  rcases hr with ⟨h0, rfl⟩ | ⟨e0, he, rfl, hmax⟩
  · unfold zmean at me
    rw [if_pos h0] at me
    rw [h0] at k sw ⊢
    rw [h0] at m4
    refine zev_of (fun _ kk => zr_iload (pc' := 751) zi_101_749 rfl rfl kk) ?_
    refine zev_of (fun _ kk => zr_iload (pc' := 753) zi_101_751 rfl rfl kk) ?_
    refine zv_icmp (pc' := 756) zi_101_753 rfl (fun h753 => ?_) (fun h753 => ?_)
    · replace h753 := zc_ne_t h753
      exact absurd rfl h753
    · replace h753 := zc_ne_f h753
      refine zev_of (fun _ kk => zr_aload_n (pc' := 757) zi_101_756 rfl rfl kk) ?_
      refine zev_of (fun _ kk => zr_iconst (v := (nI 4)) (pc' := 758) zi_101_757 rfl rfl kk) ?_
      refine zev_of (fun _ kk => zr_v1 (pc' := 761) zi_101_758 (nput_at hb (k := 0) rfl) rfl m4 rfl kk) ?_
      refine zev_of (fun _ kk => zr_iload (pc' := 763) zi_101_761 rfl rfl kk) ?_
      refine zv_icmp (pc' := 766) zi_101_763 rfl (fun h763 => ?_) (fun h763 => ?_)
      · replace h763 := zc_ne_t h763
        exact absurd rfl h763
      · replace h763 := zc_ne_f h763
        refine zev_of (fun _ kk => zr_aload_n (pc' := 767) zi_101_766 rfl rfl kk) ?_
        refine zev_of (fun _ kk => zr_v0 (pc' := 770) zi_101_767 (nput_at hb (k := 0) rfl) rfl us rfl kk) ?_
        refine zv_if (pc' := 773) zi_101_770 rfl (fun h770 => ?_) (fun h770 => ?_)
        · replace h770 := zx_ge_t h770
          exact absurd h770 (by decide)
        · replace h770 := zx_ge_f h770
          refine zev_of (fun _ kk => zr_iconst (v := (nI 1)) (pc' := 774) zi_101_773 rfl rfl kk) ?_
          refine zev_of (fun _ kk => zr_goto zi_101_774 kk) ?_
          refine zev_of (fun _ kk => zr_iload (pc' := 780) zi_101_778 rfl rfl kk) ?_
          refine zv_if (pc' := 783) zi_101_780 rfl (fun h780 => ?_) (fun h780 => ?_)
          · replace h780 := zc_ne_t h780
            exact absurd rfl h780
          · replace h780 := zc_ne_f h780
            refine zev_of (fun _ kk => zr_iconst (v := (nI 1)) (pc' := 784) zi_101_783 rfl rfl kk) ?_
            refine zev_of (fun _ kk => zr_goto zi_101_784 kk) ?_
            refine zv_icmp (pc' := 791) zi_101_788 rfl (fun h788 => ?_) (fun h788 => ?_)
            · replace h788 := zc_ne_t h788
              exact absurd rfl h788
            · replace h788 := zc_ne_f h788
              refine zev_of (fun _ kk => zr_iload (pc' := 793) zi_101_791 rfl rfl kk) ?_
              refine zv_if (pc' := 796) zi_101_793 rfl (fun h793 => ?_) (fun h793 => ?_)
              · replace h793 := zx_le_t h793
                refine zev_of (fun _ kk => zr_aload_n (pc' := 812) zi_101_811 rfl rfl kk) ?_
                refine zev_of (fun _ kk => zr_aload_n (pc' := 813) zi_101_812 rfl rfl kk) ?_
                refine zev_of (fun _ kk => zo_get (pc' := 816) zi_101_813 hb hO rfl rfl kk) ?_
                refine zev_of (fun _ kk => zr_iconst (v := (nI 1)) (pc' := 817) zi_101_816 rfl rfl kk) ?_
                refine zev_of (fun _ kk => zo_iald (j := 1) (v := nI gp) (pc' := 818) zi_101_817 hb s1 (by omega) (by omega) (by omega) s3 rfl kk) ?_
                refine zev_of (fun _ kk => zr_v1 (pc' := 821) zi_101_818 (nput_at hb (k := 0) rfl) rfl sw rfl kk) ?_
                refine zev_of (fun _ kk => zr_iload (pc' := 823) zi_101_821 rfl rfl kk) ?_
                refine zv_icmp (pc' := 826) zi_101_823 rfl (fun h823 => ?_) (fun h823 => ?_)
                · replace h823 := zc_ne_t h823
                  exact absurd rfl h823
                · replace h823 := zc_ne_f h823
                  refine zev_of (fun _ kk => zr_aload_n (pc' := 827) zi_101_826 rfl rfl kk) ?_
                  refine zev_of (fun _ kk => zr_v0 (pc' := 830) zi_101_827 (nput_at hb (k := 0) rfl) rfl me rfl kk) ?_
                  refine zev_of (fun _ kk => zr_iload (pc' := 832) zi_101_830 rfl rfl kk) ?_
                  refine zv_if (pc' := 835) zi_101_832 rfl (fun h832 => ?_) (fun h832 => ?_)
                  · replace h832 := zc_ne_t h832
                    exact absurd rfl h832
                  · replace h832 := zc_ne_f h832
                    refine zev_of (fun _ kk => zr_dconst (pc' := 836) zi_101_835 rfl kk) ?_
                    refine zev_of (fun _ kk => zr_goto zi_101_836 kk) ?_
                    refine zev_of (fun _ kk => zr_dcmp (pc' := 847) zi_101_846 rfl kk) ?_
                    rw [fp_eq0]
                    refine zv_if (pc' := 850) zi_101_847 rfl (fun h847 => ?_) (fun h847 => ?_)
                    · replace h847 := zc_eq_t h847
                      exact k
                    · replace h847 := zc_eq_f h847
                      exact absurd rfl h847
              · replace h793 := zx_le_f h793
                exact absurd (by decide) h793
  · have hpos : 0 < g 4 := by omega
    have hfin : FP.ddiv (FP.i2d (nI (zkeys F (g 0)))) (FP.i2d (nI (g 4))) &&& 0x7fffffffffffffff ≤ 0x7ff0000000000000 := by
      have := fp_fin (zkeys F (g 0)) (by omega) (g 4 - 1) (by omega)
      rw [show g 4 - 1 + 1 = g 4 by omega] at this
      exact this
    have heq : Op.cmpValue (FP.dcmp (FP.ddiv (FP.i2d (nI (zkeys F (g 0)))) (FP.i2d (nI (g 4)))) (FP.ddiv (FP.i2d (nI (zkeys F (g 0)))) (FP.i2d (nI (g 4))))) .l = 0 := by
      have := fp_eq (zkeys F (g 0)) (by omega) (g 4 - 1) (by omega)
      rw [show g 4 - 1 + 1 = g 4 by omega] at this
      exact this
    unfold zmean at me
    rw [if_neg (by omega)] at me
    have d6 := c_ofSession6 hb q qs e0 he
    have emx : zU F (g 4) e0 = zmx (zU F (g 4)) (g 4) := Nat.le_antisymm (zmx_ge _ _ _ he) (zmx_le hmax)
    rw [emx] at d6
    refine zev_of (fun _ kk => zr_iload (pc' := 751) zi_101_749 rfl rfl kk) ?_
    refine zev_of (fun _ kk => zr_iload (pc' := 753) zi_101_751 rfl rfl kk) ?_
    refine zv_icmp (pc' := 756) zi_101_753 rfl (fun h753 => ?_) (fun h753 => ?_)
    · replace h753 := zc_ne_t h753
      exact absurd rfl h753
    · replace h753 := zc_ne_f h753
      refine zev_of (fun _ kk => zr_aload_n (pc' := 757) zi_101_756 rfl rfl kk) ?_
      refine zev_of (fun _ kk => zr_iconst (v := (nI 4)) (pc' := 758) zi_101_757 rfl rfl kk) ?_
      refine zev_of (fun _ kk => zr_v1 (pc' := 761) zi_101_758 (nput_at hb (k := 0) rfl) rfl m4 rfl kk) ?_
      refine zev_of (fun _ kk => zr_iload (pc' := 763) zi_101_761 rfl rfl kk) ?_
      refine zv_icmp (pc' := 766) zi_101_763 rfl (fun h763 => ?_) (fun h763 => ?_)
      · replace h763 := zc_ne_t h763
        exact absurd rfl h763
      · replace h763 := zc_ne_f h763
        refine zev_of (fun _ kk => zr_aload_n (pc' := 767) zi_101_766 rfl rfl kk) ?_
        refine zev_of (fun _ kk => zr_v0 (pc' := 770) zi_101_767 (nput_at hb (k := 0) rfl) rfl us rfl kk) ?_
        refine zv_if (pc' := 773) zi_101_770 rfl (fun h770 => ?_) (fun h770 => ?_)
        · replace h770 := zx_ge_t h770
          refine zev_of (fun _ kk => zr_iconst (v := (nI 0)) (pc' := 778) zi_101_777 rfl rfl kk) ?_
          refine zev_of (fun _ kk => zr_iload (pc' := 780) zi_101_778 rfl rfl kk) ?_
          refine zv_if (pc' := 783) zi_101_780 rfl (fun h780 => ?_) (fun h780 => ?_)
          · replace h780 := zc_ne_t h780
            refine zev_of (fun _ kk => zr_iconst (v := (nI 0)) (pc' := 788) zi_101_787 rfl rfl kk) ?_
            refine zv_icmp (pc' := 791) zi_101_788 rfl (fun h788 => ?_) (fun h788 => ?_)
            · replace h788 := zc_ne_t h788
              exact absurd rfl h788
            · replace h788 := zc_ne_f h788
              refine zev_of (fun _ kk => zr_iload (pc' := 793) zi_101_791 rfl rfl kk) ?_
              refine zv_if (pc' := 796) zi_101_793 rfl (fun h793 => ?_) (fun h793 => ?_)
              · replace h793 := zx_le_t h793
                exact absurd h793 (nI_nle hpos (by omega))
              · replace h793 := zx_le_f h793
                refine zev_of (fun _ kk => zr_aload_n (pc' := 797) zi_101_796 rfl rfl kk) ?_
                refine zev_of (fun _ kk => zr_aload_n (pc' := 798) zi_101_797 rfl rfl kk) ?_
                refine zev_of (fun _ kk => zr_v0 (pc' := 801) zi_101_798 (nput_at hb (k := 0) rfl) rfl us rfl kk) ?_
                refine zev_of (fun _ kk => zr_bipush (v := (nI 6)) (pc' := 803) zi_101_801 rfl rfl kk) ?_
                refine zev_of (fun _ kk => zr_v2 (pc' := 806) zi_101_803 (nput_at hb (k := 0) rfl) rfl d6 rfl kk) ?_
                refine zev_of (fun _ kk => zr_iload (pc' := 808) zi_101_806 rfl rfl kk) ?_
                refine zv_icmp (pc' := 811) zi_101_808 rfl (fun h808 => ?_) (fun h808 => ?_)
                · replace h808 := zc_ne_t h808
                  exact absurd rfl h808
                · replace h808 := zc_ne_f h808
                  refine zev_of (fun _ kk => zr_aload_n (pc' := 812) zi_101_811 rfl rfl kk) ?_
                  refine zev_of (fun _ kk => zr_aload_n (pc' := 813) zi_101_812 rfl rfl kk) ?_
                  refine zev_of (fun _ kk => zo_get (pc' := 816) zi_101_813 hb hO rfl rfl kk) ?_
                  refine zev_of (fun _ kk => zr_iconst (v := (nI 1)) (pc' := 817) zi_101_816 rfl rfl kk) ?_
                  refine zev_of (fun _ kk => zo_iald (j := 1) (v := nI gp) (pc' := 818) zi_101_817 hb s1 (by omega) (by omega) (by omega) s3 rfl kk) ?_
                  refine zev_of (fun _ kk => zr_v1 (pc' := 821) zi_101_818 (nput_at hb (k := 0) rfl) rfl sw rfl kk) ?_
                  refine zev_of (fun _ kk => zr_iload (pc' := 823) zi_101_821 rfl rfl kk) ?_
                  refine zv_icmp (pc' := 826) zi_101_823 rfl (fun h823 => ?_) (fun h823 => ?_)
                  · replace h823 := zc_ne_t h823
                    exact absurd rfl h823
                  · replace h823 := zc_ne_f h823
                    refine zev_of (fun _ kk => zr_aload_n (pc' := 827) zi_101_826 rfl rfl kk) ?_
                    refine zev_of (fun _ kk => zr_v0 (pc' := 830) zi_101_827 (nput_at hb (k := 0) rfl) rfl me rfl kk) ?_
                    refine zev_of (fun _ kk => zr_iload (pc' := 832) zi_101_830 rfl rfl kk) ?_
                    refine zv_if (pc' := 835) zi_101_832 rfl (fun h832 => ?_) (fun h832 => ?_)
                    · replace h832 := zc_ne_t h832
                      refine zev_of (fun _ kk => zr_iload (pc' := 841) zi_101_839 rfl rfl kk) ?_
                      refine zev_of (fun _ kk => zr_i2d (pc' := 842) zi_101_841 rfl kk) ?_
                      refine zev_of (fun _ kk => zr_iload (pc' := 844) zi_101_842 rfl rfl kk) ?_
                      refine zev_of (fun _ kk => zr_i2d (pc' := 845) zi_101_844 rfl kk) ?_
                      refine zev_of (fun _ kk => zr_ddiv zi_101_845 hfin rfl (pc' := 846) kk) ?_
                      refine zev_of (fun _ kk => zr_dcmp (pc' := 847) zi_101_846 rfl kk) ?_
                      rw [heq]
                      refine zv_if (pc' := 850) zi_101_847 rfl (fun h847 => ?_) (fun h847 => ?_)
                      · replace h847 := zc_eq_t h847
                        exact k
                      · replace h847 := zc_eq_f h847
                        exact absurd rfl h847
                    · replace h832 := zc_ne_f h832
                      exact absurd h832 (nI_ne0 hpos (by omega))
          · replace h780 := zc_ne_f h780
            exact absurd h780 (nI_ne0 hpos (by omega))
        · replace h770 := zx_ge_f h770
          exact absurd (nI_pos' (by omega)) h770
end

