theorem d_L_law_584 : decode c_L_law 584 = .ok (.iadd, 1) := by decide +kernel
theorem d_L_law_585 : decode c_L_law 585 = .ok (.iaload, 1) := by decide +kernel
theorem d_L_law_586 : decode c_L_law 586 = .ok (.aload_n 0, 1) := by decide +kernel
theorem d_L_law_587 : decode c_L_law 587 = .ok (.iload 4, 2) := by decide +kernel
theorem d_L_law_589 : decode c_L_law 589 = .ok (.iconst 2, 1) := by decide +kernel
theorem d_L_law_590 : decode c_L_law 590 = .ok (.iadd, 1) := by decide +kernel
theorem d_L_law_591 : decode c_L_law 591 = .ok (.iaload, 1) := by decide +kernel
theorem d_L_law_592 : decode c_L_law 592 = .ok (.aload_n 0, 1) := by decide +kernel
theorem d_L_law_593 : decode c_L_law 593 = .ok (.iload 4, 2) := by decide +kernel
theorem d_L_law_595 : decode c_L_law 595 = .ok (.iconst 3, 1) := by decide +kernel
theorem d_L_law_596 : decode c_L_law 596 = .ok (.iadd, 1) := by decide +kernel
theorem d_L_law_597 : decode c_L_law 597 = .ok (.iaload, 1) := by decide +kernel
theorem d_L_law_598 : decode c_L_law 598 = .ok (.invokevirtual 111, 3) := by decide +kernel
theorem d_L_law_601 : decode c_L_law 601 = .ok (.aload_n 2, 1) := by decide +kernel
theorem d_L_law_602 : decode c_L_law 602 = .ok (.invokevirtual 80, 3) := by decide +kernel
theorem d_L_law_605 : decode c_L_law 605 = .ok (.iload 5, 2) := by decide +kernel
theorem d_L_law_607 : decode c_L_law 607 = .ok (.if_icmp .eq 5, 3) := by decide +kernel
theorem d_L_law_610 : decode c_L_law 610 = .ok (.iconst 0, 1) := by decide +kernel
theorem d_L_law_611 : decode c_L_law 611 = .ok (.ireturn, 1) := by decide +kernel
theorem d_L_law_612 : decode c_L_law 612 = .ok (.goto 437, 3) := by decide +kernel
theorem d_L_law_615 : decode c_L_law 615 = .ok (.aload_n 1, 1) := by decide +kernel
theorem d_L_law_616 : decode c_L_law 616 = .ok (.aload_n 0, 1) := by decide +kernel
theorem d_L_law_617 : decode c_L_law 617 = .ok (.iload 4, 2) := by decide +kernel
theorem d_L_law_619 : decode c_L_law 619 = .ok (.iconst 1, 1) := by decide +kernel
theorem d_L_law_620 : decode c_L_law 620 = .ok (.iadd, 1) := by decide +kernel
theorem d_L_law_621 : decode c_L_law 621 = .ok (.iaload, 1) := by decide +kernel
theorem d_L_law_622 : decode c_L_law 622 = .ok (.aload_n 3, 1) := by decide +kernel
theorem d_L_law_623 : decode c_L_law 623 = .ok (.invokestatic 112, 3) := by decide +kernel
theorem d_L_law_626 : decode c_L_law 626 = .ok (.istore 5, 2) := by decide +kernel
theorem d_L_law_628 : decode c_L_law 628 = .ok (.aload_n 2, 1) := by decide +kernel
theorem d_L_law_629 : decode c_L_law 629 = .ok (.aload_n 0, 1) := by decide +kernel
theorem d_L_law_630 : decode c_L_law 630 = .ok (.iload 4, 2) := by decide +kernel
theorem d_L_law_632 : decode c_L_law 632 = .ok (.iconst 1, 1) := by decide +kernel
theorem d_L_law_633 : decode c_L_law 633 = .ok (.iadd, 1) := by decide +kernel
theorem d_L_law_634 : decode c_L_law 634 = .ok (.iaload, 1) := by decide +kernel
theorem d_L_law_635 : decode c_L_law 635 = .ok (.invokevirtual 114, 3) := by decide +kernel
theorem d_L_law_638 : decode c_L_law 638 = .ok (.istore 6, 2) := by decide +kernel
theorem d_L_law_640 : decode c_L_law 640 = .ok (.aload_n 2, 1) := by decide +kernel
theorem d_L_law_641 : decode c_L_law 641 = .ok (.invokevirtual 80, 3) := by decide +kernel
theorem d_L_law_644 : decode c_L_law 644 = .ok (.iload 5, 2) := by decide +kernel
theorem d_L_law_646 : decode c_L_law 646 = .ok (.if_icmp .eq 5, 3) := by decide +kernel
theorem d_L_law_649 : decode c_L_law 649 = .ok (.iconst 0, 1) := by decide +kernel
theorem d_L_law_650 : decode c_L_law 650 = .ok (.ireturn, 1) := by decide +kernel
theorem d_L_law_651 : decode c_L_law 651 = .ok (.iload 5, 2) := by decide +kernel
theorem d_L_law_653 : decode c_L_law 653 = .ok (.ifCond .ne 15, 3) := by decide +kernel
theorem d_L_law_656 : decode c_L_law 656 = .ok (.aload_n 3, 1) := by decide +kernel
theorem d_L_law_657 : decode c_L_law 657 = .ok (.iconst 0, 1) := by decide +kernel
theorem d_L_law_658 : decode c_L_law 658 = .ok (.laload, 1) := by decide +kernel
theorem d_L_law_659 : decode c_L_law 659 = .ok (.iload 6, 2) := by decide +kernel
theorem d_L_law_661 : decode c_L_law 661 = .ok (.i2l, 1) := by decide +kernel
theorem d_L_law_662 : decode c_L_law 662 = .ok (.lcmp, 1) := by decide +kernel
theorem d_L_law_663 : decode c_L_law 663 = .ok (.ifCond .eq 5, 3) := by decide +kernel
theorem d_L_law_666 : decode c_L_law 666 = .ok (.iconst 0, 1) := by decide +kernel
theorem d_L_law_667 : decode c_L_law 667 = .ok (.ireturn, 1) := by decide +kernel
theorem d_L_law_668 : decode c_L_law 668 = .ok (.goto 381, 3) := by decide +kernel
theorem d_L_law_671 : decode c_L_law 671 = .ok (.aload_n 1, 1) := by decide +kernel
theorem d_L_law_672 : decode c_L_law 672 = .ok (.aload_n 0, 1) := by decide +kernel
theorem d_L_law_673 : decode c_L_law 673 = .ok (.iload 4, 2) := by decide +kernel
theorem d_L_law_675 : decode c_L_law 675 = .ok (.iconst 1, 1) := by decide +kernel
theorem d_L_law_676 : decode c_L_law 676 = .ok (.iadd, 1) := by decide +kernel
theorem d_L_law_677 : decode c_L_law 677 = .ok (.iaload, 1) := by decide +kernel
theorem d_L_law_678 : decode c_L_law 678 = .ok (.aload_n 3, 1) := by decide +kernel
theorem d_L_law_679 : decode c_L_law 679 = .ok (.invokestatic 115, 3) := by decide +kernel
theorem d_L_law_682 : decode c_L_law 682 = .ok (.istore 5, 2) := by decide +kernel
theorem d_L_law_684 : decode c_L_law 684 = .ok (.aload_n 2, 1) := by decide +kernel
theorem d_L_law_685 : decode c_L_law 685 = .ok (.aload_n 0, 1) := by decide +kernel
theorem d_L_law_686 : decode c_L_law 686 = .ok (.iload 4, 2) := by decide +kernel
theorem d_L_law_688 : decode c_L_law 688 = .ok (.iconst 1, 1) := by decide +kernel
theorem d_L_law_689 : decode c_L_law 689 = .ok (.iadd, 1) := by decide +kernel
theorem d_L_law_690 : decode c_L_law 690 = .ok (.iaload, 1) := by decide +kernel
theorem d_L_law_691 : decode c_L_law 691 = .ok (.invokevirtual 117, 3) := by decide +kernel
theorem d_L_law_694 : decode c_L_law 694 = .ok (.istore 6, 2) := by decide +kernel
theorem d_L_law_696 : decode c_L_law 696 = .ok (.aload_n 2, 1) := by decide +kernel
theorem d_L_law_697 : decode c_L_law 697 = .ok (.invokevirtual 80, 3) := by decide +kernel
theorem d_L_law_700 : decode c_L_law 700 = .ok (.iload 5, 2) := by decide +kernel
theorem d_L_law_702 : decode c_L_law 702 = .ok (.if_icmp .eq 5, 3) := by decide +kernel
theorem d_L_law_705 : decode c_L_law 705 = .ok (.iconst 0, 1) := by decide +kernel
theorem d_L_law_706 : decode c_L_law 706 = .ok (.ireturn, 1) := by decide +kernel
theorem d_L_law_707 : decode c_L_law 707 = .ok (.iload 5, 2) := by decide +kernel
theorem d_L_law_709 : decode c_L_law 709 = .ok (.ifCond .ne 15, 3) := by decide +kernel
theorem d_L_law_712 : decode c_L_law 712 = .ok (.aload_n 3, 1) := by decide +kernel
theorem d_L_law_713 : decode c_L_law 713 = .ok (.iconst 0, 1) := by decide +kernel
theorem d_L_law_714 : decode c_L_law 714 = .ok (.laload, 1) := by decide +kernel
theorem d_L_law_715 : decode c_L_law 715 = .ok (.iload 6, 2) := by decide +kernel
theorem d_L_law_717 : decode c_L_law 717 = .ok (.i2l, 1) := by decide +kernel
theorem d_L_law_718 : decode c_L_law 718 = .ok (.lcmp, 1) := by decide +kernel
theorem d_L_law_719 : decode c_L_law 719 = .ok (.ifCond .eq 5, 3) := by decide +kernel
theorem d_L_law_722 : decode c_L_law 722 = .ok (.iconst 0, 1) := by decide +kernel
theorem d_L_law_723 : decode c_L_law 723 = .ok (.ireturn, 1) := by decide +kernel
theorem d_L_law_724 : decode c_L_law 724 = .ok (.goto 325, 3) := by decide +kernel
theorem d_L_law_727 : decode c_L_law 727 = .ok (.aload_n 1, 1) := by decide +kernel
theorem d_L_law_728 : decode c_L_law 728 = .ok (.aload_n 0, 1) := by decide +kernel
theorem d_L_law_729 : decode c_L_law 729 = .ok (.iload 4, 2) := by decide +kernel
theorem d_L_law_731 : decode c_L_law 731 = .ok (.iconst 1, 1) := by decide +kernel
theorem d_L_law_732 : decode c_L_law 732 = .ok (.iadd, 1) := by decide +kernel
theorem d_L_law_733 : decode c_L_law 733 = .ok (.iaload, 1) := by decide +kernel
theorem d_L_law_734 : decode c_L_law 734 = .ok (.aload_n 0, 1) := by decide +kernel
theorem d_L_law_735 : decode c_L_law 735 = .ok (.iload 4, 2) := by decide +kernel
theorem d_L_law_737 : decode c_L_law 737 = .ok (.iconst 2, 1) := by decide +kernel
theorem d_L_law_738 : decode c_L_law 738 = .ok (.iadd, 1) := by decide +kernel
theorem d_L_law_739 : decode c_L_law 739 = .ok (.iaload, 1) := by decide +kernel
theorem d_L_law_740 : decode c_L_law 740 = .ok (.aload_n 0, 1) := by decide +kernel
theorem d_L_law_741 : decode c_L_law 741 = .ok (.iload 4, 2) := by decide +kernel
theorem d_L_law_743 : decode c_L_law 743 = .ok (.iconst 3, 1) := by decide +kernel
theorem d_L_law_744 : decode c_L_law 744 = .ok (.iadd, 1) := by decide +kernel
theorem d_L_law_745 : decode c_L_law 745 = .ok (.iaload, 1) := by decide +kernel
theorem d_L_law_746 : decode c_L_law 746 = .ok (.aload_n 3, 1) := by decide +kernel
theorem d_L_law_747 : decode c_L_law 747 = .ok (.invokestatic 118, 3) := by decide +kernel
theorem d_L_law_750 : decode c_L_law 750 = .ok (.istore 5, 2) := by decide +kernel
theorem d_L_law_752 : decode c_L_law 752 = .ok (.aload_n 2, 1) := by decide +kernel
