theorem zd_Law_law_658 : decode zc_Law_law 658 = .ok (.i2l, 1) := by decide +kernel
theorem zd_Law_law_659 : decode zc_Law_law 659 = .ok (.lcmp, 1) := by decide +kernel
theorem zd_Law_law_660 : decode zc_Law_law 660 = .ok (.ifCond .eq 5, 3) := by decide +kernel
theorem zd_Law_law_663 : decode zc_Law_law 663 = .ok (.iconst 0, 1) := by decide +kernel
theorem zd_Law_law_664 : decode zc_Law_law 664 = .ok (.ireturn, 1) := by decide +kernel
theorem zd_Law_law_665 : decode zc_Law_law 665 = .ok (.goto 209, 3) := by decide +kernel
theorem zd_Law_law_668 : decode zc_Law_law 668 = .ok (.aload_n 1, 1) := by decide +kernel
theorem zd_Law_law_669 : decode zc_Law_law 669 = .ok (.aload_n 3, 1) := by decide +kernel
theorem zd_Law_law_670 : decode zc_Law_law 670 = .ok (.invokestatic 108, 3) := by decide +kernel
theorem zd_Law_law_673 : decode zc_Law_law 673 = .ok (.istore 5, 2) := by decide +kernel
theorem zd_Law_law_675 : decode zc_Law_law 675 = .ok (.aload_n 2, 1) := by decide +kernel
theorem zd_Law_law_676 : decode zc_Law_law 676 = .ok (.invokevirtual 110, 3) := by decide +kernel
theorem zd_Law_law_679 : decode zc_Law_law 679 = .ok (.lstore 6, 2) := by decide +kernel
theorem zd_Law_law_681 : decode zc_Law_law 681 = .ok (.aload_n 2, 1) := by decide +kernel
theorem zd_Law_law_682 : decode zc_Law_law 682 = .ok (.invokevirtual 75, 3) := by decide +kernel
theorem zd_Law_law_685 : decode zc_Law_law 685 = .ok (.iload 5, 2) := by decide +kernel
theorem zd_Law_law_687 : decode zc_Law_law 687 = .ok (.if_icmp .eq 5, 3) := by decide +kernel
theorem zd_Law_law_690 : decode zc_Law_law 690 = .ok (.iconst 0, 1) := by decide +kernel
theorem zd_Law_law_691 : decode zc_Law_law 691 = .ok (.ireturn, 1) := by decide +kernel
theorem zd_Law_law_692 : decode zc_Law_law 692 = .ok (.iload 5, 2) := by decide +kernel
theorem zd_Law_law_694 : decode zc_Law_law 694 = .ok (.ifCond .ne 14, 3) := by decide +kernel
theorem zd_Law_law_697 : decode zc_Law_law 697 = .ok (.aload_n 3, 1) := by decide +kernel
theorem zd_Law_law_698 : decode zc_Law_law 698 = .ok (.iconst 0, 1) := by decide +kernel
theorem zd_Law_law_699 : decode zc_Law_law 699 = .ok (.laload, 1) := by decide +kernel
theorem zd_Law_law_700 : decode zc_Law_law 700 = .ok (.lload 6, 2) := by decide +kernel
theorem zd_Law_law_702 : decode zc_Law_law 702 = .ok (.lcmp, 1) := by decide +kernel
theorem zd_Law_law_703 : decode zc_Law_law 703 = .ok (.ifCond .eq 5, 3) := by decide +kernel
theorem zd_Law_law_706 : decode zc_Law_law 706 = .ok (.iconst 0, 1) := by decide +kernel
theorem zd_Law_law_707 : decode zc_Law_law 707 = .ok (.ireturn, 1) := by decide +kernel
theorem zd_Law_law_708 : decode zc_Law_law 708 = .ok (.goto 166, 3) := by decide +kernel
theorem zd_Law_law_711 : decode zc_Law_law 711 = .ok (.aload_n 1, 1) := by decide +kernel
theorem zd_Law_law_712 : decode zc_Law_law 712 = .ok (.aload_n 3, 1) := by decide +kernel
theorem zd_Law_law_713 : decode zc_Law_law 713 = .ok (.invokestatic 111, 3) := by decide +kernel
theorem zd_Law_law_716 : decode zc_Law_law 716 = .ok (.istore 5, 2) := by decide +kernel
theorem zd_Law_law_718 : decode zc_Law_law 718 = .ok (.aload_n 2, 1) := by decide +kernel
theorem zd_Law_law_719 : decode zc_Law_law 719 = .ok (.invokevirtual 113, 3) := by decide +kernel
theorem zd_Law_law_722 : decode zc_Law_law 722 = .ok (.istore 6, 2) := by decide +kernel
theorem zd_Law_law_724 : decode zc_Law_law 724 = .ok (.aload_n 2, 1) := by decide +kernel
theorem zd_Law_law_725 : decode zc_Law_law 725 = .ok (.invokevirtual 75, 3) := by decide +kernel
theorem zd_Law_law_728 : decode zc_Law_law 728 = .ok (.iload 5, 2) := by decide +kernel
theorem zd_Law_law_730 : decode zc_Law_law 730 = .ok (.if_icmp .eq 5, 3) := by decide +kernel
theorem zd_Law_law_733 : decode zc_Law_law 733 = .ok (.iconst 0, 1) := by decide +kernel
theorem zd_Law_law_734 : decode zc_Law_law 734 = .ok (.ireturn, 1) := by decide +kernel
theorem zd_Law_law_735 : decode zc_Law_law 735 = .ok (.iload 5, 2) := by decide +kernel
theorem zd_Law_law_737 : decode zc_Law_law 737 = .ok (.ifCond .ne 15, 3) := by decide +kernel
theorem zd_Law_law_740 : decode zc_Law_law 740 = .ok (.aload_n 3, 1) := by decide +kernel
theorem zd_Law_law_741 : decode zc_Law_law 741 = .ok (.iconst 0, 1) := by decide +kernel
theorem zd_Law_law_742 : decode zc_Law_law 742 = .ok (.laload, 1) := by decide +kernel
theorem zd_Law_law_743 : decode zc_Law_law 743 = .ok (.iload 6, 2) := by decide +kernel
theorem zd_Law_law_745 : decode zc_Law_law 745 = .ok (.i2l, 1) := by decide +kernel
theorem zd_Law_law_746 : decode zc_Law_law 746 = .ok (.lcmp, 1) := by decide +kernel
theorem zd_Law_law_747 : decode zc_Law_law 747 = .ok (.ifCond .eq 5, 3) := by decide +kernel
theorem zd_Law_law_750 : decode zc_Law_law 750 = .ok (.iconst 0, 1) := by decide +kernel
theorem zd_Law_law_751 : decode zc_Law_law 751 = .ok (.ireturn, 1) := by decide +kernel
theorem zd_Law_law_752 : decode zc_Law_law 752 = .ok (.goto 122, 3) := by decide +kernel
theorem zd_Law_law_755 : decode zc_Law_law 755 = .ok (.aload_n 1, 1) := by decide +kernel
theorem zd_Law_law_756 : decode zc_Law_law 756 = .ok (.aload_n 3, 1) := by decide +kernel
theorem zd_Law_law_757 : decode zc_Law_law 757 = .ok (.invokestatic 114, 3) := by decide +kernel
theorem zd_Law_law_760 : decode zc_Law_law 760 = .ok (.istore 5, 2) := by decide +kernel
theorem zd_Law_law_762 : decode zc_Law_law 762 = .ok (.aload_n 2, 1) := by decide +kernel
