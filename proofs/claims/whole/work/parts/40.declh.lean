theorem zd_Law_law_763 : decode zc_Law_law 763 = .ok (.invokevirtual 116, 3) := by decide +kernel
theorem zd_Law_law_766 : decode zc_Law_law 766 = .ok (.istore 6, 2) := by decide +kernel
theorem zd_Law_law_768 : decode zc_Law_law 768 = .ok (.aload_n 2, 1) := by decide +kernel
theorem zd_Law_law_769 : decode zc_Law_law 769 = .ok (.invokevirtual 75, 3) := by decide +kernel
theorem zd_Law_law_772 : decode zc_Law_law 772 = .ok (.iload 5, 2) := by decide +kernel
theorem zd_Law_law_774 : decode zc_Law_law 774 = .ok (.if_icmp .eq 5, 3) := by decide +kernel
theorem zd_Law_law_777 : decode zc_Law_law 777 = .ok (.iconst 0, 1) := by decide +kernel
theorem zd_Law_law_778 : decode zc_Law_law 778 = .ok (.ireturn, 1) := by decide +kernel
theorem zd_Law_law_779 : decode zc_Law_law 779 = .ok (.iload 5, 2) := by decide +kernel
theorem zd_Law_law_781 : decode zc_Law_law 781 = .ok (.ifCond .ne 15, 3) := by decide +kernel
theorem zd_Law_law_784 : decode zc_Law_law 784 = .ok (.aload_n 3, 1) := by decide +kernel
theorem zd_Law_law_785 : decode zc_Law_law 785 = .ok (.iconst 0, 1) := by decide +kernel
theorem zd_Law_law_786 : decode zc_Law_law 786 = .ok (.laload, 1) := by decide +kernel
theorem zd_Law_law_787 : decode zc_Law_law 787 = .ok (.iload 6, 2) := by decide +kernel
theorem zd_Law_law_789 : decode zc_Law_law 789 = .ok (.i2l, 1) := by decide +kernel
theorem zd_Law_law_790 : decode zc_Law_law 790 = .ok (.lcmp, 1) := by decide +kernel
theorem zd_Law_law_791 : decode zc_Law_law 791 = .ok (.ifCond .eq 5, 3) := by decide +kernel
theorem zd_Law_law_794 : decode zc_Law_law 794 = .ok (.iconst 0, 1) := by decide +kernel
theorem zd_Law_law_795 : decode zc_Law_law 795 = .ok (.ireturn, 1) := by decide +kernel
theorem zd_Law_law_796 : decode zc_Law_law 796 = .ok (.goto 78, 3) := by decide +kernel
theorem zd_Law_law_799 : decode zc_Law_law 799 = .ok (.aload_n 1, 1) := by decide +kernel
theorem zd_Law_law_800 : decode zc_Law_law 800 = .ok (.invokevirtual 117, 3) := by decide +kernel
theorem zd_Law_law_803 : decode zc_Law_law 803 = .ok (.aload_n 2, 1) := by decide +kernel
theorem zd_Law_law_804 : decode zc_Law_law 804 = .ok (.invokevirtual 120, 3) := by decide +kernel
theorem zd_Law_law_807 : decode zc_Law_law 807 = .ok (.if_icmp .eq 67, 3) := by decide +kernel
theorem zd_Law_law_810 : decode zc_Law_law 810 = .ok (.iconst 0, 1) := by decide +kernel
theorem zd_Law_law_811 : decode zc_Law_law 811 = .ok (.ireturn, 1) := by decide +kernel
theorem zd_Law_law_812 : decode zc_Law_law 812 = .ok (.aload_n 1, 1) := by decide +kernel
theorem zd_Law_law_813 : decode zc_Law_law 813 = .ok (.aload_n 0, 1) := by decide +kernel
theorem zd_Law_law_814 : decode zc_Law_law 814 = .ok (.iload 4, 2) := by decide +kernel
theorem zd_Law_law_816 : decode zc_Law_law 816 = .ok (.iconst 1, 1) := by decide +kernel
theorem zd_Law_law_817 : decode zc_Law_law 817 = .ok (.iadd, 1) := by decide +kernel
theorem zd_Law_law_818 : decode zc_Law_law 818 = .ok (.iaload, 1) := by decide +kernel
theorem zd_Law_law_819 : decode zc_Law_law 819 = .ok (.invokestatic 121, 3) := by decide +kernel
theorem zd_Law_law_822 : decode zc_Law_law 822 = .ok (.istore 5, 2) := by decide +kernel
theorem zd_Law_law_824 : decode zc_Law_law 824 = .ok (.aload_n 2, 1) := by decide +kernel
theorem zd_Law_law_825 : decode zc_Law_law 825 = .ok (.aload_n 0, 1) := by decide +kernel
theorem zd_Law_law_826 : decode zc_Law_law 826 = .ok (.iload 4, 2) := by decide +kernel
theorem zd_Law_law_828 : decode zc_Law_law 828 = .ok (.iconst 1, 1) := by decide +kernel
theorem zd_Law_law_829 : decode zc_Law_law 829 = .ok (.iadd, 1) := by decide +kernel
theorem zd_Law_law_830 : decode zc_Law_law 830 = .ok (.iaload, 1) := by decide +kernel
theorem zd_Law_law_831 : decode zc_Law_law 831 = .ok (.invokevirtual 124, 3) := by decide +kernel
theorem zd_Law_law_834 : decode zc_Law_law 834 = .ok (.aload_n 2, 1) := by decide +kernel
theorem zd_Law_law_835 : decode zc_Law_law 835 = .ok (.invokevirtual 75, 3) := by decide +kernel
theorem zd_Law_law_838 : decode zc_Law_law 838 = .ok (.iload 5, 2) := by decide +kernel
theorem zd_Law_law_840 : decode zc_Law_law 840 = .ok (.if_icmp .eq 5, 3) := by decide +kernel
theorem zd_Law_law_843 : decode zc_Law_law 843 = .ok (.iconst 0, 1) := by decide +kernel
theorem zd_Law_law_844 : decode zc_Law_law 844 = .ok (.ireturn, 1) := by decide +kernel
theorem zd_Law_law_845 : decode zc_Law_law 845 = .ok (.goto 29, 3) := by decide +kernel
theorem zd_Law_law_848 : decode zc_Law_law 848 = .ok (.aload_n 1, 1) := by decide +kernel
theorem zd_Law_law_849 : decode zc_Law_law 849 = .ok (.invokevirtual 125, 3) := by decide +kernel
theorem zd_Law_law_852 : decode zc_Law_law 852 = .ok (.aload_n 2, 1) := by decide +kernel
theorem zd_Law_law_853 : decode zc_Law_law 853 = .ok (.invokevirtual 129, 3) := by decide +kernel
theorem zd_Law_law_856 : decode zc_Law_law 856 = .ok (.if_icmp .eq 18, 3) := by decide +kernel
theorem zd_Law_law_859 : decode zc_Law_law 859 = .ok (.iconst 0, 1) := by decide +kernel
theorem zd_Law_law_860 : decode zc_Law_law 860 = .ok (.ireturn, 1) := by decide +kernel
theorem zd_Law_law_861 : decode zc_Law_law 861 = .ok (.aload_n 1, 1) := by decide +kernel
theorem zd_Law_law_862 : decode zc_Law_law 862 = .ok (.invokevirtual 130, 3) := by decide +kernel
theorem zd_Law_law_865 : decode zc_Law_law 865 = .ok (.aload_n 2, 1) := by decide +kernel
theorem zd_Law_law_866 : decode zc_Law_law 866 = .ok (.invokevirtual 133, 3) := by decide +kernel
