theorem dL_crossings_730 : decode cL_crossings 730 = .ok (.dcmp .l, 1) := by decide +kernel
theorem dL_crossings_731 : decode cL_crossings 731 = .ok (.ifCond .ne 151, 3) := by decide +kernel
theorem dL_crossings_734 : decode cL_crossings 734 = .ok (.aload_n 0, 1) := by decide +kernel
theorem dL_crossings_735 : decode cL_crossings 735 = .ok (.invokevirtual 47, 3) := by decide +kernel
theorem dL_crossings_738 : decode cL_crossings 738 = .ok (.iconst 5, 1) := by decide +kernel
theorem dL_crossings_739 : decode cL_crossings 739 = .ok (.if_icmp .ne 143, 3) := by decide +kernel
theorem dL_crossings_742 : decode cL_crossings 742 = .ok (.aload_n 0, 1) := by decide +kernel
theorem dL_crossings_743 : decode cL_crossings 743 = .ok (.iconst 2, 1) := by decide +kernel
theorem dL_crossings_744 : decode cL_crossings 744 = .ok (.invokevirtual 60, 3) := by decide +kernel
theorem dL_crossings_747 : decode cL_crossings 747 = .ok (.iconst 2, 1) := by decide +kernel
theorem dL_crossings_748 : decode cL_crossings 748 = .ok (.if_icmp .ne 134, 3) := by decide +kernel
theorem dL_crossings_751 : decode cL_crossings 751 = .ok (.aload_n 0, 1) := by decide +kernel
theorem dL_crossings_752 : decode cL_crossings 752 = .ok (.iconst 1, 1) := by decide +kernel
theorem dL_crossings_753 : decode cL_crossings 753 = .ok (.bipush 17, 2) := by decide +kernel
theorem dL_crossings_755 : decode cL_crossings 755 = .ok (.invokevirtual 35, 3) := by decide +kernel
theorem dL_crossings_758 : decode cL_crossings 758 = .ok (.bipush 12, 2) := by decide +kernel
theorem dL_crossings_760 : decode cL_crossings 760 = .ok (.if_icmp .ne 122, 3) := by decide +kernel
theorem dL_crossings_763 : decode cL_crossings 763 = .ok (.aload_n 0, 1) := by decide +kernel
theorem dL_crossings_764 : decode cL_crossings 764 = .ok (.invokevirtual 106, 3) := by decide +kernel
theorem dL_crossings_767 : decode cL_crossings 767 = .ok (.ifCond .ne 115, 3) := by decide +kernel
theorem dL_crossings_770 : decode cL_crossings 770 = .ok (.aload_n 0, 1) := by decide +kernel
theorem dL_crossings_771 : decode cL_crossings 771 = .ok (.invokevirtual 23, 3) := by decide +kernel
theorem dL_crossings_774 : decode cL_crossings 774 = .ok (.iconst 1, 1) := by decide +kernel
theorem dL_crossings_775 : decode cL_crossings 775 = .ok (.if_icmp .ne 107, 3) := by decide +kernel
theorem dL_crossings_778 : decode cL_crossings 778 = .ok (.aload_n 0, 1) := by decide +kernel
theorem dL_crossings_779 : decode cL_crossings 779 = .ok (.iconst 1, 1) := by decide +kernel
theorem dL_crossings_780 : decode cL_crossings 780 = .ok (.invokevirtual 60, 3) := by decide +kernel
theorem dL_crossings_783 : decode cL_crossings 783 = .ok (.iconst 1, 1) := by decide +kernel
theorem dL_crossings_784 : decode cL_crossings 784 = .ok (.if_icmp .ne 98, 3) := by decide +kernel
theorem dL_crossings_787 : decode cL_crossings 787 = .ok (.aload_n 0, 1) := by decide +kernel
theorem dL_crossings_788 : decode cL_crossings 788 = .ok (.iconst 1, 1) := by decide +kernel
theorem dL_crossings_789 : decode cL_crossings 789 = .ok (.invokevirtual 15, 3) := by decide +kernel
theorem dL_crossings_792 : decode cL_crossings 792 = .ok (.iconst 5, 1) := by decide +kernel
theorem dL_crossings_793 : decode cL_crossings 793 = .ok (.if_icmp .ne 89, 3) := by decide +kernel
theorem dL_crossings_796 : decode cL_crossings 796 = .ok (.aload_n 0, 1) := by decide +kernel
theorem dL_crossings_797 : decode cL_crossings 797 = .ok (.iconst 1, 1) := by decide +kernel
theorem dL_crossings_798 : decode cL_crossings 798 = .ok (.iconst 0, 1) := by decide +kernel
theorem dL_crossings_799 : decode cL_crossings 799 = .ok (.iconst 1, 1) := by decide +kernel
theorem dL_crossings_800 : decode cL_crossings 800 = .ok (.invokevirtual 56, 3) := by decide +kernel
theorem dL_crossings_803 : decode cL_crossings 803 = .ok (.iconst 1, 1) := by decide +kernel
theorem dL_crossings_804 : decode cL_crossings 804 = .ok (.if_icmp .ne 78, 3) := by decide +kernel
theorem dL_crossings_807 : decode cL_crossings 807 = .ok (.aload_n 0, 1) := by decide +kernel
theorem dL_crossings_808 : decode cL_crossings 808 = .ok (.invokevirtual 19, 3) := by decide +kernel
theorem dL_crossings_811 : decode cL_crossings 811 = .ok (.iconst 2, 1) := by decide +kernel
theorem dL_crossings_812 : decode cL_crossings 812 = .ok (.if_icmp .ne 70, 3) := by decide +kernel
theorem dL_crossings_815 : decode cL_crossings 815 = .ok (.aload_n 0, 1) := by decide +kernel
theorem dL_crossings_816 : decode cL_crossings 816 = .ok (.bipush 10, 2) := by decide +kernel
theorem dL_crossings_818 : decode cL_crossings 818 = .ok (.invokevirtual 60, 3) := by decide +kernel
theorem dL_crossings_821 : decode cL_crossings 821 = .ok (.iconst 2, 1) := by decide +kernel
theorem dL_crossings_822 : decode cL_crossings 822 = .ok (.if_icmp .ne 60, 3) := by decide +kernel
theorem dL_crossings_825 : decode cL_crossings 825 = .ok (.aload_n 0, 1) := by decide +kernel
theorem dL_crossings_826 : decode cL_crossings 826 = .ok (.bipush 11, 2) := by decide +kernel
theorem dL_crossings_828 : decode cL_crossings 828 = .ok (.invokevirtual 60, 3) := by decide +kernel
