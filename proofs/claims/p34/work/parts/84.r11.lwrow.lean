theorem dL_crossings_831 : decode cL_crossings 831 = .ok (.iconst 1, 1) := by decide +kernel
theorem dL_crossings_832 : decode cL_crossings 832 = .ok (.if_icmp .ne 50, 3) := by decide +kernel
theorem dL_crossings_835 : decode cL_crossings 835 = .ok (.aload_n 0, 1) := by decide +kernel
theorem dL_crossings_836 : decode cL_crossings 836 = .ok (.invokevirtual 119, 3) := by decide +kernel
theorem dL_crossings_839 : decode cL_crossings 839 = .ok (.ldc2_w 128, 3) := by decide +kernel
theorem dL_crossings_842 : decode cL_crossings 842 = .ok (.dcmp .l, 1) := by decide +kernel
theorem dL_crossings_843 : decode cL_crossings 843 = .ok (.ifCond .ne 39, 3) := by decide +kernel
theorem dL_crossings_846 : decode cL_crossings 846 = .ok (.aload_n 0, 1) := by decide +kernel
theorem dL_crossings_847 : decode cL_crossings 847 = .ok (.bipush 9, 2) := by decide +kernel
theorem dL_crossings_849 : decode cL_crossings 849 = .ok (.invokevirtual 60, 3) := by decide +kernel
theorem dL_crossings_852 : decode cL_crossings 852 = .ok (.iconst 3, 1) := by decide +kernel
theorem dL_crossings_853 : decode cL_crossings 853 = .ok (.if_icmp .ne 29, 3) := by decide +kernel
theorem dL_crossings_856 : decode cL_crossings 856 = .ok (.aload_n 0, 1) := by decide +kernel
theorem dL_crossings_857 : decode cL_crossings 857 = .ok (.bipush 12, 2) := by decide +kernel
theorem dL_crossings_859 : decode cL_crossings 859 = .ok (.invokevirtual 60, 3) := by decide +kernel
theorem dL_crossings_862 : decode cL_crossings 862 = .ok (.bipush 7, 2) := by decide +kernel
theorem dL_crossings_864 : decode cL_crossings 864 = .ok (.if_icmp .ne 18, 3) := by decide +kernel
theorem dL_crossings_867 : decode cL_crossings 867 = .ok (.aload_n 0, 1) := by decide +kernel
theorem dL_crossings_868 : decode cL_crossings 868 = .ok (.bipush 13, 2) := by decide +kernel
theorem dL_crossings_870 : decode cL_crossings 870 = .ok (.invokevirtual 60, 3) := by decide +kernel
theorem dL_crossings_873 : decode cL_crossings 873 = .ok (.bipush 6, 2) := by decide +kernel
theorem dL_crossings_875 : decode cL_crossings 875 = .ok (.if_icmp .ne 7, 3) := by decide +kernel
theorem dL_crossings_878 : decode cL_crossings 878 = .ok (.iconst 1, 1) := by decide +kernel
theorem dL_crossings_879 : decode cL_crossings 879 = .ok (.goto 4, 3) := by decide +kernel
theorem dL_crossings_882 : decode cL_crossings 882 = .ok (.iconst 0, 1) := by decide +kernel
theorem dL_crossings_883 : decode cL_crossings 883 = .ok (.ireturn, 1) := by decide +kernel
