theorem dL_limits_10 : decode cL_limits 10 = .ok (.bipush 50, 2) := by decide +kernel
theorem dL_limits_12 : decode cL_limits 12 = .ok (.invokevirtual 35, 3) := by decide +kernel
theorem dL_limits_15 : decode cL_limits 15 = .ok (.sipush 300, 3) := by decide +kernel
theorem dL_limits_18 : decode cL_limits 18 = .ok (.if_icmp .ne 148, 3) := by decide +kernel
theorem dL_limits_21 : decode cL_limits 21 = .ok (.aload_n 0, 1) := by decide +kernel
theorem dL_limits_22 : decode cL_limits 22 = .ok (.iconst 3, 1) := by decide +kernel
theorem dL_limits_23 : decode cL_limits 23 = .ok (.bipush 40, 2) := by decide +kernel
theorem dL_limits_25 : decode cL_limits 25 = .ok (.invokevirtual 32, 3) := by decide +kernel
theorem dL_limits_28 : decode cL_limits 28 = .ok (.bipush 10, 2) := by decide +kernel
theorem dL_limits_30 : decode cL_limits 30 = .ok (.if_icmp .ne 136, 3) := by decide +kernel
theorem dL_limits_33 : decode cL_limits 33 = .ok (.aload_n 0, 1) := by decide +kernel
theorem dL_limits_34 : decode cL_limits 34 = .ok (.iconst 5, 1) := by decide +kernel
theorem dL_limits_35 : decode cL_limits 35 = .ok (.iconst 0, 1) := by decide +kernel
theorem dL_limits_36 : decode cL_limits 36 = .ok (.invokevirtual 32, 3) := by decide +kernel
theorem dL_limits_39 : decode cL_limits 39 = .ok (.bipush 10, 2) := by decide +kernel
theorem dL_limits_41 : decode cL_limits 41 = .ok (.if_icmp .ne 125, 3) := by decide +kernel
theorem dL_limits_44 : decode cL_limits 44 = .ok (.aload_n 0, 1) := by decide +kernel
theorem dL_limits_45 : decode cL_limits 45 = .ok (.invokevirtual 112, 3) := by decide +kernel
theorem dL_limits_48 : decode cL_limits 48 = .ok (.iconst 5, 1) := by decide +kernel
theorem dL_limits_49 : decode cL_limits 49 = .ok (.if_icmp .ne 117, 3) := by decide +kernel
theorem dL_limits_52 : decode cL_limits 52 = .ok (.aload_n 0, 1) := by decide +kernel
theorem dL_limits_53 : decode cL_limits 53 = .ok (.invokevirtual 130, 3) := by decide +kernel
theorem dL_limits_56 : decode cL_limits 56 = .ok (.ifCond .ne 110, 3) := by decide +kernel
theorem dL_limits_59 : decode cL_limits 59 = .ok (.aload_n 0, 1) := by decide +kernel
theorem dL_limits_60 : decode cL_limits 60 = .ok (.iconst 3, 1) := by decide +kernel
theorem dL_limits_61 : decode cL_limits 61 = .ok (.invokevirtual 26, 3) := by decide +kernel
theorem dL_limits_64 : decode cL_limits 64 = .ok (.iconst 3, 1) := by decide +kernel
theorem dL_limits_65 : decode cL_limits 65 = .ok (.if_icmp .ne 101, 3) := by decide +kernel
theorem dL_limits_68 : decode cL_limits 68 = .ok (.aload_n 0, 1) := by decide +kernel
theorem dL_limits_69 : decode cL_limits 69 = .ok (.bipush 9, 2) := by decide +kernel
theorem dL_limits_71 : decode cL_limits 71 = .ok (.iconst 2, 1) := by decide +kernel
theorem dL_limits_72 : decode cL_limits 72 = .ok (.invokevirtual 50, 3) := by decide +kernel
theorem dL_limits_75 : decode cL_limits 75 = .ok (.bipush 80, 2) := by decide +kernel
theorem dL_limits_77 : decode cL_limits 77 = .ok (.if_icmp .ne 89, 3) := by decide +kernel
theorem dL_limits_80 : decode cL_limits 80 = .ok (.aload_n 0, 1) := by decide +kernel
theorem dL_limits_81 : decode cL_limits 81 = .ok (.invokevirtual 106, 3) := by decide +kernel
theorem dL_limits_84 : decode cL_limits 84 = .ok (.iconst 3, 1) := by decide +kernel
theorem dL_limits_85 : decode cL_limits 85 = .ok (.if_icmp .ne 81, 3) := by decide +kernel
theorem dL_limits_88 : decode cL_limits 88 = .ok (.aload_n 0, 1) := by decide +kernel
theorem dL_limits_89 : decode cL_limits 89 = .ok (.invokevirtual 109, 3) := by decide +kernel
theorem dL_limits_92 : decode cL_limits 92 = .ok (.bipush 9, 2) := by decide +kernel
theorem dL_limits_94 : decode cL_limits 94 = .ok (.if_icmp .ne 72, 3) := by decide +kernel
theorem dL_limits_97 : decode cL_limits 97 = .ok (.aload_n 0, 1) := by decide +kernel
theorem dL_limits_98 : decode cL_limits 98 = .ok (.invokevirtual 88, 3) := by decide +kernel
theorem dL_limits_101 : decode cL_limits 101 = .ok (.iconst 1, 1) := by decide +kernel
theorem dL_limits_102 : decode cL_limits 102 = .ok (.if_icmp .ne 64, 3) := by decide +kernel
theorem dL_limits_105 : decode cL_limits 105 = .ok (.aload_n 0, 1) := by decide +kernel
theorem dL_limits_106 : decode cL_limits 106 = .ok (.invokevirtual 85, 3) := by decide +kernel
theorem dL_limits_109 : decode cL_limits 109 = .ok (.ifCond .ne 57, 3) := by decide +kernel
theorem dL_limits_112 : decode cL_limits 112 = .ok (.aload_n 0, 1) := by decide +kernel
theorem dL_limits_113 : decode cL_limits 113 = .ok (.invokevirtual 112, 3) := by decide +kernel
theorem dL_limits_116 : decode cL_limits 116 = .ok (.iconst 2, 1) := by decide +kernel
theorem dL_limits_117 : decode cL_limits 117 = .ok (.if_icmp .ne 49, 3) := by decide +kernel
theorem dL_limits_120 : decode cL_limits 120 = .ok (.aload_n 0, 1) := by decide +kernel
theorem dL_limits_121 : decode cL_limits 121 = .ok (.iconst 1, 1) := by decide +kernel
theorem dL_limits_122 : decode cL_limits 122 = .ok (.invokevirtual 29, 3) := by decide +kernel
theorem dL_limits_125 : decode cL_limits 125 = .ok (.bipush 39, 2) := by decide +kernel
theorem dL_limits_127 : decode cL_limits 127 = .ok (.if_icmp .ne 39, 3) := by decide +kernel
theorem dL_limits_130 : decode cL_limits 130 = .ok (.aload_n 0, 1) := by decide +kernel
theorem dL_limits_131 : decode cL_limits 131 = .ok (.invokevirtual 106, 3) := by decide +kernel
theorem dL_limits_134 : decode cL_limits 134 = .ok (.ifCond .ne 32, 3) := by decide +kernel
theorem dL_limits_137 : decode cL_limits 137 = .ok (.aload_n 0, 1) := by decide +kernel
theorem dL_limits_138 : decode cL_limits 138 = .ok (.invokevirtual 44, 3) := by decide +kernel
theorem dL_limits_141 : decode cL_limits 141 = .ok (.ifCond .ne 25, 3) := by decide +kernel
theorem dL_limits_144 : decode cL_limits 144 = .ok (.aload_n 0, 1) := by decide +kernel
theorem dL_limits_145 : decode cL_limits 145 = .ok (.bipush 7, 2) := by decide +kernel
theorem dL_limits_147 : decode cL_limits 147 = .ok (.invokevirtual 60, 3) := by decide +kernel
theorem dL_limits_150 : decode cL_limits 150 = .ok (.bipush 40, 2) := by decide +kernel
