theorem dL_crossings_16 : decode cL_crossings 16 = .ok (.bipush (-13), 2) := by decide +kernel
theorem dL_crossings_18 : decode cL_crossings 18 = .ok (.if_icmp .ne 395, 3) := by decide +kernel
theorem dL_crossings_21 : decode cL_crossings 21 = .ok (.aload_n 0, 1) := by decide +kernel
theorem dL_crossings_22 : decode cL_crossings 22 = .ok (.bipush 10, 2) := by decide +kernel
theorem dL_crossings_24 : decode cL_crossings 24 = .ok (.iconst 0, 1) := by decide +kernel
theorem dL_crossings_25 : decode cL_crossings 25 = .ok (.iconst 0, 1) := by decide +kernel
theorem dL_crossings_26 : decode cL_crossings 26 = .ok (.invokestatic 91, 3) := by decide +kernel
theorem dL_crossings_29 : decode cL_crossings 29 = .ok (.bipush (-13), 2) := by decide +kernel
theorem dL_crossings_31 : decode cL_crossings 31 = .ok (.if_icmp .ne 382, 3) := by decide +kernel
theorem dL_crossings_34 : decode cL_crossings 34 = .ok (.aload_n 0, 1) := by decide +kernel
theorem dL_crossings_35 : decode cL_crossings 35 = .ok (.iconst 1, 1) := by decide +kernel
theorem dL_crossings_36 : decode cL_crossings 36 = .ok (.iconst 0, 1) := by decide +kernel
theorem dL_crossings_37 : decode cL_crossings 37 = .ok (.iconst 0, 1) := by decide +kernel
theorem dL_crossings_38 : decode cL_crossings 38 = .ok (.invokestatic 91, 3) := by decide +kernel
theorem dL_crossings_41 : decode cL_crossings 41 = .ok (.bipush (-13), 2) := by decide +kernel
theorem dL_crossings_43 : decode cL_crossings 43 = .ok (.if_icmp .ne 370, 3) := by decide +kernel
theorem dL_crossings_46 : decode cL_crossings 46 = .ok (.aload_n 0, 1) := by decide +kernel
theorem dL_crossings_47 : decode cL_crossings 47 = .ok (.invokevirtual 106, 3) := by decide +kernel
theorem dL_crossings_50 : decode cL_crossings 50 = .ok (.ifCond .ne 363, 3) := by decide +kernel
theorem dL_crossings_53 : decode cL_crossings 53 = .ok (.aload_n 0, 1) := by decide +kernel
theorem dL_crossings_54 : decode cL_crossings 54 = .ok (.invokevirtual 109, 3) := by decide +kernel
theorem dL_crossings_57 : decode cL_crossings 57 = .ok (.bipush 9, 2) := by decide +kernel
theorem dL_crossings_59 : decode cL_crossings 59 = .ok (.if_icmp .ne 354, 3) := by decide +kernel
theorem dL_crossings_62 : decode cL_crossings 62 = .ok (.aload_n 0, 1) := by decide +kernel
theorem dL_crossings_63 : decode cL_crossings 63 = .ok (.iconst 0, 1) := by decide +kernel
theorem dL_crossings_64 : decode cL_crossings 64 = .ok (.iconst 2, 1) := by decide +kernel
theorem dL_crossings_65 : decode cL_crossings 65 = .ok (.invokevirtual 50, 3) := by decide +kernel
theorem dL_crossings_68 : decode cL_crossings 68 = .ok (.iconst 2, 1) := by decide +kernel
theorem dL_crossings_69 : decode cL_crossings 69 = .ok (.if_icmp .ne 344, 3) := by decide +kernel
theorem dL_crossings_72 : decode cL_crossings 72 = .ok (.aload_n 0, 1) := by decide +kernel
theorem dL_crossings_73 : decode cL_crossings 73 = .ok (.bipush 9, 2) := by decide +kernel
theorem dL_crossings_75 : decode cL_crossings 75 = .ok (.iconst 2, 1) := by decide +kernel
theorem dL_crossings_76 : decode cL_crossings 76 = .ok (.invokevirtual 50, 3) := by decide +kernel
theorem dL_crossings_79 : decode cL_crossings 79 = .ok (.bipush 20, 2) := by decide +kernel
theorem dL_crossings_81 : decode cL_crossings 81 = .ok (.if_icmp .ne 332, 3) := by decide +kernel
theorem dL_crossings_84 : decode cL_crossings 84 = .ok (.aload_n 0, 1) := by decide +kernel
theorem dL_crossings_85 : decode cL_crossings 85 = .ok (.bipush 10, 2) := by decide +kernel
theorem dL_crossings_87 : decode cL_crossings 87 = .ok (.iconst 2, 1) := by decide +kernel
theorem dL_crossings_88 : decode cL_crossings 88 = .ok (.invokevirtual 50, 3) := by decide +kernel
theorem dL_crossings_91 : decode cL_crossings 91 = .ok (.bipush 20, 2) := by decide +kernel
theorem dL_crossings_93 : decode cL_crossings 93 = .ok (.if_icmp .ne 320, 3) := by decide +kernel
theorem dL_crossings_96 : decode cL_crossings 96 = .ok (.aload_n 0, 1) := by decide +kernel
theorem dL_crossings_97 : decode cL_crossings 97 = .ok (.bipush 19, 2) := by decide +kernel
theorem dL_crossings_99 : decode cL_crossings 99 = .ok (.iconst 2, 1) := by decide +kernel
theorem dL_crossings_100 : decode cL_crossings 100 = .ok (.invokevirtual 50, 3) := by decide +kernel
theorem dL_crossings_103 : decode cL_crossings 103 = .ok (.iconst 2, 1) := by decide +kernel
theorem dL_crossings_104 : decode cL_crossings 104 = .ok (.if_icmp .ne 309, 3) := by decide +kernel
theorem dL_crossings_107 : decode cL_crossings 107 = .ok (.aload_n 0, 1) := by decide +kernel
theorem dL_crossings_108 : decode cL_crossings 108 = .ok (.iconst 5, 1) := by decide +kernel
theorem dL_crossings_109 : decode cL_crossings 109 = .ok (.iconst 1, 1) := by decide +kernel
theorem dL_crossings_110 : decode cL_crossings 110 = .ok (.invokevirtual 50, 3) := by decide +kernel
theorem dL_crossings_113 : decode cL_crossings 113 = .ok (.sipush 300, 3) := by decide +kernel
theorem dL_crossings_116 : decode cL_crossings 116 = .ok (.if_icmp .ne 297, 3) := by decide +kernel
