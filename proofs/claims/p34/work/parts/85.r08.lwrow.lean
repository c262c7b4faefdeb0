theorem dL_limits_645 : decode cL_limits 645 = .ok (.aload_n 1, 1) := by decide +kernel
theorem dL_limits_646 : decode cL_limits 646 = .ok (.iconst 0, 1) := by decide +kernel
theorem dL_limits_647 : decode cL_limits 647 = .ok (.invokevirtual 60, 3) := by decide +kernel
theorem dL_limits_650 : decode cL_limits 650 = .ok (.bipush 41, 2) := by decide +kernel
theorem dL_limits_652 : decode cL_limits 652 = .ok (.if_icmp .ne 31, 3) := by decide +kernel
theorem dL_limits_655 : decode cL_limits 655 = .ok (.aload_n 1, 1) := by decide +kernel
theorem dL_limits_656 : decode cL_limits 656 = .ok (.bipush 100, 2) := by decide +kernel
theorem dL_limits_658 : decode cL_limits 658 = .ok (.invokevirtual 26, 3) := by decide +kernel
theorem dL_limits_661 : decode cL_limits 661 = .ok (.sipush 141, 3) := by decide +kernel
theorem dL_limits_664 : decode cL_limits 664 = .ok (.if_icmp .ne 19, 3) := by decide +kernel
theorem dL_limits_667 : decode cL_limits 667 = .ok (.aload_n 1, 1) := by decide +kernel
theorem dL_limits_668 : decode cL_limits 668 = .ok (.bipush 12, 2) := by decide +kernel
theorem dL_limits_670 : decode cL_limits 670 = .ok (.invokevirtual 60, 3) := by decide +kernel
theorem dL_limits_673 : decode cL_limits 673 = .ok (.sipush 710, 3) := by decide +kernel
theorem dL_limits_676 : decode cL_limits 676 = .ok (.if_icmp .ne 7, 3) := by decide +kernel
theorem dL_limits_679 : decode cL_limits 679 = .ok (.iconst 1, 1) := by decide +kernel
theorem dL_limits_680 : decode cL_limits 680 = .ok (.goto 4, 3) := by decide +kernel
theorem dL_limits_683 : decode cL_limits 683 = .ok (.iconst 0, 1) := by decide +kernel
theorem dL_limits_684 : decode cL_limits 684 = .ok (.ireturn, 1) := by decide +kernel
