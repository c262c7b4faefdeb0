theorem dL_crossings_627 : decode cL_crossings 627 = .ok (.iconst 0, 1) := by decide +kernel
theorem dL_crossings_628 : decode cL_crossings 628 = .ok (.invokevirtual 72, 3) := by decide +kernel
theorem dL_crossings_631 : decode cL_crossings 631 = .ok (.bipush 10, 2) := by decide +kernel
theorem dL_crossings_633 : decode cL_crossings 633 = .ok (.if_icmp .ne 73, 3) := by decide +kernel
theorem dL_crossings_636 : decode cL_crossings 636 = .ok (.aload_n 0, 1) := by decide +kernel
theorem dL_crossings_637 : decode cL_crossings 637 = .ok (.iconst 1, 1) := by decide +kernel
theorem dL_crossings_638 : decode cL_crossings 638 = .ok (.invokevirtual 72, 3) := by decide +kernel
theorem dL_crossings_641 : decode cL_crossings 641 = .ok (.iconst 3, 1) := by decide +kernel
theorem dL_crossings_642 : decode cL_crossings 642 = .ok (.if_icmp .ne 64, 3) := by decide +kernel
theorem dL_crossings_645 : decode cL_crossings 645 = .ok (.aload_n 0, 1) := by decide +kernel
theorem dL_crossings_646 : decode cL_crossings 646 = .ok (.iconst 2, 1) := by decide +kernel
theorem dL_crossings_647 : decode cL_crossings 647 = .ok (.invokevirtual 72, 3) := by decide +kernel
theorem dL_crossings_650 : decode cL_crossings 650 = .ok (.iconst (-1), 1) := by decide +kernel
theorem dL_crossings_651 : decode cL_crossings 651 = .ok (.if_icmp .ne 55, 3) := by decide +kernel
theorem dL_crossings_654 : decode cL_crossings 654 = .ok (.aload_n 0, 1) := by decide +kernel
theorem dL_crossings_655 : decode cL_crossings 655 = .ok (.iconst 0, 1) := by decide +kernel
theorem dL_crossings_656 : decode cL_crossings 656 = .ok (.invokevirtual 15, 3) := by decide +kernel
theorem dL_crossings_659 : decode cL_crossings 659 = .ok (.bipush 7, 2) := by decide +kernel
theorem dL_crossings_661 : decode cL_crossings 661 = .ok (.if_icmp .ne 45, 3) := by decide +kernel
theorem dL_crossings_664 : decode cL_crossings 664 = .ok (.aload_n 0, 1) := by decide +kernel
theorem dL_crossings_665 : decode cL_crossings 665 = .ok (.invokevirtual 106, 3) := by decide +kernel
theorem dL_crossings_668 : decode cL_crossings 668 = .ok (.iconst 1, 1) := by decide +kernel
theorem dL_crossings_669 : decode cL_crossings 669 = .ok (.if_icmp .ne 37, 3) := by decide +kernel
theorem dL_crossings_672 : decode cL_crossings 672 = .ok (.aload_n 0, 1) := by decide +kernel
theorem dL_crossings_673 : decode cL_crossings 673 = .ok (.iconst 3, 1) := by decide +kernel
theorem dL_crossings_674 : decode cL_crossings 674 = .ok (.iconst 0, 1) := by decide +kernel
theorem dL_crossings_675 : decode cL_crossings 675 = .ok (.iconst 0, 1) := by decide +kernel
theorem dL_crossings_676 : decode cL_crossings 676 = .ok (.invokestatic 91, 3) := by decide +kernel
theorem dL_crossings_679 : decode cL_crossings 679 = .ok (.bipush (-13), 2) := by decide +kernel
theorem dL_crossings_681 : decode cL_crossings 681 = .ok (.if_icmp .ne 25, 3) := by decide +kernel
theorem dL_crossings_684 : decode cL_crossings 684 = .ok (.aload_n 0, 1) := by decide +kernel
theorem dL_crossings_685 : decode cL_crossings 685 = .ok (.invokevirtual 88, 3) := by decide +kernel
theorem dL_crossings_688 : decode cL_crossings 688 = .ok (.iconst (-1), 1) := by decide +kernel
theorem dL_crossings_689 : decode cL_crossings 689 = .ok (.if_icmp .ne 17, 3) := by decide +kernel
theorem dL_crossings_692 : decode cL_crossings 692 = .ok (.aload_n 0, 1) := by decide +kernel
theorem dL_crossings_693 : decode cL_crossings 693 = .ok (.invokevirtual 85, 3) := by decide +kernel
theorem dL_crossings_696 : decode cL_crossings 696 = .ok (.ifCond .ne 10, 3) := by decide +kernel
theorem dL_crossings_699 : decode cL_crossings 699 = .ok (.aload_n 0, 1) := by decide +kernel
theorem dL_crossings_700 : decode cL_crossings 700 = .ok (.invokestatic 123, 3) := by decide +kernel
theorem dL_crossings_703 : decode cL_crossings 703 = .ok (.ifCond .ne 5, 3) := by decide +kernel
theorem dL_crossings_706 : decode cL_crossings 706 = .ok (.iconst 0, 1) := by decide +kernel
theorem dL_crossings_707 : decode cL_crossings 707 = .ok (.ireturn, 1) := by decide +kernel
theorem dL_crossings_708 : decode cL_crossings 708 = .ok (.aload_n 0, 1) := by decide +kernel
theorem dL_crossings_709 : decode cL_crossings 709 = .ok (.invokevirtual 19, 3) := by decide +kernel
theorem dL_crossings_712 : decode cL_crossings 712 = .ok (.ifCond .ne 170, 3) := by decide +kernel
theorem dL_crossings_715 : decode cL_crossings 715 = .ok (.aload_n 0, 1) := by decide +kernel
theorem dL_crossings_716 : decode cL_crossings 716 = .ok (.bipush 11, 2) := by decide +kernel
theorem dL_crossings_718 : decode cL_crossings 718 = .ok (.invokevirtual 60, 3) := by decide +kernel
theorem dL_crossings_721 : decode cL_crossings 721 = .ok (.iconst 2, 1) := by decide +kernel
theorem dL_crossings_722 : decode cL_crossings 722 = .ok (.if_icmp .ne 160, 3) := by decide +kernel
theorem dL_crossings_725 : decode cL_crossings 725 = .ok (.aload_n 0, 1) := by decide +kernel
theorem dL_crossings_726 : decode cL_crossings 726 = .ok (.invokevirtual 119, 3) := by decide +kernel
theorem dL_crossings_729 : decode cL_crossings 729 = .ok (.dconst 0, 1) := by decide +kernel
