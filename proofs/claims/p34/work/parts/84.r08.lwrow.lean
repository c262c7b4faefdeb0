theorem dL_crossings_523 : decode cL_crossings 523 = .ok (.iconst 2, 1) := by decide +kernel
theorem dL_crossings_524 : decode cL_crossings 524 = .ok (.invokevirtual 26, 3) := by decide +kernel
theorem dL_crossings_527 : decode cL_crossings 527 = .ok (.bipush 8, 2) := by decide +kernel
theorem dL_crossings_529 : decode cL_crossings 529 = .ok (.if_icmp .ne 177, 3) := by decide +kernel
theorem dL_crossings_532 : decode cL_crossings 532 = .ok (.aload_n 0, 1) := by decide +kernel
theorem dL_crossings_533 : decode cL_crossings 533 = .ok (.bipush 12, 2) := by decide +kernel
theorem dL_crossings_535 : decode cL_crossings 535 = .ok (.invokevirtual 60, 3) := by decide +kernel
theorem dL_crossings_538 : decode cL_crossings 538 = .ok (.bipush 6, 2) := by decide +kernel
theorem dL_crossings_540 : decode cL_crossings 540 = .ok (.if_icmp .ne 166, 3) := by decide +kernel
theorem dL_crossings_543 : decode cL_crossings 543 = .ok (.aload_n 0, 1) := by decide +kernel
theorem dL_crossings_544 : decode cL_crossings 544 = .ok (.iconst 0, 1) := by decide +kernel
theorem dL_crossings_545 : decode cL_crossings 545 = .ok (.invokevirtual 69, 3) := by decide +kernel
theorem dL_crossings_548 : decode cL_crossings 548 = .ok (.bipush 60, 2) := by decide +kernel
theorem dL_crossings_550 : decode cL_crossings 550 = .ok (.if_icmp .ne 156, 3) := by decide +kernel
theorem dL_crossings_553 : decode cL_crossings 553 = .ok (.aload_n 0, 1) := by decide +kernel
theorem dL_crossings_554 : decode cL_crossings 554 = .ok (.iconst 0, 1) := by decide +kernel
theorem dL_crossings_555 : decode cL_crossings 555 = .ok (.invokevirtual 15, 3) := by decide +kernel
theorem dL_crossings_558 : decode cL_crossings 558 = .ok (.bipush 10, 2) := by decide +kernel
theorem dL_crossings_560 : decode cL_crossings 560 = .ok (.if_icmp .ne 146, 3) := by decide +kernel
theorem dL_crossings_563 : decode cL_crossings 563 = .ok (.aload_n 0, 1) := by decide +kernel
theorem dL_crossings_564 : decode cL_crossings 564 = .ok (.iconst 0, 1) := by decide +kernel
theorem dL_crossings_565 : decode cL_crossings 565 = .ok (.iconst 0, 1) := by decide +kernel
theorem dL_crossings_566 : decode cL_crossings 566 = .ok (.iconst 1, 1) := by decide +kernel
theorem dL_crossings_567 : decode cL_crossings 567 = .ok (.invokevirtual 56, 3) := by decide +kernel
theorem dL_crossings_570 : decode cL_crossings 570 = .ok (.ifCond .ne 136, 3) := by decide +kernel
theorem dL_crossings_573 : decode cL_crossings 573 = .ok (.aload_n 0, 1) := by decide +kernel
theorem dL_crossings_574 : decode cL_crossings 574 = .ok (.iconst 4, 1) := by decide +kernel
theorem dL_crossings_575 : decode cL_crossings 575 = .ok (.invokevirtual 60, 3) := by decide +kernel
theorem dL_crossings_578 : decode cL_crossings 578 = .ok (.bipush 10, 2) := by decide +kernel
theorem dL_crossings_580 : decode cL_crossings 580 = .ok (.if_icmp .ne 126, 3) := by decide +kernel
theorem dL_crossings_583 : decode cL_crossings 583 = .ok (.aload_n 0, 1) := by decide +kernel
theorem dL_crossings_584 : decode cL_crossings 584 = .ok (.iconst 0, 1) := by decide +kernel
theorem dL_crossings_585 : decode cL_crossings 585 = .ok (.iconst 2, 1) := by decide +kernel
theorem dL_crossings_586 : decode cL_crossings 586 = .ok (.invokevirtual 50, 3) := by decide +kernel
theorem dL_crossings_589 : decode cL_crossings 589 = .ok (.bipush 33, 2) := by decide +kernel
theorem dL_crossings_591 : decode cL_crossings 591 = .ok (.if_icmp .ne 115, 3) := by decide +kernel
theorem dL_crossings_594 : decode cL_crossings 594 = .ok (.aload_n 0, 1) := by decide +kernel
theorem dL_crossings_595 : decode cL_crossings 595 = .ok (.bipush 9, 2) := by decide +kernel
theorem dL_crossings_597 : decode cL_crossings 597 = .ok (.iconst 2, 1) := by decide +kernel
theorem dL_crossings_598 : decode cL_crossings 598 = .ok (.invokevirtual 50, 3) := by decide +kernel
theorem dL_crossings_601 : decode cL_crossings 601 = .ok (.bipush 60, 2) := by decide +kernel
theorem dL_crossings_603 : decode cL_crossings 603 = .ok (.if_icmp .ne 103, 3) := by decide +kernel
theorem dL_crossings_606 : decode cL_crossings 606 = .ok (.aload_n 0, 1) := by decide +kernel
theorem dL_crossings_607 : decode cL_crossings 607 = .ok (.iconst 1, 1) := by decide +kernel
theorem dL_crossings_608 : decode cL_crossings 608 = .ok (.invokevirtual 69, 3) := by decide +kernel
theorem dL_crossings_611 : decode cL_crossings 611 = .ok (.bipush 46, 2) := by decide +kernel
theorem dL_crossings_613 : decode cL_crossings 613 = .ok (.if_icmp .ne 93, 3) := by decide +kernel
theorem dL_crossings_616 : decode cL_crossings 616 = .ok (.aload_n 0, 1) := by decide +kernel
theorem dL_crossings_617 : decode cL_crossings 617 = .ok (.iconst 0, 1) := by decide +kernel
theorem dL_crossings_618 : decode cL_crossings 618 = .ok (.invokevirtual 69, 3) := by decide +kernel
theorem dL_crossings_621 : decode cL_crossings 621 = .ok (.bipush 88, 2) := by decide +kernel
theorem dL_crossings_623 : decode cL_crossings 623 = .ok (.if_icmp .ne 83, 3) := by decide +kernel
theorem dL_crossings_626 : decode cL_crossings 626 = .ok (.aload_n 0, 1) := by decide +kernel
