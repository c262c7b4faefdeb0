theorem dL_limits_528 : decode cL_limits 528 = .ok (.iconst (-1), 1) := by decide +kernel
theorem dL_limits_529 : decode cL_limits 529 = .ok (.if_icmp .ne 72, 3) := by decide +kernel
theorem dL_limits_532 : decode cL_limits 532 = .ok (.aload_n 1, 1) := by decide +kernel
theorem dL_limits_533 : decode cL_limits 533 = .ok (.iconst 1, 1) := by decide +kernel
theorem dL_limits_534 : decode cL_limits 534 = .ok (.iconst 4, 1) := by decide +kernel
theorem dL_limits_535 : decode cL_limits 535 = .ok (.invokevirtual 53, 3) := by decide +kernel
theorem dL_limits_538 : decode cL_limits 538 = .ok (.bipush 10, 2) := by decide +kernel
theorem dL_limits_540 : decode cL_limits 540 = .ok (.if_icmp .ne 61, 3) := by decide +kernel
theorem dL_limits_543 : decode cL_limits 543 = .ok (.aload_n 1, 1) := by decide +kernel
theorem dL_limits_544 : decode cL_limits 544 = .ok (.iconst 1, 1) := by decide +kernel
theorem dL_limits_545 : decode cL_limits 545 = .ok (.iconst 5, 1) := by decide +kernel
theorem dL_limits_546 : decode cL_limits 546 = .ok (.invokevirtual 53, 3) := by decide +kernel
theorem dL_limits_549 : decode cL_limits 549 = .ok (.iconst (-1), 1) := by decide +kernel
theorem dL_limits_550 : decode cL_limits 550 = .ok (.if_icmp .ne 51, 3) := by decide +kernel
theorem dL_limits_553 : decode cL_limits 553 = .ok (.aload_n 1, 1) := by decide +kernel
theorem dL_limits_554 : decode cL_limits 554 = .ok (.iconst 1, 1) := by decide +kernel
theorem dL_limits_555 : decode cL_limits 555 = .ok (.iconst 3, 1) := by decide +kernel
theorem dL_limits_556 : decode cL_limits 556 = .ok (.iconst 0, 1) := by decide +kernel
theorem dL_limits_557 : decode cL_limits 557 = .ok (.invokevirtual 56, 3) := by decide +kernel
theorem dL_limits_560 : decode cL_limits 560 = .ok (.iconst 4, 1) := by decide +kernel
theorem dL_limits_561 : decode cL_limits 561 = .ok (.if_icmp .ne 40, 3) := by decide +kernel
theorem dL_limits_564 : decode cL_limits 564 = .ok (.aload_n 1, 1) := by decide +kernel
theorem dL_limits_565 : decode cL_limits 565 = .ok (.iconst 1, 1) := by decide +kernel
theorem dL_limits_566 : decode cL_limits 566 = .ok (.iconst 4, 1) := by decide +kernel
theorem dL_limits_567 : decode cL_limits 567 = .ok (.iconst 0, 1) := by decide +kernel
theorem dL_limits_568 : decode cL_limits 568 = .ok (.invokevirtual 56, 3) := by decide +kernel
theorem dL_limits_571 : decode cL_limits 571 = .ok (.iconst (-1), 1) := by decide +kernel
theorem dL_limits_572 : decode cL_limits 572 = .ok (.if_icmp .ne 29, 3) := by decide +kernel
theorem dL_limits_575 : decode cL_limits 575 = .ok (.aload_n 1, 1) := by decide +kernel
theorem dL_limits_576 : decode cL_limits 576 = .ok (.iconst 3, 1) := by decide +kernel
theorem dL_limits_577 : decode cL_limits 577 = .ok (.invokevirtual 60, 3) := by decide +kernel
theorem dL_limits_580 : decode cL_limits 580 = .ok (.bipush 15, 2) := by decide +kernel
theorem dL_limits_582 : decode cL_limits 582 = .ok (.if_icmp .ne 19, 3) := by decide +kernel
theorem dL_limits_585 : decode cL_limits 585 = .ok (.aload_n 1, 1) := by decide +kernel
theorem dL_limits_586 : decode cL_limits 586 = .ok (.iconst 4, 1) := by decide +kernel
theorem dL_limits_587 : decode cL_limits 587 = .ok (.invokevirtual 60, 3) := by decide +kernel
theorem dL_limits_590 : decode cL_limits 590 = .ok (.iconst 5, 1) := by decide +kernel
theorem dL_limits_591 : decode cL_limits 591 = .ok (.if_icmp .ne 10, 3) := by decide +kernel
theorem dL_limits_594 : decode cL_limits 594 = .ok (.aload_n 1, 1) := by decide +kernel
theorem dL_limits_595 : decode cL_limits 595 = .ok (.invokestatic 123, 3) := by decide +kernel
theorem dL_limits_598 : decode cL_limits 598 = .ok (.ifCond .ne 5, 3) := by decide +kernel
theorem dL_limits_601 : decode cL_limits 601 = .ok (.iconst 0, 1) := by decide +kernel
theorem dL_limits_602 : decode cL_limits 602 = .ok (.ireturn, 1) := by decide +kernel
theorem dL_limits_603 : decode cL_limits 603 = .ok (.iconst 0, 1) := by decide +kernel
theorem dL_limits_604 : decode cL_limits 604 = .ok (.istore_n 2, 1) := by decide +kernel
theorem dL_limits_605 : decode cL_limits 605 = .ok (.iload_n 2, 1) := by decide +kernel
theorem dL_limits_606 : decode cL_limits 606 = .ok (.bipush 8, 2) := by decide +kernel
theorem dL_limits_608 : decode cL_limits 608 = .ok (.if_icmp .ge 25, 3) := by decide +kernel
theorem dL_limits_611 : decode cL_limits 611 = .ok (.aload_n 1, 1) := by decide +kernel
theorem dL_limits_612 : decode cL_limits 612 = .ok (.iconst 5, 1) := by decide +kernel
theorem dL_limits_613 : decode cL_limits 613 = .ok (.invokevirtual 29, 3) := by decide +kernel
theorem dL_limits_616 : decode cL_limits 616 = .ok (.bipush 35, 2) := by decide +kernel
theorem dL_limits_618 : decode cL_limits 618 = .ok (.iconst 5, 1) := by decide +kernel
theorem dL_limits_619 : decode cL_limits 619 = .ok (.iload_n 2, 1) := by decide +kernel
theorem dL_limits_620 : decode cL_limits 620 = .ok (.imul, 1) := by decide +kernel
theorem dL_limits_621 : decode cL_limits 621 = .ok (.isub, 1) := by decide +kernel
theorem dL_limits_622 : decode cL_limits 622 = .ok (.if_icmp .eq 5, 3) := by decide +kernel
theorem dL_limits_625 : decode cL_limits 625 = .ok (.iconst 0, 1) := by decide +kernel
theorem dL_limits_626 : decode cL_limits 626 = .ok (.ireturn, 1) := by decide +kernel
theorem dL_limits_627 : decode cL_limits 627 = .ok (.iinc 2 1, 3) := by decide +kernel
theorem dL_limits_630 : decode cL_limits 630 = .ok (.goto (-25), 3) := by decide +kernel
theorem dL_limits_633 : decode cL_limits 633 = .ok (.aload_n 1, 1) := by decide +kernel
theorem dL_limits_634 : decode cL_limits 634 = .ok (.iconst 5, 1) := by decide +kernel
theorem dL_limits_635 : decode cL_limits 635 = .ok (.iconst 1, 1) := by decide +kernel
theorem dL_limits_636 : decode cL_limits 636 = .ok (.iconst 0, 1) := by decide +kernel
theorem dL_limits_637 : decode cL_limits 637 = .ok (.invokestatic 91, 3) := by decide +kernel
theorem dL_limits_640 : decode cL_limits 640 = .ok (.bipush (-13), 2) := by decide +kernel
theorem dL_limits_642 : decode cL_limits 642 = .ok (.if_icmp .ne 41, 3) := by decide +kernel
