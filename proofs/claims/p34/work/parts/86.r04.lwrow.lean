theorem dL_texts_427 : decode cL_texts 427 = .ok (.bipush 20, 2) := by decide +kernel
theorem dL_texts_429 : decode cL_texts 429 = .ok (.if_icmp .ne 10, 3) := by decide +kernel
theorem dL_texts_432 : decode cL_texts 432 = .ok (.aload_n 0, 1) := by decide +kernel
theorem dL_texts_433 : decode cL_texts 433 = .ok (.invokevirtual 47, 3) := by decide +kernel
theorem dL_texts_436 : decode cL_texts 436 = .ok (.ifCond .eq 5, 3) := by decide +kernel
theorem dL_texts_439 : decode cL_texts 439 = .ok (.iconst 0, 1) := by decide +kernel
theorem dL_texts_440 : decode cL_texts 440 = .ok (.ireturn, 1) := by decide +kernel
theorem dL_texts_441 : decode cL_texts 441 = .ok (.iconst 0, 1) := by decide +kernel
theorem dL_texts_442 : decode cL_texts 442 = .ok (.istore_n 1, 1) := by decide +kernel
theorem dL_texts_443 : decode cL_texts 443 = .ok (.iload_n 1, 1) := by decide +kernel
theorem dL_texts_444 : decode cL_texts 444 = .ok (.bipush 30, 2) := by decide +kernel
theorem dL_texts_446 : decode cL_texts 446 = .ok (.if_icmp .ge 39, 3) := by decide +kernel
theorem dL_texts_449 : decode cL_texts 449 = .ok (.aload_n 0, 1) := by decide +kernel
theorem dL_texts_450 : decode cL_texts 450 = .ok (.bipush 120, 2) := by decide +kernel
theorem dL_texts_452 : decode cL_texts 452 = .ok (.invokevirtual 38, 3) := by decide +kernel
theorem dL_texts_455 : decode cL_texts 455 = .ok (.iconst 2, 1) := by decide +kernel
theorem dL_texts_456 : decode cL_texts 456 = .ok (.iload_n 1, 1) := by decide +kernel
theorem dL_texts_457 : decode cL_texts 457 = .ok (.imul, 1) := by decide +kernel
theorem dL_texts_458 : decode cL_texts 458 = .ok (.iconst 1, 1) := by decide +kernel
theorem dL_texts_459 : decode cL_texts 459 = .ok (.iadd, 1) := by decide +kernel
theorem dL_texts_460 : decode cL_texts 460 = .ok (.if_icmp .ne 17, 3) := by decide +kernel
theorem dL_texts_463 : decode cL_texts 463 = .ok (.aload_n 0, 1) := by decide +kernel
theorem dL_texts_464 : decode cL_texts 464 = .ok (.bipush 59, 2) := by decide +kernel
theorem dL_texts_466 : decode cL_texts 466 = .ok (.invokevirtual 38, 3) := by decide +kernel
theorem dL_texts_469 : decode cL_texts 469 = .ok (.iconst 2, 1) := by decide +kernel
theorem dL_texts_470 : decode cL_texts 470 = .ok (.iload_n 1, 1) := by decide +kernel
theorem dL_texts_471 : decode cL_texts 471 = .ok (.imul, 1) := by decide +kernel
theorem dL_texts_472 : decode cL_texts 472 = .ok (.iconst 2, 1) := by decide +kernel
theorem dL_texts_473 : decode cL_texts 473 = .ok (.iadd, 1) := by decide +kernel
theorem dL_texts_474 : decode cL_texts 474 = .ok (.if_icmp .eq 5, 3) := by decide +kernel
theorem dL_texts_477 : decode cL_texts 477 = .ok (.iconst 0, 1) := by decide +kernel
theorem dL_texts_478 : decode cL_texts 478 = .ok (.ireturn, 1) := by decide +kernel
theorem dL_texts_479 : decode cL_texts 479 = .ok (.iinc 1 1, 3) := by decide +kernel
theorem dL_texts_482 : decode cL_texts 482 = .ok (.goto (-39), 3) := by decide +kernel
theorem dL_texts_485 : decode cL_texts 485 = .ok (.aload_n 0, 1) := by decide +kernel
theorem dL_texts_486 : decode cL_texts 486 = .ok (.bipush 8, 2) := by decide +kernel
theorem dL_texts_488 : decode cL_texts 488 = .ok (.bipush 120, 2) := by decide +kernel
theorem dL_texts_490 : decode cL_texts 490 = .ok (.iconst 0, 1) := by decide +kernel
theorem dL_texts_491 : decode cL_texts 491 = .ok (.invokestatic 91, 3) := by decide +kernel
theorem dL_texts_494 : decode cL_texts 494 = .ok (.bipush (-13), 2) := by decide +kernel
theorem dL_texts_496 : decode cL_texts 496 = .ok (.if_icmp .ne 56, 3) := by decide +kernel
theorem dL_texts_499 : decode cL_texts 499 = .ok (.aload_n 0, 1) := by decide +kernel
theorem dL_texts_500 : decode cL_texts 500 = .ok (.invokevirtual 142, 3) := by decide +kernel
theorem dL_texts_503 : decode cL_texts 503 = .ok (.bipush 60, 2) := by decide +kernel
theorem dL_texts_505 : decode cL_texts 505 = .ok (.if_icmp .ne 47, 3) := by decide +kernel
theorem dL_texts_508 : decode cL_texts 508 = .ok (.aload_n 0, 1) := by decide +kernel
theorem dL_texts_509 : decode cL_texts 509 = .ok (.bipush 9, 2) := by decide +kernel
theorem dL_texts_511 : decode cL_texts 511 = .ok (.iconst 0, 1) := by decide +kernel
theorem dL_texts_512 : decode cL_texts 512 = .ok (.iconst 0, 1) := by decide +kernel
theorem dL_texts_513 : decode cL_texts 513 = .ok (.invokestatic 91, 3) := by decide +kernel
theorem dL_texts_516 : decode cL_texts 516 = .ok (.bipush (-12), 2) := by decide +kernel
theorem dL_texts_518 : decode cL_texts 518 = .ok (.if_icmp .ne 34, 3) := by decide +kernel
theorem dL_texts_521 : decode cL_texts 521 = .ok (.aload_n 0, 1) := by decide +kernel
theorem dL_texts_522 : decode cL_texts 522 = .ok (.invokevirtual 135, 3) := by decide +kernel
theorem dL_texts_525 : decode cL_texts 525 = .ok (.bipush 60, 2) := by decide +kernel
theorem dL_texts_527 : decode cL_texts 527 = .ok (.if_icmp .ne 25, 3) := by decide +kernel
theorem dL_texts_530 : decode cL_texts 530 = .ok (.aload_n 0, 1) := by decide +kernel
theorem dL_texts_531 : decode cL_texts 531 = .ok (.bipush 8, 2) := by decide +kernel
theorem dL_texts_533 : decode cL_texts 533 = .ok (.invokevirtual 60, 3) := by decide +kernel
theorem dL_texts_536 : decode cL_texts 536 = .ok (.ifCond .ne 16, 3) := by decide +kernel
theorem dL_texts_539 : decode cL_texts 539 = .ok (.aload_n 0, 1) := by decide +kernel
theorem dL_texts_540 : decode cL_texts 540 = .ok (.bipush 13, 2) := by decide +kernel
theorem dL_texts_542 : decode cL_texts 542 = .ok (.invokevirtual 60, 3) := by decide +kernel
theorem dL_texts_545 : decode cL_texts 545 = .ok (.ifCond .ne 7, 3) := by decide +kernel
theorem dL_texts_548 : decode cL_texts 548 = .ok (.iconst 1, 1) := by decide +kernel
theorem dL_texts_549 : decode cL_texts 549 = .ok (.goto 4, 3) := by decide +kernel
theorem dL_texts_552 : decode cL_texts 552 = .ok (.iconst 0, 1) := by decide +kernel
theorem dL_texts_553 : decode cL_texts 553 = .ok (.ireturn, 1) := by decide +kernel
