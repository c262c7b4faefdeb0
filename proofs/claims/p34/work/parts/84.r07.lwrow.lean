theorem dL_crossings_425 : decode cL_crossings 425 = .ok (.aload_n 0, 1) := by decide +kernel
theorem dL_crossings_426 : decode cL_crossings 426 = .ok (.iconst 0, 1) := by decide +kernel
theorem dL_crossings_427 : decode cL_crossings 427 = .ok (.invokevirtual 60, 3) := by decide +kernel
theorem dL_crossings_430 : decode cL_crossings 430 = .ok (.iconst 5, 1) := by decide +kernel
theorem dL_crossings_431 : decode cL_crossings 431 = .ok (.if_icmp .ne 275, 3) := by decide +kernel
theorem dL_crossings_434 : decode cL_crossings 434 = .ok (.aload_n 0, 1) := by decide +kernel
theorem dL_crossings_435 : decode cL_crossings 435 = .ok (.iconst 5, 1) := by decide +kernel
theorem dL_crossings_436 : decode cL_crossings 436 = .ok (.invokevirtual 60, 3) := by decide +kernel
theorem dL_crossings_439 : decode cL_crossings 439 = .ok (.ifCond .ne 267, 3) := by decide +kernel
theorem dL_crossings_442 : decode cL_crossings 442 = .ok (.aload_n 0, 1) := by decide +kernel
theorem dL_crossings_443 : decode cL_crossings 443 = .ok (.iconst 2, 1) := by decide +kernel
theorem dL_crossings_444 : decode cL_crossings 444 = .ok (.iconst 0, 1) := by decide +kernel
theorem dL_crossings_445 : decode cL_crossings 445 = .ok (.invokevirtual 50, 3) := by decide +kernel
theorem dL_crossings_448 : decode cL_crossings 448 = .ok (.iconst 3, 1) := by decide +kernel
theorem dL_crossings_449 : decode cL_crossings 449 = .ok (.if_icmp .ne 257, 3) := by decide +kernel
theorem dL_crossings_452 : decode cL_crossings 452 = .ok (.aload_n 0, 1) := by decide +kernel
theorem dL_crossings_453 : decode cL_crossings 453 = .ok (.bipush 7, 2) := by decide +kernel
theorem dL_crossings_455 : decode cL_crossings 455 = .ok (.iconst 0, 1) := by decide +kernel
theorem dL_crossings_456 : decode cL_crossings 456 = .ok (.invokevirtual 50, 3) := by decide +kernel
theorem dL_crossings_459 : decode cL_crossings 459 = .ok (.bipush 6, 2) := by decide +kernel
theorem dL_crossings_461 : decode cL_crossings 461 = .ok (.if_icmp .ne 245, 3) := by decide +kernel
theorem dL_crossings_464 : decode cL_crossings 464 = .ok (.aload_n 0, 1) := by decide +kernel
theorem dL_crossings_465 : decode cL_crossings 465 = .ok (.bipush 19, 2) := by decide +kernel
theorem dL_crossings_467 : decode cL_crossings 467 = .ok (.iconst 0, 1) := by decide +kernel
theorem dL_crossings_468 : decode cL_crossings 468 = .ok (.invokevirtual 50, 3) := by decide +kernel
theorem dL_crossings_471 : decode cL_crossings 471 = .ok (.ifCond .ne 235, 3) := by decide +kernel
theorem dL_crossings_474 : decode cL_crossings 474 = .ok (.aload_n 0, 1) := by decide +kernel
theorem dL_crossings_475 : decode cL_crossings 475 = .ok (.invokevirtual 23, 3) := by decide +kernel
theorem dL_crossings_478 : decode cL_crossings 478 = .ok (.iconst 1, 1) := by decide +kernel
theorem dL_crossings_479 : decode cL_crossings 479 = .ok (.if_icmp .ne 227, 3) := by decide +kernel
theorem dL_crossings_482 : decode cL_crossings 482 = .ok (.aload_n 0, 1) := by decide +kernel
theorem dL_crossings_483 : decode cL_crossings 483 = .ok (.iconst 1, 1) := by decide +kernel
theorem dL_crossings_484 : decode cL_crossings 484 = .ok (.invokevirtual 60, 3) := by decide +kernel
theorem dL_crossings_487 : decode cL_crossings 487 = .ok (.ifCond .ne 219, 3) := by decide +kernel
theorem dL_crossings_490 : decode cL_crossings 490 = .ok (.aload_n 0, 1) := by decide +kernel
theorem dL_crossings_491 : decode cL_crossings 491 = .ok (.iconst 0, 1) := by decide +kernel
theorem dL_crossings_492 : decode cL_crossings 492 = .ok (.bipush 10, 2) := by decide +kernel
theorem dL_crossings_494 : decode cL_crossings 494 = .ok (.invokevirtual 9, 3) := by decide +kernel
theorem dL_crossings_497 : decode cL_crossings 497 = .ok (.iconst 1, 1) := by decide +kernel
theorem dL_crossings_498 : decode cL_crossings 498 = .ok (.if_icmp .ne 208, 3) := by decide +kernel
theorem dL_crossings_501 : decode cL_crossings 501 = .ok (.aload_n 0, 1) := by decide +kernel
theorem dL_crossings_502 : decode cL_crossings 502 = .ok (.iconst 0, 1) := by decide +kernel
theorem dL_crossings_503 : decode cL_crossings 503 = .ok (.bipush 7, 2) := by decide +kernel
theorem dL_crossings_505 : decode cL_crossings 505 = .ok (.invokevirtual 9, 3) := by decide +kernel
theorem dL_crossings_508 : decode cL_crossings 508 = .ok (.iconst 2, 1) := by decide +kernel
theorem dL_crossings_509 : decode cL_crossings 509 = .ok (.if_icmp .ne 197, 3) := by decide +kernel
theorem dL_crossings_512 : decode cL_crossings 512 = .ok (.aload_n 0, 1) := by decide +kernel
theorem dL_crossings_513 : decode cL_crossings 513 = .ok (.iconst 1, 1) := by decide +kernel
theorem dL_crossings_514 : decode cL_crossings 514 = .ok (.iconst 5, 1) := by decide +kernel
theorem dL_crossings_515 : decode cL_crossings 515 = .ok (.invokevirtual 9, 3) := by decide +kernel
theorem dL_crossings_518 : decode cL_crossings 518 = .ok (.iconst 1, 1) := by decide +kernel
theorem dL_crossings_519 : decode cL_crossings 519 = .ok (.if_icmp .ne 187, 3) := by decide +kernel
theorem dL_crossings_522 : decode cL_crossings 522 = .ok (.aload_n 0, 1) := by decide +kernel
