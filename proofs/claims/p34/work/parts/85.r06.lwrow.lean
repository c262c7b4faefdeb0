theorem dL_limits_407 : decode cL_limits 407 = .ok (.iconst 1, 1) := by decide +kernel
theorem dL_limits_408 : decode cL_limits 408 = .ok (.invokestatic 91, 3) := by decide +kernel
theorem dL_limits_411 : decode cL_limits 411 = .ok (.bipush (-13), 2) := by decide +kernel
theorem dL_limits_413 : decode cL_limits 413 = .ok (.if_icmp .ne 23, 3) := by decide +kernel
theorem dL_limits_416 : decode cL_limits 416 = .ok (.aload_n 1, 1) := by decide +kernel
theorem dL_limits_417 : decode cL_limits 417 = .ok (.iconst 1, 1) := by decide +kernel
theorem dL_limits_418 : decode cL_limits 418 = .ok (.iconst 0, 1) := by decide +kernel
theorem dL_limits_419 : decode cL_limits 419 = .ok (.iconst 0, 1) := by decide +kernel
theorem dL_limits_420 : decode cL_limits 420 = .ok (.invokestatic 91, 3) := by decide +kernel
theorem dL_limits_423 : decode cL_limits 423 = .ok (.bipush (-13), 2) := by decide +kernel
theorem dL_limits_425 : decode cL_limits 425 = .ok (.if_icmp .ne 11, 3) := by decide +kernel
theorem dL_limits_428 : decode cL_limits 428 = .ok (.aload_n 1, 1) := by decide +kernel
theorem dL_limits_429 : decode cL_limits 429 = .ok (.invokevirtual 23, 3) := by decide +kernel
theorem dL_limits_432 : decode cL_limits 432 = .ok (.iconst 1, 1) := by decide +kernel
theorem dL_limits_433 : decode cL_limits 433 = .ok (.if_icmp .eq 5, 3) := by decide +kernel
theorem dL_limits_436 : decode cL_limits 436 = .ok (.iconst 0, 1) := by decide +kernel
theorem dL_limits_437 : decode cL_limits 437 = .ok (.ireturn, 1) := by decide +kernel
theorem dL_limits_438 : decode cL_limits 438 = .ok (.iconst 0, 1) := by decide +kernel
theorem dL_limits_439 : decode cL_limits 439 = .ok (.istore_n 2, 1) := by decide +kernel
theorem dL_limits_440 : decode cL_limits 440 = .ok (.iload_n 2, 1) := by decide +kernel
theorem dL_limits_441 : decode cL_limits 441 = .ok (.iconst 4, 1) := by decide +kernel
theorem dL_limits_442 : decode cL_limits 442 = .ok (.if_icmp .ge 22, 3) := by decide +kernel
theorem dL_limits_445 : decode cL_limits 445 = .ok (.aload_n 1, 1) := by decide +kernel
theorem dL_limits_446 : decode cL_limits 446 = .ok (.iconst 1, 1) := by decide +kernel
theorem dL_limits_447 : decode cL_limits 447 = .ok (.invokevirtual 15, 3) := by decide +kernel
theorem dL_limits_450 : decode cL_limits 450 = .ok (.iload_n 2, 1) := by decide +kernel
theorem dL_limits_451 : decode cL_limits 451 = .ok (.iconst 1, 1) := by decide +kernel
theorem dL_limits_452 : decode cL_limits 452 = .ok (.iadd, 1) := by decide +kernel
theorem dL_limits_453 : decode cL_limits 453 = .ok (.if_icmp .eq 5, 3) := by decide +kernel
theorem dL_limits_456 : decode cL_limits 456 = .ok (.iconst 0, 1) := by decide +kernel
theorem dL_limits_457 : decode cL_limits 457 = .ok (.ireturn, 1) := by decide +kernel
theorem dL_limits_458 : decode cL_limits 458 = .ok (.iinc 2 1, 3) := by decide +kernel
theorem dL_limits_461 : decode cL_limits 461 = .ok (.goto (-21), 3) := by decide +kernel
theorem dL_limits_464 : decode cL_limits 464 = .ok (.aload_n 1, 1) := by decide +kernel
theorem dL_limits_465 : decode cL_limits 465 = .ok (.iconst 1, 1) := by decide +kernel
theorem dL_limits_466 : decode cL_limits 466 = .ok (.iconst 1, 1) := by decide +kernel
theorem dL_limits_467 : decode cL_limits 467 = .ok (.iconst 0, 1) := by decide +kernel
theorem dL_limits_468 : decode cL_limits 468 = .ok (.invokestatic 91, 3) := by decide +kernel
theorem dL_limits_471 : decode cL_limits 471 = .ok (.bipush (-13), 2) := by decide +kernel
theorem dL_limits_473 : decode cL_limits 473 = .ok (.if_icmp .ne 128, 3) := by decide +kernel
theorem dL_limits_476 : decode cL_limits 476 = .ok (.aload_n 1, 1) := by decide +kernel
theorem dL_limits_477 : decode cL_limits 477 = .ok (.iconst 1, 1) := by decide +kernel
theorem dL_limits_478 : decode cL_limits 478 = .ok (.invokevirtual 69, 3) := by decide +kernel
theorem dL_limits_481 : decode cL_limits 481 = .ok (.iconst (-1), 1) := by decide +kernel
theorem dL_limits_482 : decode cL_limits 482 = .ok (.if_icmp .ne 119, 3) := by decide +kernel
theorem dL_limits_485 : decode cL_limits 485 = .ok (.aload_n 1, 1) := by decide +kernel
theorem dL_limits_486 : decode cL_limits 486 = .ok (.iconst 4, 1) := by decide +kernel
theorem dL_limits_487 : decode cL_limits 487 = .ok (.invokevirtual 72, 3) := by decide +kernel
theorem dL_limits_490 : decode cL_limits 490 = .ok (.bipush 16, 2) := by decide +kernel
theorem dL_limits_492 : decode cL_limits 492 = .ok (.if_icmp .ne 109, 3) := by decide +kernel
theorem dL_limits_495 : decode cL_limits 495 = .ok (.aload_n 1, 1) := by decide +kernel
theorem dL_limits_496 : decode cL_limits 496 = .ok (.iconst 5, 1) := by decide +kernel
theorem dL_limits_497 : decode cL_limits 497 = .ok (.invokevirtual 72, 3) := by decide +kernel
theorem dL_limits_500 : decode cL_limits 500 = .ok (.iconst (-1), 1) := by decide +kernel
theorem dL_limits_501 : decode cL_limits 501 = .ok (.if_icmp .ne 100, 3) := by decide +kernel
theorem dL_limits_504 : decode cL_limits 504 = .ok (.aload_n 1, 1) := by decide +kernel
theorem dL_limits_505 : decode cL_limits 505 = .ok (.iconst 0, 1) := by decide +kernel
theorem dL_limits_506 : decode cL_limits 506 = .ok (.invokevirtual 15, 3) := by decide +kernel
theorem dL_limits_509 : decode cL_limits 509 = .ok (.iconst 5, 1) := by decide +kernel
theorem dL_limits_510 : decode cL_limits 510 = .ok (.if_icmp .ne 91, 3) := by decide +kernel
theorem dL_limits_513 : decode cL_limits 513 = .ok (.aload_n 1, 1) := by decide +kernel
theorem dL_limits_514 : decode cL_limits 514 = .ok (.iconst 3, 1) := by decide +kernel
theorem dL_limits_515 : decode cL_limits 515 = .ok (.invokevirtual 72, 3) := by decide +kernel
theorem dL_limits_518 : decode cL_limits 518 = .ok (.bipush 16, 2) := by decide +kernel
theorem dL_limits_520 : decode cL_limits 520 = .ok (.if_icmp .ne 81, 3) := by decide +kernel
theorem dL_limits_523 : decode cL_limits 523 = .ok (.aload_n 1, 1) := by decide +kernel
theorem dL_limits_524 : decode cL_limits 524 = .ok (.iconst 4, 1) := by decide +kernel
theorem dL_limits_525 : decode cL_limits 525 = .ok (.invokevirtual 72, 3) := by decide +kernel
