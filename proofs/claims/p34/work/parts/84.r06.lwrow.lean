theorem dL_crossings_325 : decode cL_crossings 325 = .ok (.aload_n 0, 1) := by decide +kernel
theorem dL_crossings_326 : decode cL_crossings 326 = .ok (.invokevirtual 23, 3) := by decide +kernel
theorem dL_crossings_329 : decode cL_crossings 329 = .ok (.iconst 1, 1) := by decide +kernel
theorem dL_crossings_330 : decode cL_crossings 330 = .ok (.if_icmp .ne 83, 3) := by decide +kernel
theorem dL_crossings_333 : decode cL_crossings 333 = .ok (.aload_n 0, 1) := by decide +kernel
theorem dL_crossings_334 : decode cL_crossings 334 = .ok (.iconst 5, 1) := by decide +kernel
theorem dL_crossings_335 : decode cL_crossings 335 = .ok (.invokevirtual 60, 3) := by decide +kernel
theorem dL_crossings_338 : decode cL_crossings 338 = .ok (.iconst 1, 1) := by decide +kernel
theorem dL_crossings_339 : decode cL_crossings 339 = .ok (.if_icmp .ne 74, 3) := by decide +kernel
theorem dL_crossings_342 : decode cL_crossings 342 = .ok (.aload_n 0, 1) := by decide +kernel
theorem dL_crossings_343 : decode cL_crossings 343 = .ok (.bipush 6, 2) := by decide +kernel
theorem dL_crossings_345 : decode cL_crossings 345 = .ok (.invokevirtual 60, 3) := by decide +kernel
theorem dL_crossings_348 : decode cL_crossings 348 = .ok (.sipush 160, 3) := by decide +kernel
theorem dL_crossings_351 : decode cL_crossings 351 = .ok (.if_icmp .ne 62, 3) := by decide +kernel
theorem dL_crossings_354 : decode cL_crossings 354 = .ok (.aload_n 0, 1) := by decide +kernel
theorem dL_crossings_355 : decode cL_crossings 355 = .ok (.bipush 8, 2) := by decide +kernel
theorem dL_crossings_357 : decode cL_crossings 357 = .ok (.invokevirtual 60, 3) := by decide +kernel
theorem dL_crossings_360 : decode cL_crossings 360 = .ok (.iconst 3, 1) := by decide +kernel
theorem dL_crossings_361 : decode cL_crossings 361 = .ok (.if_icmp .ne 52, 3) := by decide +kernel
theorem dL_crossings_364 : decode cL_crossings 364 = .ok (.aload_n 0, 1) := by decide +kernel
theorem dL_crossings_365 : decode cL_crossings 365 = .ok (.iconst 0, 1) := by decide +kernel
theorem dL_crossings_366 : decode cL_crossings 366 = .ok (.invokevirtual 60, 3) := by decide +kernel
theorem dL_crossings_369 : decode cL_crossings 369 = .ok (.iconst 3, 1) := by decide +kernel
theorem dL_crossings_370 : decode cL_crossings 370 = .ok (.if_icmp .ne 43, 3) := by decide +kernel
theorem dL_crossings_373 : decode cL_crossings 373 = .ok (.aload_n 0, 1) := by decide +kernel
theorem dL_crossings_374 : decode cL_crossings 374 = .ok (.iconst 0, 1) := by decide +kernel
theorem dL_crossings_375 : decode cL_crossings 375 = .ok (.iconst 2, 1) := by decide +kernel
theorem dL_crossings_376 : decode cL_crossings 376 = .ok (.invokevirtual 50, 3) := by decide +kernel
theorem dL_crossings_379 : decode cL_crossings 379 = .ok (.ifCond .ne 34, 3) := by decide +kernel
theorem dL_crossings_382 : decode cL_crossings 382 = .ok (.aload_n 0, 1) := by decide +kernel
theorem dL_crossings_383 : decode cL_crossings 383 = .ok (.iconst 1, 1) := by decide +kernel
theorem dL_crossings_384 : decode cL_crossings 384 = .ok (.iconst 2, 1) := by decide +kernel
theorem dL_crossings_385 : decode cL_crossings 385 = .ok (.invokevirtual 50, 3) := by decide +kernel
theorem dL_crossings_388 : decode cL_crossings 388 = .ok (.ifCond .ne 25, 3) := by decide +kernel
theorem dL_crossings_391 : decode cL_crossings 391 = .ok (.aload_n 0, 1) := by decide +kernel
theorem dL_crossings_392 : decode cL_crossings 392 = .ok (.iconst 2, 1) := by decide +kernel
theorem dL_crossings_393 : decode cL_crossings 393 = .ok (.iconst 2, 1) := by decide +kernel
theorem dL_crossings_394 : decode cL_crossings 394 = .ok (.invokevirtual 50, 3) := by decide +kernel
theorem dL_crossings_397 : decode cL_crossings 397 = .ok (.iconst 2, 1) := by decide +kernel
theorem dL_crossings_398 : decode cL_crossings 398 = .ok (.if_icmp .ne 15, 3) := by decide +kernel
theorem dL_crossings_401 : decode cL_crossings 401 = .ok (.aload_n 0, 1) := by decide +kernel
theorem dL_crossings_402 : decode cL_crossings 402 = .ok (.bipush 9, 2) := by decide +kernel
theorem dL_crossings_404 : decode cL_crossings 404 = .ok (.iconst 2, 1) := by decide +kernel
theorem dL_crossings_405 : decode cL_crossings 405 = .ok (.invokevirtual 50, 3) := by decide +kernel
theorem dL_crossings_408 : decode cL_crossings 408 = .ok (.bipush 16, 2) := by decide +kernel
theorem dL_crossings_410 : decode cL_crossings 410 = .ok (.if_icmp .eq 5, 3) := by decide +kernel
theorem dL_crossings_413 : decode cL_crossings 413 = .ok (.iconst 0, 1) := by decide +kernel
theorem dL_crossings_414 : decode cL_crossings 414 = .ok (.ireturn, 1) := by decide +kernel
theorem dL_crossings_415 : decode cL_crossings 415 = .ok (.aload_n 0, 1) := by decide +kernel
theorem dL_crossings_416 : decode cL_crossings 416 = .ok (.iconst 2, 1) := by decide +kernel
theorem dL_crossings_417 : decode cL_crossings 417 = .ok (.invokevirtual 29, 3) := by decide +kernel
theorem dL_crossings_420 : decode cL_crossings 420 = .ok (.bipush 38, 2) := by decide +kernel
theorem dL_crossings_422 : decode cL_crossings 422 = .ok (.if_icmp .ne 284, 3) := by decide +kernel
