theorem dL_limits_281 : decode cL_limits 281 = .ok (.bipush 9, 2) := by decide +kernel
theorem dL_limits_283 : decode cL_limits 283 = .ok (.iconst 2, 1) := by decide +kernel
theorem dL_limits_284 : decode cL_limits 284 = .ok (.invokevirtual 50, 3) := by decide +kernel
theorem dL_limits_287 : decode cL_limits 287 = .ok (.bipush 16, 2) := by decide +kernel
theorem dL_limits_289 : decode cL_limits 289 = .ok (.if_icmp .ne 75, 3) := by decide +kernel
theorem dL_limits_292 : decode cL_limits 292 = .ok (.aload_n 0, 1) := by decide +kernel
theorem dL_limits_293 : decode cL_limits 293 = .ok (.invokevirtual 23, 3) := by decide +kernel
theorem dL_limits_296 : decode cL_limits 296 = .ok (.iconst 1, 1) := by decide +kernel
theorem dL_limits_297 : decode cL_limits 297 = .ok (.if_icmp .ne 67, 3) := by decide +kernel
theorem dL_limits_300 : decode cL_limits 300 = .ok (.aload_n 0, 1) := by decide +kernel
theorem dL_limits_301 : decode cL_limits 301 = .ok (.bipush 9, 2) := by decide +kernel
theorem dL_limits_303 : decode cL_limits 303 = .ok (.iconst 0, 1) := by decide +kernel
theorem dL_limits_304 : decode cL_limits 304 = .ok (.invokevirtual 50, 3) := by decide +kernel
theorem dL_limits_307 : decode cL_limits 307 = .ok (.bipush 76, 2) := by decide +kernel
theorem dL_limits_309 : decode cL_limits 309 = .ok (.if_icmp .ne 55, 3) := by decide +kernel
theorem dL_limits_312 : decode cL_limits 312 = .ok (.aload_n 0, 1) := by decide +kernel
theorem dL_limits_313 : decode cL_limits 313 = .ok (.bipush 9, 2) := by decide +kernel
theorem dL_limits_315 : decode cL_limits 315 = .ok (.iconst 1, 1) := by decide +kernel
theorem dL_limits_316 : decode cL_limits 316 = .ok (.invokevirtual 50, 3) := by decide +kernel
theorem dL_limits_319 : decode cL_limits 319 = .ok (.bipush 12, 2) := by decide +kernel
theorem dL_limits_321 : decode cL_limits 321 = .ok (.if_icmp .ne 43, 3) := by decide +kernel
theorem dL_limits_324 : decode cL_limits 324 = .ok (.aload_n 0, 1) := by decide +kernel
theorem dL_limits_325 : decode cL_limits 325 = .ok (.bipush 6, 2) := by decide +kernel
theorem dL_limits_327 : decode cL_limits 327 = .ok (.invokevirtual 60, 3) := by decide +kernel
theorem dL_limits_330 : decode cL_limits 330 = .ok (.sipush 304, 3) := by decide +kernel
theorem dL_limits_333 : decode cL_limits 333 = .ok (.if_icmp .ne 31, 3) := by decide +kernel
theorem dL_limits_336 : decode cL_limits 336 = .ok (.aload_n 0, 1) := by decide +kernel
theorem dL_limits_337 : decode cL_limits 337 = .ok (.bipush 9, 2) := by decide +kernel
theorem dL_limits_339 : decode cL_limits 339 = .ok (.iconst 2, 1) := by decide +kernel
theorem dL_limits_340 : decode cL_limits 340 = .ok (.invokevirtual 50, 3) := by decide +kernel
theorem dL_limits_343 : decode cL_limits 343 = .ok (.bipush 16, 2) := by decide +kernel
theorem dL_limits_345 : decode cL_limits 345 = .ok (.if_icmp .ne 19, 3) := by decide +kernel
theorem dL_limits_348 : decode cL_limits 348 = .ok (.aload_n 0, 1) := by decide +kernel
theorem dL_limits_349 : decode cL_limits 349 = .ok (.invokevirtual 106, 3) := by decide +kernel
theorem dL_limits_352 : decode cL_limits 352 = .ok (.iconst 3, 1) := by decide +kernel
theorem dL_limits_353 : decode cL_limits 353 = .ok (.if_icmp .ne 11, 3) := by decide +kernel
theorem dL_limits_356 : decode cL_limits 356 = .ok (.aload_n 0, 1) := by decide +kernel
theorem dL_limits_357 : decode cL_limits 357 = .ok (.invokevirtual 88, 3) := by decide +kernel
theorem dL_limits_360 : decode cL_limits 360 = .ok (.iconst 5, 1) := by decide +kernel
theorem dL_limits_361 : decode cL_limits 361 = .ok (.if_icmp .eq 5, 3) := by decide +kernel
theorem dL_limits_364 : decode cL_limits 364 = .ok (.iconst 0, 1) := by decide +kernel
theorem dL_limits_365 : decode cL_limits 365 = .ok (.ireturn, 1) := by decide +kernel
theorem dL_limits_366 : decode cL_limits 366 = .ok (.new 10, 3) := by decide +kernel
theorem dL_limits_369 : decode cL_limits 369 = .ok (.dup, 1) := by decide +kernel
theorem dL_limits_370 : decode cL_limits 370 = .ok (.invokespecial 105, 3) := by decide +kernel
theorem dL_limits_373 : decode cL_limits 373 = .ok (.astore_n 1, 1) := by decide +kernel
theorem dL_limits_374 : decode cL_limits 374 = .ok (.iconst 0, 1) := by decide +kernel
theorem dL_limits_375 : decode cL_limits 375 = .ok (.istore_n 2, 1) := by decide +kernel
theorem dL_limits_376 : decode cL_limits 376 = .ok (.iload_n 2, 1) := by decide +kernel
theorem dL_limits_377 : decode cL_limits 377 = .ok (.bipush 10, 2) := by decide +kernel
theorem dL_limits_379 : decode cL_limits 379 = .ok (.if_icmp .ge 25, 3) := by decide +kernel
theorem dL_limits_382 : decode cL_limits 382 = .ok (.aload_n 1, 1) := by decide +kernel
theorem dL_limits_383 : decode cL_limits 383 = .ok (.iconst 1, 1) := by decide +kernel
theorem dL_limits_384 : decode cL_limits 384 = .ok (.iconst 1, 1) := by decide +kernel
theorem dL_limits_385 : decode cL_limits 385 = .ok (.iload_n 2, 1) := by decide +kernel
theorem dL_limits_386 : decode cL_limits 386 = .ok (.iadd, 1) := by decide +kernel
theorem dL_limits_387 : decode cL_limits 387 = .ok (.invokevirtual 9, 3) := by decide +kernel
theorem dL_limits_390 : decode cL_limits 390 = .ok (.iload_n 2, 1) := by decide +kernel
theorem dL_limits_391 : decode cL_limits 391 = .ok (.iconst 1, 1) := by decide +kernel
theorem dL_limits_392 : decode cL_limits 392 = .ok (.iadd, 1) := by decide +kernel
theorem dL_limits_393 : decode cL_limits 393 = .ok (.if_icmp .eq 5, 3) := by decide +kernel
theorem dL_limits_396 : decode cL_limits 396 = .ok (.iconst 0, 1) := by decide +kernel
theorem dL_limits_397 : decode cL_limits 397 = .ok (.ireturn, 1) := by decide +kernel
theorem dL_limits_398 : decode cL_limits 398 = .ok (.iinc 2 1, 3) := by decide +kernel
theorem dL_limits_401 : decode cL_limits 401 = .ok (.goto (-25), 3) := by decide +kernel
theorem dL_limits_404 : decode cL_limits 404 = .ok (.aload_n 1, 1) := by decide +kernel
theorem dL_limits_405 : decode cL_limits 405 = .ok (.iconst 0, 1) := by decide +kernel
theorem dL_limits_406 : decode cL_limits 406 = .ok (.iconst 1, 1) := by decide +kernel
