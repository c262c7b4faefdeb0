theorem dL_texts_255 : decode cL_texts 255 = .ok (.invokestatic 138, 3) := by decide +kernel
theorem dL_texts_258 : decode cL_texts 258 = .ok (.ifCond .eq 181, 3) := by decide +kernel
theorem dL_texts_261 : decode cL_texts 261 = .ok (.aload_n 0, 1) := by decide +kernel
theorem dL_texts_262 : decode cL_texts 262 = .ok (.bipush 9, 2) := by decide +kernel
theorem dL_texts_264 : decode cL_texts 264 = .ok (.iconst 0, 1) := by decide +kernel
theorem dL_texts_265 : decode cL_texts 265 = .ok (.iconst 0, 1) := by decide +kernel
theorem dL_texts_266 : decode cL_texts 266 = .ok (.invokestatic 91, 3) := by decide +kernel
theorem dL_texts_269 : decode cL_texts 269 = .ok (.bipush (-12), 2) := by decide +kernel
theorem dL_texts_271 : decode cL_texts 271 = .ok (.if_icmp .ne 168, 3) := by decide +kernel
theorem dL_texts_274 : decode cL_texts 274 = .ok (.aload_n 0, 1) := by decide +kernel
theorem dL_texts_275 : decode cL_texts 275 = .ok (.ldc2_w 185, 3) := by decide +kernel
theorem dL_texts_278 : decode cL_texts 278 = .ok (.invokestatic 138, 3) := by decide +kernel
theorem dL_texts_281 : decode cL_texts 281 = .ok (.ifCond .eq 158, 3) := by decide +kernel
theorem dL_texts_284 : decode cL_texts 284 = .ok (.aload_n 0, 1) := by decide +kernel
theorem dL_texts_285 : decode cL_texts 285 = .ok (.invokevirtual 142, 3) := by decide +kernel
theorem dL_texts_288 : decode cL_texts 288 = .ok (.bipush 13, 2) := by decide +kernel
theorem dL_texts_290 : decode cL_texts 290 = .ok (.if_icmp .ne 149, 3) := by decide +kernel
theorem dL_texts_293 : decode cL_texts 293 = .ok (.aload_n 0, 1) := by decide +kernel
theorem dL_texts_294 : decode cL_texts 294 = .ok (.invokevirtual 41, 3) := by decide +kernel
theorem dL_texts_297 : decode cL_texts 297 = .ok (.iconst 2, 1) := by decide +kernel
theorem dL_texts_298 : decode cL_texts 298 = .ok (.if_icmp .ne 141, 3) := by decide +kernel
theorem dL_texts_301 : decode cL_texts 301 = .ok (.aload_n 0, 1) := by decide +kernel
theorem dL_texts_302 : decode cL_texts 302 = .ok (.invokevirtual 135, 3) := by decide +kernel
theorem dL_texts_305 : decode cL_texts 305 = .ok (.ifCond .ne 134, 3) := by decide +kernel
theorem dL_texts_308 : decode cL_texts 308 = .ok (.aload_n 0, 1) := by decide +kernel
theorem dL_texts_309 : decode cL_texts 309 = .ok (.iconst 3, 1) := by decide +kernel
theorem dL_texts_310 : decode cL_texts 310 = .ok (.invokevirtual 60, 3) := by decide +kernel
theorem dL_texts_313 : decode cL_texts 313 = .ok (.bipush 20, 2) := by decide +kernel
theorem dL_texts_315 : decode cL_texts 315 = .ok (.if_icmp .ne 124, 3) := by decide +kernel
theorem dL_texts_318 : decode cL_texts 318 = .ok (.aload_n 0, 1) := by decide +kernel
theorem dL_texts_319 : decode cL_texts 319 = .ok (.iconst 1, 1) := by decide +kernel
theorem dL_texts_320 : decode cL_texts 320 = .ok (.invokevirtual 60, 3) := by decide +kernel
theorem dL_texts_323 : decode cL_texts 323 = .ok (.ifCond .ne 116, 3) := by decide +kernel
theorem dL_texts_326 : decode cL_texts 326 = .ok (.aload_n 0, 1) := by decide +kernel
theorem dL_texts_327 : decode cL_texts 327 = .ok (.bipush 13, 2) := by decide +kernel
theorem dL_texts_329 : decode cL_texts 329 = .ok (.invokevirtual 60, 3) := by decide +kernel
theorem dL_texts_332 : decode cL_texts 332 = .ok (.iconst 1, 1) := by decide +kernel
theorem dL_texts_333 : decode cL_texts 333 = .ok (.if_icmp .ne 106, 3) := by decide +kernel
theorem dL_texts_336 : decode cL_texts 336 = .ok (.aload_n 0, 1) := by decide +kernel
theorem dL_texts_337 : decode cL_texts 337 = .ok (.ldc2_w 187, 3) := by decide +kernel
theorem dL_texts_340 : decode cL_texts 340 = .ok (.invokestatic 138, 3) := by decide +kernel
theorem dL_texts_343 : decode cL_texts 343 = .ok (.ifCond .eq 96, 3) := by decide +kernel
theorem dL_texts_346 : decode cL_texts 346 = .ok (.aload_n 0, 1) := by decide +kernel
theorem dL_texts_347 : decode cL_texts 347 = .ok (.ldc2_w 189, 3) := by decide +kernel
theorem dL_texts_350 : decode cL_texts 350 = .ok (.invokestatic 138, 3) := by decide +kernel
theorem dL_texts_353 : decode cL_texts 353 = .ok (.ifCond .eq 86, 3) := by decide +kernel
theorem dL_texts_356 : decode cL_texts 356 = .ok (.aload_n 0, 1) := by decide +kernel
theorem dL_texts_357 : decode cL_texts 357 = .ok (.invokevirtual 41, 3) := by decide +kernel
theorem dL_texts_360 : decode cL_texts 360 = .ok (.iconst 5, 1) := by decide +kernel
theorem dL_texts_361 : decode cL_texts 361 = .ok (.if_icmp .ne 78, 3) := by decide +kernel
theorem dL_texts_364 : decode cL_texts 364 = .ok (.aload_n 0, 1) := by decide +kernel
theorem dL_texts_365 : decode cL_texts 365 = .ok (.iconst 0, 1) := by decide +kernel
theorem dL_texts_366 : decode cL_texts 366 = .ok (.invokevirtual 60, 3) := by decide +kernel
theorem dL_texts_369 : decode cL_texts 369 = .ok (.bipush 30, 2) := by decide +kernel
theorem dL_texts_371 : decode cL_texts 371 = .ok (.if_icmp .ne 68, 3) := by decide +kernel
theorem dL_texts_374 : decode cL_texts 374 = .ok (.aload_n 0, 1) := by decide +kernel
theorem dL_texts_375 : decode cL_texts 375 = .ok (.iconst 1, 1) := by decide +kernel
theorem dL_texts_376 : decode cL_texts 376 = .ok (.invokevirtual 60, 3) := by decide +kernel
theorem dL_texts_379 : decode cL_texts 379 = .ok (.iconst 1, 1) := by decide +kernel
theorem dL_texts_380 : decode cL_texts 380 = .ok (.if_icmp .ne 59, 3) := by decide +kernel
theorem dL_texts_383 : decode cL_texts 383 = .ok (.aload_n 0, 1) := by decide +kernel
theorem dL_texts_384 : decode cL_texts 384 = .ok (.bipush 7, 2) := by decide +kernel
theorem dL_texts_386 : decode cL_texts 386 = .ok (.invokevirtual 60, 3) := by decide +kernel
theorem dL_texts_389 : decode cL_texts 389 = .ok (.bipush 35, 2) := by decide +kernel
theorem dL_texts_391 : decode cL_texts 391 = .ok (.if_icmp .ne 48, 3) := by decide +kernel
theorem dL_texts_394 : decode cL_texts 394 = .ok (.aload_n 0, 1) := by decide +kernel
theorem dL_texts_395 : decode cL_texts 395 = .ok (.iconst 1, 1) := by decide +kernel
theorem dL_texts_396 : decode cL_texts 396 = .ok (.iconst 0, 1) := by decide +kernel
theorem dL_texts_397 : decode cL_texts 397 = .ok (.invokevirtual 53, 3) := by decide +kernel
theorem dL_texts_400 : decode cL_texts 400 = .ok (.iconst 3, 1) := by decide +kernel
theorem dL_texts_401 : decode cL_texts 401 = .ok (.if_icmp .ne 38, 3) := by decide +kernel
theorem dL_texts_404 : decode cL_texts 404 = .ok (.aload_n 0, 1) := by decide +kernel
theorem dL_texts_405 : decode cL_texts 405 = .ok (.bipush 11, 2) := by decide +kernel
theorem dL_texts_407 : decode cL_texts 407 = .ok (.invokevirtual 60, 3) := by decide +kernel
theorem dL_texts_410 : decode cL_texts 410 = .ok (.iconst 1, 1) := by decide +kernel
theorem dL_texts_411 : decode cL_texts 411 = .ok (.if_icmp .ne 28, 3) := by decide +kernel
theorem dL_texts_414 : decode cL_texts 414 = .ok (.aload_n 0, 1) := by decide +kernel
theorem dL_texts_415 : decode cL_texts 415 = .ok (.invokevirtual 47, 3) := by decide +kernel
theorem dL_texts_418 : decode cL_texts 418 = .ok (.iconst 1, 1) := by decide +kernel
theorem dL_texts_419 : decode cL_texts 419 = .ok (.if_icmp .ne 20, 3) := by decide +kernel
theorem dL_texts_422 : decode cL_texts 422 = .ok (.aload_n 0, 1) := by decide +kernel
theorem dL_texts_423 : decode cL_texts 423 = .ok (.iconst 3, 1) := by decide +kernel
theorem dL_texts_424 : decode cL_texts 424 = .ok (.invokevirtual 60, 3) := by decide +kernel
