theorem dL_refusesAny_238 : decode cL_refusesAny 238 = .ok (.ifCond .ne 8, 3) := by decide +kernel
theorem dL_refusesAny_241 : decode cL_refusesAny 241 = .ok (.bipush 32, 2) := by decide +kernel
theorem dL_refusesAny_243 : decode cL_refusesAny 243 = .ok (.goto 5, 3) := by decide +kernel
theorem dL_refusesAny_246 : decode cL_refusesAny 246 = .ok (.bipush 127, 2) := by decide +kernel
theorem dL_refusesAny_248 : decode cL_refusesAny 248 = .ok (.iconst 0, 1) := by decide +kernel
theorem dL_refusesAny_249 : decode cL_refusesAny 249 = .ok (.invokestatic 91, 3) := by decide +kernel
theorem dL_refusesAny_252 : decode cL_refusesAny 252 = .ok (.bipush (-12), 2) := by decide +kernel
theorem dL_refusesAny_254 : decode cL_refusesAny 254 = .ok (.if_icmp .ne 16, 3) := by decide +kernel
theorem dL_refusesAny_257 : decode cL_refusesAny 257 = .ok (.aload_n 0, 1) := by decide +kernel
theorem dL_refusesAny_258 : decode cL_refusesAny 258 = .ok (.bipush 9, 2) := by decide +kernel
theorem dL_refusesAny_260 : decode cL_refusesAny 260 = .ok (.iconst 0, 1) := by decide +kernel
theorem dL_refusesAny_261 : decode cL_refusesAny 261 = .ok (.iconst 0, 1) := by decide +kernel
theorem dL_refusesAny_262 : decode cL_refusesAny 262 = .ok (.invokestatic 91, 3) := by decide +kernel
theorem dL_refusesAny_265 : decode cL_refusesAny 265 = .ok (.bipush (-12), 2) := by decide +kernel
theorem dL_refusesAny_267 : decode cL_refusesAny 267 = .ok (.if_icmp .eq 5, 3) := by decide +kernel
theorem dL_refusesAny_270 : decode cL_refusesAny 270 = .ok (.iconst 0, 1) := by decide +kernel
theorem dL_refusesAny_271 : decode cL_refusesAny 271 = .ok (.ireturn, 1) := by decide +kernel
theorem dL_refusesAny_272 : decode cL_refusesAny 272 = .ok (.aload_n 0, 1) := by decide +kernel
theorem dL_refusesAny_273 : decode cL_refusesAny 273 = .ok (.bipush 12, 2) := by decide +kernel
theorem dL_refusesAny_275 : decode cL_refusesAny 275 = .ok (.iload_n 1, 1) := by decide +kernel
theorem dL_refusesAny_276 : decode cL_refusesAny 276 = .ok (.ifCond .ne 7, 3) := by decide +kernel
theorem dL_refusesAny_279 : decode cL_refusesAny 279 = .ok (.iconst (-1), 1) := by decide +kernel
theorem dL_refusesAny_280 : decode cL_refusesAny 280 = .ok (.goto 5, 3) := by decide +kernel
theorem dL_refusesAny_283 : decode cL_refusesAny 283 = .ok (.bipush 20, 2) := by decide +kernel
theorem dL_refusesAny_285 : decode cL_refusesAny 285 = .ok (.bipush 9, 2) := by decide +kernel
theorem dL_refusesAny_287 : decode cL_refusesAny 287 = .ok (.invokestatic 91, 3) := by decide +kernel
theorem dL_refusesAny_290 : decode cL_refusesAny 290 = .ok (.bipush (-11), 2) := by decide +kernel
theorem dL_refusesAny_292 : decode cL_refusesAny 292 = .ok (.if_icmp .ne 192, 3) := by decide +kernel
theorem dL_refusesAny_295 : decode cL_refusesAny 295 = .ok (.aload_n 0, 1) := by decide +kernel
theorem dL_refusesAny_296 : decode cL_refusesAny 296 = .ok (.bipush 12, 2) := by decide +kernel
theorem dL_refusesAny_298 : decode cL_refusesAny 298 = .ok (.iconst 0, 1) := by decide +kernel
theorem dL_refusesAny_299 : decode cL_refusesAny 299 = .ok (.iload_n 1, 1) := by decide +kernel
theorem dL_refusesAny_300 : decode cL_refusesAny 300 = .ok (.ifCond .ne 7, 3) := by decide +kernel
theorem dL_refusesAny_303 : decode cL_refusesAny 303 = .ok (.iconst (-1), 1) := by decide +kernel
theorem dL_refusesAny_304 : decode cL_refusesAny 304 = .ok (.goto 4, 3) := by decide +kernel
theorem dL_refusesAny_307 : decode cL_refusesAny 307 = .ok (.iconst 3, 1) := by decide +kernel
theorem dL_refusesAny_308 : decode cL_refusesAny 308 = .ok (.invokestatic 91, 3) := by decide +kernel
theorem dL_refusesAny_311 : decode cL_refusesAny 311 = .ok (.bipush (-12), 2) := by decide +kernel
theorem dL_refusesAny_313 : decode cL_refusesAny 313 = .ok (.if_icmp .ne 171, 3) := by decide +kernel
theorem dL_refusesAny_316 : decode cL_refusesAny 316 = .ok (.aload_n 0, 1) := by decide +kernel
theorem dL_refusesAny_317 : decode cL_refusesAny 317 = .ok (.bipush 13, 2) := by decide +kernel
theorem dL_refusesAny_319 : decode cL_refusesAny 319 = .ok (.iload_n 2, 1) := by decide +kernel
theorem dL_refusesAny_320 : decode cL_refusesAny 320 = .ok (.iconst (-1), 1) := by decide +kernel
theorem dL_refusesAny_321 : decode cL_refusesAny 321 = .ok (.invokestatic 91, 3) := by decide +kernel
theorem dL_refusesAny_324 : decode cL_refusesAny 324 = .ok (.bipush (-11), 2) := by decide +kernel
theorem dL_refusesAny_326 : decode cL_refusesAny 326 = .ok (.if_icmp .ne 158, 3) := by decide +kernel
theorem dL_refusesAny_329 : decode cL_refusesAny 329 = .ok (.aload_n 0, 1) := by decide +kernel
theorem dL_refusesAny_330 : decode cL_refusesAny 330 = .ok (.bipush 13, 2) := by decide +kernel
theorem dL_refusesAny_332 : decode cL_refusesAny 332 = .ok (.iconst 0, 1) := by decide +kernel
theorem dL_refusesAny_333 : decode cL_refusesAny 333 = .ok (.iconst (-1), 1) := by decide +kernel
theorem dL_refusesAny_334 : decode cL_refusesAny 334 = .ok (.iload_n 1, 1) := by decide +kernel
theorem dL_refusesAny_335 : decode cL_refusesAny 335 = .ok (.isub, 1) := by decide +kernel
theorem dL_refusesAny_336 : decode cL_refusesAny 336 = .ok (.invokestatic 91, 3) := by decide +kernel
theorem dL_refusesAny_339 : decode cL_refusesAny 339 = .ok (.bipush (-12), 2) := by decide +kernel
theorem dL_refusesAny_341 : decode cL_refusesAny 341 = .ok (.if_icmp .ne 143, 3) := by decide +kernel
theorem dL_refusesAny_344 : decode cL_refusesAny 344 = .ok (.aload_n 0, 1) := by decide +kernel
theorem dL_refusesAny_345 : decode cL_refusesAny 345 = .ok (.bipush 14, 2) := by decide +kernel
theorem dL_refusesAny_347 : decode cL_refusesAny 347 = .ok (.iload_n 2, 1) := by decide +kernel
theorem dL_refusesAny_348 : decode cL_refusesAny 348 = .ok (.bipush (-19), 2) := by decide +kernel
theorem dL_refusesAny_350 : decode cL_refusesAny 350 = .ok (.invokestatic 91, 3) := by decide +kernel
theorem dL_refusesAny_353 : decode cL_refusesAny 353 = .ok (.bipush (-11), 2) := by decide +kernel
theorem dL_refusesAny_355 : decode cL_refusesAny 355 = .ok (.if_icmp .ne 129, 3) := by decide +kernel
theorem dL_refusesAny_358 : decode cL_refusesAny 358 = .ok (.aload_n 0, 1) := by decide +kernel
theorem dL_refusesAny_359 : decode cL_refusesAny 359 = .ok (.bipush 14, 2) := by decide +kernel
theorem dL_refusesAny_361 : decode cL_refusesAny 361 = .ok (.iconst 0, 1) := by decide +kernel
theorem dL_refusesAny_362 : decode cL_refusesAny 362 = .ok (.iload_n 1, 1) := by decide +kernel
theorem dL_refusesAny_363 : decode cL_refusesAny 363 = .ok (.ifCond .ne 8, 3) := by decide +kernel
theorem dL_refusesAny_366 : decode cL_refusesAny 366 = .ok (.bipush (-10), 2) := by decide +kernel
theorem dL_refusesAny_368 : decode cL_refusesAny 368 = .ok (.goto 4, 3) := by decide +kernel
theorem dL_refusesAny_371 : decode cL_refusesAny 371 = .ok (.iconst 2, 1) := by decide +kernel
theorem dL_refusesAny_372 : decode cL_refusesAny 372 = .ok (.invokestatic 91, 3) := by decide +kernel
theorem dL_refusesAny_375 : decode cL_refusesAny 375 = .ok (.bipush (-12), 2) := by decide +kernel
theorem dL_refusesAny_377 : decode cL_refusesAny 377 = .ok (.if_icmp .ne 107, 3) := by decide +kernel
theorem dL_refusesAny_380 : decode cL_refusesAny 380 = .ok (.aload_n 0, 1) := by decide +kernel
theorem dL_refusesAny_381 : decode cL_refusesAny 381 = .ok (.bipush 15, 2) := by decide +kernel
theorem dL_refusesAny_383 : decode cL_refusesAny 383 = .ok (.iload_n 1, 1) := by decide +kernel
theorem dL_refusesAny_384 : decode cL_refusesAny 384 = .ok (.ifCond .ne 7, 3) := by decide +kernel
theorem dL_refusesAny_387 : decode cL_refusesAny 387 = .ok (.iconst (-1), 1) := by decide +kernel
theorem dL_refusesAny_388 : decode cL_refusesAny 388 = .ok (.goto 5, 3) := by decide +kernel
theorem dL_refusesAny_391 : decode cL_refusesAny 391 = .ok (.bipush 14, 2) := by decide +kernel
theorem dL_refusesAny_393 : decode cL_refusesAny 393 = .ok (.iconst 0, 1) := by decide +kernel
theorem dL_refusesAny_394 : decode cL_refusesAny 394 = .ok (.invokestatic 91, 3) := by decide +kernel
theorem dL_refusesAny_397 : decode cL_refusesAny 397 = .ok (.bipush (-12), 2) := by decide +kernel
theorem dL_refusesAny_399 : decode cL_refusesAny 399 = .ok (.if_icmp .ne 85, 3) := by decide +kernel
theorem dL_refusesAny_402 : decode cL_refusesAny 402 = .ok (.aload_n 0, 1) := by decide +kernel
theorem dL_refusesAny_403 : decode cL_refusesAny 403 = .ok (.bipush 16, 2) := by decide +kernel
theorem dL_refusesAny_405 : decode cL_refusesAny 405 = .ok (.iload_n 1, 1) := by decide +kernel
theorem dL_refusesAny_406 : decode cL_refusesAny 406 = .ok (.ifCond .ne 7, 3) := by decide +kernel
theorem dL_refusesAny_409 : decode cL_refusesAny 409 = .ok (.iconst (-1), 1) := by decide +kernel
theorem dL_refusesAny_410 : decode cL_refusesAny 410 = .ok (.goto 5, 3) := by decide +kernel
theorem dL_refusesAny_413 : decode cL_refusesAny 413 = .ok (.bipush 24, 2) := by decide +kernel
theorem dL_refusesAny_415 : decode cL_refusesAny 415 = .ok (.iconst 0, 1) := by decide +kernel
theorem dL_refusesAny_416 : decode cL_refusesAny 416 = .ok (.invokestatic 91, 3) := by decide +kernel
theorem dL_refusesAny_419 : decode cL_refusesAny 419 = .ok (.bipush (-11), 2) := by decide +kernel
