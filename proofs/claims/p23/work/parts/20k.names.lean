theorem dL_isSecond_311 : decode cL_isSecond 311 = .ok (.if_icmp .ne 20, 3) := by decide +kernel
theorem dL_isSecond_314 : decode cL_isSecond 314 = .ok (.aload_n 0, 1) := by decide +kernel
theorem dL_isSecond_315 : decode cL_isSecond 315 = .ok (.iload 10, 2) := by decide +kernel
theorem dL_isSecond_317 : decode cL_isSecond 317 = .ok (.bipush 8, 2) := by decide +kernel
theorem dL_isSecond_319 : decode cL_isSecond 319 = .ok (.invokevirtual 29, 3) := by decide +kernel
theorem dL_isSecond_322 : decode cL_isSecond 322 = .ok (.aload_n 2, 1) := by decide +kernel
theorem dL_isSecond_323 : decode cL_isSecond 323 = .ok (.iload 10, 2) := by decide +kernel
theorem dL_isSecond_325 : decode cL_isSecond 325 = .ok (.iaload, 1) := by decide +kernel
theorem dL_isSecond_326 : decode cL_isSecond 326 = .ok (.if_icmp .eq 5, 3) := by decide +kernel
theorem dL_isSecond_329 : decode cL_isSecond 329 = .ok (.iconst 0, 1) := by decide +kernel
theorem dL_isSecond_330 : decode cL_isSecond 330 = .ok (.ireturn, 1) := by decide +kernel
theorem dL_isSecond_331 : decode cL_isSecond 331 = .ok (.aload 5, 2) := by decide +kernel
theorem dL_isSecond_333 : decode cL_isSecond 333 = .ok (.iload 10, 2) := by decide +kernel
theorem dL_isSecond_335 : decode cL_isSecond 335 = .ok (.iaload, 1) := by decide +kernel
theorem dL_isSecond_336 : decode cL_isSecond 336 = .ok (.aload_n 0, 1) := by decide +kernel
theorem dL_isSecond_337 : decode cL_isSecond 337 = .ok (.iconst 0, 1) := by decide +kernel
theorem dL_isSecond_338 : decode cL_isSecond 338 = .ok (.invokevirtual 35, 3) := by decide +kernel
theorem dL_isSecond_341 : decode cL_isSecond 341 = .ok (.if_icmp .ne 19, 3) := by decide +kernel
theorem dL_isSecond_344 : decode cL_isSecond 344 = .ok (.aload_n 0, 1) := by decide +kernel
theorem dL_isSecond_345 : decode cL_isSecond 345 = .ok (.iload 10, 2) := by decide +kernel
theorem dL_isSecond_347 : decode cL_isSecond 347 = .ok (.iconst 3, 1) := by decide +kernel
theorem dL_isSecond_348 : decode cL_isSecond 348 = .ok (.invokevirtual 29, 3) := by decide +kernel
theorem dL_isSecond_351 : decode cL_isSecond 351 = .ok (.aload_n 2, 1) := by decide +kernel
theorem dL_isSecond_352 : decode cL_isSecond 352 = .ok (.iload 10, 2) := by decide +kernel
theorem dL_isSecond_354 : decode cL_isSecond 354 = .ok (.iaload, 1) := by decide +kernel
theorem dL_isSecond_355 : decode cL_isSecond 355 = .ok (.if_icmp .ge 5, 3) := by decide +kernel
theorem dL_isSecond_358 : decode cL_isSecond 358 = .ok (.iconst 0, 1) := by decide +kernel
theorem dL_isSecond_359 : decode cL_isSecond 359 = .ok (.ireturn, 1) := by decide +kernel
theorem dL_isSecond_360 : decode cL_isSecond 360 = .ok (.iinc 10 1, 3) := by decide +kernel
theorem dL_isSecond_363 : decode cL_isSecond 363 = .ok (.goto (-201), 3) := by decide +kernel
theorem dL_isSecond_366 : decode cL_isSecond 366 = .ok (.aload_n 0, 1) := by decide +kernel
theorem dL_isSecond_367 : decode cL_isSecond 367 = .ok (.bipush 9, 2) := by decide +kernel
theorem dL_isSecond_369 : decode cL_isSecond 369 = .ok (.invokevirtual 35, 3) := by decide +kernel
theorem dL_isSecond_372 : decode cL_isSecond 372 = .ok (.iload 6, 2) := by decide +kernel
theorem dL_isSecond_374 : decode cL_isSecond 374 = .ok (.iload 9, 2) := by decide +kernel
theorem dL_isSecond_376 : decode cL_isSecond 376 = .ok (.iadd, 1) := by decide +kernel
theorem dL_isSecond_377 : decode cL_isSecond 377 = .ok (.if_icmp .ne 20, 3) := by decide +kernel
theorem dL_isSecond_380 : decode cL_isSecond 380 = .ok (.aload_n 0, 1) := by decide +kernel
theorem dL_isSecond_381 : decode cL_isSecond 381 = .ok (.iconst 2, 1) := by decide +kernel
theorem dL_isSecond_382 : decode cL_isSecond 382 = .ok (.invokevirtual 35, 3) := by decide +kernel
theorem dL_isSecond_385 : decode cL_isSecond 385 = .ok (.iload 7, 2) := by decide +kernel
theorem dL_isSecond_387 : decode cL_isSecond 387 = .ok (.iload 8, 2) := by decide +kernel
theorem dL_isSecond_389 : decode cL_isSecond 389 = .ok (.iadd, 1) := by decide +kernel
theorem dL_isSecond_390 : decode cL_isSecond 390 = .ok (.if_icmp .ne 7, 3) := by decide +kernel
theorem dL_isSecond_393 : decode cL_isSecond 393 = .ok (.iconst 1, 1) := by decide +kernel
theorem dL_isSecond_394 : decode cL_isSecond 394 = .ok (.goto 4, 3) := by decide +kernel
theorem dL_isSecond_397 : decode cL_isSecond 397 = .ok (.iconst 0, 1) := by decide +kernel
theorem dL_isSecond_398 : decode cL_isSecond 398 = .ok (.ireturn, 1) := by decide +kernel
