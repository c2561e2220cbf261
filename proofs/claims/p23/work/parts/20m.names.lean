theorem dL_isSo_314 : decode cL_isSo 314 = .ok (.aload_n 0, 1) := by decide +kernel
theorem dL_isSo_315 : decode cL_isSo 315 = .ok (.iload 8, 2) := by decide +kernel
theorem dL_isSo_317 : decode cL_isSo 317 = .ok (.iconst 3, 1) := by decide +kernel
theorem dL_isSo_318 : decode cL_isSo 318 = .ok (.invokevirtual 29, 3) := by decide +kernel
theorem dL_isSo_321 : decode cL_isSo 321 = .ok (.iload 10, 2) := by decide +kernel
theorem dL_isSo_323 : decode cL_isSo 323 = .ok (.isub, 1) := by decide +kernel
theorem dL_isSo_324 : decode cL_isSo 324 = .ok (.invokestatic 81, 3) := by decide +kernel
theorem dL_isSo_327 : decode cL_isSo 327 = .ok (.if_icmp .le 5, 3) := by decide +kernel
theorem dL_isSo_330 : decode cL_isSo 330 = .ok (.iconst 0, 1) := by decide +kernel
theorem dL_isSo_331 : decode cL_isSo 331 = .ok (.ireturn, 1) := by decide +kernel
theorem dL_isSo_332 : decode cL_isSo 332 = .ok (.aload_n 0, 1) := by decide +kernel
theorem dL_isSo_333 : decode cL_isSo 333 = .ok (.iload 8, 2) := by decide +kernel
theorem dL_isSo_335 : decode cL_isSo 335 = .ok (.bipush 6, 2) := by decide +kernel
theorem dL_isSo_337 : decode cL_isSo 337 = .ok (.invokevirtual 29, 3) := by decide +kernel
theorem dL_isSo_340 : decode cL_isSo 340 = .ok (.istore 12, 2) := by decide +kernel
theorem dL_isSo_342 : decode cL_isSo 342 = .ok (.iload 12, 2) := by decide +kernel
theorem dL_isSo_344 : decode cL_isSo 344 = .ok (.ifCond .lt 23, 3) := by decide +kernel
theorem dL_isSo_347 : decode cL_isSo 347 = .ok (.aload_n 0, 1) := by decide +kernel
theorem dL_isSo_348 : decode cL_isSo 348 = .ok (.iload 12, 2) := by decide +kernel
theorem dL_isSo_350 : decode cL_isSo 350 = .ok (.iconst 0, 1) := by decide +kernel
theorem dL_isSo_351 : decode cL_isSo 351 = .ok (.invokevirtual 39, 3) := by decide +kernel
theorem dL_isSo_354 : decode cL_isSo 354 = .ok (.iload 10, 2) := by decide +kernel
theorem dL_isSo_356 : decode cL_isSo 356 = .ok (.if_icmp .lt 27, 3) := by decide +kernel
theorem dL_isSo_359 : decode cL_isSo 359 = .ok (.aload 4, 2) := by decide +kernel
theorem dL_isSo_361 : decode cL_isSo 361 = .ok (.iload 8, 2) := by decide +kernel
theorem dL_isSo_363 : decode cL_isSo 363 = .ok (.iaload, 1) := by decide +kernel
theorem dL_isSo_364 : decode cL_isSo 364 = .ok (.ifCond .eq 19, 3) := by decide +kernel
theorem dL_isSo_367 : decode cL_isSo 367 = .ok (.aload_n 0, 1) := by decide +kernel
theorem dL_isSo_368 : decode cL_isSo 368 = .ok (.iload 8, 2) := by decide +kernel
theorem dL_isSo_370 : decode cL_isSo 370 = .ok (.bipush 13, 2) := by decide +kernel
theorem dL_isSo_372 : decode cL_isSo 372 = .ok (.invokevirtual 29, 3) := by decide +kernel
theorem dL_isSo_375 : decode cL_isSo 375 = .ok (.aload 4, 2) := by decide +kernel
theorem dL_isSo_377 : decode cL_isSo 377 = .ok (.iload 8, 2) := by decide +kernel
theorem dL_isSo_379 : decode cL_isSo 379 = .ok (.iaload, 1) := by decide +kernel
theorem dL_isSo_380 : decode cL_isSo 380 = .ok (.if_icmp .le 5, 3) := by decide +kernel
theorem dL_isSo_383 : decode cL_isSo 383 = .ok (.iconst 0, 1) := by decide +kernel
theorem dL_isSo_384 : decode cL_isSo 384 = .ok (.ireturn, 1) := by decide +kernel
theorem dL_isSo_385 : decode cL_isSo 385 = .ok (.aload_n 0, 1) := by decide +kernel
theorem dL_isSo_386 : decode cL_isSo 386 = .ok (.iload 8, 2) := by decide +kernel
theorem dL_isSo_388 : decode cL_isSo 388 = .ok (.bipush 15, 2) := by decide +kernel
theorem dL_isSo_390 : decode cL_isSo 390 = .ok (.invokevirtual 29, 3) := by decide +kernel
theorem dL_isSo_393 : decode cL_isSo 393 = .ok (.istore 13, 2) := by decide +kernel
theorem dL_isSo_395 : decode cL_isSo 395 = .ok (.iload 13, 2) := by decide +kernel
theorem dL_isSo_397 : decode cL_isSo 397 = .ok (.iload 8, 2) := by decide +kernel
theorem dL_isSo_399 : decode cL_isSo 399 = .ok (.ifCond .le 24, 3) := by decide +kernel
theorem dL_isSo_402 : decode cL_isSo 402 = .ok (.aload_n 0, 1) := by decide +kernel
theorem dL_isSo_403 : decode cL_isSo 403 = .ok (.iload 8, 2) := by decide +kernel
theorem dL_isSo_405 : decode cL_isSo 405 = .ok (.iconst 1, 1) := by decide +kernel
theorem dL_isSo_406 : decode cL_isSo 406 = .ok (.isub, 1) := by decide +kernel
theorem dL_isSo_407 : decode cL_isSo 407 = .ok (.bipush 7, 2) := by decide +kernel
theorem dL_isSo_409 : decode cL_isSo 409 = .ok (.invokevirtual 29, 3) := by decide +kernel
theorem dL_isSo_412 : decode cL_isSo 412 = .ok (.iconst 1, 1) := by decide +kernel
theorem dL_isSo_413 : decode cL_isSo 413 = .ok (.if_icmp .eq 10, 3) := by decide +kernel
theorem dL_isSo_416 : decode cL_isSo 416 = .ok (.iload 8, 2) := by decide +kernel
theorem dL_isSo_418 : decode cL_isSo 418 = .ok (.iconst 1, 1) := by decide +kernel
theorem dL_isSo_419 : decode cL_isSo 419 = .ok (.isub, 1) := by decide +kernel
theorem dL_isSo_420 : decode cL_isSo 420 = .ok (.goto 4, 3) := by decide +kernel
theorem dL_isSo_423 : decode cL_isSo 423 = .ok (.iconst (-1), 1) := by decide +kernel
theorem dL_isSo_424 : decode cL_isSo 424 = .ok (.if_icmp .ne 36, 3) := by decide +kernel
theorem dL_isSo_427 : decode cL_isSo 427 = .ok (.iload 13, 2) := by decide +kernel
theorem dL_isSo_429 : decode cL_isSo 429 = .ok (.ifCond .lt 33, 3) := by decide +kernel
theorem dL_isSo_432 : decode cL_isSo 432 = .ok (.iload 9, 2) := by decide +kernel
theorem dL_isSo_434 : decode cL_isSo 434 = .ok (.ifCond .ne 28, 3) := by decide +kernel
theorem dL_isSo_437 : decode cL_isSo 437 = .ok (.aload_n 0, 1) := by decide +kernel
theorem dL_isSo_438 : decode cL_isSo 438 = .ok (.iload 13, 2) := by decide +kernel
theorem dL_isSo_440 : decode cL_isSo 440 = .ok (.bipush 7, 2) := by decide +kernel
theorem dL_isSo_442 : decode cL_isSo 442 = .ok (.invokevirtual 29, 3) := by decide +kernel
theorem dL_isSo_445 : decode cL_isSo 445 = .ok (.ifCond .ne 17, 3) := by decide +kernel
theorem dL_isSo_448 : decode cL_isSo 448 = .ok (.aload_n 0, 1) := by decide +kernel
theorem dL_isSo_449 : decode cL_isSo 449 = .ok (.iload 13, 2) := by decide +kernel
theorem dL_isSo_451 : decode cL_isSo 451 = .ok (.iconst 1, 1) := by decide +kernel
theorem dL_isSo_452 : decode cL_isSo 452 = .ok (.invokevirtual 29, 3) := by decide +kernel
theorem dL_isSo_455 : decode cL_isSo 455 = .ok (.iload 10, 2) := by decide +kernel
theorem dL_isSo_457 : decode cL_isSo 457 = .ok (.if_icmp .gt 5, 3) := by decide +kernel
theorem dL_isSo_460 : decode cL_isSo 460 = .ok (.iconst 0, 1) := by decide +kernel
theorem dL_isSo_461 : decode cL_isSo 461 = .ok (.ireturn, 1) := by decide +kernel
theorem dL_isSo_462 : decode cL_isSo 462 = .ok (.iinc 8 1, 3) := by decide +kernel
theorem dL_isSo_465 : decode cL_isSo 465 = .ok (.goto (-451), 3) := by decide +kernel
theorem dL_isSo_468 : decode cL_isSo 468 = .ok (.iconst 0, 1) := by decide +kernel
theorem dL_isSo_469 : decode cL_isSo 469 = .ok (.istore 8, 2) := by decide +kernel
theorem dL_isSo_471 : decode cL_isSo 471 = .ok (.iconst 0, 1) := by decide +kernel
theorem dL_isSo_472 : decode cL_isSo 472 = .ok (.istore 9, 2) := by decide +kernel
theorem dL_isSo_474 : decode cL_isSo 474 = .ok (.iload 9, 2) := by decide +kernel
theorem dL_isSo_476 : decode cL_isSo 476 = .ok (.bipush 20, 2) := by decide +kernel
theorem dL_isSo_478 : decode cL_isSo 478 = .ok (.if_icmp .ge 21, 3) := by decide +kernel
theorem dL_isSo_481 : decode cL_isSo 481 = .ok (.iload 8, 2) := by decide +kernel
theorem dL_isSo_483 : decode cL_isSo 483 = .ok (.aload_n 0, 1) := by decide +kernel
theorem dL_isSo_484 : decode cL_isSo 484 = .ok (.iload 9, 2) := by decide +kernel
theorem dL_isSo_486 : decode cL_isSo 486 = .ok (.iconst 3, 1) := by decide +kernel
theorem dL_isSo_487 : decode cL_isSo 487 = .ok (.invokevirtual 54, 3) := by decide +kernel
theorem dL_isSo_490 : decode cL_isSo 490 = .ok (.iadd, 1) := by decide +kernel
theorem dL_isSo_491 : decode cL_isSo 491 = .ok (.istore 8, 2) := by decide +kernel
theorem dL_isSo_493 : decode cL_isSo 493 = .ok (.iinc 9 1, 3) := by decide +kernel
theorem dL_isSo_496 : decode cL_isSo 496 = .ok (.goto (-22), 3) := by decide +kernel
theorem dL_isSo_499 : decode cL_isSo 499 = .ok (.iconst 0, 1) := by decide +kernel
theorem dL_isSo_500 : decode cL_isSo 500 = .ok (.istore 9, 2) := by decide +kernel
theorem dL_isSo_502 : decode cL_isSo 502 = .ok (.iconst 0, 1) := by decide +kernel
theorem dL_isSo_503 : decode cL_isSo 503 = .ok (.istore 10, 2) := by decide +kernel
theorem dL_isSo_505 : decode cL_isSo 505 = .ok (.iconst 0, 1) := by decide +kernel
theorem dL_isSo_506 : decode cL_isSo 506 = .ok (.istore 11, 2) := by decide +kernel
theorem dL_isSo_508 : decode cL_isSo 508 = .ok (.iload 11, 2) := by decide +kernel
theorem dL_isSo_510 : decode cL_isSo 510 = .ok (.iload_n 2, 1) := by decide +kernel
theorem dL_isSo_511 : decode cL_isSo 511 = .ok (.if_icmp .ge 21, 3) := by decide +kernel
theorem dL_isSo_514 : decode cL_isSo 514 = .ok (.iload 9, 2) := by decide +kernel
theorem dL_isSo_516 : decode cL_isSo 516 = .ok (.aload_n 0, 1) := by decide +kernel
theorem dL_isSo_517 : decode cL_isSo 517 = .ok (.iload 11, 2) := by decide +kernel
theorem dL_isSo_519 : decode cL_isSo 519 = .ok (.iconst 2, 1) := by decide +kernel
theorem dL_isSo_520 : decode cL_isSo 520 = .ok (.invokevirtual 39, 3) := by decide +kernel
theorem dL_isSo_523 : decode cL_isSo 523 = .ok (.iadd, 1) := by decide +kernel
theorem dL_isSo_524 : decode cL_isSo 524 = .ok (.istore 9, 2) := by decide +kernel
theorem dL_isSo_526 : decode cL_isSo 526 = .ok (.iinc 11 1, 3) := by decide +kernel
theorem dL_isSo_529 : decode cL_isSo 529 = .ok (.goto (-21), 3) := by decide +kernel
theorem dL_isSo_532 : decode cL_isSo 532 = .ok (.iconst 0, 1) := by decide +kernel
theorem dL_isSo_533 : decode cL_isSo 533 = .ok (.istore 11, 2) := by decide +kernel
theorem dL_isSo_535 : decode cL_isSo 535 = .ok (.iload 11, 2) := by decide +kernel
theorem dL_isSo_537 : decode cL_isSo 537 = .ok (.iload_n 1, 1) := by decide +kernel
theorem dL_isSo_538 : decode cL_isSo 538 = .ok (.if_icmp .ge 19, 3) := by decide +kernel
theorem dL_isSo_541 : decode cL_isSo 541 = .ok (.iload 10, 2) := by decide +kernel
theorem dL_isSo_543 : decode cL_isSo 543 = .ok (.aload 4, 2) := by decide +kernel
theorem dL_isSo_545 : decode cL_isSo 545 = .ok (.iload 11, 2) := by decide +kernel
theorem dL_isSo_547 : decode cL_isSo 547 = .ok (.iaload, 1) := by decide +kernel
theorem dL_isSo_548 : decode cL_isSo 548 = .ok (.iadd, 1) := by decide +kernel
theorem dL_isSo_549 : decode cL_isSo 549 = .ok (.istore 10, 2) := by decide +kernel
theorem dL_isSo_551 : decode cL_isSo 551 = .ok (.iinc 11 1, 3) := by decide +kernel
theorem dL_isSo_554 : decode cL_isSo 554 = .ok (.goto (-19), 3) := by decide +kernel
theorem dL_isSo_557 : decode cL_isSo 557 = .ok (.iload 8, 2) := by decide +kernel
theorem dL_isSo_559 : decode cL_isSo 559 = .ok (.iload 6, 2) := by decide +kernel
theorem dL_isSo_561 : decode cL_isSo 561 = .ok (.if_icmp .lt 128, 3) := by decide +kernel
theorem dL_isSo_564 : decode cL_isSo 564 = .ok (.iload 8, 2) := by decide +kernel
theorem dL_isSo_566 : decode cL_isSo 566 = .ok (.iconst 3, 1) := by decide +kernel
theorem dL_isSo_567 : decode cL_isSo 567 = .ok (.iload 6, 2) := by decide +kernel
theorem dL_isSo_569 : decode cL_isSo 569 = .ok (.imul, 1) := by decide +kernel
theorem dL_isSo_570 : decode cL_isSo 570 = .ok (.if_icmp .gt 119, 3) := by decide +kernel
theorem dL_isSo_573 : decode cL_isSo 573 = .ok (.iload 9, 2) := by decide +kernel
theorem dL_isSo_575 : decode cL_isSo 575 = .ok (.aload 5, 2) := by decide +kernel
theorem dL_isSo_577 : decode cL_isSo 577 = .ok (.iconst 3, 1) := by decide +kernel
theorem dL_isSo_578 : decode cL_isSo 578 = .ok (.iaload, 1) := by decide +kernel
theorem dL_isSo_579 : decode cL_isSo 579 = .ok (.iadd, 1) := by decide +kernel
theorem dL_isSo_580 : decode cL_isSo 580 = .ok (.iload 10, 2) := by decide +kernel
theorem dL_isSo_582 : decode cL_isSo 582 = .ok (.if_icmp .gt 107, 3) := by decide +kernel
theorem dL_isSo_585 : decode cL_isSo 585 = .ok (.aload_n 0, 1) := by decide +kernel
theorem dL_isSo_586 : decode cL_isSo 586 = .ok (.iconst 1, 1) := by decide +kernel
theorem dL_isSo_587 : decode cL_isSo 587 = .ok (.invokevirtual 35, 3) := by decide +kernel
theorem dL_isSo_590 : decode cL_isSo 590 = .ok (.iload_n 1, 1) := by decide +kernel
theorem dL_isSo_591 : decode cL_isSo 591 = .ok (.if_icmp .ne 98, 3) := by decide +kernel
theorem dL_isSo_594 : decode cL_isSo 594 = .ok (.aload_n 0, 1) := by decide +kernel
theorem dL_isSo_595 : decode cL_isSo 595 = .ok (.iconst 2, 1) := by decide +kernel
theorem dL_isSo_596 : decode cL_isSo 596 = .ok (.invokevirtual 35, 3) := by decide +kernel
theorem dL_isSo_599 : decode cL_isSo 599 = .ok (.aload 5, 2) := by decide +kernel
theorem dL_isSo_601 : decode cL_isSo 601 = .ok (.iconst 0, 1) := by decide +kernel
theorem dL_isSo_602 : decode cL_isSo 602 = .ok (.iaload, 1) := by decide +kernel
theorem dL_isSo_603 : decode cL_isSo 603 = .ok (.if_icmp .ne 86, 3) := by decide +kernel
theorem dL_isSo_606 : decode cL_isSo 606 = .ok (.aload_n 0, 1) := by decide +kernel
theorem dL_isSo_607 : decode cL_isSo 607 = .ok (.iconst 4, 1) := by decide +kernel
theorem dL_isSo_608 : decode cL_isSo 608 = .ok (.invokevirtual 35, 3) := by decide +kernel
theorem dL_isSo_611 : decode cL_isSo 611 = .ok (.iload_n 2, 1) := by decide +kernel
theorem dL_isSo_612 : decode cL_isSo 612 = .ok (.if_icmp .ne 77, 3) := by decide +kernel
theorem dL_isSo_615 : decode cL_isSo 615 = .ok (.aload_n 0, 1) := by decide +kernel
theorem dL_isSo_616 : decode cL_isSo 616 = .ok (.iconst 5, 1) := by decide +kernel
theorem dL_isSo_617 : decode cL_isSo 617 = .ok (.invokevirtual 35, 3) := by decide +kernel
theorem dL_isSo_620 : decode cL_isSo 620 = .ok (.iload_n 3, 1) := by decide +kernel
theorem dL_isSo_621 : decode cL_isSo 621 = .ok (.if_icmp .ne 68, 3) := by decide +kernel
theorem dL_isSo_624 : decode cL_isSo 624 = .ok (.aload_n 0, 1) := by decide +kernel
theorem dL_isSo_625 : decode cL_isSo 625 = .ok (.bipush 6, 2) := by decide +kernel
theorem dL_isSo_627 : decode cL_isSo 627 = .ok (.invokevirtual 35, 3) := by decide +kernel
theorem dL_isSo_630 : decode cL_isSo 630 = .ok (.aload 5, 2) := by decide +kernel
theorem dL_isSo_632 : decode cL_isSo 632 = .ok (.iconst 1, 1) := by decide +kernel
theorem dL_isSo_633 : decode cL_isSo 633 = .ok (.iaload, 1) := by decide +kernel
theorem dL_isSo_634 : decode cL_isSo 634 = .ok (.if_icmp .ne 55, 3) := by decide +kernel
theorem dL_isSo_637 : decode cL_isSo 637 = .ok (.aload_n 0, 1) := by decide +kernel
