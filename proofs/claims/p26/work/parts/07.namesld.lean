theorem dL_isStep_335 : decode cL_isStep 335 = .ok (.iconst 0, 1) := by decide +kernel
theorem dL_isStep_336 : decode cL_isStep 336 = .ok (.istore 11, 2) := by decide +kernel
theorem dL_isStep_338 : decode cL_isStep 338 = .ok (.iconst 0, 1) := by decide +kernel
theorem dL_isStep_339 : decode cL_isStep 339 = .ok (.istore 12, 2) := by decide +kernel
theorem dL_isStep_341 : decode cL_isStep 341 = .ok (.iload 12, 2) := by decide +kernel
theorem dL_isStep_343 : decode cL_isStep 343 = .ok (.bipush 12, 2) := by decide +kernel
theorem dL_isStep_345 : decode cL_isStep 345 = .ok (.if_icmp .ge 30, 3) := by decide +kernel
theorem dL_isStep_348 : decode cL_isStep 348 = .ok (.iload 11, 2) := by decide +kernel
theorem dL_isStep_350 : decode cL_isStep 350 = .ok (.iload 7, 2) := by decide +kernel
theorem dL_isStep_352 : decode cL_isStep 352 = .ok (.ifCond .le 13, 3) := by decide +kernel
theorem dL_isStep_355 : decode cL_isStep 355 = .ok (.iload 7, 2) := by decide +kernel
theorem dL_isStep_357 : decode cL_isStep 357 = .ok (.iload 12, 2) := by decide +kernel
theorem dL_isStep_359 : decode cL_isStep 359 = .ok (.ishr, 1) := by decide +kernel
theorem dL_isStep_360 : decode cL_isStep 360 = .ok (.iconst 1, 1) := by decide +kernel
theorem dL_isStep_361 : decode cL_isStep 361 = .ok (.iand, 1) := by decide +kernel
theorem dL_isStep_362 : decode cL_isStep 362 = .ok (.goto 4, 3) := by decide +kernel
theorem dL_isStep_365 : decode cL_isStep 365 = .ok (.iconst 0, 1) := by decide +kernel
theorem dL_isStep_366 : decode cL_isStep 366 = .ok (.iadd, 1) := by decide +kernel
theorem dL_isStep_367 : decode cL_isStep 367 = .ok (.istore 11, 2) := by decide +kernel
theorem dL_isStep_369 : decode cL_isStep 369 = .ok (.iinc 12 1, 3) := by decide +kernel
theorem dL_isStep_372 : decode cL_isStep 372 = .ok (.goto (-31), 3) := by decide +kernel
theorem dL_isStep_375 : decode cL_isStep 375 = .ok (.iload 10, 2) := by decide +kernel
theorem dL_isStep_377 : decode cL_isStep 377 = .ok (.aload_n 1, 1) := by decide +kernel
theorem dL_isStep_378 : decode cL_isStep 378 = .ok (.iload 5, 2) := by decide +kernel
theorem dL_isStep_380 : decode cL_isStep 380 = .ok (.invokevirtual 49, 3) := by decide +kernel
theorem dL_isStep_383 : decode cL_isStep 383 = .ok (.if_icmp .ne 45, 3) := by decide +kernel
theorem dL_isStep_386 : decode cL_isStep 386 = .ok (.iload 10, 2) := by decide +kernel
theorem dL_isStep_388 : decode cL_isStep 388 = .ok (.iload 8, 2) := by decide +kernel
theorem dL_isStep_390 : decode cL_isStep 390 = .ok (.ifCond .ge 7, 3) := by decide +kernel
theorem dL_isStep_393 : decode cL_isStep 393 = .ok (.iconst (-1), 1) := by decide +kernel
theorem dL_isStep_394 : decode cL_isStep 394 = .ok (.goto 16, 3) := by decide +kernel
theorem dL_isStep_397 : decode cL_isStep 397 = .ok (.iload 8, 2) := by decide +kernel
theorem dL_isStep_399 : decode cL_isStep 399 = .ok (.iconst 2, 1) := by decide +kernel
theorem dL_isStep_400 : decode cL_isStep 400 = .ok (.if_icmp .ne 8, 3) := by decide +kernel
theorem dL_isStep_403 : decode cL_isStep 403 = .ok (.bipush (-5), 2) := by decide +kernel
theorem dL_isStep_405 : decode cL_isStep 405 = .ok (.goto 5, 3) := by decide +kernel
theorem dL_isStep_408 : decode cL_isStep 408 = .ok (.iload 11, 2) := by decide +kernel
theorem dL_isStep_410 : decode cL_isStep 410 = .ok (.if_icmp .ne 18, 3) := by decide +kernel
theorem dL_isStep_413 : decode cL_isStep 413 = .ok (.aload_n 0, 1) := by decide +kernel
theorem dL_isStep_414 : decode cL_isStep 414 = .ok (.bipush 8, 2) := by decide +kernel
theorem dL_isStep_416 : decode cL_isStep 416 = .ok (.invokevirtual 21, 3) := by decide +kernel
theorem dL_isStep_419 : decode cL_isStep 419 = .ok (.iload 9, 2) := by decide +kernel
theorem dL_isStep_421 : decode cL_isStep 421 = .ok (.if_icmp .ne 7, 3) := by decide +kernel
theorem dL_isStep_424 : decode cL_isStep 424 = .ok (.iconst 1, 1) := by decide +kernel
theorem dL_isStep_425 : decode cL_isStep 425 = .ok (.goto 4, 3) := by decide +kernel
theorem dL_isStep_428 : decode cL_isStep 428 = .ok (.iconst 0, 1) := by decide +kernel
theorem dL_isStep_429 : decode cL_isStep 429 = .ok (.ireturn, 1) := by decide +kernel
theorem dL_isStep_430 : decode cL_isStep 430 = .ok (.aload_n 0, 1) := by decide +kernel
theorem dL_isStep_431 : decode cL_isStep 431 = .ok (.iload 6, 2) := by decide +kernel
theorem dL_isStep_433 : decode cL_isStep 433 = .ok (.iconst 0, 1) := by decide +kernel
theorem dL_isStep_434 : decode cL_isStep 434 = .ok (.invokevirtual 52, 3) := by decide +kernel
theorem dL_isStep_437 : decode cL_isStep 437 = .ok (.istore 7, 2) := by decide +kernel
theorem dL_isStep_439 : decode cL_isStep 439 = .ok (.aload_n 0, 1) := by decide +kernel
theorem dL_isStep_440 : decode cL_isStep 440 = .ok (.iload 6, 2) := by decide +kernel
theorem dL_isStep_442 : decode cL_isStep 442 = .ok (.iconst 1, 1) := by decide +kernel
theorem dL_isStep_443 : decode cL_isStep 443 = .ok (.invokevirtual 52, 3) := by decide +kernel
theorem dL_isStep_446 : decode cL_isStep 446 = .ok (.istore 8, 2) := by decide +kernel
theorem dL_isStep_448 : decode cL_isStep 448 = .ok (.aload_n 0, 1) := by decide +kernel
theorem dL_isStep_449 : decode cL_isStep 449 = .ok (.iload 6, 2) := by decide +kernel
theorem dL_isStep_451 : decode cL_isStep 451 = .ok (.invokevirtual 55, 3) := by decide +kernel
theorem dL_isStep_454 : decode cL_isStep 454 = .ok (.istore 9, 2) := by decide +kernel
theorem dL_isStep_456 : decode cL_isStep 456 = .ok (.iload 9, 2) := by decide +kernel
theorem dL_isStep_458 : decode cL_isStep 458 = .ok (.aload_n 1, 1) := by decide +kernel
theorem dL_isStep_459 : decode cL_isStep 459 = .ok (.iload 6, 2) := by decide +kernel
theorem dL_isStep_461 : decode cL_isStep 461 = .ok (.invokevirtual 55, 3) := by decide +kernel
theorem dL_isStep_464 : decode cL_isStep 464 = .ok (.if_icmp .ne 55, 3) := by decide +kernel
theorem dL_isStep_467 : decode cL_isStep 467 = .ok (.iload 9, 2) := by decide +kernel
theorem dL_isStep_469 : decode cL_isStep 469 = .ok (.iload 7, 2) := by decide +kernel
theorem dL_isStep_471 : decode cL_isStep 471 = .ok (.ifCond .ge 8, 3) := by decide +kernel
theorem dL_isStep_474 : decode cL_isStep 474 = .ok (.bipush (-5), 2) := by decide +kernel
theorem dL_isStep_476 : decode cL_isStep 476 = .ok (.goto 5, 3) := by decide +kernel
theorem dL_isStep_479 : decode cL_isStep 479 = .ok (.iload 7, 2) := by decide +kernel
theorem dL_isStep_481 : decode cL_isStep 481 = .ok (.if_icmp .ne 38, 3) := by decide +kernel
theorem dL_isStep_484 : decode cL_isStep 484 = .ok (.iload 7, 2) := by decide +kernel
theorem dL_isStep_486 : decode cL_isStep 486 = .ok (.ifCond .lt 29, 3) := by decide +kernel
theorem dL_isStep_489 : decode cL_isStep 489 = .ok (.aload_n 0, 1) := by decide +kernel
theorem dL_isStep_490 : decode cL_isStep 490 = .ok (.iload 6, 2) := by decide +kernel
theorem dL_isStep_492 : decode cL_isStep 492 = .ok (.iconst 0, 1) := by decide +kernel
theorem dL_isStep_493 : decode cL_isStep 493 = .ok (.invokevirtual 52, 3) := by decide +kernel
theorem dL_isStep_496 : decode cL_isStep 496 = .ok (.bipush (-6), 2) := by decide +kernel
theorem dL_isStep_498 : decode cL_isStep 498 = .ok (.if_icmp .ne 21, 3) := by decide +kernel
theorem dL_isStep_501 : decode cL_isStep 501 = .ok (.aload_n 0, 1) := by decide +kernel
theorem dL_isStep_502 : decode cL_isStep 502 = .ok (.iload 6, 2) := by decide +kernel
theorem dL_isStep_504 : decode cL_isStep 504 = .ok (.iconst 1, 1) := by decide +kernel
theorem dL_isStep_505 : decode cL_isStep 505 = .ok (.invokevirtual 52, 3) := by decide +kernel
theorem dL_isStep_508 : decode cL_isStep 508 = .ok (.iload 8, 2) := by decide +kernel
theorem dL_isStep_510 : decode cL_isStep 510 = .ok (.iconst 1, 1) := by decide +kernel
theorem dL_isStep_511 : decode cL_isStep 511 = .ok (.iadd, 1) := by decide +kernel
theorem dL_isStep_512 : decode cL_isStep 512 = .ok (.if_icmp .ne 7, 3) := by decide +kernel
theorem dL_isStep_515 : decode cL_isStep 515 = .ok (.iconst 1, 1) := by decide +kernel
theorem dL_isStep_516 : decode cL_isStep 516 = .ok (.goto 4, 3) := by decide +kernel
theorem dL_isStep_519 : decode cL_isStep 519 = .ok (.iconst 0, 1) := by decide +kernel
theorem dL_isStep_520 : decode cL_isStep 520 = .ok (.ireturn, 1) := by decide +kernel
theorem dL_isStep_521 : decode cL_isStep 521 = .ok (.aload_n 0, 1) := by decide +kernel
theorem dL_isStep_522 : decode cL_isStep 522 = .ok (.bipush 11, 2) := by decide +kernel
theorem dL_isStep_524 : decode cL_isStep 524 = .ok (.invokevirtual 21, 3) := by decide +kernel
theorem dL_isStep_527 : decode cL_isStep 527 = .ok (.istore 7, 2) := by decide +kernel
theorem dL_isStep_529 : decode cL_isStep 529 = .ok (.aload_n 0, 1) := by decide +kernel
theorem dL_isStep_530 : decode cL_isStep 530 = .ok (.invokevirtual 58, 3) := by decide +kernel
theorem dL_isStep_533 : decode cL_isStep 533 = .ok (.iload 7, 2) := by decide +kernel
theorem dL_isStep_535 : decode cL_isStep 535 = .ok (.if_icmp .ne 25, 3) := by decide +kernel
theorem dL_isStep_538 : decode cL_isStep 538 = .ok (.aload_n 1, 1) := by decide +kernel
theorem dL_isStep_539 : decode cL_isStep 539 = .ok (.invokevirtual 58, 3) := by decide +kernel
theorem dL_isStep_542 : decode cL_isStep 542 = .ok (.iload 7, 2) := by decide +kernel
theorem dL_isStep_544 : decode cL_isStep 544 = .ok (.if_icmp .ne 16, 3) := by decide +kernel
theorem dL_isStep_547 : decode cL_isStep 547 = .ok (.aload_n 0, 1) := by decide +kernel
theorem dL_isStep_548 : decode cL_isStep 548 = .ok (.bipush 11, 2) := by decide +kernel
theorem dL_isStep_550 : decode cL_isStep 550 = .ok (.invokevirtual 21, 3) := by decide +kernel
theorem dL_isStep_553 : decode cL_isStep 553 = .ok (.ifCond .ne 7, 3) := by decide +kernel
theorem dL_isStep_556 : decode cL_isStep 556 = .ok (.iconst 1, 1) := by decide +kernel
