theorem dL_law_351 : decode cL_law 351 = .ok (.ifCond .le 17, 3) := by decide +kernel
theorem dL_law_354 : decode cL_law 354 = .ok (.iload 15, 2) := by decide +kernel
theorem dL_law_356 : decode cL_law 356 = .ok (.iconst 1, 1) := by decide +kernel
theorem dL_law_357 : decode cL_law 357 = .ok (.iadd, 1) := by decide +kernel
theorem dL_law_358 : decode cL_law 358 = .ok (.iconst 5, 1) := by decide +kernel
theorem dL_law_359 : decode cL_law 359 = .ok (.irem, 1) := by decide +kernel
theorem dL_law_360 : decode cL_law 360 = .ok (.istore 15, 2) := by decide +kernel
theorem dL_law_362 : decode cL_law 362 = .ok (.iinc 16 1, 3) := by decide +kernel
theorem dL_law_365 : decode cL_law 365 = .ok (.goto (-45), 3) := by decide +kernel
theorem dL_law_368 : decode cL_law 368 = .ok (.aload_n 1, 1) := by decide +kernel
theorem dL_law_369 : decode cL_law 369 = .ok (.iconst 1, 1) := by decide +kernel
theorem dL_law_370 : decode cL_law 370 = .ok (.iconst 2, 1) := by decide +kernel
theorem dL_law_371 : decode cL_law 371 = .ok (.iload 13, 2) := by decide +kernel
theorem dL_law_373 : decode cL_law 373 = .ok (.iadd, 1) := by decide +kernel
theorem dL_law_374 : decode cL_law 374 = .ok (.iload 15, 2) := by decide +kernel
theorem dL_law_376 : decode cL_law 376 = .ok (.invokevirtual 25, 3) := by decide +kernel
theorem dL_law_379 : decode cL_law 379 = .ok (.iconst 1, 1) := by decide +kernel
theorem dL_law_380 : decode cL_law 380 = .ok (.if_icmp .eq 5, 3) := by decide +kernel
theorem dL_law_383 : decode cL_law 383 = .ok (.iconst 0, 1) := by decide +kernel
theorem dL_law_384 : decode cL_law 384 = .ok (.ireturn, 1) := by decide +kernel
theorem dL_law_385 : decode cL_law 385 = .ok (.iload 12, 2) := by decide +kernel
theorem dL_law_387 : decode cL_law 387 = .ok (.ifCond .ge 18, 3) := by decide +kernel
theorem dL_law_390 : decode cL_law 390 = .ok (.aload_n 2, 1) := by decide +kernel
theorem dL_law_391 : decode cL_law 391 = .ok (.iload 8, 2) := by decide +kernel
theorem dL_law_393 : decode cL_law 393 = .ok (.iload 15, 2) := by decide +kernel
theorem dL_law_395 : decode cL_law 395 = .ok (.invokestatic 63, 3) := by decide +kernel
theorem dL_law_398 : decode cL_law 398 = .ok (.ifCond .ge 7, 3) := by decide +kernel
theorem dL_law_401 : decode cL_law 401 = .ok (.iload 13, 2) := by decide +kernel
theorem dL_law_403 : decode cL_law 403 = .ok (.istore 12, 2) := by decide +kernel
theorem dL_law_405 : decode cL_law 405 = .ok (.iload 12, 2) := by decide +kernel
theorem dL_law_407 : decode cL_law 407 = .ok (.ifCond .lt 6, 3) := by decide +kernel
theorem dL_law_410 : decode cL_law 410 = .ok (.goto 49, 3) := by decide +kernel
theorem dL_law_413 : decode cL_law 413 = .ok (.aload_n 2, 1) := by decide +kernel
theorem dL_law_414 : decode cL_law 414 = .ok (.iload 8, 2) := by decide +kernel
theorem dL_law_416 : decode cL_law 416 = .ok (.iload 15, 2) := by decide +kernel
theorem dL_law_418 : decode cL_law 418 = .ok (.invokestatic 63, 3) := by decide +kernel
theorem dL_law_421 : decode cL_law 421 = .ok (.istore 8, 2) := by decide +kernel
theorem dL_law_423 : decode cL_law 423 = .ok (.iload 9, 2) := by decide +kernel
theorem dL_law_425 : decode cL_law 425 = .ok (.iload 15, 2) := by decide +kernel
theorem dL_law_427 : decode cL_law 427 = .ok (.iconst 4, 1) := by decide +kernel
theorem dL_law_428 : decode cL_law 428 = .ok (.if_icmp .ne 7, 3) := by decide +kernel
theorem dL_law_431 : decode cL_law 431 = .ok (.iconst 3, 1) := by decide +kernel
theorem dL_law_432 : decode cL_law 432 = .ok (.goto 4, 3) := by decide +kernel
theorem dL_law_435 : decode cL_law 435 = .ok (.iconst 1, 1) := by decide +kernel
theorem dL_law_436 : decode cL_law 436 = .ok (.iadd, 1) := by decide +kernel
theorem dL_law_437 : decode cL_law 437 = .ok (.istore 9, 2) := by decide +kernel
theorem dL_law_439 : decode cL_law 439 = .ok (.iload 15, 2) := by decide +kernel
theorem dL_law_441 : decode cL_law 441 = .ok (.iconst 1, 1) := by decide +kernel
theorem dL_law_442 : decode cL_law 442 = .ok (.if_icmp .ne 9, 3) := by decide +kernel
theorem dL_law_445 : decode cL_law 445 = .ok (.iconst 1, 1) := by decide +kernel
theorem dL_law_446 : decode cL_law 446 = .ok (.iload 10, 2) := by decide +kernel
theorem dL_law_448 : decode cL_law 448 = .ok (.isub, 1) := by decide +kernel
theorem dL_law_449 : decode cL_law 449 = .ok (.istore 10, 2) := by decide +kernel
theorem dL_law_451 : decode cL_law 451 = .ok (.iload 15, 2) := by decide +kernel
theorem dL_law_453 : decode cL_law 453 = .ok (.ifCond .ne 6, 3) := by decide +kernel
theorem dL_law_456 : decode cL_law 456 = .ok (.iinc 11 1, 3) := by decide +kernel
theorem dL_law_459 : decode cL_law 459 = .ok (.iinc 13 1, 3) := by decide +kernel
theorem dL_law_462 : decode cL_law 462 = .ok (.goto (-189), 3) := by decide +kernel
theorem dL_law_465 : decode cL_law 465 = .ok (.bipush (-100), 2) := by decide +kernel
theorem dL_law_467 : decode cL_law 467 = .ok (.iload 12, 2) := by decide +kernel
theorem dL_law_469 : decode cL_law 469 = .ok (.isub, 1) := by decide +kernel
theorem dL_law_470 : decode cL_law 470 = .ok (.istore 13, 2) := by decide +kernel
theorem dL_law_472 : decode cL_law 472 = .ok (.aload_n 1, 1) := by decide +kernel
theorem dL_law_473 : decode cL_law 473 = .ok (.iconst 1, 1) := by decide +kernel
theorem dL_law_474 : decode cL_law 474 = .ok (.iconst 0, 1) := by decide +kernel
theorem dL_law_475 : decode cL_law 475 = .ok (.iconst 2, 1) := by decide +kernel
theorem dL_law_476 : decode cL_law 476 = .ok (.iload 7, 2) := by decide +kernel
theorem dL_law_478 : decode cL_law 478 = .ok (.iconst 1, 1) := by decide +kernel
theorem dL_law_479 : decode cL_law 479 = .ok (.invokevirtual 67, 3) := by decide +kernel
theorem dL_law_482 : decode cL_law 482 = .ok (.iload 12, 2) := by decide +kernel
theorem dL_law_484 : decode cL_law 484 = .ok (.if_icmp .ne 195, 3) := by decide +kernel
theorem dL_law_487 : decode cL_law 487 = .ok (.aload_n 1, 1) := by decide +kernel
theorem dL_law_488 : decode cL_law 488 = .ok (.iconst 1, 1) := by decide +kernel
theorem dL_law_489 : decode cL_law 489 = .ok (.iconst 0, 1) := by decide +kernel
theorem dL_law_490 : decode cL_law 490 = .ok (.iconst 2, 1) := by decide +kernel
theorem dL_law_491 : decode cL_law 491 = .ok (.iload 7, 2) := by decide +kernel
theorem dL_law_493 : decode cL_law 493 = .ok (.iconst 0, 1) := by decide +kernel
theorem dL_law_494 : decode cL_law 494 = .ok (.invokevirtual 67, 3) := by decide +kernel
theorem dL_law_497 : decode cL_law 497 = .ok (.iload 12, 2) := by decide +kernel
theorem dL_law_499 : decode cL_law 499 = .ok (.ifCond .ge 8, 3) := by decide +kernel
theorem dL_law_502 : decode cL_law 502 = .ok (.iload 9, 2) := by decide +kernel
theorem dL_law_504 : decode cL_law 504 = .ok (.goto 5, 3) := by decide +kernel
theorem dL_law_507 : decode cL_law 507 = .ok (.iload 13, 2) := by decide +kernel
theorem dL_law_509 : decode cL_law 509 = .ok (.if_icmp .ne 170, 3) := by decide +kernel
theorem dL_law_512 : decode cL_law 512 = .ok (.aload_n 1, 1) := by decide +kernel
theorem dL_law_513 : decode cL_law 513 = .ok (.iconst 1, 1) := by decide +kernel
theorem dL_law_514 : decode cL_law 514 = .ok (.iconst 0, 1) := by decide +kernel
theorem dL_law_515 : decode cL_law 515 = .ok (.iconst 2, 1) := by decide +kernel
theorem dL_law_516 : decode cL_law 516 = .ok (.iload 7, 2) := by decide +kernel
theorem dL_law_518 : decode cL_law 518 = .ok (.iconst 2, 1) := by decide +kernel
theorem dL_law_519 : decode cL_law 519 = .ok (.invokevirtual 67, 3) := by decide +kernel
theorem dL_law_522 : decode cL_law 522 = .ok (.iload 12, 2) := by decide +kernel
theorem dL_law_524 : decode cL_law 524 = .ok (.ifCond .ge 11, 3) := by decide +kernel
theorem dL_law_527 : decode cL_law 527 = .ok (.iload 8, 2) := by decide +kernel
theorem dL_law_529 : decode cL_law 529 = .ok (.bipush 84, 2) := by decide +kernel
theorem dL_law_531 : decode cL_law 531 = .ok (.idiv, 1) := by decide +kernel
theorem dL_law_532 : decode cL_law 532 = .ok (.goto 5, 3) := by decide +kernel
theorem dL_law_535 : decode cL_law 535 = .ok (.iload 13, 2) := by decide +kernel
theorem dL_law_537 : decode cL_law 537 = .ok (.if_icmp .ne 142, 3) := by decide +kernel
theorem dL_law_540 : decode cL_law 540 = .ok (.aload_n 1, 1) := by decide +kernel
