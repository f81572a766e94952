theorem d_L_law_415 : decode c_L_law 415 = .ok (.goto 634, 3) := by decide +kernel
theorem d_L_law_418 : decode c_L_law 418 = .ok (.aload_n 1, 1) := by decide +kernel
theorem d_L_law_419 : decode c_L_law 419 = .ok (.aload_n 0, 1) := by decide +kernel
theorem d_L_law_420 : decode c_L_law 420 = .ok (.iload 4, 2) := by decide +kernel
theorem d_L_law_422 : decode c_L_law 422 = .ok (.iconst 1, 1) := by decide +kernel
theorem d_L_law_423 : decode c_L_law 423 = .ok (.iadd, 1) := by decide +kernel
theorem d_L_law_424 : decode c_L_law 424 = .ok (.iaload, 1) := by decide +kernel
theorem d_L_law_425 : decode c_L_law 425 = .ok (.aload_n 0, 1) := by decide +kernel
theorem d_L_law_426 : decode c_L_law 426 = .ok (.iload 4, 2) := by decide +kernel
theorem d_L_law_428 : decode c_L_law 428 = .ok (.iconst 2, 1) := by decide +kernel
theorem d_L_law_429 : decode c_L_law 429 = .ok (.iadd, 1) := by decide +kernel
theorem d_L_law_430 : decode c_L_law 430 = .ok (.iaload, 1) := by decide +kernel
theorem d_L_law_431 : decode c_L_law 431 = .ok (.aload_n 3, 1) := by decide +kernel
theorem d_L_law_432 : decode c_L_law 432 = .ok (.invokestatic 98, 3) := by decide +kernel
theorem d_L_law_435 : decode c_L_law 435 = .ok (.istore 5, 2) := by decide +kernel
theorem d_L_law_437 : decode c_L_law 437 = .ok (.aload_n 2, 1) := by decide +kernel
theorem d_L_law_438 : decode c_L_law 438 = .ok (.aload_n 0, 1) := by decide +kernel
theorem d_L_law_439 : decode c_L_law 439 = .ok (.iload 4, 2) := by decide +kernel
theorem d_L_law_441 : decode c_L_law 441 = .ok (.iconst 1, 1) := by decide +kernel
theorem d_L_law_442 : decode c_L_law 442 = .ok (.iadd, 1) := by decide +kernel
theorem d_L_law_443 : decode c_L_law 443 = .ok (.iaload, 1) := by decide +kernel
theorem d_L_law_444 : decode c_L_law 444 = .ok (.aload_n 0, 1) := by decide +kernel
theorem d_L_law_445 : decode c_L_law 445 = .ok (.iload 4, 2) := by decide +kernel
theorem d_L_law_447 : decode c_L_law 447 = .ok (.iconst 2, 1) := by decide +kernel
theorem d_L_law_448 : decode c_L_law 448 = .ok (.iadd, 1) := by decide +kernel
theorem d_L_law_449 : decode c_L_law 449 = .ok (.iaload, 1) := by decide +kernel
theorem d_L_law_450 : decode c_L_law 450 = .ok (.invokevirtual 100, 3) := by decide +kernel
theorem d_L_law_453 : decode c_L_law 453 = .ok (.istore 6, 2) := by decide +kernel
theorem d_L_law_455 : decode c_L_law 455 = .ok (.aload_n 2, 1) := by decide +kernel
theorem d_L_law_456 : decode c_L_law 456 = .ok (.invokevirtual 80, 3) := by decide +kernel
theorem d_L_law_459 : decode c_L_law 459 = .ok (.iload 5, 2) := by decide +kernel
theorem d_L_law_461 : decode c_L_law 461 = .ok (.if_icmp .eq 5, 3) := by decide +kernel
theorem d_L_law_464 : decode c_L_law 464 = .ok (.iconst 0, 1) := by decide +kernel
theorem d_L_law_465 : decode c_L_law 465 = .ok (.ireturn, 1) := by decide +kernel
theorem d_L_law_466 : decode c_L_law 466 = .ok (.iload 5, 2) := by decide +kernel
theorem d_L_law_468 : decode c_L_law 468 = .ok (.ifCond .ne 15, 3) := by decide +kernel
theorem d_L_law_471 : decode c_L_law 471 = .ok (.aload_n 3, 1) := by decide +kernel
theorem d_L_law_472 : decode c_L_law 472 = .ok (.iconst 0, 1) := by decide +kernel
theorem d_L_law_473 : decode c_L_law 473 = .ok (.laload, 1) := by decide +kernel
theorem d_L_law_474 : decode c_L_law 474 = .ok (.iload 6, 2) := by decide +kernel
theorem d_L_law_476 : decode c_L_law 476 = .ok (.i2l, 1) := by decide +kernel
theorem d_L_law_477 : decode c_L_law 477 = .ok (.lcmp, 1) := by decide +kernel
theorem d_L_law_478 : decode c_L_law 478 = .ok (.ifCond .eq 5, 3) := by decide +kernel
theorem d_L_law_481 : decode c_L_law 481 = .ok (.iconst 0, 1) := by decide +kernel
theorem d_L_law_482 : decode c_L_law 482 = .ok (.ireturn, 1) := by decide +kernel
theorem d_L_law_483 : decode c_L_law 483 = .ok (.goto 566, 3) := by decide +kernel
theorem d_L_law_486 : decode c_L_law 486 = .ok (.aload_n 1, 1) := by decide +kernel
theorem d_L_law_487 : decode c_L_law 487 = .ok (.invokevirtual 101, 3) := by decide +kernel
theorem d_L_law_490 : decode c_L_law 490 = .ok (.aload_n 2, 1) := by decide +kernel
theorem d_L_law_491 : decode c_L_law 491 = .ok (.invokevirtual 104, 3) := by decide +kernel
theorem d_L_law_494 : decode c_L_law 494 = .ok (.if_icmp .eq 555, 3) := by decide +kernel
theorem d_L_law_497 : decode c_L_law 497 = .ok (.iconst 0, 1) := by decide +kernel
theorem d_L_law_498 : decode c_L_law 498 = .ok (.ireturn, 1) := by decide +kernel
theorem d_L_law_499 : decode c_L_law 499 = .ok (.aload_n 1, 1) := by decide +kernel
theorem d_L_law_500 : decode c_L_law 500 = .ok (.aload_n 0, 1) := by decide +kernel
theorem d_L_law_501 : decode c_L_law 501 = .ok (.iload 4, 2) := by decide +kernel
theorem d_L_law_503 : decode c_L_law 503 = .ok (.iconst 1, 1) := by decide +kernel
theorem d_L_law_504 : decode c_L_law 504 = .ok (.iadd, 1) := by decide +kernel
theorem d_L_law_505 : decode c_L_law 505 = .ok (.iaload, 1) := by decide +kernel
theorem d_L_law_506 : decode c_L_law 506 = .ok (.aload_n 3, 1) := by decide +kernel
theorem d_L_law_507 : decode c_L_law 507 = .ok (.invokestatic 105, 3) := by decide +kernel
theorem d_L_law_510 : decode c_L_law 510 = .ok (.istore 5, 2) := by decide +kernel
theorem d_L_law_512 : decode c_L_law 512 = .ok (.aload_n 2, 1) := by decide +kernel
theorem d_L_law_513 : decode c_L_law 513 = .ok (.aload_n 0, 1) := by decide +kernel
theorem d_L_law_514 : decode c_L_law 514 = .ok (.iload 4, 2) := by decide +kernel
theorem d_L_law_516 : decode c_L_law 516 = .ok (.iconst 1, 1) := by decide +kernel
theorem d_L_law_517 : decode c_L_law 517 = .ok (.iadd, 1) := by decide +kernel
theorem d_L_law_518 : decode c_L_law 518 = .ok (.iaload, 1) := by decide +kernel
theorem d_L_law_519 : decode c_L_law 519 = .ok (.invokevirtual 107, 3) := by decide +kernel
theorem d_L_law_522 : decode c_L_law 522 = .ok (.istore 6, 2) := by decide +kernel
theorem d_L_law_524 : decode c_L_law 524 = .ok (.aload_n 2, 1) := by decide +kernel
theorem d_L_law_525 : decode c_L_law 525 = .ok (.invokevirtual 80, 3) := by decide +kernel
theorem d_L_law_528 : decode c_L_law 528 = .ok (.iload 5, 2) := by decide +kernel
theorem d_L_law_530 : decode c_L_law 530 = .ok (.if_icmp .eq 5, 3) := by decide +kernel
theorem d_L_law_533 : decode c_L_law 533 = .ok (.iconst 0, 1) := by decide +kernel
theorem d_L_law_534 : decode c_L_law 534 = .ok (.ireturn, 1) := by decide +kernel
theorem d_L_law_535 : decode c_L_law 535 = .ok (.iload 5, 2) := by decide +kernel
theorem d_L_law_537 : decode c_L_law 537 = .ok (.ifCond .ne 15, 3) := by decide +kernel
theorem d_L_law_540 : decode c_L_law 540 = .ok (.aload_n 3, 1) := by decide +kernel
theorem d_L_law_541 : decode c_L_law 541 = .ok (.iconst 0, 1) := by decide +kernel
theorem d_L_law_542 : decode c_L_law 542 = .ok (.laload, 1) := by decide +kernel
theorem d_L_law_543 : decode c_L_law 543 = .ok (.iload 6, 2) := by decide +kernel
theorem d_L_law_545 : decode c_L_law 545 = .ok (.i2l, 1) := by decide +kernel
theorem d_L_law_546 : decode c_L_law 546 = .ok (.lcmp, 1) := by decide +kernel
theorem d_L_law_547 : decode c_L_law 547 = .ok (.ifCond .eq 5, 3) := by decide +kernel
theorem d_L_law_550 : decode c_L_law 550 = .ok (.iconst 0, 1) := by decide +kernel
theorem d_L_law_551 : decode c_L_law 551 = .ok (.ireturn, 1) := by decide +kernel
theorem d_L_law_552 : decode c_L_law 552 = .ok (.goto 497, 3) := by decide +kernel
theorem d_L_law_555 : decode c_L_law 555 = .ok (.aload_n 1, 1) := by decide +kernel
theorem d_L_law_556 : decode c_L_law 556 = .ok (.aload_n 0, 1) := by decide +kernel
theorem d_L_law_557 : decode c_L_law 557 = .ok (.iload 4, 2) := by decide +kernel
theorem d_L_law_559 : decode c_L_law 559 = .ok (.iconst 1, 1) := by decide +kernel
theorem d_L_law_560 : decode c_L_law 560 = .ok (.iadd, 1) := by decide +kernel
theorem d_L_law_561 : decode c_L_law 561 = .ok (.iaload, 1) := by decide +kernel
theorem d_L_law_562 : decode c_L_law 562 = .ok (.aload_n 0, 1) := by decide +kernel
theorem d_L_law_563 : decode c_L_law 563 = .ok (.iload 4, 2) := by decide +kernel
theorem d_L_law_565 : decode c_L_law 565 = .ok (.iconst 2, 1) := by decide +kernel
theorem d_L_law_566 : decode c_L_law 566 = .ok (.iadd, 1) := by decide +kernel
theorem d_L_law_567 : decode c_L_law 567 = .ok (.iaload, 1) := by decide +kernel
theorem d_L_law_568 : decode c_L_law 568 = .ok (.aload_n 0, 1) := by decide +kernel
theorem d_L_law_569 : decode c_L_law 569 = .ok (.iload 4, 2) := by decide +kernel
theorem d_L_law_571 : decode c_L_law 571 = .ok (.iconst 3, 1) := by decide +kernel
theorem d_L_law_572 : decode c_L_law 572 = .ok (.iadd, 1) := by decide +kernel
theorem d_L_law_573 : decode c_L_law 573 = .ok (.iaload, 1) := by decide +kernel
theorem d_L_law_574 : decode c_L_law 574 = .ok (.invokestatic 108, 3) := by decide +kernel
theorem d_L_law_577 : decode c_L_law 577 = .ok (.istore 5, 2) := by decide +kernel
theorem d_L_law_579 : decode c_L_law 579 = .ok (.aload_n 2, 1) := by decide +kernel
theorem d_L_law_580 : decode c_L_law 580 = .ok (.aload_n 0, 1) := by decide +kernel
theorem d_L_law_581 : decode c_L_law 581 = .ok (.iload 4, 2) := by decide +kernel
theorem d_L_law_583 : decode c_L_law 583 = .ok (.iconst 1, 1) := by decide +kernel
