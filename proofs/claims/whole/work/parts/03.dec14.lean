theorem d_LA_law_462 : decode code 462 = .ok (.iadd, 1) := by decide +kernel
theorem d_LA_law_463 : decode code 463 = .ok (.iaload, 1) := by decide +kernel
theorem d_LA_law_464 : decode code 464 = .ok (.aload_n 0, 1) := by decide +kernel
theorem d_LA_law_465 : decode code 465 = .ok (.iload_n 3, 1) := by decide +kernel
theorem d_LA_law_466 : decode code 466 = .ok (.iconst 2, 1) := by decide +kernel
theorem d_LA_law_467 : decode code 467 = .ok (.iadd, 1) := by decide +kernel
theorem d_LA_law_468 : decode code 468 = .ok (.iaload, 1) := by decide +kernel
theorem d_LA_law_469 : decode code 469 = .ok (.invokevirtual 65, 3) := by decide +kernel
theorem d_LA_law_472 : decode code 472 = .ok (.aload_n 2, 1) := by decide +kernel
theorem d_LA_law_473 : decode code 473 = .ok (.aload_n 0, 1) := by decide +kernel
theorem d_LA_law_474 : decode code 474 = .ok (.iload_n 3, 1) := by decide +kernel
theorem d_LA_law_475 : decode code 475 = .ok (.iconst 1, 1) := by decide +kernel
theorem d_LA_law_476 : decode code 476 = .ok (.iadd, 1) := by decide +kernel
theorem d_LA_law_477 : decode code 477 = .ok (.iaload, 1) := by decide +kernel
theorem d_LA_law_478 : decode code 478 = .ok (.aload_n 0, 1) := by decide +kernel
theorem d_LA_law_479 : decode code 479 = .ok (.iload_n 3, 1) := by decide +kernel
theorem d_LA_law_480 : decode code 480 = .ok (.iconst 2, 1) := by decide +kernel
theorem d_LA_law_481 : decode code 481 = .ok (.iadd, 1) := by decide +kernel
theorem d_LA_law_482 : decode code 482 = .ok (.iaload, 1) := by decide +kernel
theorem d_LA_law_483 : decode code 483 = .ok (.invokevirtual 68, 3) := by decide +kernel
theorem d_LA_law_486 : decode code 486 = .ok (.if_icmp .eq 84, 3) := by decide +kernel
theorem d_LA_law_489 : decode code 489 = .ok (.iconst 0, 1) := by decide +kernel
theorem d_LA_law_490 : decode code 490 = .ok (.ireturn, 1) := by decide +kernel
theorem d_LA_law_491 : decode code 491 = .ok (.aload_n 1, 1) := by decide +kernel
theorem d_LA_law_492 : decode code 492 = .ok (.aload_n 0, 1) := by decide +kernel
theorem d_LA_law_493 : decode code 493 = .ok (.iload_n 3, 1) := by decide +kernel
theorem d_LA_law_494 : decode code 494 = .ok (.iconst 1, 1) := by decide +kernel
theorem d_LA_law_495 : decode code 495 = .ok (.iadd, 1) := by decide +kernel
theorem d_LA_law_496 : decode code 496 = .ok (.iaload, 1) := by decide +kernel
theorem d_LA_law_497 : decode code 497 = .ok (.aload_n 0, 1) := by decide +kernel
theorem d_LA_law_498 : decode code 498 = .ok (.iload_n 3, 1) := by decide +kernel
theorem d_LA_law_499 : decode code 499 = .ok (.iconst 2, 1) := by decide +kernel
theorem d_LA_law_500 : decode code 500 = .ok (.iadd, 1) := by decide +kernel
theorem d_LA_law_501 : decode code 501 = .ok (.iaload, 1) := by decide +kernel
theorem d_LA_law_502 : decode code 502 = .ok (.invokevirtual 69, 3) := by decide +kernel
theorem d_LA_law_505 : decode code 505 = .ok (.aload_n 2, 1) := by decide +kernel
theorem d_LA_law_506 : decode code 506 = .ok (.aload_n 0, 1) := by decide +kernel
theorem d_LA_law_507 : decode code 507 = .ok (.iload_n 3, 1) := by decide +kernel
theorem d_LA_law_508 : decode code 508 = .ok (.iconst 1, 1) := by decide +kernel
theorem d_LA_law_509 : decode code 509 = .ok (.iadd, 1) := by decide +kernel
theorem d_LA_law_510 : decode code 510 = .ok (.iaload, 1) := by decide +kernel
theorem d_LA_law_511 : decode code 511 = .ok (.aload_n 0, 1) := by decide +kernel
theorem d_LA_law_512 : decode code 512 = .ok (.iload_n 3, 1) := by decide +kernel
theorem d_LA_law_513 : decode code 513 = .ok (.iconst 2, 1) := by decide +kernel
theorem d_LA_law_514 : decode code 514 = .ok (.iadd, 1) := by decide +kernel
theorem d_LA_law_515 : decode code 515 = .ok (.iaload, 1) := by decide +kernel
theorem d_LA_law_516 : decode code 516 = .ok (.invokevirtual 72, 3) := by decide +kernel
theorem d_LA_law_519 : decode code 519 = .ok (.if_icmp .eq 51, 3) := by decide +kernel
theorem d_LA_law_522 : decode code 522 = .ok (.iconst 0, 1) := by decide +kernel
theorem d_LA_law_523 : decode code 523 = .ok (.ireturn, 1) := by decide +kernel
theorem d_LA_law_524 : decode code 524 = .ok (.aload_n 1, 1) := by decide +kernel
theorem d_LA_law_525 : decode code 525 = .ok (.aload_n 0, 1) := by decide +kernel
theorem d_LA_law_526 : decode code 526 = .ok (.iload_n 3, 1) := by decide +kernel
theorem d_LA_law_527 : decode code 527 = .ok (.iconst 1, 1) := by decide +kernel
theorem d_LA_law_528 : decode code 528 = .ok (.iadd, 1) := by decide +kernel
theorem d_LA_law_529 : decode code 529 = .ok (.iaload, 1) := by decide +kernel
theorem d_LA_law_530 : decode code 530 = .ok (.invokevirtual 73, 3) := by decide +kernel
theorem d_LA_law_533 : decode code 533 = .ok (.aload_n 2, 1) := by decide +kernel
theorem d_LA_law_534 : decode code 534 = .ok (.aload_n 0, 1) := by decide +kernel
theorem d_LA_law_535 : decode code 535 = .ok (.iload_n 3, 1) := by decide +kernel
theorem d_LA_law_536 : decode code 536 = .ok (.iconst 1, 1) := by decide +kernel
theorem d_LA_law_537 : decode code 537 = .ok (.iadd, 1) := by decide +kernel
theorem d_LA_law_538 : decode code 538 = .ok (.iaload, 1) := by decide +kernel
theorem d_LA_law_539 : decode code 539 = .ok (.invokevirtual 76, 3) := by decide +kernel
theorem d_LA_law_542 : decode code 542 = .ok (.if_icmp .eq 28, 3) := by decide +kernel
theorem d_LA_law_545 : decode code 545 = .ok (.iconst 0, 1) := by decide +kernel
theorem d_LA_law_546 : decode code 546 = .ok (.ireturn, 1) := by decide +kernel
theorem d_LA_law_547 : decode code 547 = .ok (.aload_n 1, 1) := by decide +kernel
theorem d_LA_law_548 : decode code 548 = .ok (.aload_n 0, 1) := by decide +kernel
theorem d_LA_law_549 : decode code 549 = .ok (.iload_n 3, 1) := by decide +kernel
theorem d_LA_law_550 : decode code 550 = .ok (.iconst 1, 1) := by decide +kernel
theorem d_LA_law_551 : decode code 551 = .ok (.iadd, 1) := by decide +kernel
theorem d_LA_law_552 : decode code 552 = .ok (.iaload, 1) := by decide +kernel
theorem d_LA_law_553 : decode code 553 = .ok (.invokevirtual 77, 3) := by decide +kernel
theorem d_LA_law_556 : decode code 556 = .ok (.aload_n 2, 1) := by decide +kernel
theorem d_LA_law_557 : decode code 557 = .ok (.aload_n 0, 1) := by decide +kernel
theorem d_LA_law_558 : decode code 558 = .ok (.iload_n 3, 1) := by decide +kernel
theorem d_LA_law_559 : decode code 559 = .ok (.iconst 1, 1) := by decide +kernel
theorem d_LA_law_560 : decode code 560 = .ok (.iadd, 1) := by decide +kernel
theorem d_LA_law_561 : decode code 561 = .ok (.iaload, 1) := by decide +kernel
theorem d_LA_law_562 : decode code 562 = .ok (.invokevirtual 80, 3) := by decide +kernel
theorem d_LA_law_565 : decode code 565 = .ok (.if_icmp .eq 5, 3) := by decide +kernel
theorem d_LA_law_568 : decode code 568 = .ok (.iconst 0, 1) := by decide +kernel
theorem d_LA_law_569 : decode code 569 = .ok (.ireturn, 1) := by decide +kernel
theorem d_LA_law_570 : decode code 570 = .ok (.iinc 3 4, 3) := by decide +kernel
theorem d_LA_law_573 : decode code 573 = .ok (.goto (-555), 3) := by decide +kernel
theorem d_LA_law_576 : decode code 576 = .ok (.iconst 1, 1) := by decide +kernel
theorem d_LA_law_577 : decode code 577 = .ok (.ireturn, 1) := by decide +kernel
