theorem d_L_law_512 : decode code 512 = .ok (.iadd, 1) := by decide +kernel
theorem d_L_law_513 : decode code 513 = .ok (.iaload, 1) := by decide +kernel
theorem d_L_law_514 : decode code 514 = .ok (.aload_n 0, 1) := by decide +kernel
theorem d_L_law_515 : decode code 515 = .ok (.iload 4, 2) := by decide +kernel
theorem d_L_law_517 : decode code 517 = .ok (.iconst 2, 1) := by decide +kernel
theorem d_L_law_518 : decode code 518 = .ok (.iadd, 1) := by decide +kernel
theorem d_L_law_519 : decode code 519 = .ok (.iaload, 1) := by decide +kernel
theorem d_L_law_520 : decode code 520 = .ok (.invokevirtual 112, 3) := by decide +kernel
theorem d_L_law_523 : decode code 523 = .ok (.pop, 1) := by decide +kernel
theorem d_L_law_524 : decode code 524 = .ok (.goto 77, 3) := by decide +kernel
theorem d_L_law_527 : decode code 527 = .ok (.aload_n 1, 1) := by decide +kernel
theorem d_L_law_528 : decode code 528 = .ok (.aload_n 0, 1) := by decide +kernel
theorem d_L_law_529 : decode code 529 = .ok (.iload 4, 2) := by decide +kernel
theorem d_L_law_531 : decode code 531 = .ok (.iconst 1, 1) := by decide +kernel
theorem d_L_law_532 : decode code 532 = .ok (.iadd, 1) := by decide +kernel
theorem d_L_law_533 : decode code 533 = .ok (.iaload, 1) := by decide +kernel
theorem d_L_law_534 : decode code 534 = .ok (.aload_n 0, 1) := by decide +kernel
theorem d_L_law_535 : decode code 535 = .ok (.iload 4, 2) := by decide +kernel
theorem d_L_law_537 : decode code 537 = .ok (.iconst 2, 1) := by decide +kernel
theorem d_L_law_538 : decode code 538 = .ok (.iadd, 1) := by decide +kernel
theorem d_L_law_539 : decode code 539 = .ok (.iaload, 1) := by decide +kernel
theorem d_L_law_540 : decode code 540 = .ok (.aload_n 0, 1) := by decide +kernel
theorem d_L_law_541 : decode code 541 = .ok (.iload 4, 2) := by decide +kernel
theorem d_L_law_543 : decode code 543 = .ok (.iconst 3, 1) := by decide +kernel
theorem d_L_law_544 : decode code 544 = .ok (.iadd, 1) := by decide +kernel
theorem d_L_law_545 : decode code 545 = .ok (.iaload, 1) := by decide +kernel
theorem d_L_law_546 : decode code 546 = .ok (.invokevirtual 113, 3) := by decide +kernel
theorem d_L_law_549 : decode code 549 = .ok (.aload_n 2, 1) := by decide +kernel
theorem d_L_law_550 : decode code 550 = .ok (.aload_n 0, 1) := by decide +kernel
theorem d_L_law_551 : decode code 551 = .ok (.iload 4, 2) := by decide +kernel
theorem d_L_law_553 : decode code 553 = .ok (.iconst 1, 1) := by decide +kernel
theorem d_L_law_554 : decode code 554 = .ok (.iadd, 1) := by decide +kernel
theorem d_L_law_555 : decode code 555 = .ok (.iaload, 1) := by decide +kernel
theorem d_L_law_556 : decode code 556 = .ok (.aload_n 0, 1) := by decide +kernel
theorem d_L_law_557 : decode code 557 = .ok (.iload 4, 2) := by decide +kernel
theorem d_L_law_559 : decode code 559 = .ok (.iconst 2, 1) := by decide +kernel
theorem d_L_law_560 : decode code 560 = .ok (.iadd, 1) := by decide +kernel
theorem d_L_law_561 : decode code 561 = .ok (.iaload, 1) := by decide +kernel
theorem d_L_law_562 : decode code 562 = .ok (.aload_n 0, 1) := by decide +kernel
theorem d_L_law_563 : decode code 563 = .ok (.iload 4, 2) := by decide +kernel
theorem d_L_law_565 : decode code 565 = .ok (.iconst 3, 1) := by decide +kernel
theorem d_L_law_566 : decode code 566 = .ok (.iadd, 1) := by decide +kernel
theorem d_L_law_567 : decode code 567 = .ok (.iaload, 1) := by decide +kernel
theorem d_L_law_568 : decode code 568 = .ok (.invokevirtual 117, 3) := by decide +kernel
theorem d_L_law_571 : decode code 571 = .ok (.if_icmp .eq 30, 3) := by decide +kernel
theorem d_L_law_574 : decode code 574 = .ok (.iconst 0, 1) := by decide +kernel
theorem d_L_law_575 : decode code 575 = .ok (.ireturn, 1) := by decide +kernel
theorem d_L_law_576 : decode code 576 = .ok (.aload_n 1, 1) := by decide +kernel
theorem d_L_law_577 : decode code 577 = .ok (.aload_n 0, 1) := by decide +kernel
theorem d_L_law_578 : decode code 578 = .ok (.iload 4, 2) := by decide +kernel
theorem d_L_law_580 : decode code 580 = .ok (.iconst 1, 1) := by decide +kernel
theorem d_L_law_581 : decode code 581 = .ok (.iadd, 1) := by decide +kernel
theorem d_L_law_582 : decode code 582 = .ok (.iaload, 1) := by decide +kernel
theorem d_L_law_583 : decode code 583 = .ok (.invokevirtual 118, 3) := by decide +kernel
theorem d_L_law_586 : decode code 586 = .ok (.pop, 1) := by decide +kernel
theorem d_L_law_587 : decode code 587 = .ok (.aload_n 2, 1) := by decide +kernel
theorem d_L_law_588 : decode code 588 = .ok (.aload_n 0, 1) := by decide +kernel
theorem d_L_law_589 : decode code 589 = .ok (.iload 4, 2) := by decide +kernel
theorem d_L_law_591 : decode code 591 = .ok (.iconst 1, 1) := by decide +kernel
theorem d_L_law_592 : decode code 592 = .ok (.iadd, 1) := by decide +kernel
theorem d_L_law_593 : decode code 593 = .ok (.iaload, 1) := by decide +kernel
theorem d_L_law_594 : decode code 594 = .ok (.invokevirtual 122, 3) := by decide +kernel
theorem d_L_law_597 : decode code 597 = .ok (.pop, 1) := by decide +kernel
theorem d_L_law_598 : decode code 598 = .ok (.goto 3, 3) := by decide +kernel
theorem d_L_law_601 : decode code 601 = .ok (.iinc 4 5, 3) := by decide +kernel
theorem d_L_law_604 : decode code 604 = .ok (.goto (-581), 3) := by decide +kernel
theorem d_L_law_607 : decode code 607 = .ok (.iconst 1, 1) := by decide +kernel
theorem d_L_law_608 : decode code 608 = .ok (.ireturn, 1) := by decide +kernel
