theorem d_Law_law_536 : decode code 536 = .ok (.aload_n 1, 1) := by decide +kernel
theorem d_Law_law_537 : decode code 537 = .ok (.aload_n 0, 1) := by decide +kernel
theorem d_Law_law_538 : decode code 538 = .ok (.iload_n 3, 1) := by decide +kernel
theorem d_Law_law_539 : decode code 539 = .ok (.iconst 1, 1) := by decide +kernel
theorem d_Law_law_540 : decode code 540 = .ok (.iadd, 1) := by decide +kernel
theorem d_Law_law_541 : decode code 541 = .ok (.iaload, 1) := by decide +kernel
theorem d_Law_law_542 : decode code 542 = .ok (.aload_n 0, 1) := by decide +kernel
theorem d_Law_law_543 : decode code 543 = .ok (.iload_n 3, 1) := by decide +kernel
theorem d_Law_law_544 : decode code 544 = .ok (.iconst 2, 1) := by decide +kernel
theorem d_Law_law_545 : decode code 545 = .ok (.iadd, 1) := by decide +kernel
theorem d_Law_law_546 : decode code 546 = .ok (.iaload, 1) := by decide +kernel
theorem d_Law_law_547 : decode code 547 = .ok (.aload_n 0, 1) := by decide +kernel
theorem d_Law_law_548 : decode code 548 = .ok (.iload_n 3, 1) := by decide +kernel
theorem d_Law_law_549 : decode code 549 = .ok (.iconst 3, 1) := by decide +kernel
theorem d_Law_law_550 : decode code 550 = .ok (.iadd, 1) := by decide +kernel
theorem d_Law_law_551 : decode code 551 = .ok (.iaload, 1) := by decide +kernel
theorem d_Law_law_552 : decode code 552 = .ok (.aload_n 0, 1) := by decide +kernel
theorem d_Law_law_553 : decode code 553 = .ok (.iload_n 3, 1) := by decide +kernel
theorem d_Law_law_554 : decode code 554 = .ok (.iconst 4, 1) := by decide +kernel
theorem d_Law_law_555 : decode code 555 = .ok (.iadd, 1) := by decide +kernel
theorem d_Law_law_556 : decode code 556 = .ok (.iaload, 1) := by decide +kernel
theorem d_Law_law_557 : decode code 557 = .ok (.invokevirtual 73, 3) := by decide +kernel
theorem d_Law_law_560 : decode code 560 = .ok (.aload_n 2, 1) := by decide +kernel
theorem d_Law_law_561 : decode code 561 = .ok (.aload_n 0, 1) := by decide +kernel
theorem d_Law_law_562 : decode code 562 = .ok (.iload_n 3, 1) := by decide +kernel
theorem d_Law_law_563 : decode code 563 = .ok (.iconst 1, 1) := by decide +kernel
theorem d_Law_law_564 : decode code 564 = .ok (.iadd, 1) := by decide +kernel
theorem d_Law_law_565 : decode code 565 = .ok (.iaload, 1) := by decide +kernel
theorem d_Law_law_566 : decode code 566 = .ok (.aload_n 0, 1) := by decide +kernel
theorem d_Law_law_567 : decode code 567 = .ok (.iload_n 3, 1) := by decide +kernel
theorem d_Law_law_568 : decode code 568 = .ok (.iconst 2, 1) := by decide +kernel
theorem d_Law_law_569 : decode code 569 = .ok (.iadd, 1) := by decide +kernel
theorem d_Law_law_570 : decode code 570 = .ok (.iaload, 1) := by decide +kernel
theorem d_Law_law_571 : decode code 571 = .ok (.aload_n 0, 1) := by decide +kernel
theorem d_Law_law_572 : decode code 572 = .ok (.iload_n 3, 1) := by decide +kernel
theorem d_Law_law_573 : decode code 573 = .ok (.iconst 3, 1) := by decide +kernel
theorem d_Law_law_574 : decode code 574 = .ok (.iadd, 1) := by decide +kernel
theorem d_Law_law_575 : decode code 575 = .ok (.iaload, 1) := by decide +kernel
theorem d_Law_law_576 : decode code 576 = .ok (.aload_n 0, 1) := by decide +kernel
theorem d_Law_law_577 : decode code 577 = .ok (.iload_n 3, 1) := by decide +kernel
theorem d_Law_law_578 : decode code 578 = .ok (.iconst 4, 1) := by decide +kernel
theorem d_Law_law_579 : decode code 579 = .ok (.iadd, 1) := by decide +kernel
theorem d_Law_law_580 : decode code 580 = .ok (.iaload, 1) := by decide +kernel
theorem d_Law_law_581 : decode code 581 = .ok (.invokevirtual 77, 3) := by decide +kernel
theorem d_Law_law_584 : decode code 584 = .ok (.if_icmp .eq 107, 3) := by decide +kernel
theorem d_Law_law_587 : decode code 587 = .ok (.iconst 0, 1) := by decide +kernel
theorem d_Law_law_588 : decode code 588 = .ok (.ireturn, 1) := by decide +kernel
theorem d_Law_law_589 : decode code 589 = .ok (.aload_n 1, 1) := by decide +kernel
theorem d_Law_law_590 : decode code 590 = .ok (.aload_n 0, 1) := by decide +kernel
theorem d_Law_law_591 : decode code 591 = .ok (.iload_n 3, 1) := by decide +kernel
