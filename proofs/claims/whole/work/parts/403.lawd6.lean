theorem d_Law_law_470 : decode code 470 = .ok (.iadd, 1) := by decide +kernel
theorem d_Law_law_471 : decode code 471 = .ok (.iaload, 1) := by decide +kernel
theorem d_Law_law_472 : decode code 472 = .ok (.invokevirtual 64, 3) := by decide +kernel
theorem d_Law_law_475 : decode code 475 = .ok (.if_icmp .eq 216, 3) := by decide +kernel
theorem d_Law_law_478 : decode code 478 = .ok (.iconst 0, 1) := by decide +kernel
theorem d_Law_law_479 : decode code 479 = .ok (.ireturn, 1) := by decide +kernel
theorem d_Law_law_480 : decode code 480 = .ok (.aload_n 1, 1) := by decide +kernel
theorem d_Law_law_481 : decode code 481 = .ok (.aload_n 0, 1) := by decide +kernel
theorem d_Law_law_482 : decode code 482 = .ok (.iload_n 3, 1) := by decide +kernel
theorem d_Law_law_483 : decode code 483 = .ok (.iconst 1, 1) := by decide +kernel
theorem d_Law_law_484 : decode code 484 = .ok (.iadd, 1) := by decide +kernel
theorem d_Law_law_485 : decode code 485 = .ok (.iaload, 1) := by decide +kernel
theorem d_Law_law_486 : decode code 486 = .ok (.invokevirtual 65, 3) := by decide +kernel
theorem d_Law_law_489 : decode code 489 = .ok (.aload_n 2, 1) := by decide +kernel
theorem d_Law_law_490 : decode code 490 = .ok (.aload_n 0, 1) := by decide +kernel
theorem d_Law_law_491 : decode code 491 = .ok (.iload_n 3, 1) := by decide +kernel
theorem d_Law_law_492 : decode code 492 = .ok (.iconst 1, 1) := by decide +kernel
theorem d_Law_law_493 : decode code 493 = .ok (.iadd, 1) := by decide +kernel
theorem d_Law_law_494 : decode code 494 = .ok (.iaload, 1) := by decide +kernel
theorem d_Law_law_495 : decode code 495 = .ok (.invokevirtual 68, 3) := by decide +kernel
theorem d_Law_law_498 : decode code 498 = .ok (.if_icmp .eq 193, 3) := by decide +kernel
theorem d_Law_law_501 : decode code 501 = .ok (.iconst 0, 1) := by decide +kernel
theorem d_Law_law_502 : decode code 502 = .ok (.ireturn, 1) := by decide +kernel
theorem d_Law_law_503 : decode code 503 = .ok (.aload_n 1, 1) := by decide +kernel
theorem d_Law_law_504 : decode code 504 = .ok (.aload_n 0, 1) := by decide +kernel
theorem d_Law_law_505 : decode code 505 = .ok (.iload_n 3, 1) := by decide +kernel
theorem d_Law_law_506 : decode code 506 = .ok (.iconst 1, 1) := by decide +kernel
theorem d_Law_law_507 : decode code 507 = .ok (.iadd, 1) := by decide +kernel
theorem d_Law_law_508 : decode code 508 = .ok (.iaload, 1) := by decide +kernel
theorem d_Law_law_509 : decode code 509 = .ok (.aload_n 0, 1) := by decide +kernel
theorem d_Law_law_510 : decode code 510 = .ok (.iload_n 3, 1) := by decide +kernel
theorem d_Law_law_511 : decode code 511 = .ok (.iconst 2, 1) := by decide +kernel
theorem d_Law_law_512 : decode code 512 = .ok (.iadd, 1) := by decide +kernel
theorem d_Law_law_513 : decode code 513 = .ok (.iaload, 1) := by decide +kernel
theorem d_Law_law_514 : decode code 514 = .ok (.invokevirtual 69, 3) := by decide +kernel
theorem d_Law_law_517 : decode code 517 = .ok (.aload_n 2, 1) := by decide +kernel
theorem d_Law_law_518 : decode code 518 = .ok (.aload_n 0, 1) := by decide +kernel
theorem d_Law_law_519 : decode code 519 = .ok (.iload_n 3, 1) := by decide +kernel
theorem d_Law_law_520 : decode code 520 = .ok (.iconst 1, 1) := by decide +kernel
theorem d_Law_law_521 : decode code 521 = .ok (.iadd, 1) := by decide +kernel
theorem d_Law_law_522 : decode code 522 = .ok (.iaload, 1) := by decide +kernel
theorem d_Law_law_523 : decode code 523 = .ok (.aload_n 0, 1) := by decide +kernel
theorem d_Law_law_524 : decode code 524 = .ok (.iload_n 3, 1) := by decide +kernel
theorem d_Law_law_525 : decode code 525 = .ok (.iconst 2, 1) := by decide +kernel
theorem d_Law_law_526 : decode code 526 = .ok (.iadd, 1) := by decide +kernel
theorem d_Law_law_527 : decode code 527 = .ok (.iaload, 1) := by decide +kernel
theorem d_Law_law_528 : decode code 528 = .ok (.invokevirtual 72, 3) := by decide +kernel
theorem d_Law_law_531 : decode code 531 = .ok (.if_icmp .eq 160, 3) := by decide +kernel
theorem d_Law_law_534 : decode code 534 = .ok (.iconst 0, 1) := by decide +kernel
theorem d_Law_law_535 : decode code 535 = .ok (.ireturn, 1) := by decide +kernel
