theorem d_Law_law_592 : decode code 592 = .ok (.iconst 1, 1) := by decide +kernel
theorem d_Law_law_593 : decode code 593 = .ok (.iadd, 1) := by decide +kernel
theorem d_Law_law_594 : decode code 594 = .ok (.iaload, 1) := by decide +kernel
theorem d_Law_law_595 : decode code 595 = .ok (.invokevirtual 78, 3) := by decide +kernel
theorem d_Law_law_598 : decode code 598 = .ok (.aload_n 2, 1) := by decide +kernel
theorem d_Law_law_599 : decode code 599 = .ok (.aload_n 0, 1) := by decide +kernel
theorem d_Law_law_600 : decode code 600 = .ok (.iload_n 3, 1) := by decide +kernel
theorem d_Law_law_601 : decode code 601 = .ok (.iconst 1, 1) := by decide +kernel
theorem d_Law_law_602 : decode code 602 = .ok (.iadd, 1) := by decide +kernel
theorem d_Law_law_603 : decode code 603 = .ok (.iaload, 1) := by decide +kernel
theorem d_Law_law_604 : decode code 604 = .ok (.invokevirtual 81, 3) := by decide +kernel
theorem d_Law_law_607 : decode code 607 = .ok (.if_icmp .eq 84, 3) := by decide +kernel
theorem d_Law_law_610 : decode code 610 = .ok (.iconst 0, 1) := by decide +kernel
theorem d_Law_law_611 : decode code 611 = .ok (.ireturn, 1) := by decide +kernel
theorem d_Law_law_612 : decode code 612 = .ok (.aload_n 1, 1) := by decide +kernel
theorem d_Law_law_613 : decode code 613 = .ok (.aload_n 0, 1) := by decide +kernel
theorem d_Law_law_614 : decode code 614 = .ok (.iload_n 3, 1) := by decide +kernel
theorem d_Law_law_615 : decode code 615 = .ok (.iconst 1, 1) := by decide +kernel
theorem d_Law_law_616 : decode code 616 = .ok (.iadd, 1) := by decide +kernel
theorem d_Law_law_617 : decode code 617 = .ok (.iaload, 1) := by decide +kernel
theorem d_Law_law_618 : decode code 618 = .ok (.invokevirtual 82, 3) := by decide +kernel
theorem d_Law_law_621 : decode code 621 = .ok (.aload_n 2, 1) := by decide +kernel
theorem d_Law_law_622 : decode code 622 = .ok (.aload_n 0, 1) := by decide +kernel
theorem d_Law_law_623 : decode code 623 = .ok (.iload_n 3, 1) := by decide +kernel
theorem d_Law_law_624 : decode code 624 = .ok (.iconst 1, 1) := by decide +kernel
theorem d_Law_law_625 : decode code 625 = .ok (.iadd, 1) := by decide +kernel
theorem d_Law_law_626 : decode code 626 = .ok (.iaload, 1) := by decide +kernel
theorem d_Law_law_627 : decode code 627 = .ok (.invokevirtual 85, 3) := by decide +kernel
theorem d_Law_law_630 : decode code 630 = .ok (.if_icmp .eq 61, 3) := by decide +kernel
theorem d_Law_law_633 : decode code 633 = .ok (.iconst 0, 1) := by decide +kernel
theorem d_Law_law_634 : decode code 634 = .ok (.ireturn, 1) := by decide +kernel
theorem d_Law_law_635 : decode code 635 = .ok (.aload_n 1, 1) := by decide +kernel
theorem d_Law_law_636 : decode code 636 = .ok (.aload_n 0, 1) := by decide +kernel
theorem d_Law_law_637 : decode code 637 = .ok (.iload_n 3, 1) := by decide +kernel
theorem d_Law_law_638 : decode code 638 = .ok (.iconst 1, 1) := by decide +kernel
theorem d_Law_law_639 : decode code 639 = .ok (.iadd, 1) := by decide +kernel
theorem d_Law_law_640 : decode code 640 = .ok (.iaload, 1) := by decide +kernel
theorem d_Law_law_641 : decode code 641 = .ok (.invokevirtual 86, 3) := by decide +kernel
theorem d_Law_law_644 : decode code 644 = .ok (.aload_n 2, 1) := by decide +kernel
theorem d_Law_law_645 : decode code 645 = .ok (.aload_n 0, 1) := by decide +kernel
theorem d_Law_law_646 : decode code 646 = .ok (.iload_n 3, 1) := by decide +kernel
theorem d_Law_law_647 : decode code 647 = .ok (.iconst 1, 1) := by decide +kernel
theorem d_Law_law_648 : decode code 648 = .ok (.iadd, 1) := by decide +kernel
theorem d_Law_law_649 : decode code 649 = .ok (.iaload, 1) := by decide +kernel
theorem d_Law_law_650 : decode code 650 = .ok (.invokevirtual 89, 3) := by decide +kernel
theorem d_Law_law_653 : decode code 653 = .ok (.if_icmp .eq 38, 3) := by decide +kernel
theorem d_Law_law_656 : decode code 656 = .ok (.iconst 0, 1) := by decide +kernel
theorem d_Law_law_657 : decode code 657 = .ok (.ireturn, 1) := by decide +kernel
theorem d_Law_law_658 : decode code 658 = .ok (.aload_n 1, 1) := by decide +kernel
theorem d_Law_law_659 : decode code 659 = .ok (.aload_n 0, 1) := by decide +kernel
