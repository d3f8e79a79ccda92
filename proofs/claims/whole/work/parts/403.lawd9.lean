theorem d_Law_law_660 : decode code 660 = .ok (.iload_n 3, 1) := by decide +kernel
theorem d_Law_law_661 : decode code 661 = .ok (.iconst 1, 1) := by decide +kernel
theorem d_Law_law_662 : decode code 662 = .ok (.iadd, 1) := by decide +kernel
theorem d_Law_law_663 : decode code 663 = .ok (.iaload, 1) := by decide +kernel
theorem d_Law_law_664 : decode code 664 = .ok (.aload_n 0, 1) := by decide +kernel
theorem d_Law_law_665 : decode code 665 = .ok (.iload_n 3, 1) := by decide +kernel
theorem d_Law_law_666 : decode code 666 = .ok (.iconst 2, 1) := by decide +kernel
theorem d_Law_law_667 : decode code 667 = .ok (.iadd, 1) := by decide +kernel
theorem d_Law_law_668 : decode code 668 = .ok (.iaload, 1) := by decide +kernel
theorem d_Law_law_669 : decode code 669 = .ok (.invokevirtual 90, 3) := by decide +kernel
theorem d_Law_law_672 : decode code 672 = .ok (.aload_n 2, 1) := by decide +kernel
theorem d_Law_law_673 : decode code 673 = .ok (.aload_n 0, 1) := by decide +kernel
theorem d_Law_law_674 : decode code 674 = .ok (.iload_n 3, 1) := by decide +kernel
theorem d_Law_law_675 : decode code 675 = .ok (.iconst 1, 1) := by decide +kernel
theorem d_Law_law_676 : decode code 676 = .ok (.iadd, 1) := by decide +kernel
theorem d_Law_law_677 : decode code 677 = .ok (.iaload, 1) := by decide +kernel
theorem d_Law_law_678 : decode code 678 = .ok (.aload_n 0, 1) := by decide +kernel
theorem d_Law_law_679 : decode code 679 = .ok (.iload_n 3, 1) := by decide +kernel
theorem d_Law_law_680 : decode code 680 = .ok (.iconst 2, 1) := by decide +kernel
theorem d_Law_law_681 : decode code 681 = .ok (.iadd, 1) := by decide +kernel
theorem d_Law_law_682 : decode code 682 = .ok (.iaload, 1) := by decide +kernel
theorem d_Law_law_683 : decode code 683 = .ok (.invokevirtual 93, 3) := by decide +kernel
theorem d_Law_law_686 : decode code 686 = .ok (.if_icmp .eq 5, 3) := by decide +kernel
theorem d_Law_law_689 : decode code 689 = .ok (.iconst 0, 1) := by decide +kernel
theorem d_Law_law_690 : decode code 690 = .ok (.ireturn, 1) := by decide +kernel
theorem d_Law_law_691 : decode code 691 = .ok (.iinc 3 5, 3) := by decide +kernel
theorem d_Law_law_694 : decode code 694 = .ok (.goto (-676), 3) := by decide +kernel
theorem d_Law_law_697 : decode code 697 = .ok (.iconst 1, 1) := by decide +kernel
theorem d_Law_law_698 : decode code 698 = .ok (.ireturn, 1) := by decide +kernel
