theorem d_L0_law_628 : decode code 628 = .ok (.ifCond .eq 81, 3) := by decide +kernel
theorem d_L0_law_631 : decode code 631 = .ok (.iconst 0, 1) := by decide +kernel
theorem d_L0_law_632 : decode code 632 = .ok (.ireturn, 1) := by decide +kernel
theorem d_L0_law_633 : decode code 633 = .ok (.aload_n 1, 1) := by decide +kernel
theorem d_L0_law_634 : decode code 634 = .ok (.aload_n 0, 1) := by decide +kernel
theorem d_L0_law_635 : decode code 635 = .ok (.iload_n 3, 1) := by decide +kernel
theorem d_L0_law_636 : decode code 636 = .ok (.iconst 1, 1) := by decide +kernel
theorem d_L0_law_637 : decode code 637 = .ok (.iadd, 1) := by decide +kernel
theorem d_L0_law_638 : decode code 638 = .ok (.iaload, 1) := by decide +kernel
theorem d_L0_law_639 : decode code 639 = .ok (.aload_n 0, 1) := by decide +kernel
theorem d_L0_law_640 : decode code 640 = .ok (.iload_n 3, 1) := by decide +kernel
theorem d_L0_law_641 : decode code 641 = .ok (.iconst 2, 1) := by decide +kernel
theorem d_L0_law_642 : decode code 642 = .ok (.iadd, 1) := by decide +kernel
theorem d_L0_law_643 : decode code 643 = .ok (.iaload, 1) := by decide +kernel
theorem d_L0_law_644 : decode code 644 = .ok (.ifCond .eq 7, 3) := by decide +kernel
theorem d_L0_law_647 : decode code 647 = .ok (.iconst 1, 1) := by decide +kernel
theorem d_L0_law_648 : decode code 648 = .ok (.goto 4, 3) := by decide +kernel
theorem d_L0_law_651 : decode code 651 = .ok (.iconst 0, 1) := by decide +kernel
theorem d_L0_law_652 : decode code 652 = .ok (.invokevirtual 99, 3) := by decide +kernel
theorem d_L0_law_655 : decode code 655 = .ok (.aload_n 2, 1) := by decide +kernel
theorem d_L0_law_656 : decode code 656 = .ok (.aload_n 0, 1) := by decide +kernel
theorem d_L0_law_657 : decode code 657 = .ok (.iload_n 3, 1) := by decide +kernel
theorem d_L0_law_658 : decode code 658 = .ok (.iconst 1, 1) := by decide +kernel
theorem d_L0_law_659 : decode code 659 = .ok (.iadd, 1) := by decide +kernel
theorem d_L0_law_660 : decode code 660 = .ok (.iaload, 1) := by decide +kernel
theorem d_L0_law_661 : decode code 661 = .ok (.aload_n 0, 1) := by decide +kernel
theorem d_L0_law_662 : decode code 662 = .ok (.iload_n 3, 1) := by decide +kernel
theorem d_L0_law_663 : decode code 663 = .ok (.iconst 2, 1) := by decide +kernel
theorem d_L0_law_664 : decode code 664 = .ok (.iadd, 1) := by decide +kernel
theorem d_L0_law_665 : decode code 665 = .ok (.iaload, 1) := by decide +kernel
theorem d_L0_law_666 : decode code 666 = .ok (.ifCond .eq 7, 3) := by decide +kernel
theorem d_L0_law_669 : decode code 669 = .ok (.iconst 1, 1) := by decide +kernel
theorem d_L0_law_670 : decode code 670 = .ok (.goto 4, 3) := by decide +kernel
theorem d_L0_law_673 : decode code 673 = .ok (.iconst 0, 1) := by decide +kernel
theorem d_L0_law_674 : decode code 674 = .ok (.invokevirtual 103, 3) := by decide +kernel
theorem d_L0_law_677 : decode code 677 = .ok (.lcmp, 1) := by decide +kernel
theorem d_L0_law_678 : decode code 678 = .ok (.ifCond .eq 31, 3) := by decide +kernel
theorem d_L0_law_681 : decode code 681 = .ok (.iconst 0, 1) := by decide +kernel
theorem d_L0_law_682 : decode code 682 = .ok (.ireturn, 1) := by decide +kernel
theorem d_L0_law_683 : decode code 683 = .ok (.aload_n 1, 1) := by decide +kernel
theorem d_L0_law_684 : decode code 684 = .ok (.invokevirtual 104, 3) := by decide +kernel
theorem d_L0_law_687 : decode code 687 = .ok (.aload_n 2, 1) := by decide +kernel
theorem d_L0_law_688 : decode code 688 = .ok (.invokevirtual 107, 3) := by decide +kernel
theorem d_L0_law_691 : decode code 691 = .ok (.if_icmp .eq 18, 3) := by decide +kernel
theorem d_L0_law_694 : decode code 694 = .ok (.iconst 0, 1) := by decide +kernel
theorem d_L0_law_695 : decode code 695 = .ok (.ireturn, 1) := by decide +kernel
theorem d_L0_law_696 : decode code 696 = .ok (.aload_n 1, 1) := by decide +kernel
theorem d_L0_law_697 : decode code 697 = .ok (.invokevirtual 108, 3) := by decide +kernel
theorem d_L0_law_700 : decode code 700 = .ok (.aload_n 2, 1) := by decide +kernel
theorem d_L0_law_701 : decode code 701 = .ok (.invokevirtual 111, 3) := by decide +kernel
theorem d_L0_law_704 : decode code 704 = .ok (.if_icmp .eq 5, 3) := by decide +kernel
theorem d_L0_law_707 : decode code 707 = .ok (.iconst 0, 1) := by decide +kernel
theorem d_L0_law_708 : decode code 708 = .ok (.ireturn, 1) := by decide +kernel
theorem d_L0_law_709 : decode code 709 = .ok (.iinc 3 5, 3) := by decide +kernel
theorem d_L0_law_712 : decode code 712 = .ok (.goto (-654), 3) := by decide +kernel
theorem d_L0_law_715 : decode code 715 = .ok (.iconst 1, 1) := by decide +kernel
theorem d_L0_law_716 : decode code 716 = .ok (.ireturn, 1) := by decide +kernel
