/-! the law, instruction by instruction -/
theorem d_law_600 : decode code 600 = .ok (.iadd, 1) := by decide +kernel
theorem d_law_601 : decode code 601 = .ok (.iaload, 1) := by decide +kernel
theorem d_law_602 : decode code 602 = .ok (.invokevirtual 81, 3) := by decide +kernel
theorem d_law_605 : decode code 605 = .ok (.if_icmp .eq 703, 3) := by decide +kernel
theorem d_law_608 : decode code 608 = .ok (.iconst 0, 1) := by decide +kernel
theorem d_law_609 : decode code 609 = .ok (.ireturn, 1) := by decide +kernel
theorem d_law_610 : decode code 610 = .ok (.aload_n 1, 1) := by decide +kernel
theorem d_law_611 : decode code 611 = .ok (.aload_n 0, 1) := by decide +kernel
theorem d_law_612 : decode code 612 = .ok (.iload 4, 2) := by decide +kernel
theorem d_law_614 : decode code 614 = .ok (.iconst 1, 1) := by decide +kernel
theorem d_law_615 : decode code 615 = .ok (.iadd, 1) := by decide +kernel
theorem d_law_616 : decode code 616 = .ok (.iaload, 1) := by decide +kernel
theorem d_law_617 : decode code 617 = .ok (.invokevirtual 82, 3) := by decide +kernel
theorem d_law_620 : decode code 620 = .ok (.aload_n 2, 1) := by decide +kernel
theorem d_law_621 : decode code 621 = .ok (.aload_n 0, 1) := by decide +kernel
theorem d_law_622 : decode code 622 = .ok (.iload 4, 2) := by decide +kernel
theorem d_law_624 : decode code 624 = .ok (.iconst 1, 1) := by decide +kernel
theorem d_law_625 : decode code 625 = .ok (.iadd, 1) := by decide +kernel
theorem d_law_626 : decode code 626 = .ok (.iaload, 1) := by decide +kernel
theorem d_law_627 : decode code 627 = .ok (.invokevirtual 85, 3) := by decide +kernel
theorem d_law_630 : decode code 630 = .ok (.if_icmp .eq 678, 3) := by decide +kernel
theorem d_law_633 : decode code 633 = .ok (.iconst 0, 1) := by decide +kernel
theorem d_law_634 : decode code 634 = .ok (.ireturn, 1) := by decide +kernel
theorem d_law_635 : decode code 635 = .ok (.aload_n 1, 1) := by decide +kernel
theorem d_law_636 : decode code 636 = .ok (.aload_n 0, 1) := by decide +kernel
theorem d_law_637 : decode code 637 = .ok (.iload 4, 2) := by decide +kernel
theorem d_law_639 : decode code 639 = .ok (.iconst 1, 1) := by decide +kernel
theorem d_law_640 : decode code 640 = .ok (.iadd, 1) := by decide +kernel
theorem d_law_641 : decode code 641 = .ok (.iaload, 1) := by decide +kernel
theorem d_law_642 : decode code 642 = .ok (.invokevirtual 86, 3) := by decide +kernel
theorem d_law_645 : decode code 645 = .ok (.aload_n 2, 1) := by decide +kernel
theorem d_law_646 : decode code 646 = .ok (.aload_n 0, 1) := by decide +kernel
theorem d_law_647 : decode code 647 = .ok (.iload 4, 2) := by decide +kernel
theorem d_law_649 : decode code 649 = .ok (.iconst 1, 1) := by decide +kernel
theorem d_law_650 : decode code 650 = .ok (.iadd, 1) := by decide +kernel
theorem d_law_651 : decode code 651 = .ok (.iaload, 1) := by decide +kernel
theorem d_law_652 : decode code 652 = .ok (.invokevirtual 89, 3) := by decide +kernel
theorem d_law_655 : decode code 655 = .ok (.if_icmp .eq 653, 3) := by decide +kernel
theorem d_law_658 : decode code 658 = .ok (.iconst 0, 1) := by decide +kernel
theorem d_law_659 : decode code 659 = .ok (.ireturn, 1) := by decide +kernel
theorem d_law_660 : decode code 660 = .ok (.aload_n 1, 1) := by decide +kernel
theorem d_law_661 : decode code 661 = .ok (.aload_n 0, 1) := by decide +kernel
theorem d_law_662 : decode code 662 = .ok (.iload 4, 2) := by decide +kernel
theorem d_law_664 : decode code 664 = .ok (.iconst 1, 1) := by decide +kernel
theorem d_law_665 : decode code 665 = .ok (.iadd, 1) := by decide +kernel
theorem d_law_666 : decode code 666 = .ok (.iaload, 1) := by decide +kernel
theorem d_law_667 : decode code 667 = .ok (.aload_n 0, 1) := by decide +kernel
theorem d_law_668 : decode code 668 = .ok (.iload 4, 2) := by decide +kernel
theorem d_law_670 : decode code 670 = .ok (.iconst 2, 1) := by decide +kernel
theorem d_law_671 : decode code 671 = .ok (.iadd, 1) := by decide +kernel
theorem d_law_672 : decode code 672 = .ok (.iaload, 1) := by decide +kernel
theorem d_law_673 : decode code 673 = .ok (.invokevirtual 90, 3) := by decide +kernel
theorem d_law_676 : decode code 676 = .ok (.aload_n 2, 1) := by decide +kernel
theorem d_law_677 : decode code 677 = .ok (.aload_n 0, 1) := by decide +kernel
theorem d_law_678 : decode code 678 = .ok (.iload 4, 2) := by decide +kernel
theorem d_law_680 : decode code 680 = .ok (.iconst 1, 1) := by decide +kernel
theorem d_law_681 : decode code 681 = .ok (.iadd, 1) := by decide +kernel
theorem d_law_682 : decode code 682 = .ok (.iaload, 1) := by decide +kernel
theorem d_law_683 : decode code 683 = .ok (.aload_n 0, 1) := by decide +kernel
theorem d_law_684 : decode code 684 = .ok (.iload 4, 2) := by decide +kernel
theorem d_law_686 : decode code 686 = .ok (.iconst 2, 1) := by decide +kernel
theorem d_law_687 : decode code 687 = .ok (.iadd, 1) := by decide +kernel
theorem d_law_688 : decode code 688 = .ok (.iaload, 1) := by decide +kernel
theorem d_law_689 : decode code 689 = .ok (.invokevirtual 94, 3) := by decide +kernel
theorem d_law_692 : decode code 692 = .ok (.lcmp, 1) := by decide +kernel
theorem d_law_693 : decode code 693 = .ok (.ifCond .eq 615, 3) := by decide +kernel
theorem d_law_696 : decode code 696 = .ok (.iconst 0, 1) := by decide +kernel
theorem d_law_697 : decode code 697 = .ok (.ireturn, 1) := by decide +kernel
theorem d_law_698 : decode code 698 = .ok (.aload_n 1, 1) := by decide +kernel
theorem d_law_699 : decode code 699 = .ok (.aload_n 0, 1) := by decide +kernel
theorem d_law_700 : decode code 700 = .ok (.iload 4, 2) := by decide +kernel
theorem d_law_702 : decode code 702 = .ok (.iconst 1, 1) := by decide +kernel
theorem d_law_703 : decode code 703 = .ok (.iadd, 1) := by decide +kernel
theorem d_law_704 : decode code 704 = .ok (.iaload, 1) := by decide +kernel
theorem d_law_705 : decode code 705 = .ok (.invokevirtual 95, 3) := by decide +kernel
theorem d_law_708 : decode code 708 = .ok (.aload_n 2, 1) := by decide +kernel
theorem d_law_709 : decode code 709 = .ok (.aload_n 0, 1) := by decide +kernel
theorem d_law_710 : decode code 710 = .ok (.iload 4, 2) := by decide +kernel
theorem d_law_712 : decode code 712 = .ok (.iconst 1, 1) := by decide +kernel
theorem d_law_713 : decode code 713 = .ok (.iadd, 1) := by decide +kernel
theorem d_law_714 : decode code 714 = .ok (.iaload, 1) := by decide +kernel
theorem d_law_715 : decode code 715 = .ok (.invokevirtual 98, 3) := by decide +kernel
theorem d_law_718 : decode code 718 = .ok (.if_icmp .eq 590, 3) := by decide +kernel
theorem d_law_721 : decode code 721 = .ok (.iconst 0, 1) := by decide +kernel
theorem d_law_722 : decode code 722 = .ok (.ireturn, 1) := by decide +kernel
theorem d_law_723 : decode code 723 = .ok (.aload_n 1, 1) := by decide +kernel
theorem d_law_724 : decode code 724 = .ok (.invokevirtual 99, 3) := by decide +kernel
theorem d_law_727 : decode code 727 = .ok (.aload_n 2, 1) := by decide +kernel
theorem d_law_728 : decode code 728 = .ok (.invokevirtual 102, 3) := by decide +kernel
theorem d_law_731 : decode code 731 = .ok (.if_icmp .eq 577, 3) := by decide +kernel
theorem d_law_734 : decode code 734 = .ok (.iconst 0, 1) := by decide +kernel
theorem d_law_735 : decode code 735 = .ok (.ireturn, 1) := by decide +kernel
theorem d_law_736 : decode code 736 = .ok (.aload_n 1, 1) := by decide +kernel
theorem d_law_737 : decode code 737 = .ok (.aload_n 0, 1) := by decide +kernel
theorem d_law_738 : decode code 738 = .ok (.iload 4, 2) := by decide +kernel
theorem d_law_740 : decode code 740 = .ok (.iconst 1, 1) := by decide +kernel
theorem d_law_741 : decode code 741 = .ok (.iadd, 1) := by decide +kernel
theorem d_law_742 : decode code 742 = .ok (.iaload, 1) := by decide +kernel
theorem d_law_743 : decode code 743 = .ok (.aload_n 0, 1) := by decide +kernel
theorem d_law_744 : decode code 744 = .ok (.iload 4, 2) := by decide +kernel
