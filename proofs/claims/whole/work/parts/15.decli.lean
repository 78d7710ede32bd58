theorem d_LAW_law_670 : decode mi_LAW_law.2.1 670 = .ok (.iaload, 1) := by decide +kernel
theorem d_LAW_law_671 : decode mi_LAW_law.2.1 671 = .ok (.invokevirtual 91, 3) := by decide +kernel
theorem d_LAW_law_674 : decode mi_LAW_law.2.1 674 = .ok (.aload_n 2, 1) := by decide +kernel
theorem d_LAW_law_675 : decode mi_LAW_law.2.1 675 = .ok (.aload_n 0, 1) := by decide +kernel
theorem d_LAW_law_676 : decode mi_LAW_law.2.1 676 = .ok (.iload_n 3, 1) := by decide +kernel
theorem d_LAW_law_677 : decode mi_LAW_law.2.1 677 = .ok (.iconst 1, 1) := by decide +kernel
theorem d_LAW_law_678 : decode mi_LAW_law.2.1 678 = .ok (.iadd, 1) := by decide +kernel
theorem d_LAW_law_679 : decode mi_LAW_law.2.1 679 = .ok (.iaload, 1) := by decide +kernel
theorem d_LAW_law_680 : decode mi_LAW_law.2.1 680 = .ok (.aload_n 0, 1) := by decide +kernel
theorem d_LAW_law_681 : decode mi_LAW_law.2.1 681 = .ok (.iload_n 3, 1) := by decide +kernel
theorem d_LAW_law_682 : decode mi_LAW_law.2.1 682 = .ok (.iconst 2, 1) := by decide +kernel
theorem d_LAW_law_683 : decode mi_LAW_law.2.1 683 = .ok (.iadd, 1) := by decide +kernel
theorem d_LAW_law_684 : decode mi_LAW_law.2.1 684 = .ok (.iaload, 1) := by decide +kernel
theorem d_LAW_law_685 : decode mi_LAW_law.2.1 685 = .ok (.invokevirtual 94, 3) := by decide +kernel
theorem d_LAW_law_688 : decode mi_LAW_law.2.1 688 = .ok (.if_icmp .eq (87), 3) := by decide +kernel
theorem d_LAW_law_691 : decode mi_LAW_law.2.1 691 = .ok (.iconst 0, 1) := by decide +kernel
theorem d_LAW_law_692 : decode mi_LAW_law.2.1 692 = .ok (.ireturn, 1) := by decide +kernel
theorem d_LAW_law_693 : decode mi_LAW_law.2.1 693 = .ok (.aload_n 1, 1) := by decide +kernel
theorem d_LAW_law_694 : decode mi_LAW_law.2.1 694 = .ok (.aload_n 0, 1) := by decide +kernel
theorem d_LAW_law_695 : decode mi_LAW_law.2.1 695 = .ok (.iload_n 3, 1) := by decide +kernel
theorem d_LAW_law_696 : decode mi_LAW_law.2.1 696 = .ok (.iconst 1, 1) := by decide +kernel
theorem d_LAW_law_697 : decode mi_LAW_law.2.1 697 = .ok (.iadd, 1) := by decide +kernel
theorem d_LAW_law_698 : decode mi_LAW_law.2.1 698 = .ok (.iaload, 1) := by decide +kernel
theorem d_LAW_law_699 : decode mi_LAW_law.2.1 699 = .ok (.aload_n 0, 1) := by decide +kernel
theorem d_LAW_law_700 : decode mi_LAW_law.2.1 700 = .ok (.iload_n 3, 1) := by decide +kernel
theorem d_LAW_law_701 : decode mi_LAW_law.2.1 701 = .ok (.iconst 2, 1) := by decide +kernel
theorem d_LAW_law_702 : decode mi_LAW_law.2.1 702 = .ok (.iadd, 1) := by decide +kernel
theorem d_LAW_law_703 : decode mi_LAW_law.2.1 703 = .ok (.iaload, 1) := by decide +kernel
theorem d_LAW_law_704 : decode mi_LAW_law.2.1 704 = .ok (.invokevirtual 95, 3) := by decide +kernel
theorem d_LAW_law_707 : decode mi_LAW_law.2.1 707 = .ok (.aload_n 2, 1) := by decide +kernel
theorem d_LAW_law_708 : decode mi_LAW_law.2.1 708 = .ok (.aload_n 0, 1) := by decide +kernel
theorem d_LAW_law_709 : decode mi_LAW_law.2.1 709 = .ok (.iload_n 3, 1) := by decide +kernel
theorem d_LAW_law_710 : decode mi_LAW_law.2.1 710 = .ok (.iconst 1, 1) := by decide +kernel
theorem d_LAW_law_711 : decode mi_LAW_law.2.1 711 = .ok (.iadd, 1) := by decide +kernel
theorem d_LAW_law_712 : decode mi_LAW_law.2.1 712 = .ok (.iaload, 1) := by decide +kernel
theorem d_LAW_law_713 : decode mi_LAW_law.2.1 713 = .ok (.aload_n 0, 1) := by decide +kernel
theorem d_LAW_law_714 : decode mi_LAW_law.2.1 714 = .ok (.iload_n 3, 1) := by decide +kernel
theorem d_LAW_law_715 : decode mi_LAW_law.2.1 715 = .ok (.iconst 2, 1) := by decide +kernel
theorem d_LAW_law_716 : decode mi_LAW_law.2.1 716 = .ok (.iadd, 1) := by decide +kernel
theorem d_LAW_law_717 : decode mi_LAW_law.2.1 717 = .ok (.iaload, 1) := by decide +kernel
theorem d_LAW_law_718 : decode mi_LAW_law.2.1 718 = .ok (.invokevirtual 98, 3) := by decide +kernel
theorem d_LAW_law_721 : decode mi_LAW_law.2.1 721 = .ok (.if_icmp .eq (54), 3) := by decide +kernel
theorem d_LAW_law_724 : decode mi_LAW_law.2.1 724 = .ok (.iconst 0, 1) := by decide +kernel
theorem d_LAW_law_725 : decode mi_LAW_law.2.1 725 = .ok (.ireturn, 1) := by decide +kernel
theorem d_LAW_law_726 : decode mi_LAW_law.2.1 726 = .ok (.aload_n 1, 1) := by decide +kernel
theorem d_LAW_law_727 : decode mi_LAW_law.2.1 727 = .ok (.aload_n 0, 1) := by decide +kernel
theorem d_LAW_law_728 : decode mi_LAW_law.2.1 728 = .ok (.iload_n 3, 1) := by decide +kernel
theorem d_LAW_law_729 : decode mi_LAW_law.2.1 729 = .ok (.iconst 1, 1) := by decide +kernel
theorem d_LAW_law_730 : decode mi_LAW_law.2.1 730 = .ok (.iadd, 1) := by decide +kernel
theorem d_LAW_law_731 : decode mi_LAW_law.2.1 731 = .ok (.iaload, 1) := by decide +kernel
theorem d_LAW_law_732 : decode mi_LAW_law.2.1 732 = .ok (.aload_n 0, 1) := by decide +kernel
theorem d_LAW_law_733 : decode mi_LAW_law.2.1 733 = .ok (.iload_n 3, 1) := by decide +kernel
theorem d_LAW_law_734 : decode mi_LAW_law.2.1 734 = .ok (.iconst 2, 1) := by decide +kernel
theorem d_LAW_law_735 : decode mi_LAW_law.2.1 735 = .ok (.iadd, 1) := by decide +kernel
theorem d_LAW_law_736 : decode mi_LAW_law.2.1 736 = .ok (.iaload, 1) := by decide +kernel
theorem d_LAW_law_737 : decode mi_LAW_law.2.1 737 = .ok (.ifCond .eq (7), 3) := by decide +kernel
theorem d_LAW_law_740 : decode mi_LAW_law.2.1 740 = .ok (.iconst 1, 1) := by decide +kernel
theorem d_LAW_law_741 : decode mi_LAW_law.2.1 741 = .ok (.goto (4), 3) := by decide +kernel
theorem d_LAW_law_744 : decode mi_LAW_law.2.1 744 = .ok (.iconst 0, 1) := by decide +kernel
theorem d_LAW_law_745 : decode mi_LAW_law.2.1 745 = .ok (.invokevirtual 99, 3) := by decide +kernel
