theorem d_LAW_law_748 : decode mi_LAW_law.2.1 748 = .ok (.aload_n 2, 1) := by decide +kernel
theorem d_LAW_law_749 : decode mi_LAW_law.2.1 749 = .ok (.aload_n 0, 1) := by decide +kernel
theorem d_LAW_law_750 : decode mi_LAW_law.2.1 750 = .ok (.iload_n 3, 1) := by decide +kernel
theorem d_LAW_law_751 : decode mi_LAW_law.2.1 751 = .ok (.iconst 1, 1) := by decide +kernel
theorem d_LAW_law_752 : decode mi_LAW_law.2.1 752 = .ok (.iadd, 1) := by decide +kernel
theorem d_LAW_law_753 : decode mi_LAW_law.2.1 753 = .ok (.iaload, 1) := by decide +kernel
theorem d_LAW_law_754 : decode mi_LAW_law.2.1 754 = .ok (.aload_n 0, 1) := by decide +kernel
theorem d_LAW_law_755 : decode mi_LAW_law.2.1 755 = .ok (.iload_n 3, 1) := by decide +kernel
theorem d_LAW_law_756 : decode mi_LAW_law.2.1 756 = .ok (.iconst 2, 1) := by decide +kernel
theorem d_LAW_law_757 : decode mi_LAW_law.2.1 757 = .ok (.iadd, 1) := by decide +kernel
theorem d_LAW_law_758 : decode mi_LAW_law.2.1 758 = .ok (.iaload, 1) := by decide +kernel
theorem d_LAW_law_759 : decode mi_LAW_law.2.1 759 = .ok (.ifCond .eq (7), 3) := by decide +kernel
theorem d_LAW_law_762 : decode mi_LAW_law.2.1 762 = .ok (.iconst 1, 1) := by decide +kernel
theorem d_LAW_law_763 : decode mi_LAW_law.2.1 763 = .ok (.goto (4), 3) := by decide +kernel
theorem d_LAW_law_766 : decode mi_LAW_law.2.1 766 = .ok (.iconst 0, 1) := by decide +kernel
theorem d_LAW_law_767 : decode mi_LAW_law.2.1 767 = .ok (.invokevirtual 103, 3) := by decide +kernel
theorem d_LAW_law_770 : decode mi_LAW_law.2.1 770 = .ok (.if_icmp .eq (5), 3) := by decide +kernel
theorem d_LAW_law_773 : decode mi_LAW_law.2.1 773 = .ok (.iconst 0, 1) := by decide +kernel
theorem d_LAW_law_774 : decode mi_LAW_law.2.1 774 = .ok (.ireturn, 1) := by decide +kernel
theorem d_LAW_law_775 : decode mi_LAW_law.2.1 775 = .ok (.iinc 3 (4), 3) := by decide +kernel
theorem d_LAW_law_778 : decode mi_LAW_law.2.1 778 = .ok (.goto (-750), 3) := by decide +kernel
theorem d_LAW_law_781 : decode mi_LAW_law.2.1 781 = .ok (.iconst 1, 1) := by decide +kernel
theorem d_LAW_law_782 : decode mi_LAW_law.2.1 782 = .ok (.ireturn, 1) := by decide +kernel
