theorem d_LAW_cell_0 : decode mi_LAW_cell.2.1 0 = .ok (.iload_n 1, 1) := by decide +kernel
theorem d_LAW_cell_1 : decode mi_LAW_cell.2.1 1 = .ok (.aload_n 0, 1) := by decide +kernel
theorem d_LAW_cell_2 : decode mi_LAW_cell.2.1 2 = .ok (.arraylength, 1) := by decide +kernel
theorem d_LAW_cell_3 : decode mi_LAW_cell.2.1 3 = .ok (.if_icmp .ge (9), 3) := by decide +kernel
theorem d_LAW_cell_6 : decode mi_LAW_cell.2.1 6 = .ok (.aload_n 0, 1) := by decide +kernel
theorem d_LAW_cell_7 : decode mi_LAW_cell.2.1 7 = .ok (.iload_n 1, 1) := by decide +kernel
theorem d_LAW_cell_8 : decode mi_LAW_cell.2.1 8 = .ok (.iaload, 1) := by decide +kernel
theorem d_LAW_cell_9 : decode mi_LAW_cell.2.1 9 = .ok (.goto (4), 3) := by decide +kernel
theorem d_LAW_cell_12 : decode mi_LAW_cell.2.1 12 = .ok (.iconst 0, 1) := by decide +kernel
theorem d_LAW_cell_13 : decode mi_LAW_cell.2.1 13 = .ok (.ireturn, 1) := by decide +kernel
theorem d_LAW_law_0 : decode mi_LAW_law.2.1 0 = .ok (.new 7, 3) := by decide +kernel
theorem d_LAW_law_3 : decode mi_LAW_law.2.1 3 = .ok (.dup, 1) := by decide +kernel
theorem d_LAW_law_4 : decode mi_LAW_law.2.1 4 = .ok (.aload_n 0, 1) := by decide +kernel
theorem d_LAW_law_5 : decode mi_LAW_law.2.1 5 = .ok (.iconst 0, 1) := by decide +kernel
theorem d_LAW_law_6 : decode mi_LAW_law.2.1 6 = .ok (.invokestatic 9, 3) := by decide +kernel
theorem d_LAW_law_9 : decode mi_LAW_law.2.1 9 = .ok (.invokespecial 15, 3) := by decide +kernel
theorem d_LAW_law_12 : decode mi_LAW_law.2.1 12 = .ok (.astore_n 1, 1) := by decide +kernel
theorem d_LAW_law_13 : decode mi_LAW_law.2.1 13 = .ok (.new 18, 3) := by decide +kernel
theorem d_LAW_law_16 : decode mi_LAW_law.2.1 16 = .ok (.dup, 1) := by decide +kernel
theorem d_LAW_law_17 : decode mi_LAW_law.2.1 17 = .ok (.aload_n 0, 1) := by decide +kernel
theorem d_LAW_law_18 : decode mi_LAW_law.2.1 18 = .ok (.iconst 0, 1) := by decide +kernel
theorem d_LAW_law_19 : decode mi_LAW_law.2.1 19 = .ok (.invokestatic 9, 3) := by decide +kernel
theorem d_LAW_law_22 : decode mi_LAW_law.2.1 22 = .ok (.invokespecial 20, 3) := by decide +kernel
theorem d_LAW_law_25 : decode mi_LAW_law.2.1 25 = .ok (.astore_n 2, 1) := by decide +kernel
theorem d_LAW_law_26 : decode mi_LAW_law.2.1 26 = .ok (.iconst 1, 1) := by decide +kernel
theorem d_LAW_law_27 : decode mi_LAW_law.2.1 27 = .ok (.istore_n 3, 1) := by decide +kernel
theorem d_LAW_law_28 : decode mi_LAW_law.2.1 28 = .ok (.iload_n 3, 1) := by decide +kernel
theorem d_LAW_law_29 : decode mi_LAW_law.2.1 29 = .ok (.aload_n 0, 1) := by decide +kernel
theorem d_LAW_law_30 : decode mi_LAW_law.2.1 30 = .ok (.arraylength, 1) := by decide +kernel
theorem d_LAW_law_31 : decode mi_LAW_law.2.1 31 = .ok (.iconst 4, 1) := by decide +kernel
theorem d_LAW_law_32 : decode mi_LAW_law.2.1 32 = .ok (.isub, 1) := by decide +kernel
theorem d_LAW_law_33 : decode mi_LAW_law.2.1 33 = .ok (.if_icmp .gt (748), 3) := by decide +kernel
theorem d_LAW_law_36 : decode mi_LAW_law.2.1 36 = .ok (.aload_n 0, 1) := by decide +kernel
theorem d_LAW_law_37 : decode mi_LAW_law.2.1 37 = .ok (.iload_n 3, 1) := by decide +kernel
theorem d_LAW_law_38 : decode mi_LAW_law.2.1 38 = .ok (.iaload, 1) := by decide +kernel
theorem d_LAW_law_39 : decode mi_LAW_law.2.1 39 = .ok (.bipush (31), 2) := by decide +kernel
theorem d_LAW_law_41 : decode mi_LAW_law.2.1 41 = .ok (.iand, 1) := by decide +kernel
theorem d_LAW_law_42 : decode mi_LAW_law.2.1 42 = .ok (.tableswitch (733) (0) (18) #[90, 123, 146, 179, 212, 255, 288, 331, 354, 377, 410, 453, 486, 519, 552, 585, 618, 651, 684], 90) := by decide +kernel
theorem d_LAW_law_132 : decode mi_LAW_law.2.1 132 = .ok (.aload_n 1, 1) := by decide +kernel
theorem d_LAW_law_133 : decode mi_LAW_law.2.1 133 = .ok (.aload_n 0, 1) := by decide +kernel
theorem d_LAW_law_134 : decode mi_LAW_law.2.1 134 = .ok (.iload_n 3, 1) := by decide +kernel
theorem d_LAW_law_135 : decode mi_LAW_law.2.1 135 = .ok (.iconst 1, 1) := by decide +kernel
theorem d_LAW_law_136 : decode mi_LAW_law.2.1 136 = .ok (.iadd, 1) := by decide +kernel
theorem d_LAW_law_137 : decode mi_LAW_law.2.1 137 = .ok (.iaload, 1) := by decide +kernel
theorem d_LAW_law_138 : decode mi_LAW_law.2.1 138 = .ok (.aload_n 0, 1) := by decide +kernel
theorem d_LAW_law_139 : decode mi_LAW_law.2.1 139 = .ok (.iload_n 3, 1) := by decide +kernel
theorem d_LAW_law_140 : decode mi_LAW_law.2.1 140 = .ok (.iconst 2, 1) := by decide +kernel
theorem d_LAW_law_141 : decode mi_LAW_law.2.1 141 = .ok (.iadd, 1) := by decide +kernel
theorem d_LAW_law_142 : decode mi_LAW_law.2.1 142 = .ok (.iaload, 1) := by decide +kernel
theorem d_LAW_law_143 : decode mi_LAW_law.2.1 143 = .ok (.invokevirtual 21, 3) := by decide +kernel
theorem d_LAW_law_146 : decode mi_LAW_law.2.1 146 = .ok (.aload_n 2, 1) := by decide +kernel
theorem d_LAW_law_147 : decode mi_LAW_law.2.1 147 = .ok (.aload_n 0, 1) := by decide +kernel
theorem d_LAW_law_148 : decode mi_LAW_law.2.1 148 = .ok (.iload_n 3, 1) := by decide +kernel
theorem d_LAW_law_149 : decode mi_LAW_law.2.1 149 = .ok (.iconst 1, 1) := by decide +kernel
theorem d_LAW_law_150 : decode mi_LAW_law.2.1 150 = .ok (.iadd, 1) := by decide +kernel
theorem d_LAW_law_151 : decode mi_LAW_law.2.1 151 = .ok (.iaload, 1) := by decide +kernel
theorem d_LAW_law_152 : decode mi_LAW_law.2.1 152 = .ok (.aload_n 0, 1) := by decide +kernel
theorem d_LAW_law_153 : decode mi_LAW_law.2.1 153 = .ok (.iload_n 3, 1) := by decide +kernel
theorem d_LAW_law_154 : decode mi_LAW_law.2.1 154 = .ok (.iconst 2, 1) := by decide +kernel
theorem d_LAW_law_155 : decode mi_LAW_law.2.1 155 = .ok (.iadd, 1) := by decide +kernel
