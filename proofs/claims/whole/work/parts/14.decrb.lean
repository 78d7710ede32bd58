theorem d_MO_crash_0 : decode mi_MO_crash.2.1 0 = .ok (.aload_n 0, 1) := by decide +kernel
theorem d_MO_crash_1 : decode mi_MO_crash.2.1 1 = .ok (.iload_n 1, 1) := by decide +kernel
theorem d_MO_crash_2 : decode mi_MO_crash.2.1 2 = .ok (.invokevirtual 101, 3) := by decide +kernel
theorem d_MO_crash_5 : decode mi_MO_crash.2.1 5 = .ok (.ifCond .eq (12), 3) := by decide +kernel
theorem d_MO_crash_8 : decode mi_MO_crash.2.1 8 = .ok (.aload_n 0, 1) := by decide +kernel
theorem d_MO_crash_9 : decode mi_MO_crash.2.1 9 = .ok (.getfield 25, 3) := by decide +kernel
theorem d_MO_crash_12 : decode mi_MO_crash.2.1 12 = .ok (.iload_n 1, 1) := by decide +kernel
theorem d_MO_crash_13 : decode mi_MO_crash.2.1 13 = .ok (.baload, 1) := by decide +kernel
theorem d_MO_crash_14 : decode mi_MO_crash.2.1 14 = .ok (.ifCond .ne (5), 3) := by decide +kernel
theorem d_MO_crash_17 : decode mi_MO_crash.2.1 17 = .ok (.iconst 0, 1) := by decide +kernel
theorem d_MO_crash_18 : decode mi_MO_crash.2.1 18 = .ok (.ireturn, 1) := by decide +kernel
theorem d_MO_crash_19 : decode mi_MO_crash.2.1 19 = .ok (.aload_n 0, 1) := by decide +kernel
theorem d_MO_crash_20 : decode mi_MO_crash.2.1 20 = .ok (.iload_n 1, 1) := by decide +kernel
theorem d_MO_crash_21 : decode mi_MO_crash.2.1 21 = .ok (.invokevirtual 85, 3) := by decide +kernel
theorem d_MO_crash_24 : decode mi_MO_crash.2.1 24 = .ok (.iconst 1, 1) := by decide +kernel
theorem d_MO_crash_25 : decode mi_MO_crash.2.1 25 = .ok (.ireturn, 1) := by decide +kernel
theorem d_MO_restart_0 : decode mi_MO_restart.2.1 0 = .ok (.aload_n 0, 1) := by decide +kernel
theorem d_MO_restart_1 : decode mi_MO_restart.2.1 1 = .ok (.iload_n 1, 1) := by decide +kernel
theorem d_MO_restart_2 : decode mi_MO_restart.2.1 2 = .ok (.invokevirtual 101, 3) := by decide +kernel
theorem d_MO_restart_5 : decode mi_MO_restart.2.1 5 = .ok (.ifCond .eq (12), 3) := by decide +kernel
theorem d_MO_restart_8 : decode mi_MO_restart.2.1 8 = .ok (.aload_n 0, 1) := by decide +kernel
theorem d_MO_restart_9 : decode mi_MO_restart.2.1 9 = .ok (.getfield 25, 3) := by decide +kernel
theorem d_MO_restart_12 : decode mi_MO_restart.2.1 12 = .ok (.iload_n 1, 1) := by decide +kernel
theorem d_MO_restart_13 : decode mi_MO_restart.2.1 13 = .ok (.baload, 1) := by decide +kernel
theorem d_MO_restart_14 : decode mi_MO_restart.2.1 14 = .ok (.ifCond .eq (5), 3) := by decide +kernel
theorem d_MO_restart_17 : decode mi_MO_restart.2.1 17 = .ok (.iconst 0, 1) := by decide +kernel
theorem d_MO_restart_18 : decode mi_MO_restart.2.1 18 = .ok (.ireturn, 1) := by decide +kernel
theorem d_MO_restart_19 : decode mi_MO_restart.2.1 19 = .ok (.aload_n 0, 1) := by decide +kernel
theorem d_MO_restart_20 : decode mi_MO_restart.2.1 20 = .ok (.getfield 25, 3) := by decide +kernel
theorem d_MO_restart_23 : decode mi_MO_restart.2.1 23 = .ok (.iload_n 1, 1) := by decide +kernel
theorem d_MO_restart_24 : decode mi_MO_restart.2.1 24 = .ok (.iconst 1, 1) := by decide +kernel
theorem d_MO_restart_25 : decode mi_MO_restart.2.1 25 = .ok (.bastore, 1) := by decide +kernel
theorem d_MO_restart_26 : decode mi_MO_restart.2.1 26 = .ok (.aload_n 0, 1) := by decide +kernel
theorem d_MO_restart_27 : decode mi_MO_restart.2.1 27 = .ok (.getfield 29, 3) := by decide +kernel
theorem d_MO_restart_30 : decode mi_MO_restart.2.1 30 = .ok (.iload_n 1, 1) := by decide +kernel
theorem d_MO_restart_31 : decode mi_MO_restart.2.1 31 = .ok (.aload_n 0, 1) := by decide +kernel
theorem d_MO_restart_32 : decode mi_MO_restart.2.1 32 = .ok (.iload_n 1, 1) := by decide +kernel
theorem d_MO_restart_33 : decode mi_MO_restart.2.1 33 = .ok (.iconst 0, 1) := by decide +kernel
theorem d_MO_restart_34 : decode mi_MO_restart.2.1 34 = .ok (.invokevirtual 96, 3) := by decide +kernel
theorem d_MO_restart_37 : decode mi_MO_restart.2.1 37 = .ok (.ifCond .eq (16), 3) := by decide +kernel
theorem d_MO_restart_40 : decode mi_MO_restart.2.1 40 = .ok (.aload_n 0, 1) := by decide +kernel
theorem d_MO_restart_41 : decode mi_MO_restart.2.1 41 = .ok (.iload_n 1, 1) := by decide +kernel
theorem d_MO_restart_42 : decode mi_MO_restart.2.1 42 = .ok (.iconst 1, 1) := by decide +kernel
theorem d_MO_restart_43 : decode mi_MO_restart.2.1 43 = .ok (.invokevirtual 96, 3) := by decide +kernel
theorem d_MO_restart_46 : decode mi_MO_restart.2.1 46 = .ok (.ifCond .eq (7), 3) := by decide +kernel
theorem d_MO_restart_49 : decode mi_MO_restart.2.1 49 = .ok (.iconst 1, 1) := by decide +kernel
theorem d_MO_restart_50 : decode mi_MO_restart.2.1 50 = .ok (.goto (4), 3) := by decide +kernel
theorem d_MO_restart_53 : decode mi_MO_restart.2.1 53 = .ok (.iconst 0, 1) := by decide +kernel
theorem d_MO_restart_54 : decode mi_MO_restart.2.1 54 = .ok (.bastore, 1) := by decide +kernel
theorem d_MO_restart_55 : decode mi_MO_restart.2.1 55 = .ok (.iconst 0, 1) := by decide +kernel
theorem d_MO_restart_56 : decode mi_MO_restart.2.1 56 = .ok (.istore_n 2, 1) := by decide +kernel
theorem d_MO_restart_57 : decode mi_MO_restart.2.1 57 = .ok (.iload_n 2, 1) := by decide +kernel
theorem d_MO_restart_58 : decode mi_MO_restart.2.1 58 = .ok (.iconst 2, 1) := by decide +kernel
theorem d_MO_restart_59 : decode mi_MO_restart.2.1 59 = .ok (.if_icmp .ge (55), 3) := by decide +kernel
theorem d_MO_restart_62 : decode mi_MO_restart.2.1 62 = .ok (.aload_n 0, 1) := by decide +kernel
theorem d_MO_restart_63 : decode mi_MO_restart.2.1 63 = .ok (.iload_n 1, 1) := by decide +kernel
theorem d_MO_restart_64 : decode mi_MO_restart.2.1 64 = .ok (.iload_n 2, 1) := by decide +kernel
theorem d_MO_restart_65 : decode mi_MO_restart.2.1 65 = .ok (.invokevirtual 96, 3) := by decide +kernel
theorem d_MO_restart_68 : decode mi_MO_restart.2.1 68 = .ok (.ifCond .eq (7), 3) := by decide +kernel
theorem d_MO_restart_71 : decode mi_MO_restart.2.1 71 = .ok (.iconst 0, 1) := by decide +kernel
theorem d_MO_restart_72 : decode mi_MO_restart.2.1 72 = .ok (.goto (9), 3) := by decide +kernel
theorem d_MO_restart_75 : decode mi_MO_restart.2.1 75 = .ok (.aload_n 0, 1) := by decide +kernel
theorem d_MO_restart_76 : decode mi_MO_restart.2.1 76 = .ok (.iload_n 1, 1) := by decide +kernel
theorem d_MO_restart_77 : decode mi_MO_restart.2.1 77 = .ok (.iload_n 2, 1) := by decide +kernel
theorem d_MO_restart_78 : decode mi_MO_restart.2.1 78 = .ok (.invokevirtual 92, 3) := by decide +kernel
theorem d_MO_restart_81 : decode mi_MO_restart.2.1 81 = .ok (.istore_n 3, 1) := by decide +kernel
theorem d_MO_restart_82 : decode mi_MO_restart.2.1 82 = .ok (.aload_n 0, 1) := by decide +kernel
theorem d_MO_restart_83 : decode mi_MO_restart.2.1 83 = .ok (.getfield 35, 3) := by decide +kernel
theorem d_MO_restart_86 : decode mi_MO_restart.2.1 86 = .ok (.iload_n 1, 1) := by decide +kernel
theorem d_MO_restart_87 : decode mi_MO_restart.2.1 87 = .ok (.iload_n 3, 1) := by decide +kernel
theorem d_MO_restart_88 : decode mi_MO_restart.2.1 88 = .ok (.aload_n 0, 1) := by decide +kernel
theorem d_MO_restart_89 : decode mi_MO_restart.2.1 89 = .ok (.getfield 35, 3) := by decide +kernel
theorem d_MO_restart_92 : decode mi_MO_restart.2.1 92 = .ok (.iload_n 1, 1) := by decide +kernel
theorem d_MO_restart_93 : decode mi_MO_restart.2.1 93 = .ok (.iaload, 1) := by decide +kernel
theorem d_MO_restart_94 : decode mi_MO_restart.2.1 94 = .ok (.if_icmp .le (7), 3) := by decide +kernel
theorem d_MO_restart_97 : decode mi_MO_restart.2.1 97 = .ok (.iload_n 3, 1) := by decide +kernel
theorem d_MO_restart_98 : decode mi_MO_restart.2.1 98 = .ok (.goto (9), 3) := by decide +kernel
theorem d_MO_restart_101 : decode mi_MO_restart.2.1 101 = .ok (.aload_n 0, 1) := by decide +kernel
theorem d_MO_restart_102 : decode mi_MO_restart.2.1 102 = .ok (.getfield 35, 3) := by decide +kernel
theorem d_MO_restart_105 : decode mi_MO_restart.2.1 105 = .ok (.iload_n 1, 1) := by decide +kernel
theorem d_MO_restart_106 : decode mi_MO_restart.2.1 106 = .ok (.iaload, 1) := by decide +kernel
theorem d_MO_restart_107 : decode mi_MO_restart.2.1 107 = .ok (.iastore, 1) := by decide +kernel
theorem d_MO_restart_108 : decode mi_MO_restart.2.1 108 = .ok (.iinc 2 (1), 3) := by decide +kernel
theorem d_MO_restart_111 : decode mi_MO_restart.2.1 111 = .ok (.goto (-54), 3) := by decide +kernel
theorem d_MO_restart_114 : decode mi_MO_restart.2.1 114 = .ok (.iconst 1, 1) := by decide +kernel
theorem d_MO_restart_115 : decode mi_MO_restart.2.1 115 = .ok (.istore_n 2, 1) := by decide +kernel
theorem d_MO_restart_116 : decode mi_MO_restart.2.1 116 = .ok (.iload_n 2, 1) := by decide +kernel
theorem d_MO_restart_117 : decode mi_MO_restart.2.1 117 = .ok (.bipush (8), 2) := by decide +kernel
theorem d_MO_restart_119 : decode mi_MO_restart.2.1 119 = .ok (.if_icmp .gt (28), 3) := by decide +kernel
theorem d_MO_restart_122 : decode mi_MO_restart.2.1 122 = .ok (.aload_n 0, 1) := by decide +kernel
theorem d_MO_restart_123 : decode mi_MO_restart.2.1 123 = .ok (.getfield 44, 3) := by decide +kernel
theorem d_MO_restart_126 : decode mi_MO_restart.2.1 126 = .ok (.bipush (8), 2) := by decide +kernel
theorem d_MO_restart_128 : decode mi_MO_restart.2.1 128 = .ok (.iload_n 1, 1) := by decide +kernel
theorem d_MO_restart_129 : decode mi_MO_restart.2.1 129 = .ok (.imul, 1) := by decide +kernel
theorem d_MO_restart_130 : decode mi_MO_restart.2.1 130 = .ok (.iload_n 2, 1) := by decide +kernel
theorem d_MO_restart_131 : decode mi_MO_restart.2.1 131 = .ok (.iadd, 1) := by decide +kernel
theorem d_MO_restart_132 : decode mi_MO_restart.2.1 132 = .ok (.iconst 1, 1) := by decide +kernel
theorem d_MO_restart_133 : decode mi_MO_restart.2.1 133 = .ok (.isub, 1) := by decide +kernel
theorem d_MO_restart_134 : decode mi_MO_restart.2.1 134 = .ok (.aload_n 0, 1) := by decide +kernel
theorem d_MO_restart_135 : decode mi_MO_restart.2.1 135 = .ok (.iload_n 1, 1) := by decide +kernel
theorem d_MO_restart_136 : decode mi_MO_restart.2.1 136 = .ok (.iload_n 2, 1) := by decide +kernel
theorem d_MO_restart_137 : decode mi_MO_restart.2.1 137 = .ok (.invokevirtual 105, 3) := by decide +kernel
theorem d_MO_restart_140 : decode mi_MO_restart.2.1 140 = .ok (.iastore, 1) := by decide +kernel
theorem d_MO_restart_141 : decode mi_MO_restart.2.1 141 = .ok (.iinc 2 (1), 3) := by decide +kernel
theorem d_MO_restart_144 : decode mi_MO_restart.2.1 144 = .ok (.goto (-28), 3) := by decide +kernel
theorem d_MO_restart_147 : decode mi_MO_restart.2.1 147 = .ok (.iconst 1, 1) := by decide +kernel
theorem d_MO_restart_148 : decode mi_MO_restart.2.1 148 = .ok (.ireturn, 1) := by decide +kernel
theorem d_MO_arm_0 : decode mi_MO_arm.2.1 0 = .ok (.aload_n 0, 1) := by decide +kernel
theorem d_MO_arm_1 : decode mi_MO_arm.2.1 1 = .ok (.iload_n 1, 1) := by decide +kernel
theorem d_MO_arm_2 : decode mi_MO_arm.2.1 2 = .ok (.invokevirtual 101, 3) := by decide +kernel
theorem d_MO_arm_5 : decode mi_MO_arm.2.1 5 = .ok (.ifCond .eq (22), 3) := by decide +kernel
theorem d_MO_arm_8 : decode mi_MO_arm.2.1 8 = .ok (.aload_n 0, 1) := by decide +kernel
theorem d_MO_arm_9 : decode mi_MO_arm.2.1 9 = .ok (.getfield 25, 3) := by decide +kernel
theorem d_MO_arm_12 : decode mi_MO_arm.2.1 12 = .ok (.iload_n 1, 1) := by decide +kernel
theorem d_MO_arm_13 : decode mi_MO_arm.2.1 13 = .ok (.baload, 1) := by decide +kernel
theorem d_MO_arm_14 : decode mi_MO_arm.2.1 14 = .ok (.ifCond .eq (13), 3) := by decide +kernel
theorem d_MO_arm_17 : decode mi_MO_arm.2.1 17 = .ok (.iload_n 2, 1) := by decide +kernel
theorem d_MO_arm_18 : decode mi_MO_arm.2.1 18 = .ok (.ifCond .lt (9), 3) := by decide +kernel
theorem d_MO_arm_21 : decode mi_MO_arm.2.1 21 = .ok (.iload_n 2, 1) := by decide +kernel
theorem d_MO_arm_22 : decode mi_MO_arm.2.1 22 = .ok (.bipush (40), 2) := by decide +kernel
theorem d_MO_arm_24 : decode mi_MO_arm.2.1 24 = .ok (.if_icmp .le (5), 3) := by decide +kernel
theorem d_MO_arm_27 : decode mi_MO_arm.2.1 27 = .ok (.iconst 0, 1) := by decide +kernel
theorem d_MO_arm_28 : decode mi_MO_arm.2.1 28 = .ok (.ireturn, 1) := by decide +kernel
theorem d_MO_arm_29 : decode mi_MO_arm.2.1 29 = .ok (.aload_n 0, 1) := by decide +kernel
theorem d_MO_arm_30 : decode mi_MO_arm.2.1 30 = .ok (.getfield 32, 3) := by decide +kernel
theorem d_MO_arm_33 : decode mi_MO_arm.2.1 33 = .ok (.iload_n 1, 1) := by decide +kernel
theorem d_MO_arm_34 : decode mi_MO_arm.2.1 34 = .ok (.iload_n 2, 1) := by decide +kernel
theorem d_MO_arm_35 : decode mi_MO_arm.2.1 35 = .ok (.iastore, 1) := by decide +kernel
theorem d_MO_arm_36 : decode mi_MO_arm.2.1 36 = .ok (.iconst 1, 1) := by decide +kernel
theorem d_MO_arm_37 : decode mi_MO_arm.2.1 37 = .ok (.ireturn, 1) := by decide +kernel
theorem d_MO_canSpoil_0 : decode mi_MO_canSpoil.2.1 0 = .ok (.aload_n 0, 1) := by decide +kernel
theorem d_MO_canSpoil_1 : decode mi_MO_canSpoil.2.1 1 = .ok (.iload_n 1, 1) := by decide +kernel
theorem d_MO_canSpoil_2 : decode mi_MO_canSpoil.2.1 2 = .ok (.invokevirtual 101, 3) := by decide +kernel
theorem d_MO_canSpoil_5 : decode mi_MO_canSpoil.2.1 5 = .ok (.ifCond .eq (26), 3) := by decide +kernel
theorem d_MO_canSpoil_8 : decode mi_MO_canSpoil.2.1 8 = .ok (.iload_n 2, 1) := by decide +kernel
theorem d_MO_canSpoil_9 : decode mi_MO_canSpoil.2.1 9 = .ok (.ifCond .lt (22), 3) := by decide +kernel
theorem d_MO_canSpoil_12 : decode mi_MO_canSpoil.2.1 12 = .ok (.iload_n 2, 1) := by decide +kernel
theorem d_MO_canSpoil_13 : decode mi_MO_canSpoil.2.1 13 = .ok (.bipush (17), 2) := by decide +kernel
theorem d_MO_canSpoil_15 : decode mi_MO_canSpoil.2.1 15 = .ok (.if_icmp .gt (16), 3) := by decide +kernel
theorem d_MO_canSpoil_18 : decode mi_MO_canSpoil.2.1 18 = .ok (.aload_n 0, 1) := by decide +kernel
theorem d_MO_canSpoil_19 : decode mi_MO_canSpoil.2.1 19 = .ok (.iload_n 1, 1) := by decide +kernel
theorem d_MO_canSpoil_20 : decode mi_MO_canSpoil.2.1 20 = .ok (.iload_n 2, 1) := by decide +kernel
theorem d_MO_canSpoil_21 : decode mi_MO_canSpoil.2.1 21 = .ok (.invokevirtual 96, 3) := by decide +kernel
theorem d_MO_canSpoil_24 : decode mi_MO_canSpoil.2.1 24 = .ok (.ifCond .ne (7), 3) := by decide +kernel
theorem d_MO_canSpoil_27 : decode mi_MO_canSpoil.2.1 27 = .ok (.iconst 1, 1) := by decide +kernel
theorem d_MO_canSpoil_28 : decode mi_MO_canSpoil.2.1 28 = .ok (.goto (4), 3) := by decide +kernel
theorem d_MO_canSpoil_31 : decode mi_MO_canSpoil.2.1 31 = .ok (.iconst 0, 1) := by decide +kernel
theorem d_MO_canSpoil_32 : decode mi_MO_canSpoil.2.1 32 = .ok (.ireturn, 1) := by decide +kernel
theorem d_MO_flip_0 : decode mi_MO_flip.2.1 0 = .ok (.aload_n 0, 1) := by decide +kernel
theorem d_MO_flip_1 : decode mi_MO_flip.2.1 1 = .ok (.iload_n 1, 1) := by decide +kernel
theorem d_MO_flip_2 : decode mi_MO_flip.2.1 2 = .ok (.iload_n 2, 1) := by decide +kernel
theorem d_MO_flip_3 : decode mi_MO_flip.2.1 3 = .ok (.invokevirtual 108, 3) := by decide +kernel
theorem d_MO_flip_6 : decode mi_MO_flip.2.1 6 = .ok (.ifCond .eq (13), 3) := by decide +kernel
theorem d_MO_flip_9 : decode mi_MO_flip.2.1 9 = .ok (.iload_n 3, 1) := by decide +kernel
theorem d_MO_flip_10 : decode mi_MO_flip.2.1 10 = .ok (.ifCond .lt (9), 3) := by decide +kernel
theorem d_MO_flip_13 : decode mi_MO_flip.2.1 13 = .ok (.iload_n 3, 1) := by decide +kernel
theorem d_MO_flip_14 : decode mi_MO_flip.2.1 14 = .ok (.bipush (63), 2) := by decide +kernel
theorem d_MO_flip_16 : decode mi_MO_flip.2.1 16 = .ok (.if_icmp .le (5), 3) := by decide +kernel
theorem d_MO_flip_19 : decode mi_MO_flip.2.1 19 = .ok (.iconst 0, 1) := by decide +kernel
theorem d_MO_flip_20 : decode mi_MO_flip.2.1 20 = .ok (.ireturn, 1) := by decide +kernel
theorem d_MO_flip_21 : decode mi_MO_flip.2.1 21 = .ok (.aload_n 0, 1) := by decide +kernel
theorem d_MO_flip_22 : decode mi_MO_flip.2.1 22 = .ok (.getfield 22, 3) := by decide +kernel
theorem d_MO_flip_25 : decode mi_MO_flip.2.1 25 = .ok (.sipush (144), 3) := by decide +kernel
theorem d_MO_flip_28 : decode mi_MO_flip.2.1 28 = .ok (.iload_n 1, 1) := by decide +kernel
theorem d_MO_flip_29 : decode mi_MO_flip.2.1 29 = .ok (.imul, 1) := by decide +kernel
theorem d_MO_flip_30 : decode mi_MO_flip.2.1 30 = .ok (.bipush (8), 2) := by decide +kernel
theorem d_MO_flip_32 : decode mi_MO_flip.2.1 32 = .ok (.iload_n 2, 1) := by decide +kernel
theorem d_MO_flip_33 : decode mi_MO_flip.2.1 33 = .ok (.imul, 1) := by decide +kernel
theorem d_MO_flip_34 : decode mi_MO_flip.2.1 34 = .ok (.iadd, 1) := by decide +kernel
theorem d_MO_flip_35 : decode mi_MO_flip.2.1 35 = .ok (.iload_n 3, 1) := by decide +kernel
theorem d_MO_flip_36 : decode mi_MO_flip.2.1 36 = .ok (.bipush (8), 2) := by decide +kernel
theorem d_MO_flip_38 : decode mi_MO_flip.2.1 38 = .ok (.idiv, 1) := by decide +kernel
theorem d_MO_flip_39 : decode mi_MO_flip.2.1 39 = .ok (.iadd, 1) := by decide +kernel
theorem d_MO_flip_40 : decode mi_MO_flip.2.1 40 = .ok (.dup2, 1) := by decide +kernel
theorem d_MO_flip_41 : decode mi_MO_flip.2.1 41 = .ok (.iaload, 1) := by decide +kernel
theorem d_MO_flip_42 : decode mi_MO_flip.2.1 42 = .ok (.iconst 1, 1) := by decide +kernel
theorem d_MO_flip_43 : decode mi_MO_flip.2.1 43 = .ok (.iload_n 3, 1) := by decide +kernel
theorem d_MO_flip_44 : decode mi_MO_flip.2.1 44 = .ok (.bipush (8), 2) := by decide +kernel
theorem d_MO_flip_46 : decode mi_MO_flip.2.1 46 = .ok (.irem, 1) := by decide +kernel
theorem d_MO_flip_47 : decode mi_MO_flip.2.1 47 = .ok (.ishl, 1) := by decide +kernel
theorem d_MO_flip_48 : decode mi_MO_flip.2.1 48 = .ok (.ixor, 1) := by decide +kernel
theorem d_MO_flip_49 : decode mi_MO_flip.2.1 49 = .ok (.iastore, 1) := by decide +kernel
theorem d_MO_flip_50 : decode mi_MO_flip.2.1 50 = .ok (.iconst 1, 1) := by decide +kernel
theorem d_MO_flip_51 : decode mi_MO_flip.2.1 51 = .ok (.ireturn, 1) := by decide +kernel
theorem d_MO_wipe_0 : decode mi_MO_wipe.2.1 0 = .ok (.aload_n 0, 1) := by decide +kernel
theorem d_MO_wipe_1 : decode mi_MO_wipe.2.1 1 = .ok (.iload_n 1, 1) := by decide +kernel
theorem d_MO_wipe_2 : decode mi_MO_wipe.2.1 2 = .ok (.iload_n 2, 1) := by decide +kernel
theorem d_MO_wipe_3 : decode mi_MO_wipe.2.1 3 = .ok (.invokevirtual 108, 3) := by decide +kernel
theorem d_MO_wipe_6 : decode mi_MO_wipe.2.1 6 = .ok (.ifCond .ne (5), 3) := by decide +kernel
theorem d_MO_wipe_9 : decode mi_MO_wipe.2.1 9 = .ok (.iconst 0, 1) := by decide +kernel
theorem d_MO_wipe_10 : decode mi_MO_wipe.2.1 10 = .ok (.ireturn, 1) := by decide +kernel
theorem d_MO_wipe_11 : decode mi_MO_wipe.2.1 11 = .ok (.iconst 0, 1) := by decide +kernel
theorem d_MO_wipe_12 : decode mi_MO_wipe.2.1 12 = .ok (.istore_n 3, 1) := by decide +kernel
theorem d_MO_wipe_13 : decode mi_MO_wipe.2.1 13 = .ok (.iload_n 3, 1) := by decide +kernel
theorem d_MO_wipe_14 : decode mi_MO_wipe.2.1 14 = .ok (.bipush (8), 2) := by decide +kernel
theorem d_MO_wipe_16 : decode mi_MO_wipe.2.1 16 = .ok (.if_icmp .ge (27), 3) := by decide +kernel
theorem d_MO_wipe_19 : decode mi_MO_wipe.2.1 19 = .ok (.aload_n 0, 1) := by decide +kernel
theorem d_MO_wipe_20 : decode mi_MO_wipe.2.1 20 = .ok (.getfield 22, 3) := by decide +kernel
theorem d_MO_wipe_23 : decode mi_MO_wipe.2.1 23 = .ok (.sipush (144), 3) := by decide +kernel
theorem d_MO_wipe_26 : decode mi_MO_wipe.2.1 26 = .ok (.iload_n 1, 1) := by decide +kernel
theorem d_MO_wipe_27 : decode mi_MO_wipe.2.1 27 = .ok (.imul, 1) := by decide +kernel
theorem d_MO_wipe_28 : decode mi_MO_wipe.2.1 28 = .ok (.bipush (8), 2) := by decide +kernel
theorem d_MO_wipe_30 : decode mi_MO_wipe.2.1 30 = .ok (.iload_n 2, 1) := by decide +kernel
theorem d_MO_wipe_31 : decode mi_MO_wipe.2.1 31 = .ok (.imul, 1) := by decide +kernel
theorem d_MO_wipe_32 : decode mi_MO_wipe.2.1 32 = .ok (.iadd, 1) := by decide +kernel
theorem d_MO_wipe_33 : decode mi_MO_wipe.2.1 33 = .ok (.iload_n 3, 1) := by decide +kernel
theorem d_MO_wipe_34 : decode mi_MO_wipe.2.1 34 = .ok (.iadd, 1) := by decide +kernel
theorem d_MO_wipe_35 : decode mi_MO_wipe.2.1 35 = .ok (.iconst 0, 1) := by decide +kernel
theorem d_MO_wipe_36 : decode mi_MO_wipe.2.1 36 = .ok (.iastore, 1) := by decide +kernel
theorem d_MO_wipe_37 : decode mi_MO_wipe.2.1 37 = .ok (.iinc 3 (1), 3) := by decide +kernel
theorem d_MO_wipe_40 : decode mi_MO_wipe.2.1 40 = .ok (.goto (-27), 3) := by decide +kernel
theorem d_MO_wipe_43 : decode mi_MO_wipe.2.1 43 = .ok (.iconst 1, 1) := by decide +kernel
theorem d_MO_wipe_44 : decode mi_MO_wipe.2.1 44 = .ok (.ireturn, 1) := by decide +kernel
theorem d_MO_lead_0 : decode mi_MO_lead.2.1 0 = .ok (.aload_n 0, 1) := by decide +kernel
theorem d_MO_lead_1 : decode mi_MO_lead.2.1 1 = .ok (.iload_n 1, 1) := by decide +kernel
theorem d_MO_lead_2 : decode mi_MO_lead.2.1 2 = .ok (.invokevirtual 101, 3) := by decide +kernel
theorem d_MO_lead_5 : decode mi_MO_lead.2.1 5 = .ok (.ifCond .ne (5), 3) := by decide +kernel
theorem d_MO_lead_8 : decode mi_MO_lead.2.1 8 = .ok (.iconst (-1), 1) := by decide +kernel
theorem d_MO_lead_9 : decode mi_MO_lead.2.1 9 = .ok (.ireturn, 1) := by decide +kernel
theorem d_MO_lead_10 : decode mi_MO_lead.2.1 10 = .ok (.aload_n 0, 1) := by decide +kernel
theorem d_MO_lead_11 : decode mi_MO_lead.2.1 11 = .ok (.iload_n 1, 1) := by decide +kernel
theorem d_MO_lead_12 : decode mi_MO_lead.2.1 12 = .ok (.invokevirtual 111, 3) := by decide +kernel
theorem d_MO_lead_15 : decode mi_MO_lead.2.1 15 = .ok (.istore_n 2, 1) := by decide +kernel
theorem d_MO_lead_16 : decode mi_MO_lead.2.1 16 = .ok (.bipush (8), 2) := by decide +kernel
theorem d_MO_lead_18 : decode mi_MO_lead.2.1 18 = .ok (.iload_n 1, 1) := by decide +kernel
theorem d_MO_lead_19 : decode mi_MO_lead.2.1 19 = .ok (.imul, 1) := by decide +kernel
theorem d_MO_lead_20 : decode mi_MO_lead.2.1 20 = .ok (.istore_n 3, 1) := by decide +kernel
theorem d_MO_lead_21 : decode mi_MO_lead.2.1 21 = .ok (.iload_n 3, 1) := by decide +kernel
theorem d_MO_lead_22 : decode mi_MO_lead.2.1 22 = .ok (.bipush (8), 2) := by decide +kernel
theorem d_MO_lead_24 : decode mi_MO_lead.2.1 24 = .ok (.iload_n 1, 1) := by decide +kernel
theorem d_MO_lead_25 : decode mi_MO_lead.2.1 25 = .ok (.imul, 1) := by decide +kernel
theorem d_MO_lead_26 : decode mi_MO_lead.2.1 26 = .ok (.bipush (8), 2) := by decide +kernel
theorem d_MO_lead_28 : decode mi_MO_lead.2.1 28 = .ok (.iadd, 1) := by decide +kernel
theorem d_MO_lead_29 : decode mi_MO_lead.2.1 29 = .ok (.if_icmp .ge (28), 3) := by decide +kernel
theorem d_MO_lead_32 : decode mi_MO_lead.2.1 32 = .ok (.iload_n 2, 1) := by decide +kernel
theorem d_MO_lead_33 : decode mi_MO_lead.2.1 33 = .ok (.ifCond .eq (16), 3) := by decide +kernel
theorem d_MO_lead_36 : decode mi_MO_lead.2.1 36 = .ok (.aload_n 0, 1) := by decide +kernel
theorem d_MO_lead_37 : decode mi_MO_lead.2.1 37 = .ok (.getfield 44, 3) := by decide +kernel
theorem d_MO_lead_40 : decode mi_MO_lead.2.1 40 = .ok (.iload_n 3, 1) := by decide +kernel
theorem d_MO_lead_41 : decode mi_MO_lead.2.1 41 = .ok (.iaload, 1) := by decide +kernel
theorem d_MO_lead_42 : decode mi_MO_lead.2.1 42 = .ok (.ifCond .lt (7), 3) := by decide +kernel
theorem d_MO_lead_45 : decode mi_MO_lead.2.1 45 = .ok (.iconst 1, 1) := by decide +kernel
theorem d_MO_lead_46 : decode mi_MO_lead.2.1 46 = .ok (.goto (4), 3) := by decide +kernel
theorem d_MO_lead_49 : decode mi_MO_lead.2.1 49 = .ok (.iconst 0, 1) := by decide +kernel
theorem d_MO_lead_50 : decode mi_MO_lead.2.1 50 = .ok (.istore_n 2, 1) := by decide +kernel
theorem d_MO_lead_51 : decode mi_MO_lead.2.1 51 = .ok (.iinc 3 (1), 3) := by decide +kernel
theorem d_MO_lead_54 : decode mi_MO_lead.2.1 54 = .ok (.goto (-33), 3) := by decide +kernel
theorem d_MO_lead_57 : decode mi_MO_lead.2.1 57 = .ok (.bipush (8), 2) := by decide +kernel
theorem d_MO_lead_59 : decode mi_MO_lead.2.1 59 = .ok (.iload_n 1, 1) := by decide +kernel
theorem d_MO_lead_60 : decode mi_MO_lead.2.1 60 = .ok (.iadd, 1) := by decide +kernel
theorem d_MO_lead_61 : decode mi_MO_lead.2.1 61 = .ok (.istore_n 3, 1) := by decide +kernel
theorem d_MO_lead_62 : decode mi_MO_lead.2.1 62 = .ok (.iload_n 3, 1) := by decide +kernel
theorem d_MO_lead_63 : decode mi_MO_lead.2.1 63 = .ok (.aload_n 0, 1) := by decide +kernel
theorem d_MO_lead_64 : decode mi_MO_lead.2.1 64 = .ok (.getfield 35, 3) := by decide +kernel
theorem d_MO_lead_67 : decode mi_MO_lead.2.1 67 = .ok (.iload_n 1, 1) := by decide +kernel
theorem d_MO_lead_68 : decode mi_MO_lead.2.1 68 = .ok (.iaload, 1) := by decide +kernel
theorem d_MO_lead_69 : decode mi_MO_lead.2.1 69 = .ok (.if_icmp .gt (9), 3) := by decide +kernel
theorem d_MO_lead_72 : decode mi_MO_lead.2.1 72 = .ok (.iinc 3 (8), 3) := by decide +kernel
theorem d_MO_lead_75 : decode mi_MO_lead.2.1 75 = .ok (.goto (-13), 3) := by decide +kernel
theorem d_MO_lead_78 : decode mi_MO_lead.2.1 78 = .ok (.iload_n 2, 1) := by decide +kernel
theorem d_MO_lead_79 : decode mi_MO_lead.2.1 79 = .ok (.ifCond .eq (9), 3) := by decide +kernel
theorem d_MO_lead_82 : decode mi_MO_lead.2.1 82 = .ok (.iload_n 3, 1) := by decide +kernel
theorem d_MO_lead_83 : decode mi_MO_lead.2.1 83 = .ok (.ldc 114, 2) := by decide +kernel
theorem d_MO_lead_85 : decode mi_MO_lead.2.1 85 = .ok (.if_icmp .le (5), 3) := by decide +kernel
theorem d_MO_lead_88 : decode mi_MO_lead.2.1 88 = .ok (.iconst 0, 1) := by decide +kernel
theorem d_MO_lead_89 : decode mi_MO_lead.2.1 89 = .ok (.ireturn, 1) := by decide +kernel
theorem d_MO_lead_90 : decode mi_MO_lead.2.1 90 = .ok (.aload_n 0, 1) := by decide +kernel
theorem d_MO_lead_91 : decode mi_MO_lead.2.1 91 = .ok (.iload_n 1, 1) := by decide +kernel
theorem d_MO_lead_92 : decode mi_MO_lead.2.1 92 = .ok (.iload_n 3, 1) := by decide +kernel
theorem d_MO_lead_93 : decode mi_MO_lead.2.1 93 = .ok (.invokevirtual 115, 3) := by decide +kernel
theorem d_MO_lead_96 : decode mi_MO_lead.2.1 96 = .ok (.ifCond .ne (6), 3) := by decide +kernel
theorem d_MO_lead_99 : decode mi_MO_lead.2.1 99 = .ok (.bipush (-4), 2) := by decide +kernel
theorem d_MO_lead_101 : decode mi_MO_lead.2.1 101 = .ok (.ireturn, 1) := by decide +kernel
theorem d_MO_lead_102 : decode mi_MO_lead.2.1 102 = .ok (.aload_n 0, 1) := by decide +kernel
theorem d_MO_lead_103 : decode mi_MO_lead.2.1 103 = .ok (.getfield 38, 3) := by decide +kernel
theorem d_MO_lead_106 : decode mi_MO_lead.2.1 106 = .ok (.iload_n 1, 1) := by decide +kernel
theorem d_MO_lead_107 : decode mi_MO_lead.2.1 107 = .ok (.iload_n 3, 1) := by decide +kernel
theorem d_MO_lead_108 : decode mi_MO_lead.2.1 108 = .ok (.iastore, 1) := by decide +kernel
theorem d_MO_lead_109 : decode mi_MO_lead.2.1 109 = .ok (.aload_n 0, 1) := by decide +kernel
theorem d_MO_lead_110 : decode mi_MO_lead.2.1 110 = .ok (.iload_n 1, 1) := by decide +kernel
theorem d_MO_lead_111 : decode mi_MO_lead.2.1 111 = .ok (.invokevirtual 79, 3) := by decide +kernel
theorem d_MO_lead_114 : decode mi_MO_lead.2.1 114 = .ok (.iload_n 3, 1) := by decide +kernel
theorem d_MO_lead_115 : decode mi_MO_lead.2.1 115 = .ok (.ireturn, 1) := by decide +kernel
theorem d_MO_promise_0 : decode mi_MO_promise.2.1 0 = .ok (.aload_n 0, 1) := by decide +kernel
theorem d_MO_promise_1 : decode mi_MO_promise.2.1 1 = .ok (.iload_n 1, 1) := by decide +kernel
theorem d_MO_promise_2 : decode mi_MO_promise.2.1 2 = .ok (.invokevirtual 101, 3) := by decide +kernel
theorem d_MO_promise_5 : decode mi_MO_promise.2.1 5 = .ok (.ifCond .eq (11), 3) := by decide +kernel
theorem d_MO_promise_8 : decode mi_MO_promise.2.1 8 = .ok (.aload_n 0, 1) := by decide +kernel
theorem d_MO_promise_9 : decode mi_MO_promise.2.1 9 = .ok (.iload_n 2, 1) := by decide +kernel
theorem d_MO_promise_10 : decode mi_MO_promise.2.1 10 = .ok (.invokevirtual 101, 3) := by decide +kernel
theorem d_MO_promise_13 : decode mi_MO_promise.2.1 13 = .ok (.ifCond .ne (5), 3) := by decide +kernel
theorem d_MO_promise_16 : decode mi_MO_promise.2.1 16 = .ok (.iconst (-1), 1) := by decide +kernel
theorem d_MO_promise_17 : decode mi_MO_promise.2.1 17 = .ok (.ireturn, 1) := by decide +kernel
theorem d_MO_promise_18 : decode mi_MO_promise.2.1 18 = .ok (.aload_n 0, 1) := by decide +kernel
theorem d_MO_promise_19 : decode mi_MO_promise.2.1 19 = .ok (.getfield 25, 3) := by decide +kernel
theorem d_MO_promise_22 : decode mi_MO_promise.2.1 22 = .ok (.iload_n 1, 1) := by decide +kernel
theorem d_MO_promise_23 : decode mi_MO_promise.2.1 23 = .ok (.baload, 1) := by decide +kernel
theorem d_MO_promise_24 : decode mi_MO_promise.2.1 24 = .ok (.ifCond .eq (12), 3) := by decide +kernel
theorem d_MO_promise_27 : decode mi_MO_promise.2.1 27 = .ok (.aload_n 0, 1) := by decide +kernel
theorem d_MO_promise_28 : decode mi_MO_promise.2.1 28 = .ok (.getfield 38, 3) := by decide +kernel
theorem d_MO_promise_31 : decode mi_MO_promise.2.1 31 = .ok (.iload_n 1, 1) := by decide +kernel
theorem d_MO_promise_32 : decode mi_MO_promise.2.1 32 = .ok (.iaload, 1) := by decide +kernel
theorem d_MO_promise_33 : decode mi_MO_promise.2.1 33 = .ok (.ifCond .ne (5), 3) := by decide +kernel
theorem d_MO_promise_36 : decode mi_MO_promise.2.1 36 = .ok (.iconst 0, 1) := by decide +kernel
theorem d_MO_promise_37 : decode mi_MO_promise.2.1 37 = .ok (.ireturn, 1) := by decide +kernel
theorem d_MO_promise_38 : decode mi_MO_promise.2.1 38 = .ok (.aload_n 0, 1) := by decide +kernel
theorem d_MO_promise_39 : decode mi_MO_promise.2.1 39 = .ok (.iload_n 2, 1) := by decide +kernel
theorem d_MO_promise_40 : decode mi_MO_promise.2.1 40 = .ok (.invokevirtual 111, 3) := by decide +kernel
theorem d_MO_promise_43 : decode mi_MO_promise.2.1 43 = .ok (.ifCond .ne (6), 3) := by decide +kernel
theorem d_MO_promise_46 : decode mi_MO_promise.2.1 46 = .ok (.bipush (-2), 2) := by decide +kernel
theorem d_MO_promise_48 : decode mi_MO_promise.2.1 48 = .ok (.ireturn, 1) := by decide +kernel
theorem d_MO_promise_49 : decode mi_MO_promise.2.1 49 = .ok (.aload_n 0, 1) := by decide +kernel
theorem d_MO_promise_50 : decode mi_MO_promise.2.1 50 = .ok (.getfield 35, 3) := by decide +kernel
theorem d_MO_promise_53 : decode mi_MO_promise.2.1 53 = .ok (.iload_n 2, 1) := by decide +kernel
theorem d_MO_promise_54 : decode mi_MO_promise.2.1 54 = .ok (.iaload, 1) := by decide +kernel
theorem d_MO_promise_55 : decode mi_MO_promise.2.1 55 = .ok (.aload_n 0, 1) := by decide +kernel
theorem d_MO_promise_56 : decode mi_MO_promise.2.1 56 = .ok (.getfield 38, 3) := by decide +kernel
theorem d_MO_promise_59 : decode mi_MO_promise.2.1 59 = .ok (.iload_n 1, 1) := by decide +kernel
theorem d_MO_promise_60 : decode mi_MO_promise.2.1 60 = .ok (.iaload, 1) := by decide +kernel
theorem d_MO_promise_61 : decode mi_MO_promise.2.1 61 = .ok (.if_icmp .le (6), 3) := by decide +kernel
theorem d_MO_promise_64 : decode mi_MO_promise.2.1 64 = .ok (.bipush (-3), 2) := by decide +kernel
theorem d_MO_promise_66 : decode mi_MO_promise.2.1 66 = .ok (.ireturn, 1) := by decide +kernel
theorem d_MO_promise_67 : decode mi_MO_promise.2.1 67 = .ok (.aload_n 0, 1) := by decide +kernel
theorem d_MO_promise_68 : decode mi_MO_promise.2.1 68 = .ok (.getfield 35, 3) := by decide +kernel
theorem d_MO_promise_71 : decode mi_MO_promise.2.1 71 = .ok (.iload_n 2, 1) := by decide +kernel
theorem d_MO_promise_72 : decode mi_MO_promise.2.1 72 = .ok (.iaload, 1) := by decide +kernel
theorem d_MO_promise_73 : decode mi_MO_promise.2.1 73 = .ok (.aload_n 0, 1) := by decide +kernel
theorem d_MO_promise_74 : decode mi_MO_promise.2.1 74 = .ok (.getfield 38, 3) := by decide +kernel
theorem d_MO_promise_77 : decode mi_MO_promise.2.1 77 = .ok (.iload_n 1, 1) := by decide +kernel
theorem d_MO_promise_78 : decode mi_MO_promise.2.1 78 = .ok (.iaload, 1) := by decide +kernel
theorem d_MO_promise_79 : decode mi_MO_promise.2.1 79 = .ok (.if_icmp .ge (20), 3) := by decide +kernel
theorem d_MO_promise_82 : decode mi_MO_promise.2.1 82 = .ok (.aload_n 0, 1) := by decide +kernel
theorem d_MO_promise_83 : decode mi_MO_promise.2.1 83 = .ok (.iload_n 2, 1) := by decide +kernel
theorem d_MO_promise_84 : decode mi_MO_promise.2.1 84 = .ok (.aload_n 0, 1) := by decide +kernel
theorem d_MO_promise_85 : decode mi_MO_promise.2.1 85 = .ok (.getfield 38, 3) := by decide +kernel
theorem d_MO_promise_88 : decode mi_MO_promise.2.1 88 = .ok (.iload_n 1, 1) := by decide +kernel
theorem d_MO_promise_89 : decode mi_MO_promise.2.1 89 = .ok (.iaload, 1) := by decide +kernel
theorem d_MO_promise_90 : decode mi_MO_promise.2.1 90 = .ok (.invokevirtual 115, 3) := by decide +kernel
theorem d_MO_promise_93 : decode mi_MO_promise.2.1 93 = .ok (.ifCond .ne (6), 3) := by decide +kernel
theorem d_MO_promise_96 : decode mi_MO_promise.2.1 96 = .ok (.bipush (-4), 2) := by decide +kernel
theorem d_MO_promise_98 : decode mi_MO_promise.2.1 98 = .ok (.ireturn, 1) := by decide +kernel
theorem d_MO_promise_99 : decode mi_MO_promise.2.1 99 = .ok (.aload_n 0, 1) := by decide +kernel
theorem d_MO_promise_100 : decode mi_MO_promise.2.1 100 = .ok (.getfield 41, 3) := by decide +kernel
theorem d_MO_promise_103 : decode mi_MO_promise.2.1 103 = .ok (.iload_n 1, 1) := by decide +kernel
theorem d_MO_promise_104 : decode mi_MO_promise.2.1 104 = .ok (.dup2, 1) := by decide +kernel
theorem d_MO_promise_105 : decode mi_MO_promise.2.1 105 = .ok (.iaload, 1) := by decide +kernel
theorem d_MO_promise_106 : decode mi_MO_promise.2.1 106 = .ok (.iconst 1, 1) := by decide +kernel
theorem d_MO_promise_107 : decode mi_MO_promise.2.1 107 = .ok (.iload_n 2, 1) := by decide +kernel
theorem d_MO_promise_108 : decode mi_MO_promise.2.1 108 = .ok (.ishl, 1) := by decide +kernel
theorem d_MO_promise_109 : decode mi_MO_promise.2.1 109 = .ok (.ior, 1) := by decide +kernel
theorem d_MO_promise_110 : decode mi_MO_promise.2.1 110 = .ok (.iastore, 1) := by decide +kernel
theorem d_MO_promise_111 : decode mi_MO_promise.2.1 111 = .ok (.iconst 0, 1) := by decide +kernel
theorem d_MO_promise_112 : decode mi_MO_promise.2.1 112 = .ok (.istore_n 3, 1) := by decide +kernel
theorem d_MO_promise_113 : decode mi_MO_promise.2.1 113 = .ok (.iload_n 3, 1) := by decide +kernel
theorem d_MO_promise_114 : decode mi_MO_promise.2.1 114 = .ok (.bipush (8), 2) := by decide +kernel
theorem d_MO_promise_116 : decode mi_MO_promise.2.1 116 = .ok (.if_icmp .ge (36), 3) := by decide +kernel
theorem d_MO_promise_119 : decode mi_MO_promise.2.1 119 = .ok (.aload_n 0, 1) := by decide +kernel
theorem d_MO_promise_120 : decode mi_MO_promise.2.1 120 = .ok (.getfield 59, 3) := by decide +kernel
theorem d_MO_promise_123 : decode mi_MO_promise.2.1 123 = .ok (.bipush (40), 2) := by decide +kernel
theorem d_MO_promise_125 : decode mi_MO_promise.2.1 125 = .ok (.iload_n 1, 1) := by decide +kernel
theorem d_MO_promise_126 : decode mi_MO_promise.2.1 126 = .ok (.imul, 1) := by decide +kernel
theorem d_MO_promise_127 : decode mi_MO_promise.2.1 127 = .ok (.bipush (8), 2) := by decide +kernel
theorem d_MO_promise_129 : decode mi_MO_promise.2.1 129 = .ok (.iload_n 2, 1) := by decide +kernel
theorem d_MO_promise_130 : decode mi_MO_promise.2.1 130 = .ok (.imul, 1) := by decide +kernel
theorem d_MO_promise_131 : decode mi_MO_promise.2.1 131 = .ok (.iadd, 1) := by decide +kernel
theorem d_MO_promise_132 : decode mi_MO_promise.2.1 132 = .ok (.iload_n 3, 1) := by decide +kernel
theorem d_MO_promise_133 : decode mi_MO_promise.2.1 133 = .ok (.iadd, 1) := by decide +kernel
theorem d_MO_promise_134 : decode mi_MO_promise.2.1 134 = .ok (.aload_n 0, 1) := by decide +kernel
theorem d_MO_promise_135 : decode mi_MO_promise.2.1 135 = .ok (.getfield 44, 3) := by decide +kernel
theorem d_MO_promise_138 : decode mi_MO_promise.2.1 138 = .ok (.bipush (8), 2) := by decide +kernel
theorem d_MO_promise_140 : decode mi_MO_promise.2.1 140 = .ok (.iload_n 2, 1) := by decide +kernel
theorem d_MO_promise_141 : decode mi_MO_promise.2.1 141 = .ok (.imul, 1) := by decide +kernel
theorem d_MO_promise_142 : decode mi_MO_promise.2.1 142 = .ok (.iload_n 3, 1) := by decide +kernel
theorem d_MO_promise_143 : decode mi_MO_promise.2.1 143 = .ok (.iadd, 1) := by decide +kernel
theorem d_MO_promise_144 : decode mi_MO_promise.2.1 144 = .ok (.iaload, 1) := by decide +kernel
theorem d_MO_promise_145 : decode mi_MO_promise.2.1 145 = .ok (.iastore, 1) := by decide +kernel
theorem d_MO_promise_146 : decode mi_MO_promise.2.1 146 = .ok (.iinc 3 (1), 3) := by decide +kernel
theorem d_MO_promise_149 : decode mi_MO_promise.2.1 149 = .ok (.goto (-36), 3) := by decide +kernel
theorem d_MO_promise_152 : decode mi_MO_promise.2.1 152 = .ok (.iconst 1, 1) := by decide +kernel
theorem d_MO_promise_153 : decode mi_MO_promise.2.1 153 = .ok (.ireturn, 1) := by decide +kernel
theorem d_MO_leads_0 : decode mi_MO_leads.2.1 0 = .ok (.aload_n 0, 1) := by decide +kernel
theorem d_MO_leads_1 : decode mi_MO_leads.2.1 1 = .ok (.getfield 25, 3) := by decide +kernel
theorem d_MO_leads_4 : decode mi_MO_leads.2.1 4 = .ok (.iload_n 1, 1) := by decide +kernel
theorem d_MO_leads_5 : decode mi_MO_leads.2.1 5 = .ok (.baload, 1) := by decide +kernel
theorem d_MO_leads_6 : decode mi_MO_leads.2.1 6 = .ok (.ifCond .eq (29), 3) := by decide +kernel
theorem d_MO_leads_9 : decode mi_MO_leads.2.1 9 = .ok (.aload_n 0, 1) := by decide +kernel
theorem d_MO_leads_10 : decode mi_MO_leads.2.1 10 = .ok (.getfield 38, 3) := by decide +kernel
theorem d_MO_leads_13 : decode mi_MO_leads.2.1 13 = .ok (.iload_n 1, 1) := by decide +kernel
theorem d_MO_leads_14 : decode mi_MO_leads.2.1 14 = .ok (.iaload, 1) := by decide +kernel
theorem d_MO_leads_15 : decode mi_MO_leads.2.1 15 = .ok (.ifCond .le (20), 3) := by decide +kernel
theorem d_MO_leads_18 : decode mi_MO_leads.2.1 18 = .ok (.aload_n 0, 1) := by decide +kernel
theorem d_MO_leads_19 : decode mi_MO_leads.2.1 19 = .ok (.aload_n 0, 1) := by decide +kernel
theorem d_MO_leads_20 : decode mi_MO_leads.2.1 20 = .ok (.getfield 41, 3) := by decide +kernel
theorem d_MO_leads_23 : decode mi_MO_leads.2.1 23 = .ok (.iload_n 1, 1) := by decide +kernel
theorem d_MO_leads_24 : decode mi_MO_leads.2.1 24 = .ok (.iaload, 1) := by decide +kernel
theorem d_MO_leads_25 : decode mi_MO_leads.2.1 25 = .ok (.invokevirtual 118, 3) := by decide +kernel
theorem d_MO_leads_28 : decode mi_MO_leads.2.1 28 = .ok (.ifCond .eq (7), 3) := by decide +kernel
theorem d_MO_leads_31 : decode mi_MO_leads.2.1 31 = .ok (.iconst 1, 1) := by decide +kernel
theorem d_MO_leads_32 : decode mi_MO_leads.2.1 32 = .ok (.goto (4), 3) := by decide +kernel
theorem d_MO_leads_35 : decode mi_MO_leads.2.1 35 = .ok (.iconst 0, 1) := by decide +kernel
theorem d_MO_leads_36 : decode mi_MO_leads.2.1 36 = .ok (.ireturn, 1) := by decide +kernel
theorem d_MO_planned_0 : decode mi_MO_planned.2.1 0 = .ok (.iconst 0, 1) := by decide +kernel
theorem d_MO_planned_1 : decode mi_MO_planned.2.1 1 = .ok (.istore_n 3, 1) := by decide +kernel
theorem d_MO_planned_2 : decode mi_MO_planned.2.1 2 = .ok (.iconst 0, 1) := by decide +kernel
theorem d_MO_planned_3 : decode mi_MO_planned.2.1 3 = .ok (.istore 4, 2) := by decide +kernel
theorem d_MO_planned_5 : decode mi_MO_planned.2.1 5 = .ok (.iconst 0, 1) := by decide +kernel
theorem d_MO_planned_6 : decode mi_MO_planned.2.1 6 = .ok (.istore 5, 2) := by decide +kernel
theorem d_MO_planned_8 : decode mi_MO_planned.2.1 8 = .ok (.iconst 0, 1) := by decide +kernel
theorem d_MO_planned_9 : decode mi_MO_planned.2.1 9 = .ok (.istore 6, 2) := by decide +kernel
theorem d_MO_planned_11 : decode mi_MO_planned.2.1 11 = .ok (.iload 6, 2) := by decide +kernel
theorem d_MO_planned_13 : decode mi_MO_planned.2.1 13 = .ok (.aload_n 0, 1) := by decide +kernel
theorem d_MO_planned_14 : decode mi_MO_planned.2.1 14 = .ok (.getfield 71, 3) := by decide +kernel
theorem d_MO_planned_17 : decode mi_MO_planned.2.1 17 = .ok (.if_icmp .ge (94), 3) := by decide +kernel
theorem d_MO_planned_20 : decode mi_MO_planned.2.1 20 = .ok (.aload_n 0, 1) := by decide +kernel
theorem d_MO_planned_21 : decode mi_MO_planned.2.1 21 = .ok (.getfield 41, 3) := by decide +kernel
theorem d_MO_planned_24 : decode mi_MO_planned.2.1 24 = .ok (.iload_n 1, 1) := by decide +kernel
theorem d_MO_planned_25 : decode mi_MO_planned.2.1 25 = .ok (.iaload, 1) := by decide +kernel
theorem d_MO_planned_26 : decode mi_MO_planned.2.1 26 = .ok (.iload 6, 2) := by decide +kernel
theorem d_MO_planned_28 : decode mi_MO_planned.2.1 28 = .ok (.ishr, 1) := by decide +kernel
theorem d_MO_planned_29 : decode mi_MO_planned.2.1 29 = .ok (.iconst 1, 1) := by decide +kernel
theorem d_MO_planned_30 : decode mi_MO_planned.2.1 30 = .ok (.iand, 1) := by decide +kernel
theorem d_MO_planned_31 : decode mi_MO_planned.2.1 31 = .ok (.ifCond .ne (6), 3) := by decide +kernel
theorem d_MO_planned_34 : decode mi_MO_planned.2.1 34 = .ok (.goto (71), 3) := by decide +kernel
theorem d_MO_planned_37 : decode mi_MO_planned.2.1 37 = .ok (.aload_n 0, 1) := by decide +kernel
theorem d_MO_planned_38 : decode mi_MO_planned.2.1 38 = .ok (.getfield 59, 3) := by decide +kernel
theorem d_MO_planned_41 : decode mi_MO_planned.2.1 41 = .ok (.bipush (40), 2) := by decide +kernel
theorem d_MO_planned_43 : decode mi_MO_planned.2.1 43 = .ok (.iload_n 1, 1) := by decide +kernel
theorem d_MO_planned_44 : decode mi_MO_planned.2.1 44 = .ok (.imul, 1) := by decide +kernel
theorem d_MO_planned_45 : decode mi_MO_planned.2.1 45 = .ok (.bipush (8), 2) := by decide +kernel
theorem d_MO_planned_47 : decode mi_MO_planned.2.1 47 = .ok (.iload 6, 2) := by decide +kernel
theorem d_MO_planned_49 : decode mi_MO_planned.2.1 49 = .ok (.imul, 1) := by decide +kernel
theorem d_MO_planned_50 : decode mi_MO_planned.2.1 50 = .ok (.iadd, 1) := by decide +kernel
theorem d_MO_planned_51 : decode mi_MO_planned.2.1 51 = .ok (.iload_n 2, 1) := by decide +kernel
theorem d_MO_planned_52 : decode mi_MO_planned.2.1 52 = .ok (.iadd, 1) := by decide +kernel
theorem d_MO_planned_53 : decode mi_MO_planned.2.1 53 = .ok (.iconst 1, 1) := by decide +kernel
theorem d_MO_planned_54 : decode mi_MO_planned.2.1 54 = .ok (.isub, 1) := by decide +kernel
theorem d_MO_planned_55 : decode mi_MO_planned.2.1 55 = .ok (.iaload, 1) := by decide +kernel
theorem d_MO_planned_56 : decode mi_MO_planned.2.1 56 = .ok (.istore 7, 2) := by decide +kernel
theorem d_MO_planned_58 : decode mi_MO_planned.2.1 58 = .ok (.iload 4, 2) := by decide +kernel
theorem d_MO_planned_60 : decode mi_MO_planned.2.1 60 = .ok (.iload 7, 2) := by decide +kernel
theorem d_MO_planned_62 : decode mi_MO_planned.2.1 62 = .ok (.ifCond .lt (10), 3) := by decide +kernel
theorem d_MO_planned_65 : decode mi_MO_planned.2.1 65 = .ok (.iconst 1, 1) := by decide +kernel
theorem d_MO_planned_66 : decode mi_MO_planned.2.1 66 = .ok (.iload 6, 2) := by decide +kernel
theorem d_MO_planned_68 : decode mi_MO_planned.2.1 68 = .ok (.ishl, 1) := by decide +kernel
theorem d_MO_planned_69 : decode mi_MO_planned.2.1 69 = .ok (.goto (4), 3) := by decide +kernel
theorem d_MO_planned_72 : decode mi_MO_planned.2.1 72 = .ok (.iconst 0, 1) := by decide +kernel
theorem d_MO_planned_73 : decode mi_MO_planned.2.1 73 = .ok (.ior, 1) := by decide +kernel
theorem d_MO_planned_74 : decode mi_MO_planned.2.1 74 = .ok (.istore 4, 2) := by decide +kernel
theorem d_MO_planned_76 : decode mi_MO_planned.2.1 76 = .ok (.iload 7, 2) := by decide +kernel
theorem d_MO_planned_78 : decode mi_MO_planned.2.1 78 = .ok (.iload_n 3, 1) := by decide +kernel
theorem d_MO_planned_79 : decode mi_MO_planned.2.1 79 = .ok (.if_icmp .le (8), 3) := by decide +kernel
theorem d_MO_planned_82 : decode mi_MO_planned.2.1 82 = .ok (.iload 7, 2) := by decide +kernel
theorem d_MO_planned_84 : decode mi_MO_planned.2.1 84 = .ok (.goto (4), 3) := by decide +kernel
theorem d_MO_planned_87 : decode mi_MO_planned.2.1 87 = .ok (.iload_n 3, 1) := by decide +kernel
theorem d_MO_planned_88 : decode mi_MO_planned.2.1 88 = .ok (.istore_n 3, 1) := by decide +kernel
theorem d_MO_planned_89 : decode mi_MO_planned.2.1 89 = .ok (.iload 7, 2) := by decide +kernel
theorem d_MO_planned_91 : decode mi_MO_planned.2.1 91 = .ok (.iload 5, 2) := by decide +kernel
theorem d_MO_planned_93 : decode mi_MO_planned.2.1 93 = .ok (.if_icmp .ge (8), 3) := by decide +kernel
theorem d_MO_planned_96 : decode mi_MO_planned.2.1 96 = .ok (.iload 7, 2) := by decide +kernel
theorem d_MO_planned_98 : decode mi_MO_planned.2.1 98 = .ok (.goto (5), 3) := by decide +kernel
theorem d_MO_planned_101 : decode mi_MO_planned.2.1 101 = .ok (.iload 5, 2) := by decide +kernel
theorem d_MO_planned_103 : decode mi_MO_planned.2.1 103 = .ok (.istore 5, 2) := by decide +kernel
theorem d_MO_planned_105 : decode mi_MO_planned.2.1 105 = .ok (.iinc 6 (1), 3) := by decide +kernel
theorem d_MO_planned_108 : decode mi_MO_planned.2.1 108 = .ok (.goto (-97), 3) := by decide +kernel
theorem d_MO_planned_111 : decode mi_MO_planned.2.1 111 = .ok (.iload 5, 2) := by decide +kernel
theorem d_MO_planned_113 : decode mi_MO_planned.2.1 113 = .ok (.ifCond .eq (22), 3) := by decide +kernel
theorem d_MO_planned_116 : decode mi_MO_planned.2.1 116 = .ok (.iload 5, 2) := by decide +kernel
theorem d_MO_planned_118 : decode mi_MO_planned.2.1 118 = .ok (.ldc 100, 2) := by decide +kernel
theorem d_MO_planned_120 : decode mi_MO_planned.2.1 120 = .ok (.if_icmp .eq (19), 3) := by decide +kernel
theorem d_MO_planned_123 : decode mi_MO_planned.2.1 123 = .ok (.bipush (-2), 2) := by decide +kernel
theorem d_MO_planned_125 : decode mi_MO_planned.2.1 125 = .ok (.iload 5, 2) := by decide +kernel
theorem d_MO_planned_127 : decode mi_MO_planned.2.1 127 = .ok (.isub, 1) := by decide +kernel
theorem d_MO_planned_128 : decode mi_MO_planned.2.1 128 = .ok (.iload_n 3, 1) := by decide +kernel
theorem d_MO_planned_129 : decode mi_MO_planned.2.1 129 = .ok (.bipush (64), 2) := by decide +kernel
theorem d_MO_planned_131 : decode mi_MO_planned.2.1 131 = .ok (.idiv, 1) := by decide +kernel
theorem d_MO_planned_132 : decode mi_MO_planned.2.1 132 = .ok (.if_icmp .gt (7), 3) := by decide +kernel
theorem d_MO_planned_135 : decode mi_MO_planned.2.1 135 = .ok (.iconst 1, 1) := by decide +kernel
theorem d_MO_planned_136 : decode mi_MO_planned.2.1 136 = .ok (.goto (4), 3) := by decide +kernel
theorem d_MO_planned_139 : decode mi_MO_planned.2.1 139 = .ok (.iconst 0, 1) := by decide +kernel
theorem d_MO_planned_140 : decode mi_MO_planned.2.1 140 = .ok (.istore 6, 2) := by decide +kernel
theorem d_MO_planned_142 : decode mi_MO_planned.2.1 142 = .ok (.aload_n 0, 1) := by decide +kernel
theorem d_MO_planned_143 : decode mi_MO_planned.2.1 143 = .ok (.iload 4, 2) := by decide +kernel
theorem d_MO_planned_145 : decode mi_MO_planned.2.1 145 = .ok (.invokevirtual 118, 3) := by decide +kernel
theorem d_MO_planned_148 : decode mi_MO_planned.2.1 148 = .ok (.ifCond .ne (11), 3) := by decide +kernel
theorem d_MO_planned_151 : decode mi_MO_planned.2.1 151 = .ok (.iload 6, 2) := by decide +kernel
theorem d_MO_planned_153 : decode mi_MO_planned.2.1 153 = .ok (.ifCond .ne (6), 3) := by decide +kernel
theorem d_MO_planned_156 : decode mi_MO_planned.2.1 156 = .ok (.bipush (-2), 2) := by decide +kernel
theorem d_MO_planned_158 : decode mi_MO_planned.2.1 158 = .ok (.ireturn, 1) := by decide +kernel
theorem d_MO_planned_159 : decode mi_MO_planned.2.1 159 = .ok (.iload_n 3, 1) := by decide +kernel
theorem d_MO_planned_160 : decode mi_MO_planned.2.1 160 = .ok (.ifCond .ne (8), 3) := by decide +kernel
theorem d_MO_planned_163 : decode mi_MO_planned.2.1 163 = .ok (.bipush (-3), 2) := by decide +kernel
theorem d_MO_planned_165 : decode mi_MO_planned.2.1 165 = .ok (.goto (7), 3) := by decide +kernel
theorem d_MO_planned_168 : decode mi_MO_planned.2.1 168 = .ok (.iload_n 3, 1) := by decide +kernel
theorem d_MO_planned_169 : decode mi_MO_planned.2.1 169 = .ok (.bipush (64), 2) := by decide +kernel
theorem d_MO_planned_171 : decode mi_MO_planned.2.1 171 = .ok (.irem, 1) := by decide +kernel
theorem d_MO_planned_172 : decode mi_MO_planned.2.1 172 = .ok (.ireturn, 1) := by decide +kernel
theorem d_MO_isUsed_0 : decode mi_MO_isUsed.2.1 0 = .ok (.aload_n 0, 1) := by decide +kernel
theorem d_MO_isUsed_1 : decode mi_MO_isUsed.2.1 1 = .ok (.iload_n 1, 1) := by decide +kernel
theorem d_MO_isUsed_2 : decode mi_MO_isUsed.2.1 2 = .ok (.iload_n 2, 1) := by decide +kernel
theorem d_MO_isUsed_3 : decode mi_MO_isUsed.2.1 3 = .ok (.invokevirtual 121, 3) := by decide +kernel
theorem d_MO_isUsed_6 : decode mi_MO_isUsed.2.1 6 = .ok (.bipush (-3), 2) := by decide +kernel
theorem d_MO_isUsed_8 : decode mi_MO_isUsed.2.1 8 = .ok (.if_icmp .ne (35), 3) := by decide +kernel
theorem d_MO_isUsed_11 : decode mi_MO_isUsed.2.1 11 = .ok (.aload_n 0, 1) := by decide +kernel
theorem d_MO_isUsed_12 : decode mi_MO_isUsed.2.1 12 = .ok (.getfield 47, 3) := by decide +kernel
theorem d_MO_isUsed_15 : decode mi_MO_isUsed.2.1 15 = .ok (.bipush (8), 2) := by decide +kernel
theorem d_MO_isUsed_17 : decode mi_MO_isUsed.2.1 17 = .ok (.iload_n 1, 1) := by decide +kernel
theorem d_MO_isUsed_18 : decode mi_MO_isUsed.2.1 18 = .ok (.imul, 1) := by decide +kernel
theorem d_MO_isUsed_19 : decode mi_MO_isUsed.2.1 19 = .ok (.iload_n 2, 1) := by decide +kernel
theorem d_MO_isUsed_20 : decode mi_MO_isUsed.2.1 20 = .ok (.iadd, 1) := by decide +kernel
theorem d_MO_isUsed_21 : decode mi_MO_isUsed.2.1 21 = .ok (.iconst 1, 1) := by decide +kernel
theorem d_MO_isUsed_22 : decode mi_MO_isUsed.2.1 22 = .ok (.isub, 1) := by decide +kernel
theorem d_MO_isUsed_23 : decode mi_MO_isUsed.2.1 23 = .ok (.iaload, 1) := by decide +kernel
theorem d_MO_isUsed_24 : decode mi_MO_isUsed.2.1 24 = .ok (.ifCond .gt (19), 3) := by decide +kernel
theorem d_MO_isUsed_27 : decode mi_MO_isUsed.2.1 27 = .ok (.aload_n 0, 1) := by decide +kernel
theorem d_MO_isUsed_28 : decode mi_MO_isUsed.2.1 28 = .ok (.getfield 50, 3) := by decide +kernel
theorem d_MO_isUsed_31 : decode mi_MO_isUsed.2.1 31 = .ok (.bipush (8), 2) := by decide +kernel
theorem d_MO_isUsed_33 : decode mi_MO_isUsed.2.1 33 = .ok (.iload_n 1, 1) := by decide +kernel
theorem d_MO_isUsed_34 : decode mi_MO_isUsed.2.1 34 = .ok (.imul, 1) := by decide +kernel
theorem d_MO_isUsed_35 : decode mi_MO_isUsed.2.1 35 = .ok (.iload_n 2, 1) := by decide +kernel
theorem d_MO_isUsed_36 : decode mi_MO_isUsed.2.1 36 = .ok (.iadd, 1) := by decide +kernel
theorem d_MO_isUsed_37 : decode mi_MO_isUsed.2.1 37 = .ok (.iconst 1, 1) := by decide +kernel
theorem d_MO_isUsed_38 : decode mi_MO_isUsed.2.1 38 = .ok (.isub, 1) := by decide +kernel
theorem d_MO_isUsed_39 : decode mi_MO_isUsed.2.1 39 = .ok (.iaload, 1) := by decide +kernel
theorem d_MO_isUsed_40 : decode mi_MO_isUsed.2.1 40 = .ok (.ifCond .lt (7), 3) := by decide +kernel
theorem d_MO_isUsed_43 : decode mi_MO_isUsed.2.1 43 = .ok (.iconst 1, 1) := by decide +kernel
theorem d_MO_isUsed_44 : decode mi_MO_isUsed.2.1 44 = .ok (.goto (4), 3) := by decide +kernel
theorem d_MO_isUsed_47 : decode mi_MO_isUsed.2.1 47 = .ok (.iconst 0, 1) := by decide +kernel
theorem d_MO_isUsed_48 : decode mi_MO_isUsed.2.1 48 = .ok (.ireturn, 1) := by decide +kernel
theorem d_MO_play_0 : decode mi_MO_play.2.1 0 = .ok (.iconst 0, 1) := by decide +kernel
theorem d_MO_play_1 : decode mi_MO_play.2.1 1 = .ok (.istore_n 2, 1) := by decide +kernel
theorem d_MO_play_2 : decode mi_MO_play.2.1 2 = .ok (.iload_n 2, 1) := by decide +kernel
theorem d_MO_play_3 : decode mi_MO_play.2.1 3 = .ok (.iconst 4, 1) := by decide +kernel
theorem d_MO_play_4 : decode mi_MO_play.2.1 4 = .ok (.if_icmp .ge (16), 3) := by decide +kernel
theorem d_MO_play_7 : decode mi_MO_play.2.1 7 = .ok (.aload_n 0, 1) := by decide +kernel
theorem d_MO_play_8 : decode mi_MO_play.2.1 8 = .ok (.getfield 62, 3) := by decide +kernel
theorem d_MO_play_11 : decode mi_MO_play.2.1 11 = .ok (.iload_n 2, 1) := by decide +kernel
theorem d_MO_play_12 : decode mi_MO_play.2.1 12 = .ok (.iconst 0, 1) := by decide +kernel
theorem d_MO_play_13 : decode mi_MO_play.2.1 13 = .ok (.iastore, 1) := by decide +kernel
theorem d_MO_play_14 : decode mi_MO_play.2.1 14 = .ok (.iinc 2 (1), 3) := by decide +kernel
theorem d_MO_play_17 : decode mi_MO_play.2.1 17 = .ok (.goto (-15), 3) := by decide +kernel
theorem d_MO_play_20 : decode mi_MO_play.2.1 20 = .ok (.iconst 0, 1) := by decide +kernel
theorem d_MO_play_21 : decode mi_MO_play.2.1 21 = .ok (.istore_n 2, 1) := by decide +kernel
theorem d_MO_play_22 : decode mi_MO_play.2.1 22 = .ok (.iload_n 2, 1) := by decide +kernel
theorem d_MO_play_23 : decode mi_MO_play.2.1 23 = .ok (.bipush (31), 2) := by decide +kernel
theorem d_MO_play_25 : decode mi_MO_play.2.1 25 = .ok (.if_icmp .ge (16), 3) := by decide +kernel
theorem d_MO_play_28 : decode mi_MO_play.2.1 28 = .ok (.aload_n 0, 1) := by decide +kernel
theorem d_MO_play_29 : decode mi_MO_play.2.1 29 = .ok (.getfield 65, 3) := by decide +kernel
theorem d_MO_play_32 : decode mi_MO_play.2.1 32 = .ok (.iload_n 2, 1) := by decide +kernel
theorem d_MO_play_33 : decode mi_MO_play.2.1 33 = .ok (.iconst 0, 1) := by decide +kernel
theorem d_MO_play_34 : decode mi_MO_play.2.1 34 = .ok (.bastore, 1) := by decide +kernel
theorem d_MO_play_35 : decode mi_MO_play.2.1 35 = .ok (.iinc 2 (1), 3) := by decide +kernel
theorem d_MO_play_38 : decode mi_MO_play.2.1 38 = .ok (.goto (-16), 3) := by decide +kernel
theorem d_MO_play_41 : decode mi_MO_play.2.1 41 = .ok (.aload_n 0, 1) := by decide +kernel
theorem d_MO_play_42 : decode mi_MO_play.2.1 42 = .ok (.iconst 0, 1) := by decide +kernel
theorem d_MO_play_43 : decode mi_MO_play.2.1 43 = .ok (.putfield 124, 3) := by decide +kernel
theorem d_MO_play_46 : decode mi_MO_play.2.1 46 = .ok (.aload_n 0, 1) := by decide +kernel
theorem d_MO_play_47 : decode mi_MO_play.2.1 47 = .ok (.getfield 124, 3) := by decide +kernel
theorem d_MO_play_50 : decode mi_MO_play.2.1 50 = .ok (.bipush (8), 2) := by decide +kernel
theorem d_MO_play_52 : decode mi_MO_play.2.1 52 = .ok (.if_icmp .ge (102), 3) := by decide +kernel
theorem d_MO_play_55 : decode mi_MO_play.2.1 55 = .ok (.aload_n 0, 1) := by decide +kernel
theorem d_MO_play_56 : decode mi_MO_play.2.1 56 = .ok (.getfield 53, 3) := by decide +kernel
theorem d_MO_play_59 : decode mi_MO_play.2.1 59 = .ok (.bipush (8), 2) := by decide +kernel
theorem d_MO_play_61 : decode mi_MO_play.2.1 61 = .ok (.iload_n 1, 1) := by decide +kernel
theorem d_MO_play_62 : decode mi_MO_play.2.1 62 = .ok (.imul, 1) := by decide +kernel
theorem d_MO_play_63 : decode mi_MO_play.2.1 63 = .ok (.aload_n 0, 1) := by decide +kernel
theorem d_MO_play_64 : decode mi_MO_play.2.1 64 = .ok (.getfield 124, 3) := by decide +kernel
theorem d_MO_play_67 : decode mi_MO_play.2.1 67 = .ok (.iadd, 1) := by decide +kernel
theorem d_MO_play_68 : decode mi_MO_play.2.1 68 = .ok (.iaload, 1) := by decide +kernel
theorem d_MO_play_69 : decode mi_MO_play.2.1 69 = .ok (.ifCond .lt (85), 3) := by decide +kernel
theorem d_MO_play_72 : decode mi_MO_play.2.1 72 = .ok (.aload_n 0, 1) := by decide +kernel
theorem d_MO_play_73 : decode mi_MO_play.2.1 73 = .ok (.getfield 53, 3) := by decide +kernel
theorem d_MO_play_76 : decode mi_MO_play.2.1 76 = .ok (.bipush (8), 2) := by decide +kernel
theorem d_MO_play_78 : decode mi_MO_play.2.1 78 = .ok (.iload_n 1, 1) := by decide +kernel
theorem d_MO_play_79 : decode mi_MO_play.2.1 79 = .ok (.imul, 1) := by decide +kernel
theorem d_MO_play_80 : decode mi_MO_play.2.1 80 = .ok (.aload_n 0, 1) := by decide +kernel
theorem d_MO_play_81 : decode mi_MO_play.2.1 81 = .ok (.getfield 124, 3) := by decide +kernel
theorem d_MO_play_84 : decode mi_MO_play.2.1 84 = .ok (.iadd, 1) := by decide +kernel
theorem d_MO_play_85 : decode mi_MO_play.2.1 85 = .ok (.iaload, 1) := by decide +kernel
theorem d_MO_play_86 : decode mi_MO_play.2.1 86 = .ok (.istore_n 2, 1) := by decide +kernel
theorem d_MO_play_87 : decode mi_MO_play.2.1 87 = .ok (.iload_n 2, 1) := by decide +kernel
theorem d_MO_play_88 : decode mi_MO_play.2.1 88 = .ok (.ifCond .le (53), 3) := by decide +kernel
theorem d_MO_play_91 : decode mi_MO_play.2.1 91 = .ok (.aload_n 0, 1) := by decide +kernel
theorem d_MO_play_92 : decode mi_MO_play.2.1 92 = .ok (.getfield 65, 3) := by decide +kernel
theorem d_MO_play_95 : decode mi_MO_play.2.1 95 = .ok (.iload_n 2, 1) := by decide +kernel
theorem d_MO_play_96 : decode mi_MO_play.2.1 96 = .ok (.baload, 1) := by decide +kernel
theorem d_MO_play_97 : decode mi_MO_play.2.1 97 = .ok (.ifCond .ne (44), 3) := by decide +kernel
theorem d_MO_play_100 : decode mi_MO_play.2.1 100 = .ok (.aload_n 0, 1) := by decide +kernel
theorem d_MO_play_101 : decode mi_MO_play.2.1 101 = .ok (.getfield 65, 3) := by decide +kernel
theorem d_MO_play_104 : decode mi_MO_play.2.1 104 = .ok (.iload_n 2, 1) := by decide +kernel
theorem d_MO_play_105 : decode mi_MO_play.2.1 105 = .ok (.iconst 1, 1) := by decide +kernel
theorem d_MO_play_106 : decode mi_MO_play.2.1 106 = .ok (.bastore, 1) := by decide +kernel
theorem d_MO_play_107 : decode mi_MO_play.2.1 107 = .ok (.aload_n 0, 1) := by decide +kernel
theorem d_MO_play_108 : decode mi_MO_play.2.1 108 = .ok (.getfield 68, 3) := by decide +kernel
theorem d_MO_play_111 : decode mi_MO_play.2.1 111 = .ok (.iload_n 2, 1) := by decide +kernel
theorem d_MO_play_112 : decode mi_MO_play.2.1 112 = .ok (.aload_n 0, 1) := by decide +kernel
theorem d_MO_play_113 : decode mi_MO_play.2.1 113 = .ok (.getfield 62, 3) := by decide +kernel
theorem d_MO_play_116 : decode mi_MO_play.2.1 116 = .ok (.aload_n 0, 1) := by decide +kernel
theorem d_MO_play_117 : decode mi_MO_play.2.1 117 = .ok (.getfield 7, 3) := by decide +kernel
theorem d_MO_play_120 : decode mi_MO_play.2.1 120 = .ok (.iload_n 2, 1) := by decide +kernel
theorem d_MO_play_121 : decode mi_MO_play.2.1 121 = .ok (.iaload, 1) := by decide +kernel
theorem d_MO_play_122 : decode mi_MO_play.2.1 122 = .ok (.iaload, 1) := by decide +kernel
theorem d_MO_play_123 : decode mi_MO_play.2.1 123 = .ok (.iastore, 1) := by decide +kernel
theorem d_MO_play_124 : decode mi_MO_play.2.1 124 = .ok (.aload_n 0, 1) := by decide +kernel
theorem d_MO_play_125 : decode mi_MO_play.2.1 125 = .ok (.getfield 62, 3) := by decide +kernel
theorem d_MO_play_128 : decode mi_MO_play.2.1 128 = .ok (.aload_n 0, 1) := by decide +kernel
theorem d_MO_play_129 : decode mi_MO_play.2.1 129 = .ok (.getfield 7, 3) := by decide +kernel
theorem d_MO_play_132 : decode mi_MO_play.2.1 132 = .ok (.iload_n 2, 1) := by decide +kernel
theorem d_MO_play_133 : decode mi_MO_play.2.1 133 = .ok (.iaload, 1) := by decide +kernel
theorem d_MO_play_134 : decode mi_MO_play.2.1 134 = .ok (.aload_n 0, 1) := by decide +kernel
theorem d_MO_play_135 : decode mi_MO_play.2.1 135 = .ok (.getfield 13, 3) := by decide +kernel
theorem d_MO_play_138 : decode mi_MO_play.2.1 138 = .ok (.iload_n 2, 1) := by decide +kernel
theorem d_MO_play_139 : decode mi_MO_play.2.1 139 = .ok (.iaload, 1) := by decide +kernel
theorem d_MO_play_140 : decode mi_MO_play.2.1 140 = .ok (.iastore, 1) := by decide +kernel
theorem d_MO_play_141 : decode mi_MO_play.2.1 141 = .ok (.aload_n 0, 1) := by decide +kernel
theorem d_MO_play_142 : decode mi_MO_play.2.1 142 = .ok (.dup, 1) := by decide +kernel
theorem d_MO_play_143 : decode mi_MO_play.2.1 143 = .ok (.getfield 124, 3) := by decide +kernel
theorem d_MO_play_146 : decode mi_MO_play.2.1 146 = .ok (.iconst 1, 1) := by decide +kernel
theorem d_MO_play_147 : decode mi_MO_play.2.1 147 = .ok (.iadd, 1) := by decide +kernel
theorem d_MO_play_148 : decode mi_MO_play.2.1 148 = .ok (.putfield 124, 3) := by decide +kernel
theorem d_MO_play_151 : decode mi_MO_play.2.1 151 = .ok (.goto (-105), 3) := by decide +kernel
