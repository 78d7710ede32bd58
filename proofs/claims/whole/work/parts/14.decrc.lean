theorem d_MO_play_154 : decode mi_MO_play.2.1 154 = .ok (.return_, 1) := by decide +kernel
theorem d_MO_route_0 : decode mi_MO_route.2.1 0 = .ok (.iload_n 1, 1) := by decide +kernel
theorem d_MO_route_1 : decode mi_MO_route.2.1 1 = .ok (.iconst 1, 1) := by decide +kernel
theorem d_MO_route_2 : decode mi_MO_route.2.1 2 = .ok (.if_icmp .lt (19), 3) := by decide +kernel
theorem d_MO_route_5 : decode mi_MO_route.2.1 5 = .ok (.iload_n 1, 1) := by decide +kernel
theorem d_MO_route_6 : decode mi_MO_route.2.1 6 = .ok (.aload_n 0, 1) := by decide +kernel
theorem d_MO_route_7 : decode mi_MO_route.2.1 7 = .ok (.getfield 82, 3) := by decide +kernel
theorem d_MO_route_10 : decode mi_MO_route.2.1 10 = .ok (.if_icmp .gt (11), 3) := by decide +kernel
theorem d_MO_route_13 : decode mi_MO_route.2.1 13 = .ok (.aload_n 0, 1) := by decide +kernel
theorem d_MO_route_14 : decode mi_MO_route.2.1 14 = .ok (.iload_n 2, 1) := by decide +kernel
theorem d_MO_route_15 : decode mi_MO_route.2.1 15 = .ok (.invokevirtual 101, 3) := by decide +kernel
theorem d_MO_route_18 : decode mi_MO_route.2.1 18 = .ok (.ifCond .ne (5), 3) := by decide +kernel
theorem d_MO_route_21 : decode mi_MO_route.2.1 21 = .ok (.iconst (-1), 1) := by decide +kernel
theorem d_MO_route_22 : decode mi_MO_route.2.1 22 = .ok (.ireturn, 1) := by decide +kernel
theorem d_MO_route_23 : decode mi_MO_route.2.1 23 = .ok (.aload_n 0, 1) := by decide +kernel
theorem d_MO_route_24 : decode mi_MO_route.2.1 24 = .ok (.getfield 25, 3) := by decide +kernel
theorem d_MO_route_27 : decode mi_MO_route.2.1 27 = .ok (.iload_n 2, 1) := by decide +kernel
theorem d_MO_route_28 : decode mi_MO_route.2.1 28 = .ok (.baload, 1) := by decide +kernel
theorem d_MO_route_29 : decode mi_MO_route.2.1 29 = .ok (.ifCond .ne (5), 3) := by decide +kernel
theorem d_MO_route_32 : decode mi_MO_route.2.1 32 = .ok (.iconst 0, 1) := by decide +kernel
theorem d_MO_route_33 : decode mi_MO_route.2.1 33 = .ok (.ireturn, 1) := by decide +kernel
theorem d_MO_route_34 : decode mi_MO_route.2.1 34 = .ok (.aload_n 0, 1) := by decide +kernel
theorem d_MO_route_35 : decode mi_MO_route.2.1 35 = .ok (.iload_n 2, 1) := by decide +kernel
theorem d_MO_route_36 : decode mi_MO_route.2.1 36 = .ok (.invokevirtual 127, 3) := by decide +kernel
theorem d_MO_route_39 : decode mi_MO_route.2.1 39 = .ok (.aload_n 0, 1) := by decide +kernel
theorem d_MO_route_40 : decode mi_MO_route.2.1 40 = .ok (.getfield 65, 3) := by decide +kernel
theorem d_MO_route_43 : decode mi_MO_route.2.1 43 = .ok (.iload_n 1, 1) := by decide +kernel
theorem d_MO_route_44 : decode mi_MO_route.2.1 44 = .ok (.baload, 1) := by decide +kernel
theorem d_MO_route_45 : decode mi_MO_route.2.1 45 = .ok (.ifCond .eq (28), 3) := by decide +kernel
theorem d_MO_route_48 : decode mi_MO_route.2.1 48 = .ok (.aload_n 0, 1) := by decide +kernel
theorem d_MO_route_49 : decode mi_MO_route.2.1 49 = .ok (.getfield 16, 3) := by decide +kernel
theorem d_MO_route_52 : decode mi_MO_route.2.1 52 = .ok (.iload_n 1, 1) := by decide +kernel
theorem d_MO_route_53 : decode mi_MO_route.2.1 53 = .ok (.aload_n 0, 1) := by decide +kernel
theorem d_MO_route_54 : decode mi_MO_route.2.1 54 = .ok (.getfield 68, 3) := by decide +kernel
theorem d_MO_route_57 : decode mi_MO_route.2.1 57 = .ok (.iload_n 1, 1) := by decide +kernel
theorem d_MO_route_58 : decode mi_MO_route.2.1 58 = .ok (.iaload, 1) := by decide +kernel
theorem d_MO_route_59 : decode mi_MO_route.2.1 59 = .ok (.iastore, 1) := by decide +kernel
theorem d_MO_route_60 : decode mi_MO_route.2.1 60 = .ok (.aload_n 0, 1) := by decide +kernel
theorem d_MO_route_61 : decode mi_MO_route.2.1 61 = .ok (.getfield 19, 3) := by decide +kernel
theorem d_MO_route_64 : decode mi_MO_route.2.1 64 = .ok (.iload_n 1, 1) := by decide +kernel
theorem d_MO_route_65 : decode mi_MO_route.2.1 65 = .ok (.dup2, 1) := by decide +kernel
theorem d_MO_route_66 : decode mi_MO_route.2.1 66 = .ok (.iaload, 1) := by decide +kernel
theorem d_MO_route_67 : decode mi_MO_route.2.1 67 = .ok (.iconst 1, 1) := by decide +kernel
theorem d_MO_route_68 : decode mi_MO_route.2.1 68 = .ok (.iadd, 1) := by decide +kernel
theorem d_MO_route_69 : decode mi_MO_route.2.1 69 = .ok (.iastore, 1) := by decide +kernel
theorem d_MO_route_70 : decode mi_MO_route.2.1 70 = .ok (.bipush (100), 2) := by decide +kernel
theorem d_MO_route_72 : decode mi_MO_route.2.1 72 = .ok (.ireturn, 1) := by decide +kernel
theorem d_MO_route_73 : decode mi_MO_route.2.1 73 = .ok (.aload_n 0, 1) := by decide +kernel
theorem d_MO_route_74 : decode mi_MO_route.2.1 74 = .ok (.iload_n 2, 1) := by decide +kernel
theorem d_MO_route_75 : decode mi_MO_route.2.1 75 = .ok (.invokevirtual 130, 3) := by decide +kernel
theorem d_MO_route_78 : decode mi_MO_route.2.1 78 = .ok (.ifCond .ne (5), 3) := by decide +kernel
theorem d_MO_route_81 : decode mi_MO_route.2.1 81 = .ok (.iconst 0, 1) := by decide +kernel
theorem d_MO_route_82 : decode mi_MO_route.2.1 82 = .ok (.ireturn, 1) := by decide +kernel
theorem d_MO_route_83 : decode mi_MO_route.2.1 83 = .ok (.iconst 0, 1) := by decide +kernel
theorem d_MO_route_84 : decode mi_MO_route.2.1 84 = .ok (.istore_n 3, 1) := by decide +kernel
theorem d_MO_route_85 : decode mi_MO_route.2.1 85 = .ok (.iconst 1, 1) := by decide +kernel
theorem d_MO_route_86 : decode mi_MO_route.2.1 86 = .ok (.istore 4, 2) := by decide +kernel
theorem d_MO_route_88 : decode mi_MO_route.2.1 88 = .ok (.iload 4, 2) := by decide +kernel
theorem d_MO_route_90 : decode mi_MO_route.2.1 90 = .ok (.bipush (8), 2) := by decide +kernel
theorem d_MO_route_92 : decode mi_MO_route.2.1 92 = .ok (.if_icmp .gt (47), 3) := by decide +kernel
theorem d_MO_route_95 : decode mi_MO_route.2.1 95 = .ok (.aload_n 0, 1) := by decide +kernel
theorem d_MO_route_96 : decode mi_MO_route.2.1 96 = .ok (.getfield 47, 3) := by decide +kernel
theorem d_MO_route_99 : decode mi_MO_route.2.1 99 = .ok (.bipush (8), 2) := by decide +kernel
theorem d_MO_route_101 : decode mi_MO_route.2.1 101 = .ok (.iload_n 2, 1) := by decide +kernel
theorem d_MO_route_102 : decode mi_MO_route.2.1 102 = .ok (.imul, 1) := by decide +kernel
theorem d_MO_route_103 : decode mi_MO_route.2.1 103 = .ok (.iload 4, 2) := by decide +kernel
theorem d_MO_route_105 : decode mi_MO_route.2.1 105 = .ok (.iadd, 1) := by decide +kernel
theorem d_MO_route_106 : decode mi_MO_route.2.1 106 = .ok (.iconst 1, 1) := by decide +kernel
theorem d_MO_route_107 : decode mi_MO_route.2.1 107 = .ok (.isub, 1) := by decide +kernel
theorem d_MO_route_108 : decode mi_MO_route.2.1 108 = .ok (.iaload, 1) := by decide +kernel
theorem d_MO_route_109 : decode mi_MO_route.2.1 109 = .ok (.iload_n 1, 1) := by decide +kernel
theorem d_MO_route_110 : decode mi_MO_route.2.1 110 = .ok (.if_icmp .ne (6), 3) := by decide +kernel
theorem d_MO_route_113 : decode mi_MO_route.2.1 113 = .ok (.iload 4, 2) := by decide +kernel
theorem d_MO_route_115 : decode mi_MO_route.2.1 115 = .ok (.ireturn, 1) := by decide +kernel
theorem d_MO_route_116 : decode mi_MO_route.2.1 116 = .ok (.aload_n 0, 1) := by decide +kernel
theorem d_MO_route_117 : decode mi_MO_route.2.1 117 = .ok (.iload_n 2, 1) := by decide +kernel
theorem d_MO_route_118 : decode mi_MO_route.2.1 118 = .ok (.iload 4, 2) := by decide +kernel
theorem d_MO_route_120 : decode mi_MO_route.2.1 120 = .ok (.invokevirtual 133, 3) := by decide +kernel
theorem d_MO_route_123 : decode mi_MO_route.2.1 123 = .ok (.ifCond .eq (8), 3) := by decide +kernel
theorem d_MO_route_126 : decode mi_MO_route.2.1 126 = .ok (.iload 4, 2) := by decide +kernel
theorem d_MO_route_128 : decode mi_MO_route.2.1 128 = .ok (.goto (4), 3) := by decide +kernel
theorem d_MO_route_131 : decode mi_MO_route.2.1 131 = .ok (.iload_n 3, 1) := by decide +kernel
theorem d_MO_route_132 : decode mi_MO_route.2.1 132 = .ok (.istore_n 3, 1) := by decide +kernel
theorem d_MO_route_133 : decode mi_MO_route.2.1 133 = .ok (.iinc 4 (1), 3) := by decide +kernel
theorem d_MO_route_136 : decode mi_MO_route.2.1 136 = .ok (.goto (-48), 3) := by decide +kernel
theorem d_MO_route_139 : decode mi_MO_route.2.1 139 = .ok (.iload_n 3, 1) := by decide +kernel
theorem d_MO_route_140 : decode mi_MO_route.2.1 140 = .ok (.bipush (8), 2) := by decide +kernel
theorem d_MO_route_142 : decode mi_MO_route.2.1 142 = .ok (.if_icmp .ne (6), 3) := by decide +kernel
theorem d_MO_route_145 : decode mi_MO_route.2.1 145 = .ok (.bipush (-2), 2) := by decide +kernel
theorem d_MO_route_147 : decode mi_MO_route.2.1 147 = .ok (.ireturn, 1) := by decide +kernel
theorem d_MO_route_148 : decode mi_MO_route.2.1 148 = .ok (.aload_n 0, 1) := by decide +kernel
theorem d_MO_route_149 : decode mi_MO_route.2.1 149 = .ok (.getfield 47, 3) := by decide +kernel
theorem d_MO_route_152 : decode mi_MO_route.2.1 152 = .ok (.bipush (8), 2) := by decide +kernel
theorem d_MO_route_154 : decode mi_MO_route.2.1 154 = .ok (.iload_n 2, 1) := by decide +kernel
theorem d_MO_route_155 : decode mi_MO_route.2.1 155 = .ok (.imul, 1) := by decide +kernel
theorem d_MO_route_156 : decode mi_MO_route.2.1 156 = .ok (.iload_n 3, 1) := by decide +kernel
theorem d_MO_route_157 : decode mi_MO_route.2.1 157 = .ok (.iadd, 1) := by decide +kernel
theorem d_MO_route_158 : decode mi_MO_route.2.1 158 = .ok (.iload_n 1, 1) := by decide +kernel
theorem d_MO_route_159 : decode mi_MO_route.2.1 159 = .ok (.iastore, 1) := by decide +kernel
theorem d_MO_route_160 : decode mi_MO_route.2.1 160 = .ok (.iload_n 3, 1) := by decide +kernel
theorem d_MO_route_161 : decode mi_MO_route.2.1 161 = .ok (.iconst 1, 1) := by decide +kernel
theorem d_MO_route_162 : decode mi_MO_route.2.1 162 = .ok (.iadd, 1) := by decide +kernel
theorem d_MO_route_163 : decode mi_MO_route.2.1 163 = .ok (.ireturn, 1) := by decide +kernel
theorem d_MO_vote_0 : decode mi_MO_vote.2.1 0 = .ok (.aload_n 0, 1) := by decide +kernel
theorem d_MO_vote_1 : decode mi_MO_vote.2.1 1 = .ok (.iload_n 1, 1) := by decide +kernel
theorem d_MO_vote_2 : decode mi_MO_vote.2.1 2 = .ok (.invokevirtual 101, 3) := by decide +kernel
theorem d_MO_vote_5 : decode mi_MO_vote.2.1 5 = .ok (.ifCond .eq (18), 3) := by decide +kernel
theorem d_MO_vote_8 : decode mi_MO_vote.2.1 8 = .ok (.aload_n 0, 1) := by decide +kernel
theorem d_MO_vote_9 : decode mi_MO_vote.2.1 9 = .ok (.iload_n 2, 1) := by decide +kernel
theorem d_MO_vote_10 : decode mi_MO_vote.2.1 10 = .ok (.invokevirtual 101, 3) := by decide +kernel
theorem d_MO_vote_13 : decode mi_MO_vote.2.1 13 = .ok (.ifCond .eq (10), 3) := by decide +kernel
theorem d_MO_vote_16 : decode mi_MO_vote.2.1 16 = .ok (.iload_n 3, 1) := by decide +kernel
theorem d_MO_vote_17 : decode mi_MO_vote.2.1 17 = .ok (.invokestatic 136, 3) := by decide +kernel
theorem d_MO_vote_20 : decode mi_MO_vote.2.1 20 = .ok (.ifCond .ne (5), 3) := by decide +kernel
theorem d_MO_vote_23 : decode mi_MO_vote.2.1 23 = .ok (.iconst (-1), 1) := by decide +kernel
theorem d_MO_vote_24 : decode mi_MO_vote.2.1 24 = .ok (.ireturn, 1) := by decide +kernel
theorem d_MO_vote_25 : decode mi_MO_vote.2.1 25 = .ok (.aload_n 0, 1) := by decide +kernel
theorem d_MO_vote_26 : decode mi_MO_vote.2.1 26 = .ok (.iload_n 1, 1) := by decide +kernel
theorem d_MO_vote_27 : decode mi_MO_vote.2.1 27 = .ok (.invokevirtual 130, 3) := by decide +kernel
theorem d_MO_vote_30 : decode mi_MO_vote.2.1 30 = .ok (.ifCond .ne (5), 3) := by decide +kernel
theorem d_MO_vote_33 : decode mi_MO_vote.2.1 33 = .ok (.iconst 0, 1) := by decide +kernel
theorem d_MO_vote_34 : decode mi_MO_vote.2.1 34 = .ok (.ireturn, 1) := by decide +kernel
theorem d_MO_vote_35 : decode mi_MO_vote.2.1 35 = .ok (.aload_n 0, 1) := by decide +kernel
theorem d_MO_vote_36 : decode mi_MO_vote.2.1 36 = .ok (.iload_n 2, 1) := by decide +kernel
theorem d_MO_vote_37 : decode mi_MO_vote.2.1 37 = .ok (.invokevirtual 111, 3) := by decide +kernel
theorem d_MO_vote_40 : decode mi_MO_vote.2.1 40 = .ok (.ifCond .ne (6), 3) := by decide +kernel
theorem d_MO_vote_43 : decode mi_MO_vote.2.1 43 = .ok (.bipush (-2), 2) := by decide +kernel
theorem d_MO_vote_45 : decode mi_MO_vote.2.1 45 = .ok (.ireturn, 1) := by decide +kernel
theorem d_MO_vote_46 : decode mi_MO_vote.2.1 46 = .ok (.aload_n 0, 1) := by decide +kernel
theorem d_MO_vote_47 : decode mi_MO_vote.2.1 47 = .ok (.getfield 35, 3) := by decide +kernel
theorem d_MO_vote_50 : decode mi_MO_vote.2.1 50 = .ok (.iload_n 2, 1) := by decide +kernel
theorem d_MO_vote_51 : decode mi_MO_vote.2.1 51 = .ok (.iaload, 1) := by decide +kernel
theorem d_MO_vote_52 : decode mi_MO_vote.2.1 52 = .ok (.aload_n 0, 1) := by decide +kernel
theorem d_MO_vote_53 : decode mi_MO_vote.2.1 53 = .ok (.getfield 38, 3) := by decide +kernel
theorem d_MO_vote_56 : decode mi_MO_vote.2.1 56 = .ok (.iload_n 1, 1) := by decide +kernel
theorem d_MO_vote_57 : decode mi_MO_vote.2.1 57 = .ok (.iaload, 1) := by decide +kernel
theorem d_MO_vote_58 : decode mi_MO_vote.2.1 58 = .ok (.if_icmp .le (6), 3) := by decide +kernel
theorem d_MO_vote_61 : decode mi_MO_vote.2.1 61 = .ok (.bipush (-3), 2) := by decide +kernel
theorem d_MO_vote_63 : decode mi_MO_vote.2.1 63 = .ok (.ireturn, 1) := by decide +kernel
theorem d_MO_vote_64 : decode mi_MO_vote.2.1 64 = .ok (.bipush (8), 2) := by decide +kernel
theorem d_MO_vote_66 : decode mi_MO_vote.2.1 66 = .ok (.iload_n 1, 1) := by decide +kernel
theorem d_MO_vote_67 : decode mi_MO_vote.2.1 67 = .ok (.imul, 1) := by decide +kernel
theorem d_MO_vote_68 : decode mi_MO_vote.2.1 68 = .ok (.iload_n 3, 1) := by decide +kernel
theorem d_MO_vote_69 : decode mi_MO_vote.2.1 69 = .ok (.iadd, 1) := by decide +kernel
theorem d_MO_vote_70 : decode mi_MO_vote.2.1 70 = .ok (.iconst 1, 1) := by decide +kernel
theorem d_MO_vote_71 : decode mi_MO_vote.2.1 71 = .ok (.isub, 1) := by decide +kernel
theorem d_MO_vote_72 : decode mi_MO_vote.2.1 72 = .ok (.istore 4, 2) := by decide +kernel
theorem d_MO_vote_74 : decode mi_MO_vote.2.1 74 = .ok (.aload_n 0, 1) := by decide +kernel
theorem d_MO_vote_75 : decode mi_MO_vote.2.1 75 = .ok (.getfield 38, 3) := by decide +kernel
theorem d_MO_vote_78 : decode mi_MO_vote.2.1 78 = .ok (.iload_n 1, 1) := by decide +kernel
theorem d_MO_vote_79 : decode mi_MO_vote.2.1 79 = .ok (.iaload, 1) := by decide +kernel
theorem d_MO_vote_80 : decode mi_MO_vote.2.1 80 = .ok (.istore 5, 2) := by decide +kernel
theorem d_MO_vote_82 : decode mi_MO_vote.2.1 82 = .ok (.aload_n 0, 1) := by decide +kernel
theorem d_MO_vote_83 : decode mi_MO_vote.2.1 83 = .ok (.getfield 50, 3) := by decide +kernel
theorem d_MO_vote_86 : decode mi_MO_vote.2.1 86 = .ok (.iload 4, 2) := by decide +kernel
theorem d_MO_vote_88 : decode mi_MO_vote.2.1 88 = .ok (.iaload, 1) := by decide +kernel
theorem d_MO_vote_89 : decode mi_MO_vote.2.1 89 = .ok (.ifCond .lt (13), 3) := by decide +kernel
theorem d_MO_vote_92 : decode mi_MO_vote.2.1 92 = .ok (.aload_n 0, 1) := by decide +kernel
theorem d_MO_vote_93 : decode mi_MO_vote.2.1 93 = .ok (.getfield 50, 3) := by decide +kernel
theorem d_MO_vote_96 : decode mi_MO_vote.2.1 96 = .ok (.iload 4, 2) := by decide +kernel
theorem d_MO_vote_98 : decode mi_MO_vote.2.1 98 = .ok (.iaload, 1) := by decide +kernel
theorem d_MO_vote_99 : decode mi_MO_vote.2.1 99 = .ok (.goto (9), 3) := by decide +kernel
theorem d_MO_vote_102 : decode mi_MO_vote.2.1 102 = .ok (.aload_n 0, 1) := by decide +kernel
theorem d_MO_vote_103 : decode mi_MO_vote.2.1 103 = .ok (.iload_n 1, 1) := by decide +kernel
theorem d_MO_vote_104 : decode mi_MO_vote.2.1 104 = .ok (.iload_n 3, 1) := by decide +kernel
theorem d_MO_vote_105 : decode mi_MO_vote.2.1 105 = .ok (.invokevirtual 121, 3) := by decide +kernel
theorem d_MO_vote_108 : decode mi_MO_vote.2.1 108 = .ok (.istore 6, 2) := by decide +kernel
theorem d_MO_vote_110 : decode mi_MO_vote.2.1 110 = .ok (.iload 6, 2) := by decide +kernel
theorem d_MO_vote_112 : decode mi_MO_vote.2.1 112 = .ok (.bipush (-2), 2) := by decide +kernel
theorem d_MO_vote_114 : decode mi_MO_vote.2.1 114 = .ok (.if_icmp .ne (6), 3) := by decide +kernel
theorem d_MO_vote_117 : decode mi_MO_vote.2.1 117 = .ok (.bipush (-5), 2) := by decide +kernel
theorem d_MO_vote_119 : decode mi_MO_vote.2.1 119 = .ok (.ireturn, 1) := by decide +kernel
theorem d_MO_vote_120 : decode mi_MO_vote.2.1 120 = .ok (.aload_n 0, 1) := by decide +kernel
theorem d_MO_vote_121 : decode mi_MO_vote.2.1 121 = .ok (.getfield 50, 3) := by decide +kernel
theorem d_MO_vote_124 : decode mi_MO_vote.2.1 124 = .ok (.iload 4, 2) := by decide +kernel
theorem d_MO_vote_126 : decode mi_MO_vote.2.1 126 = .ok (.iload 6, 2) := by decide +kernel
theorem d_MO_vote_128 : decode mi_MO_vote.2.1 128 = .ok (.bipush (-3), 2) := by decide +kernel
theorem d_MO_vote_130 : decode mi_MO_vote.2.1 130 = .ok (.if_icmp .ne (13), 3) := by decide +kernel
theorem d_MO_vote_133 : decode mi_MO_vote.2.1 133 = .ok (.aload_n 0, 1) := by decide +kernel
theorem d_MO_vote_134 : decode mi_MO_vote.2.1 134 = .ok (.getfield 47, 3) := by decide +kernel
theorem d_MO_vote_137 : decode mi_MO_vote.2.1 137 = .ok (.iload 4, 2) := by decide +kernel
theorem d_MO_vote_139 : decode mi_MO_vote.2.1 139 = .ok (.iaload, 1) := by decide +kernel
theorem d_MO_vote_140 : decode mi_MO_vote.2.1 140 = .ok (.goto (5), 3) := by decide +kernel
theorem d_MO_vote_143 : decode mi_MO_vote.2.1 143 = .ok (.iload 6, 2) := by decide +kernel
theorem d_MO_vote_145 : decode mi_MO_vote.2.1 145 = .ok (.iastore, 1) := by decide +kernel
theorem d_MO_vote_146 : decode mi_MO_vote.2.1 146 = .ok (.aload_n 0, 1) := by decide +kernel
theorem d_MO_vote_147 : decode mi_MO_vote.2.1 147 = .ok (.getfield 50, 3) := by decide +kernel
theorem d_MO_vote_150 : decode mi_MO_vote.2.1 150 = .ok (.iload 4, 2) := by decide +kernel
theorem d_MO_vote_152 : decode mi_MO_vote.2.1 152 = .ok (.iaload, 1) := by decide +kernel
theorem d_MO_vote_153 : decode mi_MO_vote.2.1 153 = .ok (.istore 7, 2) := by decide +kernel
theorem d_MO_vote_155 : decode mi_MO_vote.2.1 155 = .ok (.aload_n 0, 1) := by decide +kernel
theorem d_MO_vote_156 : decode mi_MO_vote.2.1 156 = .ok (.getfield 35, 3) := by decide +kernel
theorem d_MO_vote_159 : decode mi_MO_vote.2.1 159 = .ok (.iload_n 2, 1) := by decide +kernel
theorem d_MO_vote_160 : decode mi_MO_vote.2.1 160 = .ok (.iaload, 1) := by decide +kernel
theorem d_MO_vote_161 : decode mi_MO_vote.2.1 161 = .ok (.iload 5, 2) := by decide +kernel
theorem d_MO_vote_163 : decode mi_MO_vote.2.1 163 = .ok (.if_icmp .ge (16), 3) := by decide +kernel
theorem d_MO_vote_166 : decode mi_MO_vote.2.1 166 = .ok (.aload_n 0, 1) := by decide +kernel
theorem d_MO_vote_167 : decode mi_MO_vote.2.1 167 = .ok (.iload_n 2, 1) := by decide +kernel
theorem d_MO_vote_168 : decode mi_MO_vote.2.1 168 = .ok (.iload 5, 2) := by decide +kernel
theorem d_MO_vote_170 : decode mi_MO_vote.2.1 170 = .ok (.invokevirtual 115, 3) := by decide +kernel
theorem d_MO_vote_173 : decode mi_MO_vote.2.1 173 = .ok (.ifCond .ne (6), 3) := by decide +kernel
theorem d_MO_vote_176 : decode mi_MO_vote.2.1 176 = .ok (.bipush (-4), 2) := by decide +kernel
theorem d_MO_vote_178 : decode mi_MO_vote.2.1 178 = .ok (.ireturn, 1) := by decide +kernel
theorem d_MO_vote_179 : decode mi_MO_vote.2.1 179 = .ok (.aload_n 0, 1) := by decide +kernel
theorem d_MO_vote_180 : decode mi_MO_vote.2.1 180 = .ok (.iload_n 2, 1) := by decide +kernel
theorem d_MO_vote_181 : decode mi_MO_vote.2.1 181 = .ok (.iload_n 3, 1) := by decide +kernel
theorem d_MO_vote_182 : decode mi_MO_vote.2.1 182 = .ok (.iload 7, 2) := by decide +kernel
theorem d_MO_vote_184 : decode mi_MO_vote.2.1 184 = .ok (.iload 5, 2) := by decide +kernel
theorem d_MO_vote_186 : decode mi_MO_vote.2.1 186 = .ok (.invokevirtual 139, 3) := by decide +kernel
theorem d_MO_vote_189 : decode mi_MO_vote.2.1 189 = .ok (.ifCond .ne (6), 3) := by decide +kernel
theorem d_MO_vote_192 : decode mi_MO_vote.2.1 192 = .ok (.bipush (-4), 2) := by decide +kernel
theorem d_MO_vote_194 : decode mi_MO_vote.2.1 194 = .ok (.ireturn, 1) := by decide +kernel
theorem d_MO_vote_195 : decode mi_MO_vote.2.1 195 = .ok (.aload_n 0, 1) := by decide +kernel
theorem d_MO_vote_196 : decode mi_MO_vote.2.1 196 = .ok (.getfield 56, 3) := by decide +kernel
theorem d_MO_vote_199 : decode mi_MO_vote.2.1 199 = .ok (.iload 4, 2) := by decide +kernel
theorem d_MO_vote_201 : decode mi_MO_vote.2.1 201 = .ok (.dup2, 1) := by decide +kernel
theorem d_MO_vote_202 : decode mi_MO_vote.2.1 202 = .ok (.iaload, 1) := by decide +kernel
theorem d_MO_vote_203 : decode mi_MO_vote.2.1 203 = .ok (.iconst 1, 1) := by decide +kernel
theorem d_MO_vote_204 : decode mi_MO_vote.2.1 204 = .ok (.iload_n 2, 1) := by decide +kernel
theorem d_MO_vote_205 : decode mi_MO_vote.2.1 205 = .ok (.ishl, 1) := by decide +kernel
theorem d_MO_vote_206 : decode mi_MO_vote.2.1 206 = .ok (.ior, 1) := by decide +kernel
theorem d_MO_vote_207 : decode mi_MO_vote.2.1 207 = .ok (.iastore, 1) := by decide +kernel
theorem d_MO_vote_208 : decode mi_MO_vote.2.1 208 = .ok (.aload_n 0, 1) := by decide +kernel
theorem d_MO_vote_209 : decode mi_MO_vote.2.1 209 = .ok (.getfield 53, 3) := by decide +kernel
theorem d_MO_vote_212 : decode mi_MO_vote.2.1 212 = .ok (.iload 4, 2) := by decide +kernel
theorem d_MO_vote_214 : decode mi_MO_vote.2.1 214 = .ok (.iaload, 1) := by decide +kernel
theorem d_MO_vote_215 : decode mi_MO_vote.2.1 215 = .ok (.ifCond .ge (17), 3) := by decide +kernel
theorem d_MO_vote_218 : decode mi_MO_vote.2.1 218 = .ok (.aload_n 0, 1) := by decide +kernel
theorem d_MO_vote_219 : decode mi_MO_vote.2.1 219 = .ok (.aload_n 0, 1) := by decide +kernel
theorem d_MO_vote_220 : decode mi_MO_vote.2.1 220 = .ok (.getfield 56, 3) := by decide +kernel
theorem d_MO_vote_223 : decode mi_MO_vote.2.1 223 = .ok (.iload 4, 2) := by decide +kernel
theorem d_MO_vote_225 : decode mi_MO_vote.2.1 225 = .ok (.iaload, 1) := by decide +kernel
theorem d_MO_vote_226 : decode mi_MO_vote.2.1 226 = .ok (.invokevirtual 118, 3) := by decide +kernel
theorem d_MO_vote_229 : decode mi_MO_vote.2.1 229 = .ok (.ifCond .ne (5), 3) := by decide +kernel
theorem d_MO_vote_232 : decode mi_MO_vote.2.1 232 = .ok (.iconst 1, 1) := by decide +kernel
theorem d_MO_vote_233 : decode mi_MO_vote.2.1 233 = .ok (.ireturn, 1) := by decide +kernel
theorem d_MO_vote_234 : decode mi_MO_vote.2.1 234 = .ok (.aload_n 0, 1) := by decide +kernel
theorem d_MO_vote_235 : decode mi_MO_vote.2.1 235 = .ok (.getfield 53, 3) := by decide +kernel
theorem d_MO_vote_238 : decode mi_MO_vote.2.1 238 = .ok (.iload 4, 2) := by decide +kernel
theorem d_MO_vote_240 : decode mi_MO_vote.2.1 240 = .ok (.iload 7, 2) := by decide +kernel
theorem d_MO_vote_242 : decode mi_MO_vote.2.1 242 = .ok (.iastore, 1) := by decide +kernel
theorem d_MO_vote_243 : decode mi_MO_vote.2.1 243 = .ok (.iconst 2, 1) := by decide +kernel
theorem d_MO_vote_244 : decode mi_MO_vote.2.1 244 = .ok (.ireturn, 1) := by decide +kernel
theorem d_MO_tell_0 : decode mi_MO_tell.2.1 0 = .ok (.aload_n 0, 1) := by decide +kernel
theorem d_MO_tell_1 : decode mi_MO_tell.2.1 1 = .ok (.iload_n 1, 1) := by decide +kernel
theorem d_MO_tell_2 : decode mi_MO_tell.2.1 2 = .ok (.invokevirtual 101, 3) := by decide +kernel
theorem d_MO_tell_5 : decode mi_MO_tell.2.1 5 = .ok (.ifCond .eq (16), 3) := by decide +kernel
theorem d_MO_tell_8 : decode mi_MO_tell.2.1 8 = .ok (.aload_n 0, 1) := by decide +kernel
theorem d_MO_tell_9 : decode mi_MO_tell.2.1 9 = .ok (.iload_n 2, 1) := by decide +kernel
theorem d_MO_tell_10 : decode mi_MO_tell.2.1 10 = .ok (.invokevirtual 101, 3) := by decide +kernel
theorem d_MO_tell_13 : decode mi_MO_tell.2.1 13 = .ok (.ifCond .eq (8), 3) := by decide +kernel
theorem d_MO_tell_16 : decode mi_MO_tell.2.1 16 = .ok (.iload_n 1, 1) := by decide +kernel
theorem d_MO_tell_17 : decode mi_MO_tell.2.1 17 = .ok (.iload_n 2, 1) := by decide +kernel
theorem d_MO_tell_18 : decode mi_MO_tell.2.1 18 = .ok (.if_icmp .ne (5), 3) := by decide +kernel
theorem d_MO_tell_21 : decode mi_MO_tell.2.1 21 = .ok (.iconst (-1), 1) := by decide +kernel
theorem d_MO_tell_22 : decode mi_MO_tell.2.1 22 = .ok (.ireturn, 1) := by decide +kernel
theorem d_MO_tell_23 : decode mi_MO_tell.2.1 23 = .ok (.aload_n 0, 1) := by decide +kernel
theorem d_MO_tell_24 : decode mi_MO_tell.2.1 24 = .ok (.getfield 25, 3) := by decide +kernel
theorem d_MO_tell_27 : decode mi_MO_tell.2.1 27 = .ok (.iload_n 1, 1) := by decide +kernel
theorem d_MO_tell_28 : decode mi_MO_tell.2.1 28 = .ok (.baload, 1) := by decide +kernel
theorem d_MO_tell_29 : decode mi_MO_tell.2.1 29 = .ok (.ifCond .eq (12), 3) := by decide +kernel
theorem d_MO_tell_32 : decode mi_MO_tell.2.1 32 = .ok (.aload_n 0, 1) := by decide +kernel
theorem d_MO_tell_33 : decode mi_MO_tell.2.1 33 = .ok (.getfield 25, 3) := by decide +kernel
theorem d_MO_tell_36 : decode mi_MO_tell.2.1 36 = .ok (.iload_n 2, 1) := by decide +kernel
theorem d_MO_tell_37 : decode mi_MO_tell.2.1 37 = .ok (.baload, 1) := by decide +kernel
theorem d_MO_tell_38 : decode mi_MO_tell.2.1 38 = .ok (.ifCond .ne (6), 3) := by decide +kernel
theorem d_MO_tell_41 : decode mi_MO_tell.2.1 41 = .ok (.bipush (-2), 2) := by decide +kernel
theorem d_MO_tell_43 : decode mi_MO_tell.2.1 43 = .ok (.ireturn, 1) := by decide +kernel
theorem d_MO_tell_44 : decode mi_MO_tell.2.1 44 = .ok (.iconst 0, 1) := by decide +kernel
theorem d_MO_tell_45 : decode mi_MO_tell.2.1 45 = .ok (.istore_n 3, 1) := by decide +kernel
theorem d_MO_tell_46 : decode mi_MO_tell.2.1 46 = .ok (.iconst 0, 1) := by decide +kernel
theorem d_MO_tell_47 : decode mi_MO_tell.2.1 47 = .ok (.istore 4, 2) := by decide +kernel
theorem d_MO_tell_49 : decode mi_MO_tell.2.1 49 = .ok (.iload 4, 2) := by decide +kernel
theorem d_MO_tell_51 : decode mi_MO_tell.2.1 51 = .ok (.bipush (8), 2) := by decide +kernel
theorem d_MO_tell_53 : decode mi_MO_tell.2.1 53 = .ok (.if_icmp .ge (69), 3) := by decide +kernel
theorem d_MO_tell_56 : decode mi_MO_tell.2.1 56 = .ok (.aload_n 0, 1) := by decide +kernel
theorem d_MO_tell_57 : decode mi_MO_tell.2.1 57 = .ok (.getfield 53, 3) := by decide +kernel
theorem d_MO_tell_60 : decode mi_MO_tell.2.1 60 = .ok (.bipush (8), 2) := by decide +kernel
theorem d_MO_tell_62 : decode mi_MO_tell.2.1 62 = .ok (.iload_n 1, 1) := by decide +kernel
theorem d_MO_tell_63 : decode mi_MO_tell.2.1 63 = .ok (.imul, 1) := by decide +kernel
theorem d_MO_tell_64 : decode mi_MO_tell.2.1 64 = .ok (.iload 4, 2) := by decide +kernel
theorem d_MO_tell_66 : decode mi_MO_tell.2.1 66 = .ok (.iadd, 1) := by decide +kernel
theorem d_MO_tell_67 : decode mi_MO_tell.2.1 67 = .ok (.iaload, 1) := by decide +kernel
theorem d_MO_tell_68 : decode mi_MO_tell.2.1 68 = .ok (.ifCond .lt (48), 3) := by decide +kernel
theorem d_MO_tell_71 : decode mi_MO_tell.2.1 71 = .ok (.aload_n 0, 1) := by decide +kernel
theorem d_MO_tell_72 : decode mi_MO_tell.2.1 72 = .ok (.getfield 53, 3) := by decide +kernel
theorem d_MO_tell_75 : decode mi_MO_tell.2.1 75 = .ok (.bipush (8), 2) := by decide +kernel
theorem d_MO_tell_77 : decode mi_MO_tell.2.1 77 = .ok (.iload_n 2, 1) := by decide +kernel
theorem d_MO_tell_78 : decode mi_MO_tell.2.1 78 = .ok (.imul, 1) := by decide +kernel
theorem d_MO_tell_79 : decode mi_MO_tell.2.1 79 = .ok (.iload 4, 2) := by decide +kernel
theorem d_MO_tell_81 : decode mi_MO_tell.2.1 81 = .ok (.iadd, 1) := by decide +kernel
theorem d_MO_tell_82 : decode mi_MO_tell.2.1 82 = .ok (.iaload, 1) := by decide +kernel
theorem d_MO_tell_83 : decode mi_MO_tell.2.1 83 = .ok (.ifCond .lt (6), 3) := by decide +kernel
theorem d_MO_tell_86 : decode mi_MO_tell.2.1 86 = .ok (.goto (30), 3) := by decide +kernel
theorem d_MO_tell_89 : decode mi_MO_tell.2.1 89 = .ok (.aload_n 0, 1) := by decide +kernel
theorem d_MO_tell_90 : decode mi_MO_tell.2.1 90 = .ok (.getfield 53, 3) := by decide +kernel
theorem d_MO_tell_93 : decode mi_MO_tell.2.1 93 = .ok (.bipush (8), 2) := by decide +kernel
theorem d_MO_tell_95 : decode mi_MO_tell.2.1 95 = .ok (.iload_n 2, 1) := by decide +kernel
theorem d_MO_tell_96 : decode mi_MO_tell.2.1 96 = .ok (.imul, 1) := by decide +kernel
theorem d_MO_tell_97 : decode mi_MO_tell.2.1 97 = .ok (.iload 4, 2) := by decide +kernel
theorem d_MO_tell_99 : decode mi_MO_tell.2.1 99 = .ok (.iadd, 1) := by decide +kernel
theorem d_MO_tell_100 : decode mi_MO_tell.2.1 100 = .ok (.aload_n 0, 1) := by decide +kernel
theorem d_MO_tell_101 : decode mi_MO_tell.2.1 101 = .ok (.getfield 53, 3) := by decide +kernel
theorem d_MO_tell_104 : decode mi_MO_tell.2.1 104 = .ok (.bipush (8), 2) := by decide +kernel
theorem d_MO_tell_106 : decode mi_MO_tell.2.1 106 = .ok (.iload_n 1, 1) := by decide +kernel
theorem d_MO_tell_107 : decode mi_MO_tell.2.1 107 = .ok (.imul, 1) := by decide +kernel
theorem d_MO_tell_108 : decode mi_MO_tell.2.1 108 = .ok (.iload 4, 2) := by decide +kernel
theorem d_MO_tell_110 : decode mi_MO_tell.2.1 110 = .ok (.iadd, 1) := by decide +kernel
theorem d_MO_tell_111 : decode mi_MO_tell.2.1 111 = .ok (.iaload, 1) := by decide +kernel
theorem d_MO_tell_112 : decode mi_MO_tell.2.1 112 = .ok (.iastore, 1) := by decide +kernel
theorem d_MO_tell_113 : decode mi_MO_tell.2.1 113 = .ok (.iinc 3 (1), 3) := by decide +kernel
theorem d_MO_tell_116 : decode mi_MO_tell.2.1 116 = .ok (.iinc 4 (1), 3) := by decide +kernel
theorem d_MO_tell_119 : decode mi_MO_tell.2.1 119 = .ok (.goto (-70), 3) := by decide +kernel
theorem d_MO_tell_122 : decode mi_MO_tell.2.1 122 = .ok (.iload_n 3, 1) := by decide +kernel
theorem d_MO_tell_123 : decode mi_MO_tell.2.1 123 = .ok (.ireturn, 1) := by decide +kernel
theorem d_MO_mend_0 : decode mi_MO_mend.2.1 0 = .ok (.aload_n 0, 1) := by decide +kernel
theorem d_MO_mend_1 : decode mi_MO_mend.2.1 1 = .ok (.iload_n 1, 1) := by decide +kernel
theorem d_MO_mend_2 : decode mi_MO_mend.2.1 2 = .ok (.invokevirtual 101, 3) := by decide +kernel
theorem d_MO_mend_5 : decode mi_MO_mend.2.1 5 = .ok (.ifCond .eq (23), 3) := by decide +kernel
theorem d_MO_mend_8 : decode mi_MO_mend.2.1 8 = .ok (.aload_n 0, 1) := by decide +kernel
theorem d_MO_mend_9 : decode mi_MO_mend.2.1 9 = .ok (.iload_n 2, 1) := by decide +kernel
theorem d_MO_mend_10 : decode mi_MO_mend.2.1 10 = .ok (.invokevirtual 101, 3) := by decide +kernel
theorem d_MO_mend_13 : decode mi_MO_mend.2.1 13 = .ok (.ifCond .eq (15), 3) := by decide +kernel
theorem d_MO_mend_16 : decode mi_MO_mend.2.1 16 = .ok (.iload_n 3, 1) := by decide +kernel
theorem d_MO_mend_17 : decode mi_MO_mend.2.1 17 = .ok (.invokestatic 136, 3) := by decide +kernel
theorem d_MO_mend_20 : decode mi_MO_mend.2.1 20 = .ok (.ifCond .eq (8), 3) := by decide +kernel
theorem d_MO_mend_23 : decode mi_MO_mend.2.1 23 = .ok (.iload_n 1, 1) := by decide +kernel
theorem d_MO_mend_24 : decode mi_MO_mend.2.1 24 = .ok (.iload_n 2, 1) := by decide +kernel
theorem d_MO_mend_25 : decode mi_MO_mend.2.1 25 = .ok (.if_icmp .ne (5), 3) := by decide +kernel
theorem d_MO_mend_28 : decode mi_MO_mend.2.1 28 = .ok (.iconst (-1), 1) := by decide +kernel
theorem d_MO_mend_29 : decode mi_MO_mend.2.1 29 = .ok (.ireturn, 1) := by decide +kernel
theorem d_MO_mend_30 : decode mi_MO_mend.2.1 30 = .ok (.aload_n 0, 1) := by decide +kernel
theorem d_MO_mend_31 : decode mi_MO_mend.2.1 31 = .ok (.getfield 44, 3) := by decide +kernel
theorem d_MO_mend_34 : decode mi_MO_mend.2.1 34 = .ok (.bipush (8), 2) := by decide +kernel
theorem d_MO_mend_36 : decode mi_MO_mend.2.1 36 = .ok (.iload_n 1, 1) := by decide +kernel
theorem d_MO_mend_37 : decode mi_MO_mend.2.1 37 = .ok (.imul, 1) := by decide +kernel
theorem d_MO_mend_38 : decode mi_MO_mend.2.1 38 = .ok (.iload_n 3, 1) := by decide +kernel
theorem d_MO_mend_39 : decode mi_MO_mend.2.1 39 = .ok (.iadd, 1) := by decide +kernel
theorem d_MO_mend_40 : decode mi_MO_mend.2.1 40 = .ok (.iconst 1, 1) := by decide +kernel
theorem d_MO_mend_41 : decode mi_MO_mend.2.1 41 = .ok (.isub, 1) := by decide +kernel
theorem d_MO_mend_42 : decode mi_MO_mend.2.1 42 = .ok (.iaload, 1) := by decide +kernel
theorem d_MO_mend_43 : decode mi_MO_mend.2.1 43 = .ok (.istore 4, 2) := by decide +kernel
theorem d_MO_mend_45 : decode mi_MO_mend.2.1 45 = .ok (.aload_n 0, 1) := by decide +kernel
theorem d_MO_mend_46 : decode mi_MO_mend.2.1 46 = .ok (.getfield 44, 3) := by decide +kernel
theorem d_MO_mend_49 : decode mi_MO_mend.2.1 49 = .ok (.bipush (8), 2) := by decide +kernel
theorem d_MO_mend_51 : decode mi_MO_mend.2.1 51 = .ok (.iload_n 2, 1) := by decide +kernel
theorem d_MO_mend_52 : decode mi_MO_mend.2.1 52 = .ok (.imul, 1) := by decide +kernel
theorem d_MO_mend_53 : decode mi_MO_mend.2.1 53 = .ok (.iload_n 3, 1) := by decide +kernel
theorem d_MO_mend_54 : decode mi_MO_mend.2.1 54 = .ok (.iadd, 1) := by decide +kernel
theorem d_MO_mend_55 : decode mi_MO_mend.2.1 55 = .ok (.iconst 1, 1) := by decide +kernel
theorem d_MO_mend_56 : decode mi_MO_mend.2.1 56 = .ok (.isub, 1) := by decide +kernel
theorem d_MO_mend_57 : decode mi_MO_mend.2.1 57 = .ok (.iaload, 1) := by decide +kernel
theorem d_MO_mend_58 : decode mi_MO_mend.2.1 58 = .ok (.istore 5, 2) := by decide +kernel
theorem d_MO_mend_60 : decode mi_MO_mend.2.1 60 = .ok (.aload_n 0, 1) := by decide +kernel
theorem d_MO_mend_61 : decode mi_MO_mend.2.1 61 = .ok (.iload_n 1, 1) := by decide +kernel
theorem d_MO_mend_62 : decode mi_MO_mend.2.1 62 = .ok (.invokevirtual 111, 3) := by decide +kernel
theorem d_MO_mend_65 : decode mi_MO_mend.2.1 65 = .ok (.ifCond .eq (41), 3) := by decide +kernel
theorem d_MO_mend_68 : decode mi_MO_mend.2.1 68 = .ok (.aload_n 0, 1) := by decide +kernel
theorem d_MO_mend_69 : decode mi_MO_mend.2.1 69 = .ok (.iload_n 2, 1) := by decide +kernel
theorem d_MO_mend_70 : decode mi_MO_mend.2.1 70 = .ok (.invokevirtual 111, 3) := by decide +kernel
theorem d_MO_mend_73 : decode mi_MO_mend.2.1 73 = .ok (.ifCond .eq (33), 3) := by decide +kernel
theorem d_MO_mend_76 : decode mi_MO_mend.2.1 76 = .ok (.iload 4, 2) := by decide +kernel
theorem d_MO_mend_78 : decode mi_MO_mend.2.1 78 = .ok (.ifCond .ge (28), 3) := by decide +kernel
theorem d_MO_mend_81 : decode mi_MO_mend.2.1 81 = .ok (.iload 4, 2) := by decide +kernel
theorem d_MO_mend_83 : decode mi_MO_mend.2.1 83 = .ok (.ldc 100, 2) := by decide +kernel
theorem d_MO_mend_85 : decode mi_MO_mend.2.1 85 = .ok (.if_icmp .eq (21), 3) := by decide +kernel
theorem d_MO_mend_88 : decode mi_MO_mend.2.1 88 = .ok (.iload 5, 2) := by decide +kernel
theorem d_MO_mend_90 : decode mi_MO_mend.2.1 90 = .ok (.ifCond .le (16), 3) := by decide +kernel
theorem d_MO_mend_93 : decode mi_MO_mend.2.1 93 = .ok (.iload 5, 2) := by decide +kernel
theorem d_MO_mend_95 : decode mi_MO_mend.2.1 95 = .ok (.bipush (64), 2) := by decide +kernel
theorem d_MO_mend_97 : decode mi_MO_mend.2.1 97 = .ok (.idiv, 1) := by decide +kernel
theorem d_MO_mend_98 : decode mi_MO_mend.2.1 98 = .ok (.bipush (-2), 2) := by decide +kernel
theorem d_MO_mend_100 : decode mi_MO_mend.2.1 100 = .ok (.iload 4, 2) := by decide +kernel
theorem d_MO_mend_102 : decode mi_MO_mend.2.1 102 = .ok (.isub, 1) := by decide +kernel
theorem d_MO_mend_103 : decode mi_MO_mend.2.1 103 = .ok (.if_icmp .eq (5), 3) := by decide +kernel
theorem d_MO_mend_106 : decode mi_MO_mend.2.1 106 = .ok (.iconst 0, 1) := by decide +kernel
theorem d_MO_mend_107 : decode mi_MO_mend.2.1 107 = .ok (.ireturn, 1) := by decide +kernel
theorem d_MO_mend_108 : decode mi_MO_mend.2.1 108 = .ok (.aload_n 0, 1) := by decide +kernel
theorem d_MO_mend_109 : decode mi_MO_mend.2.1 109 = .ok (.iload_n 1, 1) := by decide +kernel
theorem d_MO_mend_110 : decode mi_MO_mend.2.1 110 = .ok (.iload_n 3, 1) := by decide +kernel
theorem d_MO_mend_111 : decode mi_MO_mend.2.1 111 = .ok (.iload 5, 2) := by decide +kernel
theorem d_MO_mend_113 : decode mi_MO_mend.2.1 113 = .ok (.bipush (64), 2) := by decide +kernel
theorem d_MO_mend_115 : decode mi_MO_mend.2.1 115 = .ok (.irem, 1) := by decide +kernel
theorem d_MO_mend_116 : decode mi_MO_mend.2.1 116 = .ok (.iload 5, 2) := by decide +kernel
theorem d_MO_mend_118 : decode mi_MO_mend.2.1 118 = .ok (.bipush (64), 2) := by decide +kernel
theorem d_MO_mend_120 : decode mi_MO_mend.2.1 120 = .ok (.idiv, 1) := by decide +kernel
theorem d_MO_mend_121 : decode mi_MO_mend.2.1 121 = .ok (.invokevirtual 139, 3) := by decide +kernel
theorem d_MO_mend_124 : decode mi_MO_mend.2.1 124 = .ok (.ifCond .eq (7), 3) := by decide +kernel
theorem d_MO_mend_127 : decode mi_MO_mend.2.1 127 = .ok (.iconst 1, 1) := by decide +kernel
theorem d_MO_mend_128 : decode mi_MO_mend.2.1 128 = .ok (.goto (5), 3) := by decide +kernel
theorem d_MO_mend_131 : decode mi_MO_mend.2.1 131 = .ok (.bipush (-4), 2) := by decide +kernel
theorem d_MO_mend_133 : decode mi_MO_mend.2.1 133 = .ok (.ireturn, 1) := by decide +kernel
theorem d_MO_look_0 : decode mi_MO_look.2.1 0 = .ok (.aload_n 0, 1) := by decide +kernel
theorem d_MO_look_1 : decode mi_MO_look.2.1 1 = .ok (.iload_n 1, 1) := by decide +kernel
theorem d_MO_look_2 : decode mi_MO_look.2.1 2 = .ok (.invokevirtual 101, 3) := by decide +kernel
theorem d_MO_look_5 : decode mi_MO_look.2.1 5 = .ok (.ifCond .eq (13), 3) := by decide +kernel
theorem d_MO_look_8 : decode mi_MO_look.2.1 8 = .ok (.iload_n 2, 1) := by decide +kernel
theorem d_MO_look_9 : decode mi_MO_look.2.1 9 = .ok (.ifCond .lt (9), 3) := by decide +kernel
theorem d_MO_look_12 : decode mi_MO_look.2.1 12 = .ok (.iload_n 2, 1) := by decide +kernel
theorem d_MO_look_13 : decode mi_MO_look.2.1 13 = .ok (.bipush (6), 2) := by decide +kernel
theorem d_MO_look_15 : decode mi_MO_look.2.1 15 = .ok (.if_icmp .le (5), 3) := by decide +kernel
theorem d_MO_look_18 : decode mi_MO_look.2.1 18 = .ok (.iconst (-1), 1) := by decide +kernel
theorem d_MO_look_19 : decode mi_MO_look.2.1 19 = .ok (.ireturn, 1) := by decide +kernel
theorem d_MO_look_20 : decode mi_MO_look.2.1 20 = .ok (.iload_n 2, 1) := by decide +kernel
theorem d_MO_look_21 : decode mi_MO_look.2.1 21 = .ok (.bipush (6), 2) := by decide +kernel
theorem d_MO_look_23 : decode mi_MO_look.2.1 23 = .ok (.if_icmp .ne (10), 3) := by decide +kernel
theorem d_MO_look_26 : decode mi_MO_look.2.1 26 = .ok (.aload_n 0, 1) := by decide +kernel
theorem d_MO_look_27 : decode mi_MO_look.2.1 27 = .ok (.getfield 32, 3) := by decide +kernel
theorem d_MO_look_30 : decode mi_MO_look.2.1 30 = .ok (.iload_n 1, 1) := by decide +kernel
theorem d_MO_look_31 : decode mi_MO_look.2.1 31 = .ok (.iaload, 1) := by decide +kernel
theorem d_MO_look_32 : decode mi_MO_look.2.1 32 = .ok (.ireturn, 1) := by decide +kernel
theorem d_MO_look_33 : decode mi_MO_look.2.1 33 = .ok (.aload_n 0, 1) := by decide +kernel
theorem d_MO_look_34 : decode mi_MO_look.2.1 34 = .ok (.getfield 25, 3) := by decide +kernel
theorem d_MO_look_37 : decode mi_MO_look.2.1 37 = .ok (.iload_n 1, 1) := by decide +kernel
theorem d_MO_look_38 : decode mi_MO_look.2.1 38 = .ok (.baload, 1) := by decide +kernel
theorem d_MO_look_39 : decode mi_MO_look.2.1 39 = .ok (.ifCond .ne (5), 3) := by decide +kernel
theorem d_MO_look_42 : decode mi_MO_look.2.1 42 = .ok (.iconst 0, 1) := by decide +kernel
theorem d_MO_look_43 : decode mi_MO_look.2.1 43 = .ok (.ireturn, 1) := by decide +kernel
theorem d_MO_look_44 : decode mi_MO_look.2.1 44 = .ok (.iload_n 2, 1) := by decide +kernel
theorem d_MO_look_45 : decode mi_MO_look.2.1 45 = .ok (.tableswitch (73) (0) (4) #[35, 37, 52, 59, 66], 35) := by decide +kernel
theorem d_MO_look_80 : decode mi_MO_look.2.1 80 = .ok (.iconst 1, 1) := by decide +kernel
theorem d_MO_look_81 : decode mi_MO_look.2.1 81 = .ok (.ireturn, 1) := by decide +kernel
theorem d_MO_look_82 : decode mi_MO_look.2.1 82 = .ok (.aload_n 0, 1) := by decide +kernel
theorem d_MO_look_83 : decode mi_MO_look.2.1 83 = .ok (.getfield 29, 3) := by decide +kernel
theorem d_MO_look_86 : decode mi_MO_look.2.1 86 = .ok (.iload_n 1, 1) := by decide +kernel
theorem d_MO_look_87 : decode mi_MO_look.2.1 87 = .ok (.baload, 1) := by decide +kernel
theorem d_MO_look_88 : decode mi_MO_look.2.1 88 = .ok (.ifCond .eq (7), 3) := by decide +kernel
theorem d_MO_look_91 : decode mi_MO_look.2.1 91 = .ok (.iconst 1, 1) := by decide +kernel
theorem d_MO_look_92 : decode mi_MO_look.2.1 92 = .ok (.goto (4), 3) := by decide +kernel
theorem d_MO_look_95 : decode mi_MO_look.2.1 95 = .ok (.iconst 0, 1) := by decide +kernel
theorem d_MO_look_96 : decode mi_MO_look.2.1 96 = .ok (.ireturn, 1) := by decide +kernel
theorem d_MO_look_97 : decode mi_MO_look.2.1 97 = .ok (.aload_n 0, 1) := by decide +kernel
theorem d_MO_look_98 : decode mi_MO_look.2.1 98 = .ok (.getfield 35, 3) := by decide +kernel
theorem d_MO_look_101 : decode mi_MO_look.2.1 101 = .ok (.iload_n 1, 1) := by decide +kernel
theorem d_MO_look_102 : decode mi_MO_look.2.1 102 = .ok (.iaload, 1) := by decide +kernel
theorem d_MO_look_103 : decode mi_MO_look.2.1 103 = .ok (.ireturn, 1) := by decide +kernel
theorem d_MO_look_104 : decode mi_MO_look.2.1 104 = .ok (.aload_n 0, 1) := by decide +kernel
theorem d_MO_look_105 : decode mi_MO_look.2.1 105 = .ok (.getfield 38, 3) := by decide +kernel
theorem d_MO_look_108 : decode mi_MO_look.2.1 108 = .ok (.iload_n 1, 1) := by decide +kernel
theorem d_MO_look_109 : decode mi_MO_look.2.1 109 = .ok (.iaload, 1) := by decide +kernel
theorem d_MO_look_110 : decode mi_MO_look.2.1 110 = .ok (.ireturn, 1) := by decide +kernel
theorem d_MO_look_111 : decode mi_MO_look.2.1 111 = .ok (.aload_n 0, 1) := by decide +kernel
theorem d_MO_look_112 : decode mi_MO_look.2.1 112 = .ok (.getfield 41, 3) := by decide +kernel
theorem d_MO_look_115 : decode mi_MO_look.2.1 115 = .ok (.iload_n 1, 1) := by decide +kernel
theorem d_MO_look_116 : decode mi_MO_look.2.1 116 = .ok (.iaload, 1) := by decide +kernel
theorem d_MO_look_117 : decode mi_MO_look.2.1 117 = .ok (.ireturn, 1) := by decide +kernel
theorem d_MO_look_118 : decode mi_MO_look.2.1 118 = .ok (.aload_n 0, 1) := by decide +kernel
theorem d_MO_look_119 : decode mi_MO_look.2.1 119 = .ok (.iload_n 1, 1) := by decide +kernel
theorem d_MO_look_120 : decode mi_MO_look.2.1 120 = .ok (.invokevirtual 127, 3) := by decide +kernel
theorem d_MO_look_123 : decode mi_MO_look.2.1 123 = .ok (.aload_n 0, 1) := by decide +kernel
theorem d_MO_look_124 : decode mi_MO_look.2.1 124 = .ok (.getfield 124, 3) := by decide +kernel
theorem d_MO_look_127 : decode mi_MO_look.2.1 127 = .ok (.ireturn, 1) := by decide +kernel
theorem d_MO_slot_0 : decode mi_MO_slot.2.1 0 = .ok (.aload_n 0, 1) := by decide +kernel
theorem d_MO_slot_1 : decode mi_MO_slot.2.1 1 = .ok (.iload_n 1, 1) := by decide +kernel
theorem d_MO_slot_2 : decode mi_MO_slot.2.1 2 = .ok (.invokevirtual 101, 3) := by decide +kernel
theorem d_MO_slot_5 : decode mi_MO_slot.2.1 5 = .ok (.ifCond .eq (35), 3) := by decide +kernel
theorem d_MO_slot_8 : decode mi_MO_slot.2.1 8 = .ok (.iload_n 2, 1) := by decide +kernel
theorem d_MO_slot_9 : decode mi_MO_slot.2.1 9 = .ok (.invokestatic 136, 3) := by decide +kernel
theorem d_MO_slot_12 : decode mi_MO_slot.2.1 12 = .ok (.ifCond .eq (28), 3) := by decide +kernel
theorem d_MO_slot_15 : decode mi_MO_slot.2.1 15 = .ok (.aload_n 0, 1) := by decide +kernel
theorem d_MO_slot_16 : decode mi_MO_slot.2.1 16 = .ok (.getfield 25, 3) := by decide +kernel
theorem d_MO_slot_19 : decode mi_MO_slot.2.1 19 = .ok (.iload_n 1, 1) := by decide +kernel
theorem d_MO_slot_20 : decode mi_MO_slot.2.1 20 = .ok (.baload, 1) := by decide +kernel
theorem d_MO_slot_21 : decode mi_MO_slot.2.1 21 = .ok (.ifCond .eq (19), 3) := by decide +kernel
theorem d_MO_slot_24 : decode mi_MO_slot.2.1 24 = .ok (.aload_n 0, 1) := by decide +kernel
theorem d_MO_slot_25 : decode mi_MO_slot.2.1 25 = .ok (.getfield 44, 3) := by decide +kernel
theorem d_MO_slot_28 : decode mi_MO_slot.2.1 28 = .ok (.bipush (8), 2) := by decide +kernel
theorem d_MO_slot_30 : decode mi_MO_slot.2.1 30 = .ok (.iload_n 1, 1) := by decide +kernel
theorem d_MO_slot_31 : decode mi_MO_slot.2.1 31 = .ok (.imul, 1) := by decide +kernel
theorem d_MO_slot_32 : decode mi_MO_slot.2.1 32 = .ok (.iload_n 2, 1) := by decide +kernel
theorem d_MO_slot_33 : decode mi_MO_slot.2.1 33 = .ok (.iadd, 1) := by decide +kernel
theorem d_MO_slot_34 : decode mi_MO_slot.2.1 34 = .ok (.iconst 1, 1) := by decide +kernel
theorem d_MO_slot_35 : decode mi_MO_slot.2.1 35 = .ok (.isub, 1) := by decide +kernel
theorem d_MO_slot_36 : decode mi_MO_slot.2.1 36 = .ok (.iaload, 1) := by decide +kernel
theorem d_MO_slot_37 : decode mi_MO_slot.2.1 37 = .ok (.goto (4), 3) := by decide +kernel
theorem d_MO_slot_40 : decode mi_MO_slot.2.1 40 = .ok (.iconst (-1), 1) := by decide +kernel
theorem d_MO_slot_41 : decode mi_MO_slot.2.1 41 = .ok (.ireturn, 1) := by decide +kernel
theorem d_MO_plan_0 : decode mi_MO_plan.2.1 0 = .ok (.aload_n 0, 1) := by decide +kernel
theorem d_MO_plan_1 : decode mi_MO_plan.2.1 1 = .ok (.iload_n 1, 1) := by decide +kernel
theorem d_MO_plan_2 : decode mi_MO_plan.2.1 2 = .ok (.invokevirtual 101, 3) := by decide +kernel
theorem d_MO_plan_5 : decode mi_MO_plan.2.1 5 = .ok (.ifCond .eq (27), 3) := by decide +kernel
theorem d_MO_plan_8 : decode mi_MO_plan.2.1 8 = .ok (.iload_n 2, 1) := by decide +kernel
theorem d_MO_plan_9 : decode mi_MO_plan.2.1 9 = .ok (.invokestatic 136, 3) := by decide +kernel
theorem d_MO_plan_12 : decode mi_MO_plan.2.1 12 = .ok (.ifCond .eq (20), 3) := by decide +kernel
theorem d_MO_plan_15 : decode mi_MO_plan.2.1 15 = .ok (.aload_n 0, 1) := by decide +kernel
theorem d_MO_plan_16 : decode mi_MO_plan.2.1 16 = .ok (.iload_n 1, 1) := by decide +kernel
theorem d_MO_plan_17 : decode mi_MO_plan.2.1 17 = .ok (.invokevirtual 130, 3) := by decide +kernel
theorem d_MO_plan_20 : decode mi_MO_plan.2.1 20 = .ok (.ifCond .eq (12), 3) := by decide +kernel
theorem d_MO_plan_23 : decode mi_MO_plan.2.1 23 = .ok (.aload_n 0, 1) := by decide +kernel
theorem d_MO_plan_24 : decode mi_MO_plan.2.1 24 = .ok (.iload_n 1, 1) := by decide +kernel
theorem d_MO_plan_25 : decode mi_MO_plan.2.1 25 = .ok (.iload_n 2, 1) := by decide +kernel
theorem d_MO_plan_26 : decode mi_MO_plan.2.1 26 = .ok (.invokevirtual 121, 3) := by decide +kernel
theorem d_MO_plan_29 : decode mi_MO_plan.2.1 29 = .ok (.goto (4), 3) := by decide +kernel
theorem d_MO_plan_32 : decode mi_MO_plan.2.1 32 = .ok (.iconst (-1), 1) := by decide +kernel
theorem d_MO_plan_33 : decode mi_MO_plan.2.1 33 = .ok (.ireturn, 1) := by decide +kernel
theorem d_MO_chosen_0 : decode mi_MO_chosen.2.1 0 = .ok (.aload_n 0, 1) := by decide +kernel
theorem d_MO_chosen_1 : decode mi_MO_chosen.2.1 1 = .ok (.iload_n 1, 1) := by decide +kernel
theorem d_MO_chosen_2 : decode mi_MO_chosen.2.1 2 = .ok (.invokevirtual 101, 3) := by decide +kernel
theorem d_MO_chosen_5 : decode mi_MO_chosen.2.1 5 = .ok (.ifCond .eq (35), 3) := by decide +kernel
theorem d_MO_chosen_8 : decode mi_MO_chosen.2.1 8 = .ok (.iload_n 2, 1) := by decide +kernel
theorem d_MO_chosen_9 : decode mi_MO_chosen.2.1 9 = .ok (.invokestatic 136, 3) := by decide +kernel
theorem d_MO_chosen_12 : decode mi_MO_chosen.2.1 12 = .ok (.ifCond .eq (28), 3) := by decide +kernel
theorem d_MO_chosen_15 : decode mi_MO_chosen.2.1 15 = .ok (.aload_n 0, 1) := by decide +kernel
theorem d_MO_chosen_16 : decode mi_MO_chosen.2.1 16 = .ok (.getfield 25, 3) := by decide +kernel
theorem d_MO_chosen_19 : decode mi_MO_chosen.2.1 19 = .ok (.iload_n 1, 1) := by decide +kernel
theorem d_MO_chosen_20 : decode mi_MO_chosen.2.1 20 = .ok (.baload, 1) := by decide +kernel
theorem d_MO_chosen_21 : decode mi_MO_chosen.2.1 21 = .ok (.ifCond .eq (19), 3) := by decide +kernel
theorem d_MO_chosen_24 : decode mi_MO_chosen.2.1 24 = .ok (.aload_n 0, 1) := by decide +kernel
theorem d_MO_chosen_25 : decode mi_MO_chosen.2.1 25 = .ok (.getfield 53, 3) := by decide +kernel
theorem d_MO_chosen_28 : decode mi_MO_chosen.2.1 28 = .ok (.bipush (8), 2) := by decide +kernel
theorem d_MO_chosen_30 : decode mi_MO_chosen.2.1 30 = .ok (.iload_n 1, 1) := by decide +kernel
theorem d_MO_chosen_31 : decode mi_MO_chosen.2.1 31 = .ok (.imul, 1) := by decide +kernel
theorem d_MO_chosen_32 : decode mi_MO_chosen.2.1 32 = .ok (.iload_n 2, 1) := by decide +kernel
theorem d_MO_chosen_33 : decode mi_MO_chosen.2.1 33 = .ok (.iadd, 1) := by decide +kernel
theorem d_MO_chosen_34 : decode mi_MO_chosen.2.1 34 = .ok (.iconst 1, 1) := by decide +kernel
theorem d_MO_chosen_35 : decode mi_MO_chosen.2.1 35 = .ok (.isub, 1) := by decide +kernel
theorem d_MO_chosen_36 : decode mi_MO_chosen.2.1 36 = .ok (.iaload, 1) := by decide +kernel
theorem d_MO_chosen_37 : decode mi_MO_chosen.2.1 37 = .ok (.goto (4), 3) := by decide +kernel
theorem d_MO_chosen_40 : decode mi_MO_chosen.2.1 40 = .ok (.iconst (-1), 1) := by decide +kernel
theorem d_MO_chosen_41 : decode mi_MO_chosen.2.1 41 = .ok (.ireturn, 1) := by decide +kernel
theorem d_MO_value_0 : decode mi_MO_value.2.1 0 = .ok (.aload_n 0, 1) := by decide +kernel
theorem d_MO_value_1 : decode mi_MO_value.2.1 1 = .ok (.iload_n 1, 1) := by decide +kernel
theorem d_MO_value_2 : decode mi_MO_value.2.1 2 = .ok (.invokevirtual 101, 3) := by decide +kernel
theorem d_MO_value_5 : decode mi_MO_value.2.1 5 = .ok (.ifCond .eq (21), 3) := by decide +kernel
theorem d_MO_value_8 : decode mi_MO_value.2.1 8 = .ok (.iload_n 2, 1) := by decide +kernel
theorem d_MO_value_9 : decode mi_MO_value.2.1 9 = .ok (.ifCond .lt (17), 3) := by decide +kernel
theorem d_MO_value_12 : decode mi_MO_value.2.1 12 = .ok (.iload_n 2, 1) := by decide +kernel
theorem d_MO_value_13 : decode mi_MO_value.2.1 13 = .ok (.iconst 3, 1) := by decide +kernel
theorem d_MO_value_14 : decode mi_MO_value.2.1 14 = .ok (.if_icmp .gt (12), 3) := by decide +kernel
theorem d_MO_value_17 : decode mi_MO_value.2.1 17 = .ok (.aload_n 0, 1) := by decide +kernel
theorem d_MO_value_18 : decode mi_MO_value.2.1 18 = .ok (.getfield 25, 3) := by decide +kernel
theorem d_MO_value_21 : decode mi_MO_value.2.1 21 = .ok (.iload_n 1, 1) := by decide +kernel
theorem d_MO_value_22 : decode mi_MO_value.2.1 22 = .ok (.baload, 1) := by decide +kernel
theorem d_MO_value_23 : decode mi_MO_value.2.1 23 = .ok (.ifCond .ne (5), 3) := by decide +kernel
theorem d_MO_value_26 : decode mi_MO_value.2.1 26 = .ok (.iconst 0, 1) := by decide +kernel
theorem d_MO_value_27 : decode mi_MO_value.2.1 27 = .ok (.ireturn, 1) := by decide +kernel
theorem d_MO_value_28 : decode mi_MO_value.2.1 28 = .ok (.aload_n 0, 1) := by decide +kernel
theorem d_MO_value_29 : decode mi_MO_value.2.1 29 = .ok (.iload_n 1, 1) := by decide +kernel
theorem d_MO_value_30 : decode mi_MO_value.2.1 30 = .ok (.invokevirtual 127, 3) := by decide +kernel
theorem d_MO_value_33 : decode mi_MO_value.2.1 33 = .ok (.aload_n 0, 1) := by decide +kernel
theorem d_MO_value_34 : decode mi_MO_value.2.1 34 = .ok (.getfield 62, 3) := by decide +kernel
theorem d_MO_value_37 : decode mi_MO_value.2.1 37 = .ok (.iload_n 2, 1) := by decide +kernel
theorem d_MO_value_38 : decode mi_MO_value.2.1 38 = .ok (.iaload, 1) := by decide +kernel
theorem d_MO_value_39 : decode mi_MO_value.2.1 39 = .ok (.ireturn, 1) := by decide +kernel
theorem d_MO_octet_0 : decode mi_MO_octet.2.1 0 = .ok (.aload_n 0, 1) := by decide +kernel
theorem d_MO_octet_1 : decode mi_MO_octet.2.1 1 = .ok (.iload_n 1, 1) := by decide +kernel
theorem d_MO_octet_2 : decode mi_MO_octet.2.1 2 = .ok (.invokevirtual 101, 3) := by decide +kernel
theorem d_MO_octet_5 : decode mi_MO_octet.2.1 5 = .ok (.ifCond .eq (29), 3) := by decide +kernel
theorem d_MO_octet_8 : decode mi_MO_octet.2.1 8 = .ok (.iload_n 2, 1) := by decide +kernel
theorem d_MO_octet_9 : decode mi_MO_octet.2.1 9 = .ok (.ifCond .lt (25), 3) := by decide +kernel
theorem d_MO_octet_12 : decode mi_MO_octet.2.1 12 = .ok (.iload_n 2, 1) := by decide +kernel
theorem d_MO_octet_13 : decode mi_MO_octet.2.1 13 = .ok (.sipush (144), 3) := by decide +kernel
theorem d_MO_octet_16 : decode mi_MO_octet.2.1 16 = .ok (.if_icmp .ge (18), 3) := by decide +kernel
theorem d_MO_octet_19 : decode mi_MO_octet.2.1 19 = .ok (.aload_n 0, 1) := by decide +kernel
theorem d_MO_octet_20 : decode mi_MO_octet.2.1 20 = .ok (.getfield 22, 3) := by decide +kernel
theorem d_MO_octet_23 : decode mi_MO_octet.2.1 23 = .ok (.sipush (144), 3) := by decide +kernel
theorem d_MO_octet_26 : decode mi_MO_octet.2.1 26 = .ok (.iload_n 1, 1) := by decide +kernel
theorem d_MO_octet_27 : decode mi_MO_octet.2.1 27 = .ok (.imul, 1) := by decide +kernel
theorem d_MO_octet_28 : decode mi_MO_octet.2.1 28 = .ok (.iload_n 2, 1) := by decide +kernel
theorem d_MO_octet_29 : decode mi_MO_octet.2.1 29 = .ok (.iadd, 1) := by decide +kernel
theorem d_MO_octet_30 : decode mi_MO_octet.2.1 30 = .ok (.iaload, 1) := by decide +kernel
theorem d_MO_octet_31 : decode mi_MO_octet.2.1 31 = .ok (.goto (4), 3) := by decide +kernel
theorem d_MO_octet_34 : decode mi_MO_octet.2.1 34 = .ok (.iconst (-1), 1) := by decide +kernel
theorem d_MO_octet_35 : decode mi_MO_octet.2.1 35 = .ok (.ireturn, 1) := by decide +kernel
theorem d_MO_reply_0 : decode mi_MO_reply.2.1 0 = .ok (.iload_n 1, 1) := by decide +kernel
theorem d_MO_reply_1 : decode mi_MO_reply.2.1 1 = .ok (.iconst 1, 1) := by decide +kernel
theorem d_MO_reply_2 : decode mi_MO_reply.2.1 2 = .ok (.if_icmp .lt (11), 3) := by decide +kernel
theorem d_MO_reply_5 : decode mi_MO_reply.2.1 5 = .ok (.iload_n 1, 1) := by decide +kernel
theorem d_MO_reply_6 : decode mi_MO_reply.2.1 6 = .ok (.aload_n 0, 1) := by decide +kernel
theorem d_MO_reply_7 : decode mi_MO_reply.2.1 7 = .ok (.getfield 82, 3) := by decide +kernel
theorem d_MO_reply_10 : decode mi_MO_reply.2.1 10 = .ok (.if_icmp .le (7), 3) := by decide +kernel
theorem d_MO_reply_13 : decode mi_MO_reply.2.1 13 = .ok (.iconst 0, 1) := by decide +kernel
theorem d_MO_reply_14 : decode mi_MO_reply.2.1 14 = .ok (.goto (22), 3) := by decide +kernel
theorem d_MO_reply_17 : decode mi_MO_reply.2.1 17 = .ok (.iload_n 2, 1) := by decide +kernel
theorem d_MO_reply_18 : decode mi_MO_reply.2.1 18 = .ok (.ifCond .eq (12), 3) := by decide +kernel
theorem d_MO_reply_21 : decode mi_MO_reply.2.1 21 = .ok (.aload_n 0, 1) := by decide +kernel
theorem d_MO_reply_22 : decode mi_MO_reply.2.1 22 = .ok (.getfield 19, 3) := by decide +kernel
theorem d_MO_reply_25 : decode mi_MO_reply.2.1 25 = .ok (.iload_n 1, 1) := by decide +kernel
theorem d_MO_reply_26 : decode mi_MO_reply.2.1 26 = .ok (.iaload, 1) := by decide +kernel
theorem d_MO_reply_27 : decode mi_MO_reply.2.1 27 = .ok (.goto (9), 3) := by decide +kernel
theorem d_MO_reply_30 : decode mi_MO_reply.2.1 30 = .ok (.aload_n 0, 1) := by decide +kernel
theorem d_MO_reply_31 : decode mi_MO_reply.2.1 31 = .ok (.getfield 16, 3) := by decide +kernel
theorem d_MO_reply_34 : decode mi_MO_reply.2.1 34 = .ok (.iload_n 1, 1) := by decide +kernel
theorem d_MO_reply_35 : decode mi_MO_reply.2.1 35 = .ok (.iaload, 1) := by decide +kernel
theorem d_MO_reply_36 : decode mi_MO_reply.2.1 36 = .ok (.ireturn, 1) := by decide +kernel
