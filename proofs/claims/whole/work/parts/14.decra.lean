theorem d_MO_init_0 : decode mi_MO_init.2.1 0 = .ok (.aload_n 0, 1) := by decide +kernel
theorem d_MO_init_1 : decode mi_MO_init.2.1 1 = .ok (.invokespecial 1, 3) := by decide +kernel
theorem d_MO_init_4 : decode mi_MO_init.2.1 4 = .ok (.aload_n 0, 1) := by decide +kernel
theorem d_MO_init_5 : decode mi_MO_init.2.1 5 = .ok (.bipush (31), 2) := by decide +kernel
theorem d_MO_init_7 : decode mi_MO_init.2.1 7 = .ok (.newarray .int, 2) := by decide +kernel
theorem d_MO_init_9 : decode mi_MO_init.2.1 9 = .ok (.putfield 7, 3) := by decide +kernel
theorem d_MO_init_12 : decode mi_MO_init.2.1 12 = .ok (.aload_n 0, 1) := by decide +kernel
theorem d_MO_init_13 : decode mi_MO_init.2.1 13 = .ok (.bipush (31), 2) := by decide +kernel
theorem d_MO_init_15 : decode mi_MO_init.2.1 15 = .ok (.newarray .int, 2) := by decide +kernel
theorem d_MO_init_17 : decode mi_MO_init.2.1 17 = .ok (.putfield 13, 3) := by decide +kernel
theorem d_MO_init_20 : decode mi_MO_init.2.1 20 = .ok (.aload_n 0, 1) := by decide +kernel
theorem d_MO_init_21 : decode mi_MO_init.2.1 21 = .ok (.bipush (31), 2) := by decide +kernel
theorem d_MO_init_23 : decode mi_MO_init.2.1 23 = .ok (.newarray .int, 2) := by decide +kernel
theorem d_MO_init_25 : decode mi_MO_init.2.1 25 = .ok (.putfield 16, 3) := by decide +kernel
theorem d_MO_init_28 : decode mi_MO_init.2.1 28 = .ok (.aload_n 0, 1) := by decide +kernel
theorem d_MO_init_29 : decode mi_MO_init.2.1 29 = .ok (.bipush (31), 2) := by decide +kernel
theorem d_MO_init_31 : decode mi_MO_init.2.1 31 = .ok (.newarray .int, 2) := by decide +kernel
theorem d_MO_init_33 : decode mi_MO_init.2.1 33 = .ok (.putfield 19, 3) := by decide +kernel
theorem d_MO_init_36 : decode mi_MO_init.2.1 36 = .ok (.aload_n 0, 1) := by decide +kernel
theorem d_MO_init_37 : decode mi_MO_init.2.1 37 = .ok (.sipush (720), 3) := by decide +kernel
theorem d_MO_init_40 : decode mi_MO_init.2.1 40 = .ok (.newarray .int, 2) := by decide +kernel
theorem d_MO_init_42 : decode mi_MO_init.2.1 42 = .ok (.putfield 22, 3) := by decide +kernel
theorem d_MO_init_45 : decode mi_MO_init.2.1 45 = .ok (.aload_n 0, 1) := by decide +kernel
theorem d_MO_init_46 : decode mi_MO_init.2.1 46 = .ok (.iconst 5, 1) := by decide +kernel
theorem d_MO_init_47 : decode mi_MO_init.2.1 47 = .ok (.newarray .boolean, 2) := by decide +kernel
theorem d_MO_init_49 : decode mi_MO_init.2.1 49 = .ok (.putfield 25, 3) := by decide +kernel
theorem d_MO_init_52 : decode mi_MO_init.2.1 52 = .ok (.aload_n 0, 1) := by decide +kernel
theorem d_MO_init_53 : decode mi_MO_init.2.1 53 = .ok (.iconst 5, 1) := by decide +kernel
theorem d_MO_init_54 : decode mi_MO_init.2.1 54 = .ok (.newarray .boolean, 2) := by decide +kernel
theorem d_MO_init_56 : decode mi_MO_init.2.1 56 = .ok (.putfield 29, 3) := by decide +kernel
theorem d_MO_init_59 : decode mi_MO_init.2.1 59 = .ok (.aload_n 0, 1) := by decide +kernel
theorem d_MO_init_60 : decode mi_MO_init.2.1 60 = .ok (.iconst 5, 1) := by decide +kernel
theorem d_MO_init_61 : decode mi_MO_init.2.1 61 = .ok (.newarray .int, 2) := by decide +kernel
theorem d_MO_init_63 : decode mi_MO_init.2.1 63 = .ok (.putfield 32, 3) := by decide +kernel
theorem d_MO_init_66 : decode mi_MO_init.2.1 66 = .ok (.aload_n 0, 1) := by decide +kernel
theorem d_MO_init_67 : decode mi_MO_init.2.1 67 = .ok (.iconst 5, 1) := by decide +kernel
theorem d_MO_init_68 : decode mi_MO_init.2.1 68 = .ok (.newarray .int, 2) := by decide +kernel
theorem d_MO_init_70 : decode mi_MO_init.2.1 70 = .ok (.putfield 35, 3) := by decide +kernel
theorem d_MO_init_73 : decode mi_MO_init.2.1 73 = .ok (.aload_n 0, 1) := by decide +kernel
theorem d_MO_init_74 : decode mi_MO_init.2.1 74 = .ok (.iconst 5, 1) := by decide +kernel
theorem d_MO_init_75 : decode mi_MO_init.2.1 75 = .ok (.newarray .int, 2) := by decide +kernel
theorem d_MO_init_77 : decode mi_MO_init.2.1 77 = .ok (.putfield 38, 3) := by decide +kernel
theorem d_MO_init_80 : decode mi_MO_init.2.1 80 = .ok (.aload_n 0, 1) := by decide +kernel
theorem d_MO_init_81 : decode mi_MO_init.2.1 81 = .ok (.iconst 5, 1) := by decide +kernel
theorem d_MO_init_82 : decode mi_MO_init.2.1 82 = .ok (.newarray .int, 2) := by decide +kernel
theorem d_MO_init_84 : decode mi_MO_init.2.1 84 = .ok (.putfield 41, 3) := by decide +kernel
theorem d_MO_init_87 : decode mi_MO_init.2.1 87 = .ok (.aload_n 0, 1) := by decide +kernel
theorem d_MO_init_88 : decode mi_MO_init.2.1 88 = .ok (.bipush (40), 2) := by decide +kernel
theorem d_MO_init_90 : decode mi_MO_init.2.1 90 = .ok (.newarray .int, 2) := by decide +kernel
theorem d_MO_init_92 : decode mi_MO_init.2.1 92 = .ok (.putfield 44, 3) := by decide +kernel
theorem d_MO_init_95 : decode mi_MO_init.2.1 95 = .ok (.aload_n 0, 1) := by decide +kernel
theorem d_MO_init_96 : decode mi_MO_init.2.1 96 = .ok (.bipush (40), 2) := by decide +kernel
theorem d_MO_init_98 : decode mi_MO_init.2.1 98 = .ok (.newarray .int, 2) := by decide +kernel
theorem d_MO_init_100 : decode mi_MO_init.2.1 100 = .ok (.putfield 47, 3) := by decide +kernel
theorem d_MO_init_103 : decode mi_MO_init.2.1 103 = .ok (.aload_n 0, 1) := by decide +kernel
theorem d_MO_init_104 : decode mi_MO_init.2.1 104 = .ok (.bipush (40), 2) := by decide +kernel
theorem d_MO_init_106 : decode mi_MO_init.2.1 106 = .ok (.newarray .int, 2) := by decide +kernel
theorem d_MO_init_108 : decode mi_MO_init.2.1 108 = .ok (.putfield 50, 3) := by decide +kernel
theorem d_MO_init_111 : decode mi_MO_init.2.1 111 = .ok (.aload_n 0, 1) := by decide +kernel
theorem d_MO_init_112 : decode mi_MO_init.2.1 112 = .ok (.bipush (40), 2) := by decide +kernel
theorem d_MO_init_114 : decode mi_MO_init.2.1 114 = .ok (.newarray .int, 2) := by decide +kernel
theorem d_MO_init_116 : decode mi_MO_init.2.1 116 = .ok (.putfield 53, 3) := by decide +kernel
theorem d_MO_init_119 : decode mi_MO_init.2.1 119 = .ok (.aload_n 0, 1) := by decide +kernel
theorem d_MO_init_120 : decode mi_MO_init.2.1 120 = .ok (.bipush (40), 2) := by decide +kernel
theorem d_MO_init_122 : decode mi_MO_init.2.1 122 = .ok (.newarray .int, 2) := by decide +kernel
theorem d_MO_init_124 : decode mi_MO_init.2.1 124 = .ok (.putfield 56, 3) := by decide +kernel
theorem d_MO_init_127 : decode mi_MO_init.2.1 127 = .ok (.aload_n 0, 1) := by decide +kernel
theorem d_MO_init_128 : decode mi_MO_init.2.1 128 = .ok (.sipush (200), 3) := by decide +kernel
theorem d_MO_init_131 : decode mi_MO_init.2.1 131 = .ok (.newarray .int, 2) := by decide +kernel
theorem d_MO_init_133 : decode mi_MO_init.2.1 133 = .ok (.putfield 59, 3) := by decide +kernel
theorem d_MO_init_136 : decode mi_MO_init.2.1 136 = .ok (.aload_n 0, 1) := by decide +kernel
theorem d_MO_init_137 : decode mi_MO_init.2.1 137 = .ok (.iconst 4, 1) := by decide +kernel
theorem d_MO_init_138 : decode mi_MO_init.2.1 138 = .ok (.newarray .int, 2) := by decide +kernel
theorem d_MO_init_140 : decode mi_MO_init.2.1 140 = .ok (.putfield 62, 3) := by decide +kernel
theorem d_MO_init_143 : decode mi_MO_init.2.1 143 = .ok (.aload_n 0, 1) := by decide +kernel
theorem d_MO_init_144 : decode mi_MO_init.2.1 144 = .ok (.bipush (31), 2) := by decide +kernel
theorem d_MO_init_146 : decode mi_MO_init.2.1 146 = .ok (.newarray .boolean, 2) := by decide +kernel
theorem d_MO_init_148 : decode mi_MO_init.2.1 148 = .ok (.putfield 65, 3) := by decide +kernel
theorem d_MO_init_151 : decode mi_MO_init.2.1 151 = .ok (.aload_n 0, 1) := by decide +kernel
theorem d_MO_init_152 : decode mi_MO_init.2.1 152 = .ok (.bipush (31), 2) := by decide +kernel
theorem d_MO_init_154 : decode mi_MO_init.2.1 154 = .ok (.newarray .int, 2) := by decide +kernel
theorem d_MO_init_156 : decode mi_MO_init.2.1 156 = .ok (.putfield 68, 3) := by decide +kernel
theorem d_MO_init_159 : decode mi_MO_init.2.1 159 = .ok (.aload_n 0, 1) := by decide +kernel
theorem d_MO_init_160 : decode mi_MO_init.2.1 160 = .ok (.iload_n 1, 1) := by decide +kernel
theorem d_MO_init_161 : decode mi_MO_init.2.1 161 = .ok (.iconst 5, 1) := by decide +kernel
theorem d_MO_init_162 : decode mi_MO_init.2.1 162 = .ok (.if_icmp .ne (7), 3) := by decide +kernel
theorem d_MO_init_165 : decode mi_MO_init.2.1 165 = .ok (.iconst 5, 1) := by decide +kernel
theorem d_MO_init_166 : decode mi_MO_init.2.1 166 = .ok (.goto (4), 3) := by decide +kernel
theorem d_MO_init_169 : decode mi_MO_init.2.1 169 = .ok (.iconst 3, 1) := by decide +kernel
theorem d_MO_init_170 : decode mi_MO_init.2.1 170 = .ok (.putfield 71, 3) := by decide +kernel
theorem d_MO_init_173 : decode mi_MO_init.2.1 173 = .ok (.iconst 0, 1) := by decide +kernel
theorem d_MO_init_174 : decode mi_MO_init.2.1 174 = .ok (.istore_n 2, 1) := by decide +kernel
theorem d_MO_init_175 : decode mi_MO_init.2.1 175 = .ok (.iload_n 2, 1) := by decide +kernel
theorem d_MO_init_176 : decode mi_MO_init.2.1 176 = .ok (.iconst 5, 1) := by decide +kernel
theorem d_MO_init_177 : decode mi_MO_init.2.1 177 = .ok (.if_icmp .ge (82), 3) := by decide +kernel
theorem d_MO_init_180 : decode mi_MO_init.2.1 180 = .ok (.aload_n 0, 1) := by decide +kernel
theorem d_MO_init_181 : decode mi_MO_init.2.1 181 = .ok (.getfield 25, 3) := by decide +kernel
theorem d_MO_init_184 : decode mi_MO_init.2.1 184 = .ok (.iload_n 2, 1) := by decide +kernel
theorem d_MO_init_185 : decode mi_MO_init.2.1 185 = .ok (.iload_n 2, 1) := by decide +kernel
theorem d_MO_init_186 : decode mi_MO_init.2.1 186 = .ok (.aload_n 0, 1) := by decide +kernel
theorem d_MO_init_187 : decode mi_MO_init.2.1 187 = .ok (.getfield 71, 3) := by decide +kernel
theorem d_MO_init_190 : decode mi_MO_init.2.1 190 = .ok (.if_icmp .ge (7), 3) := by decide +kernel
theorem d_MO_init_193 : decode mi_MO_init.2.1 193 = .ok (.iconst 1, 1) := by decide +kernel
theorem d_MO_init_194 : decode mi_MO_init.2.1 194 = .ok (.goto (4), 3) := by decide +kernel
theorem d_MO_init_197 : decode mi_MO_init.2.1 197 = .ok (.iconst 0, 1) := by decide +kernel
theorem d_MO_init_198 : decode mi_MO_init.2.1 198 = .ok (.bastore, 1) := by decide +kernel
theorem d_MO_init_199 : decode mi_MO_init.2.1 199 = .ok (.aload_n 0, 1) := by decide +kernel
theorem d_MO_init_200 : decode mi_MO_init.2.1 200 = .ok (.getfield 32, 3) := by decide +kernel
theorem d_MO_init_203 : decode mi_MO_init.2.1 203 = .ok (.iload_n 2, 1) := by decide +kernel
theorem d_MO_init_204 : decode mi_MO_init.2.1 204 = .ok (.iconst (-1), 1) := by decide +kernel
theorem d_MO_init_205 : decode mi_MO_init.2.1 205 = .ok (.iastore, 1) := by decide +kernel
theorem d_MO_init_206 : decode mi_MO_init.2.1 206 = .ok (.aload_n 0, 1) := by decide +kernel
theorem d_MO_init_207 : decode mi_MO_init.2.1 207 = .ok (.iload_n 2, 1) := by decide +kernel
theorem d_MO_init_208 : decode mi_MO_init.2.1 208 = .ok (.invokevirtual 75, 3) := by decide +kernel
theorem d_MO_init_211 : decode mi_MO_init.2.1 211 = .ok (.iconst 0, 1) := by decide +kernel
theorem d_MO_init_212 : decode mi_MO_init.2.1 212 = .ok (.istore_n 3, 1) := by decide +kernel
theorem d_MO_init_213 : decode mi_MO_init.2.1 213 = .ok (.iload_n 3, 1) := by decide +kernel
theorem d_MO_init_214 : decode mi_MO_init.2.1 214 = .ok (.sipush (144), 3) := by decide +kernel
theorem d_MO_init_217 : decode mi_MO_init.2.1 217 = .ok (.if_icmp .ge (36), 3) := by decide +kernel
theorem d_MO_init_220 : decode mi_MO_init.2.1 220 = .ok (.aload_n 0, 1) := by decide +kernel
theorem d_MO_init_221 : decode mi_MO_init.2.1 221 = .ok (.getfield 22, 3) := by decide +kernel
theorem d_MO_init_224 : decode mi_MO_init.2.1 224 = .ok (.sipush (144), 3) := by decide +kernel
theorem d_MO_init_227 : decode mi_MO_init.2.1 227 = .ok (.iload_n 2, 1) := by decide +kernel
theorem d_MO_init_228 : decode mi_MO_init.2.1 228 = .ok (.imul, 1) := by decide +kernel
theorem d_MO_init_229 : decode mi_MO_init.2.1 229 = .ok (.iload_n 3, 1) := by decide +kernel
theorem d_MO_init_230 : decode mi_MO_init.2.1 230 = .ok (.iadd, 1) := by decide +kernel
theorem d_MO_init_231 : decode mi_MO_init.2.1 231 = .ok (.iload_n 3, 1) := by decide +kernel
theorem d_MO_init_232 : decode mi_MO_init.2.1 232 = .ok (.bipush (8), 2) := by decide +kernel
theorem d_MO_init_234 : decode mi_MO_init.2.1 234 = .ok (.irem, 1) := by decide +kernel
theorem d_MO_init_235 : decode mi_MO_init.2.1 235 = .ok (.iconst 4, 1) := by decide +kernel
theorem d_MO_init_236 : decode mi_MO_init.2.1 236 = .ok (.if_icmp .ge (7), 3) := by decide +kernel
theorem d_MO_init_239 : decode mi_MO_init.2.1 239 = .ok (.iconst 0, 1) := by decide +kernel
theorem d_MO_init_240 : decode mi_MO_init.2.1 240 = .ok (.goto (6), 3) := by decide +kernel
theorem d_MO_init_243 : decode mi_MO_init.2.1 243 = .ok (.sipush (255), 3) := by decide +kernel
theorem d_MO_init_246 : decode mi_MO_init.2.1 246 = .ok (.iastore, 1) := by decide +kernel
theorem d_MO_init_247 : decode mi_MO_init.2.1 247 = .ok (.iinc 3 (1), 3) := by decide +kernel
theorem d_MO_init_250 : decode mi_MO_init.2.1 250 = .ok (.goto (-37), 3) := by decide +kernel
theorem d_MO_init_253 : decode mi_MO_init.2.1 253 = .ok (.iinc 2 (1), 3) := by decide +kernel
theorem d_MO_init_256 : decode mi_MO_init.2.1 256 = .ok (.goto (-81), 3) := by decide +kernel
theorem d_MO_init_259 : decode mi_MO_init.2.1 259 = .ok (.return_, 1) := by decide +kernel
theorem d_MO_isNode_0 : decode mi_MO_isNode.2.1 0 = .ok (.iload_n 1, 1) := by decide +kernel
theorem d_MO_isNode_1 : decode mi_MO_isNode.2.1 1 = .ok (.ifCond .lt (15), 3) := by decide +kernel
theorem d_MO_isNode_4 : decode mi_MO_isNode.2.1 4 = .ok (.iload_n 1, 1) := by decide +kernel
theorem d_MO_isNode_5 : decode mi_MO_isNode.2.1 5 = .ok (.aload_n 0, 1) := by decide +kernel
theorem d_MO_isNode_6 : decode mi_MO_isNode.2.1 6 = .ok (.getfield 71, 3) := by decide +kernel
theorem d_MO_isNode_9 : decode mi_MO_isNode.2.1 9 = .ok (.if_icmp .ge (7), 3) := by decide +kernel
theorem d_MO_isNode_12 : decode mi_MO_isNode.2.1 12 = .ok (.iconst 1, 1) := by decide +kernel
theorem d_MO_isNode_13 : decode mi_MO_isNode.2.1 13 = .ok (.goto (4), 3) := by decide +kernel
theorem d_MO_isNode_16 : decode mi_MO_isNode.2.1 16 = .ok (.iconst 0, 1) := by decide +kernel
theorem d_MO_isNode_17 : decode mi_MO_isNode.2.1 17 = .ok (.ireturn, 1) := by decide +kernel
theorem d_MO_isWorking_0 : decode mi_MO_isWorking.2.1 0 = .ok (.aload_n 0, 1) := by decide +kernel
theorem d_MO_isWorking_1 : decode mi_MO_isWorking.2.1 1 = .ok (.getfield 25, 3) := by decide +kernel
theorem d_MO_isWorking_4 : decode mi_MO_isWorking.2.1 4 = .ok (.iload_n 1, 1) := by decide +kernel
theorem d_MO_isWorking_5 : decode mi_MO_isWorking.2.1 5 = .ok (.baload, 1) := by decide +kernel
theorem d_MO_isWorking_6 : decode mi_MO_isWorking.2.1 6 = .ok (.ifCond .eq (16), 3) := by decide +kernel
theorem d_MO_isWorking_9 : decode mi_MO_isWorking.2.1 9 = .ok (.aload_n 0, 1) := by decide +kernel
theorem d_MO_isWorking_10 : decode mi_MO_isWorking.2.1 10 = .ok (.getfield 29, 3) := by decide +kernel
theorem d_MO_isWorking_13 : decode mi_MO_isWorking.2.1 13 = .ok (.iload_n 1, 1) := by decide +kernel
theorem d_MO_isWorking_14 : decode mi_MO_isWorking.2.1 14 = .ok (.baload, 1) := by decide +kernel
theorem d_MO_isWorking_15 : decode mi_MO_isWorking.2.1 15 = .ok (.ifCond .ne (7), 3) := by decide +kernel
theorem d_MO_isWorking_18 : decode mi_MO_isWorking.2.1 18 = .ok (.iconst 1, 1) := by decide +kernel
theorem d_MO_isWorking_19 : decode mi_MO_isWorking.2.1 19 = .ok (.goto (4), 3) := by decide +kernel
theorem d_MO_isWorking_22 : decode mi_MO_isWorking.2.1 22 = .ok (.iconst 0, 1) := by decide +kernel
theorem d_MO_isWorking_23 : decode mi_MO_isWorking.2.1 23 = .ok (.ireturn, 1) := by decide +kernel
theorem d_MO_isSlot_0 : decode mi_MO_isSlot.2.1 0 = .ok (.iload_n 0, 1) := by decide +kernel
theorem d_MO_isSlot_1 : decode mi_MO_isSlot.2.1 1 = .ok (.iconst 1, 1) := by decide +kernel
theorem d_MO_isSlot_2 : decode mi_MO_isSlot.2.1 2 = .ok (.if_icmp .lt (13), 3) := by decide +kernel
theorem d_MO_isSlot_5 : decode mi_MO_isSlot.2.1 5 = .ok (.iload_n 0, 1) := by decide +kernel
theorem d_MO_isSlot_6 : decode mi_MO_isSlot.2.1 6 = .ok (.bipush (8), 2) := by decide +kernel
theorem d_MO_isSlot_8 : decode mi_MO_isSlot.2.1 8 = .ok (.if_icmp .gt (7), 3) := by decide +kernel
theorem d_MO_isSlot_11 : decode mi_MO_isSlot.2.1 11 = .ok (.iconst 1, 1) := by decide +kernel
theorem d_MO_isSlot_12 : decode mi_MO_isSlot.2.1 12 = .ok (.goto (4), 3) := by decide +kernel
theorem d_MO_isSlot_15 : decode mi_MO_isSlot.2.1 15 = .ok (.iconst 0, 1) := by decide +kernel
theorem d_MO_isSlot_16 : decode mi_MO_isSlot.2.1 16 = .ok (.ireturn, 1) := by decide +kernel
theorem d_MO_isMany_0 : decode mi_MO_isMany.2.1 0 = .ok (.iconst 0, 1) := by decide +kernel
theorem d_MO_isMany_1 : decode mi_MO_isMany.2.1 1 = .ok (.istore_n 2, 1) := by decide +kernel
theorem d_MO_isMany_2 : decode mi_MO_isMany.2.1 2 = .ok (.iconst 0, 1) := by decide +kernel
theorem d_MO_isMany_3 : decode mi_MO_isMany.2.1 3 = .ok (.istore_n 3, 1) := by decide +kernel
theorem d_MO_isMany_4 : decode mi_MO_isMany.2.1 4 = .ok (.iload_n 3, 1) := by decide +kernel
theorem d_MO_isMany_5 : decode mi_MO_isMany.2.1 5 = .ok (.iconst 5, 1) := by decide +kernel
theorem d_MO_isMany_6 : decode mi_MO_isMany.2.1 6 = .ok (.if_icmp .ge (17), 3) := by decide +kernel
theorem d_MO_isMany_9 : decode mi_MO_isMany.2.1 9 = .ok (.iload_n 2, 1) := by decide +kernel
theorem d_MO_isMany_10 : decode mi_MO_isMany.2.1 10 = .ok (.iload_n 1, 1) := by decide +kernel
theorem d_MO_isMany_11 : decode mi_MO_isMany.2.1 11 = .ok (.iload_n 3, 1) := by decide +kernel
theorem d_MO_isMany_12 : decode mi_MO_isMany.2.1 12 = .ok (.ishr, 1) := by decide +kernel
theorem d_MO_isMany_13 : decode mi_MO_isMany.2.1 13 = .ok (.iconst 1, 1) := by decide +kernel
theorem d_MO_isMany_14 : decode mi_MO_isMany.2.1 14 = .ok (.iand, 1) := by decide +kernel
theorem d_MO_isMany_15 : decode mi_MO_isMany.2.1 15 = .ok (.iadd, 1) := by decide +kernel
theorem d_MO_isMany_16 : decode mi_MO_isMany.2.1 16 = .ok (.istore_n 2, 1) := by decide +kernel
theorem d_MO_isMany_17 : decode mi_MO_isMany.2.1 17 = .ok (.iinc 3 (1), 3) := by decide +kernel
theorem d_MO_isMany_20 : decode mi_MO_isMany.2.1 20 = .ok (.goto (-16), 3) := by decide +kernel
theorem d_MO_isMany_23 : decode mi_MO_isMany.2.1 23 = .ok (.iconst 2, 1) := by decide +kernel
theorem d_MO_isMany_24 : decode mi_MO_isMany.2.1 24 = .ok (.iload_n 2, 1) := by decide +kernel
theorem d_MO_isMany_25 : decode mi_MO_isMany.2.1 25 = .ok (.imul, 1) := by decide +kernel
theorem d_MO_isMany_26 : decode mi_MO_isMany.2.1 26 = .ok (.aload_n 0, 1) := by decide +kernel
theorem d_MO_isMany_27 : decode mi_MO_isMany.2.1 27 = .ok (.getfield 71, 3) := by decide +kernel
theorem d_MO_isMany_30 : decode mi_MO_isMany.2.1 30 = .ok (.if_icmp .le (7), 3) := by decide +kernel
theorem d_MO_isMany_33 : decode mi_MO_isMany.2.1 33 = .ok (.iconst 1, 1) := by decide +kernel
theorem d_MO_isMany_34 : decode mi_MO_isMany.2.1 34 = .ok (.goto (4), 3) := by decide +kernel
theorem d_MO_isMany_37 : decode mi_MO_isMany.2.1 37 = .ok (.iconst 0, 1) := by decide +kernel
theorem d_MO_isMany_38 : decode mi_MO_isMany.2.1 38 = .ok (.ireturn, 1) := by decide +kernel
theorem d_MO_forget_0 : decode mi_MO_forget.2.1 0 = .ok (.aload_n 0, 1) := by decide +kernel
theorem d_MO_forget_1 : decode mi_MO_forget.2.1 1 = .ok (.getfield 38, 3) := by decide +kernel
theorem d_MO_forget_4 : decode mi_MO_forget.2.1 4 = .ok (.iload_n 1, 1) := by decide +kernel
theorem d_MO_forget_5 : decode mi_MO_forget.2.1 5 = .ok (.iconst 0, 1) := by decide +kernel
theorem d_MO_forget_6 : decode mi_MO_forget.2.1 6 = .ok (.iastore, 1) := by decide +kernel
theorem d_MO_forget_7 : decode mi_MO_forget.2.1 7 = .ok (.aload_n 0, 1) := by decide +kernel
theorem d_MO_forget_8 : decode mi_MO_forget.2.1 8 = .ok (.getfield 35, 3) := by decide +kernel
theorem d_MO_forget_11 : decode mi_MO_forget.2.1 11 = .ok (.iload_n 1, 1) := by decide +kernel
theorem d_MO_forget_12 : decode mi_MO_forget.2.1 12 = .ok (.iconst 0, 1) := by decide +kernel
theorem d_MO_forget_13 : decode mi_MO_forget.2.1 13 = .ok (.iastore, 1) := by decide +kernel
theorem d_MO_forget_14 : decode mi_MO_forget.2.1 14 = .ok (.aload_n 0, 1) := by decide +kernel
theorem d_MO_forget_15 : decode mi_MO_forget.2.1 15 = .ok (.getfield 41, 3) := by decide +kernel
theorem d_MO_forget_18 : decode mi_MO_forget.2.1 18 = .ok (.iload_n 1, 1) := by decide +kernel
theorem d_MO_forget_19 : decode mi_MO_forget.2.1 19 = .ok (.iconst 0, 1) := by decide +kernel
theorem d_MO_forget_20 : decode mi_MO_forget.2.1 20 = .ok (.iastore, 1) := by decide +kernel
theorem d_MO_forget_21 : decode mi_MO_forget.2.1 21 = .ok (.aload_n 0, 1) := by decide +kernel
theorem d_MO_forget_22 : decode mi_MO_forget.2.1 22 = .ok (.getfield 29, 3) := by decide +kernel
theorem d_MO_forget_25 : decode mi_MO_forget.2.1 25 = .ok (.iload_n 1, 1) := by decide +kernel
theorem d_MO_forget_26 : decode mi_MO_forget.2.1 26 = .ok (.iconst 0, 1) := by decide +kernel
theorem d_MO_forget_27 : decode mi_MO_forget.2.1 27 = .ok (.bastore, 1) := by decide +kernel
theorem d_MO_forget_28 : decode mi_MO_forget.2.1 28 = .ok (.bipush (8), 2) := by decide +kernel
theorem d_MO_forget_30 : decode mi_MO_forget.2.1 30 = .ok (.iload_n 1, 1) := by decide +kernel
theorem d_MO_forget_31 : decode mi_MO_forget.2.1 31 = .ok (.imul, 1) := by decide +kernel
theorem d_MO_forget_32 : decode mi_MO_forget.2.1 32 = .ok (.istore_n 2, 1) := by decide +kernel
theorem d_MO_forget_33 : decode mi_MO_forget.2.1 33 = .ok (.iload_n 2, 1) := by decide +kernel
theorem d_MO_forget_34 : decode mi_MO_forget.2.1 34 = .ok (.bipush (8), 2) := by decide +kernel
theorem d_MO_forget_36 : decode mi_MO_forget.2.1 36 = .ok (.iload_n 1, 1) := by decide +kernel
theorem d_MO_forget_37 : decode mi_MO_forget.2.1 37 = .ok (.imul, 1) := by decide +kernel
theorem d_MO_forget_38 : decode mi_MO_forget.2.1 38 = .ok (.bipush (8), 2) := by decide +kernel
theorem d_MO_forget_40 : decode mi_MO_forget.2.1 40 = .ok (.iadd, 1) := by decide +kernel
theorem d_MO_forget_41 : decode mi_MO_forget.2.1 41 = .ok (.if_icmp .ge (23), 3) := by decide +kernel
theorem d_MO_forget_44 : decode mi_MO_forget.2.1 44 = .ok (.aload_n 0, 1) := by decide +kernel
theorem d_MO_forget_45 : decode mi_MO_forget.2.1 45 = .ok (.getfield 44, 3) := by decide +kernel
theorem d_MO_forget_48 : decode mi_MO_forget.2.1 48 = .ok (.iload_n 2, 1) := by decide +kernel
theorem d_MO_forget_49 : decode mi_MO_forget.2.1 49 = .ok (.iconst 0, 1) := by decide +kernel
theorem d_MO_forget_50 : decode mi_MO_forget.2.1 50 = .ok (.iastore, 1) := by decide +kernel
theorem d_MO_forget_51 : decode mi_MO_forget.2.1 51 = .ok (.aload_n 0, 1) := by decide +kernel
theorem d_MO_forget_52 : decode mi_MO_forget.2.1 52 = .ok (.getfield 53, 3) := by decide +kernel
theorem d_MO_forget_55 : decode mi_MO_forget.2.1 55 = .ok (.iload_n 2, 1) := by decide +kernel
theorem d_MO_forget_56 : decode mi_MO_forget.2.1 56 = .ok (.iconst (-1), 1) := by decide +kernel
theorem d_MO_forget_57 : decode mi_MO_forget.2.1 57 = .ok (.iastore, 1) := by decide +kernel
theorem d_MO_forget_58 : decode mi_MO_forget.2.1 58 = .ok (.iinc 2 (1), 3) := by decide +kernel
theorem d_MO_forget_61 : decode mi_MO_forget.2.1 61 = .ok (.goto (-28), 3) := by decide +kernel
theorem d_MO_forget_64 : decode mi_MO_forget.2.1 64 = .ok (.aload_n 0, 1) := by decide +kernel
theorem d_MO_forget_65 : decode mi_MO_forget.2.1 65 = .ok (.iload_n 1, 1) := by decide +kernel
theorem d_MO_forget_66 : decode mi_MO_forget.2.1 66 = .ok (.invokevirtual 79, 3) := by decide +kernel
theorem d_MO_forget_69 : decode mi_MO_forget.2.1 69 = .ok (.return_, 1) := by decide +kernel
theorem d_MO_begin_0 : decode mi_MO_begin.2.1 0 = .ok (.aload_n 0, 1) := by decide +kernel
theorem d_MO_begin_1 : decode mi_MO_begin.2.1 1 = .ok (.getfield 41, 3) := by decide +kernel
theorem d_MO_begin_4 : decode mi_MO_begin.2.1 4 = .ok (.iload_n 1, 1) := by decide +kernel
theorem d_MO_begin_5 : decode mi_MO_begin.2.1 5 = .ok (.iconst 0, 1) := by decide +kernel
theorem d_MO_begin_6 : decode mi_MO_begin.2.1 6 = .ok (.iastore, 1) := by decide +kernel
theorem d_MO_begin_7 : decode mi_MO_begin.2.1 7 = .ok (.bipush (8), 2) := by decide +kernel
theorem d_MO_begin_9 : decode mi_MO_begin.2.1 9 = .ok (.iload_n 1, 1) := by decide +kernel
theorem d_MO_begin_10 : decode mi_MO_begin.2.1 10 = .ok (.imul, 1) := by decide +kernel
theorem d_MO_begin_11 : decode mi_MO_begin.2.1 11 = .ok (.istore_n 2, 1) := by decide +kernel
theorem d_MO_begin_12 : decode mi_MO_begin.2.1 12 = .ok (.iload_n 2, 1) := by decide +kernel
theorem d_MO_begin_13 : decode mi_MO_begin.2.1 13 = .ok (.bipush (8), 2) := by decide +kernel
theorem d_MO_begin_15 : decode mi_MO_begin.2.1 15 = .ok (.iload_n 1, 1) := by decide +kernel
theorem d_MO_begin_16 : decode mi_MO_begin.2.1 16 = .ok (.imul, 1) := by decide +kernel
theorem d_MO_begin_17 : decode mi_MO_begin.2.1 17 = .ok (.bipush (8), 2) := by decide +kernel
theorem d_MO_begin_19 : decode mi_MO_begin.2.1 19 = .ok (.iadd, 1) := by decide +kernel
theorem d_MO_begin_20 : decode mi_MO_begin.2.1 20 = .ok (.if_icmp .ge (30), 3) := by decide +kernel
theorem d_MO_begin_23 : decode mi_MO_begin.2.1 23 = .ok (.aload_n 0, 1) := by decide +kernel
theorem d_MO_begin_24 : decode mi_MO_begin.2.1 24 = .ok (.getfield 47, 3) := by decide +kernel
theorem d_MO_begin_27 : decode mi_MO_begin.2.1 27 = .ok (.iload_n 2, 1) := by decide +kernel
theorem d_MO_begin_28 : decode mi_MO_begin.2.1 28 = .ok (.iconst 0, 1) := by decide +kernel
theorem d_MO_begin_29 : decode mi_MO_begin.2.1 29 = .ok (.iastore, 1) := by decide +kernel
theorem d_MO_begin_30 : decode mi_MO_begin.2.1 30 = .ok (.aload_n 0, 1) := by decide +kernel
theorem d_MO_begin_31 : decode mi_MO_begin.2.1 31 = .ok (.getfield 50, 3) := by decide +kernel
theorem d_MO_begin_34 : decode mi_MO_begin.2.1 34 = .ok (.iload_n 2, 1) := by decide +kernel
theorem d_MO_begin_35 : decode mi_MO_begin.2.1 35 = .ok (.iconst (-1), 1) := by decide +kernel
theorem d_MO_begin_36 : decode mi_MO_begin.2.1 36 = .ok (.iastore, 1) := by decide +kernel
theorem d_MO_begin_37 : decode mi_MO_begin.2.1 37 = .ok (.aload_n 0, 1) := by decide +kernel
theorem d_MO_begin_38 : decode mi_MO_begin.2.1 38 = .ok (.getfield 56, 3) := by decide +kernel
theorem d_MO_begin_41 : decode mi_MO_begin.2.1 41 = .ok (.iload_n 2, 1) := by decide +kernel
theorem d_MO_begin_42 : decode mi_MO_begin.2.1 42 = .ok (.iconst 0, 1) := by decide +kernel
theorem d_MO_begin_43 : decode mi_MO_begin.2.1 43 = .ok (.iastore, 1) := by decide +kernel
theorem d_MO_begin_44 : decode mi_MO_begin.2.1 44 = .ok (.iinc 2 (1), 3) := by decide +kernel
theorem d_MO_begin_47 : decode mi_MO_begin.2.1 47 = .ok (.goto (-35), 3) := by decide +kernel
theorem d_MO_begin_50 : decode mi_MO_begin.2.1 50 = .ok (.return_, 1) := by decide +kernel
theorem d_MO_ask_0 : decode mi_MO_ask.2.1 0 = .ok (.iload_n 1, 1) := by decide +kernel
theorem d_MO_ask_1 : decode mi_MO_ask.2.1 1 = .ok (.ifCond .lt (17), 3) := by decide +kernel
theorem d_MO_ask_4 : decode mi_MO_ask.2.1 4 = .ok (.iload_n 1, 1) := by decide +kernel
theorem d_MO_ask_5 : decode mi_MO_ask.2.1 5 = .ok (.iconst 3, 1) := by decide +kernel
theorem d_MO_ask_6 : decode mi_MO_ask.2.1 6 = .ok (.if_icmp .gt (12), 3) := by decide +kernel
theorem d_MO_ask_9 : decode mi_MO_ask.2.1 9 = .ok (.aload_n 0, 1) := by decide +kernel
theorem d_MO_ask_10 : decode mi_MO_ask.2.1 10 = .ok (.getfield 82, 3) := by decide +kernel
theorem d_MO_ask_13 : decode mi_MO_ask.2.1 13 = .ok (.bipush (30), 2) := by decide +kernel
theorem d_MO_ask_15 : decode mi_MO_ask.2.1 15 = .ok (.if_icmp .ne (5), 3) := by decide +kernel
theorem d_MO_ask_18 : decode mi_MO_ask.2.1 18 = .ok (.iconst (-1), 1) := by decide +kernel
theorem d_MO_ask_19 : decode mi_MO_ask.2.1 19 = .ok (.ireturn, 1) := by decide +kernel
theorem d_MO_ask_20 : decode mi_MO_ask.2.1 20 = .ok (.aload_n 0, 1) := by decide +kernel
theorem d_MO_ask_21 : decode mi_MO_ask.2.1 21 = .ok (.dup, 1) := by decide +kernel
theorem d_MO_ask_22 : decode mi_MO_ask.2.1 22 = .ok (.getfield 82, 3) := by decide +kernel
theorem d_MO_ask_25 : decode mi_MO_ask.2.1 25 = .ok (.iconst 1, 1) := by decide +kernel
theorem d_MO_ask_26 : decode mi_MO_ask.2.1 26 = .ok (.iadd, 1) := by decide +kernel
theorem d_MO_ask_27 : decode mi_MO_ask.2.1 27 = .ok (.putfield 82, 3) := by decide +kernel
theorem d_MO_ask_30 : decode mi_MO_ask.2.1 30 = .ok (.aload_n 0, 1) := by decide +kernel
theorem d_MO_ask_31 : decode mi_MO_ask.2.1 31 = .ok (.getfield 7, 3) := by decide +kernel
theorem d_MO_ask_34 : decode mi_MO_ask.2.1 34 = .ok (.aload_n 0, 1) := by decide +kernel
theorem d_MO_ask_35 : decode mi_MO_ask.2.1 35 = .ok (.getfield 82, 3) := by decide +kernel
theorem d_MO_ask_38 : decode mi_MO_ask.2.1 38 = .ok (.iload_n 1, 1) := by decide +kernel
theorem d_MO_ask_39 : decode mi_MO_ask.2.1 39 = .ok (.iastore, 1) := by decide +kernel
theorem d_MO_ask_40 : decode mi_MO_ask.2.1 40 = .ok (.aload_n 0, 1) := by decide +kernel
theorem d_MO_ask_41 : decode mi_MO_ask.2.1 41 = .ok (.getfield 13, 3) := by decide +kernel
theorem d_MO_ask_44 : decode mi_MO_ask.2.1 44 = .ok (.aload_n 0, 1) := by decide +kernel
theorem d_MO_ask_45 : decode mi_MO_ask.2.1 45 = .ok (.getfield 82, 3) := by decide +kernel
theorem d_MO_ask_48 : decode mi_MO_ask.2.1 48 = .ok (.iload_n 2, 1) := by decide +kernel
theorem d_MO_ask_49 : decode mi_MO_ask.2.1 49 = .ok (.iastore, 1) := by decide +kernel
theorem d_MO_ask_50 : decode mi_MO_ask.2.1 50 = .ok (.aload_n 0, 1) := by decide +kernel
theorem d_MO_ask_51 : decode mi_MO_ask.2.1 51 = .ok (.getfield 82, 3) := by decide +kernel
theorem d_MO_ask_54 : decode mi_MO_ask.2.1 54 = .ok (.ireturn, 1) := by decide +kernel
theorem d_MO_isWrong_0 : decode mi_MO_isWrong.2.1 0 = .ok (.sipush (144), 3) := by decide +kernel
theorem d_MO_isWrong_3 : decode mi_MO_isWrong.2.1 3 = .ok (.iload_n 1, 1) := by decide +kernel
theorem d_MO_isWrong_4 : decode mi_MO_isWrong.2.1 4 = .ok (.imul, 1) := by decide +kernel
theorem d_MO_isWrong_5 : decode mi_MO_isWrong.2.1 5 = .ok (.bipush (8), 2) := by decide +kernel
theorem d_MO_isWrong_7 : decode mi_MO_isWrong.2.1 7 = .ok (.iload_n 2, 1) := by decide +kernel
theorem d_MO_isWrong_8 : decode mi_MO_isWrong.2.1 8 = .ok (.imul, 1) := by decide +kernel
theorem d_MO_isWrong_9 : decode mi_MO_isWrong.2.1 9 = .ok (.iadd, 1) := by decide +kernel
theorem d_MO_isWrong_10 : decode mi_MO_isWrong.2.1 10 = .ok (.istore_n 3, 1) := by decide +kernel
theorem d_MO_isWrong_11 : decode mi_MO_isWrong.2.1 11 = .ok (.iconst 0, 1) := by decide +kernel
theorem d_MO_isWrong_12 : decode mi_MO_isWrong.2.1 12 = .ok (.istore 4, 2) := by decide +kernel
theorem d_MO_isWrong_14 : decode mi_MO_isWrong.2.1 14 = .ok (.iload_n 3, 1) := by decide +kernel
theorem d_MO_isWrong_15 : decode mi_MO_isWrong.2.1 15 = .ok (.istore 5, 2) := by decide +kernel
theorem d_MO_isWrong_17 : decode mi_MO_isWrong.2.1 17 = .ok (.iload 5, 2) := by decide +kernel
theorem d_MO_isWrong_19 : decode mi_MO_isWrong.2.1 19 = .ok (.iload_n 3, 1) := by decide +kernel
theorem d_MO_isWrong_20 : decode mi_MO_isWrong.2.1 20 = .ok (.iconst 4, 1) := by decide +kernel
theorem d_MO_isWrong_21 : decode mi_MO_isWrong.2.1 21 = .ok (.iadd, 1) := by decide +kernel
theorem d_MO_isWrong_22 : decode mi_MO_isWrong.2.1 22 = .ok (.if_icmp .ge (44), 3) := by decide +kernel
theorem d_MO_isWrong_25 : decode mi_MO_isWrong.2.1 25 = .ok (.iload 4, 2) := by decide +kernel
theorem d_MO_isWrong_27 : decode mi_MO_isWrong.2.1 27 = .ok (.ifCond .ne (26), 3) := by decide +kernel
theorem d_MO_isWrong_30 : decode mi_MO_isWrong.2.1 30 = .ok (.aload_n 0, 1) := by decide +kernel
theorem d_MO_isWrong_31 : decode mi_MO_isWrong.2.1 31 = .ok (.getfield 22, 3) := by decide +kernel
theorem d_MO_isWrong_34 : decode mi_MO_isWrong.2.1 34 = .ok (.iload 5, 2) := by decide +kernel
theorem d_MO_isWrong_36 : decode mi_MO_isWrong.2.1 36 = .ok (.iaload, 1) := by decide +kernel
theorem d_MO_isWrong_37 : decode mi_MO_isWrong.2.1 37 = .ok (.aload_n 0, 1) := by decide +kernel
theorem d_MO_isWrong_38 : decode mi_MO_isWrong.2.1 38 = .ok (.getfield 22, 3) := by decide +kernel
theorem d_MO_isWrong_41 : decode mi_MO_isWrong.2.1 41 = .ok (.iload 5, 2) := by decide +kernel
theorem d_MO_isWrong_43 : decode mi_MO_isWrong.2.1 43 = .ok (.iconst 4, 1) := by decide +kernel
theorem d_MO_isWrong_44 : decode mi_MO_isWrong.2.1 44 = .ok (.iadd, 1) := by decide +kernel
theorem d_MO_isWrong_45 : decode mi_MO_isWrong.2.1 45 = .ok (.iaload, 1) := by decide +kernel
theorem d_MO_isWrong_46 : decode mi_MO_isWrong.2.1 46 = .ok (.ixor, 1) := by decide +kernel
theorem d_MO_isWrong_47 : decode mi_MO_isWrong.2.1 47 = .ok (.sipush (255), 3) := by decide +kernel
theorem d_MO_isWrong_50 : decode mi_MO_isWrong.2.1 50 = .ok (.if_icmp .eq (7), 3) := by decide +kernel
theorem d_MO_isWrong_53 : decode mi_MO_isWrong.2.1 53 = .ok (.iconst 1, 1) := by decide +kernel
theorem d_MO_isWrong_54 : decode mi_MO_isWrong.2.1 54 = .ok (.goto (4), 3) := by decide +kernel
theorem d_MO_isWrong_57 : decode mi_MO_isWrong.2.1 57 = .ok (.iconst 0, 1) := by decide +kernel
theorem d_MO_isWrong_58 : decode mi_MO_isWrong.2.1 58 = .ok (.istore 4, 2) := by decide +kernel
theorem d_MO_isWrong_60 : decode mi_MO_isWrong.2.1 60 = .ok (.iinc 5 (1), 3) := by decide +kernel
theorem d_MO_isWrong_63 : decode mi_MO_isWrong.2.1 63 = .ok (.goto (-46), 3) := by decide +kernel
theorem d_MO_isWrong_66 : decode mi_MO_isWrong.2.1 66 = .ok (.iload 4, 2) := by decide +kernel
theorem d_MO_isWrong_68 : decode mi_MO_isWrong.2.1 68 = .ok (.ireturn, 1) := by decide +kernel
theorem d_MO_ballotIn_0 : decode mi_MO_ballotIn.2.1 0 = .ok (.sipush (144), 3) := by decide +kernel
theorem d_MO_ballotIn_3 : decode mi_MO_ballotIn.2.1 3 = .ok (.iload_n 1, 1) := by decide +kernel
theorem d_MO_ballotIn_4 : decode mi_MO_ballotIn.2.1 4 = .ok (.imul, 1) := by decide +kernel
theorem d_MO_ballotIn_5 : decode mi_MO_ballotIn.2.1 5 = .ok (.bipush (8), 2) := by decide +kernel
theorem d_MO_ballotIn_7 : decode mi_MO_ballotIn.2.1 7 = .ok (.iload_n 2, 1) := by decide +kernel
theorem d_MO_ballotIn_8 : decode mi_MO_ballotIn.2.1 8 = .ok (.imul, 1) := by decide +kernel
theorem d_MO_ballotIn_9 : decode mi_MO_ballotIn.2.1 9 = .ok (.iadd, 1) := by decide +kernel
theorem d_MO_ballotIn_10 : decode mi_MO_ballotIn.2.1 10 = .ok (.istore_n 3, 1) := by decide +kernel
theorem d_MO_ballotIn_11 : decode mi_MO_ballotIn.2.1 11 = .ok (.aload_n 0, 1) := by decide +kernel
theorem d_MO_ballotIn_12 : decode mi_MO_ballotIn.2.1 12 = .ok (.getfield 22, 3) := by decide +kernel
theorem d_MO_ballotIn_15 : decode mi_MO_ballotIn.2.1 15 = .ok (.iload_n 3, 1) := by decide +kernel
theorem d_MO_ballotIn_16 : decode mi_MO_ballotIn.2.1 16 = .ok (.iconst 2, 1) := by decide +kernel
theorem d_MO_ballotIn_17 : decode mi_MO_ballotIn.2.1 17 = .ok (.iadd, 1) := by decide +kernel
theorem d_MO_ballotIn_18 : decode mi_MO_ballotIn.2.1 18 = .ok (.iaload, 1) := by decide +kernel
theorem d_MO_ballotIn_19 : decode mi_MO_ballotIn.2.1 19 = .ok (.sipush (256), 3) := by decide +kernel
theorem d_MO_ballotIn_22 : decode mi_MO_ballotIn.2.1 22 = .ok (.imul, 1) := by decide +kernel
theorem d_MO_ballotIn_23 : decode mi_MO_ballotIn.2.1 23 = .ok (.aload_n 0, 1) := by decide +kernel
theorem d_MO_ballotIn_24 : decode mi_MO_ballotIn.2.1 24 = .ok (.getfield 22, 3) := by decide +kernel
theorem d_MO_ballotIn_27 : decode mi_MO_ballotIn.2.1 27 = .ok (.iload_n 3, 1) := by decide +kernel
theorem d_MO_ballotIn_28 : decode mi_MO_ballotIn.2.1 28 = .ok (.iconst 3, 1) := by decide +kernel
theorem d_MO_ballotIn_29 : decode mi_MO_ballotIn.2.1 29 = .ok (.iadd, 1) := by decide +kernel
theorem d_MO_ballotIn_30 : decode mi_MO_ballotIn.2.1 30 = .ok (.iaload, 1) := by decide +kernel
theorem d_MO_ballotIn_31 : decode mi_MO_ballotIn.2.1 31 = .ok (.iadd, 1) := by decide +kernel
theorem d_MO_ballotIn_32 : decode mi_MO_ballotIn.2.1 32 = .ok (.ireturn, 1) := by decide +kernel
theorem d_MO_falls_0 : decode mi_MO_falls.2.1 0 = .ok (.aload_n 0, 1) := by decide +kernel
theorem d_MO_falls_1 : decode mi_MO_falls.2.1 1 = .ok (.getfield 25, 3) := by decide +kernel
theorem d_MO_falls_4 : decode mi_MO_falls.2.1 4 = .ok (.iload_n 1, 1) := by decide +kernel
theorem d_MO_falls_5 : decode mi_MO_falls.2.1 5 = .ok (.iconst 0, 1) := by decide +kernel
theorem d_MO_falls_6 : decode mi_MO_falls.2.1 6 = .ok (.bastore, 1) := by decide +kernel
theorem d_MO_falls_7 : decode mi_MO_falls.2.1 7 = .ok (.aload_n 0, 1) := by decide +kernel
theorem d_MO_falls_8 : decode mi_MO_falls.2.1 8 = .ok (.getfield 32, 3) := by decide +kernel
theorem d_MO_falls_11 : decode mi_MO_falls.2.1 11 = .ok (.iload_n 1, 1) := by decide +kernel
theorem d_MO_falls_12 : decode mi_MO_falls.2.1 12 = .ok (.iconst (-1), 1) := by decide +kernel
theorem d_MO_falls_13 : decode mi_MO_falls.2.1 13 = .ok (.iastore, 1) := by decide +kernel
theorem d_MO_falls_14 : decode mi_MO_falls.2.1 14 = .ok (.aload_n 0, 1) := by decide +kernel
theorem d_MO_falls_15 : decode mi_MO_falls.2.1 15 = .ok (.iload_n 1, 1) := by decide +kernel
theorem d_MO_falls_16 : decode mi_MO_falls.2.1 16 = .ok (.invokevirtual 75, 3) := by decide +kernel
theorem d_MO_falls_19 : decode mi_MO_falls.2.1 19 = .ok (.return_, 1) := by decide +kernel
theorem d_MO_write_0 : decode mi_MO_write.2.1 0 = .ok (.sipush (144), 3) := by decide +kernel
theorem d_MO_write_3 : decode mi_MO_write.2.1 3 = .ok (.iload_n 1, 1) := by decide +kernel
theorem d_MO_write_4 : decode mi_MO_write.2.1 4 = .ok (.imul, 1) := by decide +kernel
theorem d_MO_write_5 : decode mi_MO_write.2.1 5 = .ok (.bipush (8), 2) := by decide +kernel
theorem d_MO_write_7 : decode mi_MO_write.2.1 7 = .ok (.iload_n 2, 1) := by decide +kernel
theorem d_MO_write_8 : decode mi_MO_write.2.1 8 = .ok (.imul, 1) := by decide +kernel
theorem d_MO_write_9 : decode mi_MO_write.2.1 9 = .ok (.iadd, 1) := by decide +kernel
theorem d_MO_write_10 : decode mi_MO_write.2.1 10 = .ok (.istore 6, 2) := by decide +kernel
theorem d_MO_write_12 : decode mi_MO_write.2.1 12 = .ok (.aload_n 0, 1) := by decide +kernel
theorem d_MO_write_13 : decode mi_MO_write.2.1 13 = .ok (.getfield 32, 3) := by decide +kernel
theorem d_MO_write_16 : decode mi_MO_write.2.1 16 = .ok (.iload_n 1, 1) := by decide +kernel
theorem d_MO_write_17 : decode mi_MO_write.2.1 17 = .ok (.iaload, 1) := by decide +kernel
theorem d_MO_write_18 : decode mi_MO_write.2.1 18 = .ok (.ifCond .ne (7), 3) := by decide +kernel
theorem d_MO_write_21 : decode mi_MO_write.2.1 21 = .ok (.iconst 1, 1) := by decide +kernel
theorem d_MO_write_22 : decode mi_MO_write.2.1 22 = .ok (.goto (4), 3) := by decide +kernel
theorem d_MO_write_25 : decode mi_MO_write.2.1 25 = .ok (.iconst 0, 1) := by decide +kernel
theorem d_MO_write_26 : decode mi_MO_write.2.1 26 = .ok (.istore 7, 2) := by decide +kernel
theorem d_MO_write_28 : decode mi_MO_write.2.1 28 = .ok (.aload_n 0, 1) := by decide +kernel
theorem d_MO_write_29 : decode mi_MO_write.2.1 29 = .ok (.getfield 32, 3) := by decide +kernel
theorem d_MO_write_32 : decode mi_MO_write.2.1 32 = .ok (.iload_n 1, 1) := by decide +kernel
theorem d_MO_write_33 : decode mi_MO_write.2.1 33 = .ok (.dup2, 1) := by decide +kernel
theorem d_MO_write_34 : decode mi_MO_write.2.1 34 = .ok (.iaload, 1) := by decide +kernel
theorem d_MO_write_35 : decode mi_MO_write.2.1 35 = .ok (.aload_n 0, 1) := by decide +kernel
theorem d_MO_write_36 : decode mi_MO_write.2.1 36 = .ok (.getfield 32, 3) := by decide +kernel
theorem d_MO_write_39 : decode mi_MO_write.2.1 39 = .ok (.iload_n 1, 1) := by decide +kernel
theorem d_MO_write_40 : decode mi_MO_write.2.1 40 = .ok (.iaload, 1) := by decide +kernel
theorem d_MO_write_41 : decode mi_MO_write.2.1 41 = .ok (.ifCond .le (7), 3) := by decide +kernel
theorem d_MO_write_44 : decode mi_MO_write.2.1 44 = .ok (.iconst 1, 1) := by decide +kernel
theorem d_MO_write_45 : decode mi_MO_write.2.1 45 = .ok (.goto (4), 3) := by decide +kernel
theorem d_MO_write_48 : decode mi_MO_write.2.1 48 = .ok (.iconst 0, 1) := by decide +kernel
theorem d_MO_write_49 : decode mi_MO_write.2.1 49 = .ok (.isub, 1) := by decide +kernel
theorem d_MO_write_50 : decode mi_MO_write.2.1 50 = .ok (.iastore, 1) := by decide +kernel
theorem d_MO_write_51 : decode mi_MO_write.2.1 51 = .ok (.iconst 0, 1) := by decide +kernel
theorem d_MO_write_52 : decode mi_MO_write.2.1 52 = .ok (.istore 8, 2) := by decide +kernel
theorem d_MO_write_54 : decode mi_MO_write.2.1 54 = .ok (.iload 8, 2) := by decide +kernel
theorem d_MO_write_56 : decode mi_MO_write.2.1 56 = .ok (.iconst 4, 1) := by decide +kernel
theorem d_MO_write_57 : decode mi_MO_write.2.1 57 = .ok (.if_icmp .ge (102), 3) := by decide +kernel
theorem d_MO_write_60 : decode mi_MO_write.2.1 60 = .ok (.iload 8, 2) := by decide +kernel
theorem d_MO_write_62 : decode mi_MO_write.2.1 62 = .ok (.ifCond .ne (7), 3) := by decide +kernel
theorem d_MO_write_65 : decode mi_MO_write.2.1 65 = .ok (.iload_n 3, 1) := by decide +kernel
theorem d_MO_write_66 : decode mi_MO_write.2.1 66 = .ok (.goto (35), 3) := by decide +kernel
theorem d_MO_write_69 : decode mi_MO_write.2.1 69 = .ok (.iload 8, 2) := by decide +kernel
theorem d_MO_write_71 : decode mi_MO_write.2.1 71 = .ok (.iconst 1, 1) := by decide +kernel
theorem d_MO_write_72 : decode mi_MO_write.2.1 72 = .ok (.if_icmp .ne (8), 3) := by decide +kernel
theorem d_MO_write_75 : decode mi_MO_write.2.1 75 = .ok (.iload 4, 2) := by decide +kernel
theorem d_MO_write_77 : decode mi_MO_write.2.1 77 = .ok (.goto (24), 3) := by decide +kernel
theorem d_MO_write_80 : decode mi_MO_write.2.1 80 = .ok (.iload 8, 2) := by decide +kernel
theorem d_MO_write_82 : decode mi_MO_write.2.1 82 = .ok (.iconst 2, 1) := by decide +kernel
theorem d_MO_write_83 : decode mi_MO_write.2.1 83 = .ok (.if_icmp .ne (12), 3) := by decide +kernel
theorem d_MO_write_86 : decode mi_MO_write.2.1 86 = .ok (.iload 5, 2) := by decide +kernel
theorem d_MO_write_88 : decode mi_MO_write.2.1 88 = .ok (.sipush (256), 3) := by decide +kernel
theorem d_MO_write_91 : decode mi_MO_write.2.1 91 = .ok (.idiv, 1) := by decide +kernel
theorem d_MO_write_92 : decode mi_MO_write.2.1 92 = .ok (.goto (9), 3) := by decide +kernel
theorem d_MO_write_95 : decode mi_MO_write.2.1 95 = .ok (.iload 5, 2) := by decide +kernel
theorem d_MO_write_97 : decode mi_MO_write.2.1 97 = .ok (.sipush (256), 3) := by decide +kernel
theorem d_MO_write_100 : decode mi_MO_write.2.1 100 = .ok (.irem, 1) := by decide +kernel
theorem d_MO_write_101 : decode mi_MO_write.2.1 101 = .ok (.istore 9, 2) := by decide +kernel
theorem d_MO_write_103 : decode mi_MO_write.2.1 103 = .ok (.aload_n 0, 1) := by decide +kernel
theorem d_MO_write_104 : decode mi_MO_write.2.1 104 = .ok (.getfield 22, 3) := by decide +kernel
theorem d_MO_write_107 : decode mi_MO_write.2.1 107 = .ok (.iload 6, 2) := by decide +kernel
theorem d_MO_write_109 : decode mi_MO_write.2.1 109 = .ok (.iload 8, 2) := by decide +kernel
theorem d_MO_write_111 : decode mi_MO_write.2.1 111 = .ok (.iadd, 1) := by decide +kernel
theorem d_MO_write_112 : decode mi_MO_write.2.1 112 = .ok (.iload 9, 2) := by decide +kernel
theorem d_MO_write_114 : decode mi_MO_write.2.1 114 = .ok (.iastore, 1) := by decide +kernel
theorem d_MO_write_115 : decode mi_MO_write.2.1 115 = .ok (.aload_n 0, 1) := by decide +kernel
theorem d_MO_write_116 : decode mi_MO_write.2.1 116 = .ok (.getfield 22, 3) := by decide +kernel
theorem d_MO_write_119 : decode mi_MO_write.2.1 119 = .ok (.iload 6, 2) := by decide +kernel
theorem d_MO_write_121 : decode mi_MO_write.2.1 121 = .ok (.iconst 4, 1) := by decide +kernel
theorem d_MO_write_122 : decode mi_MO_write.2.1 122 = .ok (.iadd, 1) := by decide +kernel
theorem d_MO_write_123 : decode mi_MO_write.2.1 123 = .ok (.iload 8, 2) := by decide +kernel
theorem d_MO_write_125 : decode mi_MO_write.2.1 125 = .ok (.iadd, 1) := by decide +kernel
theorem d_MO_write_126 : decode mi_MO_write.2.1 126 = .ok (.iload 7, 2) := by decide +kernel
theorem d_MO_write_128 : decode mi_MO_write.2.1 128 = .ok (.ifCond .eq (18), 3) := by decide +kernel
theorem d_MO_write_131 : decode mi_MO_write.2.1 131 = .ok (.aload_n 0, 1) := by decide +kernel
theorem d_MO_write_132 : decode mi_MO_write.2.1 132 = .ok (.getfield 22, 3) := by decide +kernel
theorem d_MO_write_135 : decode mi_MO_write.2.1 135 = .ok (.iload 6, 2) := by decide +kernel
theorem d_MO_write_137 : decode mi_MO_write.2.1 137 = .ok (.iconst 4, 1) := by decide +kernel
theorem d_MO_write_138 : decode mi_MO_write.2.1 138 = .ok (.iadd, 1) := by decide +kernel
theorem d_MO_write_139 : decode mi_MO_write.2.1 139 = .ok (.iload 8, 2) := by decide +kernel
theorem d_MO_write_141 : decode mi_MO_write.2.1 141 = .ok (.iadd, 1) := by decide +kernel
theorem d_MO_write_142 : decode mi_MO_write.2.1 142 = .ok (.iaload, 1) := by decide +kernel
theorem d_MO_write_143 : decode mi_MO_write.2.1 143 = .ok (.goto (9), 3) := by decide +kernel
theorem d_MO_write_146 : decode mi_MO_write.2.1 146 = .ok (.sipush (255), 3) := by decide +kernel
theorem d_MO_write_149 : decode mi_MO_write.2.1 149 = .ok (.iload 9, 2) := by decide +kernel
theorem d_MO_write_151 : decode mi_MO_write.2.1 151 = .ok (.isub, 1) := by decide +kernel
theorem d_MO_write_152 : decode mi_MO_write.2.1 152 = .ok (.iastore, 1) := by decide +kernel
theorem d_MO_write_153 : decode mi_MO_write.2.1 153 = .ok (.iinc 8 (1), 3) := by decide +kernel
theorem d_MO_write_156 : decode mi_MO_write.2.1 156 = .ok (.goto (-102), 3) := by decide +kernel
theorem d_MO_write_159 : decode mi_MO_write.2.1 159 = .ok (.iload 7, 2) := by decide +kernel
theorem d_MO_write_161 : decode mi_MO_write.2.1 161 = .ok (.ifCond .eq (8), 3) := by decide +kernel
theorem d_MO_write_164 : decode mi_MO_write.2.1 164 = .ok (.aload_n 0, 1) := by decide +kernel
theorem d_MO_write_165 : decode mi_MO_write.2.1 165 = .ok (.iload_n 1, 1) := by decide +kernel
theorem d_MO_write_166 : decode mi_MO_write.2.1 166 = .ok (.invokevirtual 85, 3) := by decide +kernel
theorem d_MO_write_169 : decode mi_MO_write.2.1 169 = .ok (.iload 7, 2) := by decide +kernel
theorem d_MO_write_171 : decode mi_MO_write.2.1 171 = .ok (.ifCond .ne (7), 3) := by decide +kernel
theorem d_MO_write_174 : decode mi_MO_write.2.1 174 = .ok (.iconst 1, 1) := by decide +kernel
theorem d_MO_write_175 : decode mi_MO_write.2.1 175 = .ok (.goto (4), 3) := by decide +kernel
theorem d_MO_write_178 : decode mi_MO_write.2.1 178 = .ok (.iconst 0, 1) := by decide +kernel
theorem d_MO_write_179 : decode mi_MO_write.2.1 179 = .ok (.ireturn, 1) := by decide +kernel
theorem d_MO_writePromise_0 : decode mi_MO_writePromise.2.1 0 = .ok (.aload_n 0, 1) := by decide +kernel
theorem d_MO_writePromise_1 : decode mi_MO_writePromise.2.1 1 = .ok (.iload_n 1, 1) := by decide +kernel
theorem d_MO_writePromise_2 : decode mi_MO_writePromise.2.1 2 = .ok (.iconst 0, 1) := by decide +kernel
theorem d_MO_writePromise_3 : decode mi_MO_writePromise.2.1 3 = .ok (.iconst 0, 1) := by decide +kernel
theorem d_MO_writePromise_4 : decode mi_MO_writePromise.2.1 4 = .ok (.iconst 0, 1) := by decide +kernel
theorem d_MO_writePromise_5 : decode mi_MO_writePromise.2.1 5 = .ok (.iload_n 2, 1) := by decide +kernel
theorem d_MO_writePromise_6 : decode mi_MO_writePromise.2.1 6 = .ok (.invokevirtual 88, 3) := by decide +kernel
theorem d_MO_writePromise_9 : decode mi_MO_writePromise.2.1 9 = .ok (.ifCond .eq (15), 3) := by decide +kernel
theorem d_MO_writePromise_12 : decode mi_MO_writePromise.2.1 12 = .ok (.aload_n 0, 1) := by decide +kernel
theorem d_MO_writePromise_13 : decode mi_MO_writePromise.2.1 13 = .ok (.iload_n 1, 1) := by decide +kernel
theorem d_MO_writePromise_14 : decode mi_MO_writePromise.2.1 14 = .ok (.iconst 1, 1) := by decide +kernel
theorem d_MO_writePromise_15 : decode mi_MO_writePromise.2.1 15 = .ok (.iconst 0, 1) := by decide +kernel
theorem d_MO_writePromise_16 : decode mi_MO_writePromise.2.1 16 = .ok (.iconst 0, 1) := by decide +kernel
theorem d_MO_writePromise_17 : decode mi_MO_writePromise.2.1 17 = .ok (.iload_n 2, 1) := by decide +kernel
theorem d_MO_writePromise_18 : decode mi_MO_writePromise.2.1 18 = .ok (.invokevirtual 88, 3) := by decide +kernel
theorem d_MO_writePromise_21 : decode mi_MO_writePromise.2.1 21 = .ok (.ifCond .ne (5), 3) := by decide +kernel
theorem d_MO_writePromise_24 : decode mi_MO_writePromise.2.1 24 = .ok (.iconst 0, 1) := by decide +kernel
theorem d_MO_writePromise_25 : decode mi_MO_writePromise.2.1 25 = .ok (.ireturn, 1) := by decide +kernel
theorem d_MO_writePromise_26 : decode mi_MO_writePromise.2.1 26 = .ok (.aload_n 0, 1) := by decide +kernel
theorem d_MO_writePromise_27 : decode mi_MO_writePromise.2.1 27 = .ok (.getfield 35, 3) := by decide +kernel
theorem d_MO_writePromise_30 : decode mi_MO_writePromise.2.1 30 = .ok (.iload_n 1, 1) := by decide +kernel
theorem d_MO_writePromise_31 : decode mi_MO_writePromise.2.1 31 = .ok (.iload_n 2, 1) := by decide +kernel
theorem d_MO_writePromise_32 : decode mi_MO_writePromise.2.1 32 = .ok (.iastore, 1) := by decide +kernel
theorem d_MO_writePromise_33 : decode mi_MO_writePromise.2.1 33 = .ok (.iconst 1, 1) := by decide +kernel
theorem d_MO_writePromise_34 : decode mi_MO_writePromise.2.1 34 = .ok (.ireturn, 1) := by decide +kernel
theorem d_MO_writeVote_0 : decode mi_MO_writeVote.2.1 0 = .ok (.aload_n 0, 1) := by decide +kernel
theorem d_MO_writeVote_1 : decode mi_MO_writeVote.2.1 1 = .ok (.iload_n 1, 1) := by decide +kernel
theorem d_MO_writeVote_2 : decode mi_MO_writeVote.2.1 2 = .ok (.iconst 2, 1) := by decide +kernel
theorem d_MO_writeVote_3 : decode mi_MO_writeVote.2.1 3 = .ok (.iload_n 2, 1) := by decide +kernel
theorem d_MO_writeVote_4 : decode mi_MO_writeVote.2.1 4 = .ok (.imul, 1) := by decide +kernel
theorem d_MO_writeVote_5 : decode mi_MO_writeVote.2.1 5 = .ok (.iload_n 2, 1) := by decide +kernel
theorem d_MO_writeVote_6 : decode mi_MO_writeVote.2.1 6 = .ok (.iload_n 3, 1) := by decide +kernel
theorem d_MO_writeVote_7 : decode mi_MO_writeVote.2.1 7 = .ok (.iload 4, 2) := by decide +kernel
theorem d_MO_writeVote_9 : decode mi_MO_writeVote.2.1 9 = .ok (.invokevirtual 88, 3) := by decide +kernel
theorem d_MO_writeVote_12 : decode mi_MO_writeVote.2.1 12 = .ok (.ifCond .eq (20), 3) := by decide +kernel
theorem d_MO_writeVote_15 : decode mi_MO_writeVote.2.1 15 = .ok (.aload_n 0, 1) := by decide +kernel
theorem d_MO_writeVote_16 : decode mi_MO_writeVote.2.1 16 = .ok (.iload_n 1, 1) := by decide +kernel
theorem d_MO_writeVote_17 : decode mi_MO_writeVote.2.1 17 = .ok (.iconst 2, 1) := by decide +kernel
theorem d_MO_writeVote_18 : decode mi_MO_writeVote.2.1 18 = .ok (.iload_n 2, 1) := by decide +kernel
theorem d_MO_writeVote_19 : decode mi_MO_writeVote.2.1 19 = .ok (.imul, 1) := by decide +kernel
theorem d_MO_writeVote_20 : decode mi_MO_writeVote.2.1 20 = .ok (.iconst 1, 1) := by decide +kernel
theorem d_MO_writeVote_21 : decode mi_MO_writeVote.2.1 21 = .ok (.iadd, 1) := by decide +kernel
theorem d_MO_writeVote_22 : decode mi_MO_writeVote.2.1 22 = .ok (.iload_n 2, 1) := by decide +kernel
theorem d_MO_writeVote_23 : decode mi_MO_writeVote.2.1 23 = .ok (.iconst 0, 1) := by decide +kernel
theorem d_MO_writeVote_24 : decode mi_MO_writeVote.2.1 24 = .ok (.iload 4, 2) := by decide +kernel
theorem d_MO_writeVote_26 : decode mi_MO_writeVote.2.1 26 = .ok (.invokevirtual 88, 3) := by decide +kernel
theorem d_MO_writeVote_29 : decode mi_MO_writeVote.2.1 29 = .ok (.ifCond .ne (5), 3) := by decide +kernel
theorem d_MO_writeVote_32 : decode mi_MO_writeVote.2.1 32 = .ok (.iconst 0, 1) := by decide +kernel
theorem d_MO_writeVote_33 : decode mi_MO_writeVote.2.1 33 = .ok (.ireturn, 1) := by decide +kernel
theorem d_MO_writeVote_34 : decode mi_MO_writeVote.2.1 34 = .ok (.aload_n 0, 1) := by decide +kernel
theorem d_MO_writeVote_35 : decode mi_MO_writeVote.2.1 35 = .ok (.getfield 44, 3) := by decide +kernel
theorem d_MO_writeVote_38 : decode mi_MO_writeVote.2.1 38 = .ok (.bipush (8), 2) := by decide +kernel
theorem d_MO_writeVote_40 : decode mi_MO_writeVote.2.1 40 = .ok (.iload_n 1, 1) := by decide +kernel
theorem d_MO_writeVote_41 : decode mi_MO_writeVote.2.1 41 = .ok (.imul, 1) := by decide +kernel
theorem d_MO_writeVote_42 : decode mi_MO_writeVote.2.1 42 = .ok (.iload_n 2, 1) := by decide +kernel
theorem d_MO_writeVote_43 : decode mi_MO_writeVote.2.1 43 = .ok (.iadd, 1) := by decide +kernel
theorem d_MO_writeVote_44 : decode mi_MO_writeVote.2.1 44 = .ok (.iconst 1, 1) := by decide +kernel
theorem d_MO_writeVote_45 : decode mi_MO_writeVote.2.1 45 = .ok (.isub, 1) := by decide +kernel
theorem d_MO_writeVote_46 : decode mi_MO_writeVote.2.1 46 = .ok (.bipush (64), 2) := by decide +kernel
theorem d_MO_writeVote_48 : decode mi_MO_writeVote.2.1 48 = .ok (.iload 4, 2) := by decide +kernel
theorem d_MO_writeVote_50 : decode mi_MO_writeVote.2.1 50 = .ok (.imul, 1) := by decide +kernel
theorem d_MO_writeVote_51 : decode mi_MO_writeVote.2.1 51 = .ok (.iload_n 3, 1) := by decide +kernel
theorem d_MO_writeVote_52 : decode mi_MO_writeVote.2.1 52 = .ok (.iadd, 1) := by decide +kernel
theorem d_MO_writeVote_53 : decode mi_MO_writeVote.2.1 53 = .ok (.iastore, 1) := by decide +kernel
theorem d_MO_writeVote_54 : decode mi_MO_writeVote.2.1 54 = .ok (.iconst 1, 1) := by decide +kernel
theorem d_MO_writeVote_55 : decode mi_MO_writeVote.2.1 55 = .ok (.ireturn, 1) := by decide +kernel
theorem d_MO_found_0 : decode mi_MO_found.2.1 0 = .ok (.aload_n 0, 1) := by decide +kernel
theorem d_MO_found_1 : decode mi_MO_found.2.1 1 = .ok (.iload_n 1, 1) := by decide +kernel
theorem d_MO_found_2 : decode mi_MO_found.2.1 2 = .ok (.iconst 2, 1) := by decide +kernel
theorem d_MO_found_3 : decode mi_MO_found.2.1 3 = .ok (.iload_n 2, 1) := by decide +kernel
theorem d_MO_found_4 : decode mi_MO_found.2.1 4 = .ok (.imul, 1) := by decide +kernel
theorem d_MO_found_5 : decode mi_MO_found.2.1 5 = .ok (.invokevirtual 92, 3) := by decide +kernel
theorem d_MO_found_8 : decode mi_MO_found.2.1 8 = .ok (.istore_n 3, 1) := by decide +kernel
theorem d_MO_found_9 : decode mi_MO_found.2.1 9 = .ok (.aload_n 0, 1) := by decide +kernel
theorem d_MO_found_10 : decode mi_MO_found.2.1 10 = .ok (.iload_n 1, 1) := by decide +kernel
theorem d_MO_found_11 : decode mi_MO_found.2.1 11 = .ok (.iconst 2, 1) := by decide +kernel
theorem d_MO_found_12 : decode mi_MO_found.2.1 12 = .ok (.iload_n 2, 1) := by decide +kernel
theorem d_MO_found_13 : decode mi_MO_found.2.1 13 = .ok (.imul, 1) := by decide +kernel
theorem d_MO_found_14 : decode mi_MO_found.2.1 14 = .ok (.iconst 1, 1) := by decide +kernel
theorem d_MO_found_15 : decode mi_MO_found.2.1 15 = .ok (.iadd, 1) := by decide +kernel
theorem d_MO_found_16 : decode mi_MO_found.2.1 16 = .ok (.invokevirtual 92, 3) := by decide +kernel
theorem d_MO_found_19 : decode mi_MO_found.2.1 19 = .ok (.istore 4, 2) := by decide +kernel
theorem d_MO_found_21 : decode mi_MO_found.2.1 21 = .ok (.aload_n 0, 1) := by decide +kernel
theorem d_MO_found_22 : decode mi_MO_found.2.1 22 = .ok (.iload_n 1, 1) := by decide +kernel
theorem d_MO_found_23 : decode mi_MO_found.2.1 23 = .ok (.iconst 2, 1) := by decide +kernel
theorem d_MO_found_24 : decode mi_MO_found.2.1 24 = .ok (.iload_n 2, 1) := by decide +kernel
theorem d_MO_found_25 : decode mi_MO_found.2.1 25 = .ok (.imul, 1) := by decide +kernel
theorem d_MO_found_26 : decode mi_MO_found.2.1 26 = .ok (.invokevirtual 96, 3) := by decide +kernel
theorem d_MO_found_29 : decode mi_MO_found.2.1 29 = .ok (.ifCond .ne (34), 3) := by decide +kernel
theorem d_MO_found_32 : decode mi_MO_found.2.1 32 = .ok (.iload_n 3, 1) := by decide +kernel
theorem d_MO_found_33 : decode mi_MO_found.2.1 33 = .ok (.ifCond .ne (7), 3) := by decide +kernel
theorem d_MO_found_36 : decode mi_MO_found.2.1 36 = .ok (.iconst 0, 1) := by decide +kernel
theorem d_MO_found_37 : decode mi_MO_found.2.1 37 = .ok (.goto (25), 3) := by decide +kernel
theorem d_MO_found_40 : decode mi_MO_found.2.1 40 = .ok (.bipush (64), 2) := by decide +kernel
theorem d_MO_found_42 : decode mi_MO_found.2.1 42 = .ok (.iload_n 3, 1) := by decide +kernel
theorem d_MO_found_43 : decode mi_MO_found.2.1 43 = .ok (.imul, 1) := by decide +kernel
theorem d_MO_found_44 : decode mi_MO_found.2.1 44 = .ok (.aload_n 0, 1) := by decide +kernel
theorem d_MO_found_45 : decode mi_MO_found.2.1 45 = .ok (.getfield 22, 3) := by decide +kernel
theorem d_MO_found_48 : decode mi_MO_found.2.1 48 = .ok (.sipush (144), 3) := by decide +kernel
theorem d_MO_found_51 : decode mi_MO_found.2.1 51 = .ok (.iload_n 1, 1) := by decide +kernel
theorem d_MO_found_52 : decode mi_MO_found.2.1 52 = .ok (.imul, 1) := by decide +kernel
theorem d_MO_found_53 : decode mi_MO_found.2.1 53 = .ok (.bipush (16), 2) := by decide +kernel
theorem d_MO_found_55 : decode mi_MO_found.2.1 55 = .ok (.iload_n 2, 1) := by decide +kernel
theorem d_MO_found_56 : decode mi_MO_found.2.1 56 = .ok (.imul, 1) := by decide +kernel
theorem d_MO_found_57 : decode mi_MO_found.2.1 57 = .ok (.iadd, 1) := by decide +kernel
theorem d_MO_found_58 : decode mi_MO_found.2.1 58 = .ok (.iconst 1, 1) := by decide +kernel
theorem d_MO_found_59 : decode mi_MO_found.2.1 59 = .ok (.iadd, 1) := by decide +kernel
theorem d_MO_found_60 : decode mi_MO_found.2.1 60 = .ok (.iaload, 1) := by decide +kernel
theorem d_MO_found_61 : decode mi_MO_found.2.1 61 = .ok (.iadd, 1) := by decide +kernel
theorem d_MO_found_62 : decode mi_MO_found.2.1 62 = .ok (.ireturn, 1) := by decide +kernel
theorem d_MO_found_63 : decode mi_MO_found.2.1 63 = .ok (.aload_n 0, 1) := by decide +kernel
theorem d_MO_found_64 : decode mi_MO_found.2.1 64 = .ok (.iload_n 1, 1) := by decide +kernel
theorem d_MO_found_65 : decode mi_MO_found.2.1 65 = .ok (.iconst 2, 1) := by decide +kernel
theorem d_MO_found_66 : decode mi_MO_found.2.1 66 = .ok (.iload_n 2, 1) := by decide +kernel
theorem d_MO_found_67 : decode mi_MO_found.2.1 67 = .ok (.imul, 1) := by decide +kernel
theorem d_MO_found_68 : decode mi_MO_found.2.1 68 = .ok (.iconst 1, 1) := by decide +kernel
theorem d_MO_found_69 : decode mi_MO_found.2.1 69 = .ok (.iadd, 1) := by decide +kernel
theorem d_MO_found_70 : decode mi_MO_found.2.1 70 = .ok (.invokevirtual 96, 3) := by decide +kernel
theorem d_MO_found_73 : decode mi_MO_found.2.1 73 = .ok (.ifCond .eq (8), 3) := by decide +kernel
theorem d_MO_found_76 : decode mi_MO_found.2.1 76 = .ok (.ldc 100, 2) := by decide +kernel
theorem d_MO_found_78 : decode mi_MO_found.2.1 78 = .ok (.goto (17), 3) := by decide +kernel
theorem d_MO_found_81 : decode mi_MO_found.2.1 81 = .ok (.iload 4, 2) := by decide +kernel
theorem d_MO_found_83 : decode mi_MO_found.2.1 83 = .ok (.ifCond .ne (7), 3) := by decide +kernel
theorem d_MO_found_86 : decode mi_MO_found.2.1 86 = .ok (.iconst 0, 1) := by decide +kernel
theorem d_MO_found_87 : decode mi_MO_found.2.1 87 = .ok (.goto (8), 3) := by decide +kernel
theorem d_MO_found_90 : decode mi_MO_found.2.1 90 = .ok (.bipush (-2), 2) := by decide +kernel
theorem d_MO_found_92 : decode mi_MO_found.2.1 92 = .ok (.iload 4, 2) := by decide +kernel
theorem d_MO_found_94 : decode mi_MO_found.2.1 94 = .ok (.isub, 1) := by decide +kernel
theorem d_MO_found_95 : decode mi_MO_found.2.1 95 = .ok (.ireturn, 1) := by decide +kernel
