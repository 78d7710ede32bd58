theorem d_Node_raisePromise_14 : decode mi_Node_raisePromise.2.1 14 = .ok (.iload_n 1, 1) := by decide +kernel
theorem d_Node_raisePromise_15 : decode mi_Node_raisePromise.2.1 15 = .ok (.invokevirtual 63, 3) := by decide +kernel
theorem d_Node_raisePromise_18 : decode mi_Node_raisePromise.2.1 18 = .ok (.ifCond .eq (14), 3) := by decide +kernel
theorem d_Node_raisePromise_21 : decode mi_Node_raisePromise.2.1 21 = .ok (.aload_n 0, 1) := by decide +kernel
theorem d_Node_raisePromise_22 : decode mi_Node_raisePromise.2.1 22 = .ok (.iconst 1, 1) := by decide +kernel
theorem d_Node_raisePromise_23 : decode mi_Node_raisePromise.2.1 23 = .ok (.iconst 0, 1) := by decide +kernel
theorem d_Node_raisePromise_24 : decode mi_Node_raisePromise.2.1 24 = .ok (.iconst 0, 1) := by decide +kernel
theorem d_Node_raisePromise_25 : decode mi_Node_raisePromise.2.1 25 = .ok (.iload_n 1, 1) := by decide +kernel
theorem d_Node_raisePromise_26 : decode mi_Node_raisePromise.2.1 26 = .ok (.invokevirtual 63, 3) := by decide +kernel
theorem d_Node_raisePromise_29 : decode mi_Node_raisePromise.2.1 29 = .ok (.ifCond .ne (5), 3) := by decide +kernel
theorem d_Node_raisePromise_32 : decode mi_Node_raisePromise.2.1 32 = .ok (.iconst 0, 1) := by decide +kernel
theorem d_Node_raisePromise_33 : decode mi_Node_raisePromise.2.1 33 = .ok (.ireturn, 1) := by decide +kernel
theorem d_Node_raisePromise_34 : decode mi_Node_raisePromise.2.1 34 = .ok (.aload_n 0, 1) := by decide +kernel
theorem d_Node_raisePromise_35 : decode mi_Node_raisePromise.2.1 35 = .ok (.iload_n 1, 1) := by decide +kernel
theorem d_Node_raisePromise_36 : decode mi_Node_raisePromise.2.1 36 = .ok (.putfield 60, 3) := by decide +kernel
theorem d_Node_raisePromise_39 : decode mi_Node_raisePromise.2.1 39 = .ok (.iconst 1, 1) := by decide +kernel
theorem d_Node_raisePromise_40 : decode mi_Node_raisePromise.2.1 40 = .ok (.ireturn, 1) := by decide +kernel
theorem d_Node_writeVote_0 : decode mi_Node_writeVote.2.1 0 = .ok (.aload_n 0, 1) := by decide +kernel
theorem d_Node_writeVote_1 : decode mi_Node_writeVote.2.1 1 = .ok (.iconst 2, 1) := by decide +kernel
theorem d_Node_writeVote_2 : decode mi_Node_writeVote.2.1 2 = .ok (.iload_n 1, 1) := by decide +kernel
theorem d_Node_writeVote_3 : decode mi_Node_writeVote.2.1 3 = .ok (.imul, 1) := by decide +kernel
theorem d_Node_writeVote_4 : decode mi_Node_writeVote.2.1 4 = .ok (.iload_n 1, 1) := by decide +kernel
theorem d_Node_writeVote_5 : decode mi_Node_writeVote.2.1 5 = .ok (.iload_n 2, 1) := by decide +kernel
theorem d_Node_writeVote_6 : decode mi_Node_writeVote.2.1 6 = .ok (.iload_n 3, 1) := by decide +kernel
theorem d_Node_writeVote_7 : decode mi_Node_writeVote.2.1 7 = .ok (.invokevirtual 63, 3) := by decide +kernel
theorem d_Node_writeVote_10 : decode mi_Node_writeVote.2.1 10 = .ok (.ifCond .eq (18), 3) := by decide +kernel
theorem d_Node_writeVote_13 : decode mi_Node_writeVote.2.1 13 = .ok (.aload_n 0, 1) := by decide +kernel
theorem d_Node_writeVote_14 : decode mi_Node_writeVote.2.1 14 = .ok (.iconst 2, 1) := by decide +kernel
theorem d_Node_writeVote_15 : decode mi_Node_writeVote.2.1 15 = .ok (.iload_n 1, 1) := by decide +kernel
theorem d_Node_writeVote_16 : decode mi_Node_writeVote.2.1 16 = .ok (.imul, 1) := by decide +kernel
theorem d_Node_writeVote_17 : decode mi_Node_writeVote.2.1 17 = .ok (.iconst 1, 1) := by decide +kernel
theorem d_Node_writeVote_18 : decode mi_Node_writeVote.2.1 18 = .ok (.iadd, 1) := by decide +kernel
theorem d_Node_writeVote_19 : decode mi_Node_writeVote.2.1 19 = .ok (.iload_n 1, 1) := by decide +kernel
theorem d_Node_writeVote_20 : decode mi_Node_writeVote.2.1 20 = .ok (.iconst 0, 1) := by decide +kernel
theorem d_Node_writeVote_21 : decode mi_Node_writeVote.2.1 21 = .ok (.iload_n 3, 1) := by decide +kernel
theorem d_Node_writeVote_22 : decode mi_Node_writeVote.2.1 22 = .ok (.invokevirtual 63, 3) := by decide +kernel
theorem d_Node_writeVote_25 : decode mi_Node_writeVote.2.1 25 = .ok (.ifCond .ne (5), 3) := by decide +kernel
theorem d_Node_writeVote_28 : decode mi_Node_writeVote.2.1 28 = .ok (.iconst 0, 1) := by decide +kernel
theorem d_Node_writeVote_29 : decode mi_Node_writeVote.2.1 29 = .ok (.ireturn, 1) := by decide +kernel
theorem d_Node_writeVote_30 : decode mi_Node_writeVote.2.1 30 = .ok (.aload_n 0, 1) := by decide +kernel
theorem d_Node_writeVote_31 : decode mi_Node_writeVote.2.1 31 = .ok (.getfield 18, 3) := by decide +kernel
theorem d_Node_writeVote_34 : decode mi_Node_writeVote.2.1 34 = .ok (.iload_n 1, 1) := by decide +kernel
theorem d_Node_writeVote_35 : decode mi_Node_writeVote.2.1 35 = .ok (.iload_n 3, 1) := by decide +kernel
theorem d_Node_writeVote_36 : decode mi_Node_writeVote.2.1 36 = .ok (.iload_n 2, 1) := by decide +kernel
theorem d_Node_writeVote_37 : decode mi_Node_writeVote.2.1 37 = .ok (.invokestatic 67, 3) := by decide +kernel
theorem d_Node_writeVote_40 : decode mi_Node_writeVote.2.1 40 = .ok (.iastore, 1) := by decide +kernel
theorem d_Node_writeVote_41 : decode mi_Node_writeVote.2.1 41 = .ok (.iconst 1, 1) := by decide +kernel
theorem d_Node_writeVote_42 : decode mi_Node_writeVote.2.1 42 = .ok (.ireturn, 1) := by decide +kernel
theorem d_Node_writeSector_0 : decode mi_Node_writeSector.2.1 0 = .ok (.aload_n 0, 1) := by decide +kernel
theorem d_Node_writeSector_1 : decode mi_Node_writeSector.2.1 1 = .ok (.getfield 12, 3) := by decide +kernel
theorem d_Node_writeSector_4 : decode mi_Node_writeSector.2.1 4 = .ok (.iload_n 1, 1) := by decide +kernel
theorem d_Node_writeSector_5 : decode mi_Node_writeSector.2.1 5 = .ok (.iload_n 2, 1) := by decide +kernel
theorem d_Node_writeSector_6 : decode mi_Node_writeSector.2.1 6 = .ok (.iload_n 3, 1) := by decide +kernel
theorem d_Node_writeSector_7 : decode mi_Node_writeSector.2.1 7 = .ok (.iload 4, 2) := by decide +kernel
theorem d_Node_writeSector_9 : decode mi_Node_writeSector.2.1 9 = .ok (.invokevirtual 71, 3) := by decide +kernel
theorem d_Node_writeSector_12 : decode mi_Node_writeSector.2.1 12 = .ok (.aload_n 0, 1) := by decide +kernel
theorem d_Node_writeSector_13 : decode mi_Node_writeSector.2.1 13 = .ok (.getfield 26, 3) := by decide +kernel
theorem d_Node_writeSector_16 : decode mi_Node_writeSector.2.1 16 = .ok (.ifCond .ne (9), 3) := by decide +kernel
theorem d_Node_writeSector_19 : decode mi_Node_writeSector.2.1 19 = .ok (.aload_n 0, 1) := by decide +kernel
theorem d_Node_writeSector_20 : decode mi_Node_writeSector.2.1 20 = .ok (.invokevirtual 75, 3) := by decide +kernel
theorem d_Node_writeSector_23 : decode mi_Node_writeSector.2.1 23 = .ok (.iconst 0, 1) := by decide +kernel
theorem d_Node_writeSector_24 : decode mi_Node_writeSector.2.1 24 = .ok (.ireturn, 1) := by decide +kernel
theorem d_Node_writeSector_25 : decode mi_Node_writeSector.2.1 25 = .ok (.aload_n 0, 1) := by decide +kernel
theorem d_Node_writeSector_26 : decode mi_Node_writeSector.2.1 26 = .ok (.getfield 12, 3) := by decide +kernel
theorem d_Node_writeSector_29 : decode mi_Node_writeSector.2.1 29 = .ok (.iload_n 1, 1) := by decide +kernel
theorem d_Node_writeSector_30 : decode mi_Node_writeSector.2.1 30 = .ok (.invokevirtual 78, 3) := by decide +kernel
theorem d_Node_writeSector_33 : decode mi_Node_writeSector.2.1 33 = .ok (.aload_n 0, 1) := by decide +kernel
theorem d_Node_writeSector_34 : decode mi_Node_writeSector.2.1 34 = .ok (.getfield 26, 3) := by decide +kernel
theorem d_Node_writeSector_37 : decode mi_Node_writeSector.2.1 37 = .ok (.iconst (-1), 1) := by decide +kernel
theorem d_Node_writeSector_38 : decode mi_Node_writeSector.2.1 38 = .ok (.if_icmp .eq (13), 3) := by decide +kernel
theorem d_Node_writeSector_41 : decode mi_Node_writeSector.2.1 41 = .ok (.aload_n 0, 1) := by decide +kernel
theorem d_Node_writeSector_42 : decode mi_Node_writeSector.2.1 42 = .ok (.dup, 1) := by decide +kernel
theorem d_Node_writeSector_43 : decode mi_Node_writeSector.2.1 43 = .ok (.getfield 26, 3) := by decide +kernel
theorem d_Node_writeSector_46 : decode mi_Node_writeSector.2.1 46 = .ok (.iconst 1, 1) := by decide +kernel
theorem d_Node_writeSector_47 : decode mi_Node_writeSector.2.1 47 = .ok (.isub, 1) := by decide +kernel
theorem d_Node_writeSector_48 : decode mi_Node_writeSector.2.1 48 = .ok (.putfield 26, 3) := by decide +kernel
theorem d_Node_writeSector_51 : decode mi_Node_writeSector.2.1 51 = .ok (.iconst 1, 1) := by decide +kernel
theorem d_Node_writeSector_52 : decode mi_Node_writeSector.2.1 52 = .ok (.ireturn, 1) := by decide +kernel
theorem d_Node_goDown_0 : decode mi_Node_goDown.2.1 0 = .ok (.aload_n 0, 1) := by decide +kernel
theorem d_Node_goDown_1 : decode mi_Node_goDown.2.1 1 = .ok (.iconst 0, 1) := by decide +kernel
theorem d_Node_goDown_2 : decode mi_Node_goDown.2.1 2 = .ok (.putfield 22, 3) := by decide +kernel
theorem d_Node_goDown_5 : decode mi_Node_goDown.2.1 5 = .ok (.aload_n 0, 1) := by decide +kernel
theorem d_Node_goDown_6 : decode mi_Node_goDown.2.1 6 = .ok (.iconst 0, 1) := by decide +kernel
theorem d_Node_goDown_7 : decode mi_Node_goDown.2.1 7 = .ok (.putfield 51, 3) := by decide +kernel
theorem d_Node_goDown_10 : decode mi_Node_goDown.2.1 10 = .ok (.aload_n 0, 1) := by decide +kernel
theorem d_Node_goDown_11 : decode mi_Node_goDown.2.1 11 = .ok (.iconst 0, 1) := by decide +kernel
theorem d_Node_goDown_12 : decode mi_Node_goDown.2.1 12 = .ok (.putfield 60, 3) := by decide +kernel
theorem d_Node_goDown_15 : decode mi_Node_goDown.2.1 15 = .ok (.aload_n 0, 1) := by decide +kernel
theorem d_Node_goDown_16 : decode mi_Node_goDown.2.1 16 = .ok (.iconst (-1), 1) := by decide +kernel
theorem d_Node_goDown_17 : decode mi_Node_goDown.2.1 17 = .ok (.putfield 26, 3) := by decide +kernel
theorem d_Node_goDown_20 : decode mi_Node_goDown.2.1 20 = .ok (.aload_n 0, 1) := by decide +kernel
theorem d_Node_goDown_21 : decode mi_Node_goDown.2.1 21 = .ok (.getfield 38, 3) := by decide +kernel
theorem d_Node_goDown_24 : decode mi_Node_goDown.2.1 24 = .ok (.invokevirtual 81, 3) := by decide +kernel
theorem d_Node_goDown_27 : decode mi_Node_goDown.2.1 27 = .ok (.aload_n 0, 1) := by decide +kernel
theorem d_Node_goDown_28 : decode mi_Node_goDown.2.1 28 = .ok (.getfield 47, 3) := by decide +kernel
theorem d_Node_goDown_31 : decode mi_Node_goDown.2.1 31 = .ok (.invokevirtual 84, 3) := by decide +kernel
theorem d_Node_goDown_34 : decode mi_Node_goDown.2.1 34 = .ok (.iconst 1, 1) := by decide +kernel
theorem d_Node_goDown_35 : decode mi_Node_goDown.2.1 35 = .ok (.istore_n 1, 1) := by decide +kernel
theorem d_Node_goDown_36 : decode mi_Node_goDown.2.1 36 = .ok (.iload_n 1, 1) := by decide +kernel
theorem d_Node_goDown_37 : decode mi_Node_goDown.2.1 37 = .ok (.bipush (8), 2) := by decide +kernel
theorem d_Node_goDown_39 : decode mi_Node_goDown.2.1 39 = .ok (.if_icmp .gt (16), 3) := by decide +kernel
theorem d_Node_goDown_42 : decode mi_Node_goDown.2.1 42 = .ok (.aload_n 0, 1) := by decide +kernel
theorem d_Node_goDown_43 : decode mi_Node_goDown.2.1 43 = .ok (.getfield 18, 3) := by decide +kernel
theorem d_Node_goDown_46 : decode mi_Node_goDown.2.1 46 = .ok (.iload_n 1, 1) := by decide +kernel
theorem d_Node_goDown_47 : decode mi_Node_goDown.2.1 47 = .ok (.iconst 0, 1) := by decide +kernel
theorem d_Node_goDown_48 : decode mi_Node_goDown.2.1 48 = .ok (.iastore, 1) := by decide +kernel
theorem d_Node_goDown_49 : decode mi_Node_goDown.2.1 49 = .ok (.iinc 1 (1), 3) := by decide +kernel
theorem d_Node_goDown_52 : decode mi_Node_goDown.2.1 52 = .ok (.goto (-16), 3) := by decide +kernel
theorem d_Node_goDown_55 : decode mi_Node_goDown.2.1 55 = .ok (.return_, 1) := by decide +kernel
theorem d_Node_comeUp_0 : decode mi_Node_comeUp.2.1 0 = .ok (.aload_n 0, 1) := by decide +kernel
theorem d_Node_comeUp_1 : decode mi_Node_comeUp.2.1 1 = .ok (.iconst 1, 1) := by decide +kernel
theorem d_Node_comeUp_2 : decode mi_Node_comeUp.2.1 2 = .ok (.putfield 22, 3) := by decide +kernel
theorem d_Node_comeUp_5 : decode mi_Node_comeUp.2.1 5 = .ok (.aload_n 0, 1) := by decide +kernel
theorem d_Node_comeUp_6 : decode mi_Node_comeUp.2.1 6 = .ok (.aload_n 0, 1) := by decide +kernel
theorem d_Node_comeUp_7 : decode mi_Node_comeUp.2.1 7 = .ok (.getfield 12, 3) := by decide +kernel
theorem d_Node_comeUp_10 : decode mi_Node_comeUp.2.1 10 = .ok (.iconst 0, 1) := by decide +kernel
theorem d_Node_comeUp_11 : decode mi_Node_comeUp.2.1 11 = .ok (.invokevirtual 87, 3) := by decide +kernel
theorem d_Node_comeUp_14 : decode mi_Node_comeUp.2.1 14 = .ok (.ifCond .eq (18), 3) := by decide +kernel
theorem d_Node_comeUp_17 : decode mi_Node_comeUp.2.1 17 = .ok (.aload_n 0, 1) := by decide +kernel
theorem d_Node_comeUp_18 : decode mi_Node_comeUp.2.1 18 = .ok (.getfield 12, 3) := by decide +kernel
theorem d_Node_comeUp_21 : decode mi_Node_comeUp.2.1 21 = .ok (.iconst 1, 1) := by decide +kernel
theorem d_Node_comeUp_22 : decode mi_Node_comeUp.2.1 22 = .ok (.invokevirtual 87, 3) := by decide +kernel
theorem d_Node_comeUp_25 : decode mi_Node_comeUp.2.1 25 = .ok (.ifCond .eq (7), 3) := by decide +kernel
theorem d_Node_comeUp_28 : decode mi_Node_comeUp.2.1 28 = .ok (.iconst 1, 1) := by decide +kernel
theorem d_Node_comeUp_29 : decode mi_Node_comeUp.2.1 29 = .ok (.goto (4), 3) := by decide +kernel
theorem d_Node_comeUp_32 : decode mi_Node_comeUp.2.1 32 = .ok (.iconst 0, 1) := by decide +kernel
theorem d_Node_comeUp_33 : decode mi_Node_comeUp.2.1 33 = .ok (.putfield 51, 3) := by decide +kernel
theorem d_Node_comeUp_36 : decode mi_Node_comeUp.2.1 36 = .ok (.aload_n 0, 1) := by decide +kernel
theorem d_Node_comeUp_37 : decode mi_Node_comeUp.2.1 37 = .ok (.aload_n 0, 1) := by decide +kernel
theorem d_Node_comeUp_38 : decode mi_Node_comeUp.2.1 38 = .ok (.iconst 0, 1) := by decide +kernel
theorem d_Node_comeUp_39 : decode mi_Node_comeUp.2.1 39 = .ok (.invokevirtual 90, 3) := by decide +kernel
theorem d_Node_comeUp_42 : decode mi_Node_comeUp.2.1 42 = .ok (.aload_n 0, 1) := by decide +kernel
theorem d_Node_comeUp_43 : decode mi_Node_comeUp.2.1 43 = .ok (.iconst 1, 1) := by decide +kernel
theorem d_Node_comeUp_44 : decode mi_Node_comeUp.2.1 44 = .ok (.invokevirtual 90, 3) := by decide +kernel
theorem d_Node_comeUp_47 : decode mi_Node_comeUp.2.1 47 = .ok (.invokestatic 94, 3) := by decide +kernel
theorem d_Node_comeUp_50 : decode mi_Node_comeUp.2.1 50 = .ok (.putfield 60, 3) := by decide +kernel
theorem d_Node_comeUp_53 : decode mi_Node_comeUp.2.1 53 = .ok (.iconst 1, 1) := by decide +kernel
theorem d_Node_comeUp_54 : decode mi_Node_comeUp.2.1 54 = .ok (.istore_n 1, 1) := by decide +kernel
theorem d_Node_comeUp_55 : decode mi_Node_comeUp.2.1 55 = .ok (.iload_n 1, 1) := by decide +kernel
theorem d_Node_comeUp_56 : decode mi_Node_comeUp.2.1 56 = .ok (.bipush (8), 2) := by decide +kernel
theorem d_Node_comeUp_58 : decode mi_Node_comeUp.2.1 58 = .ok (.if_icmp .gt (27), 3) := by decide +kernel
theorem d_Node_comeUp_61 : decode mi_Node_comeUp.2.1 61 = .ok (.aload_n 0, 1) := by decide +kernel
theorem d_Node_comeUp_62 : decode mi_Node_comeUp.2.1 62 = .ok (.getfield 18, 3) := by decide +kernel
theorem d_Node_comeUp_65 : decode mi_Node_comeUp.2.1 65 = .ok (.iload_n 1, 1) := by decide +kernel
theorem d_Node_comeUp_66 : decode mi_Node_comeUp.2.1 66 = .ok (.aload_n 0, 1) := by decide +kernel
theorem d_Node_comeUp_67 : decode mi_Node_comeUp.2.1 67 = .ok (.iconst 2, 1) := by decide +kernel
theorem d_Node_comeUp_68 : decode mi_Node_comeUp.2.1 68 = .ok (.iload_n 1, 1) := by decide +kernel
theorem d_Node_comeUp_69 : decode mi_Node_comeUp.2.1 69 = .ok (.imul, 1) := by decide +kernel
theorem d_Node_comeUp_70 : decode mi_Node_comeUp.2.1 70 = .ok (.iconst 2, 1) := by decide +kernel
theorem d_Node_comeUp_71 : decode mi_Node_comeUp.2.1 71 = .ok (.iload_n 1, 1) := by decide +kernel
theorem d_Node_comeUp_72 : decode mi_Node_comeUp.2.1 72 = .ok (.imul, 1) := by decide +kernel
theorem d_Node_comeUp_73 : decode mi_Node_comeUp.2.1 73 = .ok (.iconst 1, 1) := by decide +kernel
theorem d_Node_comeUp_74 : decode mi_Node_comeUp.2.1 74 = .ok (.iadd, 1) := by decide +kernel
theorem d_Node_comeUp_75 : decode mi_Node_comeUp.2.1 75 = .ok (.invokevirtual 99, 3) := by decide +kernel
theorem d_Node_comeUp_78 : decode mi_Node_comeUp.2.1 78 = .ok (.iastore, 1) := by decide +kernel
theorem d_Node_comeUp_79 : decode mi_Node_comeUp.2.1 79 = .ok (.iinc 1 (1), 3) := by decide +kernel
theorem d_Node_comeUp_82 : decode mi_Node_comeUp.2.1 82 = .ok (.goto (-27), 3) := by decide +kernel
theorem d_Node_comeUp_85 : decode mi_Node_comeUp.2.1 85 = .ok (.return_, 1) := by decide +kernel
theorem d_Node_promiseFound_0 : decode mi_Node_promiseFound.2.1 0 = .ok (.aload_n 0, 1) := by decide +kernel
theorem d_Node_promiseFound_1 : decode mi_Node_promiseFound.2.1 1 = .ok (.getfield 12, 3) := by decide +kernel
theorem d_Node_promiseFound_4 : decode mi_Node_promiseFound.2.1 4 = .ok (.iload_n 1, 1) := by decide +kernel
theorem d_Node_promiseFound_5 : decode mi_Node_promiseFound.2.1 5 = .ok (.invokevirtual 87, 3) := by decide +kernel
theorem d_Node_promiseFound_8 : decode mi_Node_promiseFound.2.1 8 = .ok (.ifCond .eq (7), 3) := by decide +kernel
theorem d_Node_promiseFound_11 : decode mi_Node_promiseFound.2.1 11 = .ok (.iconst 0, 1) := by decide +kernel
theorem d_Node_promiseFound_12 : decode mi_Node_promiseFound.2.1 12 = .ok (.goto (11), 3) := by decide +kernel
theorem d_Node_promiseFound_15 : decode mi_Node_promiseFound.2.1 15 = .ok (.aload_n 0, 1) := by decide +kernel
theorem d_Node_promiseFound_16 : decode mi_Node_promiseFound.2.1 16 = .ok (.getfield 12, 3) := by decide +kernel
theorem d_Node_promiseFound_19 : decode mi_Node_promiseFound.2.1 19 = .ok (.iload_n 1, 1) := by decide +kernel
theorem d_Node_promiseFound_20 : decode mi_Node_promiseFound.2.1 20 = .ok (.invokevirtual 102, 3) := by decide +kernel
theorem d_Node_promiseFound_23 : decode mi_Node_promiseFound.2.1 23 = .ok (.ireturn, 1) := by decide +kernel
theorem d_Node_slotFound_0 : decode mi_Node_slotFound.2.1 0 = .ok (.aload_n 0, 1) := by decide +kernel
theorem d_Node_slotFound_1 : decode mi_Node_slotFound.2.1 1 = .ok (.getfield 12, 3) := by decide +kernel
theorem d_Node_slotFound_4 : decode mi_Node_slotFound.2.1 4 = .ok (.iload_n 1, 1) := by decide +kernel
theorem d_Node_slotFound_5 : decode mi_Node_slotFound.2.1 5 = .ok (.invokevirtual 87, 3) := by decide +kernel
theorem d_Node_slotFound_8 : decode mi_Node_slotFound.2.1 8 = .ok (.ifCond .ne (33), 3) := by decide +kernel
theorem d_Node_slotFound_11 : decode mi_Node_slotFound.2.1 11 = .ok (.aload_n 0, 1) := by decide +kernel
theorem d_Node_slotFound_12 : decode mi_Node_slotFound.2.1 12 = .ok (.getfield 12, 3) := by decide +kernel
theorem d_Node_slotFound_15 : decode mi_Node_slotFound.2.1 15 = .ok (.iload_n 1, 1) := by decide +kernel
theorem d_Node_slotFound_16 : decode mi_Node_slotFound.2.1 16 = .ok (.invokevirtual 102, 3) := by decide +kernel
theorem d_Node_slotFound_19 : decode mi_Node_slotFound.2.1 19 = .ok (.istore_n 3, 1) := by decide +kernel
theorem d_Node_slotFound_20 : decode mi_Node_slotFound.2.1 20 = .ok (.iload_n 3, 1) := by decide +kernel
theorem d_Node_slotFound_21 : decode mi_Node_slotFound.2.1 21 = .ok (.ifCond .ne (7), 3) := by decide +kernel
theorem d_Node_slotFound_24 : decode mi_Node_slotFound.2.1 24 = .ok (.iconst 0, 1) := by decide +kernel
theorem d_Node_slotFound_25 : decode mi_Node_slotFound.2.1 25 = .ok (.goto (15), 3) := by decide +kernel
theorem d_Node_slotFound_28 : decode mi_Node_slotFound.2.1 28 = .ok (.iload_n 3, 1) := by decide +kernel
theorem d_Node_slotFound_29 : decode mi_Node_slotFound.2.1 29 = .ok (.aload_n 0, 1) := by decide +kernel
theorem d_Node_slotFound_30 : decode mi_Node_slotFound.2.1 30 = .ok (.getfield 12, 3) := by decide +kernel
theorem d_Node_slotFound_33 : decode mi_Node_slotFound.2.1 33 = .ok (.iload_n 1, 1) := by decide +kernel
theorem d_Node_slotFound_34 : decode mi_Node_slotFound.2.1 34 = .ok (.invokevirtual 105, 3) := by decide +kernel
theorem d_Node_slotFound_37 : decode mi_Node_slotFound.2.1 37 = .ok (.invokestatic 67, 3) := by decide +kernel
theorem d_Node_slotFound_40 : decode mi_Node_slotFound.2.1 40 = .ok (.ireturn, 1) := by decide +kernel
theorem d_Node_slotFound_41 : decode mi_Node_slotFound.2.1 41 = .ok (.aload_n 0, 1) := by decide +kernel
theorem d_Node_slotFound_42 : decode mi_Node_slotFound.2.1 42 = .ok (.getfield 12, 3) := by decide +kernel
theorem d_Node_slotFound_45 : decode mi_Node_slotFound.2.1 45 = .ok (.iload_n 2, 1) := by decide +kernel
theorem d_Node_slotFound_46 : decode mi_Node_slotFound.2.1 46 = .ok (.invokevirtual 87, 3) := by decide +kernel
theorem d_Node_slotFound_49 : decode mi_Node_slotFound.2.1 49 = .ok (.ifCond .eq (6), 3) := by decide +kernel
theorem d_Node_slotFound_52 : decode mi_Node_slotFound.2.1 52 = .ok (.ldc 108, 2) := by decide +kernel
theorem d_Node_slotFound_54 : decode mi_Node_slotFound.2.1 54 = .ok (.ireturn, 1) := by decide +kernel
theorem d_Node_slotFound_55 : decode mi_Node_slotFound.2.1 55 = .ok (.aload_n 0, 1) := by decide +kernel
theorem d_Node_slotFound_56 : decode mi_Node_slotFound.2.1 56 = .ok (.getfield 12, 3) := by decide +kernel
theorem d_Node_slotFound_59 : decode mi_Node_slotFound.2.1 59 = .ok (.iload_n 2, 1) := by decide +kernel
theorem d_Node_slotFound_60 : decode mi_Node_slotFound.2.1 60 = .ok (.invokevirtual 102, 3) := by decide +kernel
theorem d_Node_slotFound_63 : decode mi_Node_slotFound.2.1 63 = .ok (.istore_n 3, 1) := by decide +kernel
theorem d_Node_slotFound_64 : decode mi_Node_slotFound.2.1 64 = .ok (.iload_n 3, 1) := by decide +kernel
theorem d_Node_slotFound_65 : decode mi_Node_slotFound.2.1 65 = .ok (.ifCond .ne (7), 3) := by decide +kernel
theorem d_Node_slotFound_68 : decode mi_Node_slotFound.2.1 68 = .ok (.iconst 0, 1) := by decide +kernel
theorem d_Node_slotFound_69 : decode mi_Node_slotFound.2.1 69 = .ok (.goto (7), 3) := by decide +kernel
theorem d_Node_slotFound_72 : decode mi_Node_slotFound.2.1 72 = .ok (.iload_n 3, 1) := by decide +kernel
theorem d_Node_slotFound_73 : decode mi_Node_slotFound.2.1 73 = .ok (.invokestatic 109, 3) := by decide +kernel
theorem d_Node_slotFound_76 : decode mi_Node_slotFound.2.1 76 = .ok (.ireturn, 1) := by decide +kernel
theorem d_SlotState_wholeWith_0 : decode mi_SlotState_wholeWith.2.1 0 = .ok (.bipush (64), 2) := by decide +kernel
theorem d_SlotState_wholeWith_2 : decode mi_SlotState_wholeWith.2.1 2 = .ok (.iload_n 0, 1) := by decide +kernel
theorem d_SlotState_wholeWith_3 : decode mi_SlotState_wholeWith.2.1 3 = .ok (.imul, 1) := by decide +kernel
theorem d_SlotState_wholeWith_4 : decode mi_SlotState_wholeWith.2.1 4 = .ok (.iload_n 1, 1) := by decide +kernel
theorem d_SlotState_wholeWith_5 : decode mi_SlotState_wholeWith.2.1 5 = .ok (.iadd, 1) := by decide +kernel
theorem d_SlotState_wholeWith_6 : decode mi_SlotState_wholeWith.2.1 6 = .ok (.ireturn, 1) := by decide +kernel
theorem d_SlotState_damagedWith_0 : decode mi_SlotState_damagedWith.2.1 0 = .ok (.bipush (-2), 2) := by decide +kernel
theorem d_SlotState_damagedWith_2 : decode mi_SlotState_damagedWith.2.1 2 = .ok (.iload_n 0, 1) := by decide +kernel
theorem d_SlotState_damagedWith_3 : decode mi_SlotState_damagedWith.2.1 3 = .ok (.isub, 1) := by decide +kernel
theorem d_SlotState_damagedWith_4 : decode mi_SlotState_damagedWith.2.1 4 = .ok (.ireturn, 1) := by decide +kernel
theorem d_SlotState_isWhole_0 : decode mi_SlotState_isWhole.2.1 0 = .ok (.iload_n 0, 1) := by decide +kernel
theorem d_SlotState_isWhole_1 : decode mi_SlotState_isWhole.2.1 1 = .ok (.ifCond .le (7), 3) := by decide +kernel
theorem d_SlotState_isWhole_4 : decode mi_SlotState_isWhole.2.1 4 = .ok (.iconst 1, 1) := by decide +kernel
theorem d_SlotState_isWhole_5 : decode mi_SlotState_isWhole.2.1 5 = .ok (.goto (4), 3) := by decide +kernel
theorem d_SlotState_isWhole_8 : decode mi_SlotState_isWhole.2.1 8 = .ok (.iconst 0, 1) := by decide +kernel
theorem d_SlotState_isWhole_9 : decode mi_SlotState_isWhole.2.1 9 = .ok (.ireturn, 1) := by decide +kernel
theorem d_SlotState_isDamaged_0 : decode mi_SlotState_isDamaged.2.1 0 = .ok (.iload_n 0, 1) := by decide +kernel
theorem d_SlotState_isDamaged_1 : decode mi_SlotState_isDamaged.2.1 1 = .ok (.ifCond .ge (7), 3) := by decide +kernel
theorem d_SlotState_isDamaged_4 : decode mi_SlotState_isDamaged.2.1 4 = .ok (.iconst 1, 1) := by decide +kernel
theorem d_SlotState_isDamaged_5 : decode mi_SlotState_isDamaged.2.1 5 = .ok (.goto (4), 3) := by decide +kernel
theorem d_SlotState_isDamaged_8 : decode mi_SlotState_isDamaged.2.1 8 = .ok (.iconst 0, 1) := by decide +kernel
theorem d_SlotState_isDamaged_9 : decode mi_SlotState_isDamaged.2.1 9 = .ok (.ireturn, 1) := by decide +kernel
theorem d_SlotState_ballotOf_0 : decode mi_SlotState_ballotOf.2.1 0 = .ok (.iload_n 0, 1) := by decide +kernel
theorem d_SlotState_ballotOf_1 : decode mi_SlotState_ballotOf.2.1 1 = .ok (.ldc 9, 2) := by decide +kernel
theorem d_SlotState_ballotOf_3 : decode mi_SlotState_ballotOf.2.1 3 = .ok (.if_icmp .ne (6), 3) := by decide +kernel
theorem d_SlotState_ballotOf_6 : decode mi_SlotState_ballotOf.2.1 6 = .ok (.ldc 10, 2) := by decide +kernel
theorem d_SlotState_ballotOf_8 : decode mi_SlotState_ballotOf.2.1 8 = .ok (.ireturn, 1) := by decide +kernel
theorem d_SlotState_ballotOf_9 : decode mi_SlotState_ballotOf.2.1 9 = .ok (.iload_n 0, 1) := by decide +kernel
theorem d_SlotState_ballotOf_10 : decode mi_SlotState_ballotOf.2.1 10 = .ok (.ifCond .ge (10), 3) := by decide +kernel
theorem d_SlotState_ballotOf_13 : decode mi_SlotState_ballotOf.2.1 13 = .ok (.bipush (-2), 2) := by decide +kernel
theorem d_SlotState_ballotOf_15 : decode mi_SlotState_ballotOf.2.1 15 = .ok (.iload_n 0, 1) := by decide +kernel
theorem d_SlotState_ballotOf_16 : decode mi_SlotState_ballotOf.2.1 16 = .ok (.isub, 1) := by decide +kernel
theorem d_SlotState_ballotOf_17 : decode mi_SlotState_ballotOf.2.1 17 = .ok (.goto (7), 3) := by decide +kernel
theorem d_SlotState_ballotOf_20 : decode mi_SlotState_ballotOf.2.1 20 = .ok (.iload_n 0, 1) := by decide +kernel
theorem d_SlotState_ballotOf_21 : decode mi_SlotState_ballotOf.2.1 21 = .ok (.bipush (64), 2) := by decide +kernel
theorem d_SlotState_ballotOf_23 : decode mi_SlotState_ballotOf.2.1 23 = .ok (.idiv, 1) := by decide +kernel
theorem d_SlotState_ballotOf_24 : decode mi_SlotState_ballotOf.2.1 24 = .ok (.ireturn, 1) := by decide +kernel
theorem d_SlotState_commandOf_0 : decode mi_SlotState_commandOf.2.1 0 = .ok (.iload_n 0, 1) := by decide +kernel
theorem d_SlotState_commandOf_1 : decode mi_SlotState_commandOf.2.1 1 = .ok (.bipush (64), 2) := by decide +kernel
theorem d_SlotState_commandOf_3 : decode mi_SlotState_commandOf.2.1 3 = .ok (.irem, 1) := by decide +kernel
theorem d_SlotState_commandOf_4 : decode mi_SlotState_commandOf.2.1 4 = .ok (.ireturn, 1) := by decide +kernel
theorem d_Term_init_0 : decode mi_Term_init.2.1 0 = .ok (.aload_n 0, 1) := by decide +kernel
theorem d_Term_init_1 : decode mi_Term_init.2.1 1 = .ok (.invokespecial 3, 3) := by decide +kernel
theorem d_Term_init_4 : decode mi_Term_init.2.1 4 = .ok (.aload_n 0, 1) := by decide +kernel
theorem d_Term_init_5 : decode mi_Term_init.2.1 5 = .ok (.bipush (9), 2) := by decide +kernel
theorem d_Term_init_7 : decode mi_Term_init.2.1 7 = .ok (.newarray .int, 2) := by decide +kernel
theorem d_Term_init_9 : decode mi_Term_init.2.1 9 = .ok (.putfield 9, 3) := by decide +kernel
theorem d_Term_init_12 : decode mi_Term_init.2.1 12 = .ok (.aload_n 0, 1) := by decide +kernel
theorem d_Term_init_13 : decode mi_Term_init.2.1 13 = .ok (.bipush (9), 2) := by decide +kernel
theorem d_Term_init_15 : decode mi_Term_init.2.1 15 = .ok (.newarray .int, 2) := by decide +kernel
theorem d_Term_init_17 : decode mi_Term_init.2.1 17 = .ok (.putfield 15, 3) := by decide +kernel
theorem d_Term_init_20 : decode mi_Term_init.2.1 20 = .ok (.aload_n 0, 1) := by decide +kernel
theorem d_Term_init_21 : decode mi_Term_init.2.1 21 = .ok (.bipush (9), 2) := by decide +kernel
theorem d_Term_init_23 : decode mi_Term_init.2.1 23 = .ok (.newarray .int, 2) := by decide +kernel
theorem d_Term_init_25 : decode mi_Term_init.2.1 25 = .ok (.putfield 18, 3) := by decide +kernel
theorem d_Term_init_28 : decode mi_Term_init.2.1 28 = .ok (.aload_n 0, 1) := by decide +kernel
theorem d_Term_init_29 : decode mi_Term_init.2.1 29 = .ok (.iload_n 1, 1) := by decide +kernel
theorem d_Term_init_30 : decode mi_Term_init.2.1 30 = .ok (.putfield 21, 3) := by decide +kernel
theorem d_Term_init_33 : decode mi_Term_init.2.1 33 = .ok (.aload_n 0, 1) := by decide +kernel
theorem d_Term_init_34 : decode mi_Term_init.2.1 34 = .ok (.iload_n 1, 1) := by decide +kernel
theorem d_Term_init_35 : decode mi_Term_init.2.1 35 = .ok (.bipush (9), 2) := by decide +kernel
theorem d_Term_init_37 : decode mi_Term_init.2.1 37 = .ok (.imul, 1) := by decide +kernel
theorem d_Term_init_38 : decode mi_Term_init.2.1 38 = .ok (.newarray .int, 2) := by decide +kernel
theorem d_Term_init_40 : decode mi_Term_init.2.1 40 = .ok (.putfield 25, 3) := by decide +kernel
theorem d_Term_init_43 : decode mi_Term_init.2.1 43 = .ok (.return_, 1) := by decide +kernel
theorem d_Term_begin_0 : decode mi_Term_begin.2.1 0 = .ok (.aload_n 0, 1) := by decide +kernel
theorem d_Term_begin_1 : decode mi_Term_begin.2.1 1 = .ok (.iload_n 1, 1) := by decide +kernel
theorem d_Term_begin_2 : decode mi_Term_begin.2.1 2 = .ok (.putfield 28, 3) := by decide +kernel
theorem d_Term_begin_5 : decode mi_Term_begin.2.1 5 = .ok (.aload_n 0, 1) := by decide +kernel
theorem d_Term_begin_6 : decode mi_Term_begin.2.1 6 = .ok (.iconst 0, 1) := by decide +kernel
theorem d_Term_begin_7 : decode mi_Term_begin.2.1 7 = .ok (.putfield 31, 3) := by decide +kernel
theorem d_Term_begin_10 : decode mi_Term_begin.2.1 10 = .ok (.iconst 1, 1) := by decide +kernel
theorem d_Term_begin_11 : decode mi_Term_begin.2.1 11 = .ok (.istore_n 2, 1) := by decide +kernel
theorem d_Term_begin_12 : decode mi_Term_begin.2.1 12 = .ok (.iload_n 2, 1) := by decide +kernel
theorem d_Term_begin_13 : decode mi_Term_begin.2.1 13 = .ok (.bipush (8), 2) := by decide +kernel
theorem d_Term_begin_15 : decode mi_Term_begin.2.1 15 = .ok (.if_icmp .gt (30), 3) := by decide +kernel
theorem d_Term_begin_18 : decode mi_Term_begin.2.1 18 = .ok (.aload_n 0, 1) := by decide +kernel
theorem d_Term_begin_19 : decode mi_Term_begin.2.1 19 = .ok (.getfield 9, 3) := by decide +kernel
theorem d_Term_begin_22 : decode mi_Term_begin.2.1 22 = .ok (.iload_n 2, 1) := by decide +kernel
theorem d_Term_begin_23 : decode mi_Term_begin.2.1 23 = .ok (.iconst 0, 1) := by decide +kernel
theorem d_Term_begin_24 : decode mi_Term_begin.2.1 24 = .ok (.iastore, 1) := by decide +kernel
theorem d_Term_begin_25 : decode mi_Term_begin.2.1 25 = .ok (.aload_n 0, 1) := by decide +kernel
theorem d_Term_begin_26 : decode mi_Term_begin.2.1 26 = .ok (.getfield 15, 3) := by decide +kernel
theorem d_Term_begin_29 : decode mi_Term_begin.2.1 29 = .ok (.iload_n 2, 1) := by decide +kernel
theorem d_Term_begin_30 : decode mi_Term_begin.2.1 30 = .ok (.iconst (-1), 1) := by decide +kernel
theorem d_Term_begin_31 : decode mi_Term_begin.2.1 31 = .ok (.iastore, 1) := by decide +kernel
theorem d_Term_begin_32 : decode mi_Term_begin.2.1 32 = .ok (.aload_n 0, 1) := by decide +kernel
theorem d_Term_begin_33 : decode mi_Term_begin.2.1 33 = .ok (.getfield 18, 3) := by decide +kernel
theorem d_Term_begin_36 : decode mi_Term_begin.2.1 36 = .ok (.iload_n 2, 1) := by decide +kernel
theorem d_Term_begin_37 : decode mi_Term_begin.2.1 37 = .ok (.iconst 0, 1) := by decide +kernel
theorem d_Term_begin_38 : decode mi_Term_begin.2.1 38 = .ok (.iastore, 1) := by decide +kernel
theorem d_Term_begin_39 : decode mi_Term_begin.2.1 39 = .ok (.iinc 2 (1), 3) := by decide +kernel
theorem d_Term_begin_42 : decode mi_Term_begin.2.1 42 = .ok (.goto (-30), 3) := by decide +kernel
theorem d_Term_begin_45 : decode mi_Term_begin.2.1 45 = .ok (.return_, 1) := by decide +kernel
theorem d_Term_end_0 : decode mi_Term_end.2.1 0 = .ok (.aload_n 0, 1) := by decide +kernel
theorem d_Term_end_1 : decode mi_Term_end.2.1 1 = .ok (.iconst 0, 1) := by decide +kernel
theorem d_Term_end_2 : decode mi_Term_end.2.1 2 = .ok (.putfield 28, 3) := by decide +kernel
theorem d_Term_end_5 : decode mi_Term_end.2.1 5 = .ok (.aload_n 0, 1) := by decide +kernel
theorem d_Term_end_6 : decode mi_Term_end.2.1 6 = .ok (.iconst 0, 1) := by decide +kernel
theorem d_Term_end_7 : decode mi_Term_end.2.1 7 = .ok (.putfield 31, 3) := by decide +kernel
theorem d_Term_end_10 : decode mi_Term_end.2.1 10 = .ok (.return_, 1) := by decide +kernel
theorem d_Term_isOn_0 : decode mi_Term_isOn.2.1 0 = .ok (.aload_n 0, 1) := by decide +kernel
theorem d_Term_isOn_1 : decode mi_Term_isOn.2.1 1 = .ok (.getfield 28, 3) := by decide +kernel
theorem d_Term_isOn_4 : decode mi_Term_isOn.2.1 4 = .ok (.ifCond .eq (7), 3) := by decide +kernel
theorem d_Term_isOn_7 : decode mi_Term_isOn.2.1 7 = .ok (.iconst 1, 1) := by decide +kernel
theorem d_Term_isOn_8 : decode mi_Term_isOn.2.1 8 = .ok (.goto (4), 3) := by decide +kernel
theorem d_Term_isOn_11 : decode mi_Term_isOn.2.1 11 = .ok (.iconst 0, 1) := by decide +kernel
theorem d_Term_isOn_12 : decode mi_Term_isOn.2.1 12 = .ok (.ireturn, 1) := by decide +kernel
theorem d_Term_hasMajority_0 : decode mi_Term_hasMajority.2.1 0 = .ok (.aload_n 0, 1) := by decide +kernel
theorem d_Term_hasMajority_1 : decode mi_Term_hasMajority.2.1 1 = .ok (.aload_n 0, 1) := by decide +kernel
theorem d_Term_hasMajority_2 : decode mi_Term_hasMajority.2.1 2 = .ok (.getfield 31, 3) := by decide +kernel
theorem d_Term_hasMajority_5 : decode mi_Term_hasMajority.2.1 5 = .ok (.invokestatic 34, 3) := by decide +kernel
theorem d_Term_hasMajority_8 : decode mi_Term_hasMajority.2.1 8 = .ok (.invokevirtual 40, 3) := by decide +kernel
theorem d_Term_hasMajority_11 : decode mi_Term_hasMajority.2.1 11 = .ok (.ireturn, 1) := by decide +kernel
theorem d_Term_isMajority_0 : decode mi_Term_isMajority.2.1 0 = .ok (.iconst 2, 1) := by decide +kernel
theorem d_Term_isMajority_1 : decode mi_Term_isMajority.2.1 1 = .ok (.iload_n 1, 1) := by decide +kernel
theorem d_Term_isMajority_2 : decode mi_Term_isMajority.2.1 2 = .ok (.imul, 1) := by decide +kernel
theorem d_Term_isMajority_3 : decode mi_Term_isMajority.2.1 3 = .ok (.aload_n 0, 1) := by decide +kernel
theorem d_Term_isMajority_4 : decode mi_Term_isMajority.2.1 4 = .ok (.getfield 21, 3) := by decide +kernel
theorem d_Term_isMajority_7 : decode mi_Term_isMajority.2.1 7 = .ok (.if_icmp .le (7), 3) := by decide +kernel
theorem d_Term_isMajority_10 : decode mi_Term_isMajority.2.1 10 = .ok (.iconst 1, 1) := by decide +kernel
theorem d_Term_isMajority_11 : decode mi_Term_isMajority.2.1 11 = .ok (.goto (4), 3) := by decide +kernel
theorem d_Term_isMajority_14 : decode mi_Term_isMajority.2.1 14 = .ok (.iconst 0, 1) := by decide +kernel
theorem d_Term_isMajority_15 : decode mi_Term_isMajority.2.1 15 = .ok (.ireturn, 1) := by decide +kernel
theorem d_Term_addPromiser_0 : decode mi_Term_addPromiser.2.1 0 = .ok (.aload_n 0, 1) := by decide +kernel
theorem d_Term_addPromiser_1 : decode mi_Term_addPromiser.2.1 1 = .ok (.dup, 1) := by decide +kernel
theorem d_Term_addPromiser_2 : decode mi_Term_addPromiser.2.1 2 = .ok (.getfield 31, 3) := by decide +kernel
theorem d_Term_addPromiser_5 : decode mi_Term_addPromiser.2.1 5 = .ok (.iconst 1, 1) := by decide +kernel
theorem d_Term_addPromiser_6 : decode mi_Term_addPromiser.2.1 6 = .ok (.iload_n 1, 1) := by decide +kernel
theorem d_Term_addPromiser_7 : decode mi_Term_addPromiser.2.1 7 = .ok (.ishl, 1) := by decide +kernel
theorem d_Term_addPromiser_8 : decode mi_Term_addPromiser.2.1 8 = .ok (.ior, 1) := by decide +kernel
theorem d_Term_addPromiser_9 : decode mi_Term_addPromiser.2.1 9 = .ok (.putfield 31, 3) := by decide +kernel
theorem d_Term_addPromiser_12 : decode mi_Term_addPromiser.2.1 12 = .ok (.iconst 1, 1) := by decide +kernel
theorem d_Term_addPromiser_13 : decode mi_Term_addPromiser.2.1 13 = .ok (.istore_n 3, 1) := by decide +kernel
theorem d_Term_addPromiser_14 : decode mi_Term_addPromiser.2.1 14 = .ok (.iload_n 3, 1) := by decide +kernel
theorem d_Term_addPromiser_15 : decode mi_Term_addPromiser.2.1 15 = .ok (.bipush (8), 2) := by decide +kernel
theorem d_Term_addPromiser_17 : decode mi_Term_addPromiser.2.1 17 = .ok (.if_icmp .gt (23), 3) := by decide +kernel
theorem d_Term_addPromiser_20 : decode mi_Term_addPromiser.2.1 20 = .ok (.aload_n 0, 1) := by decide +kernel
theorem d_Term_addPromiser_21 : decode mi_Term_addPromiser.2.1 21 = .ok (.getfield 25, 3) := by decide +kernel
theorem d_Term_addPromiser_24 : decode mi_Term_addPromiser.2.1 24 = .ok (.iload_n 1, 1) := by decide +kernel
theorem d_Term_addPromiser_25 : decode mi_Term_addPromiser.2.1 25 = .ok (.bipush (9), 2) := by decide +kernel
theorem d_Term_addPromiser_27 : decode mi_Term_addPromiser.2.1 27 = .ok (.imul, 1) := by decide +kernel
theorem d_Term_addPromiser_28 : decode mi_Term_addPromiser.2.1 28 = .ok (.iload_n 3, 1) := by decide +kernel
theorem d_Term_addPromiser_29 : decode mi_Term_addPromiser.2.1 29 = .ok (.iadd, 1) := by decide +kernel
theorem d_Term_addPromiser_30 : decode mi_Term_addPromiser.2.1 30 = .ok (.aload_n 2, 1) := by decide +kernel
theorem d_Term_addPromiser_31 : decode mi_Term_addPromiser.2.1 31 = .ok (.iload_n 3, 1) := by decide +kernel
theorem d_Term_addPromiser_32 : decode mi_Term_addPromiser.2.1 32 = .ok (.iaload, 1) := by decide +kernel
theorem d_Term_addPromiser_33 : decode mi_Term_addPromiser.2.1 33 = .ok (.iastore, 1) := by decide +kernel
theorem d_Term_addPromiser_34 : decode mi_Term_addPromiser.2.1 34 = .ok (.iinc 3 (1), 3) := by decide +kernel
theorem d_Term_addPromiser_37 : decode mi_Term_addPromiser.2.1 37 = .ok (.goto (-23), 3) := by decide +kernel
theorem d_Term_addPromiser_40 : decode mi_Term_addPromiser.2.1 40 = .ok (.return_, 1) := by decide +kernel
theorem d_Term_planOf_0 : decode mi_Term_planOf.2.1 0 = .ok (.iconst 0, 1) := by decide +kernel
theorem d_Term_planOf_1 : decode mi_Term_planOf.2.1 1 = .ok (.istore_n 2, 1) := by decide +kernel
theorem d_Term_planOf_2 : decode mi_Term_planOf.2.1 2 = .ok (.iconst 0, 1) := by decide +kernel
theorem d_Term_planOf_3 : decode mi_Term_planOf.2.1 3 = .ok (.istore_n 3, 1) := by decide +kernel
theorem d_Term_planOf_4 : decode mi_Term_planOf.2.1 4 = .ok (.iconst 0, 1) := by decide +kernel
theorem d_Term_planOf_5 : decode mi_Term_planOf.2.1 5 = .ok (.istore 4, 2) := by decide +kernel
theorem d_Term_planOf_7 : decode mi_Term_planOf.2.1 7 = .ok (.iconst 0, 1) := by decide +kernel
theorem d_Term_planOf_8 : decode mi_Term_planOf.2.1 8 = .ok (.istore 5, 2) := by decide +kernel
theorem d_Term_planOf_10 : decode mi_Term_planOf.2.1 10 = .ok (.iload 5, 2) := by decide +kernel
theorem d_Term_planOf_12 : decode mi_Term_planOf.2.1 12 = .ok (.aload_n 0, 1) := by decide +kernel
theorem d_Term_planOf_13 : decode mi_Term_planOf.2.1 13 = .ok (.getfield 21, 3) := by decide +kernel
theorem d_Term_planOf_16 : decode mi_Term_planOf.2.1 16 = .ok (.if_icmp .ge (84), 3) := by decide +kernel
theorem d_Term_planOf_19 : decode mi_Term_planOf.2.1 19 = .ok (.aload_n 0, 1) := by decide +kernel
theorem d_Term_planOf_20 : decode mi_Term_planOf.2.1 20 = .ok (.getfield 31, 3) := by decide +kernel
theorem d_Term_planOf_23 : decode mi_Term_planOf.2.1 23 = .ok (.iload 5, 2) := by decide +kernel
theorem d_Term_planOf_25 : decode mi_Term_planOf.2.1 25 = .ok (.ishr, 1) := by decide +kernel
theorem d_Term_planOf_26 : decode mi_Term_planOf.2.1 26 = .ok (.iconst 1, 1) := by decide +kernel
theorem d_Term_planOf_27 : decode mi_Term_planOf.2.1 27 = .ok (.iand, 1) := by decide +kernel
theorem d_Term_planOf_28 : decode mi_Term_planOf.2.1 28 = .ok (.ifCond .ne (6), 3) := by decide +kernel
theorem d_Term_planOf_31 : decode mi_Term_planOf.2.1 31 = .ok (.goto (63), 3) := by decide +kernel
theorem d_Term_planOf_34 : decode mi_Term_planOf.2.1 34 = .ok (.aload_n 0, 1) := by decide +kernel
theorem d_Term_planOf_35 : decode mi_Term_planOf.2.1 35 = .ok (.getfield 25, 3) := by decide +kernel
theorem d_Term_planOf_38 : decode mi_Term_planOf.2.1 38 = .ok (.iload 5, 2) := by decide +kernel
theorem d_Term_planOf_40 : decode mi_Term_planOf.2.1 40 = .ok (.bipush (9), 2) := by decide +kernel
theorem d_Term_planOf_42 : decode mi_Term_planOf.2.1 42 = .ok (.imul, 1) := by decide +kernel
theorem d_Term_planOf_43 : decode mi_Term_planOf.2.1 43 = .ok (.iload_n 1, 1) := by decide +kernel
theorem d_Term_planOf_44 : decode mi_Term_planOf.2.1 44 = .ok (.iadd, 1) := by decide +kernel
theorem d_Term_planOf_45 : decode mi_Term_planOf.2.1 45 = .ok (.iaload, 1) := by decide +kernel
theorem d_Term_planOf_46 : decode mi_Term_planOf.2.1 46 = .ok (.istore 6, 2) := by decide +kernel
theorem d_Term_planOf_48 : decode mi_Term_planOf.2.1 48 = .ok (.iload 6, 2) := by decide +kernel
theorem d_Term_planOf_50 : decode mi_Term_planOf.2.1 50 = .ok (.invokestatic 46, 3) := by decide +kernel
theorem d_Term_planOf_53 : decode mi_Term_planOf.2.1 53 = .ok (.istore 7, 2) := by decide +kernel
theorem d_Term_planOf_55 : decode mi_Term_planOf.2.1 55 = .ok (.iload 6, 2) := by decide +kernel
theorem d_Term_planOf_57 : decode mi_Term_planOf.2.1 57 = .ok (.invokestatic 49, 3) := by decide +kernel
theorem d_Term_planOf_60 : decode mi_Term_planOf.2.1 60 = .ok (.ifCond .eq (15), 3) := by decide +kernel
theorem d_Term_planOf_63 : decode mi_Term_planOf.2.1 63 = .ok (.iload 4, 2) := by decide +kernel
theorem d_Term_planOf_65 : decode mi_Term_planOf.2.1 65 = .ok (.iload 7, 2) := by decide +kernel
theorem d_Term_planOf_67 : decode mi_Term_planOf.2.1 67 = .ok (.invokestatic 52, 3) := by decide +kernel
theorem d_Term_planOf_70 : decode mi_Term_planOf.2.1 70 = .ok (.istore 4, 2) := by decide +kernel
theorem d_Term_planOf_72 : decode mi_Term_planOf.2.1 72 = .ok (.goto (22), 3) := by decide +kernel
theorem d_Term_planOf_75 : decode mi_Term_planOf.2.1 75 = .ok (.iinc 3 (1), 3) := by decide +kernel
theorem d_Term_planOf_78 : decode mi_Term_planOf.2.1 78 = .ok (.iload 7, 2) := by decide +kernel
theorem d_Term_planOf_80 : decode mi_Term_planOf.2.1 80 = .ok (.iload_n 2, 1) := by decide +kernel
theorem d_Term_planOf_81 : decode mi_Term_planOf.2.1 81 = .ok (.invokestatic 46, 3) := by decide +kernel
theorem d_Term_planOf_84 : decode mi_Term_planOf.2.1 84 = .ok (.if_icmp .le (8), 3) := by decide +kernel
theorem d_Term_planOf_87 : decode mi_Term_planOf.2.1 87 = .ok (.iload 6, 2) := by decide +kernel
theorem d_Term_planOf_89 : decode mi_Term_planOf.2.1 89 = .ok (.goto (4), 3) := by decide +kernel
theorem d_Term_planOf_92 : decode mi_Term_planOf.2.1 92 = .ok (.iload_n 2, 1) := by decide +kernel
theorem d_Term_planOf_93 : decode mi_Term_planOf.2.1 93 = .ok (.istore_n 2, 1) := by decide +kernel
theorem d_Term_planOf_94 : decode mi_Term_planOf.2.1 94 = .ok (.iinc 5 (1), 3) := by decide +kernel
theorem d_Term_planOf_97 : decode mi_Term_planOf.2.1 97 = .ok (.goto (-87), 3) := by decide +kernel
theorem d_Term_planOf_100 : decode mi_Term_planOf.2.1 100 = .ok (.aload_n 0, 1) := by decide +kernel
theorem d_Term_planOf_101 : decode mi_Term_planOf.2.1 101 = .ok (.iload_n 3, 1) := by decide +kernel
theorem d_Term_planOf_102 : decode mi_Term_planOf.2.1 102 = .ok (.invokevirtual 40, 3) := by decide +kernel
theorem d_Term_planOf_105 : decode mi_Term_planOf.2.1 105 = .ok (.ifCond .ne (15), 3) := by decide +kernel
theorem d_Term_planOf_108 : decode mi_Term_planOf.2.1 108 = .ok (.iload 4, 2) := by decide +kernel
theorem d_Term_planOf_110 : decode mi_Term_planOf.2.1 110 = .ok (.iload_n 2, 1) := by decide +kernel
theorem d_Term_planOf_111 : decode mi_Term_planOf.2.1 111 = .ok (.invokestatic 46, 3) := by decide +kernel
theorem d_Term_planOf_114 : decode mi_Term_planOf.2.1 114 = .ok (.if_icmp .le (6), 3) := by decide +kernel
theorem d_Term_planOf_117 : decode mi_Term_planOf.2.1 117 = .ok (.bipush (-2), 2) := by decide +kernel
theorem d_Term_planOf_119 : decode mi_Term_planOf.2.1 119 = .ok (.ireturn, 1) := by decide +kernel
theorem d_Term_planOf_120 : decode mi_Term_planOf.2.1 120 = .ok (.iload_n 2, 1) := by decide +kernel
theorem d_Term_planOf_121 : decode mi_Term_planOf.2.1 121 = .ok (.invokestatic 58, 3) := by decide +kernel
theorem d_Term_planOf_124 : decode mi_Term_planOf.2.1 124 = .ok (.ifCond .eq (10), 3) := by decide +kernel
theorem d_Term_planOf_127 : decode mi_Term_planOf.2.1 127 = .ok (.iload_n 2, 1) := by decide +kernel
theorem d_Term_planOf_128 : decode mi_Term_planOf.2.1 128 = .ok (.invokestatic 61, 3) := by decide +kernel
theorem d_Term_planOf_131 : decode mi_Term_planOf.2.1 131 = .ok (.goto (5), 3) := by decide +kernel
theorem d_Term_planOf_134 : decode mi_Term_planOf.2.1 134 = .ok (.bipush (-3), 2) := by decide +kernel
theorem d_Term_planOf_136 : decode mi_Term_planOf.2.1 136 = .ok (.ireturn, 1) := by decide +kernel
theorem d_Term_slotFor_0 : decode mi_Term_slotFor.2.1 0 = .ok (.iconst 1, 1) := by decide +kernel
theorem d_Term_slotFor_1 : decode mi_Term_slotFor.2.1 1 = .ok (.istore_n 2, 1) := by decide +kernel
theorem d_Term_slotFor_2 : decode mi_Term_slotFor.2.1 2 = .ok (.iload_n 2, 1) := by decide +kernel
theorem d_Term_slotFor_3 : decode mi_Term_slotFor.2.1 3 = .ok (.bipush (8), 2) := by decide +kernel
theorem d_Term_slotFor_5 : decode mi_Term_slotFor.2.1 5 = .ok (.if_icmp .gt (21), 3) := by decide +kernel
theorem d_Term_slotFor_8 : decode mi_Term_slotFor.2.1 8 = .ok (.aload_n 0, 1) := by decide +kernel
theorem d_Term_slotFor_9 : decode mi_Term_slotFor.2.1 9 = .ok (.getfield 9, 3) := by decide +kernel
theorem d_Term_slotFor_12 : decode mi_Term_slotFor.2.1 12 = .ok (.iload_n 2, 1) := by decide +kernel
theorem d_Term_slotFor_13 : decode mi_Term_slotFor.2.1 13 = .ok (.iaload, 1) := by decide +kernel
theorem d_Term_slotFor_14 : decode mi_Term_slotFor.2.1 14 = .ok (.iload_n 1, 1) := by decide +kernel
theorem d_Term_slotFor_15 : decode mi_Term_slotFor.2.1 15 = .ok (.if_icmp .ne (5), 3) := by decide +kernel
theorem d_Term_slotFor_18 : decode mi_Term_slotFor.2.1 18 = .ok (.iload_n 2, 1) := by decide +kernel
theorem d_Term_slotFor_19 : decode mi_Term_slotFor.2.1 19 = .ok (.ireturn, 1) := by decide +kernel
theorem d_Term_slotFor_20 : decode mi_Term_slotFor.2.1 20 = .ok (.iinc 2 (1), 3) := by decide +kernel
theorem d_Term_slotFor_23 : decode mi_Term_slotFor.2.1 23 = .ok (.goto (-21), 3) := by decide +kernel
theorem d_Term_slotFor_26 : decode mi_Term_slotFor.2.1 26 = .ok (.aload_n 0, 1) := by decide +kernel
theorem d_Term_slotFor_27 : decode mi_Term_slotFor.2.1 27 = .ok (.invokevirtual 64, 3) := by decide +kernel
theorem d_Term_slotFor_30 : decode mi_Term_slotFor.2.1 30 = .ok (.istore_n 2, 1) := by decide +kernel
theorem d_Term_slotFor_31 : decode mi_Term_slotFor.2.1 31 = .ok (.iload_n 2, 1) := by decide +kernel
theorem d_Term_slotFor_32 : decode mi_Term_slotFor.2.1 32 = .ok (.ifCond .eq (10), 3) := by decide +kernel
theorem d_Term_slotFor_35 : decode mi_Term_slotFor.2.1 35 = .ok (.aload_n 0, 1) := by decide +kernel
theorem d_Term_slotFor_36 : decode mi_Term_slotFor.2.1 36 = .ok (.getfield 9, 3) := by decide +kernel
theorem d_Term_slotFor_39 : decode mi_Term_slotFor.2.1 39 = .ok (.iload_n 2, 1) := by decide +kernel
theorem d_Term_slotFor_40 : decode mi_Term_slotFor.2.1 40 = .ok (.iload_n 1, 1) := by decide +kernel
theorem d_Term_slotFor_41 : decode mi_Term_slotFor.2.1 41 = .ok (.iastore, 1) := by decide +kernel
theorem d_Term_slotFor_42 : decode mi_Term_slotFor.2.1 42 = .ok (.iload_n 2, 1) := by decide +kernel
theorem d_Term_slotFor_43 : decode mi_Term_slotFor.2.1 43 = .ok (.ireturn, 1) := by decide +kernel
theorem d_Term_firstUnusedSlot_0 : decode mi_Term_firstUnusedSlot.2.1 0 = .ok (.iconst 0, 1) := by decide +kernel
theorem d_Term_firstUnusedSlot_1 : decode mi_Term_firstUnusedSlot.2.1 1 = .ok (.istore_n 1, 1) := by decide +kernel
theorem d_Term_firstUnusedSlot_2 : decode mi_Term_firstUnusedSlot.2.1 2 = .ok (.bipush (8), 2) := by decide +kernel
theorem d_Term_firstUnusedSlot_4 : decode mi_Term_firstUnusedSlot.2.1 4 = .ok (.istore_n 2, 1) := by decide +kernel
theorem d_Term_firstUnusedSlot_5 : decode mi_Term_firstUnusedSlot.2.1 5 = .ok (.iload_n 2, 1) := by decide +kernel
theorem d_Term_firstUnusedSlot_6 : decode mi_Term_firstUnusedSlot.2.1 6 = .ok (.iconst 1, 1) := by decide +kernel
theorem d_Term_firstUnusedSlot_7 : decode mi_Term_firstUnusedSlot.2.1 7 = .ok (.if_icmp .lt (19), 3) := by decide +kernel
theorem d_Term_firstUnusedSlot_10 : decode mi_Term_firstUnusedSlot.2.1 10 = .ok (.aload_n 0, 1) := by decide +kernel
theorem d_Term_firstUnusedSlot_11 : decode mi_Term_firstUnusedSlot.2.1 11 = .ok (.iload_n 2, 1) := by decide +kernel
theorem d_Term_firstUnusedSlot_12 : decode mi_Term_firstUnusedSlot.2.1 12 = .ok (.invokevirtual 68, 3) := by decide +kernel
theorem d_Term_firstUnusedSlot_15 : decode mi_Term_firstUnusedSlot.2.1 15 = .ok (.ifCond .eq (11), 3) := by decide +kernel
theorem d_Term_firstUnusedSlot_18 : decode mi_Term_firstUnusedSlot.2.1 18 = .ok (.iload_n 2, 1) := by decide +kernel
theorem d_Term_firstUnusedSlot_19 : decode mi_Term_firstUnusedSlot.2.1 19 = .ok (.istore_n 1, 1) := by decide +kernel
theorem d_Term_firstUnusedSlot_20 : decode mi_Term_firstUnusedSlot.2.1 20 = .ok (.iinc 2 (-1), 3) := by decide +kernel
theorem d_Term_firstUnusedSlot_23 : decode mi_Term_firstUnusedSlot.2.1 23 = .ok (.goto (-18), 3) := by decide +kernel
theorem d_Term_firstUnusedSlot_26 : decode mi_Term_firstUnusedSlot.2.1 26 = .ok (.iload_n 1, 1) := by decide +kernel
theorem d_Term_firstUnusedSlot_27 : decode mi_Term_firstUnusedSlot.2.1 27 = .ok (.ireturn, 1) := by decide +kernel
theorem d_Term_isUnused_0 : decode mi_Term_isUnused.2.1 0 = .ok (.aload_n 0, 1) := by decide +kernel
theorem d_Term_isUnused_1 : decode mi_Term_isUnused.2.1 1 = .ok (.getfield 9, 3) := by decide +kernel
theorem d_Term_isUnused_4 : decode mi_Term_isUnused.2.1 4 = .ok (.iload_n 1, 1) := by decide +kernel
theorem d_Term_isUnused_5 : decode mi_Term_isUnused.2.1 5 = .ok (.iaload, 1) := by decide +kernel
theorem d_Term_isUnused_6 : decode mi_Term_isUnused.2.1 6 = .ok (.ifCond .ne (27), 3) := by decide +kernel
theorem d_Term_isUnused_9 : decode mi_Term_isUnused.2.1 9 = .ok (.aload_n 0, 1) := by decide +kernel
theorem d_Term_isUnused_10 : decode mi_Term_isUnused.2.1 10 = .ok (.getfield 15, 3) := by decide +kernel
theorem d_Term_isUnused_13 : decode mi_Term_isUnused.2.1 13 = .ok (.iload_n 1, 1) := by decide +kernel
theorem d_Term_isUnused_14 : decode mi_Term_isUnused.2.1 14 = .ok (.iaload, 1) := by decide +kernel
theorem d_Term_isUnused_15 : decode mi_Term_isUnused.2.1 15 = .ok (.iconst (-1), 1) := by decide +kernel
theorem d_Term_isUnused_16 : decode mi_Term_isUnused.2.1 16 = .ok (.if_icmp .ne (17), 3) := by decide +kernel
theorem d_Term_isUnused_19 : decode mi_Term_isUnused.2.1 19 = .ok (.aload_n 0, 1) := by decide +kernel
theorem d_Term_isUnused_20 : decode mi_Term_isUnused.2.1 20 = .ok (.iload_n 1, 1) := by decide +kernel
theorem d_Term_isUnused_21 : decode mi_Term_isUnused.2.1 21 = .ok (.invokevirtual 71, 3) := by decide +kernel
theorem d_Term_isUnused_24 : decode mi_Term_isUnused.2.1 24 = .ok (.bipush (-3), 2) := by decide +kernel
theorem d_Term_isUnused_26 : decode mi_Term_isUnused.2.1 26 = .ok (.if_icmp .ne (7), 3) := by decide +kernel
theorem d_Term_isUnused_29 : decode mi_Term_isUnused.2.1 29 = .ok (.iconst 1, 1) := by decide +kernel
theorem d_Term_isUnused_30 : decode mi_Term_isUnused.2.1 30 = .ok (.goto (4), 3) := by decide +kernel
theorem d_Term_isUnused_33 : decode mi_Term_isUnused.2.1 33 = .ok (.iconst 0, 1) := by decide +kernel
theorem d_Term_isUnused_34 : decode mi_Term_isUnused.2.1 34 = .ok (.ireturn, 1) := by decide +kernel
theorem d_Term_fix_0 : decode mi_Term_fix.2.1 0 = .ok (.aload_n 0, 1) := by decide +kernel
theorem d_Term_fix_1 : decode mi_Term_fix.2.1 1 = .ok (.getfield 15, 3) := by decide +kernel
theorem d_Term_fix_4 : decode mi_Term_fix.2.1 4 = .ok (.iload_n 1, 1) := by decide +kernel
theorem d_Term_fix_5 : decode mi_Term_fix.2.1 5 = .ok (.iaload, 1) := by decide +kernel
theorem d_Term_fix_6 : decode mi_Term_fix.2.1 6 = .ok (.iconst (-1), 1) := by decide +kernel
theorem d_Term_fix_7 : decode mi_Term_fix.2.1 7 = .ok (.if_icmp .eq (5), 3) := by decide +kernel
theorem d_Term_fix_10 : decode mi_Term_fix.2.1 10 = .ok (.iconst 1, 1) := by decide +kernel
theorem d_Term_fix_11 : decode mi_Term_fix.2.1 11 = .ok (.ireturn, 1) := by decide +kernel
theorem d_Term_fix_12 : decode mi_Term_fix.2.1 12 = .ok (.aload_n 0, 1) := by decide +kernel
theorem d_Term_fix_13 : decode mi_Term_fix.2.1 13 = .ok (.iload_n 1, 1) := by decide +kernel
theorem d_Term_fix_14 : decode mi_Term_fix.2.1 14 = .ok (.invokevirtual 71, 3) := by decide +kernel
theorem d_Term_fix_17 : decode mi_Term_fix.2.1 17 = .ok (.istore_n 2, 1) := by decide +kernel
theorem d_Term_fix_18 : decode mi_Term_fix.2.1 18 = .ok (.iload_n 2, 1) := by decide +kernel
theorem d_Term_fix_19 : decode mi_Term_fix.2.1 19 = .ok (.bipush (-2), 2) := by decide +kernel
theorem d_Term_fix_21 : decode mi_Term_fix.2.1 21 = .ok (.if_icmp .ne (5), 3) := by decide +kernel
theorem d_Term_fix_24 : decode mi_Term_fix.2.1 24 = .ok (.iconst 0, 1) := by decide +kernel
theorem d_Term_fix_25 : decode mi_Term_fix.2.1 25 = .ok (.ireturn, 1) := by decide +kernel
theorem d_Term_fix_26 : decode mi_Term_fix.2.1 26 = .ok (.aload_n 0, 1) := by decide +kernel
theorem d_Term_fix_27 : decode mi_Term_fix.2.1 27 = .ok (.getfield 15, 3) := by decide +kernel
theorem d_Term_fix_30 : decode mi_Term_fix.2.1 30 = .ok (.iload_n 1, 1) := by decide +kernel
theorem d_Term_fix_31 : decode mi_Term_fix.2.1 31 = .ok (.iload_n 2, 1) := by decide +kernel
theorem d_Term_fix_32 : decode mi_Term_fix.2.1 32 = .ok (.bipush (-3), 2) := by decide +kernel
theorem d_Term_fix_34 : decode mi_Term_fix.2.1 34 = .ok (.if_icmp .ne (12), 3) := by decide +kernel
theorem d_Term_fix_37 : decode mi_Term_fix.2.1 37 = .ok (.aload_n 0, 1) := by decide +kernel
theorem d_Term_fix_38 : decode mi_Term_fix.2.1 38 = .ok (.getfield 9, 3) := by decide +kernel
theorem d_Term_fix_41 : decode mi_Term_fix.2.1 41 = .ok (.iload_n 1, 1) := by decide +kernel
theorem d_Term_fix_42 : decode mi_Term_fix.2.1 42 = .ok (.iaload, 1) := by decide +kernel
theorem d_Term_fix_43 : decode mi_Term_fix.2.1 43 = .ok (.goto (4), 3) := by decide +kernel
theorem d_Term_fix_46 : decode mi_Term_fix.2.1 46 = .ok (.iload_n 2, 1) := by decide +kernel
theorem d_Term_fix_47 : decode mi_Term_fix.2.1 47 = .ok (.iastore, 1) := by decide +kernel
theorem d_Term_fix_48 : decode mi_Term_fix.2.1 48 = .ok (.iconst 1, 1) := by decide +kernel
theorem d_Term_fix_49 : decode mi_Term_fix.2.1 49 = .ok (.ireturn, 1) := by decide +kernel
theorem d_Term_addVoter_0 : decode mi_Term_addVoter.2.1 0 = .ok (.aload_n 0, 1) := by decide +kernel
theorem d_Term_addVoter_1 : decode mi_Term_addVoter.2.1 1 = .ok (.getfield 18, 3) := by decide +kernel
theorem d_Term_addVoter_4 : decode mi_Term_addVoter.2.1 4 = .ok (.iload_n 1, 1) := by decide +kernel
theorem d_Term_addVoter_5 : decode mi_Term_addVoter.2.1 5 = .ok (.dup2, 1) := by decide +kernel
theorem d_Term_addVoter_6 : decode mi_Term_addVoter.2.1 6 = .ok (.iaload, 1) := by decide +kernel
theorem d_Term_addVoter_7 : decode mi_Term_addVoter.2.1 7 = .ok (.iconst 1, 1) := by decide +kernel
theorem d_Term_addVoter_8 : decode mi_Term_addVoter.2.1 8 = .ok (.iload_n 2, 1) := by decide +kernel
theorem d_Term_addVoter_9 : decode mi_Term_addVoter.2.1 9 = .ok (.ishl, 1) := by decide +kernel
theorem d_Term_addVoter_10 : decode mi_Term_addVoter.2.1 10 = .ok (.ior, 1) := by decide +kernel
theorem d_Term_addVoter_11 : decode mi_Term_addVoter.2.1 11 = .ok (.iastore, 1) := by decide +kernel
theorem d_Term_addVoter_12 : decode mi_Term_addVoter.2.1 12 = .ok (.aload_n 0, 1) := by decide +kernel
theorem d_Term_addVoter_13 : decode mi_Term_addVoter.2.1 13 = .ok (.aload_n 0, 1) := by decide +kernel
theorem d_Term_addVoter_14 : decode mi_Term_addVoter.2.1 14 = .ok (.getfield 18, 3) := by decide +kernel
theorem d_Term_addVoter_17 : decode mi_Term_addVoter.2.1 17 = .ok (.iload_n 1, 1) := by decide +kernel
theorem d_Term_addVoter_18 : decode mi_Term_addVoter.2.1 18 = .ok (.iaload, 1) := by decide +kernel
theorem d_Term_addVoter_19 : decode mi_Term_addVoter.2.1 19 = .ok (.invokestatic 34, 3) := by decide +kernel
theorem d_Term_addVoter_22 : decode mi_Term_addVoter.2.1 22 = .ok (.invokevirtual 40, 3) := by decide +kernel
theorem d_Term_addVoter_25 : decode mi_Term_addVoter.2.1 25 = .ok (.ireturn, 1) := by decide +kernel
theorem d_Integer_bitCount_0 : decode mi_Integer_bitCount.2.1 0 = .ok (.iload_n 0, 1) := by decide +kernel
theorem d_Integer_bitCount_1 : decode mi_Integer_bitCount.2.1 1 = .ok (.iload_n 0, 1) := by decide +kernel
theorem d_Integer_bitCount_2 : decode mi_Integer_bitCount.2.1 2 = .ok (.iconst 1, 1) := by decide +kernel
theorem d_Integer_bitCount_3 : decode mi_Integer_bitCount.2.1 3 = .ok (.iushr, 1) := by decide +kernel
theorem d_Integer_bitCount_4 : decode mi_Integer_bitCount.2.1 4 = .ok (.ldc_w 265, 3) := by decide +kernel
theorem d_Integer_bitCount_7 : decode mi_Integer_bitCount.2.1 7 = .ok (.iand, 1) := by decide +kernel
theorem d_Integer_bitCount_8 : decode mi_Integer_bitCount.2.1 8 = .ok (.isub, 1) := by decide +kernel
theorem d_Integer_bitCount_9 : decode mi_Integer_bitCount.2.1 9 = .ok (.istore_n 0, 1) := by decide +kernel
theorem d_Integer_bitCount_10 : decode mi_Integer_bitCount.2.1 10 = .ok (.iload_n 0, 1) := by decide +kernel
theorem d_Integer_bitCount_11 : decode mi_Integer_bitCount.2.1 11 = .ok (.ldc_w 266, 3) := by decide +kernel
theorem d_Integer_bitCount_14 : decode mi_Integer_bitCount.2.1 14 = .ok (.iand, 1) := by decide +kernel
theorem d_Integer_bitCount_15 : decode mi_Integer_bitCount.2.1 15 = .ok (.iload_n 0, 1) := by decide +kernel
theorem d_Integer_bitCount_16 : decode mi_Integer_bitCount.2.1 16 = .ok (.iconst 2, 1) := by decide +kernel
theorem d_Integer_bitCount_17 : decode mi_Integer_bitCount.2.1 17 = .ok (.iushr, 1) := by decide +kernel
theorem d_Integer_bitCount_18 : decode mi_Integer_bitCount.2.1 18 = .ok (.ldc_w 266, 3) := by decide +kernel
theorem d_Integer_bitCount_21 : decode mi_Integer_bitCount.2.1 21 = .ok (.iand, 1) := by decide +kernel
theorem d_Integer_bitCount_22 : decode mi_Integer_bitCount.2.1 22 = .ok (.iadd, 1) := by decide +kernel
theorem d_Integer_bitCount_23 : decode mi_Integer_bitCount.2.1 23 = .ok (.istore_n 0, 1) := by decide +kernel
theorem d_Integer_bitCount_24 : decode mi_Integer_bitCount.2.1 24 = .ok (.iload_n 0, 1) := by decide +kernel
theorem d_Integer_bitCount_25 : decode mi_Integer_bitCount.2.1 25 = .ok (.iload_n 0, 1) := by decide +kernel
theorem d_Integer_bitCount_26 : decode mi_Integer_bitCount.2.1 26 = .ok (.iconst 4, 1) := by decide +kernel
theorem d_Integer_bitCount_27 : decode mi_Integer_bitCount.2.1 27 = .ok (.iushr, 1) := by decide +kernel
theorem d_Integer_bitCount_28 : decode mi_Integer_bitCount.2.1 28 = .ok (.iadd, 1) := by decide +kernel
theorem d_Integer_bitCount_29 : decode mi_Integer_bitCount.2.1 29 = .ok (.ldc_w 267, 3) := by decide +kernel
theorem d_Integer_bitCount_32 : decode mi_Integer_bitCount.2.1 32 = .ok (.iand, 1) := by decide +kernel
theorem d_Integer_bitCount_33 : decode mi_Integer_bitCount.2.1 33 = .ok (.istore_n 0, 1) := by decide +kernel
theorem d_Integer_bitCount_34 : decode mi_Integer_bitCount.2.1 34 = .ok (.iload_n 0, 1) := by decide +kernel
theorem d_Integer_bitCount_35 : decode mi_Integer_bitCount.2.1 35 = .ok (.iload_n 0, 1) := by decide +kernel
theorem d_Integer_bitCount_36 : decode mi_Integer_bitCount.2.1 36 = .ok (.bipush (8), 2) := by decide +kernel
theorem d_Integer_bitCount_38 : decode mi_Integer_bitCount.2.1 38 = .ok (.iushr, 1) := by decide +kernel
theorem d_Integer_bitCount_39 : decode mi_Integer_bitCount.2.1 39 = .ok (.iadd, 1) := by decide +kernel
theorem d_Integer_bitCount_40 : decode mi_Integer_bitCount.2.1 40 = .ok (.istore_n 0, 1) := by decide +kernel
theorem d_Integer_bitCount_41 : decode mi_Integer_bitCount.2.1 41 = .ok (.iload_n 0, 1) := by decide +kernel
theorem d_Integer_bitCount_42 : decode mi_Integer_bitCount.2.1 42 = .ok (.iload_n 0, 1) := by decide +kernel
theorem d_Integer_bitCount_43 : decode mi_Integer_bitCount.2.1 43 = .ok (.bipush (16), 2) := by decide +kernel
theorem d_Integer_bitCount_45 : decode mi_Integer_bitCount.2.1 45 = .ok (.iushr, 1) := by decide +kernel
theorem d_Integer_bitCount_46 : decode mi_Integer_bitCount.2.1 46 = .ok (.iadd, 1) := by decide +kernel
theorem d_Integer_bitCount_47 : decode mi_Integer_bitCount.2.1 47 = .ok (.istore_n 0, 1) := by decide +kernel
theorem d_Integer_bitCount_48 : decode mi_Integer_bitCount.2.1 48 = .ok (.iload_n 0, 1) := by decide +kernel
theorem d_Integer_bitCount_49 : decode mi_Integer_bitCount.2.1 49 = .ok (.bipush (63), 2) := by decide +kernel
theorem d_Integer_bitCount_51 : decode mi_Integer_bitCount.2.1 51 = .ok (.iand, 1) := by decide +kernel
theorem d_Integer_bitCount_52 : decode mi_Integer_bitCount.2.1 52 = .ok (.ireturn, 1) := by decide +kernel
theorem d_Math_max_0 : decode mi_Math_max.2.1 0 = .ok (.iload_n 0, 1) := by decide +kernel
theorem d_Math_max_1 : decode mi_Math_max.2.1 1 = .ok (.iload_n 1, 1) := by decide +kernel
theorem d_Math_max_2 : decode mi_Math_max.2.1 2 = .ok (.if_icmp .lt (7), 3) := by decide +kernel
theorem d_Math_max_5 : decode mi_Math_max.2.1 5 = .ok (.iload_n 0, 1) := by decide +kernel
theorem d_Math_max_6 : decode mi_Math_max.2.1 6 = .ok (.goto (4), 3) := by decide +kernel
theorem d_Math_max_9 : decode mi_Math_max.2.1 9 = .ok (.iload_n 1, 1) := by decide +kernel
theorem d_Math_max_10 : decode mi_Math_max.2.1 10 = .ok (.ireturn, 1) := by decide +kernel
