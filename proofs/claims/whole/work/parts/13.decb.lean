theorem d_SL_octet_12 : decode mi_SL_octet.2.1 12 = .ok (.iload_n 2, 1) := by decide +kernel
theorem d_SL_octet_13 : decode mi_SL_octet.2.1 13 = .ok (.sipush (144), 3) := by decide +kernel
theorem d_SL_octet_16 : decode mi_SL_octet.2.1 16 = .ok (.if_icmp .lt (5), 3) := by decide +kernel
theorem d_SL_octet_19 : decode mi_SL_octet.2.1 19 = .ok (.iconst (-1), 1) := by decide +kernel
theorem d_SL_octet_20 : decode mi_SL_octet.2.1 20 = .ok (.ireturn, 1) := by decide +kernel
theorem d_SL_octet_21 : decode mi_SL_octet.2.1 21 = .ok (.aload_n 0, 1) := by decide +kernel
theorem d_SL_octet_22 : decode mi_SL_octet.2.1 22 = .ok (.getfield 18, 3) := by decide +kernel
theorem d_SL_octet_25 : decode mi_SL_octet.2.1 25 = .ok (.iload_n 1, 1) := by decide +kernel
theorem d_SL_octet_26 : decode mi_SL_octet.2.1 26 = .ok (.aaload, 1) := by decide +kernel
theorem d_SL_octet_27 : decode mi_SL_octet.2.1 27 = .ok (.getfield 165, 3) := by decide +kernel
theorem d_SL_octet_30 : decode mi_SL_octet.2.1 30 = .ok (.getfield 196, 3) := by decide +kernel
theorem d_SL_octet_33 : decode mi_SL_octet.2.1 33 = .ok (.iload_n 2, 1) := by decide +kernel
theorem d_SL_octet_34 : decode mi_SL_octet.2.1 34 = .ok (.iaload, 1) := by decide +kernel
theorem d_SL_octet_35 : decode mi_SL_octet.2.1 35 = .ok (.ireturn, 1) := by decide +kernel
theorem d_SL_reply_0 : decode mi_SL_reply.2.1 0 = .ok (.aload_n 0, 1) := by decide +kernel
theorem d_SL_reply_1 : decode mi_SL_reply.2.1 1 = .ok (.getfield 12, 3) := by decide +kernel
theorem d_SL_reply_4 : decode mi_SL_reply.2.1 4 = .ok (.iload_n 1, 1) := by decide +kernel
theorem d_SL_reply_5 : decode mi_SL_reply.2.1 5 = .ok (.invokevirtual 83, 3) := by decide +kernel
theorem d_SL_reply_8 : decode mi_SL_reply.2.1 8 = .ok (.ifCond .ne (5), 3) := by decide +kernel
theorem d_SL_reply_11 : decode mi_SL_reply.2.1 11 = .ok (.iconst 0, 1) := by decide +kernel
theorem d_SL_reply_12 : decode mi_SL_reply.2.1 12 = .ok (.ireturn, 1) := by decide +kernel
theorem d_SL_reply_13 : decode mi_SL_reply.2.1 13 = .ok (.iload_n 2, 1) := by decide +kernel
theorem d_SL_reply_14 : decode mi_SL_reply.2.1 14 = .ok (.ifCond .eq (15), 3) := by decide +kernel
theorem d_SL_reply_17 : decode mi_SL_reply.2.1 17 = .ok (.aload_n 0, 1) := by decide +kernel
theorem d_SL_reply_18 : decode mi_SL_reply.2.1 18 = .ok (.getfield 12, 3) := by decide +kernel
theorem d_SL_reply_21 : decode mi_SL_reply.2.1 21 = .ok (.getfield 199, 3) := by decide +kernel
theorem d_SL_reply_24 : decode mi_SL_reply.2.1 24 = .ok (.iload_n 1, 1) := by decide +kernel
theorem d_SL_reply_25 : decode mi_SL_reply.2.1 25 = .ok (.iaload, 1) := by decide +kernel
theorem d_SL_reply_26 : decode mi_SL_reply.2.1 26 = .ok (.goto (12), 3) := by decide +kernel
theorem d_SL_reply_29 : decode mi_SL_reply.2.1 29 = .ok (.aload_n 0, 1) := by decide +kernel
theorem d_SL_reply_30 : decode mi_SL_reply.2.1 30 = .ok (.getfield 12, 3) := by decide +kernel
theorem d_SL_reply_33 : decode mi_SL_reply.2.1 33 = .ok (.getfield 202, 3) := by decide +kernel
theorem d_SL_reply_36 : decode mi_SL_reply.2.1 36 = .ok (.iload_n 1, 1) := by decide +kernel
theorem d_SL_reply_37 : decode mi_SL_reply.2.1 37 = .ok (.iaload, 1) := by decide +kernel
theorem d_SL_reply_38 : decode mi_SL_reply.2.1 38 = .ok (.ireturn, 1) := by decide +kernel
theorem d_SL_isNode_0 : decode mi_SL_isNode.2.1 0 = .ok (.iload_n 1, 1) := by decide +kernel
theorem d_SL_isNode_1 : decode mi_SL_isNode.2.1 1 = .ok (.ifCond .lt (16), 3) := by decide +kernel
theorem d_SL_isNode_4 : decode mi_SL_isNode.2.1 4 = .ok (.iload_n 1, 1) := by decide +kernel
theorem d_SL_isNode_5 : decode mi_SL_isNode.2.1 5 = .ok (.aload_n 0, 1) := by decide +kernel
theorem d_SL_isNode_6 : decode mi_SL_isNode.2.1 6 = .ok (.getfield 18, 3) := by decide +kernel
theorem d_SL_isNode_9 : decode mi_SL_isNode.2.1 9 = .ok (.arraylength, 1) := by decide +kernel
theorem d_SL_isNode_10 : decode mi_SL_isNode.2.1 10 = .ok (.if_icmp .ge (7), 3) := by decide +kernel
theorem d_SL_isNode_13 : decode mi_SL_isNode.2.1 13 = .ok (.iconst 1, 1) := by decide +kernel
theorem d_SL_isNode_14 : decode mi_SL_isNode.2.1 14 = .ok (.goto (4), 3) := by decide +kernel
theorem d_SL_isNode_17 : decode mi_SL_isNode.2.1 17 = .ok (.iconst 0, 1) := by decide +kernel
theorem d_SL_isNode_18 : decode mi_SL_isNode.2.1 18 = .ok (.ireturn, 1) := by decide +kernel
theorem d_SL_isSlot_0 : decode mi_SL_isSlot.2.1 0 = .ok (.iload_n 0, 1) := by decide +kernel
theorem d_SL_isSlot_1 : decode mi_SL_isSlot.2.1 1 = .ok (.iconst 1, 1) := by decide +kernel
theorem d_SL_isSlot_2 : decode mi_SL_isSlot.2.1 2 = .ok (.if_icmp .lt (13), 3) := by decide +kernel
theorem d_SL_isSlot_5 : decode mi_SL_isSlot.2.1 5 = .ok (.iload_n 0, 1) := by decide +kernel
theorem d_SL_isSlot_6 : decode mi_SL_isSlot.2.1 6 = .ok (.bipush (8), 2) := by decide +kernel
theorem d_SL_isSlot_8 : decode mi_SL_isSlot.2.1 8 = .ok (.if_icmp .gt (7), 3) := by decide +kernel
theorem d_SL_isSlot_11 : decode mi_SL_isSlot.2.1 11 = .ok (.iconst 1, 1) := by decide +kernel
theorem d_SL_isSlot_12 : decode mi_SL_isSlot.2.1 12 = .ok (.goto (4), 3) := by decide +kernel
theorem d_SL_isSlot_15 : decode mi_SL_isSlot.2.1 15 = .ok (.iconst 0, 1) := by decide +kernel
theorem d_SL_isSlot_16 : decode mi_SL_isSlot.2.1 16 = .ok (.ireturn, 1) := by decide +kernel
theorem d_SL_isKey_0 : decode mi_SL_isKey.2.1 0 = .ok (.iload_n 0, 1) := by decide +kernel
theorem d_SL_isKey_1 : decode mi_SL_isKey.2.1 1 = .ok (.ifCond .lt (12), 3) := by decide +kernel
theorem d_SL_isKey_4 : decode mi_SL_isKey.2.1 4 = .ok (.iload_n 0, 1) := by decide +kernel
theorem d_SL_isKey_5 : decode mi_SL_isKey.2.1 5 = .ok (.iconst 4, 1) := by decide +kernel
theorem d_SL_isKey_6 : decode mi_SL_isKey.2.1 6 = .ok (.if_icmp .ge (7), 3) := by decide +kernel
theorem d_SL_isKey_9 : decode mi_SL_isKey.2.1 9 = .ok (.iconst 1, 1) := by decide +kernel
theorem d_SL_isKey_10 : decode mi_SL_isKey.2.1 10 = .ok (.goto (4), 3) := by decide +kernel
theorem d_SL_isKey_13 : decode mi_SL_isKey.2.1 13 = .ok (.iconst 0, 1) := by decide +kernel
theorem d_SL_isKey_14 : decode mi_SL_isKey.2.1 14 = .ok (.ireturn, 1) := by decide +kernel
theorem d_SL_isSoundSector_0 : decode mi_SL_isSoundSector.2.1 0 = .ok (.aload_n 0, 1) := by decide +kernel
theorem d_SL_isSoundSector_1 : decode mi_SL_isSoundSector.2.1 1 = .ok (.iload_n 1, 1) := by decide +kernel
theorem d_SL_isSoundSector_2 : decode mi_SL_isSoundSector.2.1 2 = .ok (.invokevirtual 37, 3) := by decide +kernel
theorem d_SL_isSoundSector_5 : decode mi_SL_isSoundSector.2.1 5 = .ok (.ifCond .eq (33), 3) := by decide +kernel
theorem d_SL_isSoundSector_8 : decode mi_SL_isSoundSector.2.1 8 = .ok (.iload_n 2, 1) := by decide +kernel
theorem d_SL_isSoundSector_9 : decode mi_SL_isSoundSector.2.1 9 = .ok (.ifCond .lt (29), 3) := by decide +kernel
theorem d_SL_isSoundSector_12 : decode mi_SL_isSoundSector.2.1 12 = .ok (.iload_n 2, 1) := by decide +kernel
theorem d_SL_isSoundSector_13 : decode mi_SL_isSoundSector.2.1 13 = .ok (.bipush (18), 2) := by decide +kernel
theorem d_SL_isSoundSector_15 : decode mi_SL_isSoundSector.2.1 15 = .ok (.if_icmp .ge (23), 3) := by decide +kernel
theorem d_SL_isSoundSector_18 : decode mi_SL_isSoundSector.2.1 18 = .ok (.aload_n 0, 1) := by decide +kernel
theorem d_SL_isSoundSector_19 : decode mi_SL_isSoundSector.2.1 19 = .ok (.getfield 18, 3) := by decide +kernel
theorem d_SL_isSoundSector_22 : decode mi_SL_isSoundSector.2.1 22 = .ok (.iload_n 1, 1) := by decide +kernel
theorem d_SL_isSoundSector_23 : decode mi_SL_isSoundSector.2.1 23 = .ok (.aaload, 1) := by decide +kernel
theorem d_SL_isSoundSector_24 : decode mi_SL_isSoundSector.2.1 24 = .ok (.getfield 165, 3) := by decide +kernel
theorem d_SL_isSoundSector_27 : decode mi_SL_isSoundSector.2.1 27 = .ok (.iload_n 2, 1) := by decide +kernel
theorem d_SL_isSoundSector_28 : decode mi_SL_isSoundSector.2.1 28 = .ok (.invokevirtual 205, 3) := by decide +kernel
theorem d_SL_isSoundSector_31 : decode mi_SL_isSoundSector.2.1 31 = .ok (.ifCond .ne (7), 3) := by decide +kernel
theorem d_SL_isSoundSector_34 : decode mi_SL_isSoundSector.2.1 34 = .ok (.iconst 1, 1) := by decide +kernel
theorem d_SL_isSoundSector_35 : decode mi_SL_isSoundSector.2.1 35 = .ok (.goto (4), 3) := by decide +kernel
theorem d_SL_isSoundSector_38 : decode mi_SL_isSoundSector.2.1 38 = .ok (.iconst 0, 1) := by decide +kernel
theorem d_SL_isSoundSector_39 : decode mi_SL_isSoundSector.2.1 39 = .ok (.ireturn, 1) := by decide +kernel
theorem d_SL_hindranceOf_0 : decode mi_SL_hindranceOf.2.1 0 = .ok (.aload_n 0, 1) := by decide +kernel
theorem d_SL_hindranceOf_1 : decode mi_SL_hindranceOf.2.1 1 = .ok (.invokevirtual 40, 3) := by decide +kernel
theorem d_SL_hindranceOf_4 : decode mi_SL_hindranceOf.2.1 4 = .ok (.ifCond .ne (6), 3) := by decide +kernel
theorem d_SL_hindranceOf_7 : decode mi_SL_hindranceOf.2.1 7 = .ok (.bipush (-2), 2) := by decide +kernel
theorem d_SL_hindranceOf_9 : decode mi_SL_hindranceOf.2.1 9 = .ok (.ireturn, 1) := by decide +kernel
theorem d_SL_hindranceOf_10 : decode mi_SL_hindranceOf.2.1 10 = .ok (.aload_n 0, 1) := by decide +kernel
theorem d_SL_hindranceOf_11 : decode mi_SL_hindranceOf.2.1 11 = .ok (.getfield 178, 3) := by decide +kernel
theorem d_SL_hindranceOf_14 : decode mi_SL_hindranceOf.2.1 14 = .ok (.iload_n 1, 1) := by decide +kernel
theorem d_SL_hindranceOf_15 : decode mi_SL_hindranceOf.2.1 15 = .ok (.if_icmp .le (8), 3) := by decide +kernel
theorem d_SL_hindranceOf_18 : decode mi_SL_hindranceOf.2.1 18 = .ok (.bipush (-3), 2) := by decide +kernel
theorem d_SL_hindranceOf_20 : decode mi_SL_hindranceOf.2.1 20 = .ok (.goto (4), 3) := by decide +kernel
theorem d_SL_hindranceOf_23 : decode mi_SL_hindranceOf.2.1 23 = .ok (.iconst 0, 1) := by decide +kernel
theorem d_SL_hindranceOf_24 : decode mi_SL_hindranceOf.2.1 24 = .ok (.ireturn, 1) := by decide +kernel
theorem d_Clients_init_0 : decode mi_Clients_init.2.1 0 = .ok (.aload_n 0, 1) := by decide +kernel
theorem d_Clients_init_1 : decode mi_Clients_init.2.1 1 = .ok (.invokespecial 3, 3) := by decide +kernel
theorem d_Clients_init_4 : decode mi_Clients_init.2.1 4 = .ok (.aload_n 0, 1) := by decide +kernel
theorem d_Clients_init_5 : decode mi_Clients_init.2.1 5 = .ok (.bipush (31), 2) := by decide +kernel
theorem d_Clients_init_7 : decode mi_Clients_init.2.1 7 = .ok (.newarray .int, 2) := by decide +kernel
theorem d_Clients_init_9 : decode mi_Clients_init.2.1 9 = .ok (.putfield 9, 3) := by decide +kernel
theorem d_Clients_init_12 : decode mi_Clients_init.2.1 12 = .ok (.aload_n 0, 1) := by decide +kernel
theorem d_Clients_init_13 : decode mi_Clients_init.2.1 13 = .ok (.bipush (31), 2) := by decide +kernel
theorem d_Clients_init_15 : decode mi_Clients_init.2.1 15 = .ok (.newarray .int, 2) := by decide +kernel
theorem d_Clients_init_17 : decode mi_Clients_init.2.1 17 = .ok (.putfield 15, 3) := by decide +kernel
theorem d_Clients_init_20 : decode mi_Clients_init.2.1 20 = .ok (.aload_n 0, 1) := by decide +kernel
theorem d_Clients_init_21 : decode mi_Clients_init.2.1 21 = .ok (.bipush (31), 2) := by decide +kernel
theorem d_Clients_init_23 : decode mi_Clients_init.2.1 23 = .ok (.newarray .int, 2) := by decide +kernel
theorem d_Clients_init_25 : decode mi_Clients_init.2.1 25 = .ok (.putfield 18, 3) := by decide +kernel
theorem d_Clients_init_28 : decode mi_Clients_init.2.1 28 = .ok (.aload_n 0, 1) := by decide +kernel
theorem d_Clients_init_29 : decode mi_Clients_init.2.1 29 = .ok (.bipush (31), 2) := by decide +kernel
theorem d_Clients_init_31 : decode mi_Clients_init.2.1 31 = .ok (.newarray .int, 2) := by decide +kernel
theorem d_Clients_init_33 : decode mi_Clients_init.2.1 33 = .ok (.putfield 21, 3) := by decide +kernel
theorem d_Clients_init_36 : decode mi_Clients_init.2.1 36 = .ok (.return_, 1) := by decide +kernel
theorem d_Clients_addRequest_0 : decode mi_Clients_addRequest.2.1 0 = .ok (.aload_n 0, 1) := by decide +kernel
theorem d_Clients_addRequest_1 : decode mi_Clients_addRequest.2.1 1 = .ok (.dup, 1) := by decide +kernel
theorem d_Clients_addRequest_2 : decode mi_Clients_addRequest.2.1 2 = .ok (.getfield 24, 3) := by decide +kernel
theorem d_Clients_addRequest_5 : decode mi_Clients_addRequest.2.1 5 = .ok (.iconst 1, 1) := by decide +kernel
theorem d_Clients_addRequest_6 : decode mi_Clients_addRequest.2.1 6 = .ok (.iadd, 1) := by decide +kernel
theorem d_Clients_addRequest_7 : decode mi_Clients_addRequest.2.1 7 = .ok (.putfield 24, 3) := by decide +kernel
theorem d_Clients_addRequest_10 : decode mi_Clients_addRequest.2.1 10 = .ok (.aload_n 0, 1) := by decide +kernel
theorem d_Clients_addRequest_11 : decode mi_Clients_addRequest.2.1 11 = .ok (.getfield 9, 3) := by decide +kernel
theorem d_Clients_addRequest_14 : decode mi_Clients_addRequest.2.1 14 = .ok (.aload_n 0, 1) := by decide +kernel
theorem d_Clients_addRequest_15 : decode mi_Clients_addRequest.2.1 15 = .ok (.getfield 24, 3) := by decide +kernel
theorem d_Clients_addRequest_18 : decode mi_Clients_addRequest.2.1 18 = .ok (.iload_n 1, 1) := by decide +kernel
theorem d_Clients_addRequest_19 : decode mi_Clients_addRequest.2.1 19 = .ok (.iastore, 1) := by decide +kernel
theorem d_Clients_addRequest_20 : decode mi_Clients_addRequest.2.1 20 = .ok (.aload_n 0, 1) := by decide +kernel
theorem d_Clients_addRequest_21 : decode mi_Clients_addRequest.2.1 21 = .ok (.getfield 15, 3) := by decide +kernel
theorem d_Clients_addRequest_24 : decode mi_Clients_addRequest.2.1 24 = .ok (.aload_n 0, 1) := by decide +kernel
theorem d_Clients_addRequest_25 : decode mi_Clients_addRequest.2.1 25 = .ok (.getfield 24, 3) := by decide +kernel
theorem d_Clients_addRequest_28 : decode mi_Clients_addRequest.2.1 28 = .ok (.iload_n 2, 1) := by decide +kernel
theorem d_Clients_addRequest_29 : decode mi_Clients_addRequest.2.1 29 = .ok (.iastore, 1) := by decide +kernel
theorem d_Clients_addRequest_30 : decode mi_Clients_addRequest.2.1 30 = .ok (.aload_n 0, 1) := by decide +kernel
theorem d_Clients_addRequest_31 : decode mi_Clients_addRequest.2.1 31 = .ok (.getfield 24, 3) := by decide +kernel
theorem d_Clients_addRequest_34 : decode mi_Clients_addRequest.2.1 34 = .ok (.ireturn, 1) := by decide +kernel
theorem d_Clients_isRequest_0 : decode mi_Clients_isRequest.2.1 0 = .ok (.iload_n 1, 1) := by decide +kernel
theorem d_Clients_isRequest_1 : decode mi_Clients_isRequest.2.1 1 = .ok (.iconst 1, 1) := by decide +kernel
theorem d_Clients_isRequest_2 : decode mi_Clients_isRequest.2.1 2 = .ok (.if_icmp .lt (15), 3) := by decide +kernel
theorem d_Clients_isRequest_5 : decode mi_Clients_isRequest.2.1 5 = .ok (.iload_n 1, 1) := by decide +kernel
theorem d_Clients_isRequest_6 : decode mi_Clients_isRequest.2.1 6 = .ok (.aload_n 0, 1) := by decide +kernel
theorem d_Clients_isRequest_7 : decode mi_Clients_isRequest.2.1 7 = .ok (.getfield 24, 3) := by decide +kernel
theorem d_Clients_isRequest_10 : decode mi_Clients_isRequest.2.1 10 = .ok (.if_icmp .gt (7), 3) := by decide +kernel
theorem d_Clients_isRequest_13 : decode mi_Clients_isRequest.2.1 13 = .ok (.iconst 1, 1) := by decide +kernel
theorem d_Clients_isRequest_14 : decode mi_Clients_isRequest.2.1 14 = .ok (.goto (4), 3) := by decide +kernel
theorem d_Clients_isRequest_17 : decode mi_Clients_isRequest.2.1 17 = .ok (.iconst 0, 1) := by decide +kernel
theorem d_Clients_isRequest_18 : decode mi_Clients_isRequest.2.1 18 = .ok (.ireturn, 1) := by decide +kernel
theorem d_Clients_hear_0 : decode mi_Clients_hear.2.1 0 = .ok (.aload_n 0, 1) := by decide +kernel
theorem d_Clients_hear_1 : decode mi_Clients_hear.2.1 1 = .ok (.getfield 18, 3) := by decide +kernel
theorem d_Clients_hear_4 : decode mi_Clients_hear.2.1 4 = .ok (.iload_n 1, 1) := by decide +kernel
theorem d_Clients_hear_5 : decode mi_Clients_hear.2.1 5 = .ok (.iload_n 2, 1) := by decide +kernel
theorem d_Clients_hear_6 : decode mi_Clients_hear.2.1 6 = .ok (.iastore, 1) := by decide +kernel
theorem d_Clients_hear_7 : decode mi_Clients_hear.2.1 7 = .ok (.aload_n 0, 1) := by decide +kernel
theorem d_Clients_hear_8 : decode mi_Clients_hear.2.1 8 = .ok (.getfield 21, 3) := by decide +kernel
theorem d_Clients_hear_11 : decode mi_Clients_hear.2.1 11 = .ok (.iload_n 1, 1) := by decide +kernel
theorem d_Clients_hear_12 : decode mi_Clients_hear.2.1 12 = .ok (.dup2, 1) := by decide +kernel
theorem d_Clients_hear_13 : decode mi_Clients_hear.2.1 13 = .ok (.iaload, 1) := by decide +kernel
theorem d_Clients_hear_14 : decode mi_Clients_hear.2.1 14 = .ok (.iconst 1, 1) := by decide +kernel
theorem d_Clients_hear_15 : decode mi_Clients_hear.2.1 15 = .ok (.iadd, 1) := by decide +kernel
theorem d_Clients_hear_16 : decode mi_Clients_hear.2.1 16 = .ok (.iastore, 1) := by decide +kernel
theorem d_Clients_hear_17 : decode mi_Clients_hear.2.1 17 = .ok (.return_, 1) := by decide +kernel
theorem d_Disk_init_0 : decode mi_Disk_init.2.1 0 = .ok (.aload_n 0, 1) := by decide +kernel
theorem d_Disk_init_1 : decode mi_Disk_init.2.1 1 = .ok (.invokespecial 3, 3) := by decide +kernel
theorem d_Disk_init_4 : decode mi_Disk_init.2.1 4 = .ok (.aload_n 0, 1) := by decide +kernel
theorem d_Disk_init_5 : decode mi_Disk_init.2.1 5 = .ok (.sipush (144), 3) := by decide +kernel
theorem d_Disk_init_8 : decode mi_Disk_init.2.1 8 = .ok (.newarray .int, 2) := by decide +kernel
theorem d_Disk_init_10 : decode mi_Disk_init.2.1 10 = .ok (.putfield 9, 3) := by decide +kernel
theorem d_Disk_init_13 : decode mi_Disk_init.2.1 13 = .ok (.iconst 0, 1) := by decide +kernel
theorem d_Disk_init_14 : decode mi_Disk_init.2.1 14 = .ok (.istore_n 1, 1) := by decide +kernel
theorem d_Disk_init_15 : decode mi_Disk_init.2.1 15 = .ok (.iload_n 1, 1) := by decide +kernel
theorem d_Disk_init_16 : decode mi_Disk_init.2.1 16 = .ok (.bipush (18), 2) := by decide +kernel
theorem d_Disk_init_18 : decode mi_Disk_init.2.1 18 = .ok (.if_icmp .ge (14), 3) := by decide +kernel
theorem d_Disk_init_21 : decode mi_Disk_init.2.1 21 = .ok (.aload_n 0, 1) := by decide +kernel
theorem d_Disk_init_22 : decode mi_Disk_init.2.1 22 = .ok (.iload_n 1, 1) := by decide +kernel
theorem d_Disk_init_23 : decode mi_Disk_init.2.1 23 = .ok (.invokevirtual 13, 3) := by decide +kernel
theorem d_Disk_init_26 : decode mi_Disk_init.2.1 26 = .ok (.iinc 1 (1), 3) := by decide +kernel
theorem d_Disk_init_29 : decode mi_Disk_init.2.1 29 = .ok (.goto (-14), 3) := by decide +kernel
theorem d_Disk_init_32 : decode mi_Disk_init.2.1 32 = .ok (.return_, 1) := by decide +kernel
theorem d_Disk_isWrong_0 : decode mi_Disk_isWrong.2.1 0 = .ok (.iload_n 1, 1) := by decide +kernel
theorem d_Disk_isWrong_1 : decode mi_Disk_isWrong.2.1 1 = .ok (.bipush (8), 2) := by decide +kernel
theorem d_Disk_isWrong_3 : decode mi_Disk_isWrong.2.1 3 = .ok (.imul, 1) := by decide +kernel
theorem d_Disk_isWrong_4 : decode mi_Disk_isWrong.2.1 4 = .ok (.istore_n 2, 1) := by decide +kernel
theorem d_Disk_isWrong_5 : decode mi_Disk_isWrong.2.1 5 = .ok (.iload_n 2, 1) := by decide +kernel
theorem d_Disk_isWrong_6 : decode mi_Disk_isWrong.2.1 6 = .ok (.istore_n 3, 1) := by decide +kernel
theorem d_Disk_isWrong_7 : decode mi_Disk_isWrong.2.1 7 = .ok (.iload_n 3, 1) := by decide +kernel
theorem d_Disk_isWrong_8 : decode mi_Disk_isWrong.2.1 8 = .ok (.iload_n 2, 1) := by decide +kernel
theorem d_Disk_isWrong_9 : decode mi_Disk_isWrong.2.1 9 = .ok (.iconst 4, 1) := by decide +kernel
theorem d_Disk_isWrong_10 : decode mi_Disk_isWrong.2.1 10 = .ok (.iadd, 1) := by decide +kernel
theorem d_Disk_isWrong_11 : decode mi_Disk_isWrong.2.1 11 = .ok (.if_icmp .ge (32), 3) := by decide +kernel
theorem d_Disk_isWrong_14 : decode mi_Disk_isWrong.2.1 14 = .ok (.aload_n 0, 1) := by decide +kernel
theorem d_Disk_isWrong_15 : decode mi_Disk_isWrong.2.1 15 = .ok (.getfield 9, 3) := by decide +kernel
theorem d_Disk_isWrong_18 : decode mi_Disk_isWrong.2.1 18 = .ok (.iload_n 3, 1) := by decide +kernel
theorem d_Disk_isWrong_19 : decode mi_Disk_isWrong.2.1 19 = .ok (.iconst 4, 1) := by decide +kernel
theorem d_Disk_isWrong_20 : decode mi_Disk_isWrong.2.1 20 = .ok (.iadd, 1) := by decide +kernel
theorem d_Disk_isWrong_21 : decode mi_Disk_isWrong.2.1 21 = .ok (.iaload, 1) := by decide +kernel
theorem d_Disk_isWrong_22 : decode mi_Disk_isWrong.2.1 22 = .ok (.aload_n 0, 1) := by decide +kernel
theorem d_Disk_isWrong_23 : decode mi_Disk_isWrong.2.1 23 = .ok (.getfield 9, 3) := by decide +kernel
theorem d_Disk_isWrong_26 : decode mi_Disk_isWrong.2.1 26 = .ok (.iload_n 3, 1) := by decide +kernel
theorem d_Disk_isWrong_27 : decode mi_Disk_isWrong.2.1 27 = .ok (.iaload, 1) := by decide +kernel
theorem d_Disk_isWrong_28 : decode mi_Disk_isWrong.2.1 28 = .ok (.sipush (255), 3) := by decide +kernel
theorem d_Disk_isWrong_31 : decode mi_Disk_isWrong.2.1 31 = .ok (.ixor, 1) := by decide +kernel
theorem d_Disk_isWrong_32 : decode mi_Disk_isWrong.2.1 32 = .ok (.if_icmp .eq (5), 3) := by decide +kernel
theorem d_Disk_isWrong_35 : decode mi_Disk_isWrong.2.1 35 = .ok (.iconst 1, 1) := by decide +kernel
theorem d_Disk_isWrong_36 : decode mi_Disk_isWrong.2.1 36 = .ok (.ireturn, 1) := by decide +kernel
theorem d_Disk_isWrong_37 : decode mi_Disk_isWrong.2.1 37 = .ok (.iinc 3 (1), 3) := by decide +kernel
theorem d_Disk_isWrong_40 : decode mi_Disk_isWrong.2.1 40 = .ok (.goto (-33), 3) := by decide +kernel
theorem d_Disk_isWrong_43 : decode mi_Disk_isWrong.2.1 43 = .ok (.iconst 0, 1) := by decide +kernel
theorem d_Disk_isWrong_44 : decode mi_Disk_isWrong.2.1 44 = .ok (.ireturn, 1) := by decide +kernel
theorem d_Disk_commandIn_0 : decode mi_Disk_commandIn.2.1 0 = .ok (.aload_n 0, 1) := by decide +kernel
theorem d_Disk_commandIn_1 : decode mi_Disk_commandIn.2.1 1 = .ok (.getfield 9, 3) := by decide +kernel
theorem d_Disk_commandIn_4 : decode mi_Disk_commandIn.2.1 4 = .ok (.iload_n 1, 1) := by decide +kernel
theorem d_Disk_commandIn_5 : decode mi_Disk_commandIn.2.1 5 = .ok (.bipush (8), 2) := by decide +kernel
theorem d_Disk_commandIn_7 : decode mi_Disk_commandIn.2.1 7 = .ok (.imul, 1) := by decide +kernel
theorem d_Disk_commandIn_8 : decode mi_Disk_commandIn.2.1 8 = .ok (.iconst 1, 1) := by decide +kernel
theorem d_Disk_commandIn_9 : decode mi_Disk_commandIn.2.1 9 = .ok (.iadd, 1) := by decide +kernel
theorem d_Disk_commandIn_10 : decode mi_Disk_commandIn.2.1 10 = .ok (.iaload, 1) := by decide +kernel
theorem d_Disk_commandIn_11 : decode mi_Disk_commandIn.2.1 11 = .ok (.ireturn, 1) := by decide +kernel
theorem d_Disk_ballotIn_0 : decode mi_Disk_ballotIn.2.1 0 = .ok (.iload_n 1, 1) := by decide +kernel
theorem d_Disk_ballotIn_1 : decode mi_Disk_ballotIn.2.1 1 = .ok (.bipush (8), 2) := by decide +kernel
theorem d_Disk_ballotIn_3 : decode mi_Disk_ballotIn.2.1 3 = .ok (.imul, 1) := by decide +kernel
theorem d_Disk_ballotIn_4 : decode mi_Disk_ballotIn.2.1 4 = .ok (.istore_n 2, 1) := by decide +kernel
theorem d_Disk_ballotIn_5 : decode mi_Disk_ballotIn.2.1 5 = .ok (.sipush (256), 3) := by decide +kernel
theorem d_Disk_ballotIn_8 : decode mi_Disk_ballotIn.2.1 8 = .ok (.aload_n 0, 1) := by decide +kernel
theorem d_Disk_ballotIn_9 : decode mi_Disk_ballotIn.2.1 9 = .ok (.getfield 9, 3) := by decide +kernel
theorem d_Disk_ballotIn_12 : decode mi_Disk_ballotIn.2.1 12 = .ok (.iload_n 2, 1) := by decide +kernel
theorem d_Disk_ballotIn_13 : decode mi_Disk_ballotIn.2.1 13 = .ok (.iconst 2, 1) := by decide +kernel
theorem d_Disk_ballotIn_14 : decode mi_Disk_ballotIn.2.1 14 = .ok (.iadd, 1) := by decide +kernel
theorem d_Disk_ballotIn_15 : decode mi_Disk_ballotIn.2.1 15 = .ok (.iaload, 1) := by decide +kernel
theorem d_Disk_ballotIn_16 : decode mi_Disk_ballotIn.2.1 16 = .ok (.imul, 1) := by decide +kernel
theorem d_Disk_ballotIn_17 : decode mi_Disk_ballotIn.2.1 17 = .ok (.aload_n 0, 1) := by decide +kernel
theorem d_Disk_ballotIn_18 : decode mi_Disk_ballotIn.2.1 18 = .ok (.getfield 9, 3) := by decide +kernel
theorem d_Disk_ballotIn_21 : decode mi_Disk_ballotIn.2.1 21 = .ok (.iload_n 2, 1) := by decide +kernel
theorem d_Disk_ballotIn_22 : decode mi_Disk_ballotIn.2.1 22 = .ok (.iconst 3, 1) := by decide +kernel
theorem d_Disk_ballotIn_23 : decode mi_Disk_ballotIn.2.1 23 = .ok (.iadd, 1) := by decide +kernel
theorem d_Disk_ballotIn_24 : decode mi_Disk_ballotIn.2.1 24 = .ok (.iaload, 1) := by decide +kernel
theorem d_Disk_ballotIn_25 : decode mi_Disk_ballotIn.2.1 25 = .ok (.iadd, 1) := by decide +kernel
theorem d_Disk_ballotIn_26 : decode mi_Disk_ballotIn.2.1 26 = .ok (.ireturn, 1) := by decide +kernel
theorem d_Disk_putContent_0 : decode mi_Disk_putContent.2.1 0 = .ok (.iload_n 1, 1) := by decide +kernel
theorem d_Disk_putContent_1 : decode mi_Disk_putContent.2.1 1 = .ok (.bipush (8), 2) := by decide +kernel
theorem d_Disk_putContent_3 : decode mi_Disk_putContent.2.1 3 = .ok (.imul, 1) := by decide +kernel
theorem d_Disk_putContent_4 : decode mi_Disk_putContent.2.1 4 = .ok (.istore 5, 2) := by decide +kernel
theorem d_Disk_putContent_6 : decode mi_Disk_putContent.2.1 6 = .ok (.aload_n 0, 1) := by decide +kernel
theorem d_Disk_putContent_7 : decode mi_Disk_putContent.2.1 7 = .ok (.getfield 9, 3) := by decide +kernel
theorem d_Disk_putContent_10 : decode mi_Disk_putContent.2.1 10 = .ok (.iload 5, 2) := by decide +kernel
theorem d_Disk_putContent_12 : decode mi_Disk_putContent.2.1 12 = .ok (.iload_n 2, 1) := by decide +kernel
theorem d_Disk_putContent_13 : decode mi_Disk_putContent.2.1 13 = .ok (.iastore, 1) := by decide +kernel
theorem d_Disk_putContent_14 : decode mi_Disk_putContent.2.1 14 = .ok (.aload_n 0, 1) := by decide +kernel
theorem d_Disk_putContent_15 : decode mi_Disk_putContent.2.1 15 = .ok (.getfield 9, 3) := by decide +kernel
theorem d_Disk_putContent_18 : decode mi_Disk_putContent.2.1 18 = .ok (.iload 5, 2) := by decide +kernel
theorem d_Disk_putContent_20 : decode mi_Disk_putContent.2.1 20 = .ok (.iconst 1, 1) := by decide +kernel
theorem d_Disk_putContent_21 : decode mi_Disk_putContent.2.1 21 = .ok (.iadd, 1) := by decide +kernel
theorem d_Disk_putContent_22 : decode mi_Disk_putContent.2.1 22 = .ok (.iload_n 3, 1) := by decide +kernel
theorem d_Disk_putContent_23 : decode mi_Disk_putContent.2.1 23 = .ok (.iastore, 1) := by decide +kernel
theorem d_Disk_putContent_24 : decode mi_Disk_putContent.2.1 24 = .ok (.aload_n 0, 1) := by decide +kernel
theorem d_Disk_putContent_25 : decode mi_Disk_putContent.2.1 25 = .ok (.getfield 9, 3) := by decide +kernel
theorem d_Disk_putContent_28 : decode mi_Disk_putContent.2.1 28 = .ok (.iload 5, 2) := by decide +kernel
theorem d_Disk_putContent_30 : decode mi_Disk_putContent.2.1 30 = .ok (.iconst 2, 1) := by decide +kernel
theorem d_Disk_putContent_31 : decode mi_Disk_putContent.2.1 31 = .ok (.iadd, 1) := by decide +kernel
theorem d_Disk_putContent_32 : decode mi_Disk_putContent.2.1 32 = .ok (.iload 4, 2) := by decide +kernel
theorem d_Disk_putContent_34 : decode mi_Disk_putContent.2.1 34 = .ok (.sipush (256), 3) := by decide +kernel
theorem d_Disk_putContent_37 : decode mi_Disk_putContent.2.1 37 = .ok (.idiv, 1) := by decide +kernel
theorem d_Disk_putContent_38 : decode mi_Disk_putContent.2.1 38 = .ok (.iastore, 1) := by decide +kernel
theorem d_Disk_putContent_39 : decode mi_Disk_putContent.2.1 39 = .ok (.aload_n 0, 1) := by decide +kernel
theorem d_Disk_putContent_40 : decode mi_Disk_putContent.2.1 40 = .ok (.getfield 9, 3) := by decide +kernel
theorem d_Disk_putContent_43 : decode mi_Disk_putContent.2.1 43 = .ok (.iload 5, 2) := by decide +kernel
theorem d_Disk_putContent_45 : decode mi_Disk_putContent.2.1 45 = .ok (.iconst 3, 1) := by decide +kernel
theorem d_Disk_putContent_46 : decode mi_Disk_putContent.2.1 46 = .ok (.iadd, 1) := by decide +kernel
theorem d_Disk_putContent_47 : decode mi_Disk_putContent.2.1 47 = .ok (.iload 4, 2) := by decide +kernel
theorem d_Disk_putContent_49 : decode mi_Disk_putContent.2.1 49 = .ok (.sipush (256), 3) := by decide +kernel
theorem d_Disk_putContent_52 : decode mi_Disk_putContent.2.1 52 = .ok (.irem, 1) := by decide +kernel
theorem d_Disk_putContent_53 : decode mi_Disk_putContent.2.1 53 = .ok (.iastore, 1) := by decide +kernel
theorem d_Disk_putContent_54 : decode mi_Disk_putContent.2.1 54 = .ok (.return_, 1) := by decide +kernel
theorem d_Disk_sealSector_0 : decode mi_Disk_sealSector.2.1 0 = .ok (.iload_n 1, 1) := by decide +kernel
theorem d_Disk_sealSector_1 : decode mi_Disk_sealSector.2.1 1 = .ok (.bipush (8), 2) := by decide +kernel
theorem d_Disk_sealSector_3 : decode mi_Disk_sealSector.2.1 3 = .ok (.imul, 1) := by decide +kernel
theorem d_Disk_sealSector_4 : decode mi_Disk_sealSector.2.1 4 = .ok (.istore_n 2, 1) := by decide +kernel
theorem d_Disk_sealSector_5 : decode mi_Disk_sealSector.2.1 5 = .ok (.iload_n 2, 1) := by decide +kernel
theorem d_Disk_sealSector_6 : decode mi_Disk_sealSector.2.1 6 = .ok (.istore_n 3, 1) := by decide +kernel
theorem d_Disk_sealSector_7 : decode mi_Disk_sealSector.2.1 7 = .ok (.iload_n 3, 1) := by decide +kernel
theorem d_Disk_sealSector_8 : decode mi_Disk_sealSector.2.1 8 = .ok (.iload_n 2, 1) := by decide +kernel
theorem d_Disk_sealSector_9 : decode mi_Disk_sealSector.2.1 9 = .ok (.iconst 4, 1) := by decide +kernel
theorem d_Disk_sealSector_10 : decode mi_Disk_sealSector.2.1 10 = .ok (.iadd, 1) := by decide +kernel
theorem d_Disk_sealSector_11 : decode mi_Disk_sealSector.2.1 11 = .ok (.if_icmp .ge (27), 3) := by decide +kernel
theorem d_Disk_sealSector_14 : decode mi_Disk_sealSector.2.1 14 = .ok (.aload_n 0, 1) := by decide +kernel
theorem d_Disk_sealSector_15 : decode mi_Disk_sealSector.2.1 15 = .ok (.getfield 9, 3) := by decide +kernel
theorem d_Disk_sealSector_18 : decode mi_Disk_sealSector.2.1 18 = .ok (.iload_n 3, 1) := by decide +kernel
theorem d_Disk_sealSector_19 : decode mi_Disk_sealSector.2.1 19 = .ok (.iconst 4, 1) := by decide +kernel
theorem d_Disk_sealSector_20 : decode mi_Disk_sealSector.2.1 20 = .ok (.iadd, 1) := by decide +kernel
theorem d_Disk_sealSector_21 : decode mi_Disk_sealSector.2.1 21 = .ok (.aload_n 0, 1) := by decide +kernel
theorem d_Disk_sealSector_22 : decode mi_Disk_sealSector.2.1 22 = .ok (.getfield 9, 3) := by decide +kernel
theorem d_Disk_sealSector_25 : decode mi_Disk_sealSector.2.1 25 = .ok (.iload_n 3, 1) := by decide +kernel
theorem d_Disk_sealSector_26 : decode mi_Disk_sealSector.2.1 26 = .ok (.iaload, 1) := by decide +kernel
theorem d_Disk_sealSector_27 : decode mi_Disk_sealSector.2.1 27 = .ok (.sipush (255), 3) := by decide +kernel
theorem d_Disk_sealSector_30 : decode mi_Disk_sealSector.2.1 30 = .ok (.ixor, 1) := by decide +kernel
theorem d_Disk_sealSector_31 : decode mi_Disk_sealSector.2.1 31 = .ok (.iastore, 1) := by decide +kernel
theorem d_Disk_sealSector_32 : decode mi_Disk_sealSector.2.1 32 = .ok (.iinc 3 (1), 3) := by decide +kernel
theorem d_Disk_sealSector_35 : decode mi_Disk_sealSector.2.1 35 = .ok (.goto (-28), 3) := by decide +kernel
theorem d_Disk_sealSector_38 : decode mi_Disk_sealSector.2.1 38 = .ok (.return_, 1) := by decide +kernel
theorem d_Disk_flipBit_0 : decode mi_Disk_flipBit.2.1 0 = .ok (.aload_n 0, 1) := by decide +kernel
theorem d_Disk_flipBit_1 : decode mi_Disk_flipBit.2.1 1 = .ok (.getfield 9, 3) := by decide +kernel
theorem d_Disk_flipBit_4 : decode mi_Disk_flipBit.2.1 4 = .ok (.iload_n 1, 1) := by decide +kernel
theorem d_Disk_flipBit_5 : decode mi_Disk_flipBit.2.1 5 = .ok (.bipush (8), 2) := by decide +kernel
theorem d_Disk_flipBit_7 : decode mi_Disk_flipBit.2.1 7 = .ok (.imul, 1) := by decide +kernel
theorem d_Disk_flipBit_8 : decode mi_Disk_flipBit.2.1 8 = .ok (.iload_n 2, 1) := by decide +kernel
theorem d_Disk_flipBit_9 : decode mi_Disk_flipBit.2.1 9 = .ok (.bipush (8), 2) := by decide +kernel
theorem d_Disk_flipBit_11 : decode mi_Disk_flipBit.2.1 11 = .ok (.idiv, 1) := by decide +kernel
theorem d_Disk_flipBit_12 : decode mi_Disk_flipBit.2.1 12 = .ok (.iadd, 1) := by decide +kernel
theorem d_Disk_flipBit_13 : decode mi_Disk_flipBit.2.1 13 = .ok (.dup2, 1) := by decide +kernel
theorem d_Disk_flipBit_14 : decode mi_Disk_flipBit.2.1 14 = .ok (.iaload, 1) := by decide +kernel
theorem d_Disk_flipBit_15 : decode mi_Disk_flipBit.2.1 15 = .ok (.iconst 1, 1) := by decide +kernel
theorem d_Disk_flipBit_16 : decode mi_Disk_flipBit.2.1 16 = .ok (.iload_n 2, 1) := by decide +kernel
theorem d_Disk_flipBit_17 : decode mi_Disk_flipBit.2.1 17 = .ok (.bipush (8), 2) := by decide +kernel
theorem d_Disk_flipBit_19 : decode mi_Disk_flipBit.2.1 19 = .ok (.irem, 1) := by decide +kernel
theorem d_Disk_flipBit_20 : decode mi_Disk_flipBit.2.1 20 = .ok (.ishl, 1) := by decide +kernel
theorem d_Disk_flipBit_21 : decode mi_Disk_flipBit.2.1 21 = .ok (.ixor, 1) := by decide +kernel
theorem d_Disk_flipBit_22 : decode mi_Disk_flipBit.2.1 22 = .ok (.iastore, 1) := by decide +kernel
theorem d_Disk_flipBit_23 : decode mi_Disk_flipBit.2.1 23 = .ok (.return_, 1) := by decide +kernel
theorem d_Disk_clearSector_0 : decode mi_Disk_clearSector.2.1 0 = .ok (.iload_n 1, 1) := by decide +kernel
theorem d_Disk_clearSector_1 : decode mi_Disk_clearSector.2.1 1 = .ok (.bipush (8), 2) := by decide +kernel
theorem d_Disk_clearSector_3 : decode mi_Disk_clearSector.2.1 3 = .ok (.imul, 1) := by decide +kernel
theorem d_Disk_clearSector_4 : decode mi_Disk_clearSector.2.1 4 = .ok (.istore_n 2, 1) := by decide +kernel
theorem d_Disk_clearSector_5 : decode mi_Disk_clearSector.2.1 5 = .ok (.iload_n 2, 1) := by decide +kernel
theorem d_Disk_clearSector_6 : decode mi_Disk_clearSector.2.1 6 = .ok (.istore_n 3, 1) := by decide +kernel
theorem d_Disk_clearSector_7 : decode mi_Disk_clearSector.2.1 7 = .ok (.iload_n 3, 1) := by decide +kernel
theorem d_Disk_clearSector_8 : decode mi_Disk_clearSector.2.1 8 = .ok (.iload_n 2, 1) := by decide +kernel
theorem d_Disk_clearSector_9 : decode mi_Disk_clearSector.2.1 9 = .ok (.bipush (8), 2) := by decide +kernel
theorem d_Disk_clearSector_11 : decode mi_Disk_clearSector.2.1 11 = .ok (.iadd, 1) := by decide +kernel
theorem d_Disk_clearSector_12 : decode mi_Disk_clearSector.2.1 12 = .ok (.if_icmp .ge (16), 3) := by decide +kernel
theorem d_Disk_clearSector_15 : decode mi_Disk_clearSector.2.1 15 = .ok (.aload_n 0, 1) := by decide +kernel
theorem d_Disk_clearSector_16 : decode mi_Disk_clearSector.2.1 16 = .ok (.getfield 9, 3) := by decide +kernel
theorem d_Disk_clearSector_19 : decode mi_Disk_clearSector.2.1 19 = .ok (.iload_n 3, 1) := by decide +kernel
theorem d_Disk_clearSector_20 : decode mi_Disk_clearSector.2.1 20 = .ok (.iconst 0, 1) := by decide +kernel
theorem d_Disk_clearSector_21 : decode mi_Disk_clearSector.2.1 21 = .ok (.iastore, 1) := by decide +kernel
theorem d_Disk_clearSector_22 : decode mi_Disk_clearSector.2.1 22 = .ok (.iinc 3 (1), 3) := by decide +kernel
theorem d_Disk_clearSector_25 : decode mi_Disk_clearSector.2.1 25 = .ok (.goto (-18), 3) := by decide +kernel
theorem d_Disk_clearSector_28 : decode mi_Disk_clearSector.2.1 28 = .ok (.return_, 1) := by decide +kernel
theorem d_Ledger_init_0 : decode mi_Ledger_init.2.1 0 = .ok (.aload_n 0, 1) := by decide +kernel
theorem d_Ledger_init_1 : decode mi_Ledger_init.2.1 1 = .ok (.invokespecial 3, 3) := by decide +kernel
theorem d_Ledger_init_4 : decode mi_Ledger_init.2.1 4 = .ok (.aload_n 0, 1) := by decide +kernel
theorem d_Ledger_init_5 : decode mi_Ledger_init.2.1 5 = .ok (.bipush (9), 2) := by decide +kernel
theorem d_Ledger_init_7 : decode mi_Ledger_init.2.1 7 = .ok (.newarray .int, 2) := by decide +kernel
theorem d_Ledger_init_9 : decode mi_Ledger_init.2.1 9 = .ok (.putfield 9, 3) := by decide +kernel
theorem d_Ledger_init_12 : decode mi_Ledger_init.2.1 12 = .ok (.aload_n 0, 1) := by decide +kernel
theorem d_Ledger_init_13 : decode mi_Ledger_init.2.1 13 = .ok (.iconst 4, 1) := by decide +kernel
theorem d_Ledger_init_14 : decode mi_Ledger_init.2.1 14 = .ok (.newarray .int, 2) := by decide +kernel
theorem d_Ledger_init_16 : decode mi_Ledger_init.2.1 16 = .ok (.putfield 15, 3) := by decide +kernel
theorem d_Ledger_init_19 : decode mi_Ledger_init.2.1 19 = .ok (.aload_n 0, 1) := by decide +kernel
theorem d_Ledger_init_20 : decode mi_Ledger_init.2.1 20 = .ok (.bipush (31), 2) := by decide +kernel
theorem d_Ledger_init_22 : decode mi_Ledger_init.2.1 22 = .ok (.newarray .int, 2) := by decide +kernel
theorem d_Ledger_init_24 : decode mi_Ledger_init.2.1 24 = .ok (.putfield 18, 3) := by decide +kernel
theorem d_Ledger_init_27 : decode mi_Ledger_init.2.1 27 = .ok (.aload_n 0, 1) := by decide +kernel
theorem d_Ledger_init_28 : decode mi_Ledger_init.2.1 28 = .ok (.bipush (31), 2) := by decide +kernel
theorem d_Ledger_init_30 : decode mi_Ledger_init.2.1 30 = .ok (.newarray .boolean, 2) := by decide +kernel
theorem d_Ledger_init_32 : decode mi_Ledger_init.2.1 32 = .ok (.putfield 21, 3) := by decide +kernel
theorem d_Ledger_init_35 : decode mi_Ledger_init.2.1 35 = .ok (.aload_n 0, 1) := by decide +kernel
theorem d_Ledger_init_36 : decode mi_Ledger_init.2.1 36 = .ok (.aload_n 1, 1) := by decide +kernel
theorem d_Ledger_init_37 : decode mi_Ledger_init.2.1 37 = .ok (.putfield 25, 3) := by decide +kernel
theorem d_Ledger_init_40 : decode mi_Ledger_init.2.1 40 = .ok (.aload_n 0, 1) := by decide +kernel
theorem d_Ledger_init_41 : decode mi_Ledger_init.2.1 41 = .ok (.invokevirtual 29, 3) := by decide +kernel
theorem d_Ledger_init_44 : decode mi_Ledger_init.2.1 44 = .ok (.return_, 1) := by decide +kernel
theorem d_Ledger_forget_0 : decode mi_Ledger_forget.2.1 0 = .ok (.iconst 0, 1) := by decide +kernel
theorem d_Ledger_forget_1 : decode mi_Ledger_forget.2.1 1 = .ok (.istore_n 1, 1) := by decide +kernel
theorem d_Ledger_forget_2 : decode mi_Ledger_forget.2.1 2 = .ok (.iload_n 1, 1) := by decide +kernel
theorem d_Ledger_forget_3 : decode mi_Ledger_forget.2.1 3 = .ok (.bipush (8), 2) := by decide +kernel
theorem d_Ledger_forget_5 : decode mi_Ledger_forget.2.1 5 = .ok (.if_icmp .gt (16), 3) := by decide +kernel
theorem d_Ledger_forget_8 : decode mi_Ledger_forget.2.1 8 = .ok (.aload_n 0, 1) := by decide +kernel
theorem d_Ledger_forget_9 : decode mi_Ledger_forget.2.1 9 = .ok (.getfield 9, 3) := by decide +kernel
theorem d_Ledger_forget_12 : decode mi_Ledger_forget.2.1 12 = .ok (.iload_n 1, 1) := by decide +kernel
theorem d_Ledger_forget_13 : decode mi_Ledger_forget.2.1 13 = .ok (.iconst (-1), 1) := by decide +kernel
theorem d_Ledger_forget_14 : decode mi_Ledger_forget.2.1 14 = .ok (.iastore, 1) := by decide +kernel
theorem d_Ledger_forget_15 : decode mi_Ledger_forget.2.1 15 = .ok (.iinc 1 (1), 3) := by decide +kernel
theorem d_Ledger_forget_18 : decode mi_Ledger_forget.2.1 18 = .ok (.goto (-16), 3) := by decide +kernel
theorem d_Ledger_forget_21 : decode mi_Ledger_forget.2.1 21 = .ok (.iconst 0, 1) := by decide +kernel
theorem d_Ledger_forget_22 : decode mi_Ledger_forget.2.1 22 = .ok (.istore_n 1, 1) := by decide +kernel
theorem d_Ledger_forget_23 : decode mi_Ledger_forget.2.1 23 = .ok (.iload_n 1, 1) := by decide +kernel
theorem d_Ledger_forget_24 : decode mi_Ledger_forget.2.1 24 = .ok (.iconst 4, 1) := by decide +kernel
theorem d_Ledger_forget_25 : decode mi_Ledger_forget.2.1 25 = .ok (.if_icmp .ge (16), 3) := by decide +kernel
theorem d_Ledger_forget_28 : decode mi_Ledger_forget.2.1 28 = .ok (.aload_n 0, 1) := by decide +kernel
theorem d_Ledger_forget_29 : decode mi_Ledger_forget.2.1 29 = .ok (.getfield 15, 3) := by decide +kernel
theorem d_Ledger_forget_32 : decode mi_Ledger_forget.2.1 32 = .ok (.iload_n 1, 1) := by decide +kernel
theorem d_Ledger_forget_33 : decode mi_Ledger_forget.2.1 33 = .ok (.iconst 0, 1) := by decide +kernel
theorem d_Ledger_forget_34 : decode mi_Ledger_forget.2.1 34 = .ok (.iastore, 1) := by decide +kernel
theorem d_Ledger_forget_35 : decode mi_Ledger_forget.2.1 35 = .ok (.iinc 1 (1), 3) := by decide +kernel
theorem d_Ledger_forget_38 : decode mi_Ledger_forget.2.1 38 = .ok (.goto (-15), 3) := by decide +kernel
theorem d_Ledger_forget_41 : decode mi_Ledger_forget.2.1 41 = .ok (.iconst 0, 1) := by decide +kernel
theorem d_Ledger_forget_42 : decode mi_Ledger_forget.2.1 42 = .ok (.istore_n 1, 1) := by decide +kernel
theorem d_Ledger_forget_43 : decode mi_Ledger_forget.2.1 43 = .ok (.iload_n 1, 1) := by decide +kernel
theorem d_Ledger_forget_44 : decode mi_Ledger_forget.2.1 44 = .ok (.bipush (30), 2) := by decide +kernel
theorem d_Ledger_forget_46 : decode mi_Ledger_forget.2.1 46 = .ok (.if_icmp .gt (23), 3) := by decide +kernel
theorem d_Ledger_forget_49 : decode mi_Ledger_forget.2.1 49 = .ok (.aload_n 0, 1) := by decide +kernel
theorem d_Ledger_forget_50 : decode mi_Ledger_forget.2.1 50 = .ok (.getfield 18, 3) := by decide +kernel
theorem d_Ledger_forget_53 : decode mi_Ledger_forget.2.1 53 = .ok (.iload_n 1, 1) := by decide +kernel
theorem d_Ledger_forget_54 : decode mi_Ledger_forget.2.1 54 = .ok (.iconst 0, 1) := by decide +kernel
theorem d_Ledger_forget_55 : decode mi_Ledger_forget.2.1 55 = .ok (.iastore, 1) := by decide +kernel
theorem d_Ledger_forget_56 : decode mi_Ledger_forget.2.1 56 = .ok (.aload_n 0, 1) := by decide +kernel
theorem d_Ledger_forget_57 : decode mi_Ledger_forget.2.1 57 = .ok (.getfield 21, 3) := by decide +kernel
theorem d_Ledger_forget_60 : decode mi_Ledger_forget.2.1 60 = .ok (.iload_n 1, 1) := by decide +kernel
theorem d_Ledger_forget_61 : decode mi_Ledger_forget.2.1 61 = .ok (.iconst 0, 1) := by decide +kernel
theorem d_Ledger_forget_62 : decode mi_Ledger_forget.2.1 62 = .ok (.bastore, 1) := by decide +kernel
theorem d_Ledger_forget_63 : decode mi_Ledger_forget.2.1 63 = .ok (.iinc 1 (1), 3) := by decide +kernel
theorem d_Ledger_forget_66 : decode mi_Ledger_forget.2.1 66 = .ok (.goto (-23), 3) := by decide +kernel
theorem d_Ledger_forget_69 : decode mi_Ledger_forget.2.1 69 = .ok (.aload_n 0, 1) := by decide +kernel
theorem d_Ledger_forget_70 : decode mi_Ledger_forget.2.1 70 = .ok (.iconst 0, 1) := by decide +kernel
theorem d_Ledger_forget_71 : decode mi_Ledger_forget.2.1 71 = .ok (.putfield 32, 3) := by decide +kernel
theorem d_Ledger_forget_74 : decode mi_Ledger_forget.2.1 74 = .ok (.return_, 1) := by decide +kernel
theorem d_Ledger_isDone_0 : decode mi_Ledger_isDone.2.1 0 = .ok (.aload_n 0, 1) := by decide +kernel
theorem d_Ledger_isDone_1 : decode mi_Ledger_isDone.2.1 1 = .ok (.getfield 21, 3) := by decide +kernel
theorem d_Ledger_isDone_4 : decode mi_Ledger_isDone.2.1 4 = .ok (.iload_n 1, 1) := by decide +kernel
theorem d_Ledger_isDone_5 : decode mi_Ledger_isDone.2.1 5 = .ok (.baload, 1) := by decide +kernel
theorem d_Ledger_isDone_6 : decode mi_Ledger_isDone.2.1 6 = .ok (.ireturn, 1) := by decide +kernel
theorem d_Ledger_answerTo_0 : decode mi_Ledger_answerTo.2.1 0 = .ok (.aload_n 0, 1) := by decide +kernel
theorem d_Ledger_answerTo_1 : decode mi_Ledger_answerTo.2.1 1 = .ok (.getfield 18, 3) := by decide +kernel
theorem d_Ledger_answerTo_4 : decode mi_Ledger_answerTo.2.1 4 = .ok (.iload_n 1, 1) := by decide +kernel
theorem d_Ledger_answerTo_5 : decode mi_Ledger_answerTo.2.1 5 = .ok (.iaload, 1) := by decide +kernel
theorem d_Ledger_answerTo_6 : decode mi_Ledger_answerTo.2.1 6 = .ok (.ireturn, 1) := by decide +kernel
theorem d_Ledger_learn_0 : decode mi_Ledger_learn.2.1 0 = .ok (.aload_n 0, 1) := by decide +kernel
theorem d_Ledger_learn_1 : decode mi_Ledger_learn.2.1 1 = .ok (.getfield 9, 3) := by decide +kernel
theorem d_Ledger_learn_4 : decode mi_Ledger_learn.2.1 4 = .ok (.iload_n 1, 1) := by decide +kernel
theorem d_Ledger_learn_5 : decode mi_Ledger_learn.2.1 5 = .ok (.iaload, 1) := by decide +kernel
theorem d_Ledger_learn_6 : decode mi_Ledger_learn.2.1 6 = .ok (.iconst (-1), 1) := by decide +kernel
theorem d_Ledger_learn_7 : decode mi_Ledger_learn.2.1 7 = .ok (.if_icmp .eq (5), 3) := by decide +kernel
theorem d_Ledger_learn_10 : decode mi_Ledger_learn.2.1 10 = .ok (.iconst 0, 1) := by decide +kernel
theorem d_Ledger_learn_11 : decode mi_Ledger_learn.2.1 11 = .ok (.ireturn, 1) := by decide +kernel
theorem d_Ledger_learn_12 : decode mi_Ledger_learn.2.1 12 = .ok (.aload_n 0, 1) := by decide +kernel
theorem d_Ledger_learn_13 : decode mi_Ledger_learn.2.1 13 = .ok (.getfield 9, 3) := by decide +kernel
theorem d_Ledger_learn_16 : decode mi_Ledger_learn.2.1 16 = .ok (.iload_n 1, 1) := by decide +kernel
theorem d_Ledger_learn_17 : decode mi_Ledger_learn.2.1 17 = .ok (.iload_n 2, 1) := by decide +kernel
theorem d_Ledger_learn_18 : decode mi_Ledger_learn.2.1 18 = .ok (.iastore, 1) := by decide +kernel
theorem d_Ledger_learn_19 : decode mi_Ledger_learn.2.1 19 = .ok (.aload_n 0, 1) := by decide +kernel
theorem d_Ledger_learn_20 : decode mi_Ledger_learn.2.1 20 = .ok (.invokevirtual 36, 3) := by decide +kernel
theorem d_Ledger_learn_23 : decode mi_Ledger_learn.2.1 23 = .ok (.iconst 1, 1) := by decide +kernel
theorem d_Ledger_learn_24 : decode mi_Ledger_learn.2.1 24 = .ok (.ireturn, 1) := by decide +kernel
theorem d_Ledger_learnAll_0 : decode mi_Ledger_learnAll.2.1 0 = .ok (.iconst 0, 1) := by decide +kernel
theorem d_Ledger_learnAll_1 : decode mi_Ledger_learnAll.2.1 1 = .ok (.istore_n 2, 1) := by decide +kernel
theorem d_Ledger_learnAll_2 : decode mi_Ledger_learnAll.2.1 2 = .ok (.iconst 1, 1) := by decide +kernel
theorem d_Ledger_learnAll_3 : decode mi_Ledger_learnAll.2.1 3 = .ok (.istore_n 3, 1) := by decide +kernel
theorem d_Ledger_learnAll_4 : decode mi_Ledger_learnAll.2.1 4 = .ok (.iload_n 3, 1) := by decide +kernel
theorem d_Ledger_learnAll_5 : decode mi_Ledger_learnAll.2.1 5 = .ok (.bipush (8), 2) := by decide +kernel
theorem d_Ledger_learnAll_7 : decode mi_Ledger_learnAll.2.1 7 = .ok (.if_icmp .gt (36), 3) := by decide +kernel
theorem d_Ledger_learnAll_10 : decode mi_Ledger_learnAll.2.1 10 = .ok (.aload_n 1, 1) := by decide +kernel
theorem d_Ledger_learnAll_11 : decode mi_Ledger_learnAll.2.1 11 = .ok (.getfield 9, 3) := by decide +kernel
theorem d_Ledger_learnAll_14 : decode mi_Ledger_learnAll.2.1 14 = .ok (.iload_n 3, 1) := by decide +kernel
theorem d_Ledger_learnAll_15 : decode mi_Ledger_learnAll.2.1 15 = .ok (.iaload, 1) := by decide +kernel
theorem d_Ledger_learnAll_16 : decode mi_Ledger_learnAll.2.1 16 = .ok (.istore 4, 2) := by decide +kernel
theorem d_Ledger_learnAll_18 : decode mi_Ledger_learnAll.2.1 18 = .ok (.iload 4, 2) := by decide +kernel
theorem d_Ledger_learnAll_20 : decode mi_Ledger_learnAll.2.1 20 = .ok (.iconst (-1), 1) := by decide +kernel
theorem d_Ledger_learnAll_21 : decode mi_Ledger_learnAll.2.1 21 = .ok (.if_icmp .eq (16), 3) := by decide +kernel
theorem d_Ledger_learnAll_24 : decode mi_Ledger_learnAll.2.1 24 = .ok (.aload_n 0, 1) := by decide +kernel
theorem d_Ledger_learnAll_25 : decode mi_Ledger_learnAll.2.1 25 = .ok (.iload_n 3, 1) := by decide +kernel
theorem d_Ledger_learnAll_26 : decode mi_Ledger_learnAll.2.1 26 = .ok (.iload 4, 2) := by decide +kernel
theorem d_Ledger_learnAll_28 : decode mi_Ledger_learnAll.2.1 28 = .ok (.invokevirtual 39, 3) := by decide +kernel
theorem d_Ledger_learnAll_31 : decode mi_Ledger_learnAll.2.1 31 = .ok (.ifCond .eq (6), 3) := by decide +kernel
theorem d_Ledger_learnAll_34 : decode mi_Ledger_learnAll.2.1 34 = .ok (.iinc 2 (1), 3) := by decide +kernel
theorem d_Ledger_learnAll_37 : decode mi_Ledger_learnAll.2.1 37 = .ok (.iinc 3 (1), 3) := by decide +kernel
theorem d_Ledger_learnAll_40 : decode mi_Ledger_learnAll.2.1 40 = .ok (.goto (-36), 3) := by decide +kernel
theorem d_Ledger_learnAll_43 : decode mi_Ledger_learnAll.2.1 43 = .ok (.iload_n 2, 1) := by decide +kernel
theorem d_Ledger_learnAll_44 : decode mi_Ledger_learnAll.2.1 44 = .ok (.ireturn, 1) := by decide +kernel
theorem d_Ledger_doWhatIsNext_0 : decode mi_Ledger_doWhatIsNext.2.1 0 = .ok (.aload_n 0, 1) := by decide +kernel
theorem d_Ledger_doWhatIsNext_1 : decode mi_Ledger_doWhatIsNext.2.1 1 = .ok (.getfield 32, 3) := by decide +kernel
theorem d_Ledger_doWhatIsNext_4 : decode mi_Ledger_doWhatIsNext.2.1 4 = .ok (.iconst 1, 1) := by decide +kernel
theorem d_Ledger_doWhatIsNext_5 : decode mi_Ledger_doWhatIsNext.2.1 5 = .ok (.iadd, 1) := by decide +kernel
theorem d_Ledger_doWhatIsNext_6 : decode mi_Ledger_doWhatIsNext.2.1 6 = .ok (.istore_n 1, 1) := by decide +kernel
theorem d_Ledger_doWhatIsNext_7 : decode mi_Ledger_doWhatIsNext.2.1 7 = .ok (.iload_n 1, 1) := by decide +kernel
theorem d_Ledger_doWhatIsNext_8 : decode mi_Ledger_doWhatIsNext.2.1 8 = .ok (.bipush (8), 2) := by decide +kernel
theorem d_Ledger_doWhatIsNext_10 : decode mi_Ledger_doWhatIsNext.2.1 10 = .ok (.if_icmp .gt (34), 3) := by decide +kernel
theorem d_Ledger_doWhatIsNext_13 : decode mi_Ledger_doWhatIsNext.2.1 13 = .ok (.aload_n 0, 1) := by decide +kernel
theorem d_Ledger_doWhatIsNext_14 : decode mi_Ledger_doWhatIsNext.2.1 14 = .ok (.getfield 9, 3) := by decide +kernel
theorem d_Ledger_doWhatIsNext_17 : decode mi_Ledger_doWhatIsNext.2.1 17 = .ok (.iload_n 1, 1) := by decide +kernel
theorem d_Ledger_doWhatIsNext_18 : decode mi_Ledger_doWhatIsNext.2.1 18 = .ok (.iaload, 1) := by decide +kernel
theorem d_Ledger_doWhatIsNext_19 : decode mi_Ledger_doWhatIsNext.2.1 19 = .ok (.iconst (-1), 1) := by decide +kernel
theorem d_Ledger_doWhatIsNext_20 : decode mi_Ledger_doWhatIsNext.2.1 20 = .ok (.if_icmp .eq (24), 3) := by decide +kernel
theorem d_Ledger_doWhatIsNext_23 : decode mi_Ledger_doWhatIsNext.2.1 23 = .ok (.aload_n 0, 1) := by decide +kernel
theorem d_Ledger_doWhatIsNext_24 : decode mi_Ledger_doWhatIsNext.2.1 24 = .ok (.aload_n 0, 1) := by decide +kernel
theorem d_Ledger_doWhatIsNext_25 : decode mi_Ledger_doWhatIsNext.2.1 25 = .ok (.getfield 9, 3) := by decide +kernel
theorem d_Ledger_doWhatIsNext_28 : decode mi_Ledger_doWhatIsNext.2.1 28 = .ok (.iload_n 1, 1) := by decide +kernel
theorem d_Ledger_doWhatIsNext_29 : decode mi_Ledger_doWhatIsNext.2.1 29 = .ok (.iaload, 1) := by decide +kernel
theorem d_Ledger_doWhatIsNext_30 : decode mi_Ledger_doWhatIsNext.2.1 30 = .ok (.invokevirtual 43, 3) := by decide +kernel
theorem d_Ledger_doWhatIsNext_33 : decode mi_Ledger_doWhatIsNext.2.1 33 = .ok (.aload_n 0, 1) := by decide +kernel
theorem d_Ledger_doWhatIsNext_34 : decode mi_Ledger_doWhatIsNext.2.1 34 = .ok (.iload_n 1, 1) := by decide +kernel
theorem d_Ledger_doWhatIsNext_35 : decode mi_Ledger_doWhatIsNext.2.1 35 = .ok (.putfield 32, 3) := by decide +kernel
theorem d_Ledger_doWhatIsNext_38 : decode mi_Ledger_doWhatIsNext.2.1 38 = .ok (.iinc 1 (1), 3) := by decide +kernel
theorem d_Ledger_doWhatIsNext_41 : decode mi_Ledger_doWhatIsNext.2.1 41 = .ok (.goto (-34), 3) := by decide +kernel
theorem d_Ledger_doWhatIsNext_44 : decode mi_Ledger_doWhatIsNext.2.1 44 = .ok (.return_, 1) := by decide +kernel
theorem d_Ledger_perform_0 : decode mi_Ledger_perform.2.1 0 = .ok (.aload_n 0, 1) := by decide +kernel
theorem d_Ledger_perform_1 : decode mi_Ledger_perform.2.1 1 = .ok (.getfield 25, 3) := by decide +kernel
theorem d_Ledger_perform_4 : decode mi_Ledger_perform.2.1 4 = .ok (.iload_n 1, 1) := by decide +kernel
theorem d_Ledger_perform_5 : decode mi_Ledger_perform.2.1 5 = .ok (.invokevirtual 47, 3) := by decide +kernel
theorem d_Ledger_perform_8 : decode mi_Ledger_perform.2.1 8 = .ok (.ifCond .eq (12), 3) := by decide +kernel
theorem d_Ledger_perform_11 : decode mi_Ledger_perform.2.1 11 = .ok (.aload_n 0, 1) := by decide +kernel
theorem d_Ledger_perform_12 : decode mi_Ledger_perform.2.1 12 = .ok (.getfield 21, 3) := by decide +kernel
theorem d_Ledger_perform_15 : decode mi_Ledger_perform.2.1 15 = .ok (.iload_n 1, 1) := by decide +kernel
theorem d_Ledger_perform_16 : decode mi_Ledger_perform.2.1 16 = .ok (.baload, 1) := by decide +kernel
theorem d_Ledger_perform_17 : decode mi_Ledger_perform.2.1 17 = .ok (.ifCond .eq (4), 3) := by decide +kernel
theorem d_Ledger_perform_20 : decode mi_Ledger_perform.2.1 20 = .ok (.return_, 1) := by decide +kernel
theorem d_Ledger_perform_21 : decode mi_Ledger_perform.2.1 21 = .ok (.aload_n 0, 1) := by decide +kernel
theorem d_Ledger_perform_22 : decode mi_Ledger_perform.2.1 22 = .ok (.getfield 25, 3) := by decide +kernel
theorem d_Ledger_perform_25 : decode mi_Ledger_perform.2.1 25 = .ok (.getfield 53, 3) := by decide +kernel
theorem d_Ledger_perform_28 : decode mi_Ledger_perform.2.1 28 = .ok (.iload_n 1, 1) := by decide +kernel
theorem d_Ledger_perform_29 : decode mi_Ledger_perform.2.1 29 = .ok (.iaload, 1) := by decide +kernel
theorem d_Ledger_perform_30 : decode mi_Ledger_perform.2.1 30 = .ok (.istore_n 2, 1) := by decide +kernel
theorem d_Ledger_perform_31 : decode mi_Ledger_perform.2.1 31 = .ok (.aload_n 0, 1) := by decide +kernel
theorem d_Ledger_perform_32 : decode mi_Ledger_perform.2.1 32 = .ok (.getfield 18, 3) := by decide +kernel
theorem d_Ledger_perform_35 : decode mi_Ledger_perform.2.1 35 = .ok (.iload_n 1, 1) := by decide +kernel
theorem d_Ledger_perform_36 : decode mi_Ledger_perform.2.1 36 = .ok (.aload_n 0, 1) := by decide +kernel
theorem d_Ledger_perform_37 : decode mi_Ledger_perform.2.1 37 = .ok (.getfield 15, 3) := by decide +kernel
theorem d_Ledger_perform_40 : decode mi_Ledger_perform.2.1 40 = .ok (.iload_n 2, 1) := by decide +kernel
theorem d_Ledger_perform_41 : decode mi_Ledger_perform.2.1 41 = .ok (.iaload, 1) := by decide +kernel
theorem d_Ledger_perform_42 : decode mi_Ledger_perform.2.1 42 = .ok (.iastore, 1) := by decide +kernel
theorem d_Ledger_perform_43 : decode mi_Ledger_perform.2.1 43 = .ok (.aload_n 0, 1) := by decide +kernel
theorem d_Ledger_perform_44 : decode mi_Ledger_perform.2.1 44 = .ok (.getfield 15, 3) := by decide +kernel
theorem d_Ledger_perform_47 : decode mi_Ledger_perform.2.1 47 = .ok (.iload_n 2, 1) := by decide +kernel
theorem d_Ledger_perform_48 : decode mi_Ledger_perform.2.1 48 = .ok (.aload_n 0, 1) := by decide +kernel
theorem d_Ledger_perform_49 : decode mi_Ledger_perform.2.1 49 = .ok (.getfield 25, 3) := by decide +kernel
theorem d_Ledger_perform_52 : decode mi_Ledger_perform.2.1 52 = .ok (.getfield 56, 3) := by decide +kernel
theorem d_Ledger_perform_55 : decode mi_Ledger_perform.2.1 55 = .ok (.iload_n 1, 1) := by decide +kernel
theorem d_Ledger_perform_56 : decode mi_Ledger_perform.2.1 56 = .ok (.iaload, 1) := by decide +kernel
theorem d_Ledger_perform_57 : decode mi_Ledger_perform.2.1 57 = .ok (.iastore, 1) := by decide +kernel
theorem d_Ledger_perform_58 : decode mi_Ledger_perform.2.1 58 = .ok (.aload_n 0, 1) := by decide +kernel
theorem d_Ledger_perform_59 : decode mi_Ledger_perform.2.1 59 = .ok (.getfield 21, 3) := by decide +kernel
theorem d_Ledger_perform_62 : decode mi_Ledger_perform.2.1 62 = .ok (.iload_n 1, 1) := by decide +kernel
theorem d_Ledger_perform_63 : decode mi_Ledger_perform.2.1 63 = .ok (.iconst 1, 1) := by decide +kernel
theorem d_Ledger_perform_64 : decode mi_Ledger_perform.2.1 64 = .ok (.bastore, 1) := by decide +kernel
theorem d_Ledger_perform_65 : decode mi_Ledger_perform.2.1 65 = .ok (.return_, 1) := by decide +kernel
theorem d_Node_init_0 : decode mi_Node_init.2.1 0 = .ok (.aload_n 0, 1) := by decide +kernel
theorem d_Node_init_1 : decode mi_Node_init.2.1 1 = .ok (.invokespecial 3, 3) := by decide +kernel
theorem d_Node_init_4 : decode mi_Node_init.2.1 4 = .ok (.aload_n 0, 1) := by decide +kernel
theorem d_Node_init_5 : decode mi_Node_init.2.1 5 = .ok (.new 9, 3) := by decide +kernel
theorem d_Node_init_8 : decode mi_Node_init.2.1 8 = .ok (.dup, 1) := by decide +kernel
theorem d_Node_init_9 : decode mi_Node_init.2.1 9 = .ok (.invokespecial 11, 3) := by decide +kernel
theorem d_Node_init_12 : decode mi_Node_init.2.1 12 = .ok (.putfield 12, 3) := by decide +kernel
theorem d_Node_init_15 : decode mi_Node_init.2.1 15 = .ok (.aload_n 0, 1) := by decide +kernel
theorem d_Node_init_16 : decode mi_Node_init.2.1 16 = .ok (.bipush (9), 2) := by decide +kernel
theorem d_Node_init_18 : decode mi_Node_init.2.1 18 = .ok (.newarray .int, 2) := by decide +kernel
theorem d_Node_init_20 : decode mi_Node_init.2.1 20 = .ok (.putfield 18, 3) := by decide +kernel
theorem d_Node_init_23 : decode mi_Node_init.2.1 23 = .ok (.aload_n 0, 1) := by decide +kernel
theorem d_Node_init_24 : decode mi_Node_init.2.1 24 = .ok (.iconst 1, 1) := by decide +kernel
theorem d_Node_init_25 : decode mi_Node_init.2.1 25 = .ok (.putfield 22, 3) := by decide +kernel
theorem d_Node_init_28 : decode mi_Node_init.2.1 28 = .ok (.aload_n 0, 1) := by decide +kernel
theorem d_Node_init_29 : decode mi_Node_init.2.1 29 = .ok (.iconst (-1), 1) := by decide +kernel
theorem d_Node_init_30 : decode mi_Node_init.2.1 30 = .ok (.putfield 26, 3) := by decide +kernel
theorem d_Node_init_33 : decode mi_Node_init.2.1 33 = .ok (.aload_n 0, 1) := by decide +kernel
theorem d_Node_init_34 : decode mi_Node_init.2.1 34 = .ok (.iload_n 1, 1) := by decide +kernel
theorem d_Node_init_35 : decode mi_Node_init.2.1 35 = .ok (.putfield 30, 3) := by decide +kernel
theorem d_Node_init_38 : decode mi_Node_init.2.1 38 = .ok (.aload_n 0, 1) := by decide +kernel
theorem d_Node_init_39 : decode mi_Node_init.2.1 39 = .ok (.new 33, 3) := by decide +kernel
theorem d_Node_init_42 : decode mi_Node_init.2.1 42 = .ok (.dup, 1) := by decide +kernel
theorem d_Node_init_43 : decode mi_Node_init.2.1 43 = .ok (.iload_n 2, 1) := by decide +kernel
theorem d_Node_init_44 : decode mi_Node_init.2.1 44 = .ok (.invokespecial 35, 3) := by decide +kernel
theorem d_Node_init_47 : decode mi_Node_init.2.1 47 = .ok (.putfield 38, 3) := by decide +kernel
theorem d_Node_init_50 : decode mi_Node_init.2.1 50 = .ok (.aload_n 0, 1) := by decide +kernel
theorem d_Node_init_51 : decode mi_Node_init.2.1 51 = .ok (.new 42, 3) := by decide +kernel
theorem d_Node_init_54 : decode mi_Node_init.2.1 54 = .ok (.dup, 1) := by decide +kernel
theorem d_Node_init_55 : decode mi_Node_init.2.1 55 = .ok (.aload_n 3, 1) := by decide +kernel
theorem d_Node_init_56 : decode mi_Node_init.2.1 56 = .ok (.invokespecial 44, 3) := by decide +kernel
theorem d_Node_init_59 : decode mi_Node_init.2.1 59 = .ok (.putfield 47, 3) := by decide +kernel
theorem d_Node_init_62 : decode mi_Node_init.2.1 62 = .ok (.return_, 1) := by decide +kernel
theorem d_Node_canTakePart_0 : decode mi_Node_canTakePart.2.1 0 = .ok (.aload_n 0, 1) := by decide +kernel
theorem d_Node_canTakePart_1 : decode mi_Node_canTakePart.2.1 1 = .ok (.getfield 22, 3) := by decide +kernel
theorem d_Node_canTakePart_4 : decode mi_Node_canTakePart.2.1 4 = .ok (.ifCond .eq (14), 3) := by decide +kernel
theorem d_Node_canTakePart_7 : decode mi_Node_canTakePart.2.1 7 = .ok (.aload_n 0, 1) := by decide +kernel
theorem d_Node_canTakePart_8 : decode mi_Node_canTakePart.2.1 8 = .ok (.getfield 51, 3) := by decide +kernel
theorem d_Node_canTakePart_11 : decode mi_Node_canTakePart.2.1 11 = .ok (.ifCond .ne (7), 3) := by decide +kernel
theorem d_Node_canTakePart_14 : decode mi_Node_canTakePart.2.1 14 = .ok (.iconst 1, 1) := by decide +kernel
theorem d_Node_canTakePart_15 : decode mi_Node_canTakePart.2.1 15 = .ok (.goto (4), 3) := by decide +kernel
theorem d_Node_canTakePart_18 : decode mi_Node_canTakePart.2.1 18 = .ok (.iconst 0, 1) := by decide +kernel
theorem d_Node_canTakePart_19 : decode mi_Node_canTakePart.2.1 19 = .ok (.ireturn, 1) := by decide +kernel
theorem d_Node_hasDamagedSlot_0 : decode mi_Node_hasDamagedSlot.2.1 0 = .ok (.iconst 1, 1) := by decide +kernel
theorem d_Node_hasDamagedSlot_1 : decode mi_Node_hasDamagedSlot.2.1 1 = .ok (.istore_n 1, 1) := by decide +kernel
theorem d_Node_hasDamagedSlot_2 : decode mi_Node_hasDamagedSlot.2.1 2 = .ok (.iload_n 1, 1) := by decide +kernel
theorem d_Node_hasDamagedSlot_3 : decode mi_Node_hasDamagedSlot.2.1 3 = .ok (.bipush (8), 2) := by decide +kernel
theorem d_Node_hasDamagedSlot_5 : decode mi_Node_hasDamagedSlot.2.1 5 = .ok (.if_icmp .gt (23), 3) := by decide +kernel
theorem d_Node_hasDamagedSlot_8 : decode mi_Node_hasDamagedSlot.2.1 8 = .ok (.aload_n 0, 1) := by decide +kernel
theorem d_Node_hasDamagedSlot_9 : decode mi_Node_hasDamagedSlot.2.1 9 = .ok (.getfield 18, 3) := by decide +kernel
theorem d_Node_hasDamagedSlot_12 : decode mi_Node_hasDamagedSlot.2.1 12 = .ok (.iload_n 1, 1) := by decide +kernel
theorem d_Node_hasDamagedSlot_13 : decode mi_Node_hasDamagedSlot.2.1 13 = .ok (.iaload, 1) := by decide +kernel
theorem d_Node_hasDamagedSlot_14 : decode mi_Node_hasDamagedSlot.2.1 14 = .ok (.invokestatic 54, 3) := by decide +kernel
theorem d_Node_hasDamagedSlot_17 : decode mi_Node_hasDamagedSlot.2.1 17 = .ok (.ifCond .eq (5), 3) := by decide +kernel
theorem d_Node_hasDamagedSlot_20 : decode mi_Node_hasDamagedSlot.2.1 20 = .ok (.iconst 1, 1) := by decide +kernel
theorem d_Node_hasDamagedSlot_21 : decode mi_Node_hasDamagedSlot.2.1 21 = .ok (.ireturn, 1) := by decide +kernel
theorem d_Node_hasDamagedSlot_22 : decode mi_Node_hasDamagedSlot.2.1 22 = .ok (.iinc 1 (1), 3) := by decide +kernel
theorem d_Node_hasDamagedSlot_25 : decode mi_Node_hasDamagedSlot.2.1 25 = .ok (.goto (-23), 3) := by decide +kernel
theorem d_Node_hasDamagedSlot_28 : decode mi_Node_hasDamagedSlot.2.1 28 = .ok (.iconst 0, 1) := by decide +kernel
theorem d_Node_hasDamagedSlot_29 : decode mi_Node_hasDamagedSlot.2.1 29 = .ok (.ireturn, 1) := by decide +kernel
theorem d_Node_nextBallot_0 : decode mi_Node_nextBallot.2.1 0 = .ok (.aload_n 0, 1) := by decide +kernel
theorem d_Node_nextBallot_1 : decode mi_Node_nextBallot.2.1 1 = .ok (.getfield 60, 3) := by decide +kernel
theorem d_Node_nextBallot_4 : decode mi_Node_nextBallot.2.1 4 = .ok (.aload_n 0, 1) := by decide +kernel
theorem d_Node_nextBallot_5 : decode mi_Node_nextBallot.2.1 5 = .ok (.getfield 60, 3) := by decide +kernel
theorem d_Node_nextBallot_8 : decode mi_Node_nextBallot.2.1 8 = .ok (.bipush (8), 2) := by decide +kernel
theorem d_Node_nextBallot_10 : decode mi_Node_nextBallot.2.1 10 = .ok (.irem, 1) := by decide +kernel
theorem d_Node_nextBallot_11 : decode mi_Node_nextBallot.2.1 11 = .ok (.isub, 1) := by decide +kernel
theorem d_Node_nextBallot_12 : decode mi_Node_nextBallot.2.1 12 = .ok (.aload_n 0, 1) := by decide +kernel
theorem d_Node_nextBallot_13 : decode mi_Node_nextBallot.2.1 13 = .ok (.getfield 30, 3) := by decide +kernel
theorem d_Node_nextBallot_16 : decode mi_Node_nextBallot.2.1 16 = .ok (.iadd, 1) := by decide +kernel
theorem d_Node_nextBallot_17 : decode mi_Node_nextBallot.2.1 17 = .ok (.istore_n 1, 1) := by decide +kernel
theorem d_Node_nextBallot_18 : decode mi_Node_nextBallot.2.1 18 = .ok (.iload_n 1, 1) := by decide +kernel
theorem d_Node_nextBallot_19 : decode mi_Node_nextBallot.2.1 19 = .ok (.aload_n 0, 1) := by decide +kernel
theorem d_Node_nextBallot_20 : decode mi_Node_nextBallot.2.1 20 = .ok (.getfield 60, 3) := by decide +kernel
theorem d_Node_nextBallot_23 : decode mi_Node_nextBallot.2.1 23 = .ok (.if_icmp .le (13), 3) := by decide +kernel
theorem d_Node_nextBallot_26 : decode mi_Node_nextBallot.2.1 26 = .ok (.iload_n 1, 1) := by decide +kernel
theorem d_Node_nextBallot_27 : decode mi_Node_nextBallot.2.1 27 = .ok (.bipush (8), 2) := by decide +kernel
theorem d_Node_nextBallot_29 : decode mi_Node_nextBallot.2.1 29 = .ok (.if_icmp .lt (7), 3) := by decide +kernel
theorem d_Node_nextBallot_32 : decode mi_Node_nextBallot.2.1 32 = .ok (.iload_n 1, 1) := by decide +kernel
theorem d_Node_nextBallot_33 : decode mi_Node_nextBallot.2.1 33 = .ok (.goto (7), 3) := by decide +kernel
theorem d_Node_nextBallot_36 : decode mi_Node_nextBallot.2.1 36 = .ok (.iload_n 1, 1) := by decide +kernel
theorem d_Node_nextBallot_37 : decode mi_Node_nextBallot.2.1 37 = .ok (.bipush (8), 2) := by decide +kernel
theorem d_Node_nextBallot_39 : decode mi_Node_nextBallot.2.1 39 = .ok (.iadd, 1) := by decide +kernel
theorem d_Node_nextBallot_40 : decode mi_Node_nextBallot.2.1 40 = .ok (.ireturn, 1) := by decide +kernel
theorem d_Node_raisePromise_0 : decode mi_Node_raisePromise.2.1 0 = .ok (.aload_n 0, 1) := by decide +kernel
theorem d_Node_raisePromise_1 : decode mi_Node_raisePromise.2.1 1 = .ok (.getfield 60, 3) := by decide +kernel
theorem d_Node_raisePromise_4 : decode mi_Node_raisePromise.2.1 4 = .ok (.iload_n 1, 1) := by decide +kernel
theorem d_Node_raisePromise_5 : decode mi_Node_raisePromise.2.1 5 = .ok (.if_icmp .lt (5), 3) := by decide +kernel
theorem d_Node_raisePromise_8 : decode mi_Node_raisePromise.2.1 8 = .ok (.iconst 1, 1) := by decide +kernel
theorem d_Node_raisePromise_9 : decode mi_Node_raisePromise.2.1 9 = .ok (.ireturn, 1) := by decide +kernel
theorem d_Node_raisePromise_10 : decode mi_Node_raisePromise.2.1 10 = .ok (.aload_n 0, 1) := by decide +kernel
theorem d_Node_raisePromise_11 : decode mi_Node_raisePromise.2.1 11 = .ok (.iconst 0, 1) := by decide +kernel
theorem d_Node_raisePromise_12 : decode mi_Node_raisePromise.2.1 12 = .ok (.iconst 0, 1) := by decide +kernel
theorem d_Node_raisePromise_13 : decode mi_Node_raisePromise.2.1 13 = .ok (.iconst 0, 1) := by decide +kernel
