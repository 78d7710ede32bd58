theorem d_SL_init_0 : decode mi_SL_init.2.1 0 = .ok (.aload_n 0, 1) := by decide +kernel
theorem d_SL_init_1 : decode mi_SL_init.2.1 1 = .ok (.invokespecial 3, 3) := by decide +kernel
theorem d_SL_init_4 : decode mi_SL_init.2.1 4 = .ok (.iload_n 1, 1) := by decide +kernel
theorem d_SL_init_5 : decode mi_SL_init.2.1 5 = .ok (.iconst 5, 1) := by decide +kernel
theorem d_SL_init_6 : decode mi_SL_init.2.1 6 = .ok (.if_icmp .ne (7), 3) := by decide +kernel
theorem d_SL_init_9 : decode mi_SL_init.2.1 9 = .ok (.iconst 5, 1) := by decide +kernel
theorem d_SL_init_10 : decode mi_SL_init.2.1 10 = .ok (.goto (4), 3) := by decide +kernel
theorem d_SL_init_13 : decode mi_SL_init.2.1 13 = .ok (.iconst 3, 1) := by decide +kernel
theorem d_SL_init_14 : decode mi_SL_init.2.1 14 = .ok (.istore_n 2, 1) := by decide +kernel
theorem d_SL_init_15 : decode mi_SL_init.2.1 15 = .ok (.aload_n 0, 1) := by decide +kernel
theorem d_SL_init_16 : decode mi_SL_init.2.1 16 = .ok (.new 9, 3) := by decide +kernel
theorem d_SL_init_19 : decode mi_SL_init.2.1 19 = .ok (.dup, 1) := by decide +kernel
theorem d_SL_init_20 : decode mi_SL_init.2.1 20 = .ok (.invokespecial 11, 3) := by decide +kernel
theorem d_SL_init_23 : decode mi_SL_init.2.1 23 = .ok (.putfield 12, 3) := by decide +kernel
theorem d_SL_init_26 : decode mi_SL_init.2.1 26 = .ok (.aload_n 0, 1) := by decide +kernel
theorem d_SL_init_27 : decode mi_SL_init.2.1 27 = .ok (.iload_n 2, 1) := by decide +kernel
theorem d_SL_init_28 : decode mi_SL_init.2.1 28 = .ok (.anewarray 16, 3) := by decide +kernel
theorem d_SL_init_31 : decode mi_SL_init.2.1 31 = .ok (.putfield 18, 3) := by decide +kernel
theorem d_SL_init_34 : decode mi_SL_init.2.1 34 = .ok (.iconst 0, 1) := by decide +kernel
theorem d_SL_init_35 : decode mi_SL_init.2.1 35 = .ok (.istore_n 3, 1) := by decide +kernel
theorem d_SL_init_36 : decode mi_SL_init.2.1 36 = .ok (.iload_n 3, 1) := by decide +kernel
theorem d_SL_init_37 : decode mi_SL_init.2.1 37 = .ok (.iload_n 2, 1) := by decide +kernel
theorem d_SL_init_38 : decode mi_SL_init.2.1 38 = .ok (.if_icmp .ge (28), 3) := by decide +kernel
theorem d_SL_init_41 : decode mi_SL_init.2.1 41 = .ok (.aload_n 0, 1) := by decide +kernel
theorem d_SL_init_42 : decode mi_SL_init.2.1 42 = .ok (.getfield 18, 3) := by decide +kernel
theorem d_SL_init_45 : decode mi_SL_init.2.1 45 = .ok (.iload_n 3, 1) := by decide +kernel
theorem d_SL_init_46 : decode mi_SL_init.2.1 46 = .ok (.new 16, 3) := by decide +kernel
theorem d_SL_init_49 : decode mi_SL_init.2.1 49 = .ok (.dup, 1) := by decide +kernel
theorem d_SL_init_50 : decode mi_SL_init.2.1 50 = .ok (.iload_n 3, 1) := by decide +kernel
theorem d_SL_init_51 : decode mi_SL_init.2.1 51 = .ok (.iload_n 2, 1) := by decide +kernel
theorem d_SL_init_52 : decode mi_SL_init.2.1 52 = .ok (.aload_n 0, 1) := by decide +kernel
theorem d_SL_init_53 : decode mi_SL_init.2.1 53 = .ok (.getfield 12, 3) := by decide +kernel
theorem d_SL_init_56 : decode mi_SL_init.2.1 56 = .ok (.invokespecial 22, 3) := by decide +kernel
theorem d_SL_init_59 : decode mi_SL_init.2.1 59 = .ok (.aastore, 1) := by decide +kernel
theorem d_SL_init_60 : decode mi_SL_init.2.1 60 = .ok (.iinc 3 (1), 3) := by decide +kernel
theorem d_SL_init_63 : decode mi_SL_init.2.1 63 = .ok (.goto (-27), 3) := by decide +kernel
theorem d_SL_init_66 : decode mi_SL_init.2.1 66 = .ok (.return_, 1) := by decide +kernel
theorem d_SL_ask_0 : decode mi_SL_ask.2.1 0 = .ok (.iload_n 1, 1) := by decide +kernel
theorem d_SL_ask_1 : decode mi_SL_ask.2.1 1 = .ok (.invokestatic 25, 3) := by decide +kernel
theorem d_SL_ask_4 : decode mi_SL_ask.2.1 4 = .ok (.ifCond .eq (15), 3) := by decide +kernel
theorem d_SL_ask_7 : decode mi_SL_ask.2.1 7 = .ok (.aload_n 0, 1) := by decide +kernel
theorem d_SL_ask_8 : decode mi_SL_ask.2.1 8 = .ok (.getfield 12, 3) := by decide +kernel
theorem d_SL_ask_11 : decode mi_SL_ask.2.1 11 = .ok (.getfield 29, 3) := by decide +kernel
theorem d_SL_ask_14 : decode mi_SL_ask.2.1 14 = .ok (.bipush (30), 2) := by decide +kernel
theorem d_SL_ask_16 : decode mi_SL_ask.2.1 16 = .ok (.if_icmp .ne (5), 3) := by decide +kernel
theorem d_SL_ask_19 : decode mi_SL_ask.2.1 19 = .ok (.iconst (-1), 1) := by decide +kernel
theorem d_SL_ask_20 : decode mi_SL_ask.2.1 20 = .ok (.ireturn, 1) := by decide +kernel
theorem d_SL_ask_21 : decode mi_SL_ask.2.1 21 = .ok (.aload_n 0, 1) := by decide +kernel
theorem d_SL_ask_22 : decode mi_SL_ask.2.1 22 = .ok (.getfield 12, 3) := by decide +kernel
theorem d_SL_ask_25 : decode mi_SL_ask.2.1 25 = .ok (.iload_n 1, 1) := by decide +kernel
theorem d_SL_ask_26 : decode mi_SL_ask.2.1 26 = .ok (.iload_n 2, 1) := by decide +kernel
theorem d_SL_ask_27 : decode mi_SL_ask.2.1 27 = .ok (.invokevirtual 33, 3) := by decide +kernel
theorem d_SL_ask_30 : decode mi_SL_ask.2.1 30 = .ok (.ireturn, 1) := by decide +kernel
theorem d_SL_lead_0 : decode mi_SL_lead.2.1 0 = .ok (.aload_n 0, 1) := by decide +kernel
theorem d_SL_lead_1 : decode mi_SL_lead.2.1 1 = .ok (.iload_n 1, 1) := by decide +kernel
theorem d_SL_lead_2 : decode mi_SL_lead.2.1 2 = .ok (.invokevirtual 37, 3) := by decide +kernel
theorem d_SL_lead_5 : decode mi_SL_lead.2.1 5 = .ok (.ifCond .ne (5), 3) := by decide +kernel
theorem d_SL_lead_8 : decode mi_SL_lead.2.1 8 = .ok (.iconst (-1), 1) := by decide +kernel
theorem d_SL_lead_9 : decode mi_SL_lead.2.1 9 = .ok (.ireturn, 1) := by decide +kernel
theorem d_SL_lead_10 : decode mi_SL_lead.2.1 10 = .ok (.aload_n 0, 1) := by decide +kernel
theorem d_SL_lead_11 : decode mi_SL_lead.2.1 11 = .ok (.getfield 18, 3) := by decide +kernel
theorem d_SL_lead_14 : decode mi_SL_lead.2.1 14 = .ok (.iload_n 1, 1) := by decide +kernel
theorem d_SL_lead_15 : decode mi_SL_lead.2.1 15 = .ok (.aaload, 1) := by decide +kernel
theorem d_SL_lead_16 : decode mi_SL_lead.2.1 16 = .ok (.astore_n 2, 1) := by decide +kernel
theorem d_SL_lead_17 : decode mi_SL_lead.2.1 17 = .ok (.aload_n 2, 1) := by decide +kernel
theorem d_SL_lead_18 : decode mi_SL_lead.2.1 18 = .ok (.invokevirtual 40, 3) := by decide +kernel
theorem d_SL_lead_21 : decode mi_SL_lead.2.1 21 = .ok (.ifCond .eq (10), 3) := by decide +kernel
theorem d_SL_lead_24 : decode mi_SL_lead.2.1 24 = .ok (.aload_n 2, 1) := by decide +kernel
theorem d_SL_lead_25 : decode mi_SL_lead.2.1 25 = .ok (.invokevirtual 44, 3) := by decide +kernel
theorem d_SL_lead_28 : decode mi_SL_lead.2.1 28 = .ok (.ifCond .eq (5), 3) := by decide +kernel
theorem d_SL_lead_31 : decode mi_SL_lead.2.1 31 = .ok (.iconst 0, 1) := by decide +kernel
theorem d_SL_lead_32 : decode mi_SL_lead.2.1 32 = .ok (.ireturn, 1) := by decide +kernel
theorem d_SL_lead_33 : decode mi_SL_lead.2.1 33 = .ok (.aload_n 2, 1) := by decide +kernel
theorem d_SL_lead_34 : decode mi_SL_lead.2.1 34 = .ok (.invokevirtual 47, 3) := by decide +kernel
theorem d_SL_lead_37 : decode mi_SL_lead.2.1 37 = .ok (.istore_n 3, 1) := by decide +kernel
theorem d_SL_lead_38 : decode mi_SL_lead.2.1 38 = .ok (.iload_n 3, 1) := by decide +kernel
theorem d_SL_lead_39 : decode mi_SL_lead.2.1 39 = .ok (.ldc 51, 2) := by decide +kernel
theorem d_SL_lead_41 : decode mi_SL_lead.2.1 41 = .ok (.if_icmp .le (5), 3) := by decide +kernel
theorem d_SL_lead_44 : decode mi_SL_lead.2.1 44 = .ok (.iconst 0, 1) := by decide +kernel
theorem d_SL_lead_45 : decode mi_SL_lead.2.1 45 = .ok (.ireturn, 1) := by decide +kernel
theorem d_SL_lead_46 : decode mi_SL_lead.2.1 46 = .ok (.aload_n 2, 1) := by decide +kernel
theorem d_SL_lead_47 : decode mi_SL_lead.2.1 47 = .ok (.iload_n 3, 1) := by decide +kernel
theorem d_SL_lead_48 : decode mi_SL_lead.2.1 48 = .ok (.invokevirtual 52, 3) := by decide +kernel
theorem d_SL_lead_51 : decode mi_SL_lead.2.1 51 = .ok (.ifCond .ne (6), 3) := by decide +kernel
theorem d_SL_lead_54 : decode mi_SL_lead.2.1 54 = .ok (.bipush (-4), 2) := by decide +kernel
theorem d_SL_lead_56 : decode mi_SL_lead.2.1 56 = .ok (.ireturn, 1) := by decide +kernel
theorem d_SL_lead_57 : decode mi_SL_lead.2.1 57 = .ok (.aload_n 2, 1) := by decide +kernel
theorem d_SL_lead_58 : decode mi_SL_lead.2.1 58 = .ok (.getfield 55, 3) := by decide +kernel
theorem d_SL_lead_61 : decode mi_SL_lead.2.1 61 = .ok (.iload_n 3, 1) := by decide +kernel
theorem d_SL_lead_62 : decode mi_SL_lead.2.1 62 = .ok (.invokevirtual 59, 3) := by decide +kernel
theorem d_SL_lead_65 : decode mi_SL_lead.2.1 65 = .ok (.iload_n 3, 1) := by decide +kernel
theorem d_SL_lead_66 : decode mi_SL_lead.2.1 66 = .ok (.ireturn, 1) := by decide +kernel
theorem d_SL_promise_0 : decode mi_SL_promise.2.1 0 = .ok (.aload_n 0, 1) := by decide +kernel
theorem d_SL_promise_1 : decode mi_SL_promise.2.1 1 = .ok (.iload_n 1, 1) := by decide +kernel
theorem d_SL_promise_2 : decode mi_SL_promise.2.1 2 = .ok (.invokevirtual 37, 3) := by decide +kernel
theorem d_SL_promise_5 : decode mi_SL_promise.2.1 5 = .ok (.ifCond .eq (11), 3) := by decide +kernel
theorem d_SL_promise_8 : decode mi_SL_promise.2.1 8 = .ok (.aload_n 0, 1) := by decide +kernel
theorem d_SL_promise_9 : decode mi_SL_promise.2.1 9 = .ok (.iload_n 2, 1) := by decide +kernel
theorem d_SL_promise_10 : decode mi_SL_promise.2.1 10 = .ok (.invokevirtual 37, 3) := by decide +kernel
theorem d_SL_promise_13 : decode mi_SL_promise.2.1 13 = .ok (.ifCond .ne (5), 3) := by decide +kernel
theorem d_SL_promise_16 : decode mi_SL_promise.2.1 16 = .ok (.iconst (-1), 1) := by decide +kernel
theorem d_SL_promise_17 : decode mi_SL_promise.2.1 17 = .ok (.ireturn, 1) := by decide +kernel
theorem d_SL_promise_18 : decode mi_SL_promise.2.1 18 = .ok (.aload_n 0, 1) := by decide +kernel
theorem d_SL_promise_19 : decode mi_SL_promise.2.1 19 = .ok (.getfield 18, 3) := by decide +kernel
theorem d_SL_promise_22 : decode mi_SL_promise.2.1 22 = .ok (.iload_n 1, 1) := by decide +kernel
theorem d_SL_promise_23 : decode mi_SL_promise.2.1 23 = .ok (.aaload, 1) := by decide +kernel
theorem d_SL_promise_24 : decode mi_SL_promise.2.1 24 = .ok (.getfield 55, 3) := by decide +kernel
theorem d_SL_promise_27 : decode mi_SL_promise.2.1 27 = .ok (.astore_n 3, 1) := by decide +kernel
theorem d_SL_promise_28 : decode mi_SL_promise.2.1 28 = .ok (.aload_n 3, 1) := by decide +kernel
theorem d_SL_promise_29 : decode mi_SL_promise.2.1 29 = .ok (.invokevirtual 65, 3) := by decide +kernel
theorem d_SL_promise_32 : decode mi_SL_promise.2.1 32 = .ok (.ifCond .ne (5), 3) := by decide +kernel
theorem d_SL_promise_35 : decode mi_SL_promise.2.1 35 = .ok (.iconst 0, 1) := by decide +kernel
theorem d_SL_promise_36 : decode mi_SL_promise.2.1 36 = .ok (.ireturn, 1) := by decide +kernel
theorem d_SL_promise_37 : decode mi_SL_promise.2.1 37 = .ok (.aload_n 0, 1) := by decide +kernel
theorem d_SL_promise_38 : decode mi_SL_promise.2.1 38 = .ok (.getfield 18, 3) := by decide +kernel
theorem d_SL_promise_41 : decode mi_SL_promise.2.1 41 = .ok (.iload_n 2, 1) := by decide +kernel
theorem d_SL_promise_42 : decode mi_SL_promise.2.1 42 = .ok (.aaload, 1) := by decide +kernel
theorem d_SL_promise_43 : decode mi_SL_promise.2.1 43 = .ok (.astore 4, 2) := by decide +kernel
theorem d_SL_promise_45 : decode mi_SL_promise.2.1 45 = .ok (.aload 4, 2) := by decide +kernel
theorem d_SL_promise_47 : decode mi_SL_promise.2.1 47 = .ok (.aload_n 3, 1) := by decide +kernel
theorem d_SL_promise_48 : decode mi_SL_promise.2.1 48 = .ok (.getfield 68, 3) := by decide +kernel
theorem d_SL_promise_51 : decode mi_SL_promise.2.1 51 = .ok (.invokestatic 71, 3) := by decide +kernel
theorem d_SL_promise_54 : decode mi_SL_promise.2.1 54 = .ok (.istore 5, 2) := by decide +kernel
theorem d_SL_promise_56 : decode mi_SL_promise.2.1 56 = .ok (.iload 5, 2) := by decide +kernel
theorem d_SL_promise_58 : decode mi_SL_promise.2.1 58 = .ok (.ifCond .eq (6), 3) := by decide +kernel
theorem d_SL_promise_61 : decode mi_SL_promise.2.1 61 = .ok (.iload 5, 2) := by decide +kernel
theorem d_SL_promise_63 : decode mi_SL_promise.2.1 63 = .ok (.ireturn, 1) := by decide +kernel
theorem d_SL_promise_64 : decode mi_SL_promise.2.1 64 = .ok (.aload 4, 2) := by decide +kernel
theorem d_SL_promise_66 : decode mi_SL_promise.2.1 66 = .ok (.aload_n 3, 1) := by decide +kernel
theorem d_SL_promise_67 : decode mi_SL_promise.2.1 67 = .ok (.getfield 68, 3) := by decide +kernel
theorem d_SL_promise_70 : decode mi_SL_promise.2.1 70 = .ok (.invokevirtual 52, 3) := by decide +kernel
theorem d_SL_promise_73 : decode mi_SL_promise.2.1 73 = .ok (.ifCond .ne (6), 3) := by decide +kernel
theorem d_SL_promise_76 : decode mi_SL_promise.2.1 76 = .ok (.bipush (-4), 2) := by decide +kernel
theorem d_SL_promise_78 : decode mi_SL_promise.2.1 78 = .ok (.ireturn, 1) := by decide +kernel
theorem d_SL_promise_79 : decode mi_SL_promise.2.1 79 = .ok (.aload_n 3, 1) := by decide +kernel
theorem d_SL_promise_80 : decode mi_SL_promise.2.1 80 = .ok (.iload_n 2, 1) := by decide +kernel
theorem d_SL_promise_81 : decode mi_SL_promise.2.1 81 = .ok (.aload 4, 2) := by decide +kernel
theorem d_SL_promise_83 : decode mi_SL_promise.2.1 83 = .ok (.getfield 75, 3) := by decide +kernel
theorem d_SL_promise_86 : decode mi_SL_promise.2.1 86 = .ok (.invokevirtual 79, 3) := by decide +kernel
theorem d_SL_promise_89 : decode mi_SL_promise.2.1 89 = .ok (.iconst 1, 1) := by decide +kernel
theorem d_SL_promise_90 : decode mi_SL_promise.2.1 90 = .ok (.ireturn, 1) := by decide +kernel
theorem d_SL_route_0 : decode mi_SL_route.2.1 0 = .ok (.aload_n 0, 1) := by decide +kernel
theorem d_SL_route_1 : decode mi_SL_route.2.1 1 = .ok (.getfield 12, 3) := by decide +kernel
theorem d_SL_route_4 : decode mi_SL_route.2.1 4 = .ok (.iload_n 1, 1) := by decide +kernel
theorem d_SL_route_5 : decode mi_SL_route.2.1 5 = .ok (.invokevirtual 83, 3) := by decide +kernel
theorem d_SL_route_8 : decode mi_SL_route.2.1 8 = .ok (.ifCond .eq (11), 3) := by decide +kernel
theorem d_SL_route_11 : decode mi_SL_route.2.1 11 = .ok (.aload_n 0, 1) := by decide +kernel
theorem d_SL_route_12 : decode mi_SL_route.2.1 12 = .ok (.iload_n 2, 1) := by decide +kernel
theorem d_SL_route_13 : decode mi_SL_route.2.1 13 = .ok (.invokevirtual 37, 3) := by decide +kernel
theorem d_SL_route_16 : decode mi_SL_route.2.1 16 = .ok (.ifCond .ne (5), 3) := by decide +kernel
theorem d_SL_route_19 : decode mi_SL_route.2.1 19 = .ok (.iconst (-1), 1) := by decide +kernel
theorem d_SL_route_20 : decode mi_SL_route.2.1 20 = .ok (.ireturn, 1) := by decide +kernel
theorem d_SL_route_21 : decode mi_SL_route.2.1 21 = .ok (.aload_n 0, 1) := by decide +kernel
theorem d_SL_route_22 : decode mi_SL_route.2.1 22 = .ok (.getfield 18, 3) := by decide +kernel
theorem d_SL_route_25 : decode mi_SL_route.2.1 25 = .ok (.iload_n 2, 1) := by decide +kernel
theorem d_SL_route_26 : decode mi_SL_route.2.1 26 = .ok (.aaload, 1) := by decide +kernel
theorem d_SL_route_27 : decode mi_SL_route.2.1 27 = .ok (.astore_n 3, 1) := by decide +kernel
theorem d_SL_route_28 : decode mi_SL_route.2.1 28 = .ok (.aload_n 3, 1) := by decide +kernel
theorem d_SL_route_29 : decode mi_SL_route.2.1 29 = .ok (.getfield 86, 3) := by decide +kernel
theorem d_SL_route_32 : decode mi_SL_route.2.1 32 = .ok (.iload_n 1, 1) := by decide +kernel
theorem d_SL_route_33 : decode mi_SL_route.2.1 33 = .ok (.invokevirtual 90, 3) := by decide +kernel
theorem d_SL_route_36 : decode mi_SL_route.2.1 36 = .ok (.ifCond .eq (22), 3) := by decide +kernel
theorem d_SL_route_39 : decode mi_SL_route.2.1 39 = .ok (.aload_n 0, 1) := by decide +kernel
theorem d_SL_route_40 : decode mi_SL_route.2.1 40 = .ok (.getfield 12, 3) := by decide +kernel
theorem d_SL_route_43 : decode mi_SL_route.2.1 43 = .ok (.iload_n 1, 1) := by decide +kernel
theorem d_SL_route_44 : decode mi_SL_route.2.1 44 = .ok (.aload_n 3, 1) := by decide +kernel
theorem d_SL_route_45 : decode mi_SL_route.2.1 45 = .ok (.getfield 86, 3) := by decide +kernel
theorem d_SL_route_48 : decode mi_SL_route.2.1 48 = .ok (.iload_n 1, 1) := by decide +kernel
theorem d_SL_route_49 : decode mi_SL_route.2.1 49 = .ok (.invokevirtual 95, 3) := by decide +kernel
theorem d_SL_route_52 : decode mi_SL_route.2.1 52 = .ok (.invokevirtual 99, 3) := by decide +kernel
theorem d_SL_route_55 : decode mi_SL_route.2.1 55 = .ok (.bipush (100), 2) := by decide +kernel
theorem d_SL_route_57 : decode mi_SL_route.2.1 57 = .ok (.ireturn, 1) := by decide +kernel
theorem d_SL_route_58 : decode mi_SL_route.2.1 58 = .ok (.aload_n 3, 1) := by decide +kernel
theorem d_SL_route_59 : decode mi_SL_route.2.1 59 = .ok (.getfield 55, 3) := by decide +kernel
theorem d_SL_route_62 : decode mi_SL_route.2.1 62 = .ok (.invokevirtual 103, 3) := by decide +kernel
theorem d_SL_route_65 : decode mi_SL_route.2.1 65 = .ok (.ifCond .ne (5), 3) := by decide +kernel
theorem d_SL_route_68 : decode mi_SL_route.2.1 68 = .ok (.iconst 0, 1) := by decide +kernel
theorem d_SL_route_69 : decode mi_SL_route.2.1 69 = .ok (.ireturn, 1) := by decide +kernel
theorem d_SL_route_70 : decode mi_SL_route.2.1 70 = .ok (.aload_n 3, 1) := by decide +kernel
theorem d_SL_route_71 : decode mi_SL_route.2.1 71 = .ok (.getfield 55, 3) := by decide +kernel
theorem d_SL_route_74 : decode mi_SL_route.2.1 74 = .ok (.iload_n 1, 1) := by decide +kernel
theorem d_SL_route_75 : decode mi_SL_route.2.1 75 = .ok (.invokevirtual 106, 3) := by decide +kernel
theorem d_SL_route_78 : decode mi_SL_route.2.1 78 = .ok (.istore 4, 2) := by decide +kernel
theorem d_SL_route_80 : decode mi_SL_route.2.1 80 = .ok (.iload 4, 2) := by decide +kernel
theorem d_SL_route_82 : decode mi_SL_route.2.1 82 = .ok (.ifCond .ne (8), 3) := by decide +kernel
theorem d_SL_route_85 : decode mi_SL_route.2.1 85 = .ok (.bipush (-2), 2) := by decide +kernel
theorem d_SL_route_87 : decode mi_SL_route.2.1 87 = .ok (.goto (5), 3) := by decide +kernel
theorem d_SL_route_90 : decode mi_SL_route.2.1 90 = .ok (.iload 4, 2) := by decide +kernel
theorem d_SL_route_92 : decode mi_SL_route.2.1 92 = .ok (.ireturn, 1) := by decide +kernel
theorem d_SL_vote_0 : decode mi_SL_vote.2.1 0 = .ok (.aload_n 0, 1) := by decide +kernel
theorem d_SL_vote_1 : decode mi_SL_vote.2.1 1 = .ok (.iload_n 1, 1) := by decide +kernel
theorem d_SL_vote_2 : decode mi_SL_vote.2.1 2 = .ok (.invokevirtual 37, 3) := by decide +kernel
theorem d_SL_vote_5 : decode mi_SL_vote.2.1 5 = .ok (.ifCond .eq (18), 3) := by decide +kernel
theorem d_SL_vote_8 : decode mi_SL_vote.2.1 8 = .ok (.aload_n 0, 1) := by decide +kernel
theorem d_SL_vote_9 : decode mi_SL_vote.2.1 9 = .ok (.iload_n 2, 1) := by decide +kernel
theorem d_SL_vote_10 : decode mi_SL_vote.2.1 10 = .ok (.invokevirtual 37, 3) := by decide +kernel
theorem d_SL_vote_13 : decode mi_SL_vote.2.1 13 = .ok (.ifCond .eq (10), 3) := by decide +kernel
theorem d_SL_vote_16 : decode mi_SL_vote.2.1 16 = .ok (.iload_n 3, 1) := by decide +kernel
theorem d_SL_vote_17 : decode mi_SL_vote.2.1 17 = .ok (.invokestatic 109, 3) := by decide +kernel
theorem d_SL_vote_20 : decode mi_SL_vote.2.1 20 = .ok (.ifCond .ne (5), 3) := by decide +kernel
theorem d_SL_vote_23 : decode mi_SL_vote.2.1 23 = .ok (.iconst (-1), 1) := by decide +kernel
theorem d_SL_vote_24 : decode mi_SL_vote.2.1 24 = .ok (.ireturn, 1) := by decide +kernel
theorem d_SL_vote_25 : decode mi_SL_vote.2.1 25 = .ok (.aload_n 0, 1) := by decide +kernel
theorem d_SL_vote_26 : decode mi_SL_vote.2.1 26 = .ok (.getfield 18, 3) := by decide +kernel
theorem d_SL_vote_29 : decode mi_SL_vote.2.1 29 = .ok (.iload_n 1, 1) := by decide +kernel
theorem d_SL_vote_30 : decode mi_SL_vote.2.1 30 = .ok (.aaload, 1) := by decide +kernel
theorem d_SL_vote_31 : decode mi_SL_vote.2.1 31 = .ok (.getfield 55, 3) := by decide +kernel
theorem d_SL_vote_34 : decode mi_SL_vote.2.1 34 = .ok (.astore 4, 2) := by decide +kernel
theorem d_SL_vote_36 : decode mi_SL_vote.2.1 36 = .ok (.aload 4, 2) := by decide +kernel
theorem d_SL_vote_38 : decode mi_SL_vote.2.1 38 = .ok (.invokevirtual 103, 3) := by decide +kernel
theorem d_SL_vote_41 : decode mi_SL_vote.2.1 41 = .ok (.ifCond .ne (5), 3) := by decide +kernel
theorem d_SL_vote_44 : decode mi_SL_vote.2.1 44 = .ok (.iconst 0, 1) := by decide +kernel
theorem d_SL_vote_45 : decode mi_SL_vote.2.1 45 = .ok (.ireturn, 1) := by decide +kernel
theorem d_SL_vote_46 : decode mi_SL_vote.2.1 46 = .ok (.aload_n 0, 1) := by decide +kernel
theorem d_SL_vote_47 : decode mi_SL_vote.2.1 47 = .ok (.getfield 18, 3) := by decide +kernel
theorem d_SL_vote_50 : decode mi_SL_vote.2.1 50 = .ok (.iload_n 2, 1) := by decide +kernel
theorem d_SL_vote_51 : decode mi_SL_vote.2.1 51 = .ok (.aaload, 1) := by decide +kernel
theorem d_SL_vote_52 : decode mi_SL_vote.2.1 52 = .ok (.astore 5, 2) := by decide +kernel
theorem d_SL_vote_54 : decode mi_SL_vote.2.1 54 = .ok (.aload 5, 2) := by decide +kernel
theorem d_SL_vote_56 : decode mi_SL_vote.2.1 56 = .ok (.aload 4, 2) := by decide +kernel
theorem d_SL_vote_58 : decode mi_SL_vote.2.1 58 = .ok (.getfield 68, 3) := by decide +kernel
theorem d_SL_vote_61 : decode mi_SL_vote.2.1 61 = .ok (.invokestatic 71, 3) := by decide +kernel
theorem d_SL_vote_64 : decode mi_SL_vote.2.1 64 = .ok (.istore 6, 2) := by decide +kernel
theorem d_SL_vote_66 : decode mi_SL_vote.2.1 66 = .ok (.iload 6, 2) := by decide +kernel
theorem d_SL_vote_68 : decode mi_SL_vote.2.1 68 = .ok (.ifCond .eq (6), 3) := by decide +kernel
theorem d_SL_vote_71 : decode mi_SL_vote.2.1 71 = .ok (.iload 6, 2) := by decide +kernel
theorem d_SL_vote_73 : decode mi_SL_vote.2.1 73 = .ok (.ireturn, 1) := by decide +kernel
theorem d_SL_vote_74 : decode mi_SL_vote.2.1 74 = .ok (.aload 4, 2) := by decide +kernel
theorem d_SL_vote_76 : decode mi_SL_vote.2.1 76 = .ok (.iload_n 3, 1) := by decide +kernel
theorem d_SL_vote_77 : decode mi_SL_vote.2.1 77 = .ok (.invokevirtual 112, 3) := by decide +kernel
theorem d_SL_vote_80 : decode mi_SL_vote.2.1 80 = .ok (.ifCond .ne (6), 3) := by decide +kernel
theorem d_SL_vote_83 : decode mi_SL_vote.2.1 83 = .ok (.bipush (-5), 2) := by decide +kernel
theorem d_SL_vote_85 : decode mi_SL_vote.2.1 85 = .ok (.ireturn, 1) := by decide +kernel
theorem d_SL_vote_86 : decode mi_SL_vote.2.1 86 = .ok (.aload 4, 2) := by decide +kernel
theorem d_SL_vote_88 : decode mi_SL_vote.2.1 88 = .ok (.getfield 68, 3) := by decide +kernel
theorem d_SL_vote_91 : decode mi_SL_vote.2.1 91 = .ok (.istore 7, 2) := by decide +kernel
theorem d_SL_vote_93 : decode mi_SL_vote.2.1 93 = .ok (.aload 4, 2) := by decide +kernel
theorem d_SL_vote_95 : decode mi_SL_vote.2.1 95 = .ok (.getfield 115, 3) := by decide +kernel
theorem d_SL_vote_98 : decode mi_SL_vote.2.1 98 = .ok (.iload_n 3, 1) := by decide +kernel
theorem d_SL_vote_99 : decode mi_SL_vote.2.1 99 = .ok (.iaload, 1) := by decide +kernel
theorem d_SL_vote_100 : decode mi_SL_vote.2.1 100 = .ok (.istore 8, 2) := by decide +kernel
theorem d_SL_vote_102 : decode mi_SL_vote.2.1 102 = .ok (.aload 5, 2) := by decide +kernel
theorem d_SL_vote_104 : decode mi_SL_vote.2.1 104 = .ok (.iload 7, 2) := by decide +kernel
theorem d_SL_vote_106 : decode mi_SL_vote.2.1 106 = .ok (.invokevirtual 52, 3) := by decide +kernel
theorem d_SL_vote_109 : decode mi_SL_vote.2.1 109 = .ok (.ifCond .eq (16), 3) := by decide +kernel
theorem d_SL_vote_112 : decode mi_SL_vote.2.1 112 = .ok (.aload 5, 2) := by decide +kernel
theorem d_SL_vote_114 : decode mi_SL_vote.2.1 114 = .ok (.iload_n 3, 1) := by decide +kernel
theorem d_SL_vote_115 : decode mi_SL_vote.2.1 115 = .ok (.iload 8, 2) := by decide +kernel
theorem d_SL_vote_117 : decode mi_SL_vote.2.1 117 = .ok (.iload 7, 2) := by decide +kernel
theorem d_SL_vote_119 : decode mi_SL_vote.2.1 119 = .ok (.invokevirtual 118, 3) := by decide +kernel
theorem d_SL_vote_122 : decode mi_SL_vote.2.1 122 = .ok (.ifCond .ne (6), 3) := by decide +kernel
theorem d_SL_vote_125 : decode mi_SL_vote.2.1 125 = .ok (.bipush (-4), 2) := by decide +kernel
theorem d_SL_vote_127 : decode mi_SL_vote.2.1 127 = .ok (.ireturn, 1) := by decide +kernel
theorem d_SL_vote_128 : decode mi_SL_vote.2.1 128 = .ok (.aload 4, 2) := by decide +kernel
theorem d_SL_vote_130 : decode mi_SL_vote.2.1 130 = .ok (.iload_n 3, 1) := by decide +kernel
theorem d_SL_vote_131 : decode mi_SL_vote.2.1 131 = .ok (.iload_n 2, 1) := by decide +kernel
theorem d_SL_vote_132 : decode mi_SL_vote.2.1 132 = .ok (.invokevirtual 122, 3) := by decide +kernel
theorem d_SL_vote_135 : decode mi_SL_vote.2.1 135 = .ok (.istore 9, 2) := by decide +kernel
theorem d_SL_vote_137 : decode mi_SL_vote.2.1 137 = .ok (.iload 9, 2) := by decide +kernel
theorem d_SL_vote_139 : decode mi_SL_vote.2.1 139 = .ok (.ifCond .eq (25), 3) := by decide +kernel
theorem d_SL_vote_142 : decode mi_SL_vote.2.1 142 = .ok (.aload_n 0, 1) := by decide +kernel
theorem d_SL_vote_143 : decode mi_SL_vote.2.1 143 = .ok (.getfield 18, 3) := by decide +kernel
theorem d_SL_vote_146 : decode mi_SL_vote.2.1 146 = .ok (.iload_n 1, 1) := by decide +kernel
theorem d_SL_vote_147 : decode mi_SL_vote.2.1 147 = .ok (.aaload, 1) := by decide +kernel
theorem d_SL_vote_148 : decode mi_SL_vote.2.1 148 = .ok (.getfield 86, 3) := by decide +kernel
theorem d_SL_vote_151 : decode mi_SL_vote.2.1 151 = .ok (.iload_n 3, 1) := by decide +kernel
theorem d_SL_vote_152 : decode mi_SL_vote.2.1 152 = .ok (.iload 8, 2) := by decide +kernel
theorem d_SL_vote_154 : decode mi_SL_vote.2.1 154 = .ok (.invokevirtual 126, 3) := by decide +kernel
theorem d_SL_vote_157 : decode mi_SL_vote.2.1 157 = .ok (.ifCond .eq (7), 3) := by decide +kernel
theorem d_SL_vote_160 : decode mi_SL_vote.2.1 160 = .ok (.iconst 2, 1) := by decide +kernel
theorem d_SL_vote_161 : decode mi_SL_vote.2.1 161 = .ok (.goto (4), 3) := by decide +kernel
theorem d_SL_vote_164 : decode mi_SL_vote.2.1 164 = .ok (.iconst 1, 1) := by decide +kernel
theorem d_SL_vote_165 : decode mi_SL_vote.2.1 165 = .ok (.ireturn, 1) := by decide +kernel
theorem d_SL_tell_0 : decode mi_SL_tell.2.1 0 = .ok (.aload_n 0, 1) := by decide +kernel
theorem d_SL_tell_1 : decode mi_SL_tell.2.1 1 = .ok (.iload_n 1, 1) := by decide +kernel
theorem d_SL_tell_2 : decode mi_SL_tell.2.1 2 = .ok (.invokevirtual 37, 3) := by decide +kernel
theorem d_SL_tell_5 : decode mi_SL_tell.2.1 5 = .ok (.ifCond .eq (16), 3) := by decide +kernel
theorem d_SL_tell_8 : decode mi_SL_tell.2.1 8 = .ok (.aload_n 0, 1) := by decide +kernel
theorem d_SL_tell_9 : decode mi_SL_tell.2.1 9 = .ok (.iload_n 2, 1) := by decide +kernel
theorem d_SL_tell_10 : decode mi_SL_tell.2.1 10 = .ok (.invokevirtual 37, 3) := by decide +kernel
theorem d_SL_tell_13 : decode mi_SL_tell.2.1 13 = .ok (.ifCond .eq (8), 3) := by decide +kernel
theorem d_SL_tell_16 : decode mi_SL_tell.2.1 16 = .ok (.iload_n 1, 1) := by decide +kernel
theorem d_SL_tell_17 : decode mi_SL_tell.2.1 17 = .ok (.iload_n 2, 1) := by decide +kernel
theorem d_SL_tell_18 : decode mi_SL_tell.2.1 18 = .ok (.if_icmp .ne (5), 3) := by decide +kernel
theorem d_SL_tell_21 : decode mi_SL_tell.2.1 21 = .ok (.iconst (-1), 1) := by decide +kernel
theorem d_SL_tell_22 : decode mi_SL_tell.2.1 22 = .ok (.ireturn, 1) := by decide +kernel
theorem d_SL_tell_23 : decode mi_SL_tell.2.1 23 = .ok (.aload_n 0, 1) := by decide +kernel
theorem d_SL_tell_24 : decode mi_SL_tell.2.1 24 = .ok (.getfield 18, 3) := by decide +kernel
theorem d_SL_tell_27 : decode mi_SL_tell.2.1 27 = .ok (.iload_n 1, 1) := by decide +kernel
theorem d_SL_tell_28 : decode mi_SL_tell.2.1 28 = .ok (.aaload, 1) := by decide +kernel
theorem d_SL_tell_29 : decode mi_SL_tell.2.1 29 = .ok (.getfield 129, 3) := by decide +kernel
theorem d_SL_tell_32 : decode mi_SL_tell.2.1 32 = .ok (.ifCond .eq (15), 3) := by decide +kernel
theorem d_SL_tell_35 : decode mi_SL_tell.2.1 35 = .ok (.aload_n 0, 1) := by decide +kernel
theorem d_SL_tell_36 : decode mi_SL_tell.2.1 36 = .ok (.getfield 18, 3) := by decide +kernel
theorem d_SL_tell_39 : decode mi_SL_tell.2.1 39 = .ok (.iload_n 2, 1) := by decide +kernel
theorem d_SL_tell_40 : decode mi_SL_tell.2.1 40 = .ok (.aaload, 1) := by decide +kernel
theorem d_SL_tell_41 : decode mi_SL_tell.2.1 41 = .ok (.getfield 129, 3) := by decide +kernel
theorem d_SL_tell_44 : decode mi_SL_tell.2.1 44 = .ok (.ifCond .ne (6), 3) := by decide +kernel
theorem d_SL_tell_47 : decode mi_SL_tell.2.1 47 = .ok (.bipush (-2), 2) := by decide +kernel
theorem d_SL_tell_49 : decode mi_SL_tell.2.1 49 = .ok (.ireturn, 1) := by decide +kernel
theorem d_SL_tell_50 : decode mi_SL_tell.2.1 50 = .ok (.aload_n 0, 1) := by decide +kernel
theorem d_SL_tell_51 : decode mi_SL_tell.2.1 51 = .ok (.getfield 18, 3) := by decide +kernel
theorem d_SL_tell_54 : decode mi_SL_tell.2.1 54 = .ok (.iload_n 2, 1) := by decide +kernel
theorem d_SL_tell_55 : decode mi_SL_tell.2.1 55 = .ok (.aaload, 1) := by decide +kernel
theorem d_SL_tell_56 : decode mi_SL_tell.2.1 56 = .ok (.getfield 86, 3) := by decide +kernel
theorem d_SL_tell_59 : decode mi_SL_tell.2.1 59 = .ok (.aload_n 0, 1) := by decide +kernel
theorem d_SL_tell_60 : decode mi_SL_tell.2.1 60 = .ok (.getfield 18, 3) := by decide +kernel
theorem d_SL_tell_63 : decode mi_SL_tell.2.1 63 = .ok (.iload_n 1, 1) := by decide +kernel
theorem d_SL_tell_64 : decode mi_SL_tell.2.1 64 = .ok (.aaload, 1) := by decide +kernel
theorem d_SL_tell_65 : decode mi_SL_tell.2.1 65 = .ok (.getfield 86, 3) := by decide +kernel
theorem d_SL_tell_68 : decode mi_SL_tell.2.1 68 = .ok (.invokevirtual 133, 3) := by decide +kernel
theorem d_SL_tell_71 : decode mi_SL_tell.2.1 71 = .ok (.ireturn, 1) := by decide +kernel
theorem d_SL_mend_0 : decode mi_SL_mend.2.1 0 = .ok (.aload_n 0, 1) := by decide +kernel
theorem d_SL_mend_1 : decode mi_SL_mend.2.1 1 = .ok (.iload_n 1, 1) := by decide +kernel
theorem d_SL_mend_2 : decode mi_SL_mend.2.1 2 = .ok (.invokevirtual 37, 3) := by decide +kernel
theorem d_SL_mend_5 : decode mi_SL_mend.2.1 5 = .ok (.ifCond .eq (23), 3) := by decide +kernel
theorem d_SL_mend_8 : decode mi_SL_mend.2.1 8 = .ok (.aload_n 0, 1) := by decide +kernel
theorem d_SL_mend_9 : decode mi_SL_mend.2.1 9 = .ok (.iload_n 2, 1) := by decide +kernel
theorem d_SL_mend_10 : decode mi_SL_mend.2.1 10 = .ok (.invokevirtual 37, 3) := by decide +kernel
theorem d_SL_mend_13 : decode mi_SL_mend.2.1 13 = .ok (.ifCond .eq (15), 3) := by decide +kernel
theorem d_SL_mend_16 : decode mi_SL_mend.2.1 16 = .ok (.iload_n 3, 1) := by decide +kernel
theorem d_SL_mend_17 : decode mi_SL_mend.2.1 17 = .ok (.invokestatic 109, 3) := by decide +kernel
theorem d_SL_mend_20 : decode mi_SL_mend.2.1 20 = .ok (.ifCond .eq (8), 3) := by decide +kernel
theorem d_SL_mend_23 : decode mi_SL_mend.2.1 23 = .ok (.iload_n 1, 1) := by decide +kernel
theorem d_SL_mend_24 : decode mi_SL_mend.2.1 24 = .ok (.iload_n 2, 1) := by decide +kernel
theorem d_SL_mend_25 : decode mi_SL_mend.2.1 25 = .ok (.if_icmp .ne (5), 3) := by decide +kernel
theorem d_SL_mend_28 : decode mi_SL_mend.2.1 28 = .ok (.iconst (-1), 1) := by decide +kernel
theorem d_SL_mend_29 : decode mi_SL_mend.2.1 29 = .ok (.ireturn, 1) := by decide +kernel
theorem d_SL_mend_30 : decode mi_SL_mend.2.1 30 = .ok (.aload_n 0, 1) := by decide +kernel
theorem d_SL_mend_31 : decode mi_SL_mend.2.1 31 = .ok (.getfield 18, 3) := by decide +kernel
theorem d_SL_mend_34 : decode mi_SL_mend.2.1 34 = .ok (.iload_n 1, 1) := by decide +kernel
theorem d_SL_mend_35 : decode mi_SL_mend.2.1 35 = .ok (.aaload, 1) := by decide +kernel
theorem d_SL_mend_36 : decode mi_SL_mend.2.1 36 = .ok (.astore 4, 2) := by decide +kernel
theorem d_SL_mend_38 : decode mi_SL_mend.2.1 38 = .ok (.aload_n 0, 1) := by decide +kernel
theorem d_SL_mend_39 : decode mi_SL_mend.2.1 39 = .ok (.getfield 18, 3) := by decide +kernel
theorem d_SL_mend_42 : decode mi_SL_mend.2.1 42 = .ok (.iload_n 2, 1) := by decide +kernel
theorem d_SL_mend_43 : decode mi_SL_mend.2.1 43 = .ok (.aaload, 1) := by decide +kernel
theorem d_SL_mend_44 : decode mi_SL_mend.2.1 44 = .ok (.astore 5, 2) := by decide +kernel
theorem d_SL_mend_46 : decode mi_SL_mend.2.1 46 = .ok (.aload 4, 2) := by decide +kernel
theorem d_SL_mend_48 : decode mi_SL_mend.2.1 48 = .ok (.invokevirtual 40, 3) := by decide +kernel
theorem d_SL_mend_51 : decode mi_SL_mend.2.1 51 = .ok (.ifCond .eq (11), 3) := by decide +kernel
theorem d_SL_mend_54 : decode mi_SL_mend.2.1 54 = .ok (.aload 5, 2) := by decide +kernel
theorem d_SL_mend_56 : decode mi_SL_mend.2.1 56 = .ok (.invokevirtual 40, 3) := by decide +kernel
theorem d_SL_mend_59 : decode mi_SL_mend.2.1 59 = .ok (.ifCond .ne (5), 3) := by decide +kernel
theorem d_SL_mend_62 : decode mi_SL_mend.2.1 62 = .ok (.iconst 0, 1) := by decide +kernel
theorem d_SL_mend_63 : decode mi_SL_mend.2.1 63 = .ok (.ireturn, 1) := by decide +kernel
theorem d_SL_mend_64 : decode mi_SL_mend.2.1 64 = .ok (.aload 4, 2) := by decide +kernel
theorem d_SL_mend_66 : decode mi_SL_mend.2.1 66 = .ok (.getfield 75, 3) := by decide +kernel
theorem d_SL_mend_69 : decode mi_SL_mend.2.1 69 = .ok (.iload_n 3, 1) := by decide +kernel
theorem d_SL_mend_70 : decode mi_SL_mend.2.1 70 = .ok (.iaload, 1) := by decide +kernel
theorem d_SL_mend_71 : decode mi_SL_mend.2.1 71 = .ok (.istore 6, 2) := by decide +kernel
theorem d_SL_mend_73 : decode mi_SL_mend.2.1 73 = .ok (.aload 5, 2) := by decide +kernel
theorem d_SL_mend_75 : decode mi_SL_mend.2.1 75 = .ok (.getfield 75, 3) := by decide +kernel
theorem d_SL_mend_78 : decode mi_SL_mend.2.1 78 = .ok (.iload_n 3, 1) := by decide +kernel
theorem d_SL_mend_79 : decode mi_SL_mend.2.1 79 = .ok (.iaload, 1) := by decide +kernel
theorem d_SL_mend_80 : decode mi_SL_mend.2.1 80 = .ok (.istore 7, 2) := by decide +kernel
theorem d_SL_mend_82 : decode mi_SL_mend.2.1 82 = .ok (.iload 6, 2) := by decide +kernel
theorem d_SL_mend_84 : decode mi_SL_mend.2.1 84 = .ok (.invokestatic 137, 3) := by decide +kernel
theorem d_SL_mend_87 : decode mi_SL_mend.2.1 87 = .ok (.ifCond .eq (24), 3) := by decide +kernel
theorem d_SL_mend_90 : decode mi_SL_mend.2.1 90 = .ok (.iload 7, 2) := by decide +kernel
theorem d_SL_mend_92 : decode mi_SL_mend.2.1 92 = .ok (.invokestatic 142, 3) := by decide +kernel
theorem d_SL_mend_95 : decode mi_SL_mend.2.1 95 = .ok (.ifCond .eq (16), 3) := by decide +kernel
theorem d_SL_mend_98 : decode mi_SL_mend.2.1 98 = .ok (.iload 6, 2) := by decide +kernel
theorem d_SL_mend_100 : decode mi_SL_mend.2.1 100 = .ok (.invokestatic 145, 3) := by decide +kernel
theorem d_SL_mend_103 : decode mi_SL_mend.2.1 103 = .ok (.iload 7, 2) := by decide +kernel
theorem d_SL_mend_105 : decode mi_SL_mend.2.1 105 = .ok (.invokestatic 145, 3) := by decide +kernel
theorem d_SL_mend_108 : decode mi_SL_mend.2.1 108 = .ok (.if_icmp .eq (5), 3) := by decide +kernel
theorem d_SL_mend_111 : decode mi_SL_mend.2.1 111 = .ok (.iconst 0, 1) := by decide +kernel
theorem d_SL_mend_112 : decode mi_SL_mend.2.1 112 = .ok (.ireturn, 1) := by decide +kernel
theorem d_SL_mend_113 : decode mi_SL_mend.2.1 113 = .ok (.aload 4, 2) := by decide +kernel
theorem d_SL_mend_115 : decode mi_SL_mend.2.1 115 = .ok (.iload_n 3, 1) := by decide +kernel
theorem d_SL_mend_116 : decode mi_SL_mend.2.1 116 = .ok (.iload 7, 2) := by decide +kernel
theorem d_SL_mend_118 : decode mi_SL_mend.2.1 118 = .ok (.invokestatic 148, 3) := by decide +kernel
theorem d_SL_mend_121 : decode mi_SL_mend.2.1 121 = .ok (.iload 7, 2) := by decide +kernel
theorem d_SL_mend_123 : decode mi_SL_mend.2.1 123 = .ok (.invokestatic 145, 3) := by decide +kernel
theorem d_SL_mend_126 : decode mi_SL_mend.2.1 126 = .ok (.invokevirtual 118, 3) := by decide +kernel
theorem d_SL_mend_129 : decode mi_SL_mend.2.1 129 = .ok (.istore 8, 2) := by decide +kernel
theorem d_SL_mend_131 : decode mi_SL_mend.2.1 131 = .ok (.iload 8, 2) := by decide +kernel
theorem d_SL_mend_133 : decode mi_SL_mend.2.1 133 = .ok (.ifCond .eq (7), 3) := by decide +kernel
theorem d_SL_mend_136 : decode mi_SL_mend.2.1 136 = .ok (.iconst 1, 1) := by decide +kernel
theorem d_SL_mend_137 : decode mi_SL_mend.2.1 137 = .ok (.goto (5), 3) := by decide +kernel
theorem d_SL_mend_140 : decode mi_SL_mend.2.1 140 = .ok (.bipush (-4), 2) := by decide +kernel
theorem d_SL_mend_142 : decode mi_SL_mend.2.1 142 = .ok (.ireturn, 1) := by decide +kernel
theorem d_SL_crash_0 : decode mi_SL_crash.2.1 0 = .ok (.aload_n 0, 1) := by decide +kernel
theorem d_SL_crash_1 : decode mi_SL_crash.2.1 1 = .ok (.iload_n 1, 1) := by decide +kernel
theorem d_SL_crash_2 : decode mi_SL_crash.2.1 2 = .ok (.invokevirtual 37, 3) := by decide +kernel
theorem d_SL_crash_5 : decode mi_SL_crash.2.1 5 = .ok (.ifCond .eq (15), 3) := by decide +kernel
theorem d_SL_crash_8 : decode mi_SL_crash.2.1 8 = .ok (.aload_n 0, 1) := by decide +kernel
theorem d_SL_crash_9 : decode mi_SL_crash.2.1 9 = .ok (.getfield 18, 3) := by decide +kernel
theorem d_SL_crash_12 : decode mi_SL_crash.2.1 12 = .ok (.iload_n 1, 1) := by decide +kernel
theorem d_SL_crash_13 : decode mi_SL_crash.2.1 13 = .ok (.aaload, 1) := by decide +kernel
theorem d_SL_crash_14 : decode mi_SL_crash.2.1 14 = .ok (.getfield 129, 3) := by decide +kernel
theorem d_SL_crash_17 : decode mi_SL_crash.2.1 17 = .ok (.ifCond .ne (5), 3) := by decide +kernel
theorem d_SL_crash_20 : decode mi_SL_crash.2.1 20 = .ok (.iconst 0, 1) := by decide +kernel
theorem d_SL_crash_21 : decode mi_SL_crash.2.1 21 = .ok (.ireturn, 1) := by decide +kernel
theorem d_SL_crash_22 : decode mi_SL_crash.2.1 22 = .ok (.aload_n 0, 1) := by decide +kernel
theorem d_SL_crash_23 : decode mi_SL_crash.2.1 23 = .ok (.getfield 18, 3) := by decide +kernel
theorem d_SL_crash_26 : decode mi_SL_crash.2.1 26 = .ok (.iload_n 1, 1) := by decide +kernel
theorem d_SL_crash_27 : decode mi_SL_crash.2.1 27 = .ok (.aaload, 1) := by decide +kernel
theorem d_SL_crash_28 : decode mi_SL_crash.2.1 28 = .ok (.invokevirtual 151, 3) := by decide +kernel
theorem d_SL_crash_31 : decode mi_SL_crash.2.1 31 = .ok (.iconst 1, 1) := by decide +kernel
theorem d_SL_crash_32 : decode mi_SL_crash.2.1 32 = .ok (.ireturn, 1) := by decide +kernel
theorem d_SL_restart_0 : decode mi_SL_restart.2.1 0 = .ok (.aload_n 0, 1) := by decide +kernel
theorem d_SL_restart_1 : decode mi_SL_restart.2.1 1 = .ok (.iload_n 1, 1) := by decide +kernel
theorem d_SL_restart_2 : decode mi_SL_restart.2.1 2 = .ok (.invokevirtual 37, 3) := by decide +kernel
theorem d_SL_restart_5 : decode mi_SL_restart.2.1 5 = .ok (.ifCond .eq (15), 3) := by decide +kernel
theorem d_SL_restart_8 : decode mi_SL_restart.2.1 8 = .ok (.aload_n 0, 1) := by decide +kernel
theorem d_SL_restart_9 : decode mi_SL_restart.2.1 9 = .ok (.getfield 18, 3) := by decide +kernel
theorem d_SL_restart_12 : decode mi_SL_restart.2.1 12 = .ok (.iload_n 1, 1) := by decide +kernel
theorem d_SL_restart_13 : decode mi_SL_restart.2.1 13 = .ok (.aaload, 1) := by decide +kernel
theorem d_SL_restart_14 : decode mi_SL_restart.2.1 14 = .ok (.getfield 129, 3) := by decide +kernel
theorem d_SL_restart_17 : decode mi_SL_restart.2.1 17 = .ok (.ifCond .eq (5), 3) := by decide +kernel
theorem d_SL_restart_20 : decode mi_SL_restart.2.1 20 = .ok (.iconst 0, 1) := by decide +kernel
theorem d_SL_restart_21 : decode mi_SL_restart.2.1 21 = .ok (.ireturn, 1) := by decide +kernel
theorem d_SL_restart_22 : decode mi_SL_restart.2.1 22 = .ok (.aload_n 0, 1) := by decide +kernel
theorem d_SL_restart_23 : decode mi_SL_restart.2.1 23 = .ok (.getfield 18, 3) := by decide +kernel
theorem d_SL_restart_26 : decode mi_SL_restart.2.1 26 = .ok (.iload_n 1, 1) := by decide +kernel
theorem d_SL_restart_27 : decode mi_SL_restart.2.1 27 = .ok (.aaload, 1) := by decide +kernel
theorem d_SL_restart_28 : decode mi_SL_restart.2.1 28 = .ok (.invokevirtual 154, 3) := by decide +kernel
theorem d_SL_restart_31 : decode mi_SL_restart.2.1 31 = .ok (.iconst 1, 1) := by decide +kernel
theorem d_SL_restart_32 : decode mi_SL_restart.2.1 32 = .ok (.ireturn, 1) := by decide +kernel
theorem d_SL_arm_0 : decode mi_SL_arm.2.1 0 = .ok (.aload_n 0, 1) := by decide +kernel
theorem d_SL_arm_1 : decode mi_SL_arm.2.1 1 = .ok (.iload_n 1, 1) := by decide +kernel
theorem d_SL_arm_2 : decode mi_SL_arm.2.1 2 = .ok (.invokevirtual 37, 3) := by decide +kernel
theorem d_SL_arm_5 : decode mi_SL_arm.2.1 5 = .ok (.ifCond .eq (25), 3) := by decide +kernel
theorem d_SL_arm_8 : decode mi_SL_arm.2.1 8 = .ok (.aload_n 0, 1) := by decide +kernel
theorem d_SL_arm_9 : decode mi_SL_arm.2.1 9 = .ok (.getfield 18, 3) := by decide +kernel
theorem d_SL_arm_12 : decode mi_SL_arm.2.1 12 = .ok (.iload_n 1, 1) := by decide +kernel
theorem d_SL_arm_13 : decode mi_SL_arm.2.1 13 = .ok (.aaload, 1) := by decide +kernel
theorem d_SL_arm_14 : decode mi_SL_arm.2.1 14 = .ok (.getfield 129, 3) := by decide +kernel
theorem d_SL_arm_17 : decode mi_SL_arm.2.1 17 = .ok (.ifCond .eq (13), 3) := by decide +kernel
theorem d_SL_arm_20 : decode mi_SL_arm.2.1 20 = .ok (.iload_n 2, 1) := by decide +kernel
theorem d_SL_arm_21 : decode mi_SL_arm.2.1 21 = .ok (.ifCond .lt (9), 3) := by decide +kernel
theorem d_SL_arm_24 : decode mi_SL_arm.2.1 24 = .ok (.iload_n 2, 1) := by decide +kernel
theorem d_SL_arm_25 : decode mi_SL_arm.2.1 25 = .ok (.bipush (40), 2) := by decide +kernel
theorem d_SL_arm_27 : decode mi_SL_arm.2.1 27 = .ok (.if_icmp .le (5), 3) := by decide +kernel
theorem d_SL_arm_30 : decode mi_SL_arm.2.1 30 = .ok (.iconst 0, 1) := by decide +kernel
theorem d_SL_arm_31 : decode mi_SL_arm.2.1 31 = .ok (.ireturn, 1) := by decide +kernel
theorem d_SL_arm_32 : decode mi_SL_arm.2.1 32 = .ok (.aload_n 0, 1) := by decide +kernel
theorem d_SL_arm_33 : decode mi_SL_arm.2.1 33 = .ok (.getfield 18, 3) := by decide +kernel
theorem d_SL_arm_36 : decode mi_SL_arm.2.1 36 = .ok (.iload_n 1, 1) := by decide +kernel
theorem d_SL_arm_37 : decode mi_SL_arm.2.1 37 = .ok (.aaload, 1) := by decide +kernel
theorem d_SL_arm_38 : decode mi_SL_arm.2.1 38 = .ok (.iload_n 2, 1) := by decide +kernel
theorem d_SL_arm_39 : decode mi_SL_arm.2.1 39 = .ok (.putfield 157, 3) := by decide +kernel
theorem d_SL_arm_42 : decode mi_SL_arm.2.1 42 = .ok (.iconst 1, 1) := by decide +kernel
theorem d_SL_arm_43 : decode mi_SL_arm.2.1 43 = .ok (.ireturn, 1) := by decide +kernel
theorem d_SL_flip_0 : decode mi_SL_flip.2.1 0 = .ok (.aload_n 0, 1) := by decide +kernel
theorem d_SL_flip_1 : decode mi_SL_flip.2.1 1 = .ok (.iload_n 1, 1) := by decide +kernel
theorem d_SL_flip_2 : decode mi_SL_flip.2.1 2 = .ok (.iload_n 2, 1) := by decide +kernel
theorem d_SL_flip_3 : decode mi_SL_flip.2.1 3 = .ok (.invokevirtual 160, 3) := by decide +kernel
theorem d_SL_flip_6 : decode mi_SL_flip.2.1 6 = .ok (.ifCond .eq (13), 3) := by decide +kernel
theorem d_SL_flip_9 : decode mi_SL_flip.2.1 9 = .ok (.iload_n 3, 1) := by decide +kernel
theorem d_SL_flip_10 : decode mi_SL_flip.2.1 10 = .ok (.ifCond .lt (9), 3) := by decide +kernel
theorem d_SL_flip_13 : decode mi_SL_flip.2.1 13 = .ok (.iload_n 3, 1) := by decide +kernel
theorem d_SL_flip_14 : decode mi_SL_flip.2.1 14 = .ok (.bipush (64), 2) := by decide +kernel
theorem d_SL_flip_16 : decode mi_SL_flip.2.1 16 = .ok (.if_icmp .lt (5), 3) := by decide +kernel
theorem d_SL_flip_19 : decode mi_SL_flip.2.1 19 = .ok (.iconst 0, 1) := by decide +kernel
theorem d_SL_flip_20 : decode mi_SL_flip.2.1 20 = .ok (.ireturn, 1) := by decide +kernel
theorem d_SL_flip_21 : decode mi_SL_flip.2.1 21 = .ok (.aload_n 0, 1) := by decide +kernel
theorem d_SL_flip_22 : decode mi_SL_flip.2.1 22 = .ok (.getfield 18, 3) := by decide +kernel
theorem d_SL_flip_25 : decode mi_SL_flip.2.1 25 = .ok (.iload_n 1, 1) := by decide +kernel
theorem d_SL_flip_26 : decode mi_SL_flip.2.1 26 = .ok (.aaload, 1) := by decide +kernel
theorem d_SL_flip_27 : decode mi_SL_flip.2.1 27 = .ok (.getfield 165, 3) := by decide +kernel
theorem d_SL_flip_30 : decode mi_SL_flip.2.1 30 = .ok (.iload_n 2, 1) := by decide +kernel
theorem d_SL_flip_31 : decode mi_SL_flip.2.1 31 = .ok (.iload_n 3, 1) := by decide +kernel
theorem d_SL_flip_32 : decode mi_SL_flip.2.1 32 = .ok (.invokevirtual 169, 3) := by decide +kernel
theorem d_SL_flip_35 : decode mi_SL_flip.2.1 35 = .ok (.iconst 1, 1) := by decide +kernel
theorem d_SL_flip_36 : decode mi_SL_flip.2.1 36 = .ok (.ireturn, 1) := by decide +kernel
theorem d_SL_wipe_0 : decode mi_SL_wipe.2.1 0 = .ok (.aload_n 0, 1) := by decide +kernel
theorem d_SL_wipe_1 : decode mi_SL_wipe.2.1 1 = .ok (.iload_n 1, 1) := by decide +kernel
theorem d_SL_wipe_2 : decode mi_SL_wipe.2.1 2 = .ok (.iload_n 2, 1) := by decide +kernel
theorem d_SL_wipe_3 : decode mi_SL_wipe.2.1 3 = .ok (.invokevirtual 160, 3) := by decide +kernel
theorem d_SL_wipe_6 : decode mi_SL_wipe.2.1 6 = .ok (.ifCond .ne (5), 3) := by decide +kernel
theorem d_SL_wipe_9 : decode mi_SL_wipe.2.1 9 = .ok (.iconst 0, 1) := by decide +kernel
theorem d_SL_wipe_10 : decode mi_SL_wipe.2.1 10 = .ok (.ireturn, 1) := by decide +kernel
theorem d_SL_wipe_11 : decode mi_SL_wipe.2.1 11 = .ok (.aload_n 0, 1) := by decide +kernel
theorem d_SL_wipe_12 : decode mi_SL_wipe.2.1 12 = .ok (.getfield 18, 3) := by decide +kernel
theorem d_SL_wipe_15 : decode mi_SL_wipe.2.1 15 = .ok (.iload_n 1, 1) := by decide +kernel
theorem d_SL_wipe_16 : decode mi_SL_wipe.2.1 16 = .ok (.aaload, 1) := by decide +kernel
theorem d_SL_wipe_17 : decode mi_SL_wipe.2.1 17 = .ok (.getfield 165, 3) := by decide +kernel
theorem d_SL_wipe_20 : decode mi_SL_wipe.2.1 20 = .ok (.iload_n 2, 1) := by decide +kernel
theorem d_SL_wipe_21 : decode mi_SL_wipe.2.1 21 = .ok (.invokevirtual 172, 3) := by decide +kernel
theorem d_SL_wipe_24 : decode mi_SL_wipe.2.1 24 = .ok (.iconst 1, 1) := by decide +kernel
theorem d_SL_wipe_25 : decode mi_SL_wipe.2.1 25 = .ok (.ireturn, 1) := by decide +kernel
theorem d_SL_look_0 : decode mi_SL_look.2.1 0 = .ok (.aload_n 0, 1) := by decide +kernel
theorem d_SL_look_1 : decode mi_SL_look.2.1 1 = .ok (.iload_n 1, 1) := by decide +kernel
theorem d_SL_look_2 : decode mi_SL_look.2.1 2 = .ok (.invokevirtual 37, 3) := by decide +kernel
theorem d_SL_look_5 : decode mi_SL_look.2.1 5 = .ok (.ifCond .ne (5), 3) := by decide +kernel
theorem d_SL_look_8 : decode mi_SL_look.2.1 8 = .ok (.iconst (-1), 1) := by decide +kernel
theorem d_SL_look_9 : decode mi_SL_look.2.1 9 = .ok (.ireturn, 1) := by decide +kernel
theorem d_SL_look_10 : decode mi_SL_look.2.1 10 = .ok (.aload_n 0, 1) := by decide +kernel
theorem d_SL_look_11 : decode mi_SL_look.2.1 11 = .ok (.getfield 18, 3) := by decide +kernel
theorem d_SL_look_14 : decode mi_SL_look.2.1 14 = .ok (.iload_n 1, 1) := by decide +kernel
theorem d_SL_look_15 : decode mi_SL_look.2.1 15 = .ok (.aaload, 1) := by decide +kernel
theorem d_SL_look_16 : decode mi_SL_look.2.1 16 = .ok (.astore_n 3, 1) := by decide +kernel
theorem d_SL_look_17 : decode mi_SL_look.2.1 17 = .ok (.iload_n 2, 1) := by decide +kernel
theorem d_SL_look_18 : decode mi_SL_look.2.1 18 = .ok (.tableswitch (102) (0) (6) #[42, 55, 68, 73, 81, 89, 97], 42) := by decide +kernel
theorem d_SL_look_60 : decode mi_SL_look.2.1 60 = .ok (.aload_n 3, 1) := by decide +kernel
theorem d_SL_look_61 : decode mi_SL_look.2.1 61 = .ok (.getfield 129, 3) := by decide +kernel
theorem d_SL_look_64 : decode mi_SL_look.2.1 64 = .ok (.ifCond .eq (7), 3) := by decide +kernel
theorem d_SL_look_67 : decode mi_SL_look.2.1 67 = .ok (.iconst 1, 1) := by decide +kernel
theorem d_SL_look_68 : decode mi_SL_look.2.1 68 = .ok (.goto (4), 3) := by decide +kernel
theorem d_SL_look_71 : decode mi_SL_look.2.1 71 = .ok (.iconst 0, 1) := by decide +kernel
theorem d_SL_look_72 : decode mi_SL_look.2.1 72 = .ok (.ireturn, 1) := by decide +kernel
theorem d_SL_look_73 : decode mi_SL_look.2.1 73 = .ok (.aload_n 3, 1) := by decide +kernel
theorem d_SL_look_74 : decode mi_SL_look.2.1 74 = .ok (.getfield 175, 3) := by decide +kernel
theorem d_SL_look_77 : decode mi_SL_look.2.1 77 = .ok (.ifCond .eq (7), 3) := by decide +kernel
theorem d_SL_look_80 : decode mi_SL_look.2.1 80 = .ok (.iconst 1, 1) := by decide +kernel
theorem d_SL_look_81 : decode mi_SL_look.2.1 81 = .ok (.goto (4), 3) := by decide +kernel
theorem d_SL_look_84 : decode mi_SL_look.2.1 84 = .ok (.iconst 0, 1) := by decide +kernel
theorem d_SL_look_85 : decode mi_SL_look.2.1 85 = .ok (.ireturn, 1) := by decide +kernel
theorem d_SL_look_86 : decode mi_SL_look.2.1 86 = .ok (.aload_n 3, 1) := by decide +kernel
theorem d_SL_look_87 : decode mi_SL_look.2.1 87 = .ok (.getfield 178, 3) := by decide +kernel
theorem d_SL_look_90 : decode mi_SL_look.2.1 90 = .ok (.ireturn, 1) := by decide +kernel
theorem d_SL_look_91 : decode mi_SL_look.2.1 91 = .ok (.aload_n 3, 1) := by decide +kernel
theorem d_SL_look_92 : decode mi_SL_look.2.1 92 = .ok (.getfield 55, 3) := by decide +kernel
theorem d_SL_look_95 : decode mi_SL_look.2.1 95 = .ok (.getfield 68, 3) := by decide +kernel
theorem d_SL_look_98 : decode mi_SL_look.2.1 98 = .ok (.ireturn, 1) := by decide +kernel
theorem d_SL_look_99 : decode mi_SL_look.2.1 99 = .ok (.aload_n 3, 1) := by decide +kernel
theorem d_SL_look_100 : decode mi_SL_look.2.1 100 = .ok (.getfield 55, 3) := by decide +kernel
theorem d_SL_look_103 : decode mi_SL_look.2.1 103 = .ok (.getfield 181, 3) := by decide +kernel
theorem d_SL_look_106 : decode mi_SL_look.2.1 106 = .ok (.ireturn, 1) := by decide +kernel
theorem d_SL_look_107 : decode mi_SL_look.2.1 107 = .ok (.aload_n 3, 1) := by decide +kernel
theorem d_SL_look_108 : decode mi_SL_look.2.1 108 = .ok (.getfield 86, 3) := by decide +kernel
theorem d_SL_look_111 : decode mi_SL_look.2.1 111 = .ok (.getfield 184, 3) := by decide +kernel
theorem d_SL_look_114 : decode mi_SL_look.2.1 114 = .ok (.ireturn, 1) := by decide +kernel
theorem d_SL_look_115 : decode mi_SL_look.2.1 115 = .ok (.aload_n 3, 1) := by decide +kernel
theorem d_SL_look_116 : decode mi_SL_look.2.1 116 = .ok (.getfield 157, 3) := by decide +kernel
theorem d_SL_look_119 : decode mi_SL_look.2.1 119 = .ok (.ireturn, 1) := by decide +kernel
theorem d_SL_look_120 : decode mi_SL_look.2.1 120 = .ok (.iconst (-1), 1) := by decide +kernel
theorem d_SL_look_121 : decode mi_SL_look.2.1 121 = .ok (.ireturn, 1) := by decide +kernel
theorem d_SL_slot_0 : decode mi_SL_slot.2.1 0 = .ok (.aload_n 0, 1) := by decide +kernel
theorem d_SL_slot_1 : decode mi_SL_slot.2.1 1 = .ok (.iload_n 1, 1) := by decide +kernel
theorem d_SL_slot_2 : decode mi_SL_slot.2.1 2 = .ok (.invokevirtual 37, 3) := by decide +kernel
theorem d_SL_slot_5 : decode mi_SL_slot.2.1 5 = .ok (.ifCond .eq (22), 3) := by decide +kernel
theorem d_SL_slot_8 : decode mi_SL_slot.2.1 8 = .ok (.iload_n 2, 1) := by decide +kernel
theorem d_SL_slot_9 : decode mi_SL_slot.2.1 9 = .ok (.invokestatic 109, 3) := by decide +kernel
theorem d_SL_slot_12 : decode mi_SL_slot.2.1 12 = .ok (.ifCond .eq (15), 3) := by decide +kernel
theorem d_SL_slot_15 : decode mi_SL_slot.2.1 15 = .ok (.aload_n 0, 1) := by decide +kernel
theorem d_SL_slot_16 : decode mi_SL_slot.2.1 16 = .ok (.getfield 18, 3) := by decide +kernel
theorem d_SL_slot_19 : decode mi_SL_slot.2.1 19 = .ok (.iload_n 1, 1) := by decide +kernel
theorem d_SL_slot_20 : decode mi_SL_slot.2.1 20 = .ok (.aaload, 1) := by decide +kernel
theorem d_SL_slot_21 : decode mi_SL_slot.2.1 21 = .ok (.getfield 129, 3) := by decide +kernel
theorem d_SL_slot_24 : decode mi_SL_slot.2.1 24 = .ok (.ifCond .ne (5), 3) := by decide +kernel
theorem d_SL_slot_27 : decode mi_SL_slot.2.1 27 = .ok (.iconst (-1), 1) := by decide +kernel
theorem d_SL_slot_28 : decode mi_SL_slot.2.1 28 = .ok (.ireturn, 1) := by decide +kernel
theorem d_SL_slot_29 : decode mi_SL_slot.2.1 29 = .ok (.aload_n 0, 1) := by decide +kernel
theorem d_SL_slot_30 : decode mi_SL_slot.2.1 30 = .ok (.getfield 18, 3) := by decide +kernel
theorem d_SL_slot_33 : decode mi_SL_slot.2.1 33 = .ok (.iload_n 1, 1) := by decide +kernel
theorem d_SL_slot_34 : decode mi_SL_slot.2.1 34 = .ok (.aaload, 1) := by decide +kernel
theorem d_SL_slot_35 : decode mi_SL_slot.2.1 35 = .ok (.getfield 75, 3) := by decide +kernel
theorem d_SL_slot_38 : decode mi_SL_slot.2.1 38 = .ok (.iload_n 2, 1) := by decide +kernel
theorem d_SL_slot_39 : decode mi_SL_slot.2.1 39 = .ok (.iaload, 1) := by decide +kernel
theorem d_SL_slot_40 : decode mi_SL_slot.2.1 40 = .ok (.ireturn, 1) := by decide +kernel
theorem d_SL_plan_0 : decode mi_SL_plan.2.1 0 = .ok (.aload_n 0, 1) := by decide +kernel
theorem d_SL_plan_1 : decode mi_SL_plan.2.1 1 = .ok (.iload_n 1, 1) := by decide +kernel
theorem d_SL_plan_2 : decode mi_SL_plan.2.1 2 = .ok (.invokevirtual 37, 3) := by decide +kernel
theorem d_SL_plan_5 : decode mi_SL_plan.2.1 5 = .ok (.ifCond .eq (25), 3) := by decide +kernel
theorem d_SL_plan_8 : decode mi_SL_plan.2.1 8 = .ok (.iload_n 2, 1) := by decide +kernel
theorem d_SL_plan_9 : decode mi_SL_plan.2.1 9 = .ok (.invokestatic 109, 3) := by decide +kernel
theorem d_SL_plan_12 : decode mi_SL_plan.2.1 12 = .ok (.ifCond .eq (18), 3) := by decide +kernel
theorem d_SL_plan_15 : decode mi_SL_plan.2.1 15 = .ok (.aload_n 0, 1) := by decide +kernel
theorem d_SL_plan_16 : decode mi_SL_plan.2.1 16 = .ok (.getfield 18, 3) := by decide +kernel
theorem d_SL_plan_19 : decode mi_SL_plan.2.1 19 = .ok (.iload_n 1, 1) := by decide +kernel
theorem d_SL_plan_20 : decode mi_SL_plan.2.1 20 = .ok (.aaload, 1) := by decide +kernel
theorem d_SL_plan_21 : decode mi_SL_plan.2.1 21 = .ok (.getfield 55, 3) := by decide +kernel
theorem d_SL_plan_24 : decode mi_SL_plan.2.1 24 = .ok (.invokevirtual 103, 3) := by decide +kernel
theorem d_SL_plan_27 : decode mi_SL_plan.2.1 27 = .ok (.ifCond .ne (5), 3) := by decide +kernel
theorem d_SL_plan_30 : decode mi_SL_plan.2.1 30 = .ok (.iconst (-1), 1) := by decide +kernel
theorem d_SL_plan_31 : decode mi_SL_plan.2.1 31 = .ok (.ireturn, 1) := by decide +kernel
theorem d_SL_plan_32 : decode mi_SL_plan.2.1 32 = .ok (.aload_n 0, 1) := by decide +kernel
theorem d_SL_plan_33 : decode mi_SL_plan.2.1 33 = .ok (.getfield 18, 3) := by decide +kernel
theorem d_SL_plan_36 : decode mi_SL_plan.2.1 36 = .ok (.iload_n 1, 1) := by decide +kernel
theorem d_SL_plan_37 : decode mi_SL_plan.2.1 37 = .ok (.aaload, 1) := by decide +kernel
theorem d_SL_plan_38 : decode mi_SL_plan.2.1 38 = .ok (.getfield 55, 3) := by decide +kernel
theorem d_SL_plan_41 : decode mi_SL_plan.2.1 41 = .ok (.iload_n 2, 1) := by decide +kernel
theorem d_SL_plan_42 : decode mi_SL_plan.2.1 42 = .ok (.invokevirtual 187, 3) := by decide +kernel
theorem d_SL_plan_45 : decode mi_SL_plan.2.1 45 = .ok (.ireturn, 1) := by decide +kernel
theorem d_SL_chosen_0 : decode mi_SL_chosen.2.1 0 = .ok (.aload_n 0, 1) := by decide +kernel
theorem d_SL_chosen_1 : decode mi_SL_chosen.2.1 1 = .ok (.iload_n 1, 1) := by decide +kernel
theorem d_SL_chosen_2 : decode mi_SL_chosen.2.1 2 = .ok (.invokevirtual 37, 3) := by decide +kernel
theorem d_SL_chosen_5 : decode mi_SL_chosen.2.1 5 = .ok (.ifCond .eq (10), 3) := by decide +kernel
theorem d_SL_chosen_8 : decode mi_SL_chosen.2.1 8 = .ok (.iload_n 2, 1) := by decide +kernel
theorem d_SL_chosen_9 : decode mi_SL_chosen.2.1 9 = .ok (.invokestatic 109, 3) := by decide +kernel
theorem d_SL_chosen_12 : decode mi_SL_chosen.2.1 12 = .ok (.ifCond .ne (5), 3) := by decide +kernel
theorem d_SL_chosen_15 : decode mi_SL_chosen.2.1 15 = .ok (.iconst (-1), 1) := by decide +kernel
theorem d_SL_chosen_16 : decode mi_SL_chosen.2.1 16 = .ok (.ireturn, 1) := by decide +kernel
theorem d_SL_chosen_17 : decode mi_SL_chosen.2.1 17 = .ok (.aload_n 0, 1) := by decide +kernel
theorem d_SL_chosen_18 : decode mi_SL_chosen.2.1 18 = .ok (.getfield 18, 3) := by decide +kernel
theorem d_SL_chosen_21 : decode mi_SL_chosen.2.1 21 = .ok (.iload_n 1, 1) := by decide +kernel
theorem d_SL_chosen_22 : decode mi_SL_chosen.2.1 22 = .ok (.aaload, 1) := by decide +kernel
theorem d_SL_chosen_23 : decode mi_SL_chosen.2.1 23 = .ok (.getfield 86, 3) := by decide +kernel
theorem d_SL_chosen_26 : decode mi_SL_chosen.2.1 26 = .ok (.getfield 190, 3) := by decide +kernel
theorem d_SL_chosen_29 : decode mi_SL_chosen.2.1 29 = .ok (.iload_n 2, 1) := by decide +kernel
theorem d_SL_chosen_30 : decode mi_SL_chosen.2.1 30 = .ok (.iaload, 1) := by decide +kernel
theorem d_SL_chosen_31 : decode mi_SL_chosen.2.1 31 = .ok (.ireturn, 1) := by decide +kernel
theorem d_SL_value_0 : decode mi_SL_value.2.1 0 = .ok (.aload_n 0, 1) := by decide +kernel
theorem d_SL_value_1 : decode mi_SL_value.2.1 1 = .ok (.iload_n 1, 1) := by decide +kernel
theorem d_SL_value_2 : decode mi_SL_value.2.1 2 = .ok (.invokevirtual 37, 3) := by decide +kernel
theorem d_SL_value_5 : decode mi_SL_value.2.1 5 = .ok (.ifCond .eq (10), 3) := by decide +kernel
theorem d_SL_value_8 : decode mi_SL_value.2.1 8 = .ok (.iload_n 2, 1) := by decide +kernel
theorem d_SL_value_9 : decode mi_SL_value.2.1 9 = .ok (.invokestatic 25, 3) := by decide +kernel
theorem d_SL_value_12 : decode mi_SL_value.2.1 12 = .ok (.ifCond .ne (5), 3) := by decide +kernel
theorem d_SL_value_15 : decode mi_SL_value.2.1 15 = .ok (.iconst 0, 1) := by decide +kernel
theorem d_SL_value_16 : decode mi_SL_value.2.1 16 = .ok (.ireturn, 1) := by decide +kernel
theorem d_SL_value_17 : decode mi_SL_value.2.1 17 = .ok (.aload_n 0, 1) := by decide +kernel
theorem d_SL_value_18 : decode mi_SL_value.2.1 18 = .ok (.getfield 18, 3) := by decide +kernel
theorem d_SL_value_21 : decode mi_SL_value.2.1 21 = .ok (.iload_n 1, 1) := by decide +kernel
theorem d_SL_value_22 : decode mi_SL_value.2.1 22 = .ok (.aaload, 1) := by decide +kernel
theorem d_SL_value_23 : decode mi_SL_value.2.1 23 = .ok (.getfield 86, 3) := by decide +kernel
theorem d_SL_value_26 : decode mi_SL_value.2.1 26 = .ok (.getfield 193, 3) := by decide +kernel
theorem d_SL_value_29 : decode mi_SL_value.2.1 29 = .ok (.iload_n 2, 1) := by decide +kernel
theorem d_SL_value_30 : decode mi_SL_value.2.1 30 = .ok (.iaload, 1) := by decide +kernel
theorem d_SL_value_31 : decode mi_SL_value.2.1 31 = .ok (.ireturn, 1) := by decide +kernel
theorem d_SL_octet_0 : decode mi_SL_octet.2.1 0 = .ok (.aload_n 0, 1) := by decide +kernel
theorem d_SL_octet_1 : decode mi_SL_octet.2.1 1 = .ok (.iload_n 1, 1) := by decide +kernel
theorem d_SL_octet_2 : decode mi_SL_octet.2.1 2 = .ok (.invokevirtual 37, 3) := by decide +kernel
theorem d_SL_octet_5 : decode mi_SL_octet.2.1 5 = .ok (.ifCond .eq (14), 3) := by decide +kernel
theorem d_SL_octet_8 : decode mi_SL_octet.2.1 8 = .ok (.iload_n 2, 1) := by decide +kernel
theorem d_SL_octet_9 : decode mi_SL_octet.2.1 9 = .ok (.ifCond .lt (10), 3) := by decide +kernel
