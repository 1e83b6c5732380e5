theorem dX5_init_0 : decode mX5_init.2.2.1 0 = .ok (.aload_n 0, 1) := by decide +kernel
theorem dX5_init_1 : decode mX5_init.2.2.1 1 = .ok (.invokespecial 3, 3) := by decide +kernel
theorem dX5_init_4 : decode mX5_init.2.2.1 4 = .ok (.aload_n 0, 1) := by decide +kernel
theorem dX5_init_5 : decode mX5_init.2.2.1 5 = .ok (.iconst 4, 1) := by decide +kernel
theorem dX5_init_6 : decode mX5_init.2.2.1 6 = .ok (.anewarray 9, 3) := by decide +kernel
theorem dX5_init_9 : decode mX5_init.2.2.1 9 = .ok (.putfield 11, 3) := by decide +kernel
theorem dX5_init_12 : decode mX5_init.2.2.1 12 = .ok (.aload_n 0, 1) := by decide +kernel
theorem dX5_init_13 : decode mX5_init.2.2.1 13 = .ok (.bipush 25, 2) := by decide +kernel
theorem dX5_init_15 : decode mX5_init.2.2.1 15 = .ok (.anewarray 17, 3) := by decide +kernel
theorem dX5_init_18 : decode mX5_init.2.2.1 18 = .ok (.putfield 19, 3) := by decide +kernel
theorem dX5_init_21 : decode mX5_init.2.2.1 21 = .ok (.aload_n 0, 1) := by decide +kernel
theorem dX5_init_22 : decode mX5_init.2.2.1 22 = .ok (.new 23, 3) := by decide +kernel
theorem dX5_init_25 : decode mX5_init.2.2.1 25 = .ok (.dup, 1) := by decide +kernel
theorem dX5_init_26 : decode mX5_init.2.2.1 26 = .ok (.bipush 68, 2) := by decide +kernel
theorem dX5_init_28 : decode mX5_init.2.2.1 28 = .ok (.invokespecial 25, 3) := by decide +kernel
theorem dX5_init_31 : decode mX5_init.2.2.1 31 = .ok (.putfield 28, 3) := by decide +kernel
theorem dX5_init_34 : decode mX5_init.2.2.1 34 = .ok (.aload_n 0, 1) := by decide +kernel
theorem dX5_init_35 : decode mX5_init.2.2.1 35 = .ok (.new 32, 3) := by decide +kernel
theorem dX5_init_38 : decode mX5_init.2.2.1 38 = .ok (.dup, 1) := by decide +kernel
theorem dX5_init_39 : decode mX5_init.2.2.1 39 = .ok (.invokespecial 34, 3) := by decide +kernel
theorem dX5_init_42 : decode mX5_init.2.2.1 42 = .ok (.putfield 35, 3) := by decide +kernel
theorem dX5_init_45 : decode mX5_init.2.2.1 45 = .ok (.iconst 0, 1) := by decide +kernel
theorem dX5_init_46 : decode mX5_init.2.2.1 46 = .ok (.istore_n 1, 1) := by decide +kernel
theorem dX5_init_47 : decode mX5_init.2.2.1 47 = .ok (.iload_n 1, 1) := by decide +kernel
theorem dX5_init_48 : decode mX5_init.2.2.1 48 = .ok (.iconst 4, 1) := by decide +kernel
theorem dX5_init_49 : decode mX5_init.2.2.1 49 = .ok (.if_icmp .ge 22, 3) := by decide +kernel
theorem dX5_init_52 : decode mX5_init.2.2.1 52 = .ok (.aload_n 0, 1) := by decide +kernel
theorem dX5_init_53 : decode mX5_init.2.2.1 53 = .ok (.getfield 11, 3) := by decide +kernel
theorem dX5_init_56 : decode mX5_init.2.2.1 56 = .ok (.iload_n 1, 1) := by decide +kernel
theorem dX5_init_57 : decode mX5_init.2.2.1 57 = .ok (.new 9, 3) := by decide +kernel
theorem dX5_init_60 : decode mX5_init.2.2.1 60 = .ok (.dup, 1) := by decide +kernel
theorem dX5_init_61 : decode mX5_init.2.2.1 61 = .ok (.invokespecial 39, 3) := by decide +kernel
theorem dX5_init_64 : decode mX5_init.2.2.1 64 = .ok (.aastore, 1) := by decide +kernel
theorem dX5_init_65 : decode mX5_init.2.2.1 65 = .ok (.iinc 1 1, 3) := by decide +kernel
theorem dX5_init_68 : decode mX5_init.2.2.1 68 = .ok (.goto (-21), 3) := by decide +kernel
theorem dX5_init_71 : decode mX5_init.2.2.1 71 = .ok (.iconst 0, 1) := by decide +kernel
theorem dX5_init_72 : decode mX5_init.2.2.1 72 = .ok (.istore_n 1, 1) := by decide +kernel
theorem dX5_init_73 : decode mX5_init.2.2.1 73 = .ok (.iload_n 1, 1) := by decide +kernel
theorem dX5_init_74 : decode mX5_init.2.2.1 74 = .ok (.bipush 25, 2) := by decide +kernel
theorem dX5_init_76 : decode mX5_init.2.2.1 76 = .ok (.if_icmp .ge 37, 3) := by decide +kernel
theorem dX5_init_79 : decode mX5_init.2.2.1 79 = .ok (.iload_n 1, 1) := by decide +kernel
theorem dX5_init_80 : decode mX5_init.2.2.1 80 = .ok (.iconst 5, 1) := by decide +kernel
theorem dX5_init_81 : decode mX5_init.2.2.1 81 = .ok (.idiv, 1) := by decide +kernel
theorem dX5_init_82 : decode mX5_init.2.2.1 82 = .ok (.iload_n 1, 1) := by decide +kernel
theorem dX5_init_83 : decode mX5_init.2.2.1 83 = .ok (.iconst 5, 1) := by decide +kernel
theorem dX5_init_84 : decode mX5_init.2.2.1 84 = .ok (.irem, 1) := by decide +kernel
theorem dX5_init_85 : decode mX5_init.2.2.1 85 = .ok (.if_icmp .eq 22, 3) := by decide +kernel
theorem dX5_init_88 : decode mX5_init.2.2.1 88 = .ok (.aload_n 0, 1) := by decide +kernel
theorem dX5_init_89 : decode mX5_init.2.2.1 89 = .ok (.getfield 19, 3) := by decide +kernel
theorem dX5_init_92 : decode mX5_init.2.2.1 92 = .ok (.iload_n 1, 1) := by decide +kernel
theorem dX5_init_93 : decode mX5_init.2.2.1 93 = .ok (.new 17, 3) := by decide +kernel
theorem dX5_init_96 : decode mX5_init.2.2.1 96 = .ok (.dup, 1) := by decide +kernel
theorem dX5_init_97 : decode mX5_init.2.2.1 97 = .ok (.iload_n 1, 1) := by decide +kernel
theorem dX5_init_98 : decode mX5_init.2.2.1 98 = .ok (.iconst 5, 1) := by decide +kernel
theorem dX5_init_99 : decode mX5_init.2.2.1 99 = .ok (.idiv, 1) := by decide +kernel
theorem dX5_init_100 : decode mX5_init.2.2.1 100 = .ok (.iload_n 1, 1) := by decide +kernel
theorem dX5_init_101 : decode mX5_init.2.2.1 101 = .ok (.iconst 5, 1) := by decide +kernel
theorem dX5_init_102 : decode mX5_init.2.2.1 102 = .ok (.irem, 1) := by decide +kernel
theorem dX5_init_103 : decode mX5_init.2.2.1 103 = .ok (.invokespecial 40, 3) := by decide +kernel
theorem dX5_init_106 : decode mX5_init.2.2.1 106 = .ok (.aastore, 1) := by decide +kernel
theorem dX5_init_107 : decode mX5_init.2.2.1 107 = .ok (.iinc 1 1, 3) := by decide +kernel
theorem dX5_init_110 : decode mX5_init.2.2.1 110 = .ok (.goto (-37), 3) := by decide +kernel
theorem dX5_init_113 : decode mX5_init.2.2.1 113 = .ok (.return_, 1) := by decide +kernel
theorem dX5_restart_0 : decode mX5_restart.2.2.1 0 = .ok (.aload_n 0, 1) := by decide +kernel
theorem dX5_restart_1 : decode mX5_restart.2.2.1 1 = .ok (.aload_n 1, 1) := by decide +kernel
theorem dX5_restart_2 : decode mX5_restart.2.2.1 2 = .ok (.putfield 35, 3) := by decide +kernel
theorem dX5_restart_5 : decode mX5_restart.2.2.1 5 = .ok (.iconst 0, 1) := by decide +kernel
theorem dX5_restart_6 : decode mX5_restart.2.2.1 6 = .ok (.istore_n 2, 1) := by decide +kernel
theorem dX5_restart_7 : decode mX5_restart.2.2.1 7 = .ok (.iload_n 2, 1) := by decide +kernel
theorem dX5_restart_8 : decode mX5_restart.2.2.1 8 = .ok (.iconst 4, 1) := by decide +kernel
theorem dX5_restart_9 : decode mX5_restart.2.2.1 9 = .ok (.if_icmp .ge 24, 3) := by decide +kernel
theorem dX5_restart_12 : decode mX5_restart.2.2.1 12 = .ok (.aload_n 0, 1) := by decide +kernel
theorem dX5_restart_13 : decode mX5_restart.2.2.1 13 = .ok (.getfield 11, 3) := by decide +kernel
theorem dX5_restart_16 : decode mX5_restart.2.2.1 16 = .ok (.iload_n 2, 1) := by decide +kernel
theorem dX5_restart_17 : decode mX5_restart.2.2.1 17 = .ok (.aaload, 1) := by decide +kernel
theorem dX5_restart_18 : decode mX5_restart.2.2.1 18 = .ok (.iconst 0, 1) := by decide +kernel
theorem dX5_restart_19 : decode mX5_restart.2.2.1 19 = .ok (.putfield 43, 3) := by decide +kernel
theorem dX5_restart_22 : decode mX5_restart.2.2.1 22 = .ok (.aload_n 0, 1) := by decide +kernel
theorem dX5_restart_23 : decode mX5_restart.2.2.1 23 = .ok (.iload_n 2, 1) := by decide +kernel
theorem dX5_restart_24 : decode mX5_restart.2.2.1 24 = .ok (.invokevirtual 47, 3) := by decide +kernel
theorem dX5_restart_27 : decode mX5_restart.2.2.1 27 = .ok (.iinc 2 1, 3) := by decide +kernel
theorem dX5_restart_30 : decode mX5_restart.2.2.1 30 = .ok (.goto (-23), 3) := by decide +kernel
theorem dX5_restart_33 : decode mX5_restart.2.2.1 33 = .ok (.return_, 1) := by decide +kernel
theorem dX5_begin_0 : decode mX5_begin.2.2.1 0 = .ok (.iload_n 1, 1) := by decide +kernel
theorem dX5_begin_1 : decode mX5_begin.2.2.1 1 = .ok (.ifCond .lt 29, 3) := by decide +kernel
theorem dX5_begin_4 : decode mX5_begin.2.2.1 4 = .ok (.iload_n 1, 1) := by decide +kernel
theorem dX5_begin_5 : decode mX5_begin.2.2.1 5 = .ok (.iconst 4, 1) := by decide +kernel
theorem dX5_begin_6 : decode mX5_begin.2.2.1 6 = .ok (.if_icmp .ge 24, 3) := by decide +kernel
theorem dX5_begin_9 : decode mX5_begin.2.2.1 9 = .ok (.aload_n 0, 1) := by decide +kernel
theorem dX5_begin_10 : decode mX5_begin.2.2.1 10 = .ok (.iload_n 1, 1) := by decide +kernel
theorem dX5_begin_11 : decode mX5_begin.2.2.1 11 = .ok (.invokevirtual 47, 3) := by decide +kernel
theorem dX5_begin_14 : decode mX5_begin.2.2.1 14 = .ok (.aload_n 0, 1) := by decide +kernel
theorem dX5_begin_15 : decode mX5_begin.2.2.1 15 = .ok (.getfield 11, 3) := by decide +kernel
theorem dX5_begin_18 : decode mX5_begin.2.2.1 18 = .ok (.iload_n 1, 1) := by decide +kernel
theorem dX5_begin_19 : decode mX5_begin.2.2.1 19 = .ok (.aaload, 1) := by decide +kernel
theorem dX5_begin_20 : decode mX5_begin.2.2.1 20 = .ok (.aload_n 0, 1) := by decide +kernel
theorem dX5_begin_21 : decode mX5_begin.2.2.1 21 = .ok (.getfield 35, 3) := by decide +kernel
theorem dX5_begin_24 : decode mX5_begin.2.2.1 24 = .ok (.getfield 50, 3) := by decide +kernel
theorem dX5_begin_27 : decode mX5_begin.2.2.1 27 = .ok (.invokevirtual 54, 3) := by decide +kernel
theorem dX5_begin_30 : decode mX5_begin.2.2.1 30 = .ok (.return_, 1) := by decide +kernel
theorem dX5_fill_0 : decode mX5_fill.2.2.1 0 = .ok (.aload_n 0, 1) := by decide +kernel
theorem dX5_fill_1 : decode mX5_fill.2.2.1 1 = .ok (.iload_n 1, 1) := by decide +kernel
theorem dX5_fill_2 : decode mX5_fill.2.2.1 2 = .ok (.invokevirtual 57, 3) := by decide +kernel
theorem dX5_fill_5 : decode mX5_fill.2.2.1 5 = .ok (.astore_n 3, 1) := by decide +kernel
theorem dX5_fill_6 : decode mX5_fill.2.2.1 6 = .ok (.aload_n 3, 1) := by decide +kernel
theorem dX5_fill_7 : decode mX5_fill.2.2.1 7 = .ok (.ifnull 35, 3) := by decide +kernel
theorem dX5_fill_10 : decode mX5_fill.2.2.1 10 = .ok (.aload_n 3, 1) := by decide +kernel
theorem dX5_fill_11 : decode mX5_fill.2.2.1 11 = .ok (.getfield 61, 3) := by decide +kernel
theorem dX5_fill_14 : decode mX5_fill.2.2.1 14 = .ok (.iconst 0, 1) := by decide +kernel
theorem dX5_fill_15 : decode mX5_fill.2.2.1 15 = .ok (.invokevirtual 64, 3) := by decide +kernel
theorem dX5_fill_18 : decode mX5_fill.2.2.1 18 = .ok (.aload_n 3, 1) := by decide +kernel
theorem dX5_fill_19 : decode mX5_fill.2.2.1 19 = .ok (.getfield 61, 3) := by decide +kernel
theorem dX5_fill_22 : decode mX5_fill.2.2.1 22 = .ok (.aload_n 2, 1) := by decide +kernel
theorem dX5_fill_23 : decode mX5_fill.2.2.1 23 = .ok (.iconst 0, 1) := by decide +kernel
theorem dX5_fill_24 : decode mX5_fill.2.2.1 24 = .ok (.aload_n 2, 1) := by decide +kernel
theorem dX5_fill_25 : decode mX5_fill.2.2.1 25 = .ok (.invokevirtual 67, 3) := by decide +kernel
theorem dX5_fill_28 : decode mX5_fill.2.2.1 28 = .ok (.invokevirtual 71, 3) := by decide +kernel
theorem dX5_fill_31 : decode mX5_fill.2.2.1 31 = .ok (.aload_n 3, 1) := by decide +kernel
theorem dX5_fill_32 : decode mX5_fill.2.2.1 32 = .ok (.aload_n 0, 1) := by decide +kernel
theorem dX5_fill_33 : decode mX5_fill.2.2.1 33 = .ok (.getfield 35, 3) := by decide +kernel
theorem dX5_fill_36 : decode mX5_fill.2.2.1 36 = .ok (.invokevirtual 75, 3) := by decide +kernel
theorem dX5_fill_39 : decode mX5_fill.2.2.1 39 = .ok (.putfield 79, 3) := by decide +kernel
theorem dX5_fill_42 : decode mX5_fill.2.2.1 42 = .ok (.return_, 1) := by decide +kernel
theorem dX5_clientOf_0 : decode mX5_clientOf.2.2.1 0 = .ok (.iload_n 1, 1) := by decide +kernel
theorem dX5_clientOf_1 : decode mX5_clientOf.2.2.1 1 = .ok (.ifCond .lt 20, 3) := by decide +kernel
theorem dX5_clientOf_4 : decode mX5_clientOf.2.2.1 4 = .ok (.iload_n 1, 1) := by decide +kernel
theorem dX5_clientOf_5 : decode mX5_clientOf.2.2.1 5 = .ok (.iconst 4, 1) := by decide +kernel
theorem dX5_clientOf_6 : decode mX5_clientOf.2.2.1 6 = .ok (.if_icmp .ge 15, 3) := by decide +kernel
theorem dX5_clientOf_9 : decode mX5_clientOf.2.2.1 9 = .ok (.aload_n 0, 1) := by decide +kernel
theorem dX5_clientOf_10 : decode mX5_clientOf.2.2.1 10 = .ok (.getfield 11, 3) := by decide +kernel
theorem dX5_clientOf_13 : decode mX5_clientOf.2.2.1 13 = .ok (.iload_n 1, 1) := by decide +kernel
theorem dX5_clientOf_14 : decode mX5_clientOf.2.2.1 14 = .ok (.aaload, 1) := by decide +kernel
theorem dX5_clientOf_15 : decode mX5_clientOf.2.2.1 15 = .ok (.getfield 43, 3) := by decide +kernel
theorem dX5_clientOf_18 : decode mX5_clientOf.2.2.1 18 = .ok (.ifCond .ne 7, 3) := by decide +kernel
theorem dX5_clientOf_21 : decode mX5_clientOf.2.2.1 21 = .ok (.aconst_null, 1) := by decide +kernel
theorem dX5_clientOf_22 : decode mX5_clientOf.2.2.1 22 = .ok (.goto 9, 3) := by decide +kernel
theorem dX5_clientOf_25 : decode mX5_clientOf.2.2.1 25 = .ok (.aload_n 0, 1) := by decide +kernel
theorem dX5_clientOf_26 : decode mX5_clientOf.2.2.1 26 = .ok (.getfield 11, 3) := by decide +kernel
theorem dX5_clientOf_29 : decode mX5_clientOf.2.2.1 29 = .ok (.iload_n 1, 1) := by decide +kernel
theorem dX5_clientOf_30 : decode mX5_clientOf.2.2.1 30 = .ok (.aaload, 1) := by decide +kernel
theorem dX5_clientOf_31 : decode mX5_clientOf.2.2.1 31 = .ok (.areturn, 1) := by decide +kernel
theorem dX5_linkOf_0 : decode mX5_linkOf.2.2.1 0 = .ok (.iload_n 1, 1) := by decide +kernel
theorem dX5_linkOf_1 : decode mX5_linkOf.2.2.1 1 = .ok (.ifCond .lt 22, 3) := by decide +kernel
theorem dX5_linkOf_4 : decode mX5_linkOf.2.2.1 4 = .ok (.iload_n 1, 1) := by decide +kernel
theorem dX5_linkOf_5 : decode mX5_linkOf.2.2.1 5 = .ok (.iconst 5, 1) := by decide +kernel
theorem dX5_linkOf_6 : decode mX5_linkOf.2.2.1 6 = .ok (.if_icmp .ge 17, 3) := by decide +kernel
theorem dX5_linkOf_9 : decode mX5_linkOf.2.2.1 9 = .ok (.iload_n 2, 1) := by decide +kernel
theorem dX5_linkOf_10 : decode mX5_linkOf.2.2.1 10 = .ok (.ifCond .lt 13, 3) := by decide +kernel
theorem dX5_linkOf_13 : decode mX5_linkOf.2.2.1 13 = .ok (.iload_n 2, 1) := by decide +kernel
theorem dX5_linkOf_14 : decode mX5_linkOf.2.2.1 14 = .ok (.iconst 5, 1) := by decide +kernel
theorem dX5_linkOf_15 : decode mX5_linkOf.2.2.1 15 = .ok (.if_icmp .ge 8, 3) := by decide +kernel
theorem dX5_linkOf_18 : decode mX5_linkOf.2.2.1 18 = .ok (.iload_n 1, 1) := by decide +kernel
theorem dX5_linkOf_19 : decode mX5_linkOf.2.2.1 19 = .ok (.iload_n 2, 1) := by decide +kernel
theorem dX5_linkOf_20 : decode mX5_linkOf.2.2.1 20 = .ok (.if_icmp .ne 7, 3) := by decide +kernel
theorem dX5_linkOf_23 : decode mX5_linkOf.2.2.1 23 = .ok (.aconst_null, 1) := by decide +kernel
theorem dX5_linkOf_24 : decode mX5_linkOf.2.2.1 24 = .ok (.goto 13, 3) := by decide +kernel
theorem dX5_linkOf_27 : decode mX5_linkOf.2.2.1 27 = .ok (.aload_n 0, 1) := by decide +kernel
theorem dX5_linkOf_28 : decode mX5_linkOf.2.2.1 28 = .ok (.getfield 19, 3) := by decide +kernel
theorem dX5_linkOf_31 : decode mX5_linkOf.2.2.1 31 = .ok (.iconst 5, 1) := by decide +kernel
theorem dX5_linkOf_32 : decode mX5_linkOf.2.2.1 32 = .ok (.iload_n 1, 1) := by decide +kernel
theorem dX5_linkOf_33 : decode mX5_linkOf.2.2.1 33 = .ok (.imul, 1) := by decide +kernel
theorem dX5_linkOf_34 : decode mX5_linkOf.2.2.1 34 = .ok (.iload_n 2, 1) := by decide +kernel
theorem dX5_linkOf_35 : decode mX5_linkOf.2.2.1 35 = .ok (.iadd, 1) := by decide +kernel
theorem dX5_linkOf_36 : decode mX5_linkOf.2.2.1 36 = .ok (.aaload, 1) := by decide +kernel
theorem dX5_linkOf_37 : decode mX5_linkOf.2.2.1 37 = .ok (.areturn, 1) := by decide +kernel
theorem dX5_canJoin_0 : decode mX5_canJoin.2.2.1 0 = .ok (.iload_n 1, 1) := by decide +kernel
theorem dX5_canJoin_1 : decode mX5_canJoin.2.2.1 1 = .ok (.iconst 4, 1) := by decide +kernel
theorem dX5_canJoin_2 : decode mX5_canJoin.2.2.1 2 = .ok (.if_icmp .eq 11, 3) := by decide +kernel
theorem dX5_canJoin_5 : decode mX5_canJoin.2.2.1 5 = .ok (.aload_n 0, 1) := by decide +kernel
theorem dX5_canJoin_6 : decode mX5_canJoin.2.2.1 6 = .ok (.iload_n 1, 1) := by decide +kernel
theorem dX5_canJoin_7 : decode mX5_canJoin.2.2.1 7 = .ok (.invokevirtual 57, 3) := by decide +kernel
theorem dX5_canJoin_10 : decode mX5_canJoin.2.2.1 10 = .ok (.ifnull 7, 3) := by decide +kernel
theorem dX5_canJoin_13 : decode mX5_canJoin.2.2.1 13 = .ok (.iconst 1, 1) := by decide +kernel
theorem dX5_canJoin_14 : decode mX5_canJoin.2.2.1 14 = .ok (.goto 4, 3) := by decide +kernel
theorem dX5_canJoin_17 : decode mX5_canJoin.2.2.1 17 = .ok (.iconst 0, 1) := by decide +kernel
theorem dX5_canJoin_18 : decode mX5_canJoin.2.2.1 18 = .ok (.ireturn, 1) := by decide +kernel
theorem dX5_join_0 : decode mX5_join.2.2.1 0 = .ok (.aload_n 0, 1) := by decide +kernel
theorem dX5_join_1 : decode mX5_join.2.2.1 1 = .ok (.iload_n 1, 1) := by decide +kernel
theorem dX5_join_2 : decode mX5_join.2.2.1 2 = .ok (.iload_n 2, 1) := by decide +kernel
theorem dX5_join_3 : decode mX5_join.2.2.1 3 = .ok (.invokevirtual 83, 3) := by decide +kernel
theorem dX5_join_6 : decode mX5_join.2.2.1 6 = .ok (.astore_n 3, 1) := by decide +kernel
theorem dX5_join_7 : decode mX5_join.2.2.1 7 = .ok (.aload_n 0, 1) := by decide +kernel
theorem dX5_join_8 : decode mX5_join.2.2.1 8 = .ok (.iload_n 2, 1) := by decide +kernel
theorem dX5_join_9 : decode mX5_join.2.2.1 9 = .ok (.iload_n 1, 1) := by decide +kernel
theorem dX5_join_10 : decode mX5_join.2.2.1 10 = .ok (.invokevirtual 83, 3) := by decide +kernel
theorem dX5_join_13 : decode mX5_join.2.2.1 13 = .ok (.astore 4, 2) := by decide +kernel
theorem dX5_join_15 : decode mX5_join.2.2.1 15 = .ok (.aload_n 3, 1) := by decide +kernel
theorem dX5_join_16 : decode mX5_join.2.2.1 16 = .ok (.ifnull 30, 3) := by decide +kernel
theorem dX5_join_19 : decode mX5_join.2.2.1 19 = .ok (.aload 4, 2) := by decide +kernel
theorem dX5_join_21 : decode mX5_join.2.2.1 21 = .ok (.ifnull 25, 3) := by decide +kernel
theorem dX5_join_24 : decode mX5_join.2.2.1 24 = .ok (.aload_n 3, 1) := by decide +kernel
theorem dX5_join_25 : decode mX5_join.2.2.1 25 = .ok (.invokevirtual 87, 3) := by decide +kernel
theorem dX5_join_28 : decode mX5_join.2.2.1 28 = .ok (.aload 4, 2) := by decide +kernel
theorem dX5_join_30 : decode mX5_join.2.2.1 30 = .ok (.invokevirtual 87, 3) := by decide +kernel
theorem dX5_join_33 : decode mX5_join.2.2.1 33 = .ok (.aload_n 0, 1) := by decide +kernel
theorem dX5_join_34 : decode mX5_join.2.2.1 34 = .ok (.iload_n 1, 1) := by decide +kernel
theorem dX5_join_35 : decode mX5_join.2.2.1 35 = .ok (.aload 4, 2) := by decide +kernel
theorem dX5_join_37 : decode mX5_join.2.2.1 37 = .ok (.invokevirtual 90, 3) := by decide +kernel
theorem dX5_join_40 : decode mX5_join.2.2.1 40 = .ok (.aload_n 0, 1) := by decide +kernel
theorem dX5_join_41 : decode mX5_join.2.2.1 41 = .ok (.iload_n 2, 1) := by decide +kernel
theorem dX5_join_42 : decode mX5_join.2.2.1 42 = .ok (.aload_n 3, 1) := by decide +kernel
theorem dX5_join_43 : decode mX5_join.2.2.1 43 = .ok (.invokevirtual 90, 3) := by decide +kernel
theorem dX5_join_46 : decode mX5_join.2.2.1 46 = .ok (.return_, 1) := by decide +kernel
theorem dX5_greet_0 : decode mX5_greet.2.2.1 0 = .ok (.iload_n 1, 1) := by decide +kernel
theorem dX5_greet_1 : decode mX5_greet.2.2.1 1 = .ok (.iconst 4, 1) := by decide +kernel
theorem dX5_greet_2 : decode mX5_greet.2.2.1 2 = .ok (.if_icmp .eq 34, 3) := by decide +kernel
theorem dX5_greet_5 : decode mX5_greet.2.2.1 5 = .ok (.aload_n 0, 1) := by decide +kernel
theorem dX5_greet_6 : decode mX5_greet.2.2.1 6 = .ok (.getfield 35, 3) := by decide +kernel
theorem dX5_greet_9 : decode mX5_greet.2.2.1 9 = .ok (.aload_n 0, 1) := by decide +kernel
theorem dX5_greet_10 : decode mX5_greet.2.2.1 10 = .ok (.getfield 28, 3) := by decide +kernel
theorem dX5_greet_13 : decode mX5_greet.2.2.1 13 = .ok (.iload_n 1, 1) := by decide +kernel
theorem dX5_greet_14 : decode mX5_greet.2.2.1 14 = .ok (.invokevirtual 94, 3) := by decide +kernel
theorem dX5_greet_17 : decode mX5_greet.2.2.1 17 = .ok (.aload_n 2, 1) := by decide +kernel
theorem dX5_greet_18 : decode mX5_greet.2.2.1 18 = .ok (.getfield 98, 3) := by decide +kernel
theorem dX5_greet_21 : decode mX5_greet.2.2.1 21 = .ok (.aload_n 0, 1) := by decide +kernel
theorem dX5_greet_22 : decode mX5_greet.2.2.1 22 = .ok (.getfield 28, 3) := by decide +kernel
theorem dX5_greet_25 : decode mX5_greet.2.2.1 25 = .ok (.iconst 0, 1) := by decide +kernel
theorem dX5_greet_26 : decode mX5_greet.2.2.1 26 = .ok (.aload_n 0, 1) := by decide +kernel
theorem dX5_greet_27 : decode mX5_greet.2.2.1 27 = .ok (.getfield 28, 3) := by decide +kernel
theorem dX5_greet_30 : decode mX5_greet.2.2.1 30 = .ok (.invokevirtual 67, 3) := by decide +kernel
theorem dX5_greet_33 : decode mX5_greet.2.2.1 33 = .ok (.invokevirtual 71, 3) := by decide +kernel
theorem dX5_greet_36 : decode mX5_greet.2.2.1 36 = .ok (.return_, 1) := by decide +kernel
theorem dX5_part_0 : decode mX5_part.2.2.1 0 = .ok (.aload_n 0, 1) := by decide +kernel
theorem dX5_part_1 : decode mX5_part.2.2.1 1 = .ok (.iload_n 1, 1) := by decide +kernel
theorem dX5_part_2 : decode mX5_part.2.2.1 2 = .ok (.iload_n 2, 1) := by decide +kernel
theorem dX5_part_3 : decode mX5_part.2.2.1 3 = .ok (.invokevirtual 83, 3) := by decide +kernel
theorem dX5_part_6 : decode mX5_part.2.2.1 6 = .ok (.astore 4, 2) := by decide +kernel
theorem dX5_part_8 : decode mX5_part.2.2.1 8 = .ok (.aload_n 0, 1) := by decide +kernel
theorem dX5_part_9 : decode mX5_part.2.2.1 9 = .ok (.iload_n 2, 1) := by decide +kernel
theorem dX5_part_10 : decode mX5_part.2.2.1 10 = .ok (.iload_n 1, 1) := by decide +kernel
theorem dX5_part_11 : decode mX5_part.2.2.1 11 = .ok (.invokevirtual 83, 3) := by decide +kernel
theorem dX5_part_14 : decode mX5_part.2.2.1 14 = .ok (.astore 5, 2) := by decide +kernel
theorem dX5_part_16 : decode mX5_part.2.2.1 16 = .ok (.aload 4, 2) := by decide +kernel
theorem dX5_part_18 : decode mX5_part.2.2.1 18 = .ok (.ifnull 20, 3) := by decide +kernel
theorem dX5_part_21 : decode mX5_part.2.2.1 21 = .ok (.aload 5, 2) := by decide +kernel
theorem dX5_part_23 : decode mX5_part.2.2.1 23 = .ok (.ifnull 15, 3) := by decide +kernel
theorem dX5_part_26 : decode mX5_part.2.2.1 26 = .ok (.aload 4, 2) := by decide +kernel
theorem dX5_part_28 : decode mX5_part.2.2.1 28 = .ok (.iload_n 3, 1) := by decide +kernel
theorem dX5_part_29 : decode mX5_part.2.2.1 29 = .ok (.invokevirtual 101, 3) := by decide +kernel
theorem dX5_part_32 : decode mX5_part.2.2.1 32 = .ok (.aload 5, 2) := by decide +kernel
theorem dX5_part_34 : decode mX5_part.2.2.1 34 = .ok (.iload_n 3, 1) := by decide +kernel
theorem dX5_part_35 : decode mX5_part.2.2.1 35 = .ok (.invokevirtual 101, 3) := by decide +kernel
theorem dX5_part_38 : decode mX5_part.2.2.1 38 = .ok (.return_, 1) := by decide +kernel
theorem dX5_partFromAll_0 : decode mX5_partFromAll.2.2.1 0 = .ok (.iconst 0, 1) := by decide +kernel
theorem dX5_partFromAll_1 : decode mX5_partFromAll.2.2.1 1 = .ok (.istore_n 2, 1) := by decide +kernel
theorem dX5_partFromAll_2 : decode mX5_partFromAll.2.2.1 2 = .ok (.iload_n 2, 1) := by decide +kernel
theorem dX5_partFromAll_3 : decode mX5_partFromAll.2.2.1 3 = .ok (.iconst 5, 1) := by decide +kernel
theorem dX5_partFromAll_4 : decode mX5_partFromAll.2.2.1 4 = .ok (.if_icmp .ge 16, 3) := by decide +kernel
theorem dX5_partFromAll_7 : decode mX5_partFromAll.2.2.1 7 = .ok (.aload_n 0, 1) := by decide +kernel
theorem dX5_partFromAll_8 : decode mX5_partFromAll.2.2.1 8 = .ok (.iload_n 1, 1) := by decide +kernel
theorem dX5_partFromAll_9 : decode mX5_partFromAll.2.2.1 9 = .ok (.iload_n 2, 1) := by decide +kernel
theorem dX5_partFromAll_10 : decode mX5_partFromAll.2.2.1 10 = .ok (.iconst 0, 1) := by decide +kernel
theorem dX5_partFromAll_11 : decode mX5_partFromAll.2.2.1 11 = .ok (.invokevirtual 104, 3) := by decide +kernel
theorem dX5_partFromAll_14 : decode mX5_partFromAll.2.2.1 14 = .ok (.iinc 2 1, 3) := by decide +kernel
theorem dX5_partFromAll_17 : decode mX5_partFromAll.2.2.1 17 = .ok (.goto (-15), 3) := by decide +kernel
theorem dX5_partFromAll_20 : decode mX5_partFromAll.2.2.1 20 = .ok (.return_, 1) := by decide +kernel
theorem dX5_send_0 : decode mX5_send.2.2.1 0 = .ok (.aload_n 0, 1) := by decide +kernel
theorem dX5_send_1 : decode mX5_send.2.2.1 1 = .ok (.aload_n 1, 1) := by decide +kernel
theorem dX5_send_2 : decode mX5_send.2.2.1 2 = .ok (.getfield 108, 3) := by decide +kernel
theorem dX5_send_5 : decode mX5_send.2.2.1 5 = .ok (.aload_n 1, 1) := by decide +kernel
theorem dX5_send_6 : decode mX5_send.2.2.1 6 = .ok (.getfield 111, 3) := by decide +kernel
theorem dX5_send_9 : decode mX5_send.2.2.1 9 = .ok (.invokevirtual 83, 3) := by decide +kernel
theorem dX5_send_12 : decode mX5_send.2.2.1 12 = .ok (.astore_n 3, 1) := by decide +kernel
theorem dX5_send_13 : decode mX5_send.2.2.1 13 = .ok (.aload_n 3, 1) := by decide +kernel
theorem dX5_send_14 : decode mX5_send.2.2.1 14 = .ok (.ifnull 10, 3) := by decide +kernel
theorem dX5_send_17 : decode mX5_send.2.2.1 17 = .ok (.aload_n 3, 1) := by decide +kernel
theorem dX5_send_18 : decode mX5_send.2.2.1 18 = .ok (.getfield 114, 3) := by decide +kernel
theorem dX5_send_21 : decode mX5_send.2.2.1 21 = .ok (.ifCond .ne 4, 3) := by decide +kernel
theorem dX5_send_24 : decode mX5_send.2.2.1 24 = .ok (.return_, 1) := by decide +kernel
theorem dX5_send_25 : decode mX5_send.2.2.1 25 = .ok (.aload_n 3, 1) := by decide +kernel
theorem dX5_send_26 : decode mX5_send.2.2.1 26 = .ok (.getfield 98, 3) := by decide +kernel
theorem dX5_send_29 : decode mX5_send.2.2.1 29 = .ok (.aload_n 2, 1) := by decide +kernel
theorem dX5_send_30 : decode mX5_send.2.2.1 30 = .ok (.invokevirtual 67, 3) := by decide +kernel
theorem dX5_send_33 : decode mX5_send.2.2.1 33 = .ok (.invokevirtual 117, 3) := by decide +kernel
theorem dX5_send_36 : decode mX5_send.2.2.1 36 = .ok (.ifCond .eq 19, 3) := by decide +kernel
theorem dX5_send_39 : decode mX5_send.2.2.1 39 = .ok (.aload_n 3, 1) := by decide +kernel
theorem dX5_send_40 : decode mX5_send.2.2.1 40 = .ok (.getfield 98, 3) := by decide +kernel
theorem dX5_send_43 : decode mX5_send.2.2.1 43 = .ok (.aload_n 2, 1) := by decide +kernel
theorem dX5_send_44 : decode mX5_send.2.2.1 44 = .ok (.iconst 0, 1) := by decide +kernel
theorem dX5_send_45 : decode mX5_send.2.2.1 45 = .ok (.aload_n 2, 1) := by decide +kernel
theorem dX5_send_46 : decode mX5_send.2.2.1 46 = .ok (.invokevirtual 67, 3) := by decide +kernel
theorem dX5_send_49 : decode mX5_send.2.2.1 49 = .ok (.invokevirtual 71, 3) := by decide +kernel
theorem dX5_send_52 : decode mX5_send.2.2.1 52 = .ok (.goto 17, 3) := by decide +kernel
theorem dX5_send_55 : decode mX5_send.2.2.1 55 = .ok (.aload_n 0, 1) := by decide +kernel
theorem dX5_send_56 : decode mX5_send.2.2.1 56 = .ok (.aload_n 1, 1) := by decide +kernel
theorem dX5_send_57 : decode mX5_send.2.2.1 57 = .ok (.getfield 111, 3) := by decide +kernel
theorem dX5_send_60 : decode mX5_send.2.2.1 60 = .ok (.aload_n 1, 1) := by decide +kernel
theorem dX5_send_61 : decode mX5_send.2.2.1 61 = .ok (.getfield 108, 3) := by decide +kernel
theorem dX5_send_64 : decode mX5_send.2.2.1 64 = .ok (.bipush 8, 2) := by decide +kernel
theorem dX5_send_66 : decode mX5_send.2.2.1 66 = .ok (.invokevirtual 104, 3) := by decide +kernel
theorem dX5_send_69 : decode mX5_send.2.2.1 69 = .ok (.return_, 1) := by decide +kernel
