theorem dX1_init_0 : decode mX1_init.2.2.1 0 = .ok (.aload_n 0, 1) := by decide +kernel
theorem dX1_init_1 : decode mX1_init.2.2.1 1 = .ok (.invokespecial 3, 3) := by decide +kernel
theorem dX1_init_4 : decode mX1_init.2.2.1 4 = .ok (.aload_n 0, 1) := by decide +kernel
theorem dX1_init_5 : decode mX1_init.2.2.1 5 = .ok (.new 9, 3) := by decide +kernel
theorem dX1_init_8 : decode mX1_init.2.2.1 8 = .ok (.dup, 1) := by decide +kernel
theorem dX1_init_9 : decode mX1_init.2.2.1 9 = .ok (.iconst 0, 1) := by decide +kernel
theorem dX1_init_10 : decode mX1_init.2.2.1 10 = .ok (.invokespecial 11, 3) := by decide +kernel
theorem dX1_init_13 : decode mX1_init.2.2.1 13 = .ok (.putfield 14, 3) := by decide +kernel
theorem dX1_init_16 : decode mX1_init.2.2.1 16 = .ok (.aload_n 0, 1) := by decide +kernel
theorem dX1_init_17 : decode mX1_init.2.2.1 17 = .ok (.sipush 6000, 3) := by decide +kernel
theorem dX1_init_20 : decode mX1_init.2.2.1 20 = .ok (.newarray .int, 2) := by decide +kernel
theorem dX1_init_22 : decode mX1_init.2.2.1 22 = .ok (.putfield 20, 3) := by decide +kernel
theorem dX1_init_25 : decode mX1_init.2.2.1 25 = .ok (.aload_n 0, 1) := by decide +kernel
theorem dX1_init_26 : decode mX1_init.2.2.1 26 = .ok (.iconst (-1), 1) := by decide +kernel
theorem dX1_init_27 : decode mX1_init.2.2.1 27 = .ok (.putfield 24, 3) := by decide +kernel
theorem dX1_init_30 : decode mX1_init.2.2.1 30 = .ok (.return_, 1) := by decide +kernel
theorem dX1_open_0 : decode mX1_open.2.2.1 0 = .ok (.aload_n 0, 1) := by decide +kernel
theorem dX1_open_1 : decode mX1_open.2.2.1 1 = .ok (.aload_n 1, 1) := by decide +kernel
theorem dX1_open_2 : decode mX1_open.2.2.1 2 = .ok (.putfield 14, 3) := by decide +kernel
theorem dX1_open_5 : decode mX1_open.2.2.1 5 = .ok (.aload_n 0, 1) := by decide +kernel
theorem dX1_open_6 : decode mX1_open.2.2.1 6 = .ok (.iconst (-1), 1) := by decide +kernel
theorem dX1_open_7 : decode mX1_open.2.2.1 7 = .ok (.putfield 24, 3) := by decide +kernel
theorem dX1_open_10 : decode mX1_open.2.2.1 10 = .ok (.aload_n 0, 1) := by decide +kernel
theorem dX1_open_11 : decode mX1_open.2.2.1 11 = .ok (.iconst 0, 1) := by decide +kernel
theorem dX1_open_12 : decode mX1_open.2.2.1 12 = .ok (.iconst 0, 1) := by decide +kernel
theorem dX1_open_13 : decode mX1_open.2.2.1 13 = .ok (.invokevirtual 28, 3) := by decide +kernel
theorem dX1_open_16 : decode mX1_open.2.2.1 16 = .ok (.ireturn, 1) := by decide +kernel
theorem dX1_skip_0 : decode mX1_skip.2.2.1 0 = .ok (.aload_n 0, 1) := by decide +kernel
theorem dX1_skip_1 : decode mX1_skip.2.2.1 1 = .ok (.getfield 14, 3) := by decide +kernel
theorem dX1_skip_4 : decode mX1_skip.2.2.1 4 = .ok (.iload_n 1, 1) := by decide +kernel
theorem dX1_skip_5 : decode mX1_skip.2.2.1 5 = .ok (.invokevirtual 32, 3) := by decide +kernel
theorem dX1_skip_8 : decode mX1_skip.2.2.1 8 = .ok (.istore_n 3, 1) := by decide +kernel
theorem dX1_skip_9 : decode mX1_skip.2.2.1 9 = .ok (.iload_n 3, 1) := by decide +kernel
theorem dX1_skip_10 : decode mX1_skip.2.2.1 10 = .ok (.invokestatic 36, 3) := by decide +kernel
theorem dX1_skip_13 : decode mX1_skip.2.2.1 13 = .ok (.ifCond .eq 9, 3) := by decide +kernel
theorem dX1_skip_16 : decode mX1_skip.2.2.1 16 = .ok (.aload_n 0, 1) := by decide +kernel
theorem dX1_skip_17 : decode mX1_skip.2.2.1 17 = .ok (.iload_n 1, 1) := by decide +kernel
theorem dX1_skip_18 : decode mX1_skip.2.2.1 18 = .ok (.invokevirtual 40, 3) := by decide +kernel
theorem dX1_skip_21 : decode mX1_skip.2.2.1 21 = .ok (.ireturn, 1) := by decide +kernel
theorem dX1_skip_22 : decode mX1_skip.2.2.1 22 = .ok (.iload_n 3, 1) := by decide +kernel
theorem dX1_skip_23 : decode mX1_skip.2.2.1 23 = .ok (.bipush 105, 2) := by decide +kernel
theorem dX1_skip_25 : decode mX1_skip.2.2.1 25 = .ok (.if_icmp .ne 9, 3) := by decide +kernel
theorem dX1_skip_28 : decode mX1_skip.2.2.1 28 = .ok (.aload_n 0, 1) := by decide +kernel
theorem dX1_skip_29 : decode mX1_skip.2.2.1 29 = .ok (.iload_n 1, 1) := by decide +kernel
theorem dX1_skip_30 : decode mX1_skip.2.2.1 30 = .ok (.invokevirtual 43, 3) := by decide +kernel
theorem dX1_skip_33 : decode mX1_skip.2.2.1 33 = .ok (.ireturn, 1) := by decide +kernel
theorem dX1_skip_34 : decode mX1_skip.2.2.1 34 = .ok (.iload_n 3, 1) := by decide +kernel
theorem dX1_skip_35 : decode mX1_skip.2.2.1 35 = .ok (.bipush 108, 2) := by decide +kernel
theorem dX1_skip_37 : decode mX1_skip.2.2.1 37 = .ok (.if_icmp .eq 9, 3) := by decide +kernel
theorem dX1_skip_40 : decode mX1_skip.2.2.1 40 = .ok (.iload_n 3, 1) := by decide +kernel
theorem dX1_skip_41 : decode mX1_skip.2.2.1 41 = .ok (.bipush 100, 2) := by decide +kernel
theorem dX1_skip_43 : decode mX1_skip.2.2.1 43 = .ok (.if_icmp .ne 9, 3) := by decide +kernel
theorem dX1_skip_46 : decode mX1_skip.2.2.1 46 = .ok (.iload_n 2, 1) := by decide +kernel
theorem dX1_skip_47 : decode mX1_skip.2.2.1 47 = .ok (.bipush 8, 2) := by decide +kernel
theorem dX1_skip_49 : decode mX1_skip.2.2.1 49 = .ok (.if_icmp .lt 9, 3) := by decide +kernel
theorem dX1_skip_52 : decode mX1_skip.2.2.1 52 = .ok (.aload_n 0, 1) := by decide +kernel
theorem dX1_skip_53 : decode mX1_skip.2.2.1 53 = .ok (.iload_n 1, 1) := by decide +kernel
theorem dX1_skip_54 : decode mX1_skip.2.2.1 54 = .ok (.invokevirtual 46, 3) := by decide +kernel
theorem dX1_skip_57 : decode mX1_skip.2.2.1 57 = .ok (.ireturn, 1) := by decide +kernel
theorem dX1_skip_58 : decode mX1_skip.2.2.1 58 = .ok (.aload_n 0, 1) := by decide +kernel
theorem dX1_skip_59 : decode mX1_skip.2.2.1 59 = .ok (.iload_n 1, 1) := by decide +kernel
theorem dX1_skip_60 : decode mX1_skip.2.2.1 60 = .ok (.aload_n 0, 1) := by decide +kernel
theorem dX1_skip_61 : decode mX1_skip.2.2.1 61 = .ok (.iload_n 1, 1) := by decide +kernel
theorem dX1_skip_62 : decode mX1_skip.2.2.1 62 = .ok (.iconst 1, 1) := by decide +kernel
theorem dX1_skip_63 : decode mX1_skip.2.2.1 63 = .ok (.iadd, 1) := by decide +kernel
theorem dX1_skip_64 : decode mX1_skip.2.2.1 64 = .ok (.iload_n 2, 1) := by decide +kernel
theorem dX1_skip_65 : decode mX1_skip.2.2.1 65 = .ok (.iconst 1, 1) := by decide +kernel
theorem dX1_skip_66 : decode mX1_skip.2.2.1 66 = .ok (.iadd, 1) := by decide +kernel
theorem dX1_skip_67 : decode mX1_skip.2.2.1 67 = .ok (.iload_n 3, 1) := by decide +kernel
theorem dX1_skip_68 : decode mX1_skip.2.2.1 68 = .ok (.bipush 100, 2) := by decide +kernel
theorem dX1_skip_70 : decode mX1_skip.2.2.1 70 = .ok (.if_icmp .ne 7, 3) := by decide +kernel
theorem dX1_skip_73 : decode mX1_skip.2.2.1 73 = .ok (.iconst 1, 1) := by decide +kernel
theorem dX1_skip_74 : decode mX1_skip.2.2.1 74 = .ok (.goto 4, 3) := by decide +kernel
theorem dX1_skip_77 : decode mX1_skip.2.2.1 77 = .ok (.iconst 0, 1) := by decide +kernel
theorem dX1_skip_78 : decode mX1_skip.2.2.1 78 = .ok (.invokevirtual 49, 3) := by decide +kernel
theorem dX1_skip_81 : decode mX1_skip.2.2.1 81 = .ok (.invokevirtual 53, 3) := by decide +kernel
theorem dX1_skip_84 : decode mX1_skip.2.2.1 84 = .ok (.ireturn, 1) := by decide +kernel
theorem dX1_skipInside_0 : decode mX1_skipInside.2.2.1 0 = .ok (.iload_n 1, 1) := by decide +kernel
theorem dX1_skipInside_1 : decode mX1_skipInside.2.2.1 1 = .ok (.istore 4, 2) := by decide +kernel
theorem dX1_skipInside_3 : decode mX1_skipInside.2.2.1 3 = .ok (.iconst (-1), 1) := by decide +kernel
theorem dX1_skipInside_4 : decode mX1_skipInside.2.2.1 4 = .ok (.istore 5, 2) := by decide +kernel
theorem dX1_skipInside_6 : decode mX1_skipInside.2.2.1 6 = .ok (.iconst 0, 1) := by decide +kernel
theorem dX1_skipInside_7 : decode mX1_skipInside.2.2.1 7 = .ok (.istore 6, 2) := by decide +kernel
theorem dX1_skipInside_9 : decode mX1_skipInside.2.2.1 9 = .ok (.iload 6, 2) := by decide +kernel
theorem dX1_skipInside_11 : decode mX1_skipInside.2.2.1 11 = .ok (.aload_n 0, 1) := by decide +kernel
theorem dX1_skipInside_12 : decode mX1_skipInside.2.2.1 12 = .ok (.getfield 14, 3) := by decide +kernel
theorem dX1_skipInside_15 : decode mX1_skipInside.2.2.1 15 = .ok (.invokevirtual 56, 3) := by decide +kernel
theorem dX1_skipInside_18 : decode mX1_skipInside.2.2.1 18 = .ok (.if_icmp .gt 97, 3) := by decide +kernel
theorem dX1_skipInside_21 : decode mX1_skipInside.2.2.1 21 = .ok (.aload_n 0, 1) := by decide +kernel
theorem dX1_skipInside_22 : decode mX1_skipInside.2.2.1 22 = .ok (.getfield 14, 3) := by decide +kernel
theorem dX1_skipInside_25 : decode mX1_skipInside.2.2.1 25 = .ok (.iload 4, 2) := by decide +kernel
theorem dX1_skipInside_27 : decode mX1_skipInside.2.2.1 27 = .ok (.invokevirtual 32, 3) := by decide +kernel
theorem dX1_skipInside_30 : decode mX1_skipInside.2.2.1 30 = .ok (.bipush 101, 2) := by decide +kernel
theorem dX1_skipInside_32 : decode mX1_skipInside.2.2.1 32 = .ok (.if_icmp .eq 83, 3) := by decide +kernel
theorem dX1_skipInside_35 : decode mX1_skipInside.2.2.1 35 = .ok (.iload_n 3, 1) := by decide +kernel
theorem dX1_skipInside_36 : decode mX1_skipInside.2.2.1 36 = .ok (.ifCond .eq 50, 3) := by decide +kernel
theorem dX1_skipInside_39 : decode mX1_skipInside.2.2.1 39 = .ok (.iload 4, 2) := by decide +kernel
theorem dX1_skipInside_41 : decode mX1_skipInside.2.2.1 41 = .ok (.istore 7, 2) := by decide +kernel
theorem dX1_skipInside_43 : decode mX1_skipInside.2.2.1 43 = .ok (.aload_n 0, 1) := by decide +kernel
theorem dX1_skipInside_44 : decode mX1_skipInside.2.2.1 44 = .ok (.iload 7, 2) := by decide +kernel
theorem dX1_skipInside_46 : decode mX1_skipInside.2.2.1 46 = .ok (.invokevirtual 40, 3) := by decide +kernel
theorem dX1_skipInside_49 : decode mX1_skipInside.2.2.1 49 = .ok (.istore 4, 2) := by decide +kernel
theorem dX1_skipInside_51 : decode mX1_skipInside.2.2.1 51 = .ok (.iload 4, 2) := by decide +kernel
theorem dX1_skipInside_53 : decode mX1_skipInside.2.2.1 53 = .ok (.iconst (-1), 1) := by decide +kernel
theorem dX1_skipInside_54 : decode mX1_skipInside.2.2.1 54 = .ok (.if_icmp .eq 28, 3) := by decide +kernel
theorem dX1_skipInside_57 : decode mX1_skipInside.2.2.1 57 = .ok (.iload 5, 2) := by decide +kernel
theorem dX1_skipInside_59 : decode mX1_skipInside.2.2.1 59 = .ok (.iconst (-1), 1) := by decide +kernel
theorem dX1_skipInside_60 : decode mX1_skipInside.2.2.1 60 = .ok (.if_icmp .eq 22, 3) := by decide +kernel
theorem dX1_skipInside_63 : decode mX1_skipInside.2.2.1 63 = .ok (.aload_n 0, 1) := by decide +kernel
theorem dX1_skipInside_64 : decode mX1_skipInside.2.2.1 64 = .ok (.iload 5, 2) := by decide +kernel
theorem dX1_skipInside_66 : decode mX1_skipInside.2.2.1 66 = .ok (.iload 7, 2) := by decide +kernel
theorem dX1_skipInside_68 : decode mX1_skipInside.2.2.1 68 = .ok (.invokevirtual 60, 3) := by decide +kernel
theorem dX1_skipInside_71 : decode mX1_skipInside.2.2.1 71 = .ok (.ifCond .ne 11, 3) := by decide +kernel
theorem dX1_skipInside_74 : decode mX1_skipInside.2.2.1 74 = .ok (.aload_n 0, 1) := by decide +kernel
theorem dX1_skipInside_75 : decode mX1_skipInside.2.2.1 75 = .ok (.iload 7, 2) := by decide +kernel
theorem dX1_skipInside_77 : decode mX1_skipInside.2.2.1 77 = .ok (.invokevirtual 46, 3) := by decide +kernel
theorem dX1_skipInside_80 : decode mX1_skipInside.2.2.1 80 = .ok (.istore 4, 2) := by decide +kernel
theorem dX1_skipInside_82 : decode mX1_skipInside.2.2.1 82 = .ok (.iload 7, 2) := by decide +kernel
theorem dX1_skipInside_84 : decode mX1_skipInside.2.2.1 84 = .ok (.istore 5, 2) := by decide +kernel
theorem dX1_skipInside_86 : decode mX1_skipInside.2.2.1 86 = .ok (.iload 4, 2) := by decide +kernel
theorem dX1_skipInside_88 : decode mX1_skipInside.2.2.1 88 = .ok (.iconst (-1), 1) := by decide +kernel
theorem dX1_skipInside_89 : decode mX1_skipInside.2.2.1 89 = .ok (.if_icmp .eq 12, 3) := by decide +kernel
theorem dX1_skipInside_92 : decode mX1_skipInside.2.2.1 92 = .ok (.aload_n 0, 1) := by decide +kernel
theorem dX1_skipInside_93 : decode mX1_skipInside.2.2.1 93 = .ok (.iload 4, 2) := by decide +kernel
theorem dX1_skipInside_95 : decode mX1_skipInside.2.2.1 95 = .ok (.iload_n 2, 1) := by decide +kernel
theorem dX1_skipInside_96 : decode mX1_skipInside.2.2.1 96 = .ok (.invokevirtual 28, 3) := by decide +kernel
theorem dX1_skipInside_99 : decode mX1_skipInside.2.2.1 99 = .ok (.istore 4, 2) := by decide +kernel
theorem dX1_skipInside_101 : decode mX1_skipInside.2.2.1 101 = .ok (.iload 4, 2) := by decide +kernel
theorem dX1_skipInside_103 : decode mX1_skipInside.2.2.1 103 = .ok (.iconst (-1), 1) := by decide +kernel
theorem dX1_skipInside_104 : decode mX1_skipInside.2.2.1 104 = .ok (.if_icmp .ne 5, 3) := by decide +kernel
theorem dX1_skipInside_107 : decode mX1_skipInside.2.2.1 107 = .ok (.iconst (-1), 1) := by decide +kernel
theorem dX1_skipInside_108 : decode mX1_skipInside.2.2.1 108 = .ok (.ireturn, 1) := by decide +kernel
theorem dX1_skipInside_109 : decode mX1_skipInside.2.2.1 109 = .ok (.iinc 6 1, 3) := by decide +kernel
theorem dX1_skipInside_112 : decode mX1_skipInside.2.2.1 112 = .ok (.goto (-103), 3) := by decide +kernel
theorem dX1_skipInside_115 : decode mX1_skipInside.2.2.1 115 = .ok (.iload 4, 2) := by decide +kernel
theorem dX1_skipInside_117 : decode mX1_skipInside.2.2.1 117 = .ok (.iconst 1, 1) := by decide +kernel
theorem dX1_skipInside_118 : decode mX1_skipInside.2.2.1 118 = .ok (.iadd, 1) := by decide +kernel
theorem dX1_skipInside_119 : decode mX1_skipInside.2.2.1 119 = .ok (.ireturn, 1) := by decide +kernel
theorem dX1_skipNumber_0 : decode mX1_skipNumber.2.2.1 0 = .ok (.aload_n 0, 1) := by decide +kernel
theorem dX1_skipNumber_1 : decode mX1_skipNumber.2.2.1 1 = .ok (.getfield 14, 3) := by decide +kernel
theorem dX1_skipNumber_4 : decode mX1_skipNumber.2.2.1 4 = .ok (.iload_n 1, 1) := by decide +kernel
theorem dX1_skipNumber_5 : decode mX1_skipNumber.2.2.1 5 = .ok (.iconst 1, 1) := by decide +kernel
theorem dX1_skipNumber_6 : decode mX1_skipNumber.2.2.1 6 = .ok (.iadd, 1) := by decide +kernel
theorem dX1_skipNumber_7 : decode mX1_skipNumber.2.2.1 7 = .ok (.invokevirtual 32, 3) := by decide +kernel
theorem dX1_skipNumber_10 : decode mX1_skipNumber.2.2.1 10 = .ok (.bipush 45, 2) := by decide +kernel
theorem dX1_skipNumber_12 : decode mX1_skipNumber.2.2.1 12 = .ok (.if_icmp .ne 7, 3) := by decide +kernel
theorem dX1_skipNumber_15 : decode mX1_skipNumber.2.2.1 15 = .ok (.iconst 1, 1) := by decide +kernel
theorem dX1_skipNumber_16 : decode mX1_skipNumber.2.2.1 16 = .ok (.goto 4, 3) := by decide +kernel
theorem dX1_skipNumber_19 : decode mX1_skipNumber.2.2.1 19 = .ok (.iconst 0, 1) := by decide +kernel
theorem dX1_skipNumber_20 : decode mX1_skipNumber.2.2.1 20 = .ok (.istore_n 2, 1) := by decide +kernel
theorem dX1_skipNumber_21 : decode mX1_skipNumber.2.2.1 21 = .ok (.iload_n 2, 1) := by decide +kernel
theorem dX1_skipNumber_22 : decode mX1_skipNumber.2.2.1 22 = .ok (.ifCond .eq 9, 3) := by decide +kernel
theorem dX1_skipNumber_25 : decode mX1_skipNumber.2.2.1 25 = .ok (.iload_n 1, 1) := by decide +kernel
theorem dX1_skipNumber_26 : decode mX1_skipNumber.2.2.1 26 = .ok (.iconst 2, 1) := by decide +kernel
theorem dX1_skipNumber_27 : decode mX1_skipNumber.2.2.1 27 = .ok (.iadd, 1) := by decide +kernel
theorem dX1_skipNumber_28 : decode mX1_skipNumber.2.2.1 28 = .ok (.goto 6, 3) := by decide +kernel
theorem dX1_skipNumber_31 : decode mX1_skipNumber.2.2.1 31 = .ok (.iload_n 1, 1) := by decide +kernel
theorem dX1_skipNumber_32 : decode mX1_skipNumber.2.2.1 32 = .ok (.iconst 1, 1) := by decide +kernel
theorem dX1_skipNumber_33 : decode mX1_skipNumber.2.2.1 33 = .ok (.iadd, 1) := by decide +kernel
theorem dX1_skipNumber_34 : decode mX1_skipNumber.2.2.1 34 = .ok (.istore_n 3, 1) := by decide +kernel
theorem dX1_skipNumber_35 : decode mX1_skipNumber.2.2.1 35 = .ok (.iload_n 2, 1) := by decide +kernel
theorem dX1_skipNumber_36 : decode mX1_skipNumber.2.2.1 36 = .ok (.ifCond .eq 22, 3) := by decide +kernel
theorem dX1_skipNumber_39 : decode mX1_skipNumber.2.2.1 39 = .ok (.aload_n 0, 1) := by decide +kernel
theorem dX1_skipNumber_40 : decode mX1_skipNumber.2.2.1 40 = .ok (.getfield 14, 3) := by decide +kernel
theorem dX1_skipNumber_43 : decode mX1_skipNumber.2.2.1 43 = .ok (.iload_n 3, 1) := by decide +kernel
theorem dX1_skipNumber_44 : decode mX1_skipNumber.2.2.1 44 = .ok (.invokevirtual 32, 3) := by decide +kernel
theorem dX1_skipNumber_47 : decode mX1_skipNumber.2.2.1 47 = .ok (.bipush 48, 2) := by decide +kernel
theorem dX1_skipNumber_49 : decode mX1_skipNumber.2.2.1 49 = .ok (.if_icmp .ne 9, 3) := by decide +kernel
theorem dX1_skipNumber_52 : decode mX1_skipNumber.2.2.1 52 = .ok (.aload_n 0, 1) := by decide +kernel
theorem dX1_skipNumber_53 : decode mX1_skipNumber.2.2.1 53 = .ok (.iload_n 3, 1) := by decide +kernel
theorem dX1_skipNumber_54 : decode mX1_skipNumber.2.2.1 54 = .ok (.invokevirtual 46, 3) := by decide +kernel
theorem dX1_skipNumber_57 : decode mX1_skipNumber.2.2.1 57 = .ok (.ireturn, 1) := by decide +kernel
theorem dX1_skipNumber_58 : decode mX1_skipNumber.2.2.1 58 = .ok (.aload_n 0, 1) := by decide +kernel
theorem dX1_skipNumber_59 : decode mX1_skipNumber.2.2.1 59 = .ok (.iload_n 3, 1) := by decide +kernel
theorem dX1_skipNumber_60 : decode mX1_skipNumber.2.2.1 60 = .ok (.bipush 9, 2) := by decide +kernel
theorem dX1_skipNumber_62 : decode mX1_skipNumber.2.2.1 62 = .ok (.invokevirtual 64, 3) := by decide +kernel
theorem dX1_skipNumber_65 : decode mX1_skipNumber.2.2.1 65 = .ok (.istore 4, 2) := by decide +kernel
theorem dX1_skipNumber_67 : decode mX1_skipNumber.2.2.1 67 = .ok (.iload 4, 2) := by decide +kernel
theorem dX1_skipNumber_69 : decode mX1_skipNumber.2.2.1 69 = .ok (.iconst (-1), 1) := by decide +kernel
theorem dX1_skipNumber_70 : decode mX1_skipNumber.2.2.1 70 = .ok (.if_icmp .eq 24, 3) := by decide +kernel
theorem dX1_skipNumber_73 : decode mX1_skipNumber.2.2.1 73 = .ok (.aload_n 0, 1) := by decide +kernel
theorem dX1_skipNumber_74 : decode mX1_skipNumber.2.2.1 74 = .ok (.getfield 14, 3) := by decide +kernel
theorem dX1_skipNumber_77 : decode mX1_skipNumber.2.2.1 77 = .ok (.iload 4, 2) := by decide +kernel
theorem dX1_skipNumber_79 : decode mX1_skipNumber.2.2.1 79 = .ok (.invokevirtual 32, 3) := by decide +kernel
theorem dX1_skipNumber_82 : decode mX1_skipNumber.2.2.1 82 = .ok (.bipush 101, 2) := by decide +kernel
theorem dX1_skipNumber_84 : decode mX1_skipNumber.2.2.1 84 = .ok (.if_icmp .eq 10, 3) := by decide +kernel
theorem dX1_skipNumber_87 : decode mX1_skipNumber.2.2.1 87 = .ok (.aload_n 0, 1) := by decide +kernel
theorem dX1_skipNumber_88 : decode mX1_skipNumber.2.2.1 88 = .ok (.iload 4, 2) := by decide +kernel
theorem dX1_skipNumber_90 : decode mX1_skipNumber.2.2.1 90 = .ok (.invokevirtual 46, 3) := by decide +kernel
theorem dX1_skipNumber_93 : decode mX1_skipNumber.2.2.1 93 = .ok (.ireturn, 1) := by decide +kernel
theorem dX1_skipNumber_94 : decode mX1_skipNumber.2.2.1 94 = .ok (.iload 4, 2) := by decide +kernel
theorem dX1_skipNumber_96 : decode mX1_skipNumber.2.2.1 96 = .ok (.iconst (-1), 1) := by decide +kernel
theorem dX1_skipNumber_97 : decode mX1_skipNumber.2.2.1 97 = .ok (.if_icmp .ne 7, 3) := by decide +kernel
theorem dX1_skipNumber_100 : decode mX1_skipNumber.2.2.1 100 = .ok (.iconst (-1), 1) := by decide +kernel
theorem dX1_skipNumber_101 : decode mX1_skipNumber.2.2.1 101 = .ok (.goto 12, 3) := by decide +kernel
theorem dX1_skipNumber_104 : decode mX1_skipNumber.2.2.1 104 = .ok (.aload_n 0, 1) := by decide +kernel
theorem dX1_skipNumber_105 : decode mX1_skipNumber.2.2.1 105 = .ok (.iload_n 1, 1) := by decide +kernel
theorem dX1_skipNumber_106 : decode mX1_skipNumber.2.2.1 106 = .ok (.iload 4, 2) := by decide +kernel
theorem dX1_skipNumber_108 : decode mX1_skipNumber.2.2.1 108 = .ok (.iconst 1, 1) := by decide +kernel
theorem dX1_skipNumber_109 : decode mX1_skipNumber.2.2.1 109 = .ok (.iadd, 1) := by decide +kernel
theorem dX1_skipNumber_110 : decode mX1_skipNumber.2.2.1 110 = .ok (.invokevirtual 53, 3) := by decide +kernel
theorem dX1_skipNumber_113 : decode mX1_skipNumber.2.2.1 113 = .ok (.ireturn, 1) := by decide +kernel
theorem dX1_skipString_0 : decode mX1_skipString.2.2.1 0 = .ok (.aload_n 0, 1) := by decide +kernel
theorem dX1_skipString_1 : decode mX1_skipString.2.2.1 1 = .ok (.iload_n 1, 1) := by decide +kernel
theorem dX1_skipString_2 : decode mX1_skipString.2.2.1 2 = .ok (.iconst 4, 1) := by decide +kernel
theorem dX1_skipString_3 : decode mX1_skipString.2.2.1 3 = .ok (.invokevirtual 64, 3) := by decide +kernel
theorem dX1_skipString_6 : decode mX1_skipString.2.2.1 6 = .ok (.istore_n 2, 1) := by decide +kernel
theorem dX1_skipString_7 : decode mX1_skipString.2.2.1 7 = .ok (.iload_n 2, 1) := by decide +kernel
theorem dX1_skipString_8 : decode mX1_skipString.2.2.1 8 = .ok (.iconst (-1), 1) := by decide +kernel
theorem dX1_skipString_9 : decode mX1_skipString.2.2.1 9 = .ok (.if_icmp .ne 5, 3) := by decide +kernel
theorem dX1_skipString_12 : decode mX1_skipString.2.2.1 12 = .ok (.iconst (-1), 1) := by decide +kernel
theorem dX1_skipString_13 : decode mX1_skipString.2.2.1 13 = .ok (.ireturn, 1) := by decide +kernel
theorem dX1_skipString_14 : decode mX1_skipString.2.2.1 14 = .ok (.aload_n 0, 1) := by decide +kernel
theorem dX1_skipString_15 : decode mX1_skipString.2.2.1 15 = .ok (.getfield 14, 3) := by decide +kernel
theorem dX1_skipString_18 : decode mX1_skipString.2.2.1 18 = .ok (.iload_n 2, 1) := by decide +kernel
theorem dX1_skipString_19 : decode mX1_skipString.2.2.1 19 = .ok (.invokevirtual 32, 3) := by decide +kernel
theorem dX1_skipString_22 : decode mX1_skipString.2.2.1 22 = .ok (.bipush 58, 2) := by decide +kernel
theorem dX1_skipString_24 : decode mX1_skipString.2.2.1 24 = .ok (.if_icmp .eq 9, 3) := by decide +kernel
theorem dX1_skipString_27 : decode mX1_skipString.2.2.1 27 = .ok (.aload_n 0, 1) := by decide +kernel
theorem dX1_skipString_28 : decode mX1_skipString.2.2.1 28 = .ok (.iload_n 2, 1) := by decide +kernel
theorem dX1_skipString_29 : decode mX1_skipString.2.2.1 29 = .ok (.invokevirtual 46, 3) := by decide +kernel
theorem dX1_skipString_32 : decode mX1_skipString.2.2.1 32 = .ok (.ireturn, 1) := by decide +kernel
theorem dX1_skipString_33 : decode mX1_skipString.2.2.1 33 = .ok (.aload_n 0, 1) := by decide +kernel
theorem dX1_skipString_34 : decode mX1_skipString.2.2.1 34 = .ok (.iload_n 1, 1) := by decide +kernel
theorem dX1_skipString_35 : decode mX1_skipString.2.2.1 35 = .ok (.invokevirtual 67, 3) := by decide +kernel
theorem dX1_skipString_38 : decode mX1_skipString.2.2.1 38 = .ok (.istore_n 3, 1) := by decide +kernel
theorem dX1_skipString_39 : decode mX1_skipString.2.2.1 39 = .ok (.iload_n 3, 1) := by decide +kernel
theorem dX1_skipString_40 : decode mX1_skipString.2.2.1 40 = .ok (.aload_n 0, 1) := by decide +kernel
theorem dX1_skipString_41 : decode mX1_skipString.2.2.1 41 = .ok (.getfield 14, 3) := by decide +kernel
theorem dX1_skipString_44 : decode mX1_skipString.2.2.1 44 = .ok (.invokevirtual 56, 3) := by decide +kernel
theorem dX1_skipString_47 : decode mX1_skipString.2.2.1 47 = .ok (.iload_n 2, 1) := by decide +kernel
theorem dX1_skipString_48 : decode mX1_skipString.2.2.1 48 = .ok (.isub, 1) := by decide +kernel
theorem dX1_skipString_49 : decode mX1_skipString.2.2.1 49 = .ok (.iconst 1, 1) := by decide +kernel
theorem dX1_skipString_50 : decode mX1_skipString.2.2.1 50 = .ok (.isub, 1) := by decide +kernel
theorem dX1_skipString_51 : decode mX1_skipString.2.2.1 51 = .ok (.if_icmp .le 9, 3) := by decide +kernel
theorem dX1_skipString_54 : decode mX1_skipString.2.2.1 54 = .ok (.aload_n 0, 1) := by decide +kernel
theorem dX1_skipString_55 : decode mX1_skipString.2.2.1 55 = .ok (.iload_n 1, 1) := by decide +kernel
theorem dX1_skipString_56 : decode mX1_skipString.2.2.1 56 = .ok (.invokevirtual 46, 3) := by decide +kernel
theorem dX1_skipString_59 : decode mX1_skipString.2.2.1 59 = .ok (.ireturn, 1) := by decide +kernel
theorem dX1_skipString_60 : decode mX1_skipString.2.2.1 60 = .ok (.aload_n 0, 1) := by decide +kernel
theorem dX1_skipString_61 : decode mX1_skipString.2.2.1 61 = .ok (.iload_n 1, 1) := by decide +kernel
theorem dX1_skipString_62 : decode mX1_skipString.2.2.1 62 = .ok (.iload_n 2, 1) := by decide +kernel
theorem dX1_skipString_63 : decode mX1_skipString.2.2.1 63 = .ok (.iconst 1, 1) := by decide +kernel
theorem dX1_skipString_64 : decode mX1_skipString.2.2.1 64 = .ok (.iadd, 1) := by decide +kernel
theorem dX1_skipString_65 : decode mX1_skipString.2.2.1 65 = .ok (.iload_n 3, 1) := by decide +kernel
theorem dX1_skipString_66 : decode mX1_skipString.2.2.1 66 = .ok (.iadd, 1) := by decide +kernel
theorem dX1_skipString_67 : decode mX1_skipString.2.2.1 67 = .ok (.invokevirtual 53, 3) := by decide +kernel
theorem dX1_skipString_70 : decode mX1_skipString.2.2.1 70 = .ok (.ireturn, 1) := by decide +kernel
theorem dX1_skipDigits_0 : decode mX1_skipDigits.2.2.1 0 = .ok (.aload_n 0, 1) := by decide +kernel
theorem dX1_skipDigits_1 : decode mX1_skipDigits.2.2.1 1 = .ok (.getfield 14, 3) := by decide +kernel
theorem dX1_skipDigits_4 : decode mX1_skipDigits.2.2.1 4 = .ok (.iload_n 1, 1) := by decide +kernel
theorem dX1_skipDigits_5 : decode mX1_skipDigits.2.2.1 5 = .ok (.invokevirtual 32, 3) := by decide +kernel
theorem dX1_skipDigits_8 : decode mX1_skipDigits.2.2.1 8 = .ok (.invokestatic 36, 3) := by decide +kernel
theorem dX1_skipDigits_11 : decode mX1_skipDigits.2.2.1 11 = .ok (.ifCond .ne 9, 3) := by decide +kernel
theorem dX1_skipDigits_14 : decode mX1_skipDigits.2.2.1 14 = .ok (.aload_n 0, 1) := by decide +kernel
theorem dX1_skipDigits_15 : decode mX1_skipDigits.2.2.1 15 = .ok (.iload_n 1, 1) := by decide +kernel
theorem dX1_skipDigits_16 : decode mX1_skipDigits.2.2.1 16 = .ok (.invokevirtual 46, 3) := by decide +kernel
theorem dX1_skipDigits_19 : decode mX1_skipDigits.2.2.1 19 = .ok (.ireturn, 1) := by decide +kernel
theorem dX1_skipDigits_20 : decode mX1_skipDigits.2.2.1 20 = .ok (.aload_n 0, 1) := by decide +kernel
theorem dX1_skipDigits_21 : decode mX1_skipDigits.2.2.1 21 = .ok (.getfield 14, 3) := by decide +kernel
theorem dX1_skipDigits_24 : decode mX1_skipDigits.2.2.1 24 = .ok (.iload_n 1, 1) := by decide +kernel
theorem dX1_skipDigits_25 : decode mX1_skipDigits.2.2.1 25 = .ok (.invokevirtual 32, 3) := by decide +kernel
theorem dX1_skipDigits_28 : decode mX1_skipDigits.2.2.1 28 = .ok (.bipush 48, 2) := by decide +kernel
theorem dX1_skipDigits_30 : decode mX1_skipDigits.2.2.1 30 = .ok (.if_icmp .ne 9, 3) := by decide +kernel
theorem dX1_skipDigits_33 : decode mX1_skipDigits.2.2.1 33 = .ok (.iload_n 1, 1) := by decide +kernel
theorem dX1_skipDigits_34 : decode mX1_skipDigits.2.2.1 34 = .ok (.iconst 1, 1) := by decide +kernel
theorem dX1_skipDigits_35 : decode mX1_skipDigits.2.2.1 35 = .ok (.iadd, 1) := by decide +kernel
theorem dX1_skipDigits_36 : decode mX1_skipDigits.2.2.1 36 = .ok (.goto 6, 3) := by decide +kernel
theorem dX1_skipDigits_39 : decode mX1_skipDigits.2.2.1 39 = .ok (.iload_n 1, 1) := by decide +kernel
theorem dX1_skipDigits_40 : decode mX1_skipDigits.2.2.1 40 = .ok (.iload_n 2, 1) := by decide +kernel
theorem dX1_skipDigits_41 : decode mX1_skipDigits.2.2.1 41 = .ok (.iadd, 1) := by decide +kernel
theorem dX1_skipDigits_42 : decode mX1_skipDigits.2.2.1 42 = .ok (.istore_n 3, 1) := by decide +kernel
theorem dX1_skipDigits_43 : decode mX1_skipDigits.2.2.1 43 = .ok (.iload_n 1, 1) := by decide +kernel
theorem dX1_skipDigits_44 : decode mX1_skipDigits.2.2.1 44 = .ok (.iconst 1, 1) := by decide +kernel
theorem dX1_skipDigits_45 : decode mX1_skipDigits.2.2.1 45 = .ok (.iadd, 1) := by decide +kernel
theorem dX1_skipDigits_46 : decode mX1_skipDigits.2.2.1 46 = .ok (.istore 4, 2) := by decide +kernel
theorem dX1_skipDigits_48 : decode mX1_skipDigits.2.2.1 48 = .ok (.iload 4, 2) := by decide +kernel
theorem dX1_skipDigits_50 : decode mX1_skipDigits.2.2.1 50 = .ok (.iload_n 3, 1) := by decide +kernel
theorem dX1_skipDigits_51 : decode mX1_skipDigits.2.2.1 51 = .ok (.if_icmp .ge 24, 3) := by decide +kernel
theorem dX1_skipDigits_54 : decode mX1_skipDigits.2.2.1 54 = .ok (.aload_n 0, 1) := by decide +kernel
theorem dX1_skipDigits_55 : decode mX1_skipDigits.2.2.1 55 = .ok (.getfield 14, 3) := by decide +kernel
theorem dX1_skipDigits_58 : decode mX1_skipDigits.2.2.1 58 = .ok (.iload 4, 2) := by decide +kernel
theorem dX1_skipDigits_60 : decode mX1_skipDigits.2.2.1 60 = .ok (.invokevirtual 32, 3) := by decide +kernel
theorem dX1_skipDigits_63 : decode mX1_skipDigits.2.2.1 63 = .ok (.invokestatic 36, 3) := by decide +kernel
theorem dX1_skipDigits_66 : decode mX1_skipDigits.2.2.1 66 = .ok (.ifCond .eq 9, 3) := by decide +kernel
theorem dX1_skipDigits_69 : decode mX1_skipDigits.2.2.1 69 = .ok (.iinc 4 1, 3) := by decide +kernel
theorem dX1_skipDigits_72 : decode mX1_skipDigits.2.2.1 72 = .ok (.goto (-24), 3) := by decide +kernel
theorem dX1_skipDigits_75 : decode mX1_skipDigits.2.2.1 75 = .ok (.iload 4, 2) := by decide +kernel
theorem dX1_skipDigits_77 : decode mX1_skipDigits.2.2.1 77 = .ok (.ireturn, 1) := by decide +kernel
theorem dX1_faultAt_0 : decode mX1_faultAt.2.2.1 0 = .ok (.aload_n 0, 1) := by decide +kernel
theorem dX1_faultAt_1 : decode mX1_faultAt.2.2.1 1 = .ok (.iload_n 1, 1) := by decide +kernel
theorem dX1_faultAt_2 : decode mX1_faultAt.2.2.1 2 = .ok (.putfield 24, 3) := by decide +kernel
theorem dX1_faultAt_5 : decode mX1_faultAt.2.2.1 5 = .ok (.iconst (-1), 1) := by decide +kernel
theorem dX1_faultAt_6 : decode mX1_faultAt.2.2.1 6 = .ok (.ireturn, 1) := by decide +kernel
theorem dX1_note_0 : decode mX1_note.2.2.1 0 = .ok (.iload_n 1, 1) := by decide +kernel
theorem dX1_note_1 : decode mX1_note.2.2.1 1 = .ok (.ifCond .lt 19, 3) := by decide +kernel
theorem dX1_note_4 : decode mX1_note.2.2.1 4 = .ok (.iload_n 1, 1) := by decide +kernel
theorem dX1_note_5 : decode mX1_note.2.2.1 5 = .ok (.aload_n 0, 1) := by decide +kernel
theorem dX1_note_6 : decode mX1_note.2.2.1 6 = .ok (.getfield 20, 3) := by decide +kernel
theorem dX1_note_9 : decode mX1_note.2.2.1 9 = .ok (.arraylength, 1) := by decide +kernel
theorem dX1_note_10 : decode mX1_note.2.2.1 10 = .ok (.if_icmp .ge 10, 3) := by decide +kernel
theorem dX1_note_13 : decode mX1_note.2.2.1 13 = .ok (.aload_n 0, 1) := by decide +kernel
theorem dX1_note_14 : decode mX1_note.2.2.1 14 = .ok (.getfield 20, 3) := by decide +kernel
theorem dX1_note_17 : decode mX1_note.2.2.1 17 = .ok (.iload_n 1, 1) := by decide +kernel
theorem dX1_note_18 : decode mX1_note.2.2.1 18 = .ok (.iload_n 2, 1) := by decide +kernel
theorem dX1_note_19 : decode mX1_note.2.2.1 19 = .ok (.iastore, 1) := by decide +kernel
theorem dX1_note_20 : decode mX1_note.2.2.1 20 = .ok (.iload_n 2, 1) := by decide +kernel
theorem dX1_note_21 : decode mX1_note.2.2.1 21 = .ok (.ireturn, 1) := by decide +kernel
theorem dX1_rises_0 : decode mX1_rises.2.2.1 0 = .ok (.aload_n 0, 1) := by decide +kernel
theorem dX1_rises_1 : decode mX1_rises.2.2.1 1 = .ok (.iload_n 1, 1) := by decide +kernel
theorem dX1_rises_2 : decode mX1_rises.2.2.1 2 = .ok (.invokevirtual 67, 3) := by decide +kernel
theorem dX1_rises_5 : decode mX1_rises.2.2.1 5 = .ok (.istore_n 3, 1) := by decide +kernel
theorem dX1_rises_6 : decode mX1_rises.2.2.1 6 = .ok (.aload_n 0, 1) := by decide +kernel
theorem dX1_rises_7 : decode mX1_rises.2.2.1 7 = .ok (.iload_n 2, 1) := by decide +kernel
theorem dX1_rises_8 : decode mX1_rises.2.2.1 8 = .ok (.invokevirtual 67, 3) := by decide +kernel
theorem dX1_rises_11 : decode mX1_rises.2.2.1 11 = .ok (.istore 4, 2) := by decide +kernel
theorem dX1_rises_13 : decode mX1_rises.2.2.1 13 = .ok (.aload_n 0, 1) := by decide +kernel
theorem dX1_rises_14 : decode mX1_rises.2.2.1 14 = .ok (.iload_n 1, 1) := by decide +kernel
theorem dX1_rises_15 : decode mX1_rises.2.2.1 15 = .ok (.invokevirtual 70, 3) := by decide +kernel
theorem dX1_rises_18 : decode mX1_rises.2.2.1 18 = .ok (.iload_n 3, 1) := by decide +kernel
theorem dX1_rises_19 : decode mX1_rises.2.2.1 19 = .ok (.isub, 1) := by decide +kernel
theorem dX1_rises_20 : decode mX1_rises.2.2.1 20 = .ok (.istore 5, 2) := by decide +kernel
theorem dX1_rises_22 : decode mX1_rises.2.2.1 22 = .ok (.aload_n 0, 1) := by decide +kernel
theorem dX1_rises_23 : decode mX1_rises.2.2.1 23 = .ok (.iload_n 2, 1) := by decide +kernel
theorem dX1_rises_24 : decode mX1_rises.2.2.1 24 = .ok (.invokevirtual 70, 3) := by decide +kernel
theorem dX1_rises_27 : decode mX1_rises.2.2.1 27 = .ok (.iload 4, 2) := by decide +kernel
theorem dX1_rises_29 : decode mX1_rises.2.2.1 29 = .ok (.isub, 1) := by decide +kernel
theorem dX1_rises_30 : decode mX1_rises.2.2.1 30 = .ok (.istore 6, 2) := by decide +kernel
theorem dX1_rises_32 : decode mX1_rises.2.2.1 32 = .ok (.iconst 0, 1) := by decide +kernel
theorem dX1_rises_33 : decode mX1_rises.2.2.1 33 = .ok (.istore 7, 2) := by decide +kernel
theorem dX1_rises_35 : decode mX1_rises.2.2.1 35 = .ok (.iload 7, 2) := by decide +kernel
theorem dX1_rises_37 : decode mX1_rises.2.2.1 37 = .ok (.iload_n 3, 1) := by decide +kernel
theorem dX1_rises_38 : decode mX1_rises.2.2.1 38 = .ok (.if_icmp .ge 64, 3) := by decide +kernel
theorem dX1_rises_41 : decode mX1_rises.2.2.1 41 = .ok (.iload 7, 2) := by decide +kernel
theorem dX1_rises_43 : decode mX1_rises.2.2.1 43 = .ok (.iload 4, 2) := by decide +kernel
theorem dX1_rises_45 : decode mX1_rises.2.2.1 45 = .ok (.if_icmp .ge 57, 3) := by decide +kernel
theorem dX1_rises_48 : decode mX1_rises.2.2.1 48 = .ok (.aload_n 0, 1) := by decide +kernel
theorem dX1_rises_49 : decode mX1_rises.2.2.1 49 = .ok (.getfield 14, 3) := by decide +kernel
theorem dX1_rises_52 : decode mX1_rises.2.2.1 52 = .ok (.iload 5, 2) := by decide +kernel
theorem dX1_rises_54 : decode mX1_rises.2.2.1 54 = .ok (.iload 7, 2) := by decide +kernel
theorem dX1_rises_56 : decode mX1_rises.2.2.1 56 = .ok (.iadd, 1) := by decide +kernel
theorem dX1_rises_57 : decode mX1_rises.2.2.1 57 = .ok (.invokevirtual 32, 3) := by decide +kernel
theorem dX1_rises_60 : decode mX1_rises.2.2.1 60 = .ok (.istore 8, 2) := by decide +kernel
theorem dX1_rises_62 : decode mX1_rises.2.2.1 62 = .ok (.aload_n 0, 1) := by decide +kernel
theorem dX1_rises_63 : decode mX1_rises.2.2.1 63 = .ok (.getfield 14, 3) := by decide +kernel
theorem dX1_rises_66 : decode mX1_rises.2.2.1 66 = .ok (.iload 6, 2) := by decide +kernel
theorem dX1_rises_68 : decode mX1_rises.2.2.1 68 = .ok (.iload 7, 2) := by decide +kernel
theorem dX1_rises_70 : decode mX1_rises.2.2.1 70 = .ok (.iadd, 1) := by decide +kernel
theorem dX1_rises_71 : decode mX1_rises.2.2.1 71 = .ok (.invokevirtual 32, 3) := by decide +kernel
theorem dX1_rises_74 : decode mX1_rises.2.2.1 74 = .ok (.istore 9, 2) := by decide +kernel
theorem dX1_rises_76 : decode mX1_rises.2.2.1 76 = .ok (.iload 8, 2) := by decide +kernel
theorem dX1_rises_78 : decode mX1_rises.2.2.1 78 = .ok (.iload 9, 2) := by decide +kernel
theorem dX1_rises_80 : decode mX1_rises.2.2.1 80 = .ok (.if_icmp .eq 16, 3) := by decide +kernel
theorem dX1_rises_83 : decode mX1_rises.2.2.1 83 = .ok (.iload 8, 2) := by decide +kernel
theorem dX1_rises_85 : decode mX1_rises.2.2.1 85 = .ok (.iload 9, 2) := by decide +kernel
theorem dX1_rises_87 : decode mX1_rises.2.2.1 87 = .ok (.if_icmp .ge 7, 3) := by decide +kernel
theorem dX1_rises_90 : decode mX1_rises.2.2.1 90 = .ok (.iconst 1, 1) := by decide +kernel
theorem dX1_rises_91 : decode mX1_rises.2.2.1 91 = .ok (.goto 4, 3) := by decide +kernel
theorem dX1_rises_94 : decode mX1_rises.2.2.1 94 = .ok (.iconst 0, 1) := by decide +kernel
theorem dX1_rises_95 : decode mX1_rises.2.2.1 95 = .ok (.ireturn, 1) := by decide +kernel
theorem dX1_rises_96 : decode mX1_rises.2.2.1 96 = .ok (.iinc 7 1, 3) := by decide +kernel
theorem dX1_rises_99 : decode mX1_rises.2.2.1 99 = .ok (.goto (-64), 3) := by decide +kernel
theorem dX1_rises_102 : decode mX1_rises.2.2.1 102 = .ok (.iload_n 3, 1) := by decide +kernel
theorem dX1_rises_103 : decode mX1_rises.2.2.1 103 = .ok (.iload 4, 2) := by decide +kernel
theorem dX1_rises_105 : decode mX1_rises.2.2.1 105 = .ok (.if_icmp .ge 7, 3) := by decide +kernel
theorem dX1_rises_108 : decode mX1_rises.2.2.1 108 = .ok (.iconst 1, 1) := by decide +kernel
theorem dX1_rises_109 : decode mX1_rises.2.2.1 109 = .ok (.goto 4, 3) := by decide +kernel
theorem dX1_rises_112 : decode mX1_rises.2.2.1 112 = .ok (.iconst 0, 1) := by decide +kernel
theorem dX1_rises_113 : decode mX1_rises.2.2.1 113 = .ok (.ireturn, 1) := by decide +kernel
theorem dX1_endOf_0 : decode mX1_endOf.2.2.1 0 = .ok (.iload_n 1, 1) := by decide +kernel
theorem dX1_endOf_1 : decode mX1_endOf.2.2.1 1 = .ok (.ifCond .lt 12, 3) := by decide +kernel
theorem dX1_endOf_4 : decode mX1_endOf.2.2.1 4 = .ok (.iload_n 1, 1) := by decide +kernel
theorem dX1_endOf_5 : decode mX1_endOf.2.2.1 5 = .ok (.aload_n 0, 1) := by decide +kernel
theorem dX1_endOf_6 : decode mX1_endOf.2.2.1 6 = .ok (.getfield 20, 3) := by decide +kernel
theorem dX1_endOf_9 : decode mX1_endOf.2.2.1 9 = .ok (.arraylength, 1) := by decide +kernel
theorem dX1_endOf_10 : decode mX1_endOf.2.2.1 10 = .ok (.if_icmp .lt 7, 3) := by decide +kernel
theorem dX1_endOf_13 : decode mX1_endOf.2.2.1 13 = .ok (.iconst (-1), 1) := by decide +kernel
theorem dX1_endOf_14 : decode mX1_endOf.2.2.1 14 = .ok (.goto 9, 3) := by decide +kernel
theorem dX1_endOf_17 : decode mX1_endOf.2.2.1 17 = .ok (.aload_n 0, 1) := by decide +kernel
theorem dX1_endOf_18 : decode mX1_endOf.2.2.1 18 = .ok (.getfield 20, 3) := by decide +kernel
theorem dX1_endOf_21 : decode mX1_endOf.2.2.1 21 = .ok (.iload_n 1, 1) := by decide +kernel
theorem dX1_endOf_22 : decode mX1_endOf.2.2.1 22 = .ok (.iaload, 1) := by decide +kernel
theorem dX1_endOf_23 : decode mX1_endOf.2.2.1 23 = .ok (.ireturn, 1) := by decide +kernel
theorem dX1_isKind_0 : decode mX1_isKind.2.2.1 0 = .ok (.aload_n 0, 1) := by decide +kernel
theorem dX1_isKind_1 : decode mX1_isKind.2.2.1 1 = .ok (.getfield 14, 3) := by decide +kernel
theorem dX1_isKind_4 : decode mX1_isKind.2.2.1 4 = .ok (.iload_n 1, 1) := by decide +kernel
theorem dX1_isKind_5 : decode mX1_isKind.2.2.1 5 = .ok (.invokevirtual 32, 3) := by decide +kernel
theorem dX1_isKind_8 : decode mX1_isKind.2.2.1 8 = .ok (.iload_n 2, 1) := by decide +kernel
theorem dX1_isKind_9 : decode mX1_isKind.2.2.1 9 = .ok (.if_icmp .ne 7, 3) := by decide +kernel
theorem dX1_isKind_12 : decode mX1_isKind.2.2.1 12 = .ok (.iconst 1, 1) := by decide +kernel
theorem dX1_isKind_13 : decode mX1_isKind.2.2.1 13 = .ok (.goto 4, 3) := by decide +kernel
theorem dX1_isKind_16 : decode mX1_isKind.2.2.1 16 = .ok (.iconst 0, 1) := by decide +kernel
theorem dX1_isKind_17 : decode mX1_isKind.2.2.1 17 = .ok (.ireturn, 1) := by decide +kernel
theorem dX1_textLength_0 : decode mX1_textLength.2.2.1 0 = .ok (.aload_n 0, 1) := by decide +kernel
theorem dX1_textLength_1 : decode mX1_textLength.2.2.1 1 = .ok (.getfield 14, 3) := by decide +kernel
theorem dX1_textLength_4 : decode mX1_textLength.2.2.1 4 = .ok (.iload_n 1, 1) := by decide +kernel
theorem dX1_textLength_5 : decode mX1_textLength.2.2.1 5 = .ok (.invokevirtual 32, 3) := by decide +kernel
theorem dX1_textLength_8 : decode mX1_textLength.2.2.1 8 = .ok (.invokestatic 36, 3) := by decide +kernel
theorem dX1_textLength_11 : decode mX1_textLength.2.2.1 11 = .ok (.ifCond .eq 11, 3) := by decide +kernel
theorem dX1_textLength_14 : decode mX1_textLength.2.2.1 14 = .ok (.aload_n 0, 1) := by decide +kernel
theorem dX1_textLength_15 : decode mX1_textLength.2.2.1 15 = .ok (.iload_n 1, 1) := by decide +kernel
theorem dX1_textLength_16 : decode mX1_textLength.2.2.1 16 = .ok (.invokevirtual 67, 3) := by decide +kernel
theorem dX1_textLength_19 : decode mX1_textLength.2.2.1 19 = .ok (.goto 4, 3) := by decide +kernel
theorem dX1_textLength_22 : decode mX1_textLength.2.2.1 22 = .ok (.iconst (-1), 1) := by decide +kernel
theorem dX1_textLength_23 : decode mX1_textLength.2.2.1 23 = .ok (.ireturn, 1) := by decide +kernel
theorem dX1_numberAt_0 : decode mX1_numberAt.2.2.1 0 = .ok (.aload_n 0, 1) := by decide +kernel
theorem dX1_numberAt_1 : decode mX1_numberAt.2.2.1 1 = .ok (.getfield 14, 3) := by decide +kernel
theorem dX1_numberAt_4 : decode mX1_numberAt.2.2.1 4 = .ok (.iload_n 1, 1) := by decide +kernel
theorem dX1_numberAt_5 : decode mX1_numberAt.2.2.1 5 = .ok (.invokevirtual 32, 3) := by decide +kernel
theorem dX1_numberAt_8 : decode mX1_numberAt.2.2.1 8 = .ok (.bipush 105, 2) := by decide +kernel
theorem dX1_numberAt_10 : decode mX1_numberAt.2.2.1 10 = .ok (.if_icmp .eq 5, 3) := by decide +kernel
theorem dX1_numberAt_13 : decode mX1_numberAt.2.2.1 13 = .ok (.iconst (-1), 1) := by decide +kernel
theorem dX1_numberAt_14 : decode mX1_numberAt.2.2.1 14 = .ok (.ireturn, 1) := by decide +kernel
theorem dX1_numberAt_15 : decode mX1_numberAt.2.2.1 15 = .ok (.aload_n 0, 1) := by decide +kernel
theorem dX1_numberAt_16 : decode mX1_numberAt.2.2.1 16 = .ok (.getfield 14, 3) := by decide +kernel
theorem dX1_numberAt_19 : decode mX1_numberAt.2.2.1 19 = .ok (.iload_n 1, 1) := by decide +kernel
theorem dX1_numberAt_20 : decode mX1_numberAt.2.2.1 20 = .ok (.iconst 1, 1) := by decide +kernel
theorem dX1_numberAt_21 : decode mX1_numberAt.2.2.1 21 = .ok (.iadd, 1) := by decide +kernel
theorem dX1_numberAt_22 : decode mX1_numberAt.2.2.1 22 = .ok (.invokevirtual 32, 3) := by decide +kernel
theorem dX1_numberAt_25 : decode mX1_numberAt.2.2.1 25 = .ok (.bipush 45, 2) := by decide +kernel
theorem dX1_numberAt_27 : decode mX1_numberAt.2.2.1 27 = .ok (.if_icmp .ne 14, 3) := by decide +kernel
theorem dX1_numberAt_30 : decode mX1_numberAt.2.2.1 30 = .ok (.aload_n 0, 1) := by decide +kernel
theorem dX1_numberAt_31 : decode mX1_numberAt.2.2.1 31 = .ok (.iload_n 1, 1) := by decide +kernel
theorem dX1_numberAt_32 : decode mX1_numberAt.2.2.1 32 = .ok (.iconst 2, 1) := by decide +kernel
theorem dX1_numberAt_33 : decode mX1_numberAt.2.2.1 33 = .ok (.iadd, 1) := by decide +kernel
theorem dX1_numberAt_34 : decode mX1_numberAt.2.2.1 34 = .ok (.invokevirtual 67, 3) := by decide +kernel
theorem dX1_numberAt_37 : decode mX1_numberAt.2.2.1 37 = .ok (.ineg, 1) := by decide +kernel
theorem dX1_numberAt_38 : decode mX1_numberAt.2.2.1 38 = .ok (.goto 10, 3) := by decide +kernel
theorem dX1_numberAt_41 : decode mX1_numberAt.2.2.1 41 = .ok (.aload_n 0, 1) := by decide +kernel
theorem dX1_numberAt_42 : decode mX1_numberAt.2.2.1 42 = .ok (.iload_n 1, 1) := by decide +kernel
theorem dX1_numberAt_43 : decode mX1_numberAt.2.2.1 43 = .ok (.iconst 1, 1) := by decide +kernel
theorem dX1_numberAt_44 : decode mX1_numberAt.2.2.1 44 = .ok (.iadd, 1) := by decide +kernel
theorem dX1_numberAt_45 : decode mX1_numberAt.2.2.1 45 = .ok (.invokevirtual 67, 3) := by decide +kernel
theorem dX1_numberAt_48 : decode mX1_numberAt.2.2.1 48 = .ok (.ireturn, 1) := by decide +kernel
theorem dX1_find_0 : decode mX1_find.2.2.1 0 = .ok (.aload_n 0, 1) := by decide +kernel
theorem dX1_find_1 : decode mX1_find.2.2.1 1 = .ok (.getfield 14, 3) := by decide +kernel
theorem dX1_find_4 : decode mX1_find.2.2.1 4 = .ok (.iload_n 1, 1) := by decide +kernel
theorem dX1_find_5 : decode mX1_find.2.2.1 5 = .ok (.invokevirtual 32, 3) := by decide +kernel
theorem dX1_find_8 : decode mX1_find.2.2.1 8 = .ok (.bipush 100, 2) := by decide +kernel
theorem dX1_find_10 : decode mX1_find.2.2.1 10 = .ok (.if_icmp .eq 5, 3) := by decide +kernel
theorem dX1_find_13 : decode mX1_find.2.2.1 13 = .ok (.iconst (-1), 1) := by decide +kernel
theorem dX1_find_14 : decode mX1_find.2.2.1 14 = .ok (.ireturn, 1) := by decide +kernel
theorem dX1_find_15 : decode mX1_find.2.2.1 15 = .ok (.iload_n 1, 1) := by decide +kernel
theorem dX1_find_16 : decode mX1_find.2.2.1 16 = .ok (.iconst 1, 1) := by decide +kernel
theorem dX1_find_17 : decode mX1_find.2.2.1 17 = .ok (.iadd, 1) := by decide +kernel
theorem dX1_find_18 : decode mX1_find.2.2.1 18 = .ok (.istore_n 3, 1) := by decide +kernel
theorem dX1_find_19 : decode mX1_find.2.2.1 19 = .ok (.iconst 0, 1) := by decide +kernel
theorem dX1_find_20 : decode mX1_find.2.2.1 20 = .ok (.istore 4, 2) := by decide +kernel
theorem dX1_find_22 : decode mX1_find.2.2.1 22 = .ok (.iload 4, 2) := by decide +kernel
theorem dX1_find_24 : decode mX1_find.2.2.1 24 = .ok (.aload_n 0, 1) := by decide +kernel
theorem dX1_find_25 : decode mX1_find.2.2.1 25 = .ok (.getfield 14, 3) := by decide +kernel
theorem dX1_find_28 : decode mX1_find.2.2.1 28 = .ok (.invokevirtual 56, 3) := by decide +kernel
theorem dX1_find_31 : decode mX1_find.2.2.1 31 = .ok (.if_icmp .ge 49, 3) := by decide +kernel
theorem dX1_find_34 : decode mX1_find.2.2.1 34 = .ok (.aload_n 0, 1) := by decide +kernel
theorem dX1_find_35 : decode mX1_find.2.2.1 35 = .ok (.getfield 14, 3) := by decide +kernel
theorem dX1_find_38 : decode mX1_find.2.2.1 38 = .ok (.iload_n 3, 1) := by decide +kernel
theorem dX1_find_39 : decode mX1_find.2.2.1 39 = .ok (.invokevirtual 32, 3) := by decide +kernel
theorem dX1_find_42 : decode mX1_find.2.2.1 42 = .ok (.invokestatic 36, 3) := by decide +kernel
theorem dX1_find_45 : decode mX1_find.2.2.1 45 = .ok (.ifCond .eq 35, 3) := by decide +kernel
theorem dX1_find_48 : decode mX1_find.2.2.1 48 = .ok (.aload_n 0, 1) := by decide +kernel
theorem dX1_find_49 : decode mX1_find.2.2.1 49 = .ok (.iload_n 3, 1) := by decide +kernel
theorem dX1_find_50 : decode mX1_find.2.2.1 50 = .ok (.invokevirtual 70, 3) := by decide +kernel
theorem dX1_find_53 : decode mX1_find.2.2.1 53 = .ok (.istore 5, 2) := by decide +kernel
theorem dX1_find_55 : decode mX1_find.2.2.1 55 = .ok (.aload_n 0, 1) := by decide +kernel
theorem dX1_find_56 : decode mX1_find.2.2.1 56 = .ok (.iload_n 3, 1) := by decide +kernel
theorem dX1_find_57 : decode mX1_find.2.2.1 57 = .ok (.aload_n 2, 1) := by decide +kernel
theorem dX1_find_58 : decode mX1_find.2.2.1 58 = .ok (.invokevirtual 73, 3) := by decide +kernel
theorem dX1_find_61 : decode mX1_find.2.2.1 61 = .ok (.ifCond .eq 6, 3) := by decide +kernel
theorem dX1_find_64 : decode mX1_find.2.2.1 64 = .ok (.iload 5, 2) := by decide +kernel
theorem dX1_find_66 : decode mX1_find.2.2.1 66 = .ok (.ireturn, 1) := by decide +kernel
theorem dX1_find_67 : decode mX1_find.2.2.1 67 = .ok (.aload_n 0, 1) := by decide +kernel
theorem dX1_find_68 : decode mX1_find.2.2.1 68 = .ok (.iload 5, 2) := by decide +kernel
theorem dX1_find_70 : decode mX1_find.2.2.1 70 = .ok (.invokevirtual 70, 3) := by decide +kernel
theorem dX1_find_73 : decode mX1_find.2.2.1 73 = .ok (.istore_n 3, 1) := by decide +kernel
theorem dX1_find_74 : decode mX1_find.2.2.1 74 = .ok (.iinc 4 1, 3) := by decide +kernel
theorem dX1_find_77 : decode mX1_find.2.2.1 77 = .ok (.goto (-55), 3) := by decide +kernel
theorem dX1_find_80 : decode mX1_find.2.2.1 80 = .ok (.iconst (-1), 1) := by decide +kernel
theorem dX1_find_81 : decode mX1_find.2.2.1 81 = .ok (.ireturn, 1) := by decide +kernel
theorem dX1_isText_0 : decode mX1_isText.2.2.1 0 = .ok (.aload_n 0, 1) := by decide +kernel
theorem dX1_isText_1 : decode mX1_isText.2.2.1 1 = .ok (.iload_n 1, 1) := by decide +kernel
theorem dX1_isText_2 : decode mX1_isText.2.2.1 2 = .ok (.invokevirtual 70, 3) := by decide +kernel
theorem dX1_isText_5 : decode mX1_isText.2.2.1 5 = .ok (.aload_n 2, 1) := by decide +kernel
theorem dX1_isText_6 : decode mX1_isText.2.2.1 6 = .ok (.invokevirtual 77, 3) := by decide +kernel
theorem dX1_isText_9 : decode mX1_isText.2.2.1 9 = .ok (.isub, 1) := by decide +kernel
theorem dX1_isText_10 : decode mX1_isText.2.2.1 10 = .ok (.istore_n 3, 1) := by decide +kernel
theorem dX1_isText_11 : decode mX1_isText.2.2.1 11 = .ok (.aload_n 0, 1) := by decide +kernel
theorem dX1_isText_12 : decode mX1_isText.2.2.1 12 = .ok (.iload_n 1, 1) := by decide +kernel
theorem dX1_isText_13 : decode mX1_isText.2.2.1 13 = .ok (.invokevirtual 82, 3) := by decide +kernel
theorem dX1_isText_16 : decode mX1_isText.2.2.1 16 = .ok (.aload_n 2, 1) := by decide +kernel
theorem dX1_isText_17 : decode mX1_isText.2.2.1 17 = .ok (.invokevirtual 77, 3) := by decide +kernel
theorem dX1_isText_20 : decode mX1_isText.2.2.1 20 = .ok (.if_icmp .eq 5, 3) := by decide +kernel
theorem dX1_isText_23 : decode mX1_isText.2.2.1 23 = .ok (.iconst 0, 1) := by decide +kernel
theorem dX1_isText_24 : decode mX1_isText.2.2.1 24 = .ok (.ireturn, 1) := by decide +kernel
theorem dX1_isText_25 : decode mX1_isText.2.2.1 25 = .ok (.iconst 0, 1) := by decide +kernel
theorem dX1_isText_26 : decode mX1_isText.2.2.1 26 = .ok (.istore 4, 2) := by decide +kernel
theorem dX1_isText_28 : decode mX1_isText.2.2.1 28 = .ok (.iload 4, 2) := by decide +kernel
theorem dX1_isText_30 : decode mX1_isText.2.2.1 30 = .ok (.aload_n 2, 1) := by decide +kernel
theorem dX1_isText_31 : decode mX1_isText.2.2.1 31 = .ok (.invokevirtual 77, 3) := by decide +kernel
theorem dX1_isText_34 : decode mX1_isText.2.2.1 34 = .ok (.if_icmp .ge 31, 3) := by decide +kernel
theorem dX1_isText_37 : decode mX1_isText.2.2.1 37 = .ok (.aload_n 0, 1) := by decide +kernel
theorem dX1_isText_38 : decode mX1_isText.2.2.1 38 = .ok (.getfield 14, 3) := by decide +kernel
theorem dX1_isText_41 : decode mX1_isText.2.2.1 41 = .ok (.iload_n 3, 1) := by decide +kernel
theorem dX1_isText_42 : decode mX1_isText.2.2.1 42 = .ok (.iload 4, 2) := by decide +kernel
theorem dX1_isText_44 : decode mX1_isText.2.2.1 44 = .ok (.iadd, 1) := by decide +kernel
theorem dX1_isText_45 : decode mX1_isText.2.2.1 45 = .ok (.invokevirtual 32, 3) := by decide +kernel
theorem dX1_isText_48 : decode mX1_isText.2.2.1 48 = .ok (.aload_n 2, 1) := by decide +kernel
theorem dX1_isText_49 : decode mX1_isText.2.2.1 49 = .ok (.iload 4, 2) := by decide +kernel
theorem dX1_isText_51 : decode mX1_isText.2.2.1 51 = .ok (.invokevirtual 85, 3) := by decide +kernel
theorem dX1_isText_54 : decode mX1_isText.2.2.1 54 = .ok (.if_icmp .eq 5, 3) := by decide +kernel
theorem dX1_isText_57 : decode mX1_isText.2.2.1 57 = .ok (.iconst 0, 1) := by decide +kernel
theorem dX1_isText_58 : decode mX1_isText.2.2.1 58 = .ok (.ireturn, 1) := by decide +kernel
theorem dX1_isText_59 : decode mX1_isText.2.2.1 59 = .ok (.iinc 4 1, 3) := by decide +kernel
theorem dX1_isText_62 : decode mX1_isText.2.2.1 62 = .ok (.goto (-34), 3) := by decide +kernel
theorem dX1_isText_65 : decode mX1_isText.2.2.1 65 = .ok (.iconst 1, 1) := by decide +kernel
theorem dX1_isText_66 : decode mX1_isText.2.2.1 66 = .ok (.ireturn, 1) := by decide +kernel
theorem dX1_decimal_0 : decode mX1_decimal.2.2.1 0 = .ok (.iconst 0, 1) := by decide +kernel
theorem dX1_decimal_1 : decode mX1_decimal.2.2.1 1 = .ok (.istore_n 2, 1) := by decide +kernel
theorem dX1_decimal_2 : decode mX1_decimal.2.2.1 2 = .ok (.iload_n 1, 1) := by decide +kernel
theorem dX1_decimal_3 : decode mX1_decimal.2.2.1 3 = .ok (.istore_n 3, 1) := by decide +kernel
theorem dX1_decimal_4 : decode mX1_decimal.2.2.1 4 = .ok (.iload_n 3, 1) := by decide +kernel
theorem dX1_decimal_5 : decode mX1_decimal.2.2.1 5 = .ok (.iload_n 1, 1) := by decide +kernel
theorem dX1_decimal_6 : decode mX1_decimal.2.2.1 6 = .ok (.bipush 9, 2) := by decide +kernel
theorem dX1_decimal_8 : decode mX1_decimal.2.2.1 8 = .ok (.iadd, 1) := by decide +kernel
theorem dX1_decimal_9 : decode mX1_decimal.2.2.1 9 = .ok (.if_icmp .ge 40, 3) := by decide +kernel
theorem dX1_decimal_12 : decode mX1_decimal.2.2.1 12 = .ok (.aload_n 0, 1) := by decide +kernel
theorem dX1_decimal_13 : decode mX1_decimal.2.2.1 13 = .ok (.getfield 14, 3) := by decide +kernel
theorem dX1_decimal_16 : decode mX1_decimal.2.2.1 16 = .ok (.iload_n 3, 1) := by decide +kernel
theorem dX1_decimal_17 : decode mX1_decimal.2.2.1 17 = .ok (.invokevirtual 32, 3) := by decide +kernel
theorem dX1_decimal_20 : decode mX1_decimal.2.2.1 20 = .ok (.invokestatic 36, 3) := by decide +kernel
theorem dX1_decimal_23 : decode mX1_decimal.2.2.1 23 = .ok (.ifCond .eq 26, 3) := by decide +kernel
theorem dX1_decimal_26 : decode mX1_decimal.2.2.1 26 = .ok (.bipush 10, 2) := by decide +kernel
theorem dX1_decimal_28 : decode mX1_decimal.2.2.1 28 = .ok (.iload_n 2, 1) := by decide +kernel
theorem dX1_decimal_29 : decode mX1_decimal.2.2.1 29 = .ok (.imul, 1) := by decide +kernel
theorem dX1_decimal_30 : decode mX1_decimal.2.2.1 30 = .ok (.aload_n 0, 1) := by decide +kernel
theorem dX1_decimal_31 : decode mX1_decimal.2.2.1 31 = .ok (.getfield 14, 3) := by decide +kernel
theorem dX1_decimal_34 : decode mX1_decimal.2.2.1 34 = .ok (.iload_n 3, 1) := by decide +kernel
theorem dX1_decimal_35 : decode mX1_decimal.2.2.1 35 = .ok (.invokevirtual 32, 3) := by decide +kernel
theorem dX1_decimal_38 : decode mX1_decimal.2.2.1 38 = .ok (.iadd, 1) := by decide +kernel
theorem dX1_decimal_39 : decode mX1_decimal.2.2.1 39 = .ok (.bipush 48, 2) := by decide +kernel
theorem dX1_decimal_41 : decode mX1_decimal.2.2.1 41 = .ok (.isub, 1) := by decide +kernel
theorem dX1_decimal_42 : decode mX1_decimal.2.2.1 42 = .ok (.istore_n 2, 1) := by decide +kernel
theorem dX1_decimal_43 : decode mX1_decimal.2.2.1 43 = .ok (.iinc 3 1, 3) := by decide +kernel
theorem dX1_decimal_46 : decode mX1_decimal.2.2.1 46 = .ok (.goto (-42), 3) := by decide +kernel
theorem dX1_decimal_49 : decode mX1_decimal.2.2.1 49 = .ok (.iload_n 2, 1) := by decide +kernel
theorem dX1_decimal_50 : decode mX1_decimal.2.2.1 50 = .ok (.ireturn, 1) := by decide +kernel
theorem dX1_isDigit_0 : decode mX1_isDigit.2.2.1 0 = .ok (.iload_n 0, 1) := by decide +kernel
theorem dX1_isDigit_1 : decode mX1_isDigit.2.2.1 1 = .ok (.bipush 48, 2) := by decide +kernel
theorem dX1_isDigit_3 : decode mX1_isDigit.2.2.1 3 = .ok (.if_icmp .lt 13, 3) := by decide +kernel
theorem dX1_isDigit_6 : decode mX1_isDigit.2.2.1 6 = .ok (.iload_n 0, 1) := by decide +kernel
theorem dX1_isDigit_7 : decode mX1_isDigit.2.2.1 7 = .ok (.bipush 57, 2) := by decide +kernel
theorem dX1_isDigit_9 : decode mX1_isDigit.2.2.1 9 = .ok (.if_icmp .gt 7, 3) := by decide +kernel
theorem dX1_isDigit_12 : decode mX1_isDigit.2.2.1 12 = .ok (.iconst 1, 1) := by decide +kernel
theorem dX1_isDigit_13 : decode mX1_isDigit.2.2.1 13 = .ok (.goto 4, 3) := by decide +kernel
theorem dX1_isDigit_16 : decode mX1_isDigit.2.2.1 16 = .ok (.iconst 0, 1) := by decide +kernel
theorem dX1_isDigit_17 : decode mX1_isDigit.2.2.1 17 = .ok (.ireturn, 1) := by decide +kernel
