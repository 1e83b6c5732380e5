theorem dX7_init_0 : decode mX7_init.2.2.1 0 = .ok (.aload_n 0, 1) := by decide +kernel
theorem dX7_init_1 : decode mX7_init.2.2.1 1 = .ok (.invokespecial 3, 3) := by decide +kernel
theorem dX7_init_4 : decode mX7_init.2.2.1 4 = .ok (.aload_n 0, 1) := by decide +kernel
theorem dX7_init_5 : decode mX7_init.2.2.1 5 = .ok (.bipush 80, 2) := by decide +kernel
theorem dX7_init_7 : decode mX7_init.2.2.1 7 = .ok (.newarray .int, 2) := by decide +kernel
theorem dX7_init_9 : decode mX7_init.2.2.1 9 = .ok (.putfield 9, 3) := by decide +kernel
theorem dX7_init_12 : decode mX7_init.2.2.1 12 = .ok (.aload_n 0, 1) := by decide +kernel
theorem dX7_init_13 : decode mX7_init.2.2.1 13 = .ok (.iconst 5, 1) := by decide +kernel
theorem dX7_init_14 : decode mX7_init.2.2.1 14 = .ok (.newarray .int, 2) := by decide +kernel
theorem dX7_init_16 : decode mX7_init.2.2.1 16 = .ok (.putfield 15, 3) := by decide +kernel
theorem dX7_init_19 : decode mX7_init.2.2.1 19 = .ok (.return_, 1) := by decide +kernel
theorem dX7_run_0 : decode mX7_run.2.2.1 0 = .ok (.aload_n 0, 1) := by decide +kernel
theorem dX7_run_1 : decode mX7_run.2.2.1 1 = .ok (.getfield 15, 3) := by decide +kernel
theorem dX7_run_4 : decode mX7_run.2.2.1 4 = .ok (.iconst 0, 1) := by decide +kernel
theorem dX7_run_5 : decode mX7_run.2.2.1 5 = .ok (.ldc 18, 2) := by decide +kernel
theorem dX7_run_7 : decode mX7_run.2.2.1 7 = .ok (.iastore, 1) := by decide +kernel
theorem dX7_run_8 : decode mX7_run.2.2.1 8 = .ok (.aload_n 0, 1) := by decide +kernel
theorem dX7_run_9 : decode mX7_run.2.2.1 9 = .ok (.getfield 15, 3) := by decide +kernel
theorem dX7_run_12 : decode mX7_run.2.2.1 12 = .ok (.iconst 1, 1) := by decide +kernel
theorem dX7_run_13 : decode mX7_run.2.2.1 13 = .ok (.ldc 19, 2) := by decide +kernel
theorem dX7_run_15 : decode mX7_run.2.2.1 15 = .ok (.iastore, 1) := by decide +kernel
theorem dX7_run_16 : decode mX7_run.2.2.1 16 = .ok (.aload_n 0, 1) := by decide +kernel
theorem dX7_run_17 : decode mX7_run.2.2.1 17 = .ok (.getfield 15, 3) := by decide +kernel
theorem dX7_run_20 : decode mX7_run.2.2.1 20 = .ok (.iconst 2, 1) := by decide +kernel
theorem dX7_run_21 : decode mX7_run.2.2.1 21 = .ok (.ldc 20, 2) := by decide +kernel
theorem dX7_run_23 : decode mX7_run.2.2.1 23 = .ok (.iastore, 1) := by decide +kernel
theorem dX7_run_24 : decode mX7_run.2.2.1 24 = .ok (.aload_n 0, 1) := by decide +kernel
theorem dX7_run_25 : decode mX7_run.2.2.1 25 = .ok (.getfield 15, 3) := by decide +kernel
theorem dX7_run_28 : decode mX7_run.2.2.1 28 = .ok (.iconst 3, 1) := by decide +kernel
theorem dX7_run_29 : decode mX7_run.2.2.1 29 = .ok (.ldc 21, 2) := by decide +kernel
theorem dX7_run_31 : decode mX7_run.2.2.1 31 = .ok (.iastore, 1) := by decide +kernel
theorem dX7_run_32 : decode mX7_run.2.2.1 32 = .ok (.aload_n 0, 1) := by decide +kernel
theorem dX7_run_33 : decode mX7_run.2.2.1 33 = .ok (.getfield 15, 3) := by decide +kernel
theorem dX7_run_36 : decode mX7_run.2.2.1 36 = .ok (.iconst 4, 1) := by decide +kernel
theorem dX7_run_37 : decode mX7_run.2.2.1 37 = .ok (.ldc 22, 2) := by decide +kernel
theorem dX7_run_39 : decode mX7_run.2.2.1 39 = .ok (.iastore, 1) := by decide +kernel
theorem dX7_run_40 : decode mX7_run.2.2.1 40 = .ok (.iload_n 3, 1) := by decide +kernel
theorem dX7_run_41 : decode mX7_run.2.2.1 41 = .ok (.bipush 8, 2) := by decide +kernel
theorem dX7_run_43 : decode mX7_run.2.2.1 43 = .ok (.iadd, 1) := by decide +kernel
theorem dX7_run_44 : decode mX7_run.2.2.1 44 = .ok (.bipush 64, 2) := by decide +kernel
theorem dX7_run_46 : decode mX7_run.2.2.1 46 = .ok (.idiv, 1) := by decide +kernel
theorem dX7_run_47 : decode mX7_run.2.2.1 47 = .ok (.iconst 1, 1) := by decide +kernel
theorem dX7_run_48 : decode mX7_run.2.2.1 48 = .ok (.iadd, 1) := by decide +kernel
theorem dX7_run_49 : decode mX7_run.2.2.1 49 = .ok (.istore 4, 2) := by decide +kernel
theorem dX7_run_51 : decode mX7_run.2.2.1 51 = .ok (.iconst 0, 1) := by decide +kernel
theorem dX7_run_52 : decode mX7_run.2.2.1 52 = .ok (.istore 5, 2) := by decide +kernel
theorem dX7_run_54 : decode mX7_run.2.2.1 54 = .ok (.iload 5, 2) := by decide +kernel
theorem dX7_run_56 : decode mX7_run.2.2.1 56 = .ok (.iload 4, 2) := by decide +kernel
theorem dX7_run_58 : decode mX7_run.2.2.1 58 = .ok (.if_icmp .ge 72, 3) := by decide +kernel
theorem dX7_run_61 : decode mX7_run.2.2.1 61 = .ok (.iconst 0, 1) := by decide +kernel
theorem dX7_run_62 : decode mX7_run.2.2.1 62 = .ok (.istore 6, 2) := by decide +kernel
theorem dX7_run_64 : decode mX7_run.2.2.1 64 = .ok (.iload 6, 2) := by decide +kernel
theorem dX7_run_66 : decode mX7_run.2.2.1 66 = .ok (.bipush 16, 2) := by decide +kernel
theorem dX7_run_68 : decode mX7_run.2.2.1 68 = .ok (.if_icmp .ge 32, 3) := by decide +kernel
theorem dX7_run_71 : decode mX7_run.2.2.1 71 = .ok (.aload_n 0, 1) := by decide +kernel
theorem dX7_run_72 : decode mX7_run.2.2.1 72 = .ok (.getfield 9, 3) := by decide +kernel
theorem dX7_run_75 : decode mX7_run.2.2.1 75 = .ok (.iload 6, 2) := by decide +kernel
theorem dX7_run_77 : decode mX7_run.2.2.1 77 = .ok (.aload_n 1, 1) := by decide +kernel
theorem dX7_run_78 : decode mX7_run.2.2.1 78 = .ok (.iload_n 2, 1) := by decide +kernel
theorem dX7_run_79 : decode mX7_run.2.2.1 79 = .ok (.iload_n 3, 1) := by decide +kernel
theorem dX7_run_80 : decode mX7_run.2.2.1 80 = .ok (.bipush 64, 2) := by decide +kernel
theorem dX7_run_82 : decode mX7_run.2.2.1 82 = .ok (.iload 5, 2) := by decide +kernel
theorem dX7_run_84 : decode mX7_run.2.2.1 84 = .ok (.imul, 1) := by decide +kernel
theorem dX7_run_85 : decode mX7_run.2.2.1 85 = .ok (.iconst 4, 1) := by decide +kernel
theorem dX7_run_86 : decode mX7_run.2.2.1 86 = .ok (.iload 6, 2) := by decide +kernel
theorem dX7_run_88 : decode mX7_run.2.2.1 88 = .ok (.imul, 1) := by decide +kernel
theorem dX7_run_89 : decode mX7_run.2.2.1 89 = .ok (.iadd, 1) := by decide +kernel
theorem dX7_run_90 : decode mX7_run.2.2.1 90 = .ok (.invokestatic 23, 3) := by decide +kernel
theorem dX7_run_93 : decode mX7_run.2.2.1 93 = .ok (.iastore, 1) := by decide +kernel
theorem dX7_run_94 : decode mX7_run.2.2.1 94 = .ok (.iinc 6 1, 3) := by decide +kernel
theorem dX7_run_97 : decode mX7_run.2.2.1 97 = .ok (.goto (-33), 3) := by decide +kernel
theorem dX7_run_100 : decode mX7_run.2.2.1 100 = .ok (.iload 5, 2) := by decide +kernel
theorem dX7_run_102 : decode mX7_run.2.2.1 102 = .ok (.iload 4, 2) := by decide +kernel
theorem dX7_run_104 : decode mX7_run.2.2.1 104 = .ok (.iconst 1, 1) := by decide +kernel
theorem dX7_run_105 : decode mX7_run.2.2.1 105 = .ok (.isub, 1) := by decide +kernel
theorem dX7_run_106 : decode mX7_run.2.2.1 106 = .ok (.if_icmp .ne 14, 3) := by decide +kernel
theorem dX7_run_109 : decode mX7_run.2.2.1 109 = .ok (.aload_n 0, 1) := by decide +kernel
theorem dX7_run_110 : decode mX7_run.2.2.1 110 = .ok (.getfield 9, 3) := by decide +kernel
theorem dX7_run_113 : decode mX7_run.2.2.1 113 = .ok (.bipush 15, 2) := by decide +kernel
theorem dX7_run_115 : decode mX7_run.2.2.1 115 = .ok (.bipush 8, 2) := by decide +kernel
theorem dX7_run_117 : decode mX7_run.2.2.1 117 = .ok (.iload_n 3, 1) := by decide +kernel
theorem dX7_run_118 : decode mX7_run.2.2.1 118 = .ok (.imul, 1) := by decide +kernel
theorem dX7_run_119 : decode mX7_run.2.2.1 119 = .ok (.iastore, 1) := by decide +kernel
theorem dX7_run_120 : decode mX7_run.2.2.1 120 = .ok (.aload_n 0, 1) := by decide +kernel
theorem dX7_run_121 : decode mX7_run.2.2.1 121 = .ok (.invokevirtual 27, 3) := by decide +kernel
theorem dX7_run_124 : decode mX7_run.2.2.1 124 = .ok (.iinc 5 1, 3) := by decide +kernel
theorem dX7_run_127 : decode mX7_run.2.2.1 127 = .ok (.goto (-73), 3) := by decide +kernel
theorem dX7_run_130 : decode mX7_run.2.2.1 130 = .ok (.return_, 1) := by decide +kernel
theorem dX7_byteAt_0 : decode mX7_byteAt.2.2.1 0 = .ok (.iload_n 1, 1) := by decide +kernel
theorem dX7_byteAt_1 : decode mX7_byteAt.2.2.1 1 = .ok (.ifCond .lt 9, 3) := by decide +kernel
theorem dX7_byteAt_4 : decode mX7_byteAt.2.2.1 4 = .ok (.iload_n 1, 1) := by decide +kernel
theorem dX7_byteAt_5 : decode mX7_byteAt.2.2.1 5 = .ok (.bipush 20, 2) := by decide +kernel
theorem dX7_byteAt_7 : decode mX7_byteAt.2.2.1 7 = .ok (.if_icmp .lt 7, 3) := by decide +kernel
theorem dX7_byteAt_10 : decode mX7_byteAt.2.2.1 10 = .ok (.iconst (-1), 1) := by decide +kernel
theorem dX7_byteAt_11 : decode mX7_byteAt.2.2.1 11 = .ok (.goto 25, 3) := by decide +kernel
theorem dX7_byteAt_14 : decode mX7_byteAt.2.2.1 14 = .ok (.aload_n 0, 1) := by decide +kernel
theorem dX7_byteAt_15 : decode mX7_byteAt.2.2.1 15 = .ok (.getfield 15, 3) := by decide +kernel
theorem dX7_byteAt_18 : decode mX7_byteAt.2.2.1 18 = .ok (.iload_n 1, 1) := by decide +kernel
theorem dX7_byteAt_19 : decode mX7_byteAt.2.2.1 19 = .ok (.iconst 4, 1) := by decide +kernel
theorem dX7_byteAt_20 : decode mX7_byteAt.2.2.1 20 = .ok (.idiv, 1) := by decide +kernel
theorem dX7_byteAt_21 : decode mX7_byteAt.2.2.1 21 = .ok (.iaload, 1) := by decide +kernel
theorem dX7_byteAt_22 : decode mX7_byteAt.2.2.1 22 = .ok (.bipush 24, 2) := by decide +kernel
theorem dX7_byteAt_24 : decode mX7_byteAt.2.2.1 24 = .ok (.bipush 8, 2) := by decide +kernel
theorem dX7_byteAt_26 : decode mX7_byteAt.2.2.1 26 = .ok (.iload_n 1, 1) := by decide +kernel
theorem dX7_byteAt_27 : decode mX7_byteAt.2.2.1 27 = .ok (.iconst 4, 1) := by decide +kernel
theorem dX7_byteAt_28 : decode mX7_byteAt.2.2.1 28 = .ok (.irem, 1) := by decide +kernel
theorem dX7_byteAt_29 : decode mX7_byteAt.2.2.1 29 = .ok (.imul, 1) := by decide +kernel
theorem dX7_byteAt_30 : decode mX7_byteAt.2.2.1 30 = .ok (.isub, 1) := by decide +kernel
theorem dX7_byteAt_31 : decode mX7_byteAt.2.2.1 31 = .ok (.iushr, 1) := by decide +kernel
theorem dX7_byteAt_32 : decode mX7_byteAt.2.2.1 32 = .ok (.sipush 255, 3) := by decide +kernel
theorem dX7_byteAt_35 : decode mX7_byteAt.2.2.1 35 = .ok (.iand, 1) := by decide +kernel
theorem dX7_byteAt_36 : decode mX7_byteAt.2.2.1 36 = .ok (.ireturn, 1) := by decide +kernel
theorem dX7_addTo_0 : decode mX7_addTo.2.2.1 0 = .ok (.iconst 0, 1) := by decide +kernel
theorem dX7_addTo_1 : decode mX7_addTo.2.2.1 1 = .ok (.istore_n 2, 1) := by decide +kernel
theorem dX7_addTo_2 : decode mX7_addTo.2.2.1 2 = .ok (.iload_n 2, 1) := by decide +kernel
theorem dX7_addTo_3 : decode mX7_addTo.2.2.1 3 = .ok (.bipush 20, 2) := by decide +kernel
theorem dX7_addTo_5 : decode mX7_addTo.2.2.1 5 = .ok (.if_icmp .ge 18, 3) := by decide +kernel
theorem dX7_addTo_8 : decode mX7_addTo.2.2.1 8 = .ok (.aload_n 1, 1) := by decide +kernel
theorem dX7_addTo_9 : decode mX7_addTo.2.2.1 9 = .ok (.aload_n 0, 1) := by decide +kernel
theorem dX7_addTo_10 : decode mX7_addTo.2.2.1 10 = .ok (.iload_n 2, 1) := by decide +kernel
theorem dX7_addTo_11 : decode mX7_addTo.2.2.1 11 = .ok (.invokevirtual 30, 3) := by decide +kernel
theorem dX7_addTo_14 : decode mX7_addTo.2.2.1 14 = .ok (.invokevirtual 34, 3) := by decide +kernel
theorem dX7_addTo_17 : decode mX7_addTo.2.2.1 17 = .ok (.iinc 2 1, 3) := by decide +kernel
theorem dX7_addTo_20 : decode mX7_addTo.2.2.1 20 = .ok (.goto (-18), 3) := by decide +kernel
theorem dX7_addTo_23 : decode mX7_addTo.2.2.1 23 = .ok (.return_, 1) := by decide +kernel
theorem dX7_isAt_0 : decode mX7_isAt.2.2.1 0 = .ok (.iconst 0, 1) := by decide +kernel
theorem dX7_isAt_1 : decode mX7_isAt.2.2.1 1 = .ok (.istore_n 3, 1) := by decide +kernel
theorem dX7_isAt_2 : decode mX7_isAt.2.2.1 2 = .ok (.iload_n 3, 1) := by decide +kernel
theorem dX7_isAt_3 : decode mX7_isAt.2.2.1 3 = .ok (.bipush 20, 2) := by decide +kernel
theorem dX7_isAt_5 : decode mX7_isAt.2.2.1 5 = .ok (.if_icmp .ge 26, 3) := by decide +kernel
theorem dX7_isAt_8 : decode mX7_isAt.2.2.1 8 = .ok (.aload_n 1, 1) := by decide +kernel
theorem dX7_isAt_9 : decode mX7_isAt.2.2.1 9 = .ok (.iload_n 2, 1) := by decide +kernel
theorem dX7_isAt_10 : decode mX7_isAt.2.2.1 10 = .ok (.iload_n 3, 1) := by decide +kernel
theorem dX7_isAt_11 : decode mX7_isAt.2.2.1 11 = .ok (.iadd, 1) := by decide +kernel
theorem dX7_isAt_12 : decode mX7_isAt.2.2.1 12 = .ok (.invokevirtual 40, 3) := by decide +kernel
theorem dX7_isAt_15 : decode mX7_isAt.2.2.1 15 = .ok (.aload_n 0, 1) := by decide +kernel
theorem dX7_isAt_16 : decode mX7_isAt.2.2.1 16 = .ok (.iload_n 3, 1) := by decide +kernel
theorem dX7_isAt_17 : decode mX7_isAt.2.2.1 17 = .ok (.invokevirtual 30, 3) := by decide +kernel
theorem dX7_isAt_20 : decode mX7_isAt.2.2.1 20 = .ok (.if_icmp .eq 5, 3) := by decide +kernel
theorem dX7_isAt_23 : decode mX7_isAt.2.2.1 23 = .ok (.iconst 0, 1) := by decide +kernel
theorem dX7_isAt_24 : decode mX7_isAt.2.2.1 24 = .ok (.ireturn, 1) := by decide +kernel
theorem dX7_isAt_25 : decode mX7_isAt.2.2.1 25 = .ok (.iinc 3 1, 3) := by decide +kernel
theorem dX7_isAt_28 : decode mX7_isAt.2.2.1 28 = .ok (.goto (-26), 3) := by decide +kernel
theorem dX7_isAt_31 : decode mX7_isAt.2.2.1 31 = .ok (.iconst 1, 1) := by decide +kernel
theorem dX7_isAt_32 : decode mX7_isAt.2.2.1 32 = .ok (.ireturn, 1) := by decide +kernel
theorem dX7_word_0 : decode mX7_word.2.2.1 0 = .ok (.iconst 0, 1) := by decide +kernel
theorem dX7_word_1 : decode mX7_word.2.2.1 1 = .ok (.istore 4, 2) := by decide +kernel
theorem dX7_word_3 : decode mX7_word.2.2.1 3 = .ok (.iload_n 3, 1) := by decide +kernel
theorem dX7_word_4 : decode mX7_word.2.2.1 4 = .ok (.istore 5, 2) := by decide +kernel
theorem dX7_word_6 : decode mX7_word.2.2.1 6 = .ok (.iload 5, 2) := by decide +kernel
theorem dX7_word_8 : decode mX7_word.2.2.1 8 = .ok (.iload_n 3, 1) := by decide +kernel
theorem dX7_word_9 : decode mX7_word.2.2.1 9 = .ok (.iconst 4, 1) := by decide +kernel
theorem dX7_word_10 : decode mX7_word.2.2.1 10 = .ok (.iadd, 1) := by decide +kernel
theorem dX7_word_11 : decode mX7_word.2.2.1 11 = .ok (.if_icmp .ge 55, 3) := by decide +kernel
theorem dX7_word_14 : decode mX7_word.2.2.1 14 = .ok (.iload 5, 2) := by decide +kernel
theorem dX7_word_16 : decode mX7_word.2.2.1 16 = .ok (.iload_n 2, 1) := by decide +kernel
theorem dX7_word_17 : decode mX7_word.2.2.1 17 = .ok (.if_icmp .ne 9, 3) := by decide +kernel
theorem dX7_word_20 : decode mX7_word.2.2.1 20 = .ok (.sipush 128, 3) := by decide +kernel
theorem dX7_word_23 : decode mX7_word.2.2.1 23 = .ok (.goto 4, 3) := by decide +kernel
theorem dX7_word_26 : decode mX7_word.2.2.1 26 = .ok (.iconst 0, 1) := by decide +kernel
theorem dX7_word_27 : decode mX7_word.2.2.1 27 = .ok (.istore 6, 2) := by decide +kernel
theorem dX7_word_29 : decode mX7_word.2.2.1 29 = .ok (.iload 4, 2) := by decide +kernel
theorem dX7_word_31 : decode mX7_word.2.2.1 31 = .ok (.bipush 8, 2) := by decide +kernel
theorem dX7_word_33 : decode mX7_word.2.2.1 33 = .ok (.ishl, 1) := by decide +kernel
theorem dX7_word_34 : decode mX7_word.2.2.1 34 = .ok (.iload 5, 2) := by decide +kernel
theorem dX7_word_36 : decode mX7_word.2.2.1 36 = .ok (.iload_n 2, 1) := by decide +kernel
theorem dX7_word_37 : decode mX7_word.2.2.1 37 = .ok (.if_icmp .ge 18, 3) := by decide +kernel
theorem dX7_word_40 : decode mX7_word.2.2.1 40 = .ok (.aload_n 0, 1) := by decide +kernel
theorem dX7_word_41 : decode mX7_word.2.2.1 41 = .ok (.iload_n 1, 1) := by decide +kernel
theorem dX7_word_42 : decode mX7_word.2.2.1 42 = .ok (.iload 5, 2) := by decide +kernel
theorem dX7_word_44 : decode mX7_word.2.2.1 44 = .ok (.iadd, 1) := by decide +kernel
theorem dX7_word_45 : decode mX7_word.2.2.1 45 = .ok (.invokevirtual 40, 3) := by decide +kernel
theorem dX7_word_48 : decode mX7_word.2.2.1 48 = .ok (.sipush 255, 3) := by decide +kernel
theorem dX7_word_51 : decode mX7_word.2.2.1 51 = .ok (.iand, 1) := by decide +kernel
theorem dX7_word_52 : decode mX7_word.2.2.1 52 = .ok (.goto 5, 3) := by decide +kernel
theorem dX7_word_55 : decode mX7_word.2.2.1 55 = .ok (.iload 6, 2) := by decide +kernel
theorem dX7_word_57 : decode mX7_word.2.2.1 57 = .ok (.ior, 1) := by decide +kernel
theorem dX7_word_58 : decode mX7_word.2.2.1 58 = .ok (.istore 4, 2) := by decide +kernel
theorem dX7_word_60 : decode mX7_word.2.2.1 60 = .ok (.iinc 5 1, 3) := by decide +kernel
theorem dX7_word_63 : decode mX7_word.2.2.1 63 = .ok (.goto (-57), 3) := by decide +kernel
theorem dX7_word_66 : decode mX7_word.2.2.1 66 = .ok (.iload 4, 2) := by decide +kernel
theorem dX7_word_68 : decode mX7_word.2.2.1 68 = .ok (.ireturn, 1) := by decide +kernel
theorem dX7_mix_0 : decode mX7_mix.2.2.1 0 = .ok (.bipush 16, 2) := by decide +kernel
theorem dX7_mix_2 : decode mX7_mix.2.2.1 2 = .ok (.istore_n 1, 1) := by decide +kernel
theorem dX7_mix_3 : decode mX7_mix.2.2.1 3 = .ok (.iload_n 1, 1) := by decide +kernel
theorem dX7_mix_4 : decode mX7_mix.2.2.1 4 = .ok (.bipush 80, 2) := by decide +kernel
theorem dX7_mix_6 : decode mX7_mix.2.2.1 6 = .ok (.if_icmp .ge 57, 3) := by decide +kernel
theorem dX7_mix_9 : decode mX7_mix.2.2.1 9 = .ok (.aload_n 0, 1) := by decide +kernel
theorem dX7_mix_10 : decode mX7_mix.2.2.1 10 = .ok (.getfield 9, 3) := by decide +kernel
theorem dX7_mix_13 : decode mX7_mix.2.2.1 13 = .ok (.iload_n 1, 1) := by decide +kernel
theorem dX7_mix_14 : decode mX7_mix.2.2.1 14 = .ok (.aload_n 0, 1) := by decide +kernel
theorem dX7_mix_15 : decode mX7_mix.2.2.1 15 = .ok (.getfield 9, 3) := by decide +kernel
theorem dX7_mix_18 : decode mX7_mix.2.2.1 18 = .ok (.iload_n 1, 1) := by decide +kernel
theorem dX7_mix_19 : decode mX7_mix.2.2.1 19 = .ok (.iconst 3, 1) := by decide +kernel
theorem dX7_mix_20 : decode mX7_mix.2.2.1 20 = .ok (.isub, 1) := by decide +kernel
theorem dX7_mix_21 : decode mX7_mix.2.2.1 21 = .ok (.iaload, 1) := by decide +kernel
theorem dX7_mix_22 : decode mX7_mix.2.2.1 22 = .ok (.aload_n 0, 1) := by decide +kernel
theorem dX7_mix_23 : decode mX7_mix.2.2.1 23 = .ok (.getfield 9, 3) := by decide +kernel
theorem dX7_mix_26 : decode mX7_mix.2.2.1 26 = .ok (.iload_n 1, 1) := by decide +kernel
theorem dX7_mix_27 : decode mX7_mix.2.2.1 27 = .ok (.bipush 8, 2) := by decide +kernel
theorem dX7_mix_29 : decode mX7_mix.2.2.1 29 = .ok (.isub, 1) := by decide +kernel
theorem dX7_mix_30 : decode mX7_mix.2.2.1 30 = .ok (.iaload, 1) := by decide +kernel
theorem dX7_mix_31 : decode mX7_mix.2.2.1 31 = .ok (.ixor, 1) := by decide +kernel
theorem dX7_mix_32 : decode mX7_mix.2.2.1 32 = .ok (.aload_n 0, 1) := by decide +kernel
theorem dX7_mix_33 : decode mX7_mix.2.2.1 33 = .ok (.getfield 9, 3) := by decide +kernel
theorem dX7_mix_36 : decode mX7_mix.2.2.1 36 = .ok (.iload_n 1, 1) := by decide +kernel
theorem dX7_mix_37 : decode mX7_mix.2.2.1 37 = .ok (.bipush 14, 2) := by decide +kernel
theorem dX7_mix_39 : decode mX7_mix.2.2.1 39 = .ok (.isub, 1) := by decide +kernel
theorem dX7_mix_40 : decode mX7_mix.2.2.1 40 = .ok (.iaload, 1) := by decide +kernel
theorem dX7_mix_41 : decode mX7_mix.2.2.1 41 = .ok (.ixor, 1) := by decide +kernel
theorem dX7_mix_42 : decode mX7_mix.2.2.1 42 = .ok (.aload_n 0, 1) := by decide +kernel
theorem dX7_mix_43 : decode mX7_mix.2.2.1 43 = .ok (.getfield 9, 3) := by decide +kernel
theorem dX7_mix_46 : decode mX7_mix.2.2.1 46 = .ok (.iload_n 1, 1) := by decide +kernel
theorem dX7_mix_47 : decode mX7_mix.2.2.1 47 = .ok (.bipush 16, 2) := by decide +kernel
theorem dX7_mix_49 : decode mX7_mix.2.2.1 49 = .ok (.isub, 1) := by decide +kernel
theorem dX7_mix_50 : decode mX7_mix.2.2.1 50 = .ok (.iaload, 1) := by decide +kernel
theorem dX7_mix_51 : decode mX7_mix.2.2.1 51 = .ok (.ixor, 1) := by decide +kernel
theorem dX7_mix_52 : decode mX7_mix.2.2.1 52 = .ok (.iconst 1, 1) := by decide +kernel
theorem dX7_mix_53 : decode mX7_mix.2.2.1 53 = .ok (.invokestatic 43, 3) := by decide +kernel
theorem dX7_mix_56 : decode mX7_mix.2.2.1 56 = .ok (.iastore, 1) := by decide +kernel
theorem dX7_mix_57 : decode mX7_mix.2.2.1 57 = .ok (.iinc 1 1, 3) := by decide +kernel
theorem dX7_mix_60 : decode mX7_mix.2.2.1 60 = .ok (.goto (-57), 3) := by decide +kernel
theorem dX7_mix_63 : decode mX7_mix.2.2.1 63 = .ok (.aload_n 0, 1) := by decide +kernel
theorem dX7_mix_64 : decode mX7_mix.2.2.1 64 = .ok (.getfield 15, 3) := by decide +kernel
theorem dX7_mix_67 : decode mX7_mix.2.2.1 67 = .ok (.iconst 0, 1) := by decide +kernel
theorem dX7_mix_68 : decode mX7_mix.2.2.1 68 = .ok (.iaload, 1) := by decide +kernel
theorem dX7_mix_69 : decode mX7_mix.2.2.1 69 = .ok (.istore_n 1, 1) := by decide +kernel
theorem dX7_mix_70 : decode mX7_mix.2.2.1 70 = .ok (.aload_n 0, 1) := by decide +kernel
theorem dX7_mix_71 : decode mX7_mix.2.2.1 71 = .ok (.getfield 15, 3) := by decide +kernel
theorem dX7_mix_74 : decode mX7_mix.2.2.1 74 = .ok (.iconst 1, 1) := by decide +kernel
theorem dX7_mix_75 : decode mX7_mix.2.2.1 75 = .ok (.iaload, 1) := by decide +kernel
theorem dX7_mix_76 : decode mX7_mix.2.2.1 76 = .ok (.istore_n 2, 1) := by decide +kernel
theorem dX7_mix_77 : decode mX7_mix.2.2.1 77 = .ok (.aload_n 0, 1) := by decide +kernel
theorem dX7_mix_78 : decode mX7_mix.2.2.1 78 = .ok (.getfield 15, 3) := by decide +kernel
theorem dX7_mix_81 : decode mX7_mix.2.2.1 81 = .ok (.iconst 2, 1) := by decide +kernel
theorem dX7_mix_82 : decode mX7_mix.2.2.1 82 = .ok (.iaload, 1) := by decide +kernel
theorem dX7_mix_83 : decode mX7_mix.2.2.1 83 = .ok (.istore_n 3, 1) := by decide +kernel
theorem dX7_mix_84 : decode mX7_mix.2.2.1 84 = .ok (.aload_n 0, 1) := by decide +kernel
theorem dX7_mix_85 : decode mX7_mix.2.2.1 85 = .ok (.getfield 15, 3) := by decide +kernel
theorem dX7_mix_88 : decode mX7_mix.2.2.1 88 = .ok (.iconst 3, 1) := by decide +kernel
theorem dX7_mix_89 : decode mX7_mix.2.2.1 89 = .ok (.iaload, 1) := by decide +kernel
theorem dX7_mix_90 : decode mX7_mix.2.2.1 90 = .ok (.istore 4, 2) := by decide +kernel
theorem dX7_mix_92 : decode mX7_mix.2.2.1 92 = .ok (.aload_n 0, 1) := by decide +kernel
theorem dX7_mix_93 : decode mX7_mix.2.2.1 93 = .ok (.getfield 15, 3) := by decide +kernel
theorem dX7_mix_96 : decode mX7_mix.2.2.1 96 = .ok (.iconst 4, 1) := by decide +kernel
theorem dX7_mix_97 : decode mX7_mix.2.2.1 97 = .ok (.iaload, 1) := by decide +kernel
theorem dX7_mix_98 : decode mX7_mix.2.2.1 98 = .ok (.istore 5, 2) := by decide +kernel
theorem dX7_mix_100 : decode mX7_mix.2.2.1 100 = .ok (.iconst 0, 1) := by decide +kernel
theorem dX7_mix_101 : decode mX7_mix.2.2.1 101 = .ok (.istore 6, 2) := by decide +kernel
theorem dX7_mix_103 : decode mX7_mix.2.2.1 103 = .ok (.iload 6, 2) := by decide +kernel
theorem dX7_mix_105 : decode mX7_mix.2.2.1 105 = .ok (.bipush 80, 2) := by decide +kernel
theorem dX7_mix_107 : decode mX7_mix.2.2.1 107 = .ok (.if_icmp .ge 56, 3) := by decide +kernel
theorem dX7_mix_110 : decode mX7_mix.2.2.1 110 = .ok (.iload_n 1, 1) := by decide +kernel
theorem dX7_mix_111 : decode mX7_mix.2.2.1 111 = .ok (.iconst 5, 1) := by decide +kernel
theorem dX7_mix_112 : decode mX7_mix.2.2.1 112 = .ok (.invokestatic 43, 3) := by decide +kernel
theorem dX7_mix_115 : decode mX7_mix.2.2.1 115 = .ok (.iload 6, 2) := by decide +kernel
theorem dX7_mix_117 : decode mX7_mix.2.2.1 117 = .ok (.iload_n 2, 1) := by decide +kernel
theorem dX7_mix_118 : decode mX7_mix.2.2.1 118 = .ok (.iload_n 3, 1) := by decide +kernel
theorem dX7_mix_119 : decode mX7_mix.2.2.1 119 = .ok (.iload 4, 2) := by decide +kernel
theorem dX7_mix_121 : decode mX7_mix.2.2.1 121 = .ok (.invokestatic 47, 3) := by decide +kernel
theorem dX7_mix_124 : decode mX7_mix.2.2.1 124 = .ok (.iadd, 1) := by decide +kernel
theorem dX7_mix_125 : decode mX7_mix.2.2.1 125 = .ok (.iload 5, 2) := by decide +kernel
theorem dX7_mix_127 : decode mX7_mix.2.2.1 127 = .ok (.iadd, 1) := by decide +kernel
theorem dX7_mix_128 : decode mX7_mix.2.2.1 128 = .ok (.aload_n 0, 1) := by decide +kernel
theorem dX7_mix_129 : decode mX7_mix.2.2.1 129 = .ok (.getfield 9, 3) := by decide +kernel
theorem dX7_mix_132 : decode mX7_mix.2.2.1 132 = .ok (.iload 6, 2) := by decide +kernel
theorem dX7_mix_134 : decode mX7_mix.2.2.1 134 = .ok (.iaload, 1) := by decide +kernel
theorem dX7_mix_135 : decode mX7_mix.2.2.1 135 = .ok (.iadd, 1) := by decide +kernel
theorem dX7_mix_136 : decode mX7_mix.2.2.1 136 = .ok (.istore 7, 2) := by decide +kernel
theorem dX7_mix_138 : decode mX7_mix.2.2.1 138 = .ok (.iload 4, 2) := by decide +kernel
theorem dX7_mix_140 : decode mX7_mix.2.2.1 140 = .ok (.istore 5, 2) := by decide +kernel
theorem dX7_mix_142 : decode mX7_mix.2.2.1 142 = .ok (.iload_n 3, 1) := by decide +kernel
theorem dX7_mix_143 : decode mX7_mix.2.2.1 143 = .ok (.istore 4, 2) := by decide +kernel
theorem dX7_mix_145 : decode mX7_mix.2.2.1 145 = .ok (.iload_n 2, 1) := by decide +kernel
theorem dX7_mix_146 : decode mX7_mix.2.2.1 146 = .ok (.bipush 30, 2) := by decide +kernel
theorem dX7_mix_148 : decode mX7_mix.2.2.1 148 = .ok (.invokestatic 43, 3) := by decide +kernel
theorem dX7_mix_151 : decode mX7_mix.2.2.1 151 = .ok (.istore_n 3, 1) := by decide +kernel
theorem dX7_mix_152 : decode mX7_mix.2.2.1 152 = .ok (.iload_n 1, 1) := by decide +kernel
theorem dX7_mix_153 : decode mX7_mix.2.2.1 153 = .ok (.istore_n 2, 1) := by decide +kernel
theorem dX7_mix_154 : decode mX7_mix.2.2.1 154 = .ok (.iload 7, 2) := by decide +kernel
theorem dX7_mix_156 : decode mX7_mix.2.2.1 156 = .ok (.istore_n 1, 1) := by decide +kernel
theorem dX7_mix_157 : decode mX7_mix.2.2.1 157 = .ok (.iinc 6 1, 3) := by decide +kernel
theorem dX7_mix_160 : decode mX7_mix.2.2.1 160 = .ok (.goto (-57), 3) := by decide +kernel
theorem dX7_mix_163 : decode mX7_mix.2.2.1 163 = .ok (.aload_n 0, 1) := by decide +kernel
theorem dX7_mix_164 : decode mX7_mix.2.2.1 164 = .ok (.getfield 15, 3) := by decide +kernel
theorem dX7_mix_167 : decode mX7_mix.2.2.1 167 = .ok (.iconst 0, 1) := by decide +kernel
theorem dX7_mix_168 : decode mX7_mix.2.2.1 168 = .ok (.dup2, 1) := by decide +kernel
theorem dX7_mix_169 : decode mX7_mix.2.2.1 169 = .ok (.iaload, 1) := by decide +kernel
theorem dX7_mix_170 : decode mX7_mix.2.2.1 170 = .ok (.iload_n 1, 1) := by decide +kernel
theorem dX7_mix_171 : decode mX7_mix.2.2.1 171 = .ok (.iadd, 1) := by decide +kernel
theorem dX7_mix_172 : decode mX7_mix.2.2.1 172 = .ok (.iastore, 1) := by decide +kernel
theorem dX7_mix_173 : decode mX7_mix.2.2.1 173 = .ok (.aload_n 0, 1) := by decide +kernel
theorem dX7_mix_174 : decode mX7_mix.2.2.1 174 = .ok (.getfield 15, 3) := by decide +kernel
theorem dX7_mix_177 : decode mX7_mix.2.2.1 177 = .ok (.iconst 1, 1) := by decide +kernel
theorem dX7_mix_178 : decode mX7_mix.2.2.1 178 = .ok (.dup2, 1) := by decide +kernel
theorem dX7_mix_179 : decode mX7_mix.2.2.1 179 = .ok (.iaload, 1) := by decide +kernel
theorem dX7_mix_180 : decode mX7_mix.2.2.1 180 = .ok (.iload_n 2, 1) := by decide +kernel
theorem dX7_mix_181 : decode mX7_mix.2.2.1 181 = .ok (.iadd, 1) := by decide +kernel
theorem dX7_mix_182 : decode mX7_mix.2.2.1 182 = .ok (.iastore, 1) := by decide +kernel
theorem dX7_mix_183 : decode mX7_mix.2.2.1 183 = .ok (.aload_n 0, 1) := by decide +kernel
theorem dX7_mix_184 : decode mX7_mix.2.2.1 184 = .ok (.getfield 15, 3) := by decide +kernel
theorem dX7_mix_187 : decode mX7_mix.2.2.1 187 = .ok (.iconst 2, 1) := by decide +kernel
theorem dX7_mix_188 : decode mX7_mix.2.2.1 188 = .ok (.dup2, 1) := by decide +kernel
theorem dX7_mix_189 : decode mX7_mix.2.2.1 189 = .ok (.iaload, 1) := by decide +kernel
theorem dX7_mix_190 : decode mX7_mix.2.2.1 190 = .ok (.iload_n 3, 1) := by decide +kernel
theorem dX7_mix_191 : decode mX7_mix.2.2.1 191 = .ok (.iadd, 1) := by decide +kernel
theorem dX7_mix_192 : decode mX7_mix.2.2.1 192 = .ok (.iastore, 1) := by decide +kernel
theorem dX7_mix_193 : decode mX7_mix.2.2.1 193 = .ok (.aload_n 0, 1) := by decide +kernel
theorem dX7_mix_194 : decode mX7_mix.2.2.1 194 = .ok (.getfield 15, 3) := by decide +kernel
theorem dX7_mix_197 : decode mX7_mix.2.2.1 197 = .ok (.iconst 3, 1) := by decide +kernel
theorem dX7_mix_198 : decode mX7_mix.2.2.1 198 = .ok (.dup2, 1) := by decide +kernel
theorem dX7_mix_199 : decode mX7_mix.2.2.1 199 = .ok (.iaload, 1) := by decide +kernel
theorem dX7_mix_200 : decode mX7_mix.2.2.1 200 = .ok (.iload 4, 2) := by decide +kernel
theorem dX7_mix_202 : decode mX7_mix.2.2.1 202 = .ok (.iadd, 1) := by decide +kernel
theorem dX7_mix_203 : decode mX7_mix.2.2.1 203 = .ok (.iastore, 1) := by decide +kernel
theorem dX7_mix_204 : decode mX7_mix.2.2.1 204 = .ok (.aload_n 0, 1) := by decide +kernel
theorem dX7_mix_205 : decode mX7_mix.2.2.1 205 = .ok (.getfield 15, 3) := by decide +kernel
theorem dX7_mix_208 : decode mX7_mix.2.2.1 208 = .ok (.iconst 4, 1) := by decide +kernel
theorem dX7_mix_209 : decode mX7_mix.2.2.1 209 = .ok (.dup2, 1) := by decide +kernel
theorem dX7_mix_210 : decode mX7_mix.2.2.1 210 = .ok (.iaload, 1) := by decide +kernel
theorem dX7_mix_211 : decode mX7_mix.2.2.1 211 = .ok (.iload 5, 2) := by decide +kernel
theorem dX7_mix_213 : decode mX7_mix.2.2.1 213 = .ok (.iadd, 1) := by decide +kernel
theorem dX7_mix_214 : decode mX7_mix.2.2.1 214 = .ok (.iastore, 1) := by decide +kernel
theorem dX7_mix_215 : decode mX7_mix.2.2.1 215 = .ok (.return_, 1) := by decide +kernel
theorem dX7_turn_0 : decode mX7_turn.2.2.1 0 = .ok (.iload_n 0, 1) := by decide +kernel
theorem dX7_turn_1 : decode mX7_turn.2.2.1 1 = .ok (.iload_n 1, 1) := by decide +kernel
theorem dX7_turn_2 : decode mX7_turn.2.2.1 2 = .ok (.ishl, 1) := by decide +kernel
theorem dX7_turn_3 : decode mX7_turn.2.2.1 3 = .ok (.iload_n 0, 1) := by decide +kernel
theorem dX7_turn_4 : decode mX7_turn.2.2.1 4 = .ok (.bipush 32, 2) := by decide +kernel
theorem dX7_turn_6 : decode mX7_turn.2.2.1 6 = .ok (.iload_n 1, 1) := by decide +kernel
theorem dX7_turn_7 : decode mX7_turn.2.2.1 7 = .ok (.isub, 1) := by decide +kernel
theorem dX7_turn_8 : decode mX7_turn.2.2.1 8 = .ok (.iushr, 1) := by decide +kernel
theorem dX7_turn_9 : decode mX7_turn.2.2.1 9 = .ok (.ior, 1) := by decide +kernel
theorem dX7_turn_10 : decode mX7_turn.2.2.1 10 = .ok (.ireturn, 1) := by decide +kernel
theorem dX7_blend_0 : decode mX7_blend.2.2.1 0 = .ok (.iload_n 0, 1) := by decide +kernel
theorem dX7_blend_1 : decode mX7_blend.2.2.1 1 = .ok (.bipush 20, 2) := by decide +kernel
theorem dX7_blend_3 : decode mX7_blend.2.2.1 3 = .ok (.if_icmp .ge 16, 3) := by decide +kernel
theorem dX7_blend_6 : decode mX7_blend.2.2.1 6 = .ok (.iload_n 1, 1) := by decide +kernel
theorem dX7_blend_7 : decode mX7_blend.2.2.1 7 = .ok (.iload_n 2, 1) := by decide +kernel
theorem dX7_blend_8 : decode mX7_blend.2.2.1 8 = .ok (.iand, 1) := by decide +kernel
theorem dX7_blend_9 : decode mX7_blend.2.2.1 9 = .ok (.iload_n 1, 1) := by decide +kernel
theorem dX7_blend_10 : decode mX7_blend.2.2.1 10 = .ok (.iconst (-1), 1) := by decide +kernel
theorem dX7_blend_11 : decode mX7_blend.2.2.1 11 = .ok (.ixor, 1) := by decide +kernel
theorem dX7_blend_12 : decode mX7_blend.2.2.1 12 = .ok (.iload_n 3, 1) := by decide +kernel
theorem dX7_blend_13 : decode mX7_blend.2.2.1 13 = .ok (.iand, 1) := by decide +kernel
theorem dX7_blend_14 : decode mX7_blend.2.2.1 14 = .ok (.ior, 1) := by decide +kernel
theorem dX7_blend_15 : decode mX7_blend.2.2.1 15 = .ok (.ldc 51, 2) := by decide +kernel
theorem dX7_blend_17 : decode mX7_blend.2.2.1 17 = .ok (.iadd, 1) := by decide +kernel
theorem dX7_blend_18 : decode mX7_blend.2.2.1 18 = .ok (.ireturn, 1) := by decide +kernel
theorem dX7_blend_19 : decode mX7_blend.2.2.1 19 = .ok (.iload_n 0, 1) := by decide +kernel
theorem dX7_blend_20 : decode mX7_blend.2.2.1 20 = .ok (.bipush 40, 2) := by decide +kernel
theorem dX7_blend_22 : decode mX7_blend.2.2.1 22 = .ok (.if_icmp .ge 12, 3) := by decide +kernel
theorem dX7_blend_25 : decode mX7_blend.2.2.1 25 = .ok (.iload_n 1, 1) := by decide +kernel
theorem dX7_blend_26 : decode mX7_blend.2.2.1 26 = .ok (.iload_n 2, 1) := by decide +kernel
theorem dX7_blend_27 : decode mX7_blend.2.2.1 27 = .ok (.ixor, 1) := by decide +kernel
theorem dX7_blend_28 : decode mX7_blend.2.2.1 28 = .ok (.iload_n 3, 1) := by decide +kernel
theorem dX7_blend_29 : decode mX7_blend.2.2.1 29 = .ok (.ixor, 1) := by decide +kernel
theorem dX7_blend_30 : decode mX7_blend.2.2.1 30 = .ok (.ldc 52, 2) := by decide +kernel
theorem dX7_blend_32 : decode mX7_blend.2.2.1 32 = .ok (.iadd, 1) := by decide +kernel
theorem dX7_blend_33 : decode mX7_blend.2.2.1 33 = .ok (.ireturn, 1) := by decide +kernel
theorem dX7_blend_34 : decode mX7_blend.2.2.1 34 = .ok (.iload_n 0, 1) := by decide +kernel
theorem dX7_blend_35 : decode mX7_blend.2.2.1 35 = .ok (.bipush 60, 2) := by decide +kernel
theorem dX7_blend_37 : decode mX7_blend.2.2.1 37 = .ok (.if_icmp .ge 18, 3) := by decide +kernel
theorem dX7_blend_40 : decode mX7_blend.2.2.1 40 = .ok (.iload_n 1, 1) := by decide +kernel
theorem dX7_blend_41 : decode mX7_blend.2.2.1 41 = .ok (.iload_n 2, 1) := by decide +kernel
theorem dX7_blend_42 : decode mX7_blend.2.2.1 42 = .ok (.iand, 1) := by decide +kernel
theorem dX7_blend_43 : decode mX7_blend.2.2.1 43 = .ok (.iload_n 1, 1) := by decide +kernel
theorem dX7_blend_44 : decode mX7_blend.2.2.1 44 = .ok (.iload_n 3, 1) := by decide +kernel
theorem dX7_blend_45 : decode mX7_blend.2.2.1 45 = .ok (.iand, 1) := by decide +kernel
theorem dX7_blend_46 : decode mX7_blend.2.2.1 46 = .ok (.ior, 1) := by decide +kernel
theorem dX7_blend_47 : decode mX7_blend.2.2.1 47 = .ok (.iload_n 2, 1) := by decide +kernel
theorem dX7_blend_48 : decode mX7_blend.2.2.1 48 = .ok (.iload_n 3, 1) := by decide +kernel
theorem dX7_blend_49 : decode mX7_blend.2.2.1 49 = .ok (.iand, 1) := by decide +kernel
theorem dX7_blend_50 : decode mX7_blend.2.2.1 50 = .ok (.ior, 1) := by decide +kernel
theorem dX7_blend_51 : decode mX7_blend.2.2.1 51 = .ok (.ldc 53, 2) := by decide +kernel
theorem dX7_blend_53 : decode mX7_blend.2.2.1 53 = .ok (.iadd, 1) := by decide +kernel
theorem dX7_blend_54 : decode mX7_blend.2.2.1 54 = .ok (.ireturn, 1) := by decide +kernel
theorem dX7_blend_55 : decode mX7_blend.2.2.1 55 = .ok (.iload_n 1, 1) := by decide +kernel
theorem dX7_blend_56 : decode mX7_blend.2.2.1 56 = .ok (.iload_n 2, 1) := by decide +kernel
theorem dX7_blend_57 : decode mX7_blend.2.2.1 57 = .ok (.ixor, 1) := by decide +kernel
theorem dX7_blend_58 : decode mX7_blend.2.2.1 58 = .ok (.iload_n 3, 1) := by decide +kernel
theorem dX7_blend_59 : decode mX7_blend.2.2.1 59 = .ok (.ixor, 1) := by decide +kernel
theorem dX7_blend_60 : decode mX7_blend.2.2.1 60 = .ok (.ldc 54, 2) := by decide +kernel
theorem dX7_blend_62 : decode mX7_blend.2.2.1 62 = .ok (.iadd, 1) := by decide +kernel
theorem dX7_blend_63 : decode mX7_blend.2.2.1 63 = .ok (.ireturn, 1) := by decide +kernel
