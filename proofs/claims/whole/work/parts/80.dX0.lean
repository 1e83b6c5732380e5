theorem dX0_init_0 : decode mX0_init.2.2.1 0 = .ok (.aload_n 0, 1) := by decide +kernel
theorem dX0_init_1 : decode mX0_init.2.2.1 1 = .ok (.invokespecial 3, 3) := by decide +kernel
theorem dX0_init_4 : decode mX0_init.2.2.1 4 = .ok (.aload_n 0, 1) := by decide +kernel
theorem dX0_init_5 : decode mX0_init.2.2.1 5 = .ok (.new 9, 3) := by decide +kernel
theorem dX0_init_8 : decode mX0_init.2.2.1 8 = .ok (.dup, 1) := by decide +kernel
theorem dX0_init_9 : decode mX0_init.2.2.1 9 = .ok (.bipush 104, 2) := by decide +kernel
theorem dX0_init_11 : decode mX0_init.2.2.1 11 = .ok (.invokespecial 11, 3) := by decide +kernel
theorem dX0_init_14 : decode mX0_init.2.2.1 14 = .ok (.putfield 14, 3) := by decide +kernel
theorem dX0_init_17 : decode mX0_init.2.2.1 17 = .ok (.aload_n 0, 1) := by decide +kernel
theorem dX0_init_18 : decode mX0_init.2.2.1 18 = .ok (.new 9, 3) := by decide +kernel
theorem dX0_init_21 : decode mX0_init.2.2.1 21 = .ok (.dup, 1) := by decide +kernel
theorem dX0_init_22 : decode mX0_init.2.2.1 22 = .ok (.bipush 104, 2) := by decide +kernel
theorem dX0_init_24 : decode mX0_init.2.2.1 24 = .ok (.invokespecial 11, 3) := by decide +kernel
theorem dX0_init_27 : decode mX0_init.2.2.1 27 = .ok (.putfield 20, 3) := by decide +kernel
theorem dX0_init_30 : decode mX0_init.2.2.1 30 = .ok (.aload_n 0, 1) := by decide +kernel
theorem dX0_init_31 : decode mX0_init.2.2.1 31 = .ok (.bipush 64, 2) := by decide +kernel
theorem dX0_init_33 : decode mX0_init.2.2.1 33 = .ok (.newarray .int, 2) := by decide +kernel
theorem dX0_init_35 : decode mX0_init.2.2.1 35 = .ok (.putfield 23, 3) := by decide +kernel
theorem dX0_init_38 : decode mX0_init.2.2.1 38 = .ok (.aload_n 0, 1) := by decide +kernel
theorem dX0_init_39 : decode mX0_init.2.2.1 39 = .ok (.aload_n 1, 1) := by decide +kernel
theorem dX0_init_40 : decode mX0_init.2.2.1 40 = .ok (.putfield 27, 3) := by decide +kernel
theorem dX0_init_43 : decode mX0_init.2.2.1 43 = .ok (.aload_n 0, 1) := by decide +kernel
theorem dX0_init_44 : decode mX0_init.2.2.1 44 = .ok (.aload_n 2, 1) := by decide +kernel
theorem dX0_init_45 : decode mX0_init.2.2.1 45 = .ok (.putfield 31, 3) := by decide +kernel
theorem dX0_init_48 : decode mX0_init.2.2.1 48 = .ok (.return_, 1) := by decide +kernel
theorem dX0_step_0 : decode mX0_step.2.2.1 0 = .ok (.aload_n 0, 1) := by decide +kernel
theorem dX0_step_1 : decode mX0_step.2.2.1 1 = .ok (.getfield 27, 3) := by decide +kernel
theorem dX0_step_4 : decode mX0_step.2.2.1 4 = .ok (.iload_n 1, 1) := by decide +kernel
theorem dX0_step_5 : decode mX0_step.2.2.1 5 = .ok (.invokevirtual 35, 3) := by decide +kernel
theorem dX0_step_8 : decode mX0_step.2.2.1 8 = .ok (.astore_n 3, 1) := by decide +kernel
theorem dX0_step_9 : decode mX0_step.2.2.1 9 = .ok (.aload_n 0, 1) := by decide +kernel
theorem dX0_step_10 : decode mX0_step.2.2.1 10 = .ok (.getfield 27, 3) := by decide +kernel
theorem dX0_step_13 : decode mX0_step.2.2.1 13 = .ok (.iload_n 1, 1) := by decide +kernel
theorem dX0_step_14 : decode mX0_step.2.2.1 14 = .ok (.iload_n 2, 1) := by decide +kernel
theorem dX0_step_15 : decode mX0_step.2.2.1 15 = .ok (.invokevirtual 41, 3) := by decide +kernel
theorem dX0_step_18 : decode mX0_step.2.2.1 18 = .ok (.astore 4, 2) := by decide +kernel
theorem dX0_step_20 : decode mX0_step.2.2.1 20 = .ok (.aload_n 3, 1) := by decide +kernel
theorem dX0_step_21 : decode mX0_step.2.2.1 21 = .ok (.ifnull 16, 3) := by decide +kernel
theorem dX0_step_24 : decode mX0_step.2.2.1 24 = .ok (.aload 4, 2) := by decide +kernel
theorem dX0_step_26 : decode mX0_step.2.2.1 26 = .ok (.ifnull 11, 3) := by decide +kernel
theorem dX0_step_29 : decode mX0_step.2.2.1 29 = .ok (.aload 4, 2) := by decide +kernel
theorem dX0_step_31 : decode mX0_step.2.2.1 31 = .ok (.getfield 45, 3) := by decide +kernel
theorem dX0_step_34 : decode mX0_step.2.2.1 34 = .ok (.ifCond .ne 5, 3) := by decide +kernel
theorem dX0_step_37 : decode mX0_step.2.2.1 37 = .ok (.iconst (-1), 1) := by decide +kernel
theorem dX0_step_38 : decode mX0_step.2.2.1 38 = .ok (.ireturn, 1) := by decide +kernel
theorem dX0_step_39 : decode mX0_step.2.2.1 39 = .ok (.aload 4, 2) := by decide +kernel
theorem dX0_step_41 : decode mX0_step.2.2.1 41 = .ok (.invokevirtual 51, 3) := by decide +kernel
theorem dX0_step_44 : decode mX0_step.2.2.1 44 = .ok (.istore 5, 2) := by decide +kernel
theorem dX0_step_46 : decode mX0_step.2.2.1 46 = .ok (.iload 5, 2) := by decide +kernel
theorem dX0_step_48 : decode mX0_step.2.2.1 48 = .ok (.iconst (-1), 1) := by decide +kernel
theorem dX0_step_49 : decode mX0_step.2.2.1 49 = .ok (.if_icmp .ne 5, 3) := by decide +kernel
theorem dX0_step_52 : decode mX0_step.2.2.1 52 = .ok (.iconst (-1), 1) := by decide +kernel
theorem dX0_step_53 : decode mX0_step.2.2.1 53 = .ok (.ireturn, 1) := by decide +kernel
theorem dX0_step_54 : decode mX0_step.2.2.1 54 = .ok (.aload_n 0, 1) := by decide +kernel
theorem dX0_step_55 : decode mX0_step.2.2.1 55 = .ok (.getfield 14, 3) := by decide +kernel
theorem dX0_step_58 : decode mX0_step.2.2.1 58 = .ok (.iconst 0, 1) := by decide +kernel
theorem dX0_step_59 : decode mX0_step.2.2.1 59 = .ok (.invokevirtual 55, 3) := by decide +kernel
theorem dX0_step_62 : decode mX0_step.2.2.1 62 = .ok (.aload_n 0, 1) := by decide +kernel
theorem dX0_step_63 : decode mX0_step.2.2.1 63 = .ok (.getfield 14, 3) := by decide +kernel
theorem dX0_step_66 : decode mX0_step.2.2.1 66 = .ok (.aload 4, 2) := by decide +kernel
theorem dX0_step_68 : decode mX0_step.2.2.1 68 = .ok (.getfield 58, 3) := by decide +kernel
theorem dX0_step_71 : decode mX0_step.2.2.1 71 = .ok (.iconst 0, 1) := by decide +kernel
theorem dX0_step_72 : decode mX0_step.2.2.1 72 = .ok (.iload 5, 2) := by decide +kernel
theorem dX0_step_74 : decode mX0_step.2.2.1 74 = .ok (.invokevirtual 61, 3) := by decide +kernel
theorem dX0_step_77 : decode mX0_step.2.2.1 77 = .ok (.aload 4, 2) := by decide +kernel
theorem dX0_step_79 : decode mX0_step.2.2.1 79 = .ok (.getfield 58, 3) := by decide +kernel
theorem dX0_step_82 : decode mX0_step.2.2.1 82 = .ok (.iload 5, 2) := by decide +kernel
theorem dX0_step_84 : decode mX0_step.2.2.1 84 = .ok (.invokevirtual 65, 3) := by decide +kernel
theorem dX0_step_87 : decode mX0_step.2.2.1 87 = .ok (.aload_n 0, 1) := by decide +kernel
theorem dX0_step_88 : decode mX0_step.2.2.1 88 = .ok (.aload 4, 2) := by decide +kernel
theorem dX0_step_90 : decode mX0_step.2.2.1 90 = .ok (.invokevirtual 68, 3) := by decide +kernel
theorem dX0_step_93 : decode mX0_step.2.2.1 93 = .ok (.istore 6, 2) := by decide +kernel
theorem dX0_step_95 : decode mX0_step.2.2.1 95 = .ok (.aload_n 0, 1) := by decide +kernel
theorem dX0_step_96 : decode mX0_step.2.2.1 96 = .ok (.aload_n 3, 1) := by decide +kernel
theorem dX0_step_97 : decode mX0_step.2.2.1 97 = .ok (.aload 4, 2) := by decide +kernel
theorem dX0_step_99 : decode mX0_step.2.2.1 99 = .ok (.iload 6, 2) := by decide +kernel
theorem dX0_step_101 : decode mX0_step.2.2.1 101 = .ok (.invokevirtual 72, 3) := by decide +kernel
theorem dX0_step_104 : decode mX0_step.2.2.1 104 = .ok (.istore 7, 2) := by decide +kernel
theorem dX0_step_106 : decode mX0_step.2.2.1 106 = .ok (.iload 6, 2) := by decide +kernel
theorem dX0_step_108 : decode mX0_step.2.2.1 108 = .ok (.bipush 10, 2) := by decide +kernel
theorem dX0_step_110 : decode mX0_step.2.2.1 110 = .ok (.if_icmp .eq 20, 3) := by decide +kernel
theorem dX0_step_113 : decode mX0_step.2.2.1 113 = .ok (.iload 6, 2) := by decide +kernel
theorem dX0_step_115 : decode mX0_step.2.2.1 115 = .ok (.bipush 9, 2) := by decide +kernel
theorem dX0_step_117 : decode mX0_step.2.2.1 117 = .ok (.if_icmp .eq 13, 3) := by decide +kernel
theorem dX0_step_120 : decode mX0_step.2.2.1 120 = .ok (.aload 4, 2) := by decide +kernel
theorem dX0_step_122 : decode mX0_step.2.2.1 122 = .ok (.aload 4, 2) := by decide +kernel
theorem dX0_step_124 : decode mX0_step.2.2.1 124 = .ok (.getfield 45, 3) := by decide +kernel
theorem dX0_step_127 : decode mX0_step.2.2.1 127 = .ok (.putfield 76, 3) := by decide +kernel
theorem dX0_step_130 : decode mX0_step.2.2.1 130 = .ok (.iload 7, 2) := by decide +kernel
theorem dX0_step_132 : decode mX0_step.2.2.1 132 = .ok (.ifCond .eq 14, 3) := by decide +kernel
theorem dX0_step_135 : decode mX0_step.2.2.1 135 = .ok (.aload_n 0, 1) := by decide +kernel
theorem dX0_step_136 : decode mX0_step.2.2.1 136 = .ok (.getfield 27, 3) := by decide +kernel
theorem dX0_step_139 : decode mX0_step.2.2.1 139 = .ok (.iload_n 1, 1) := by decide +kernel
theorem dX0_step_140 : decode mX0_step.2.2.1 140 = .ok (.iload_n 2, 1) := by decide +kernel
theorem dX0_step_141 : decode mX0_step.2.2.1 141 = .ok (.iload 7, 2) := by decide +kernel
theorem dX0_step_143 : decode mX0_step.2.2.1 143 = .ok (.invokevirtual 79, 3) := by decide +kernel
theorem dX0_step_146 : decode mX0_step.2.2.1 146 = .ok (.aload_n 0, 1) := by decide +kernel
theorem dX0_step_147 : decode mX0_step.2.2.1 147 = .ok (.aload_n 3, 1) := by decide +kernel
theorem dX0_step_148 : decode mX0_step.2.2.1 148 = .ok (.iload_n 1, 1) := by decide +kernel
theorem dX0_step_149 : decode mX0_step.2.2.1 149 = .ok (.invokevirtual 83, 3) := by decide +kernel
theorem dX0_step_152 : decode mX0_step.2.2.1 152 = .ok (.iload 7, 2) := by decide +kernel
theorem dX0_step_154 : decode mX0_step.2.2.1 154 = .ok (.ifCond .eq 11, 3) := by decide +kernel
theorem dX0_step_157 : decode mX0_step.2.2.1 157 = .ok (.bipush 20, 2) := by decide +kernel
theorem dX0_step_159 : decode mX0_step.2.2.1 159 = .ok (.iload 7, 2) := by decide +kernel
theorem dX0_step_161 : decode mX0_step.2.2.1 161 = .ok (.iadd, 1) := by decide +kernel
theorem dX0_step_162 : decode mX0_step.2.2.1 162 = .ok (.goto 5, 3) := by decide +kernel
theorem dX0_step_165 : decode mX0_step.2.2.1 165 = .ok (.iload 6, 2) := by decide +kernel
theorem dX0_step_167 : decode mX0_step.2.2.1 167 = .ok (.ireturn, 1) := by decide +kernel
theorem dX0_kindFor_0 : decode mX0_kindFor.2.2.1 0 = .ok (.aload_n 1, 1) := by decide +kernel
theorem dX0_kindFor_1 : decode mX0_kindFor.2.2.1 1 = .ok (.getfield 87, 3) := by decide +kernel
theorem dX0_kindFor_4 : decode mX0_kindFor.2.2.1 4 = .ok (.ifCond .ne 6, 3) := by decide +kernel
theorem dX0_kindFor_7 : decode mX0_kindFor.2.2.1 7 = .ok (.bipush 10, 2) := by decide +kernel
theorem dX0_kindFor_9 : decode mX0_kindFor.2.2.1 9 = .ok (.ireturn, 1) := by decide +kernel
theorem dX0_kindFor_10 : decode mX0_kindFor.2.2.1 10 = .ok (.aload_n 0, 1) := by decide +kernel
theorem dX0_kindFor_11 : decode mX0_kindFor.2.2.1 11 = .ok (.getfield 14, 3) := by decide +kernel
theorem dX0_kindFor_14 : decode mX0_kindFor.2.2.1 14 = .ok (.iconst 0, 1) := by decide +kernel
theorem dX0_kindFor_15 : decode mX0_kindFor.2.2.1 15 = .ok (.invokevirtual 90, 3) := by decide +kernel
theorem dX0_kindFor_18 : decode mX0_kindFor.2.2.1 18 = .ok (.lstore_n 2, 1) := by decide +kernel
theorem dX0_kindFor_19 : decode mX0_kindFor.2.2.1 19 = .ok (.lload_n 2, 1) := by decide +kernel
theorem dX0_kindFor_20 : decode mX0_kindFor.2.2.1 20 = .ok (.ldc2_w 94, 3) := by decide +kernel
theorem dX0_kindFor_23 : decode mX0_kindFor.2.2.1 23 = .ok (.lcmp, 1) := by decide +kernel
theorem dX0_kindFor_24 : decode mX0_kindFor.2.2.1 24 = .ok (.ifCond .le 6, 3) := by decide +kernel
theorem dX0_kindFor_27 : decode mX0_kindFor.2.2.1 27 = .ok (.bipush 12, 2) := by decide +kernel
theorem dX0_kindFor_29 : decode mX0_kindFor.2.2.1 29 = .ok (.ireturn, 1) := by decide +kernel
theorem dX0_kindFor_30 : decode mX0_kindFor.2.2.1 30 = .ok (.lload_n 2, 1) := by decide +kernel
theorem dX0_kindFor_31 : decode mX0_kindFor.2.2.1 31 = .ok (.lconst 0, 1) := by decide +kernel
theorem dX0_kindFor_32 : decode mX0_kindFor.2.2.1 32 = .ok (.lcmp, 1) := by decide +kernel
theorem dX0_kindFor_33 : decode mX0_kindFor.2.2.1 33 = .ok (.ifCond .ne 6, 3) := by decide +kernel
theorem dX0_kindFor_36 : decode mX0_kindFor.2.2.1 36 = .ok (.bipush 9, 2) := by decide +kernel
theorem dX0_kindFor_38 : decode mX0_kindFor.2.2.1 38 = .ok (.ireturn, 1) := by decide +kernel
theorem dX0_kindFor_39 : decode mX0_kindFor.2.2.1 39 = .ok (.aload_n 0, 1) := by decide +kernel
theorem dX0_kindFor_40 : decode mX0_kindFor.2.2.1 40 = .ok (.getfield 14, 3) := by decide +kernel
theorem dX0_kindFor_43 : decode mX0_kindFor.2.2.1 43 = .ok (.iconst 4, 1) := by decide +kernel
theorem dX0_kindFor_44 : decode mX0_kindFor.2.2.1 44 = .ok (.invokevirtual 96, 3) := by decide +kernel
theorem dX0_kindFor_47 : decode mX0_kindFor.2.2.1 47 = .ok (.bipush 8, 2) := by decide +kernel
theorem dX0_kindFor_49 : decode mX0_kindFor.2.2.1 49 = .ok (.if_icmp .le 8, 3) := by decide +kernel
theorem dX0_kindFor_52 : decode mX0_kindFor.2.2.1 52 = .ok (.bipush 11, 2) := by decide +kernel
theorem dX0_kindFor_54 : decode mX0_kindFor.2.2.1 54 = .ok (.goto 11, 3) := by decide +kernel
theorem dX0_kindFor_57 : decode mX0_kindFor.2.2.1 57 = .ok (.aload_n 0, 1) := by decide +kernel
theorem dX0_kindFor_58 : decode mX0_kindFor.2.2.1 58 = .ok (.getfield 14, 3) := by decide +kernel
theorem dX0_kindFor_61 : decode mX0_kindFor.2.2.1 61 = .ok (.iconst 4, 1) := by decide +kernel
theorem dX0_kindFor_62 : decode mX0_kindFor.2.2.1 62 = .ok (.invokevirtual 96, 3) := by decide +kernel
theorem dX0_kindFor_65 : decode mX0_kindFor.2.2.1 65 = .ok (.ireturn, 1) := by decide +kernel
theorem dX0_heed_0 : decode mX0_heed.2.2.1 0 = .ok (.iload_n 3, 1) := by decide +kernel
theorem dX0_heed_1 : decode mX0_heed.2.2.1 1 = .ok (.bipush 12, 2) := by decide +kernel
theorem dX0_heed_3 : decode mX0_heed.2.2.1 3 = .ok (.if_icmp .ne 5, 3) := by decide +kernel
theorem dX0_heed_6 : decode mX0_heed.2.2.1 6 = .ok (.iconst 2, 1) := by decide +kernel
theorem dX0_heed_7 : decode mX0_heed.2.2.1 7 = .ok (.ireturn, 1) := by decide +kernel
theorem dX0_heed_8 : decode mX0_heed.2.2.1 8 = .ok (.iload_n 3, 1) := by decide +kernel
theorem dX0_heed_9 : decode mX0_heed.2.2.1 9 = .ok (.bipush 8, 2) := by decide +kernel
theorem dX0_heed_11 : decode mX0_heed.2.2.1 11 = .ok (.if_icmp .gt 22, 3) := by decide +kernel
theorem dX0_heed_14 : decode mX0_heed.2.2.1 14 = .ok (.aload_n 0, 1) := by decide +kernel
theorem dX0_heed_15 : decode mX0_heed.2.2.1 15 = .ok (.iload_n 3, 1) := by decide +kernel
theorem dX0_heed_16 : decode mX0_heed.2.2.1 16 = .ok (.aload_n 0, 1) := by decide +kernel
theorem dX0_heed_17 : decode mX0_heed.2.2.1 17 = .ok (.getfield 14, 3) := by decide +kernel
theorem dX0_heed_20 : decode mX0_heed.2.2.1 20 = .ok (.invokevirtual 100, 3) := by decide +kernel
theorem dX0_heed_23 : decode mX0_heed.2.2.1 23 = .ok (.iconst 4, 1) := by decide +kernel
theorem dX0_heed_24 : decode mX0_heed.2.2.1 24 = .ok (.isub, 1) := by decide +kernel
theorem dX0_heed_25 : decode mX0_heed.2.2.1 25 = .ok (.invokevirtual 103, 3) := by decide +kernel
theorem dX0_heed_28 : decode mX0_heed.2.2.1 28 = .ok (.ifCond .ne 5, 3) := by decide +kernel
theorem dX0_heed_31 : decode mX0_heed.2.2.1 31 = .ok (.iconst 3, 1) := by decide +kernel
theorem dX0_heed_32 : decode mX0_heed.2.2.1 32 = .ok (.ireturn, 1) := by decide +kernel
theorem dX0_heed_33 : decode mX0_heed.2.2.1 33 = .ok (.iload_n 3, 1) := by decide +kernel
theorem dX0_heed_34 : decode mX0_heed.2.2.1 34 = .ok (.tableswitch 124 0 10 #[58, 70, 77, 84, 91, 97, 103, 110, 124, 124, 117], 58) := by decide +kernel
theorem dX0_heed_92 : decode mX0_heed.2.2.1 92 = .ok (.aload_n 2, 1) := by decide +kernel
theorem dX0_heed_93 : decode mX0_heed.2.2.1 93 = .ok (.iconst 1, 1) := by decide +kernel
theorem dX0_heed_94 : decode mX0_heed.2.2.1 94 = .ok (.putfield 107, 3) := by decide +kernel
theorem dX0_heed_97 : decode mX0_heed.2.2.1 97 = .ok (.aload_n 2, 1) := by decide +kernel
theorem dX0_heed_98 : decode mX0_heed.2.2.1 98 = .ok (.iconst 0, 1) := by decide +kernel
theorem dX0_heed_99 : decode mX0_heed.2.2.1 99 = .ok (.putfield 110, 3) := by decide +kernel
theorem dX0_heed_102 : decode mX0_heed.2.2.1 102 = .ok (.iconst 0, 1) := by decide +kernel
theorem dX0_heed_103 : decode mX0_heed.2.2.1 103 = .ok (.ireturn, 1) := by decide +kernel
theorem dX0_heed_104 : decode mX0_heed.2.2.1 104 = .ok (.aload_n 2, 1) := by decide +kernel
theorem dX0_heed_105 : decode mX0_heed.2.2.1 105 = .ok (.iconst 0, 1) := by decide +kernel
theorem dX0_heed_106 : decode mX0_heed.2.2.1 106 = .ok (.putfield 107, 3) := by decide +kernel
theorem dX0_heed_109 : decode mX0_heed.2.2.1 109 = .ok (.iconst 0, 1) := by decide +kernel
theorem dX0_heed_110 : decode mX0_heed.2.2.1 110 = .ok (.ireturn, 1) := by decide +kernel
theorem dX0_heed_111 : decode mX0_heed.2.2.1 111 = .ok (.aload_n 2, 1) := by decide +kernel
theorem dX0_heed_112 : decode mX0_heed.2.2.1 112 = .ok (.iconst 1, 1) := by decide +kernel
theorem dX0_heed_113 : decode mX0_heed.2.2.1 113 = .ok (.putfield 114, 3) := by decide +kernel
theorem dX0_heed_116 : decode mX0_heed.2.2.1 116 = .ok (.iconst 0, 1) := by decide +kernel
theorem dX0_heed_117 : decode mX0_heed.2.2.1 117 = .ok (.ireturn, 1) := by decide +kernel
theorem dX0_heed_118 : decode mX0_heed.2.2.1 118 = .ok (.aload_n 2, 1) := by decide +kernel
theorem dX0_heed_119 : decode mX0_heed.2.2.1 119 = .ok (.iconst 0, 1) := by decide +kernel
theorem dX0_heed_120 : decode mX0_heed.2.2.1 120 = .ok (.putfield 114, 3) := by decide +kernel
theorem dX0_heed_123 : decode mX0_heed.2.2.1 123 = .ok (.iconst 0, 1) := by decide +kernel
theorem dX0_heed_124 : decode mX0_heed.2.2.1 124 = .ok (.ireturn, 1) := by decide +kernel
theorem dX0_heed_125 : decode mX0_heed.2.2.1 125 = .ok (.aload_n 0, 1) := by decide +kernel
theorem dX0_heed_126 : decode mX0_heed.2.2.1 126 = .ok (.aload_n 2, 1) := by decide +kernel
theorem dX0_heed_127 : decode mX0_heed.2.2.1 127 = .ok (.invokevirtual 117, 3) := by decide +kernel
theorem dX0_heed_130 : decode mX0_heed.2.2.1 130 = .ok (.ireturn, 1) := by decide +kernel
theorem dX0_heed_131 : decode mX0_heed.2.2.1 131 = .ok (.aload_n 0, 1) := by decide +kernel
theorem dX0_heed_132 : decode mX0_heed.2.2.1 132 = .ok (.aload_n 2, 1) := by decide +kernel
theorem dX0_heed_133 : decode mX0_heed.2.2.1 133 = .ok (.invokevirtual 120, 3) := by decide +kernel
theorem dX0_heed_136 : decode mX0_heed.2.2.1 136 = .ok (.ireturn, 1) := by decide +kernel
theorem dX0_heed_137 : decode mX0_heed.2.2.1 137 = .ok (.aload_n 0, 1) := by decide +kernel
theorem dX0_heed_138 : decode mX0_heed.2.2.1 138 = .ok (.aload_n 1, 1) := by decide +kernel
theorem dX0_heed_139 : decode mX0_heed.2.2.1 139 = .ok (.aload_n 2, 1) := by decide +kernel
theorem dX0_heed_140 : decode mX0_heed.2.2.1 140 = .ok (.invokevirtual 123, 3) := by decide +kernel
theorem dX0_heed_143 : decode mX0_heed.2.2.1 143 = .ok (.ireturn, 1) := by decide +kernel
theorem dX0_heed_144 : decode mX0_heed.2.2.1 144 = .ok (.aload_n 0, 1) := by decide +kernel
theorem dX0_heed_145 : decode mX0_heed.2.2.1 145 = .ok (.aload_n 1, 1) := by decide +kernel
theorem dX0_heed_146 : decode mX0_heed.2.2.1 146 = .ok (.aload_n 2, 1) := by decide +kernel
theorem dX0_heed_147 : decode mX0_heed.2.2.1 147 = .ok (.invokevirtual 127, 3) := by decide +kernel
theorem dX0_heed_150 : decode mX0_heed.2.2.1 150 = .ok (.ireturn, 1) := by decide +kernel
theorem dX0_heed_151 : decode mX0_heed.2.2.1 151 = .ok (.aload_n 0, 1) := by decide +kernel
theorem dX0_heed_152 : decode mX0_heed.2.2.1 152 = .ok (.aload_n 1, 1) := by decide +kernel
theorem dX0_heed_153 : decode mX0_heed.2.2.1 153 = .ok (.aload_n 2, 1) := by decide +kernel
theorem dX0_heed_154 : decode mX0_heed.2.2.1 154 = .ok (.invokevirtual 130, 3) := by decide +kernel
theorem dX0_heed_157 : decode mX0_heed.2.2.1 157 = .ok (.ireturn, 1) := by decide +kernel
theorem dX0_heed_158 : decode mX0_heed.2.2.1 158 = .ok (.iconst 0, 1) := by decide +kernel
theorem dX0_heed_159 : decode mX0_heed.2.2.1 159 = .ok (.ireturn, 1) := by decide +kernel
theorem dX0_isLengthOf_0 : decode mX0_isLengthOf.2.2.1 0 = .ok (.iload_n 1, 1) := by decide +kernel
theorem dX0_isLengthOf_1 : decode mX0_isLengthOf.2.2.1 1 = .ok (.tableswitch 101 4 8 #[35, 46, 68, 92, 80], 35) := by decide +kernel
theorem dX0_isLengthOf_36 : decode mX0_isLengthOf.2.2.1 36 = .ok (.iload_n 2, 1) := by decide +kernel
theorem dX0_isLengthOf_37 : decode mX0_isLengthOf.2.2.1 37 = .ok (.iconst 5, 1) := by decide +kernel
theorem dX0_isLengthOf_38 : decode mX0_isLengthOf.2.2.1 38 = .ok (.if_icmp .ne 7, 3) := by decide +kernel
theorem dX0_isLengthOf_41 : decode mX0_isLengthOf.2.2.1 41 = .ok (.iconst 1, 1) := by decide +kernel
theorem dX0_isLengthOf_42 : decode mX0_isLengthOf.2.2.1 42 = .ok (.goto 4, 3) := by decide +kernel
theorem dX0_isLengthOf_45 : decode mX0_isLengthOf.2.2.1 45 = .ok (.iconst 0, 1) := by decide +kernel
theorem dX0_isLengthOf_46 : decode mX0_isLengthOf.2.2.1 46 = .ok (.ireturn, 1) := by decide +kernel
theorem dX0_isLengthOf_47 : decode mX0_isLengthOf.2.2.1 47 = .ok (.iload_n 2, 1) := by decide +kernel
theorem dX0_isLengthOf_48 : decode mX0_isLengthOf.2.2.1 48 = .ok (.iconst 1, 1) := by decide +kernel
theorem dX0_isLengthOf_49 : decode mX0_isLengthOf.2.2.1 49 = .ok (.aload_n 0, 1) := by decide +kernel
theorem dX0_isLengthOf_50 : decode mX0_isLengthOf.2.2.1 50 = .ok (.getfield 27, 3) := by decide +kernel
theorem dX0_isLengthOf_53 : decode mX0_isLengthOf.2.2.1 53 = .ok (.getfield 133, 3) := by decide +kernel
theorem dX0_isLengthOf_56 : decode mX0_isLengthOf.2.2.1 56 = .ok (.invokevirtual 137, 3) := by decide +kernel
theorem dX0_isLengthOf_59 : decode mX0_isLengthOf.2.2.1 59 = .ok (.iadd, 1) := by decide +kernel
theorem dX0_isLengthOf_60 : decode mX0_isLengthOf.2.2.1 60 = .ok (.if_icmp .ne 7, 3) := by decide +kernel
theorem dX0_isLengthOf_63 : decode mX0_isLengthOf.2.2.1 63 = .ok (.iconst 1, 1) := by decide +kernel
theorem dX0_isLengthOf_64 : decode mX0_isLengthOf.2.2.1 64 = .ok (.goto 4, 3) := by decide +kernel
theorem dX0_isLengthOf_67 : decode mX0_isLengthOf.2.2.1 67 = .ok (.iconst 0, 1) := by decide +kernel
theorem dX0_isLengthOf_68 : decode mX0_isLengthOf.2.2.1 68 = .ok (.ireturn, 1) := by decide +kernel
theorem dX0_isLengthOf_69 : decode mX0_isLengthOf.2.2.1 69 = .ok (.iload_n 2, 1) := by decide +kernel
theorem dX0_isLengthOf_70 : decode mX0_isLengthOf.2.2.1 70 = .ok (.bipush 13, 2) := by decide +kernel
theorem dX0_isLengthOf_72 : decode mX0_isLengthOf.2.2.1 72 = .ok (.if_icmp .ne 7, 3) := by decide +kernel
theorem dX0_isLengthOf_75 : decode mX0_isLengthOf.2.2.1 75 = .ok (.iconst 1, 1) := by decide +kernel
theorem dX0_isLengthOf_76 : decode mX0_isLengthOf.2.2.1 76 = .ok (.goto 4, 3) := by decide +kernel
theorem dX0_isLengthOf_79 : decode mX0_isLengthOf.2.2.1 79 = .ok (.iconst 0, 1) := by decide +kernel
theorem dX0_isLengthOf_80 : decode mX0_isLengthOf.2.2.1 80 = .ok (.ireturn, 1) := by decide +kernel
theorem dX0_isLengthOf_81 : decode mX0_isLengthOf.2.2.1 81 = .ok (.iload_n 2, 1) := by decide +kernel
theorem dX0_isLengthOf_82 : decode mX0_isLengthOf.2.2.1 82 = .ok (.bipush 13, 2) := by decide +kernel
theorem dX0_isLengthOf_84 : decode mX0_isLengthOf.2.2.1 84 = .ok (.if_icmp .ne 7, 3) := by decide +kernel
theorem dX0_isLengthOf_87 : decode mX0_isLengthOf.2.2.1 87 = .ok (.iconst 1, 1) := by decide +kernel
theorem dX0_isLengthOf_88 : decode mX0_isLengthOf.2.2.1 88 = .ok (.goto 4, 3) := by decide +kernel
theorem dX0_isLengthOf_91 : decode mX0_isLengthOf.2.2.1 91 = .ok (.iconst 0, 1) := by decide +kernel
theorem dX0_isLengthOf_92 : decode mX0_isLengthOf.2.2.1 92 = .ok (.ireturn, 1) := by decide +kernel
theorem dX0_isLengthOf_93 : decode mX0_isLengthOf.2.2.1 93 = .ok (.iload_n 2, 1) := by decide +kernel
theorem dX0_isLengthOf_94 : decode mX0_isLengthOf.2.2.1 94 = .ok (.bipush 10, 2) := by decide +kernel
theorem dX0_isLengthOf_96 : decode mX0_isLengthOf.2.2.1 96 = .ok (.bipush 73, 2) := by decide +kernel
theorem dX0_isLengthOf_98 : decode mX0_isLengthOf.2.2.1 98 = .ok (.invokestatic 142, 3) := by decide +kernel
theorem dX0_isLengthOf_101 : decode mX0_isLengthOf.2.2.1 101 = .ok (.ireturn, 1) := by decide +kernel
theorem dX0_isLengthOf_102 : decode mX0_isLengthOf.2.2.1 102 = .ok (.iload_n 2, 1) := by decide +kernel
theorem dX0_isLengthOf_103 : decode mX0_isLengthOf.2.2.1 103 = .ok (.iconst 1, 1) := by decide +kernel
theorem dX0_isLengthOf_104 : decode mX0_isLengthOf.2.2.1 104 = .ok (.if_icmp .ne 7, 3) := by decide +kernel
theorem dX0_isLengthOf_107 : decode mX0_isLengthOf.2.2.1 107 = .ok (.iconst 1, 1) := by decide +kernel
theorem dX0_isLengthOf_108 : decode mX0_isLengthOf.2.2.1 108 = .ok (.goto 4, 3) := by decide +kernel
theorem dX0_isLengthOf_111 : decode mX0_isLengthOf.2.2.1 111 = .ok (.iconst 0, 1) := by decide +kernel
theorem dX0_isLengthOf_112 : decode mX0_isLengthOf.2.2.1 112 = .ok (.ireturn, 1) := by decide +kernel
theorem dX0_heedHello_0 : decode mX0_heedHello.2.2.1 0 = .ok (.aload_n 0, 1) := by decide +kernel
theorem dX0_heedHello_1 : decode mX0_heedHello.2.2.1 1 = .ok (.getfield 27, 3) := by decide +kernel
theorem dX0_heedHello_4 : decode mX0_heedHello.2.2.1 4 = .ok (.getfield 133, 3) := by decide +kernel
theorem dX0_heedHello_7 : decode mX0_heedHello.2.2.1 7 = .ok (.aload_n 0, 1) := by decide +kernel
theorem dX0_heedHello_8 : decode mX0_heedHello.2.2.1 8 = .ok (.getfield 14, 3) := by decide +kernel
theorem dX0_heedHello_11 : decode mX0_heedHello.2.2.1 11 = .ok (.invokevirtual 146, 3) := by decide +kernel
theorem dX0_heedHello_14 : decode mX0_heedHello.2.2.1 14 = .ok (.ifCond .ne 5, 3) := by decide +kernel
theorem dX0_heedHello_17 : decode mX0_heedHello.2.2.1 17 = .ok (.iconst 1, 1) := by decide +kernel
theorem dX0_heedHello_18 : decode mX0_heedHello.2.2.1 18 = .ok (.ireturn, 1) := by decide +kernel
theorem dX0_heedHello_19 : decode mX0_heedHello.2.2.1 19 = .ok (.aload_n 2, 1) := by decide +kernel
theorem dX0_heedHello_20 : decode mX0_heedHello.2.2.1 20 = .ok (.iconst 1, 1) := by decide +kernel
theorem dX0_heedHello_21 : decode mX0_heedHello.2.2.1 21 = .ok (.putfield 87, 3) := by decide +kernel
theorem dX0_heedHello_24 : decode mX0_heedHello.2.2.1 24 = .ok (.aload_n 1, 1) := by decide +kernel
theorem dX0_heedHello_25 : decode mX0_heedHello.2.2.1 25 = .ok (.getfield 150, 3) := by decide +kernel
theorem dX0_heedHello_28 : decode mX0_heedHello.2.2.1 28 = .ok (.lconst 0, 1) := by decide +kernel
theorem dX0_heedHello_29 : decode mX0_heedHello.2.2.1 29 = .ok (.lcmp, 1) := by decide +kernel
theorem dX0_heedHello_30 : decode mX0_heedHello.2.2.1 30 = .ok (.ifCond .eq 23, 3) := by decide +kernel
theorem dX0_heedHello_33 : decode mX0_heedHello.2.2.1 33 = .ok (.aload_n 0, 1) := by decide +kernel
theorem dX0_heedHello_34 : decode mX0_heedHello.2.2.1 34 = .ok (.aload_n 1, 1) := by decide +kernel
theorem dX0_heedHello_35 : decode mX0_heedHello.2.2.1 35 = .ok (.getfield 150, 3) := by decide +kernel
theorem dX0_heedHello_38 : decode mX0_heedHello.2.2.1 38 = .ok (.invokevirtual 156, 3) := by decide +kernel
theorem dX0_heedHello_41 : decode mX0_heedHello.2.2.1 41 = .ok (.aload_n 0, 1) := by decide +kernel
theorem dX0_heedHello_42 : decode mX0_heedHello.2.2.1 42 = .ok (.getfield 27, 3) := by decide +kernel
theorem dX0_heedHello_45 : decode mX0_heedHello.2.2.1 45 = .ok (.aload_n 2, 1) := by decide +kernel
theorem dX0_heedHello_46 : decode mX0_heedHello.2.2.1 46 = .ok (.aload_n 0, 1) := by decide +kernel
theorem dX0_heedHello_47 : decode mX0_heedHello.2.2.1 47 = .ok (.getfield 20, 3) := by decide +kernel
theorem dX0_heedHello_50 : decode mX0_heedHello.2.2.1 50 = .ok (.invokevirtual 160, 3) := by decide +kernel
theorem dX0_heedHello_53 : decode mX0_heedHello.2.2.1 53 = .ok (.iconst 0, 1) := by decide +kernel
theorem dX0_heedHello_54 : decode mX0_heedHello.2.2.1 54 = .ok (.ireturn, 1) := by decide +kernel
theorem dX0_heedHave_0 : decode mX0_heedHave.2.2.1 0 = .ok (.aload_n 0, 1) := by decide +kernel
theorem dX0_heedHave_1 : decode mX0_heedHave.2.2.1 1 = .ok (.getfield 14, 3) := by decide +kernel
theorem dX0_heedHave_4 : decode mX0_heedHave.2.2.1 4 = .ok (.iconst 5, 1) := by decide +kernel
theorem dX0_heedHave_5 : decode mX0_heedHave.2.2.1 5 = .ok (.invokevirtual 90, 3) := by decide +kernel
theorem dX0_heedHave_8 : decode mX0_heedHave.2.2.1 8 = .ok (.lstore_n 2, 1) := by decide +kernel
theorem dX0_heedHave_9 : decode mX0_heedHave.2.2.1 9 = .ok (.aload_n 0, 1) := by decide +kernel
theorem dX0_heedHave_10 : decode mX0_heedHave.2.2.1 10 = .ok (.getfield 27, 3) := by decide +kernel
theorem dX0_heedHave_13 : decode mX0_heedHave.2.2.1 13 = .ok (.getfield 133, 3) := by decide +kernel
theorem dX0_heedHave_16 : decode mX0_heedHave.2.2.1 16 = .ok (.lload_n 2, 1) := by decide +kernel
theorem dX0_heedHave_17 : decode mX0_heedHave.2.2.1 17 = .ok (.invokevirtual 164, 3) := by decide +kernel
theorem dX0_heedHave_20 : decode mX0_heedHave.2.2.1 20 = .ok (.ifCond .ne 5, 3) := by decide +kernel
theorem dX0_heedHave_23 : decode mX0_heedHave.2.2.1 23 = .ok (.iconst 4, 1) := by decide +kernel
theorem dX0_heedHave_24 : decode mX0_heedHave.2.2.1 24 = .ok (.ireturn, 1) := by decide +kernel
theorem dX0_heedHave_25 : decode mX0_heedHave.2.2.1 25 = .ok (.aload_n 1, 1) := by decide +kernel
theorem dX0_heedHave_26 : decode mX0_heedHave.2.2.1 26 = .ok (.dup, 1) := by decide +kernel
theorem dX0_heedHave_27 : decode mX0_heedHave.2.2.1 27 = .ok (.getfield 168, 3) := by decide +kernel
theorem dX0_heedHave_30 : decode mX0_heedHave.2.2.1 30 = .ok (.lconst 1, 1) := by decide +kernel
theorem dX0_heedHave_31 : decode mX0_heedHave.2.2.1 31 = .ok (.lload_n 2, 1) := by decide +kernel
theorem dX0_heedHave_32 : decode mX0_heedHave.2.2.1 32 = .ok (.l2i, 1) := by decide +kernel
theorem dX0_heedHave_33 : decode mX0_heedHave.2.2.1 33 = .ok (.lshl, 1) := by decide +kernel
theorem dX0_heedHave_34 : decode mX0_heedHave.2.2.1 34 = .ok (.lor, 1) := by decide +kernel
theorem dX0_heedHave_35 : decode mX0_heedHave.2.2.1 35 = .ok (.putfield 168, 3) := by decide +kernel
theorem dX0_heedHave_38 : decode mX0_heedHave.2.2.1 38 = .ok (.iconst 0, 1) := by decide +kernel
theorem dX0_heedHave_39 : decode mX0_heedHave.2.2.1 39 = .ok (.ireturn, 1) := by decide +kernel
theorem dX0_heedBitfield_0 : decode mX0_heedBitfield.2.2.1 0 = .ok (.lconst 0, 1) := by decide +kernel
theorem dX0_heedBitfield_1 : decode mX0_heedBitfield.2.2.1 1 = .ok (.lstore_n 2, 1) := by decide +kernel
theorem dX0_heedBitfield_2 : decode mX0_heedBitfield.2.2.1 2 = .ok (.iconst 0, 1) := by decide +kernel
theorem dX0_heedBitfield_3 : decode mX0_heedBitfield.2.2.1 3 = .ok (.istore 4, 2) := by decide +kernel
theorem dX0_heedBitfield_5 : decode mX0_heedBitfield.2.2.1 5 = .ok (.iload 4, 2) := by decide +kernel
theorem dX0_heedBitfield_7 : decode mX0_heedBitfield.2.2.1 7 = .ok (.bipush 8, 2) := by decide +kernel
theorem dX0_heedBitfield_9 : decode mX0_heedBitfield.2.2.1 9 = .ok (.aload_n 0, 1) := by decide +kernel
theorem dX0_heedBitfield_10 : decode mX0_heedBitfield.2.2.1 10 = .ok (.getfield 14, 3) := by decide +kernel
theorem dX0_heedBitfield_13 : decode mX0_heedBitfield.2.2.1 13 = .ok (.invokevirtual 100, 3) := by decide +kernel
theorem dX0_heedBitfield_16 : decode mX0_heedBitfield.2.2.1 16 = .ok (.iconst 5, 1) := by decide +kernel
theorem dX0_heedBitfield_17 : decode mX0_heedBitfield.2.2.1 17 = .ok (.isub, 1) := by decide +kernel
theorem dX0_heedBitfield_18 : decode mX0_heedBitfield.2.2.1 18 = .ok (.imul, 1) := by decide +kernel
theorem dX0_heedBitfield_19 : decode mX0_heedBitfield.2.2.1 19 = .ok (.if_icmp .ge 79, 3) := by decide +kernel
theorem dX0_heedBitfield_22 : decode mX0_heedBitfield.2.2.1 22 = .ok (.aload_n 0, 1) := by decide +kernel
theorem dX0_heedBitfield_23 : decode mX0_heedBitfield.2.2.1 23 = .ok (.getfield 14, 3) := by decide +kernel
theorem dX0_heedBitfield_26 : decode mX0_heedBitfield.2.2.1 26 = .ok (.iconst 5, 1) := by decide +kernel
theorem dX0_heedBitfield_27 : decode mX0_heedBitfield.2.2.1 27 = .ok (.iload 4, 2) := by decide +kernel
theorem dX0_heedBitfield_29 : decode mX0_heedBitfield.2.2.1 29 = .ok (.bipush 8, 2) := by decide +kernel
theorem dX0_heedBitfield_31 : decode mX0_heedBitfield.2.2.1 31 = .ok (.idiv, 1) := by decide +kernel
theorem dX0_heedBitfield_32 : decode mX0_heedBitfield.2.2.1 32 = .ok (.iadd, 1) := by decide +kernel
theorem dX0_heedBitfield_33 : decode mX0_heedBitfield.2.2.1 33 = .ok (.invokevirtual 96, 3) := by decide +kernel
theorem dX0_heedBitfield_36 : decode mX0_heedBitfield.2.2.1 36 = .ok (.bipush 7, 2) := by decide +kernel
theorem dX0_heedBitfield_38 : decode mX0_heedBitfield.2.2.1 38 = .ok (.iload 4, 2) := by decide +kernel
theorem dX0_heedBitfield_40 : decode mX0_heedBitfield.2.2.1 40 = .ok (.bipush 8, 2) := by decide +kernel
theorem dX0_heedBitfield_42 : decode mX0_heedBitfield.2.2.1 42 = .ok (.irem, 1) := by decide +kernel
theorem dX0_heedBitfield_43 : decode mX0_heedBitfield.2.2.1 43 = .ok (.isub, 1) := by decide +kernel
theorem dX0_heedBitfield_44 : decode mX0_heedBitfield.2.2.1 44 = .ok (.ishr, 1) := by decide +kernel
theorem dX0_heedBitfield_45 : decode mX0_heedBitfield.2.2.1 45 = .ok (.iconst 1, 1) := by decide +kernel
theorem dX0_heedBitfield_46 : decode mX0_heedBitfield.2.2.1 46 = .ok (.iand, 1) := by decide +kernel
theorem dX0_heedBitfield_47 : decode mX0_heedBitfield.2.2.1 47 = .ok (.ifCond .eq 7, 3) := by decide +kernel
theorem dX0_heedBitfield_50 : decode mX0_heedBitfield.2.2.1 50 = .ok (.iconst 1, 1) := by decide +kernel
theorem dX0_heedBitfield_51 : decode mX0_heedBitfield.2.2.1 51 = .ok (.goto 4, 3) := by decide +kernel
theorem dX0_heedBitfield_54 : decode mX0_heedBitfield.2.2.1 54 = .ok (.iconst 0, 1) := by decide +kernel
theorem dX0_heedBitfield_55 : decode mX0_heedBitfield.2.2.1 55 = .ok (.istore 5, 2) := by decide +kernel
theorem dX0_heedBitfield_57 : decode mX0_heedBitfield.2.2.1 57 = .ok (.iload 5, 2) := by decide +kernel
theorem dX0_heedBitfield_59 : decode mX0_heedBitfield.2.2.1 59 = .ok (.ifCond .eq 21, 3) := by decide +kernel
theorem dX0_heedBitfield_62 : decode mX0_heedBitfield.2.2.1 62 = .ok (.aload_n 0, 1) := by decide +kernel
theorem dX0_heedBitfield_63 : decode mX0_heedBitfield.2.2.1 63 = .ok (.getfield 27, 3) := by decide +kernel
theorem dX0_heedBitfield_66 : decode mX0_heedBitfield.2.2.1 66 = .ok (.getfield 133, 3) := by decide +kernel
theorem dX0_heedBitfield_69 : decode mX0_heedBitfield.2.2.1 69 = .ok (.iload 4, 2) := by decide +kernel
theorem dX0_heedBitfield_71 : decode mX0_heedBitfield.2.2.1 71 = .ok (.i2l, 1) := by decide +kernel
theorem dX0_heedBitfield_72 : decode mX0_heedBitfield.2.2.1 72 = .ok (.invokevirtual 164, 3) := by decide +kernel
theorem dX0_heedBitfield_75 : decode mX0_heedBitfield.2.2.1 75 = .ok (.ifCond .ne 5, 3) := by decide +kernel
theorem dX0_heedBitfield_78 : decode mX0_heedBitfield.2.2.1 78 = .ok (.iconst 5, 1) := by decide +kernel
theorem dX0_heedBitfield_79 : decode mX0_heedBitfield.2.2.1 79 = .ok (.ireturn, 1) := by decide +kernel
theorem dX0_heedBitfield_80 : decode mX0_heedBitfield.2.2.1 80 = .ok (.iload 5, 2) := by decide +kernel
theorem dX0_heedBitfield_82 : decode mX0_heedBitfield.2.2.1 82 = .ok (.ifCond .eq 10, 3) := by decide +kernel
theorem dX0_heedBitfield_85 : decode mX0_heedBitfield.2.2.1 85 = .ok (.lload_n 2, 1) := by decide +kernel
theorem dX0_heedBitfield_86 : decode mX0_heedBitfield.2.2.1 86 = .ok (.lconst 1, 1) := by decide +kernel
theorem dX0_heedBitfield_87 : decode mX0_heedBitfield.2.2.1 87 = .ok (.iload 4, 2) := by decide +kernel
theorem dX0_heedBitfield_89 : decode mX0_heedBitfield.2.2.1 89 = .ok (.lshl, 1) := by decide +kernel
theorem dX0_heedBitfield_90 : decode mX0_heedBitfield.2.2.1 90 = .ok (.lor, 1) := by decide +kernel
theorem dX0_heedBitfield_91 : decode mX0_heedBitfield.2.2.1 91 = .ok (.lstore_n 2, 1) := by decide +kernel
theorem dX0_heedBitfield_92 : decode mX0_heedBitfield.2.2.1 92 = .ok (.iinc 4 1, 3) := by decide +kernel
theorem dX0_heedBitfield_95 : decode mX0_heedBitfield.2.2.1 95 = .ok (.goto (-90), 3) := by decide +kernel
theorem dX0_heedBitfield_98 : decode mX0_heedBitfield.2.2.1 98 = .ok (.aload_n 1, 1) := by decide +kernel
theorem dX0_heedBitfield_99 : decode mX0_heedBitfield.2.2.1 99 = .ok (.getfield 76, 3) := by decide +kernel
theorem dX0_heedBitfield_102 : decode mX0_heedBitfield.2.2.1 102 = .ok (.ifCond .eq 5, 3) := by decide +kernel
theorem dX0_heedBitfield_105 : decode mX0_heedBitfield.2.2.1 105 = .ok (.iconst 5, 1) := by decide +kernel
theorem dX0_heedBitfield_106 : decode mX0_heedBitfield.2.2.1 106 = .ok (.ireturn, 1) := by decide +kernel
theorem dX0_heedBitfield_107 : decode mX0_heedBitfield.2.2.1 107 = .ok (.aload_n 1, 1) := by decide +kernel
theorem dX0_heedBitfield_108 : decode mX0_heedBitfield.2.2.1 108 = .ok (.lload_n 2, 1) := by decide +kernel
theorem dX0_heedBitfield_109 : decode mX0_heedBitfield.2.2.1 109 = .ok (.putfield 168, 3) := by decide +kernel
theorem dX0_heedBitfield_112 : decode mX0_heedBitfield.2.2.1 112 = .ok (.iconst 0, 1) := by decide +kernel
theorem dX0_heedBitfield_113 : decode mX0_heedBitfield.2.2.1 113 = .ok (.ireturn, 1) := by decide +kernel
theorem dX0_heedRequest_0 : decode mX0_heedRequest.2.2.1 0 = .ok (.aload_n 0, 1) := by decide +kernel
theorem dX0_heedRequest_1 : decode mX0_heedRequest.2.2.1 1 = .ok (.getfield 14, 3) := by decide +kernel
theorem dX0_heedRequest_4 : decode mX0_heedRequest.2.2.1 4 = .ok (.iconst 5, 1) := by decide +kernel
theorem dX0_heedRequest_5 : decode mX0_heedRequest.2.2.1 5 = .ok (.invokevirtual 90, 3) := by decide +kernel
theorem dX0_heedRequest_8 : decode mX0_heedRequest.2.2.1 8 = .ok (.lstore_n 3, 1) := by decide +kernel
theorem dX0_heedRequest_9 : decode mX0_heedRequest.2.2.1 9 = .ok (.aload_n 0, 1) := by decide +kernel
theorem dX0_heedRequest_10 : decode mX0_heedRequest.2.2.1 10 = .ok (.getfield 14, 3) := by decide +kernel
theorem dX0_heedRequest_13 : decode mX0_heedRequest.2.2.1 13 = .ok (.bipush 9, 2) := by decide +kernel
theorem dX0_heedRequest_15 : decode mX0_heedRequest.2.2.1 15 = .ok (.invokevirtual 90, 3) := by decide +kernel
theorem dX0_heedRequest_18 : decode mX0_heedRequest.2.2.1 18 = .ok (.lstore 5, 2) := by decide +kernel
theorem dX0_heedRequest_20 : decode mX0_heedRequest.2.2.1 20 = .ok (.aload_n 0, 1) := by decide +kernel
theorem dX0_heedRequest_21 : decode mX0_heedRequest.2.2.1 21 = .ok (.getfield 14, 3) := by decide +kernel
theorem dX0_heedRequest_24 : decode mX0_heedRequest.2.2.1 24 = .ok (.bipush 13, 2) := by decide +kernel
theorem dX0_heedRequest_26 : decode mX0_heedRequest.2.2.1 26 = .ok (.invokevirtual 90, 3) := by decide +kernel
theorem dX0_heedRequest_29 : decode mX0_heedRequest.2.2.1 29 = .ok (.lstore 7, 2) := by decide +kernel
theorem dX0_heedRequest_31 : decode mX0_heedRequest.2.2.1 31 = .ok (.aload_n 0, 1) := by decide +kernel
theorem dX0_heedRequest_32 : decode mX0_heedRequest.2.2.1 32 = .ok (.getfield 27, 3) := by decide +kernel
theorem dX0_heedRequest_35 : decode mX0_heedRequest.2.2.1 35 = .ok (.getfield 133, 3) := by decide +kernel
theorem dX0_heedRequest_38 : decode mX0_heedRequest.2.2.1 38 = .ok (.lload_n 3, 1) := by decide +kernel
theorem dX0_heedRequest_39 : decode mX0_heedRequest.2.2.1 39 = .ok (.invokevirtual 164, 3) := by decide +kernel
theorem dX0_heedRequest_42 : decode mX0_heedRequest.2.2.1 42 = .ok (.ifCond .eq 41, 3) := by decide +kernel
theorem dX0_heedRequest_45 : decode mX0_heedRequest.2.2.1 45 = .ok (.lload 7, 2) := by decide +kernel
theorem dX0_heedRequest_47 : decode mX0_heedRequest.2.2.1 47 = .ok (.lconst 1, 1) := by decide +kernel
theorem dX0_heedRequest_48 : decode mX0_heedRequest.2.2.1 48 = .ok (.lcmp, 1) := by decide +kernel
theorem dX0_heedRequest_49 : decode mX0_heedRequest.2.2.1 49 = .ok (.ifCond .lt 34, 3) := by decide +kernel
theorem dX0_heedRequest_52 : decode mX0_heedRequest.2.2.1 52 = .ok (.lload 7, 2) := by decide +kernel
theorem dX0_heedRequest_54 : decode mX0_heedRequest.2.2.1 54 = .ok (.ldc2_w 169, 3) := by decide +kernel
theorem dX0_heedRequest_57 : decode mX0_heedRequest.2.2.1 57 = .ok (.lcmp, 1) := by decide +kernel
theorem dX0_heedRequest_58 : decode mX0_heedRequest.2.2.1 58 = .ok (.ifCond .gt 25, 3) := by decide +kernel
theorem dX0_heedRequest_61 : decode mX0_heedRequest.2.2.1 61 = .ok (.lload 5, 2) := by decide +kernel
theorem dX0_heedRequest_63 : decode mX0_heedRequest.2.2.1 63 = .ok (.lload 7, 2) := by decide +kernel
theorem dX0_heedRequest_65 : decode mX0_heedRequest.2.2.1 65 = .ok (.ladd, 1) := by decide +kernel
theorem dX0_heedRequest_66 : decode mX0_heedRequest.2.2.1 66 = .ok (.aload_n 0, 1) := by decide +kernel
theorem dX0_heedRequest_67 : decode mX0_heedRequest.2.2.1 67 = .ok (.getfield 27, 3) := by decide +kernel
theorem dX0_heedRequest_70 : decode mX0_heedRequest.2.2.1 70 = .ok (.getfield 133, 3) := by decide +kernel
theorem dX0_heedRequest_73 : decode mX0_heedRequest.2.2.1 73 = .ok (.lload_n 3, 1) := by decide +kernel
theorem dX0_heedRequest_74 : decode mX0_heedRequest.2.2.1 74 = .ok (.l2i, 1) := by decide +kernel
theorem dX0_heedRequest_75 : decode mX0_heedRequest.2.2.1 75 = .ok (.invokevirtual 171, 3) := by decide +kernel
theorem dX0_heedRequest_78 : decode mX0_heedRequest.2.2.1 78 = .ok (.i2l, 1) := by decide +kernel
theorem dX0_heedRequest_79 : decode mX0_heedRequest.2.2.1 79 = .ok (.lcmp, 1) := by decide +kernel
theorem dX0_heedRequest_80 : decode mX0_heedRequest.2.2.1 80 = .ok (.ifCond .le 6, 3) := by decide +kernel
theorem dX0_heedRequest_83 : decode mX0_heedRequest.2.2.1 83 = .ok (.bipush 6, 2) := by decide +kernel
theorem dX0_heedRequest_85 : decode mX0_heedRequest.2.2.1 85 = .ok (.ireturn, 1) := by decide +kernel
theorem dX0_heedRequest_86 : decode mX0_heedRequest.2.2.1 86 = .ok (.aload_n 2, 1) := by decide +kernel
theorem dX0_heedRequest_87 : decode mX0_heedRequest.2.2.1 87 = .ok (.getfield 174, 3) := by decide +kernel
theorem dX0_heedRequest_90 : decode mX0_heedRequest.2.2.1 90 = .ok (.ifCond .ne 47, 3) := by decide +kernel
theorem dX0_heedRequest_93 : decode mX0_heedRequest.2.2.1 93 = .ok (.aload_n 1, 1) := by decide +kernel
theorem dX0_heedRequest_94 : decode mX0_heedRequest.2.2.1 94 = .ok (.lload_n 3, 1) := by decide +kernel
theorem dX0_heedRequest_95 : decode mX0_heedRequest.2.2.1 95 = .ok (.l2i, 1) := by decide +kernel
theorem dX0_heedRequest_96 : decode mX0_heedRequest.2.2.1 96 = .ok (.invokevirtual 177, 3) := by decide +kernel
theorem dX0_heedRequest_99 : decode mX0_heedRequest.2.2.1 99 = .ok (.ifCond .eq 38, 3) := by decide +kernel
theorem dX0_heedRequest_102 : decode mX0_heedRequest.2.2.1 102 = .ok (.aload_n 0, 1) := by decide +kernel
theorem dX0_heedRequest_103 : decode mX0_heedRequest.2.2.1 103 = .ok (.aload_n 1, 1) := by decide +kernel
theorem dX0_heedRequest_104 : decode mX0_heedRequest.2.2.1 104 = .ok (.lload_n 3, 1) := by decide +kernel
theorem dX0_heedRequest_105 : decode mX0_heedRequest.2.2.1 105 = .ok (.l2i, 1) := by decide +kernel
theorem dX0_heedRequest_106 : decode mX0_heedRequest.2.2.1 106 = .ok (.lload 5, 2) := by decide +kernel
theorem dX0_heedRequest_108 : decode mX0_heedRequest.2.2.1 108 = .ok (.l2i, 1) := by decide +kernel
theorem dX0_heedRequest_109 : decode mX0_heedRequest.2.2.1 109 = .ok (.lload 7, 2) := by decide +kernel
theorem dX0_heedRequest_111 : decode mX0_heedRequest.2.2.1 111 = .ok (.l2i, 1) := by decide +kernel
theorem dX0_heedRequest_112 : decode mX0_heedRequest.2.2.1 112 = .ok (.invokevirtual 181, 3) := by decide +kernel
theorem dX0_heedRequest_115 : decode mX0_heedRequest.2.2.1 115 = .ok (.aload_n 1, 1) := by decide +kernel
theorem dX0_heedRequest_116 : decode mX0_heedRequest.2.2.1 116 = .ok (.dup, 1) := by decide +kernel
theorem dX0_heedRequest_117 : decode mX0_heedRequest.2.2.1 117 = .ok (.getfield 185, 3) := by decide +kernel
theorem dX0_heedRequest_120 : decode mX0_heedRequest.2.2.1 120 = .ok (.iconst 1, 1) := by decide +kernel
theorem dX0_heedRequest_121 : decode mX0_heedRequest.2.2.1 121 = .ok (.iadd, 1) := by decide +kernel
theorem dX0_heedRequest_122 : decode mX0_heedRequest.2.2.1 122 = .ok (.putfield 185, 3) := by decide +kernel
theorem dX0_heedRequest_125 : decode mX0_heedRequest.2.2.1 125 = .ok (.aload_n 0, 1) := by decide +kernel
theorem dX0_heedRequest_126 : decode mX0_heedRequest.2.2.1 126 = .ok (.getfield 27, 3) := by decide +kernel
theorem dX0_heedRequest_129 : decode mX0_heedRequest.2.2.1 129 = .ok (.aload_n 2, 1) := by decide +kernel
theorem dX0_heedRequest_130 : decode mX0_heedRequest.2.2.1 130 = .ok (.aload_n 0, 1) := by decide +kernel
theorem dX0_heedRequest_131 : decode mX0_heedRequest.2.2.1 131 = .ok (.getfield 20, 3) := by decide +kernel
theorem dX0_heedRequest_134 : decode mX0_heedRequest.2.2.1 134 = .ok (.invokevirtual 160, 3) := by decide +kernel
theorem dX0_heedRequest_137 : decode mX0_heedRequest.2.2.1 137 = .ok (.iconst 0, 1) := by decide +kernel
theorem dX0_heedRequest_138 : decode mX0_heedRequest.2.2.1 138 = .ok (.ireturn, 1) := by decide +kernel
theorem dX0_heedPiece_0 : decode mX0_heedPiece.2.2.1 0 = .ok (.aload_n 2, 1) := by decide +kernel
theorem dX0_heedPiece_1 : decode mX0_heedPiece.2.2.1 1 = .ok (.aload_n 0, 1) := by decide +kernel
theorem dX0_heedPiece_2 : decode mX0_heedPiece.2.2.1 2 = .ok (.aload_n 2, 1) := by decide +kernel
theorem dX0_heedPiece_3 : decode mX0_heedPiece.2.2.1 3 = .ok (.invokevirtual 188, 3) := by decide +kernel
theorem dX0_heedPiece_6 : decode mX0_heedPiece.2.2.1 6 = .ok (.invokevirtual 191, 3) := by decide +kernel
theorem dX0_heedPiece_9 : decode mX0_heedPiece.2.2.1 9 = .ok (.istore_n 3, 1) := by decide +kernel
theorem dX0_heedPiece_10 : decode mX0_heedPiece.2.2.1 10 = .ok (.iload_n 3, 1) := by decide +kernel
theorem dX0_heedPiece_11 : decode mX0_heedPiece.2.2.1 11 = .ok (.iconst (-1), 1) := by decide +kernel
theorem dX0_heedPiece_12 : decode mX0_heedPiece.2.2.1 12 = .ok (.if_icmp .ne 15, 3) := by decide +kernel
theorem dX0_heedPiece_15 : decode mX0_heedPiece.2.2.1 15 = .ok (.aload_n 1, 1) := by decide +kernel
theorem dX0_heedPiece_16 : decode mX0_heedPiece.2.2.1 16 = .ok (.dup, 1) := by decide +kernel
theorem dX0_heedPiece_17 : decode mX0_heedPiece.2.2.1 17 = .ok (.getfield 194, 3) := by decide +kernel
theorem dX0_heedPiece_20 : decode mX0_heedPiece.2.2.1 20 = .ok (.iconst 1, 1) := by decide +kernel
theorem dX0_heedPiece_21 : decode mX0_heedPiece.2.2.1 21 = .ok (.iadd, 1) := by decide +kernel
theorem dX0_heedPiece_22 : decode mX0_heedPiece.2.2.1 22 = .ok (.putfield 194, 3) := by decide +kernel
theorem dX0_heedPiece_25 : decode mX0_heedPiece.2.2.1 25 = .ok (.iconst 0, 1) := by decide +kernel
theorem dX0_heedPiece_26 : decode mX0_heedPiece.2.2.1 26 = .ok (.ireturn, 1) := by decide +kernel
theorem dX0_heedPiece_27 : decode mX0_heedPiece.2.2.1 27 = .ok (.iload_n 3, 1) := by decide +kernel
theorem dX0_heedPiece_28 : decode mX0_heedPiece.2.2.1 28 = .ok (.bipush 16, 2) := by decide +kernel
theorem dX0_heedPiece_30 : decode mX0_heedPiece.2.2.1 30 = .ok (.idiv, 1) := by decide +kernel
theorem dX0_heedPiece_31 : decode mX0_heedPiece.2.2.1 31 = .ok (.istore 4, 2) := by decide +kernel
theorem dX0_heedPiece_33 : decode mX0_heedPiece.2.2.1 33 = .ok (.iload_n 3, 1) := by decide +kernel
theorem dX0_heedPiece_34 : decode mX0_heedPiece.2.2.1 34 = .ok (.bipush 16, 2) := by decide +kernel
theorem dX0_heedPiece_36 : decode mX0_heedPiece.2.2.1 36 = .ok (.irem, 1) := by decide +kernel
theorem dX0_heedPiece_37 : decode mX0_heedPiece.2.2.1 37 = .ok (.istore 5, 2) := by decide +kernel
theorem dX0_heedPiece_39 : decode mX0_heedPiece.2.2.1 39 = .ok (.aload_n 0, 1) := by decide +kernel
theorem dX0_heedPiece_40 : decode mX0_heedPiece.2.2.1 40 = .ok (.getfield 27, 3) := by decide +kernel
theorem dX0_heedPiece_43 : decode mX0_heedPiece.2.2.1 43 = .ok (.getfield 133, 3) := by decide +kernel
theorem dX0_heedPiece_46 : decode mX0_heedPiece.2.2.1 46 = .ok (.astore 6, 2) := by decide +kernel
theorem dX0_heedPiece_48 : decode mX0_heedPiece.2.2.1 48 = .ok (.aload 6, 2) := by decide +kernel
theorem dX0_heedPiece_50 : decode mX0_heedPiece.2.2.1 50 = .ok (.iload 4, 2) := by decide +kernel
theorem dX0_heedPiece_52 : decode mX0_heedPiece.2.2.1 52 = .ok (.i2l, 1) := by decide +kernel
theorem dX0_heedPiece_53 : decode mX0_heedPiece.2.2.1 53 = .ok (.invokevirtual 164, 3) := by decide +kernel
theorem dX0_heedPiece_56 : decode mX0_heedPiece.2.2.1 56 = .ok (.ifCond .ne 5, 3) := by decide +kernel
theorem dX0_heedPiece_59 : decode mX0_heedPiece.2.2.1 59 = .ok (.iconst 0, 1) := by decide +kernel
theorem dX0_heedPiece_60 : decode mX0_heedPiece.2.2.1 60 = .ok (.ireturn, 1) := by decide +kernel
theorem dX0_heedPiece_61 : decode mX0_heedPiece.2.2.1 61 = .ok (.aload_n 1, 1) := by decide +kernel
theorem dX0_heedPiece_62 : decode mX0_heedPiece.2.2.1 62 = .ok (.dup, 1) := by decide +kernel
theorem dX0_heedPiece_63 : decode mX0_heedPiece.2.2.1 63 = .ok (.getfield 197, 3) := by decide +kernel
theorem dX0_heedPiece_66 : decode mX0_heedPiece.2.2.1 66 = .ok (.iconst 1, 1) := by decide +kernel
theorem dX0_heedPiece_67 : decode mX0_heedPiece.2.2.1 67 = .ok (.iadd, 1) := by decide +kernel
theorem dX0_heedPiece_68 : decode mX0_heedPiece.2.2.1 68 = .ok (.putfield 197, 3) := by decide +kernel
theorem dX0_heedPiece_71 : decode mX0_heedPiece.2.2.1 71 = .ok (.aload_n 1, 1) := by decide +kernel
theorem dX0_heedPiece_72 : decode mX0_heedPiece.2.2.1 72 = .ok (.getfield 200, 3) := by decide +kernel
theorem dX0_heedPiece_75 : decode mX0_heedPiece.2.2.1 75 = .ok (.iload 4, 2) := by decide +kernel
theorem dX0_heedPiece_77 : decode mX0_heedPiece.2.2.1 77 = .ok (.dup2, 1) := by decide +kernel
theorem dX0_heedPiece_78 : decode mX0_heedPiece.2.2.1 78 = .ok (.iaload, 1) := by decide +kernel
theorem dX0_heedPiece_79 : decode mX0_heedPiece.2.2.1 79 = .ok (.iconst 1, 1) := by decide +kernel
theorem dX0_heedPiece_80 : decode mX0_heedPiece.2.2.1 80 = .ok (.iload 5, 2) := by decide +kernel
theorem dX0_heedPiece_82 : decode mX0_heedPiece.2.2.1 82 = .ok (.ishl, 1) := by decide +kernel
theorem dX0_heedPiece_83 : decode mX0_heedPiece.2.2.1 83 = .ok (.ior, 1) := by decide +kernel
theorem dX0_heedPiece_84 : decode mX0_heedPiece.2.2.1 84 = .ok (.iastore, 1) := by decide +kernel
theorem dX0_heedPiece_85 : decode mX0_heedPiece.2.2.1 85 = .ok (.aload_n 0, 1) := by decide +kernel
theorem dX0_heedPiece_86 : decode mX0_heedPiece.2.2.1 86 = .ok (.aload_n 1, 1) := by decide +kernel
theorem dX0_heedPiece_87 : decode mX0_heedPiece.2.2.1 87 = .ok (.aload 6, 2) := by decide +kernel
theorem dX0_heedPiece_89 : decode mX0_heedPiece.2.2.1 89 = .ok (.iload 4, 2) := by decide +kernel
theorem dX0_heedPiece_91 : decode mX0_heedPiece.2.2.1 91 = .ok (.invokevirtual 203, 3) := by decide +kernel
theorem dX0_heedPiece_94 : decode mX0_heedPiece.2.2.1 94 = .ok (.bipush 64, 2) := by decide +kernel
theorem dX0_heedPiece_96 : decode mX0_heedPiece.2.2.1 96 = .ok (.iload 5, 2) := by decide +kernel
theorem dX0_heedPiece_98 : decode mX0_heedPiece.2.2.1 98 = .ok (.imul, 1) := by decide +kernel
theorem dX0_heedPiece_99 : decode mX0_heedPiece.2.2.1 99 = .ok (.iadd, 1) := by decide +kernel
theorem dX0_heedPiece_100 : decode mX0_heedPiece.2.2.1 100 = .ok (.invokevirtual 206, 3) := by decide +kernel
theorem dX0_heedPiece_103 : decode mX0_heedPiece.2.2.1 103 = .ok (.aload_n 1, 1) := by decide +kernel
theorem dX0_heedPiece_104 : decode mX0_heedPiece.2.2.1 104 = .ok (.getfield 200, 3) := by decide +kernel
theorem dX0_heedPiece_107 : decode mX0_heedPiece.2.2.1 107 = .ok (.iload 4, 2) := by decide +kernel
theorem dX0_heedPiece_109 : decode mX0_heedPiece.2.2.1 109 = .ok (.iaload, 1) := by decide +kernel
theorem dX0_heedPiece_110 : decode mX0_heedPiece.2.2.1 110 = .ok (.aload 6, 2) := by decide +kernel
theorem dX0_heedPiece_112 : decode mX0_heedPiece.2.2.1 112 = .ok (.iload 4, 2) := by decide +kernel
theorem dX0_heedPiece_114 : decode mX0_heedPiece.2.2.1 114 = .ok (.invokevirtual 209, 3) := by decide +kernel
theorem dX0_heedPiece_117 : decode mX0_heedPiece.2.2.1 117 = .ok (.if_icmp .eq 5, 3) := by decide +kernel
theorem dX0_heedPiece_120 : decode mX0_heedPiece.2.2.1 120 = .ok (.iconst 0, 1) := by decide +kernel
theorem dX0_heedPiece_121 : decode mX0_heedPiece.2.2.1 121 = .ok (.ireturn, 1) := by decide +kernel
theorem dX0_heedPiece_122 : decode mX0_heedPiece.2.2.1 122 = .ok (.aload_n 0, 1) := by decide +kernel
theorem dX0_heedPiece_123 : decode mX0_heedPiece.2.2.1 123 = .ok (.getfield 31, 3) := by decide +kernel
theorem dX0_heedPiece_126 : decode mX0_heedPiece.2.2.1 126 = .ok (.aload_n 1, 1) := by decide +kernel
theorem dX0_heedPiece_127 : decode mX0_heedPiece.2.2.1 127 = .ok (.getfield 212, 3) := by decide +kernel
theorem dX0_heedPiece_130 : decode mX0_heedPiece.2.2.1 130 = .ok (.aload 6, 2) := by decide +kernel
theorem dX0_heedPiece_132 : decode mX0_heedPiece.2.2.1 132 = .ok (.iload 4, 2) := by decide +kernel
theorem dX0_heedPiece_134 : decode mX0_heedPiece.2.2.1 134 = .ok (.invokevirtual 203, 3) := by decide +kernel
theorem dX0_heedPiece_137 : decode mX0_heedPiece.2.2.1 137 = .ok (.aload 6, 2) := by decide +kernel
theorem dX0_heedPiece_139 : decode mX0_heedPiece.2.2.1 139 = .ok (.iload 4, 2) := by decide +kernel
theorem dX0_heedPiece_141 : decode mX0_heedPiece.2.2.1 141 = .ok (.invokevirtual 171, 3) := by decide +kernel
theorem dX0_heedPiece_144 : decode mX0_heedPiece.2.2.1 144 = .ok (.invokevirtual 215, 3) := by decide +kernel
theorem dX0_heedPiece_147 : decode mX0_heedPiece.2.2.1 147 = .ok (.aload_n 0, 1) := by decide +kernel
theorem dX0_heedPiece_148 : decode mX0_heedPiece.2.2.1 148 = .ok (.getfield 31, 3) := by decide +kernel
theorem dX0_heedPiece_151 : decode mX0_heedPiece.2.2.1 151 = .ok (.aload 6, 2) := by decide +kernel
theorem dX0_heedPiece_153 : decode mX0_heedPiece.2.2.1 153 = .ok (.getfield 220, 3) := by decide +kernel
theorem dX0_heedPiece_156 : decode mX0_heedPiece.2.2.1 156 = .ok (.bipush 20, 2) := by decide +kernel
theorem dX0_heedPiece_158 : decode mX0_heedPiece.2.2.1 158 = .ok (.iload 4, 2) := by decide +kernel
theorem dX0_heedPiece_160 : decode mX0_heedPiece.2.2.1 160 = .ok (.imul, 1) := by decide +kernel
theorem dX0_heedPiece_161 : decode mX0_heedPiece.2.2.1 161 = .ok (.invokevirtual 223, 3) := by decide +kernel
theorem dX0_heedPiece_164 : decode mX0_heedPiece.2.2.1 164 = .ok (.ifCond .ne 24, 3) := by decide +kernel
theorem dX0_heedPiece_167 : decode mX0_heedPiece.2.2.1 167 = .ok (.aload_n 1, 1) := by decide +kernel
theorem dX0_heedPiece_168 : decode mX0_heedPiece.2.2.1 168 = .ok (.getfield 200, 3) := by decide +kernel
theorem dX0_heedPiece_171 : decode mX0_heedPiece.2.2.1 171 = .ok (.iload 4, 2) := by decide +kernel
theorem dX0_heedPiece_173 : decode mX0_heedPiece.2.2.1 173 = .ok (.iconst 0, 1) := by decide +kernel
theorem dX0_heedPiece_174 : decode mX0_heedPiece.2.2.1 174 = .ok (.iastore, 1) := by decide +kernel
theorem dX0_heedPiece_175 : decode mX0_heedPiece.2.2.1 175 = .ok (.aload_n 1, 1) := by decide +kernel
theorem dX0_heedPiece_176 : decode mX0_heedPiece.2.2.1 176 = .ok (.dup, 1) := by decide +kernel
theorem dX0_heedPiece_177 : decode mX0_heedPiece.2.2.1 177 = .ok (.getfield 227, 3) := by decide +kernel
theorem dX0_heedPiece_180 : decode mX0_heedPiece.2.2.1 180 = .ok (.iconst 1, 1) := by decide +kernel
theorem dX0_heedPiece_181 : decode mX0_heedPiece.2.2.1 181 = .ok (.iadd, 1) := by decide +kernel
theorem dX0_heedPiece_182 : decode mX0_heedPiece.2.2.1 182 = .ok (.putfield 227, 3) := by decide +kernel
theorem dX0_heedPiece_185 : decode mX0_heedPiece.2.2.1 185 = .ok (.bipush 7, 2) := by decide +kernel
theorem dX0_heedPiece_187 : decode mX0_heedPiece.2.2.1 187 = .ok (.ireturn, 1) := by decide +kernel
theorem dX0_heedPiece_188 : decode mX0_heedPiece.2.2.1 188 = .ok (.aload_n 1, 1) := by decide +kernel
theorem dX0_heedPiece_189 : decode mX0_heedPiece.2.2.1 189 = .ok (.dup, 1) := by decide +kernel
theorem dX0_heedPiece_190 : decode mX0_heedPiece.2.2.1 190 = .ok (.getfield 150, 3) := by decide +kernel
theorem dX0_heedPiece_193 : decode mX0_heedPiece.2.2.1 193 = .ok (.lconst 1, 1) := by decide +kernel
theorem dX0_heedPiece_194 : decode mX0_heedPiece.2.2.1 194 = .ok (.iload 4, 2) := by decide +kernel
theorem dX0_heedPiece_196 : decode mX0_heedPiece.2.2.1 196 = .ok (.lshl, 1) := by decide +kernel
theorem dX0_heedPiece_197 : decode mX0_heedPiece.2.2.1 197 = .ok (.lor, 1) := by decide +kernel
theorem dX0_heedPiece_198 : decode mX0_heedPiece.2.2.1 198 = .ok (.putfield 150, 3) := by decide +kernel
theorem dX0_heedPiece_201 : decode mX0_heedPiece.2.2.1 201 = .ok (.aload_n 0, 1) := by decide +kernel
theorem dX0_heedPiece_202 : decode mX0_heedPiece.2.2.1 202 = .ok (.iload 4, 2) := by decide +kernel
theorem dX0_heedPiece_204 : decode mX0_heedPiece.2.2.1 204 = .ok (.invokevirtual 230, 3) := by decide +kernel
theorem dX0_heedPiece_207 : decode mX0_heedPiece.2.2.1 207 = .ok (.iconst 0, 1) := by decide +kernel
theorem dX0_heedPiece_208 : decode mX0_heedPiece.2.2.1 208 = .ok (.istore 7, 2) := by decide +kernel
theorem dX0_heedPiece_210 : decode mX0_heedPiece.2.2.1 210 = .ok (.iload 7, 2) := by decide +kernel
theorem dX0_heedPiece_212 : decode mX0_heedPiece.2.2.1 212 = .ok (.iconst 5, 1) := by decide +kernel
theorem dX0_heedPiece_213 : decode mX0_heedPiece.2.2.1 213 = .ok (.if_icmp .ge 50, 3) := by decide +kernel
theorem dX0_heedPiece_216 : decode mX0_heedPiece.2.2.1 216 = .ok (.aload_n 0, 1) := by decide +kernel
theorem dX0_heedPiece_217 : decode mX0_heedPiece.2.2.1 217 = .ok (.getfield 27, 3) := by decide +kernel
theorem dX0_heedPiece_220 : decode mX0_heedPiece.2.2.1 220 = .ok (.aload_n 2, 1) := by decide +kernel
theorem dX0_heedPiece_221 : decode mX0_heedPiece.2.2.1 221 = .ok (.getfield 233, 3) := by decide +kernel
theorem dX0_heedPiece_224 : decode mX0_heedPiece.2.2.1 224 = .ok (.iload 7, 2) := by decide +kernel
theorem dX0_heedPiece_226 : decode mX0_heedPiece.2.2.1 226 = .ok (.invokevirtual 41, 3) := by decide +kernel
theorem dX0_heedPiece_229 : decode mX0_heedPiece.2.2.1 229 = .ok (.astore 8, 2) := by decide +kernel
theorem dX0_heedPiece_231 : decode mX0_heedPiece.2.2.1 231 = .ok (.aload 8, 2) := by decide +kernel
theorem dX0_heedPiece_233 : decode mX0_heedPiece.2.2.1 233 = .ok (.ifnull 24, 3) := by decide +kernel
theorem dX0_heedPiece_236 : decode mX0_heedPiece.2.2.1 236 = .ok (.aload 8, 2) := by decide +kernel
theorem dX0_heedPiece_238 : decode mX0_heedPiece.2.2.1 238 = .ok (.getfield 87, 3) := by decide +kernel
theorem dX0_heedPiece_241 : decode mX0_heedPiece.2.2.1 241 = .ok (.ifCond .eq 16, 3) := by decide +kernel
theorem dX0_heedPiece_244 : decode mX0_heedPiece.2.2.1 244 = .ok (.aload_n 0, 1) := by decide +kernel
theorem dX0_heedPiece_245 : decode mX0_heedPiece.2.2.1 245 = .ok (.getfield 27, 3) := by decide +kernel
theorem dX0_heedPiece_248 : decode mX0_heedPiece.2.2.1 248 = .ok (.aload 8, 2) := by decide +kernel
theorem dX0_heedPiece_250 : decode mX0_heedPiece.2.2.1 250 = .ok (.aload_n 0, 1) := by decide +kernel
theorem dX0_heedPiece_251 : decode mX0_heedPiece.2.2.1 251 = .ok (.getfield 20, 3) := by decide +kernel
theorem dX0_heedPiece_254 : decode mX0_heedPiece.2.2.1 254 = .ok (.invokevirtual 160, 3) := by decide +kernel
theorem dX0_heedPiece_257 : decode mX0_heedPiece.2.2.1 257 = .ok (.iinc 7 1, 3) := by decide +kernel
theorem dX0_heedPiece_260 : decode mX0_heedPiece.2.2.1 260 = .ok (.goto (-50), 3) := by decide +kernel
theorem dX0_heedPiece_263 : decode mX0_heedPiece.2.2.1 263 = .ok (.iconst 0, 1) := by decide +kernel
theorem dX0_heedPiece_264 : decode mX0_heedPiece.2.2.1 264 = .ok (.ireturn, 1) := by decide +kernel
theorem dX0_slotOfMessage_0 : decode mX0_slotOfMessage.2.2.1 0 = .ok (.iconst 0, 1) := by decide +kernel
theorem dX0_slotOfMessage_1 : decode mX0_slotOfMessage.2.2.1 1 = .ok (.istore_n 2, 1) := by decide +kernel
theorem dX0_slotOfMessage_2 : decode mX0_slotOfMessage.2.2.1 2 = .ok (.iload_n 2, 1) := by decide +kernel
theorem dX0_slotOfMessage_3 : decode mX0_slotOfMessage.2.2.1 3 = .ok (.aload_n 1, 1) := by decide +kernel
theorem dX0_slotOfMessage_4 : decode mX0_slotOfMessage.2.2.1 4 = .ok (.getfield 110, 3) := by decide +kernel
theorem dX0_slotOfMessage_7 : decode mX0_slotOfMessage.2.2.1 7 = .ok (.if_icmp .ge 96, 3) := by decide +kernel
theorem dX0_slotOfMessage_10 : decode mX0_slotOfMessage.2.2.1 10 = .ok (.iload_n 2, 1) := by decide +kernel
theorem dX0_slotOfMessage_11 : decode mX0_slotOfMessage.2.2.1 11 = .ok (.iconst 4, 1) := by decide +kernel
theorem dX0_slotOfMessage_12 : decode mX0_slotOfMessage.2.2.1 12 = .ok (.if_icmp .ge 91, 3) := by decide +kernel
theorem dX0_slotOfMessage_15 : decode mX0_slotOfMessage.2.2.1 15 = .ok (.aload_n 1, 1) := by decide +kernel
theorem dX0_slotOfMessage_16 : decode mX0_slotOfMessage.2.2.1 16 = .ok (.getfield 236, 3) := by decide +kernel
theorem dX0_slotOfMessage_19 : decode mX0_slotOfMessage.2.2.1 19 = .ok (.iload_n 2, 1) := by decide +kernel
theorem dX0_slotOfMessage_20 : decode mX0_slotOfMessage.2.2.1 20 = .ok (.iaload, 1) := by decide +kernel
theorem dX0_slotOfMessage_21 : decode mX0_slotOfMessage.2.2.1 21 = .ok (.bipush 16, 2) := by decide +kernel
theorem dX0_slotOfMessage_23 : decode mX0_slotOfMessage.2.2.1 23 = .ok (.idiv, 1) := by decide +kernel
theorem dX0_slotOfMessage_24 : decode mX0_slotOfMessage.2.2.1 24 = .ok (.istore_n 3, 1) := by decide +kernel
theorem dX0_slotOfMessage_25 : decode mX0_slotOfMessage.2.2.1 25 = .ok (.aload_n 1, 1) := by decide +kernel
theorem dX0_slotOfMessage_26 : decode mX0_slotOfMessage.2.2.1 26 = .ok (.getfield 236, 3) := by decide +kernel
theorem dX0_slotOfMessage_29 : decode mX0_slotOfMessage.2.2.1 29 = .ok (.iload_n 2, 1) := by decide +kernel
theorem dX0_slotOfMessage_30 : decode mX0_slotOfMessage.2.2.1 30 = .ok (.iaload, 1) := by decide +kernel
theorem dX0_slotOfMessage_31 : decode mX0_slotOfMessage.2.2.1 31 = .ok (.bipush 16, 2) := by decide +kernel
theorem dX0_slotOfMessage_33 : decode mX0_slotOfMessage.2.2.1 33 = .ok (.irem, 1) := by decide +kernel
theorem dX0_slotOfMessage_34 : decode mX0_slotOfMessage.2.2.1 34 = .ok (.istore 4, 2) := by decide +kernel
theorem dX0_slotOfMessage_36 : decode mX0_slotOfMessage.2.2.1 36 = .ok (.aload_n 0, 1) := by decide +kernel
theorem dX0_slotOfMessage_37 : decode mX0_slotOfMessage.2.2.1 37 = .ok (.getfield 14, 3) := by decide +kernel
theorem dX0_slotOfMessage_40 : decode mX0_slotOfMessage.2.2.1 40 = .ok (.iconst 5, 1) := by decide +kernel
theorem dX0_slotOfMessage_41 : decode mX0_slotOfMessage.2.2.1 41 = .ok (.invokevirtual 90, 3) := by decide +kernel
theorem dX0_slotOfMessage_44 : decode mX0_slotOfMessage.2.2.1 44 = .ok (.iload_n 3, 1) := by decide +kernel
theorem dX0_slotOfMessage_45 : decode mX0_slotOfMessage.2.2.1 45 = .ok (.i2l, 1) := by decide +kernel
theorem dX0_slotOfMessage_46 : decode mX0_slotOfMessage.2.2.1 46 = .ok (.lcmp, 1) := by decide +kernel
theorem dX0_slotOfMessage_47 : decode mX0_slotOfMessage.2.2.1 47 = .ok (.ifCond .ne 50, 3) := by decide +kernel
theorem dX0_slotOfMessage_50 : decode mX0_slotOfMessage.2.2.1 50 = .ok (.aload_n 0, 1) := by decide +kernel
theorem dX0_slotOfMessage_51 : decode mX0_slotOfMessage.2.2.1 51 = .ok (.getfield 14, 3) := by decide +kernel
theorem dX0_slotOfMessage_54 : decode mX0_slotOfMessage.2.2.1 54 = .ok (.bipush 9, 2) := by decide +kernel
theorem dX0_slotOfMessage_56 : decode mX0_slotOfMessage.2.2.1 56 = .ok (.invokevirtual 90, 3) := by decide +kernel
theorem dX0_slotOfMessage_59 : decode mX0_slotOfMessage.2.2.1 59 = .ok (.bipush 64, 2) := by decide +kernel
theorem dX0_slotOfMessage_61 : decode mX0_slotOfMessage.2.2.1 61 = .ok (.iload 4, 2) := by decide +kernel
theorem dX0_slotOfMessage_63 : decode mX0_slotOfMessage.2.2.1 63 = .ok (.imul, 1) := by decide +kernel
theorem dX0_slotOfMessage_64 : decode mX0_slotOfMessage.2.2.1 64 = .ok (.i2l, 1) := by decide +kernel
theorem dX0_slotOfMessage_65 : decode mX0_slotOfMessage.2.2.1 65 = .ok (.lcmp, 1) := by decide +kernel
theorem dX0_slotOfMessage_66 : decode mX0_slotOfMessage.2.2.1 66 = .ok (.ifCond .ne 31, 3) := by decide +kernel
theorem dX0_slotOfMessage_69 : decode mX0_slotOfMessage.2.2.1 69 = .ok (.aload_n 0, 1) := by decide +kernel
theorem dX0_slotOfMessage_70 : decode mX0_slotOfMessage.2.2.1 70 = .ok (.getfield 14, 3) := by decide +kernel
theorem dX0_slotOfMessage_73 : decode mX0_slotOfMessage.2.2.1 73 = .ok (.invokevirtual 100, 3) := by decide +kernel
theorem dX0_slotOfMessage_76 : decode mX0_slotOfMessage.2.2.1 76 = .ok (.bipush 13, 2) := by decide +kernel
theorem dX0_slotOfMessage_78 : decode mX0_slotOfMessage.2.2.1 78 = .ok (.isub, 1) := by decide +kernel
theorem dX0_slotOfMessage_79 : decode mX0_slotOfMessage.2.2.1 79 = .ok (.aload_n 0, 1) := by decide +kernel
theorem dX0_slotOfMessage_80 : decode mX0_slotOfMessage.2.2.1 80 = .ok (.getfield 27, 3) := by decide +kernel
theorem dX0_slotOfMessage_83 : decode mX0_slotOfMessage.2.2.1 83 = .ok (.getfield 133, 3) := by decide +kernel
theorem dX0_slotOfMessage_86 : decode mX0_slotOfMessage.2.2.1 86 = .ok (.iload_n 3, 1) := by decide +kernel
theorem dX0_slotOfMessage_87 : decode mX0_slotOfMessage.2.2.1 87 = .ok (.iload 4, 2) := by decide +kernel
theorem dX0_slotOfMessage_89 : decode mX0_slotOfMessage.2.2.1 89 = .ok (.invokevirtual 239, 3) := by decide +kernel
theorem dX0_slotOfMessage_92 : decode mX0_slotOfMessage.2.2.1 92 = .ok (.if_icmp .ne 5, 3) := by decide +kernel
theorem dX0_slotOfMessage_95 : decode mX0_slotOfMessage.2.2.1 95 = .ok (.iload_n 2, 1) := by decide +kernel
theorem dX0_slotOfMessage_96 : decode mX0_slotOfMessage.2.2.1 96 = .ok (.ireturn, 1) := by decide +kernel
theorem dX0_slotOfMessage_97 : decode mX0_slotOfMessage.2.2.1 97 = .ok (.iinc 2 1, 3) := by decide +kernel
theorem dX0_slotOfMessage_100 : decode mX0_slotOfMessage.2.2.1 100 = .ok (.goto (-98), 3) := by decide +kernel
theorem dX0_slotOfMessage_103 : decode mX0_slotOfMessage.2.2.1 103 = .ok (.iconst (-1), 1) := by decide +kernel
theorem dX0_slotOfMessage_104 : decode mX0_slotOfMessage.2.2.1 104 = .ok (.ireturn, 1) := by decide +kernel
theorem dX0_writeBlock_0 : decode mX0_writeBlock.2.2.1 0 = .ok (.bipush 13, 2) := by decide +kernel
theorem dX0_writeBlock_2 : decode mX0_writeBlock.2.2.1 2 = .ok (.istore_n 3, 1) := by decide +kernel
theorem dX0_writeBlock_3 : decode mX0_writeBlock.2.2.1 3 = .ok (.iload_n 3, 1) := by decide +kernel
theorem dX0_writeBlock_4 : decode mX0_writeBlock.2.2.1 4 = .ok (.aload_n 0, 1) := by decide +kernel
theorem dX0_writeBlock_5 : decode mX0_writeBlock.2.2.1 5 = .ok (.getfield 14, 3) := by decide +kernel
theorem dX0_writeBlock_8 : decode mX0_writeBlock.2.2.1 8 = .ok (.invokevirtual 100, 3) := by decide +kernel
theorem dX0_writeBlock_11 : decode mX0_writeBlock.2.2.1 11 = .ok (.if_icmp .ge 31, 3) := by decide +kernel
theorem dX0_writeBlock_14 : decode mX0_writeBlock.2.2.1 14 = .ok (.aload_n 1, 1) := by decide +kernel
theorem dX0_writeBlock_15 : decode mX0_writeBlock.2.2.1 15 = .ok (.getfield 212, 3) := by decide +kernel
theorem dX0_writeBlock_18 : decode mX0_writeBlock.2.2.1 18 = .ok (.iload_n 2, 1) := by decide +kernel
theorem dX0_writeBlock_19 : decode mX0_writeBlock.2.2.1 19 = .ok (.iload_n 3, 1) := by decide +kernel
theorem dX0_writeBlock_20 : decode mX0_writeBlock.2.2.1 20 = .ok (.iadd, 1) := by decide +kernel
theorem dX0_writeBlock_21 : decode mX0_writeBlock.2.2.1 21 = .ok (.bipush 13, 2) := by decide +kernel
theorem dX0_writeBlock_23 : decode mX0_writeBlock.2.2.1 23 = .ok (.isub, 1) := by decide +kernel
theorem dX0_writeBlock_24 : decode mX0_writeBlock.2.2.1 24 = .ok (.aload_n 0, 1) := by decide +kernel
theorem dX0_writeBlock_25 : decode mX0_writeBlock.2.2.1 25 = .ok (.getfield 14, 3) := by decide +kernel
theorem dX0_writeBlock_28 : decode mX0_writeBlock.2.2.1 28 = .ok (.iload_n 3, 1) := by decide +kernel
theorem dX0_writeBlock_29 : decode mX0_writeBlock.2.2.1 29 = .ok (.invokevirtual 96, 3) := by decide +kernel
theorem dX0_writeBlock_32 : decode mX0_writeBlock.2.2.1 32 = .ok (.invokevirtual 243, 3) := by decide +kernel
theorem dX0_writeBlock_35 : decode mX0_writeBlock.2.2.1 35 = .ok (.pop, 1) := by decide +kernel
theorem dX0_writeBlock_36 : decode mX0_writeBlock.2.2.1 36 = .ok (.iinc 3 1, 3) := by decide +kernel
theorem dX0_writeBlock_39 : decode mX0_writeBlock.2.2.1 39 = .ok (.goto (-36), 3) := by decide +kernel
theorem dX0_writeBlock_42 : decode mX0_writeBlock.2.2.1 42 = .ok (.return_, 1) := by decide +kernel
theorem dX0_settle_0 : decode mX0_settle.2.2.1 0 = .ok (.iconst 0, 1) := by decide +kernel
theorem dX0_settle_1 : decode mX0_settle.2.2.1 1 = .ok (.istore_n 3, 1) := by decide +kernel
theorem dX0_settle_2 : decode mX0_settle.2.2.1 2 = .ok (.iload_n 3, 1) := by decide +kernel
theorem dX0_settle_3 : decode mX0_settle.2.2.1 3 = .ok (.iconst 5, 1) := by decide +kernel
theorem dX0_settle_4 : decode mX0_settle.2.2.1 4 = .ok (.if_icmp .ge 79, 3) := by decide +kernel
theorem dX0_settle_7 : decode mX0_settle.2.2.1 7 = .ok (.aload_n 0, 1) := by decide +kernel
theorem dX0_settle_8 : decode mX0_settle.2.2.1 8 = .ok (.getfield 27, 3) := by decide +kernel
theorem dX0_settle_11 : decode mX0_settle.2.2.1 11 = .ok (.iload_n 2, 1) := by decide +kernel
theorem dX0_settle_12 : decode mX0_settle.2.2.1 12 = .ok (.iload_n 3, 1) := by decide +kernel
theorem dX0_settle_13 : decode mX0_settle.2.2.1 13 = .ok (.invokevirtual 41, 3) := by decide +kernel
theorem dX0_settle_16 : decode mX0_settle.2.2.1 16 = .ok (.astore 4, 2) := by decide +kernel
theorem dX0_settle_18 : decode mX0_settle.2.2.1 18 = .ok (.aload 4, 2) := by decide +kernel
theorem dX0_settle_20 : decode mX0_settle.2.2.1 20 = .ok (.ifnull 18, 3) := by decide +kernel
theorem dX0_settle_23 : decode mX0_settle.2.2.1 23 = .ok (.aload 4, 2) := by decide +kernel
theorem dX0_settle_25 : decode mX0_settle.2.2.1 25 = .ok (.getfield 87, 3) := by decide +kernel
theorem dX0_settle_28 : decode mX0_settle.2.2.1 28 = .ok (.ifCond .eq 10, 3) := by decide +kernel
theorem dX0_settle_31 : decode mX0_settle.2.2.1 31 = .ok (.aload_n 0, 1) := by decide +kernel
theorem dX0_settle_32 : decode mX0_settle.2.2.1 32 = .ok (.aload_n 1, 1) := by decide +kernel
theorem dX0_settle_33 : decode mX0_settle.2.2.1 33 = .ok (.aload 4, 2) := by decide +kernel
theorem dX0_settle_35 : decode mX0_settle.2.2.1 35 = .ok (.invokevirtual 246, 3) := by decide +kernel
theorem dX0_settle_38 : decode mX0_settle.2.2.1 38 = .ok (.aload 4, 2) := by decide +kernel
theorem dX0_settle_40 : decode mX0_settle.2.2.1 40 = .ok (.ifnull 17, 3) := by decide +kernel
theorem dX0_settle_43 : decode mX0_settle.2.2.1 43 = .ok (.aload 4, 2) := by decide +kernel
theorem dX0_settle_45 : decode mX0_settle.2.2.1 45 = .ok (.getfield 87, 3) := by decide +kernel
theorem dX0_settle_48 : decode mX0_settle.2.2.1 48 = .ok (.ifCond .eq 9, 3) := by decide +kernel
theorem dX0_settle_51 : decode mX0_settle.2.2.1 51 = .ok (.aload_n 0, 1) := by decide +kernel
theorem dX0_settle_52 : decode mX0_settle.2.2.1 52 = .ok (.aload 4, 2) := by decide +kernel
theorem dX0_settle_54 : decode mX0_settle.2.2.1 54 = .ok (.invokevirtual 250, 3) := by decide +kernel
theorem dX0_settle_57 : decode mX0_settle.2.2.1 57 = .ok (.aload 4, 2) := by decide +kernel
theorem dX0_settle_59 : decode mX0_settle.2.2.1 59 = .ok (.ifnull 18, 3) := by decide +kernel
theorem dX0_settle_62 : decode mX0_settle.2.2.1 62 = .ok (.aload 4, 2) := by decide +kernel
theorem dX0_settle_64 : decode mX0_settle.2.2.1 64 = .ok (.getfield 87, 3) := by decide +kernel
theorem dX0_settle_67 : decode mX0_settle.2.2.1 67 = .ok (.ifCond .eq 10, 3) := by decide +kernel
theorem dX0_settle_70 : decode mX0_settle.2.2.1 70 = .ok (.aload_n 0, 1) := by decide +kernel
theorem dX0_settle_71 : decode mX0_settle.2.2.1 71 = .ok (.aload_n 1, 1) := by decide +kernel
theorem dX0_settle_72 : decode mX0_settle.2.2.1 72 = .ok (.aload 4, 2) := by decide +kernel
theorem dX0_settle_74 : decode mX0_settle.2.2.1 74 = .ok (.invokevirtual 254, 3) := by decide +kernel
theorem dX0_settle_77 : decode mX0_settle.2.2.1 77 = .ok (.iinc 3 1, 3) := by decide +kernel
theorem dX0_settle_80 : decode mX0_settle.2.2.1 80 = .ok (.goto (-78), 3) := by decide +kernel
theorem dX0_settle_83 : decode mX0_settle.2.2.1 83 = .ok (.return_, 1) := by decide +kernel
theorem dX0_showInterest_0 : decode mX0_showInterest.2.2.1 0 = .ok (.aload_n 2, 1) := by decide +kernel
theorem dX0_showInterest_1 : decode mX0_showInterest.2.2.1 1 = .ok (.getfield 168, 3) := by decide +kernel
theorem dX0_showInterest_4 : decode mX0_showInterest.2.2.1 4 = .ok (.aload_n 1, 1) := by decide +kernel
theorem dX0_showInterest_5 : decode mX0_showInterest.2.2.1 5 = .ok (.getfield 150, 3) := by decide +kernel
theorem dX0_showInterest_8 : decode mX0_showInterest.2.2.1 8 = .ok (.ldc2_w 257, 3) := by decide +kernel
theorem dX0_showInterest_11 : decode mX0_showInterest.2.2.1 11 = .ok (.lxor, 1) := by decide +kernel
theorem dX0_showInterest_12 : decode mX0_showInterest.2.2.1 12 = .ok (.land, 1) := by decide +kernel
theorem dX0_showInterest_13 : decode mX0_showInterest.2.2.1 13 = .ok (.lconst 0, 1) := by decide +kernel
theorem dX0_showInterest_14 : decode mX0_showInterest.2.2.1 14 = .ok (.lcmp, 1) := by decide +kernel
theorem dX0_showInterest_15 : decode mX0_showInterest.2.2.1 15 = .ok (.ifCond .eq 7, 3) := by decide +kernel
theorem dX0_showInterest_18 : decode mX0_showInterest.2.2.1 18 = .ok (.iconst 1, 1) := by decide +kernel
theorem dX0_showInterest_19 : decode mX0_showInterest.2.2.1 19 = .ok (.goto 4, 3) := by decide +kernel
theorem dX0_showInterest_22 : decode mX0_showInterest.2.2.1 22 = .ok (.iconst 0, 1) := by decide +kernel
theorem dX0_showInterest_23 : decode mX0_showInterest.2.2.1 23 = .ok (.istore_n 3, 1) := by decide +kernel
theorem dX0_showInterest_24 : decode mX0_showInterest.2.2.1 24 = .ok (.iload_n 3, 1) := by decide +kernel
theorem dX0_showInterest_25 : decode mX0_showInterest.2.2.1 25 = .ok (.aload_n 2, 1) := by decide +kernel
theorem dX0_showInterest_26 : decode mX0_showInterest.2.2.1 26 = .ok (.getfield 259, 3) := by decide +kernel
theorem dX0_showInterest_29 : decode mX0_showInterest.2.2.1 29 = .ok (.if_icmp .eq 33, 3) := by decide +kernel
theorem dX0_showInterest_32 : decode mX0_showInterest.2.2.1 32 = .ok (.aload_n 2, 1) := by decide +kernel
theorem dX0_showInterest_33 : decode mX0_showInterest.2.2.1 33 = .ok (.iload_n 3, 1) := by decide +kernel
theorem dX0_showInterest_34 : decode mX0_showInterest.2.2.1 34 = .ok (.putfield 259, 3) := by decide +kernel
theorem dX0_showInterest_37 : decode mX0_showInterest.2.2.1 37 = .ok (.aload_n 0, 1) := by decide +kernel
theorem dX0_showInterest_38 : decode mX0_showInterest.2.2.1 38 = .ok (.iload_n 3, 1) := by decide +kernel
theorem dX0_showInterest_39 : decode mX0_showInterest.2.2.1 39 = .ok (.ifCond .eq 7, 3) := by decide +kernel
theorem dX0_showInterest_42 : decode mX0_showInterest.2.2.1 42 = .ok (.iconst 2, 1) := by decide +kernel
theorem dX0_showInterest_43 : decode mX0_showInterest.2.2.1 43 = .ok (.goto 4, 3) := by decide +kernel
theorem dX0_showInterest_46 : decode mX0_showInterest.2.2.1 46 = .ok (.iconst 3, 1) := by decide +kernel
theorem dX0_showInterest_47 : decode mX0_showInterest.2.2.1 47 = .ok (.invokevirtual 262, 3) := by decide +kernel
theorem dX0_showInterest_50 : decode mX0_showInterest.2.2.1 50 = .ok (.aload_n 0, 1) := by decide +kernel
theorem dX0_showInterest_51 : decode mX0_showInterest.2.2.1 51 = .ok (.getfield 27, 3) := by decide +kernel
theorem dX0_showInterest_54 : decode mX0_showInterest.2.2.1 54 = .ok (.aload_n 2, 1) := by decide +kernel
theorem dX0_showInterest_55 : decode mX0_showInterest.2.2.1 55 = .ok (.aload_n 0, 1) := by decide +kernel
theorem dX0_showInterest_56 : decode mX0_showInterest.2.2.1 56 = .ok (.getfield 20, 3) := by decide +kernel
theorem dX0_showInterest_59 : decode mX0_showInterest.2.2.1 59 = .ok (.invokevirtual 160, 3) := by decide +kernel
theorem dX0_showInterest_62 : decode mX0_showInterest.2.2.1 62 = .ok (.return_, 1) := by decide +kernel
theorem dX0_showChoking_0 : decode mX0_showChoking.2.2.1 0 = .ok (.aload_n 1, 1) := by decide +kernel
theorem dX0_showChoking_1 : decode mX0_showChoking.2.2.1 1 = .ok (.getfield 114, 3) := by decide +kernel
theorem dX0_showChoking_4 : decode mX0_showChoking.2.2.1 4 = .ok (.ifCond .eq 26, 3) := by decide +kernel
theorem dX0_showChoking_7 : decode mX0_showChoking.2.2.1 7 = .ok (.aload_n 1, 1) := by decide +kernel
theorem dX0_showChoking_8 : decode mX0_showChoking.2.2.1 8 = .ok (.getfield 174, 3) := by decide +kernel
theorem dX0_showChoking_11 : decode mX0_showChoking.2.2.1 11 = .ok (.ifCond .eq 19, 3) := by decide +kernel
theorem dX0_showChoking_14 : decode mX0_showChoking.2.2.1 14 = .ok (.aload_n 0, 1) := by decide +kernel
theorem dX0_showChoking_15 : decode mX0_showChoking.2.2.1 15 = .ok (.aload_n 1, 1) := by decide +kernel
theorem dX0_showChoking_16 : decode mX0_showChoking.2.2.1 16 = .ok (.getfield 233, 3) := by decide +kernel
theorem dX0_showChoking_19 : decode mX0_showChoking.2.2.1 19 = .ok (.invokevirtual 265, 3) := by decide +kernel
theorem dX0_showChoking_22 : decode mX0_showChoking.2.2.1 22 = .ok (.iconst 3, 1) := by decide +kernel
theorem dX0_showChoking_23 : decode mX0_showChoking.2.2.1 23 = .ok (.if_icmp .ge 7, 3) := by decide +kernel
theorem dX0_showChoking_26 : decode mX0_showChoking.2.2.1 26 = .ok (.iconst 1, 1) := by decide +kernel
theorem dX0_showChoking_27 : decode mX0_showChoking.2.2.1 27 = .ok (.goto 4, 3) := by decide +kernel
theorem dX0_showChoking_30 : decode mX0_showChoking.2.2.1 30 = .ok (.iconst 0, 1) := by decide +kernel
theorem dX0_showChoking_31 : decode mX0_showChoking.2.2.1 31 = .ok (.istore_n 2, 1) := by decide +kernel
theorem dX0_showChoking_32 : decode mX0_showChoking.2.2.1 32 = .ok (.aload_n 1, 1) := by decide +kernel
theorem dX0_showChoking_33 : decode mX0_showChoking.2.2.1 33 = .ok (.getfield 114, 3) := by decide +kernel
theorem dX0_showChoking_36 : decode mX0_showChoking.2.2.1 36 = .ok (.ifCond .ne 14, 3) := by decide +kernel
theorem dX0_showChoking_39 : decode mX0_showChoking.2.2.1 39 = .ok (.aload_n 1, 1) := by decide +kernel
theorem dX0_showChoking_40 : decode mX0_showChoking.2.2.1 40 = .ok (.getfield 174, 3) := by decide +kernel
theorem dX0_showChoking_43 : decode mX0_showChoking.2.2.1 43 = .ok (.ifCond .ne 7, 3) := by decide +kernel
theorem dX0_showChoking_46 : decode mX0_showChoking.2.2.1 46 = .ok (.iconst 1, 1) := by decide +kernel
theorem dX0_showChoking_47 : decode mX0_showChoking.2.2.1 47 = .ok (.goto 4, 3) := by decide +kernel
theorem dX0_showChoking_50 : decode mX0_showChoking.2.2.1 50 = .ok (.iconst 0, 1) := by decide +kernel
theorem dX0_showChoking_51 : decode mX0_showChoking.2.2.1 51 = .ok (.istore_n 3, 1) := by decide +kernel
theorem dX0_showChoking_52 : decode mX0_showChoking.2.2.1 52 = .ok (.iload_n 2, 1) := by decide +kernel
theorem dX0_showChoking_53 : decode mX0_showChoking.2.2.1 53 = .ok (.ifCond .ne 7, 3) := by decide +kernel
theorem dX0_showChoking_56 : decode mX0_showChoking.2.2.1 56 = .ok (.iload_n 3, 1) := by decide +kernel
theorem dX0_showChoking_57 : decode mX0_showChoking.2.2.1 57 = .ok (.ifCond .eq 33, 3) := by decide +kernel
theorem dX0_showChoking_60 : decode mX0_showChoking.2.2.1 60 = .ok (.aload_n 1, 1) := by decide +kernel
theorem dX0_showChoking_61 : decode mX0_showChoking.2.2.1 61 = .ok (.iload_n 3, 1) := by decide +kernel
theorem dX0_showChoking_62 : decode mX0_showChoking.2.2.1 62 = .ok (.putfield 174, 3) := by decide +kernel
theorem dX0_showChoking_65 : decode mX0_showChoking.2.2.1 65 = .ok (.aload_n 0, 1) := by decide +kernel
theorem dX0_showChoking_66 : decode mX0_showChoking.2.2.1 66 = .ok (.iload_n 3, 1) := by decide +kernel
theorem dX0_showChoking_67 : decode mX0_showChoking.2.2.1 67 = .ok (.ifCond .eq 7, 3) := by decide +kernel
theorem dX0_showChoking_70 : decode mX0_showChoking.2.2.1 70 = .ok (.iconst 0, 1) := by decide +kernel
theorem dX0_showChoking_71 : decode mX0_showChoking.2.2.1 71 = .ok (.goto 4, 3) := by decide +kernel
theorem dX0_showChoking_74 : decode mX0_showChoking.2.2.1 74 = .ok (.iconst 1, 1) := by decide +kernel
theorem dX0_showChoking_75 : decode mX0_showChoking.2.2.1 75 = .ok (.invokevirtual 262, 3) := by decide +kernel
theorem dX0_showChoking_78 : decode mX0_showChoking.2.2.1 78 = .ok (.aload_n 0, 1) := by decide +kernel
theorem dX0_showChoking_79 : decode mX0_showChoking.2.2.1 79 = .ok (.getfield 27, 3) := by decide +kernel
theorem dX0_showChoking_82 : decode mX0_showChoking.2.2.1 82 = .ok (.aload_n 1, 1) := by decide +kernel
theorem dX0_showChoking_83 : decode mX0_showChoking.2.2.1 83 = .ok (.aload_n 0, 1) := by decide +kernel
theorem dX0_showChoking_84 : decode mX0_showChoking.2.2.1 84 = .ok (.getfield 20, 3) := by decide +kernel
theorem dX0_showChoking_87 : decode mX0_showChoking.2.2.1 87 = .ok (.invokevirtual 160, 3) := by decide +kernel
theorem dX0_showChoking_90 : decode mX0_showChoking.2.2.1 90 = .ok (.return_, 1) := by decide +kernel
theorem dX0_countUnchoked_0 : decode mX0_countUnchoked.2.2.1 0 = .ok (.iconst 0, 1) := by decide +kernel
theorem dX0_countUnchoked_1 : decode mX0_countUnchoked.2.2.1 1 = .ok (.istore_n 2, 1) := by decide +kernel
theorem dX0_countUnchoked_2 : decode mX0_countUnchoked.2.2.1 2 = .ok (.iconst 0, 1) := by decide +kernel
theorem dX0_countUnchoked_3 : decode mX0_countUnchoked.2.2.1 3 = .ok (.istore_n 3, 1) := by decide +kernel
theorem dX0_countUnchoked_4 : decode mX0_countUnchoked.2.2.1 4 = .ok (.iload_n 3, 1) := by decide +kernel
theorem dX0_countUnchoked_5 : decode mX0_countUnchoked.2.2.1 5 = .ok (.iconst 5, 1) := by decide +kernel
theorem dX0_countUnchoked_6 : decode mX0_countUnchoked.2.2.1 6 = .ok (.if_icmp .ge 44, 3) := by decide +kernel
theorem dX0_countUnchoked_9 : decode mX0_countUnchoked.2.2.1 9 = .ok (.aload_n 0, 1) := by decide +kernel
theorem dX0_countUnchoked_10 : decode mX0_countUnchoked.2.2.1 10 = .ok (.getfield 27, 3) := by decide +kernel
theorem dX0_countUnchoked_13 : decode mX0_countUnchoked.2.2.1 13 = .ok (.iload_n 1, 1) := by decide +kernel
theorem dX0_countUnchoked_14 : decode mX0_countUnchoked.2.2.1 14 = .ok (.iload_n 3, 1) := by decide +kernel
theorem dX0_countUnchoked_15 : decode mX0_countUnchoked.2.2.1 15 = .ok (.invokevirtual 41, 3) := by decide +kernel
theorem dX0_countUnchoked_18 : decode mX0_countUnchoked.2.2.1 18 = .ok (.astore 4, 2) := by decide +kernel
theorem dX0_countUnchoked_20 : decode mX0_countUnchoked.2.2.1 20 = .ok (.aload 4, 2) := by decide +kernel
theorem dX0_countUnchoked_22 : decode mX0_countUnchoked.2.2.1 22 = .ok (.ifnull 22, 3) := by decide +kernel
theorem dX0_countUnchoked_25 : decode mX0_countUnchoked.2.2.1 25 = .ok (.aload 4, 2) := by decide +kernel
theorem dX0_countUnchoked_27 : decode mX0_countUnchoked.2.2.1 27 = .ok (.getfield 45, 3) := by decide +kernel
theorem dX0_countUnchoked_30 : decode mX0_countUnchoked.2.2.1 30 = .ok (.ifCond .eq 14, 3) := by decide +kernel
theorem dX0_countUnchoked_33 : decode mX0_countUnchoked.2.2.1 33 = .ok (.aload 4, 2) := by decide +kernel
theorem dX0_countUnchoked_35 : decode mX0_countUnchoked.2.2.1 35 = .ok (.getfield 174, 3) := by decide +kernel
theorem dX0_countUnchoked_38 : decode mX0_countUnchoked.2.2.1 38 = .ok (.ifCond .ne 6, 3) := by decide +kernel
theorem dX0_countUnchoked_41 : decode mX0_countUnchoked.2.2.1 41 = .ok (.iinc 2 1, 3) := by decide +kernel
theorem dX0_countUnchoked_44 : decode mX0_countUnchoked.2.2.1 44 = .ok (.iinc 3 1, 3) := by decide +kernel
theorem dX0_countUnchoked_47 : decode mX0_countUnchoked.2.2.1 47 = .ok (.goto (-43), 3) := by decide +kernel
theorem dX0_countUnchoked_50 : decode mX0_countUnchoked.2.2.1 50 = .ok (.iload_n 2, 1) := by decide +kernel
theorem dX0_countUnchoked_51 : decode mX0_countUnchoked.2.2.1 51 = .ok (.ireturn, 1) := by decide +kernel
theorem dX0_askFor_0 : decode mX0_askFor.2.2.1 0 = .ok (.aload_n 2, 1) := by decide +kernel
theorem dX0_askFor_1 : decode mX0_askFor.2.2.1 1 = .ok (.getfield 259, 3) := by decide +kernel
theorem dX0_askFor_4 : decode mX0_askFor.2.2.1 4 = .ok (.ifCond .eq 10, 3) := by decide +kernel
theorem dX0_askFor_7 : decode mX0_askFor.2.2.1 7 = .ok (.aload_n 2, 1) := by decide +kernel
theorem dX0_askFor_8 : decode mX0_askFor.2.2.1 8 = .ok (.getfield 107, 3) := by decide +kernel
theorem dX0_askFor_11 : decode mX0_askFor.2.2.1 11 = .ok (.ifCond .eq 4, 3) := by decide +kernel
theorem dX0_askFor_14 : decode mX0_askFor.2.2.1 14 = .ok (.return_, 1) := by decide +kernel
theorem dX0_askFor_15 : decode mX0_askFor.2.2.1 15 = .ok (.aload_n 0, 1) := by decide +kernel
theorem dX0_askFor_16 : decode mX0_askFor.2.2.1 16 = .ok (.aload_n 1, 1) := by decide +kernel
theorem dX0_askFor_17 : decode mX0_askFor.2.2.1 17 = .ok (.aload_n 2, 1) := by decide +kernel
theorem dX0_askFor_18 : decode mX0_askFor.2.2.1 18 = .ok (.getfield 233, 3) := by decide +kernel
theorem dX0_askFor_21 : decode mX0_askFor.2.2.1 21 = .ok (.invokevirtual 268, 3) := by decide +kernel
theorem dX0_askFor_24 : decode mX0_askFor.2.2.1 24 = .ok (.aload_n 2, 1) := by decide +kernel
theorem dX0_askFor_25 : decode mX0_askFor.2.2.1 25 = .ok (.getfield 110, 3) := by decide +kernel
theorem dX0_askFor_28 : decode mX0_askFor.2.2.1 28 = .ok (.istore_n 3, 1) := by decide +kernel
theorem dX0_askFor_29 : decode mX0_askFor.2.2.1 29 = .ok (.iload_n 3, 1) := by decide +kernel
theorem dX0_askFor_30 : decode mX0_askFor.2.2.1 30 = .ok (.iconst 4, 1) := by decide +kernel
theorem dX0_askFor_31 : decode mX0_askFor.2.2.1 31 = .ok (.if_icmp .ge 106, 3) := by decide +kernel
theorem dX0_askFor_34 : decode mX0_askFor.2.2.1 34 = .ok (.aload_n 2, 1) := by decide +kernel
theorem dX0_askFor_35 : decode mX0_askFor.2.2.1 35 = .ok (.getfield 87, 3) := by decide +kernel
theorem dX0_askFor_38 : decode mX0_askFor.2.2.1 38 = .ok (.ifCond .eq 99, 3) := by decide +kernel
theorem dX0_askFor_41 : decode mX0_askFor.2.2.1 41 = .ok (.aload_n 0, 1) := by decide +kernel
theorem dX0_askFor_42 : decode mX0_askFor.2.2.1 42 = .ok (.aload_n 1, 1) := by decide +kernel
theorem dX0_askFor_43 : decode mX0_askFor.2.2.1 43 = .ok (.aload_n 2, 1) := by decide +kernel
theorem dX0_askFor_44 : decode mX0_askFor.2.2.1 44 = .ok (.invokevirtual 271, 3) := by decide +kernel
theorem dX0_askFor_47 : decode mX0_askFor.2.2.1 47 = .ok (.istore 4, 2) := by decide +kernel
theorem dX0_askFor_49 : decode mX0_askFor.2.2.1 49 = .ok (.iload 4, 2) := by decide +kernel
theorem dX0_askFor_51 : decode mX0_askFor.2.2.1 51 = .ok (.iconst (-1), 1) := by decide +kernel
theorem dX0_askFor_52 : decode mX0_askFor.2.2.1 52 = .ok (.if_icmp .ne 4, 3) := by decide +kernel
theorem dX0_askFor_55 : decode mX0_askFor.2.2.1 55 = .ok (.return_, 1) := by decide +kernel
theorem dX0_askFor_56 : decode mX0_askFor.2.2.1 56 = .ok (.aload_n 0, 1) := by decide +kernel
theorem dX0_askFor_57 : decode mX0_askFor.2.2.1 57 = .ok (.getfield 23, 3) := by decide +kernel
theorem dX0_askFor_60 : decode mX0_askFor.2.2.1 60 = .ok (.iload 4, 2) := by decide +kernel
theorem dX0_askFor_62 : decode mX0_askFor.2.2.1 62 = .ok (.iaload, 1) := by decide +kernel
theorem dX0_askFor_63 : decode mX0_askFor.2.2.1 63 = .ok (.invokestatic 274, 3) := by decide +kernel
theorem dX0_askFor_66 : decode mX0_askFor.2.2.1 66 = .ok (.istore 5, 2) := by decide +kernel
theorem dX0_askFor_68 : decode mX0_askFor.2.2.1 68 = .ok (.aload_n 0, 1) := by decide +kernel
theorem dX0_askFor_69 : decode mX0_askFor.2.2.1 69 = .ok (.getfield 23, 3) := by decide +kernel
theorem dX0_askFor_72 : decode mX0_askFor.2.2.1 72 = .ok (.iload 4, 2) := by decide +kernel
theorem dX0_askFor_74 : decode mX0_askFor.2.2.1 74 = .ok (.dup2, 1) := by decide +kernel
theorem dX0_askFor_75 : decode mX0_askFor.2.2.1 75 = .ok (.iaload, 1) := by decide +kernel
theorem dX0_askFor_76 : decode mX0_askFor.2.2.1 76 = .ok (.iconst 1, 1) := by decide +kernel
theorem dX0_askFor_77 : decode mX0_askFor.2.2.1 77 = .ok (.iload 5, 2) := by decide +kernel
theorem dX0_askFor_79 : decode mX0_askFor.2.2.1 79 = .ok (.ishl, 1) := by decide +kernel
theorem dX0_askFor_80 : decode mX0_askFor.2.2.1 80 = .ok (.ior, 1) := by decide +kernel
theorem dX0_askFor_81 : decode mX0_askFor.2.2.1 81 = .ok (.iastore, 1) := by decide +kernel
theorem dX0_askFor_82 : decode mX0_askFor.2.2.1 82 = .ok (.aload_n 2, 1) := by decide +kernel
theorem dX0_askFor_83 : decode mX0_askFor.2.2.1 83 = .ok (.bipush 16, 2) := by decide +kernel
theorem dX0_askFor_85 : decode mX0_askFor.2.2.1 85 = .ok (.iload 4, 2) := by decide +kernel
theorem dX0_askFor_87 : decode mX0_askFor.2.2.1 87 = .ok (.imul, 1) := by decide +kernel
theorem dX0_askFor_88 : decode mX0_askFor.2.2.1 88 = .ok (.iload 5, 2) := by decide +kernel
theorem dX0_askFor_90 : decode mX0_askFor.2.2.1 90 = .ok (.iadd, 1) := by decide +kernel
theorem dX0_askFor_91 : decode mX0_askFor.2.2.1 91 = .ok (.invokevirtual 277, 3) := by decide +kernel
theorem dX0_askFor_94 : decode mX0_askFor.2.2.1 94 = .ok (.aload_n 0, 1) := by decide +kernel
theorem dX0_askFor_95 : decode mX0_askFor.2.2.1 95 = .ok (.iload 4, 2) := by decide +kernel
theorem dX0_askFor_97 : decode mX0_askFor.2.2.1 97 = .ok (.bipush 64, 2) := by decide +kernel
theorem dX0_askFor_99 : decode mX0_askFor.2.2.1 99 = .ok (.iload 5, 2) := by decide +kernel
theorem dX0_askFor_101 : decode mX0_askFor.2.2.1 101 = .ok (.imul, 1) := by decide +kernel
theorem dX0_askFor_102 : decode mX0_askFor.2.2.1 102 = .ok (.aload_n 0, 1) := by decide +kernel
theorem dX0_askFor_103 : decode mX0_askFor.2.2.1 103 = .ok (.getfield 27, 3) := by decide +kernel
theorem dX0_askFor_106 : decode mX0_askFor.2.2.1 106 = .ok (.getfield 133, 3) := by decide +kernel
theorem dX0_askFor_109 : decode mX0_askFor.2.2.1 109 = .ok (.iload 4, 2) := by decide +kernel
theorem dX0_askFor_111 : decode mX0_askFor.2.2.1 111 = .ok (.iload 5, 2) := by decide +kernel
theorem dX0_askFor_113 : decode mX0_askFor.2.2.1 113 = .ok (.invokevirtual 239, 3) := by decide +kernel
theorem dX0_askFor_116 : decode mX0_askFor.2.2.1 116 = .ok (.invokevirtual 280, 3) := by decide +kernel
theorem dX0_askFor_119 : decode mX0_askFor.2.2.1 119 = .ok (.aload_n 0, 1) := by decide +kernel
theorem dX0_askFor_120 : decode mX0_askFor.2.2.1 120 = .ok (.getfield 27, 3) := by decide +kernel
theorem dX0_askFor_123 : decode mX0_askFor.2.2.1 123 = .ok (.aload_n 2, 1) := by decide +kernel
theorem dX0_askFor_124 : decode mX0_askFor.2.2.1 124 = .ok (.aload_n 0, 1) := by decide +kernel
theorem dX0_askFor_125 : decode mX0_askFor.2.2.1 125 = .ok (.getfield 20, 3) := by decide +kernel
theorem dX0_askFor_128 : decode mX0_askFor.2.2.1 128 = .ok (.invokevirtual 160, 3) := by decide +kernel
theorem dX0_askFor_131 : decode mX0_askFor.2.2.1 131 = .ok (.iinc 3 1, 3) := by decide +kernel
theorem dX0_askFor_134 : decode mX0_askFor.2.2.1 134 = .ok (.goto (-105), 3) := by decide +kernel
theorem dX0_askFor_137 : decode mX0_askFor.2.2.1 137 = .ok (.return_, 1) := by decide +kernel
theorem dX0_firstFree_0 : decode mX0_firstFree.2.2.1 0 = .ok (.iconst 0, 1) := by decide +kernel
theorem dX0_firstFree_1 : decode mX0_firstFree.2.2.1 1 = .ok (.istore_n 1, 1) := by decide +kernel
theorem dX0_firstFree_2 : decode mX0_firstFree.2.2.1 2 = .ok (.iload_n 1, 1) := by decide +kernel
theorem dX0_firstFree_3 : decode mX0_firstFree.2.2.1 3 = .ok (.bipush 16, 2) := by decide +kernel
theorem dX0_firstFree_5 : decode mX0_firstFree.2.2.1 5 = .ok (.if_icmp .ge 17, 3) := by decide +kernel
theorem dX0_firstFree_8 : decode mX0_firstFree.2.2.1 8 = .ok (.iload_n 0, 1) := by decide +kernel
theorem dX0_firstFree_9 : decode mX0_firstFree.2.2.1 9 = .ok (.iload_n 1, 1) := by decide +kernel
theorem dX0_firstFree_10 : decode mX0_firstFree.2.2.1 10 = .ok (.ishr, 1) := by decide +kernel
theorem dX0_firstFree_11 : decode mX0_firstFree.2.2.1 11 = .ok (.iconst 1, 1) := by decide +kernel
theorem dX0_firstFree_12 : decode mX0_firstFree.2.2.1 12 = .ok (.iand, 1) := by decide +kernel
theorem dX0_firstFree_13 : decode mX0_firstFree.2.2.1 13 = .ok (.ifCond .eq 9, 3) := by decide +kernel
theorem dX0_firstFree_16 : decode mX0_firstFree.2.2.1 16 = .ok (.iinc 1 1, 3) := by decide +kernel
theorem dX0_firstFree_19 : decode mX0_firstFree.2.2.1 19 = .ok (.goto (-17), 3) := by decide +kernel
theorem dX0_firstFree_22 : decode mX0_firstFree.2.2.1 22 = .ok (.iload_n 1, 1) := by decide +kernel
theorem dX0_firstFree_23 : decode mX0_firstFree.2.2.1 23 = .ok (.ireturn, 1) := by decide +kernel
theorem dX0_lookWhatIsBusy_0 : decode mX0_lookWhatIsBusy.2.2.1 0 = .ok (.aload_n 1, 1) := by decide +kernel
theorem dX0_lookWhatIsBusy_1 : decode mX0_lookWhatIsBusy.2.2.1 1 = .ok (.getfield 200, 3) := by decide +kernel
theorem dX0_lookWhatIsBusy_4 : decode mX0_lookWhatIsBusy.2.2.1 4 = .ok (.iconst 0, 1) := by decide +kernel
theorem dX0_lookWhatIsBusy_5 : decode mX0_lookWhatIsBusy.2.2.1 5 = .ok (.aload_n 0, 1) := by decide +kernel
theorem dX0_lookWhatIsBusy_6 : decode mX0_lookWhatIsBusy.2.2.1 6 = .ok (.getfield 23, 3) := by decide +kernel
theorem dX0_lookWhatIsBusy_9 : decode mX0_lookWhatIsBusy.2.2.1 9 = .ok (.iconst 0, 1) := by decide +kernel
theorem dX0_lookWhatIsBusy_10 : decode mX0_lookWhatIsBusy.2.2.1 10 = .ok (.bipush 64, 2) := by decide +kernel
theorem dX0_lookWhatIsBusy_12 : decode mX0_lookWhatIsBusy.2.2.1 12 = .ok (.invokestatic 283, 3) := by decide +kernel
theorem dX0_lookWhatIsBusy_15 : decode mX0_lookWhatIsBusy.2.2.1 15 = .ok (.iconst 0, 1) := by decide +kernel
theorem dX0_lookWhatIsBusy_16 : decode mX0_lookWhatIsBusy.2.2.1 16 = .ok (.istore_n 3, 1) := by decide +kernel
theorem dX0_lookWhatIsBusy_17 : decode mX0_lookWhatIsBusy.2.2.1 17 = .ok (.iload_n 3, 1) := by decide +kernel
theorem dX0_lookWhatIsBusy_18 : decode mX0_lookWhatIsBusy.2.2.1 18 = .ok (.iconst 5, 1) := by decide +kernel
theorem dX0_lookWhatIsBusy_19 : decode mX0_lookWhatIsBusy.2.2.1 19 = .ok (.if_icmp .ge 102, 3) := by decide +kernel
theorem dX0_lookWhatIsBusy_22 : decode mX0_lookWhatIsBusy.2.2.1 22 = .ok (.aload_n 0, 1) := by decide +kernel
theorem dX0_lookWhatIsBusy_23 : decode mX0_lookWhatIsBusy.2.2.1 23 = .ok (.getfield 27, 3) := by decide +kernel
theorem dX0_lookWhatIsBusy_26 : decode mX0_lookWhatIsBusy.2.2.1 26 = .ok (.iload_n 2, 1) := by decide +kernel
theorem dX0_lookWhatIsBusy_27 : decode mX0_lookWhatIsBusy.2.2.1 27 = .ok (.iload_n 3, 1) := by decide +kernel
theorem dX0_lookWhatIsBusy_28 : decode mX0_lookWhatIsBusy.2.2.1 28 = .ok (.invokevirtual 41, 3) := by decide +kernel
theorem dX0_lookWhatIsBusy_31 : decode mX0_lookWhatIsBusy.2.2.1 31 = .ok (.astore 4, 2) := by decide +kernel
theorem dX0_lookWhatIsBusy_33 : decode mX0_lookWhatIsBusy.2.2.1 33 = .ok (.iconst 0, 1) := by decide +kernel
theorem dX0_lookWhatIsBusy_34 : decode mX0_lookWhatIsBusy.2.2.1 34 = .ok (.istore 5, 2) := by decide +kernel
theorem dX0_lookWhatIsBusy_36 : decode mX0_lookWhatIsBusy.2.2.1 36 = .ok (.aload 4, 2) := by decide +kernel
theorem dX0_lookWhatIsBusy_38 : decode mX0_lookWhatIsBusy.2.2.1 38 = .ok (.ifnull 77, 3) := by decide +kernel
theorem dX0_lookWhatIsBusy_41 : decode mX0_lookWhatIsBusy.2.2.1 41 = .ok (.iload 5, 2) := by decide +kernel
theorem dX0_lookWhatIsBusy_43 : decode mX0_lookWhatIsBusy.2.2.1 43 = .ok (.aload 4, 2) := by decide +kernel
theorem dX0_lookWhatIsBusy_45 : decode mX0_lookWhatIsBusy.2.2.1 45 = .ok (.getfield 110, 3) := by decide +kernel
theorem dX0_lookWhatIsBusy_48 : decode mX0_lookWhatIsBusy.2.2.1 48 = .ok (.if_icmp .ge 67, 3) := by decide +kernel
theorem dX0_lookWhatIsBusy_51 : decode mX0_lookWhatIsBusy.2.2.1 51 = .ok (.iload 5, 2) := by decide +kernel
theorem dX0_lookWhatIsBusy_53 : decode mX0_lookWhatIsBusy.2.2.1 53 = .ok (.iconst 4, 1) := by decide +kernel
theorem dX0_lookWhatIsBusy_54 : decode mX0_lookWhatIsBusy.2.2.1 54 = .ok (.if_icmp .ge 61, 3) := by decide +kernel
theorem dX0_lookWhatIsBusy_57 : decode mX0_lookWhatIsBusy.2.2.1 57 = .ok (.aload 4, 2) := by decide +kernel
theorem dX0_lookWhatIsBusy_59 : decode mX0_lookWhatIsBusy.2.2.1 59 = .ok (.getfield 236, 3) := by decide +kernel
theorem dX0_lookWhatIsBusy_62 : decode mX0_lookWhatIsBusy.2.2.1 62 = .ok (.iload 5, 2) := by decide +kernel
theorem dX0_lookWhatIsBusy_64 : decode mX0_lookWhatIsBusy.2.2.1 64 = .ok (.iaload, 1) := by decide +kernel
theorem dX0_lookWhatIsBusy_65 : decode mX0_lookWhatIsBusy.2.2.1 65 = .ok (.bipush 16, 2) := by decide +kernel
theorem dX0_lookWhatIsBusy_67 : decode mX0_lookWhatIsBusy.2.2.1 67 = .ok (.idiv, 1) := by decide +kernel
theorem dX0_lookWhatIsBusy_68 : decode mX0_lookWhatIsBusy.2.2.1 68 = .ok (.istore 6, 2) := by decide +kernel
theorem dX0_lookWhatIsBusy_70 : decode mX0_lookWhatIsBusy.2.2.1 70 = .ok (.aload_n 0, 1) := by decide +kernel
theorem dX0_lookWhatIsBusy_71 : decode mX0_lookWhatIsBusy.2.2.1 71 = .ok (.getfield 27, 3) := by decide +kernel
theorem dX0_lookWhatIsBusy_74 : decode mX0_lookWhatIsBusy.2.2.1 74 = .ok (.getfield 133, 3) := by decide +kernel
theorem dX0_lookWhatIsBusy_77 : decode mX0_lookWhatIsBusy.2.2.1 77 = .ok (.iload 6, 2) := by decide +kernel
theorem dX0_lookWhatIsBusy_79 : decode mX0_lookWhatIsBusy.2.2.1 79 = .ok (.i2l, 1) := by decide +kernel
theorem dX0_lookWhatIsBusy_80 : decode mX0_lookWhatIsBusy.2.2.1 80 = .ok (.invokevirtual 164, 3) := by decide +kernel
theorem dX0_lookWhatIsBusy_83 : decode mX0_lookWhatIsBusy.2.2.1 83 = .ok (.ifCond .eq 26, 3) := by decide +kernel
theorem dX0_lookWhatIsBusy_86 : decode mX0_lookWhatIsBusy.2.2.1 86 = .ok (.aload_n 0, 1) := by decide +kernel
theorem dX0_lookWhatIsBusy_87 : decode mX0_lookWhatIsBusy.2.2.1 87 = .ok (.getfield 23, 3) := by decide +kernel
theorem dX0_lookWhatIsBusy_90 : decode mX0_lookWhatIsBusy.2.2.1 90 = .ok (.iload 6, 2) := by decide +kernel
theorem dX0_lookWhatIsBusy_92 : decode mX0_lookWhatIsBusy.2.2.1 92 = .ok (.dup2, 1) := by decide +kernel
theorem dX0_lookWhatIsBusy_93 : decode mX0_lookWhatIsBusy.2.2.1 93 = .ok (.iaload, 1) := by decide +kernel
theorem dX0_lookWhatIsBusy_94 : decode mX0_lookWhatIsBusy.2.2.1 94 = .ok (.iconst 1, 1) := by decide +kernel
theorem dX0_lookWhatIsBusy_95 : decode mX0_lookWhatIsBusy.2.2.1 95 = .ok (.aload 4, 2) := by decide +kernel
theorem dX0_lookWhatIsBusy_97 : decode mX0_lookWhatIsBusy.2.2.1 97 = .ok (.getfield 236, 3) := by decide +kernel
theorem dX0_lookWhatIsBusy_100 : decode mX0_lookWhatIsBusy.2.2.1 100 = .ok (.iload 5, 2) := by decide +kernel
theorem dX0_lookWhatIsBusy_102 : decode mX0_lookWhatIsBusy.2.2.1 102 = .ok (.iaload, 1) := by decide +kernel
theorem dX0_lookWhatIsBusy_103 : decode mX0_lookWhatIsBusy.2.2.1 103 = .ok (.bipush 16, 2) := by decide +kernel
theorem dX0_lookWhatIsBusy_105 : decode mX0_lookWhatIsBusy.2.2.1 105 = .ok (.irem, 1) := by decide +kernel
theorem dX0_lookWhatIsBusy_106 : decode mX0_lookWhatIsBusy.2.2.1 106 = .ok (.ishl, 1) := by decide +kernel
theorem dX0_lookWhatIsBusy_107 : decode mX0_lookWhatIsBusy.2.2.1 107 = .ok (.ior, 1) := by decide +kernel
theorem dX0_lookWhatIsBusy_108 : decode mX0_lookWhatIsBusy.2.2.1 108 = .ok (.iastore, 1) := by decide +kernel
theorem dX0_lookWhatIsBusy_109 : decode mX0_lookWhatIsBusy.2.2.1 109 = .ok (.iinc 5 1, 3) := by decide +kernel
theorem dX0_lookWhatIsBusy_112 : decode mX0_lookWhatIsBusy.2.2.1 112 = .ok (.goto (-76), 3) := by decide +kernel
theorem dX0_lookWhatIsBusy_115 : decode mX0_lookWhatIsBusy.2.2.1 115 = .ok (.iinc 3 1, 3) := by decide +kernel
theorem dX0_lookWhatIsBusy_118 : decode mX0_lookWhatIsBusy.2.2.1 118 = .ok (.goto (-101), 3) := by decide +kernel
theorem dX0_lookWhatIsBusy_121 : decode mX0_lookWhatIsBusy.2.2.1 121 = .ok (.return_, 1) := by decide +kernel
theorem dX0_rarestPiece_0 : decode mX0_rarestPiece.2.2.1 0 = .ok (.aload_n 2, 1) := by decide +kernel
theorem dX0_rarestPiece_1 : decode mX0_rarestPiece.2.2.1 1 = .ok (.getfield 168, 3) := by decide +kernel
theorem dX0_rarestPiece_4 : decode mX0_rarestPiece.2.2.1 4 = .ok (.aload_n 1, 1) := by decide +kernel
theorem dX0_rarestPiece_5 : decode mX0_rarestPiece.2.2.1 5 = .ok (.getfield 150, 3) := by decide +kernel
theorem dX0_rarestPiece_8 : decode mX0_rarestPiece.2.2.1 8 = .ok (.ldc2_w 257, 3) := by decide +kernel
theorem dX0_rarestPiece_11 : decode mX0_rarestPiece.2.2.1 11 = .ok (.lxor, 1) := by decide +kernel
theorem dX0_rarestPiece_12 : decode mX0_rarestPiece.2.2.1 12 = .ok (.land, 1) := by decide +kernel
theorem dX0_rarestPiece_13 : decode mX0_rarestPiece.2.2.1 13 = .ok (.lstore_n 3, 1) := by decide +kernel
theorem dX0_rarestPiece_14 : decode mX0_rarestPiece.2.2.1 14 = .ok (.iconst (-1), 1) := by decide +kernel
theorem dX0_rarestPiece_15 : decode mX0_rarestPiece.2.2.1 15 = .ok (.istore 5, 2) := by decide +kernel
theorem dX0_rarestPiece_17 : decode mX0_rarestPiece.2.2.1 17 = .ok (.iconst 5, 1) := by decide +kernel
theorem dX0_rarestPiece_18 : decode mX0_rarestPiece.2.2.1 18 = .ok (.istore 6, 2) := by decide +kernel
theorem dX0_rarestPiece_20 : decode mX0_rarestPiece.2.2.1 20 = .ok (.iconst 0, 1) := by decide +kernel
theorem dX0_rarestPiece_21 : decode mX0_rarestPiece.2.2.1 21 = .ok (.istore 7, 2) := by decide +kernel
theorem dX0_rarestPiece_23 : decode mX0_rarestPiece.2.2.1 23 = .ok (.iload 7, 2) := by decide +kernel
theorem dX0_rarestPiece_25 : decode mX0_rarestPiece.2.2.1 25 = .ok (.aload_n 0, 1) := by decide +kernel
theorem dX0_rarestPiece_26 : decode mX0_rarestPiece.2.2.1 26 = .ok (.getfield 27, 3) := by decide +kernel
theorem dX0_rarestPiece_29 : decode mX0_rarestPiece.2.2.1 29 = .ok (.getfield 133, 3) := by decide +kernel
theorem dX0_rarestPiece_32 : decode mX0_rarestPiece.2.2.1 32 = .ok (.getfield 289, 3) := by decide +kernel
theorem dX0_rarestPiece_35 : decode mX0_rarestPiece.2.2.1 35 = .ok (.if_icmp .ge 76, 3) := by decide +kernel
theorem dX0_rarestPiece_38 : decode mX0_rarestPiece.2.2.1 38 = .ok (.iload 7, 2) := by decide +kernel
theorem dX0_rarestPiece_40 : decode mX0_rarestPiece.2.2.1 40 = .ok (.bipush 64, 2) := by decide +kernel
theorem dX0_rarestPiece_42 : decode mX0_rarestPiece.2.2.1 42 = .ok (.if_icmp .ge 69, 3) := by decide +kernel
theorem dX0_rarestPiece_45 : decode mX0_rarestPiece.2.2.1 45 = .ok (.lload_n 3, 1) := by decide +kernel
theorem dX0_rarestPiece_46 : decode mX0_rarestPiece.2.2.1 46 = .ok (.iload 7, 2) := by decide +kernel
theorem dX0_rarestPiece_48 : decode mX0_rarestPiece.2.2.1 48 = .ok (.lushr, 1) := by decide +kernel
theorem dX0_rarestPiece_49 : decode mX0_rarestPiece.2.2.1 49 = .ok (.lconst 1, 1) := by decide +kernel
theorem dX0_rarestPiece_50 : decode mX0_rarestPiece.2.2.1 50 = .ok (.land, 1) := by decide +kernel
theorem dX0_rarestPiece_51 : decode mX0_rarestPiece.2.2.1 51 = .ok (.lconst 0, 1) := by decide +kernel
theorem dX0_rarestPiece_52 : decode mX0_rarestPiece.2.2.1 52 = .ok (.lcmp, 1) := by decide +kernel
theorem dX0_rarestPiece_53 : decode mX0_rarestPiece.2.2.1 53 = .ok (.ifCond .eq 52, 3) := by decide +kernel
theorem dX0_rarestPiece_56 : decode mX0_rarestPiece.2.2.1 56 = .ok (.aload_n 0, 1) := by decide +kernel
theorem dX0_rarestPiece_57 : decode mX0_rarestPiece.2.2.1 57 = .ok (.getfield 23, 3) := by decide +kernel
theorem dX0_rarestPiece_60 : decode mX0_rarestPiece.2.2.1 60 = .ok (.iload 7, 2) := by decide +kernel
theorem dX0_rarestPiece_62 : decode mX0_rarestPiece.2.2.1 62 = .ok (.iaload, 1) := by decide +kernel
theorem dX0_rarestPiece_63 : decode mX0_rarestPiece.2.2.1 63 = .ok (.aload_n 0, 1) := by decide +kernel
theorem dX0_rarestPiece_64 : decode mX0_rarestPiece.2.2.1 64 = .ok (.getfield 27, 3) := by decide +kernel
theorem dX0_rarestPiece_67 : decode mX0_rarestPiece.2.2.1 67 = .ok (.getfield 133, 3) := by decide +kernel
theorem dX0_rarestPiece_70 : decode mX0_rarestPiece.2.2.1 70 = .ok (.iload 7, 2) := by decide +kernel
theorem dX0_rarestPiece_72 : decode mX0_rarestPiece.2.2.1 72 = .ok (.invokevirtual 209, 3) := by decide +kernel
theorem dX0_rarestPiece_75 : decode mX0_rarestPiece.2.2.1 75 = .ok (.if_icmp .eq 30, 3) := by decide +kernel
theorem dX0_rarestPiece_78 : decode mX0_rarestPiece.2.2.1 78 = .ok (.aload_n 0, 1) := by decide +kernel
theorem dX0_rarestPiece_79 : decode mX0_rarestPiece.2.2.1 79 = .ok (.aload_n 2, 1) := by decide +kernel
theorem dX0_rarestPiece_80 : decode mX0_rarestPiece.2.2.1 80 = .ok (.getfield 233, 3) := by decide +kernel
theorem dX0_rarestPiece_83 : decode mX0_rarestPiece.2.2.1 83 = .ok (.iload 7, 2) := by decide +kernel
theorem dX0_rarestPiece_85 : decode mX0_rarestPiece.2.2.1 85 = .ok (.invokevirtual 292, 3) := by decide +kernel
theorem dX0_rarestPiece_88 : decode mX0_rarestPiece.2.2.1 88 = .ok (.istore 8, 2) := by decide +kernel
theorem dX0_rarestPiece_90 : decode mX0_rarestPiece.2.2.1 90 = .ok (.iload 8, 2) := by decide +kernel
theorem dX0_rarestPiece_92 : decode mX0_rarestPiece.2.2.1 92 = .ok (.iload 6, 2) := by decide +kernel
theorem dX0_rarestPiece_94 : decode mX0_rarestPiece.2.2.1 94 = .ok (.if_icmp .ge 11, 3) := by decide +kernel
theorem dX0_rarestPiece_97 : decode mX0_rarestPiece.2.2.1 97 = .ok (.iload 8, 2) := by decide +kernel
theorem dX0_rarestPiece_99 : decode mX0_rarestPiece.2.2.1 99 = .ok (.istore 6, 2) := by decide +kernel
theorem dX0_rarestPiece_101 : decode mX0_rarestPiece.2.2.1 101 = .ok (.iload 7, 2) := by decide +kernel
theorem dX0_rarestPiece_103 : decode mX0_rarestPiece.2.2.1 103 = .ok (.istore 5, 2) := by decide +kernel
theorem dX0_rarestPiece_105 : decode mX0_rarestPiece.2.2.1 105 = .ok (.iinc 7 1, 3) := by decide +kernel
theorem dX0_rarestPiece_108 : decode mX0_rarestPiece.2.2.1 108 = .ok (.goto (-85), 3) := by decide +kernel
theorem dX0_rarestPiece_111 : decode mX0_rarestPiece.2.2.1 111 = .ok (.iload 5, 2) := by decide +kernel
theorem dX0_rarestPiece_113 : decode mX0_rarestPiece.2.2.1 113 = .ok (.ireturn, 1) := by decide +kernel
theorem dX0_countHolders_0 : decode mX0_countHolders.2.2.1 0 = .ok (.iconst 0, 1) := by decide +kernel
theorem dX0_countHolders_1 : decode mX0_countHolders.2.2.1 1 = .ok (.istore_n 3, 1) := by decide +kernel
theorem dX0_countHolders_2 : decode mX0_countHolders.2.2.1 2 = .ok (.iconst 0, 1) := by decide +kernel
theorem dX0_countHolders_3 : decode mX0_countHolders.2.2.1 3 = .ok (.istore 4, 2) := by decide +kernel
theorem dX0_countHolders_5 : decode mX0_countHolders.2.2.1 5 = .ok (.iload 4, 2) := by decide +kernel
theorem dX0_countHolders_7 : decode mX0_countHolders.2.2.1 7 = .ok (.iconst 5, 1) := by decide +kernel
theorem dX0_countHolders_8 : decode mX0_countHolders.2.2.1 8 = .ok (.if_icmp .ge 46, 3) := by decide +kernel
theorem dX0_countHolders_11 : decode mX0_countHolders.2.2.1 11 = .ok (.aload_n 0, 1) := by decide +kernel
theorem dX0_countHolders_12 : decode mX0_countHolders.2.2.1 12 = .ok (.getfield 27, 3) := by decide +kernel
theorem dX0_countHolders_15 : decode mX0_countHolders.2.2.1 15 = .ok (.iload_n 1, 1) := by decide +kernel
theorem dX0_countHolders_16 : decode mX0_countHolders.2.2.1 16 = .ok (.iload 4, 2) := by decide +kernel
theorem dX0_countHolders_18 : decode mX0_countHolders.2.2.1 18 = .ok (.invokevirtual 41, 3) := by decide +kernel
theorem dX0_countHolders_21 : decode mX0_countHolders.2.2.1 21 = .ok (.astore 5, 2) := by decide +kernel
theorem dX0_countHolders_23 : decode mX0_countHolders.2.2.1 23 = .ok (.aload 5, 2) := by decide +kernel
theorem dX0_countHolders_25 : decode mX0_countHolders.2.2.1 25 = .ok (.ifnull 23, 3) := by decide +kernel
theorem dX0_countHolders_28 : decode mX0_countHolders.2.2.1 28 = .ok (.aload 5, 2) := by decide +kernel
theorem dX0_countHolders_30 : decode mX0_countHolders.2.2.1 30 = .ok (.getfield 87, 3) := by decide +kernel
theorem dX0_countHolders_33 : decode mX0_countHolders.2.2.1 33 = .ok (.ifCond .eq 15, 3) := by decide +kernel
theorem dX0_countHolders_36 : decode mX0_countHolders.2.2.1 36 = .ok (.aload 5, 2) := by decide +kernel
theorem dX0_countHolders_38 : decode mX0_countHolders.2.2.1 38 = .ok (.iload_n 2, 1) := by decide +kernel
theorem dX0_countHolders_39 : decode mX0_countHolders.2.2.1 39 = .ok (.invokevirtual 295, 3) := by decide +kernel
theorem dX0_countHolders_42 : decode mX0_countHolders.2.2.1 42 = .ok (.ifCond .eq 6, 3) := by decide +kernel
theorem dX0_countHolders_45 : decode mX0_countHolders.2.2.1 45 = .ok (.iinc 3 1, 3) := by decide +kernel
theorem dX0_countHolders_48 : decode mX0_countHolders.2.2.1 48 = .ok (.iinc 4 1, 3) := by decide +kernel
theorem dX0_countHolders_51 : decode mX0_countHolders.2.2.1 51 = .ok (.goto (-46), 3) := by decide +kernel
theorem dX0_countHolders_54 : decode mX0_countHolders.2.2.1 54 = .ok (.iload_n 3, 1) := by decide +kernel
theorem dX0_countHolders_55 : decode mX0_countHolders.2.2.1 55 = .ok (.ireturn, 1) := by decide +kernel
theorem dX0_notePlain_0 : decode mX0_notePlain.2.2.1 0 = .ok (.aload_n 0, 1) := by decide +kernel
theorem dX0_notePlain_1 : decode mX0_notePlain.2.2.1 1 = .ok (.getfield 20, 3) := by decide +kernel
theorem dX0_notePlain_4 : decode mX0_notePlain.2.2.1 4 = .ok (.iconst 0, 1) := by decide +kernel
theorem dX0_notePlain_5 : decode mX0_notePlain.2.2.1 5 = .ok (.invokevirtual 55, 3) := by decide +kernel
theorem dX0_notePlain_8 : decode mX0_notePlain.2.2.1 8 = .ok (.aload_n 0, 1) := by decide +kernel
theorem dX0_notePlain_9 : decode mX0_notePlain.2.2.1 9 = .ok (.getfield 20, 3) := by decide +kernel
theorem dX0_notePlain_12 : decode mX0_notePlain.2.2.1 12 = .ok (.iconst 1, 1) := by decide +kernel
theorem dX0_notePlain_13 : decode mX0_notePlain.2.2.1 13 = .ok (.invokevirtual 298, 3) := by decide +kernel
theorem dX0_notePlain_16 : decode mX0_notePlain.2.2.1 16 = .ok (.aload_n 0, 1) := by decide +kernel
theorem dX0_notePlain_17 : decode mX0_notePlain.2.2.1 17 = .ok (.getfield 20, 3) := by decide +kernel
theorem dX0_notePlain_20 : decode mX0_notePlain.2.2.1 20 = .ok (.iload_n 1, 1) := by decide +kernel
theorem dX0_notePlain_21 : decode mX0_notePlain.2.2.1 21 = .ok (.invokevirtual 301, 3) := by decide +kernel
theorem dX0_notePlain_24 : decode mX0_notePlain.2.2.1 24 = .ok (.return_, 1) := by decide +kernel
theorem dX0_noteHave_0 : decode mX0_noteHave.2.2.1 0 = .ok (.aload_n 0, 1) := by decide +kernel
theorem dX0_noteHave_1 : decode mX0_noteHave.2.2.1 1 = .ok (.getfield 20, 3) := by decide +kernel
theorem dX0_noteHave_4 : decode mX0_noteHave.2.2.1 4 = .ok (.iconst 0, 1) := by decide +kernel
theorem dX0_noteHave_5 : decode mX0_noteHave.2.2.1 5 = .ok (.invokevirtual 55, 3) := by decide +kernel
theorem dX0_noteHave_8 : decode mX0_noteHave.2.2.1 8 = .ok (.aload_n 0, 1) := by decide +kernel
theorem dX0_noteHave_9 : decode mX0_noteHave.2.2.1 9 = .ok (.getfield 20, 3) := by decide +kernel
theorem dX0_noteHave_12 : decode mX0_noteHave.2.2.1 12 = .ok (.iconst 5, 1) := by decide +kernel
theorem dX0_noteHave_13 : decode mX0_noteHave.2.2.1 13 = .ok (.invokevirtual 298, 3) := by decide +kernel
theorem dX0_noteHave_16 : decode mX0_noteHave.2.2.1 16 = .ok (.aload_n 0, 1) := by decide +kernel
theorem dX0_noteHave_17 : decode mX0_noteHave.2.2.1 17 = .ok (.getfield 20, 3) := by decide +kernel
theorem dX0_noteHave_20 : decode mX0_noteHave.2.2.1 20 = .ok (.iconst 4, 1) := by decide +kernel
theorem dX0_noteHave_21 : decode mX0_noteHave.2.2.1 21 = .ok (.invokevirtual 301, 3) := by decide +kernel
theorem dX0_noteHave_24 : decode mX0_noteHave.2.2.1 24 = .ok (.aload_n 0, 1) := by decide +kernel
theorem dX0_noteHave_25 : decode mX0_noteHave.2.2.1 25 = .ok (.getfield 20, 3) := by decide +kernel
theorem dX0_noteHave_28 : decode mX0_noteHave.2.2.1 28 = .ok (.iload_n 1, 1) := by decide +kernel
theorem dX0_noteHave_29 : decode mX0_noteHave.2.2.1 29 = .ok (.invokevirtual 298, 3) := by decide +kernel
theorem dX0_noteHave_32 : decode mX0_noteHave.2.2.1 32 = .ok (.return_, 1) := by decide +kernel
theorem dX0_noteBitfield_0 : decode mX0_noteBitfield.2.2.1 0 = .ok (.aload_n 0, 1) := by decide +kernel
theorem dX0_noteBitfield_1 : decode mX0_noteBitfield.2.2.1 1 = .ok (.getfield 27, 3) := by decide +kernel
theorem dX0_noteBitfield_4 : decode mX0_noteBitfield.2.2.1 4 = .ok (.getfield 133, 3) := by decide +kernel
theorem dX0_noteBitfield_7 : decode mX0_noteBitfield.2.2.1 7 = .ok (.invokevirtual 137, 3) := by decide +kernel
theorem dX0_noteBitfield_10 : decode mX0_noteBitfield.2.2.1 10 = .ok (.istore_n 3, 1) := by decide +kernel
theorem dX0_noteBitfield_11 : decode mX0_noteBitfield.2.2.1 11 = .ok (.aload_n 0, 1) := by decide +kernel
theorem dX0_noteBitfield_12 : decode mX0_noteBitfield.2.2.1 12 = .ok (.getfield 20, 3) := by decide +kernel
theorem dX0_noteBitfield_15 : decode mX0_noteBitfield.2.2.1 15 = .ok (.iconst 0, 1) := by decide +kernel
theorem dX0_noteBitfield_16 : decode mX0_noteBitfield.2.2.1 16 = .ok (.invokevirtual 55, 3) := by decide +kernel
theorem dX0_noteBitfield_19 : decode mX0_noteBitfield.2.2.1 19 = .ok (.aload_n 0, 1) := by decide +kernel
theorem dX0_noteBitfield_20 : decode mX0_noteBitfield.2.2.1 20 = .ok (.getfield 20, 3) := by decide +kernel
theorem dX0_noteBitfield_23 : decode mX0_noteBitfield.2.2.1 23 = .ok (.iconst 1, 1) := by decide +kernel
theorem dX0_noteBitfield_24 : decode mX0_noteBitfield.2.2.1 24 = .ok (.iload_n 3, 1) := by decide +kernel
theorem dX0_noteBitfield_25 : decode mX0_noteBitfield.2.2.1 25 = .ok (.iadd, 1) := by decide +kernel
theorem dX0_noteBitfield_26 : decode mX0_noteBitfield.2.2.1 26 = .ok (.invokevirtual 298, 3) := by decide +kernel
theorem dX0_noteBitfield_29 : decode mX0_noteBitfield.2.2.1 29 = .ok (.aload_n 0, 1) := by decide +kernel
theorem dX0_noteBitfield_30 : decode mX0_noteBitfield.2.2.1 30 = .ok (.getfield 20, 3) := by decide +kernel
theorem dX0_noteBitfield_33 : decode mX0_noteBitfield.2.2.1 33 = .ok (.iconst 5, 1) := by decide +kernel
theorem dX0_noteBitfield_34 : decode mX0_noteBitfield.2.2.1 34 = .ok (.invokevirtual 301, 3) := by decide +kernel
theorem dX0_noteBitfield_37 : decode mX0_noteBitfield.2.2.1 37 = .ok (.iconst 0, 1) := by decide +kernel
theorem dX0_noteBitfield_38 : decode mX0_noteBitfield.2.2.1 38 = .ok (.istore 4, 2) := by decide +kernel
theorem dX0_noteBitfield_40 : decode mX0_noteBitfield.2.2.1 40 = .ok (.iconst 0, 1) := by decide +kernel
theorem dX0_noteBitfield_41 : decode mX0_noteBitfield.2.2.1 41 = .ok (.istore 5, 2) := by decide +kernel
theorem dX0_noteBitfield_43 : decode mX0_noteBitfield.2.2.1 43 = .ok (.iload 5, 2) := by decide +kernel
theorem dX0_noteBitfield_45 : decode mX0_noteBitfield.2.2.1 45 = .ok (.bipush 8, 2) := by decide +kernel
theorem dX0_noteBitfield_47 : decode mX0_noteBitfield.2.2.1 47 = .ok (.iload_n 3, 1) := by decide +kernel
theorem dX0_noteBitfield_48 : decode mX0_noteBitfield.2.2.1 48 = .ok (.imul, 1) := by decide +kernel
theorem dX0_noteBitfield_49 : decode mX0_noteBitfield.2.2.1 49 = .ok (.if_icmp .ge 42, 3) := by decide +kernel
theorem dX0_noteBitfield_52 : decode mX0_noteBitfield.2.2.1 52 = .ok (.iload 4, 2) := by decide +kernel
theorem dX0_noteBitfield_54 : decode mX0_noteBitfield.2.2.1 54 = .ok (.iconst 1, 1) := by decide +kernel
theorem dX0_noteBitfield_55 : decode mX0_noteBitfield.2.2.1 55 = .ok (.ishl, 1) := by decide +kernel
theorem dX0_noteBitfield_56 : decode mX0_noteBitfield.2.2.1 56 = .ok (.lload_n 1, 1) := by decide +kernel
theorem dX0_noteBitfield_57 : decode mX0_noteBitfield.2.2.1 57 = .ok (.iload 5, 2) := by decide +kernel
theorem dX0_noteBitfield_59 : decode mX0_noteBitfield.2.2.1 59 = .ok (.lushr, 1) := by decide +kernel
theorem dX0_noteBitfield_60 : decode mX0_noteBitfield.2.2.1 60 = .ok (.lconst 1, 1) := by decide +kernel
theorem dX0_noteBitfield_61 : decode mX0_noteBitfield.2.2.1 61 = .ok (.land, 1) := by decide +kernel
theorem dX0_noteBitfield_62 : decode mX0_noteBitfield.2.2.1 62 = .ok (.l2i, 1) := by decide +kernel
theorem dX0_noteBitfield_63 : decode mX0_noteBitfield.2.2.1 63 = .ok (.ior, 1) := by decide +kernel
theorem dX0_noteBitfield_64 : decode mX0_noteBitfield.2.2.1 64 = .ok (.istore 4, 2) := by decide +kernel
theorem dX0_noteBitfield_66 : decode mX0_noteBitfield.2.2.1 66 = .ok (.iload 5, 2) := by decide +kernel
theorem dX0_noteBitfield_68 : decode mX0_noteBitfield.2.2.1 68 = .ok (.bipush 8, 2) := by decide +kernel
theorem dX0_noteBitfield_70 : decode mX0_noteBitfield.2.2.1 70 = .ok (.irem, 1) := by decide +kernel
theorem dX0_noteBitfield_71 : decode mX0_noteBitfield.2.2.1 71 = .ok (.bipush 7, 2) := by decide +kernel
theorem dX0_noteBitfield_73 : decode mX0_noteBitfield.2.2.1 73 = .ok (.if_icmp .ne 12, 3) := by decide +kernel
theorem dX0_noteBitfield_76 : decode mX0_noteBitfield.2.2.1 76 = .ok (.aload_n 0, 1) := by decide +kernel
theorem dX0_noteBitfield_77 : decode mX0_noteBitfield.2.2.1 77 = .ok (.getfield 20, 3) := by decide +kernel
theorem dX0_noteBitfield_80 : decode mX0_noteBitfield.2.2.1 80 = .ok (.iload 4, 2) := by decide +kernel
theorem dX0_noteBitfield_82 : decode mX0_noteBitfield.2.2.1 82 = .ok (.invokevirtual 301, 3) := by decide +kernel
theorem dX0_noteBitfield_85 : decode mX0_noteBitfield.2.2.1 85 = .ok (.iinc 5 1, 3) := by decide +kernel
theorem dX0_noteBitfield_88 : decode mX0_noteBitfield.2.2.1 88 = .ok (.goto (-45), 3) := by decide +kernel
theorem dX0_noteBitfield_91 : decode mX0_noteBitfield.2.2.1 91 = .ok (.return_, 1) := by decide +kernel
theorem dX0_noteRequest_0 : decode mX0_noteRequest.2.2.1 0 = .ok (.aload_n 0, 1) := by decide +kernel
theorem dX0_noteRequest_1 : decode mX0_noteRequest.2.2.1 1 = .ok (.getfield 20, 3) := by decide +kernel
theorem dX0_noteRequest_4 : decode mX0_noteRequest.2.2.1 4 = .ok (.iconst 0, 1) := by decide +kernel
theorem dX0_noteRequest_5 : decode mX0_noteRequest.2.2.1 5 = .ok (.invokevirtual 55, 3) := by decide +kernel
theorem dX0_noteRequest_8 : decode mX0_noteRequest.2.2.1 8 = .ok (.aload_n 0, 1) := by decide +kernel
theorem dX0_noteRequest_9 : decode mX0_noteRequest.2.2.1 9 = .ok (.getfield 20, 3) := by decide +kernel
theorem dX0_noteRequest_12 : decode mX0_noteRequest.2.2.1 12 = .ok (.bipush 13, 2) := by decide +kernel
theorem dX0_noteRequest_14 : decode mX0_noteRequest.2.2.1 14 = .ok (.invokevirtual 298, 3) := by decide +kernel
theorem dX0_noteRequest_17 : decode mX0_noteRequest.2.2.1 17 = .ok (.aload_n 0, 1) := by decide +kernel
theorem dX0_noteRequest_18 : decode mX0_noteRequest.2.2.1 18 = .ok (.getfield 20, 3) := by decide +kernel
theorem dX0_noteRequest_21 : decode mX0_noteRequest.2.2.1 21 = .ok (.bipush 6, 2) := by decide +kernel
theorem dX0_noteRequest_23 : decode mX0_noteRequest.2.2.1 23 = .ok (.invokevirtual 301, 3) := by decide +kernel
theorem dX0_noteRequest_26 : decode mX0_noteRequest.2.2.1 26 = .ok (.aload_n 0, 1) := by decide +kernel
theorem dX0_noteRequest_27 : decode mX0_noteRequest.2.2.1 27 = .ok (.getfield 20, 3) := by decide +kernel
theorem dX0_noteRequest_30 : decode mX0_noteRequest.2.2.1 30 = .ok (.iload_n 1, 1) := by decide +kernel
theorem dX0_noteRequest_31 : decode mX0_noteRequest.2.2.1 31 = .ok (.invokevirtual 298, 3) := by decide +kernel
theorem dX0_noteRequest_34 : decode mX0_noteRequest.2.2.1 34 = .ok (.aload_n 0, 1) := by decide +kernel
theorem dX0_noteRequest_35 : decode mX0_noteRequest.2.2.1 35 = .ok (.getfield 20, 3) := by decide +kernel
theorem dX0_noteRequest_38 : decode mX0_noteRequest.2.2.1 38 = .ok (.iload_n 2, 1) := by decide +kernel
theorem dX0_noteRequest_39 : decode mX0_noteRequest.2.2.1 39 = .ok (.invokevirtual 298, 3) := by decide +kernel
theorem dX0_noteRequest_42 : decode mX0_noteRequest.2.2.1 42 = .ok (.aload_n 0, 1) := by decide +kernel
theorem dX0_noteRequest_43 : decode mX0_noteRequest.2.2.1 43 = .ok (.getfield 20, 3) := by decide +kernel
theorem dX0_noteRequest_46 : decode mX0_noteRequest.2.2.1 46 = .ok (.iload_n 3, 1) := by decide +kernel
theorem dX0_noteRequest_47 : decode mX0_noteRequest.2.2.1 47 = .ok (.invokevirtual 298, 3) := by decide +kernel
theorem dX0_noteRequest_50 : decode mX0_noteRequest.2.2.1 50 = .ok (.return_, 1) := by decide +kernel
theorem dX0_notePiece_0 : decode mX0_notePiece.2.2.1 0 = .ok (.aload_n 0, 1) := by decide +kernel
theorem dX0_notePiece_1 : decode mX0_notePiece.2.2.1 1 = .ok (.getfield 20, 3) := by decide +kernel
theorem dX0_notePiece_4 : decode mX0_notePiece.2.2.1 4 = .ok (.iconst 0, 1) := by decide +kernel
theorem dX0_notePiece_5 : decode mX0_notePiece.2.2.1 5 = .ok (.invokevirtual 55, 3) := by decide +kernel
theorem dX0_notePiece_8 : decode mX0_notePiece.2.2.1 8 = .ok (.aload_n 0, 1) := by decide +kernel
theorem dX0_notePiece_9 : decode mX0_notePiece.2.2.1 9 = .ok (.getfield 20, 3) := by decide +kernel
theorem dX0_notePiece_12 : decode mX0_notePiece.2.2.1 12 = .ok (.bipush 9, 2) := by decide +kernel
theorem dX0_notePiece_14 : decode mX0_notePiece.2.2.1 14 = .ok (.iload 4, 2) := by decide +kernel
theorem dX0_notePiece_16 : decode mX0_notePiece.2.2.1 16 = .ok (.iadd, 1) := by decide +kernel
theorem dX0_notePiece_17 : decode mX0_notePiece.2.2.1 17 = .ok (.invokevirtual 298, 3) := by decide +kernel
theorem dX0_notePiece_20 : decode mX0_notePiece.2.2.1 20 = .ok (.aload_n 0, 1) := by decide +kernel
theorem dX0_notePiece_21 : decode mX0_notePiece.2.2.1 21 = .ok (.getfield 20, 3) := by decide +kernel
theorem dX0_notePiece_24 : decode mX0_notePiece.2.2.1 24 = .ok (.bipush 7, 2) := by decide +kernel
theorem dX0_notePiece_26 : decode mX0_notePiece.2.2.1 26 = .ok (.invokevirtual 301, 3) := by decide +kernel
theorem dX0_notePiece_29 : decode mX0_notePiece.2.2.1 29 = .ok (.aload_n 0, 1) := by decide +kernel
theorem dX0_notePiece_30 : decode mX0_notePiece.2.2.1 30 = .ok (.getfield 20, 3) := by decide +kernel
theorem dX0_notePiece_33 : decode mX0_notePiece.2.2.1 33 = .ok (.iload_n 2, 1) := by decide +kernel
theorem dX0_notePiece_34 : decode mX0_notePiece.2.2.1 34 = .ok (.invokevirtual 298, 3) := by decide +kernel
theorem dX0_notePiece_37 : decode mX0_notePiece.2.2.1 37 = .ok (.aload_n 0, 1) := by decide +kernel
theorem dX0_notePiece_38 : decode mX0_notePiece.2.2.1 38 = .ok (.getfield 20, 3) := by decide +kernel
theorem dX0_notePiece_41 : decode mX0_notePiece.2.2.1 41 = .ok (.iload_n 3, 1) := by decide +kernel
theorem dX0_notePiece_42 : decode mX0_notePiece.2.2.1 42 = .ok (.invokevirtual 298, 3) := by decide +kernel
theorem dX0_notePiece_45 : decode mX0_notePiece.2.2.1 45 = .ok (.aload_n 0, 1) := by decide +kernel
theorem dX0_notePiece_46 : decode mX0_notePiece.2.2.1 46 = .ok (.getfield 20, 3) := by decide +kernel
theorem dX0_notePiece_49 : decode mX0_notePiece.2.2.1 49 = .ok (.aload_n 1, 1) := by decide +kernel
theorem dX0_notePiece_50 : decode mX0_notePiece.2.2.1 50 = .ok (.getfield 212, 3) := by decide +kernel
theorem dX0_notePiece_53 : decode mX0_notePiece.2.2.1 53 = .ok (.aload_n 0, 1) := by decide +kernel
theorem dX0_notePiece_54 : decode mX0_notePiece.2.2.1 54 = .ok (.getfield 27, 3) := by decide +kernel
theorem dX0_notePiece_57 : decode mX0_notePiece.2.2.1 57 = .ok (.getfield 133, 3) := by decide +kernel
theorem dX0_notePiece_60 : decode mX0_notePiece.2.2.1 60 = .ok (.iload_n 2, 1) := by decide +kernel
theorem dX0_notePiece_61 : decode mX0_notePiece.2.2.1 61 = .ok (.invokevirtual 203, 3) := by decide +kernel
theorem dX0_notePiece_64 : decode mX0_notePiece.2.2.1 64 = .ok (.iload_n 3, 1) := by decide +kernel
theorem dX0_notePiece_65 : decode mX0_notePiece.2.2.1 65 = .ok (.iadd, 1) := by decide +kernel
theorem dX0_notePiece_66 : decode mX0_notePiece.2.2.1 66 = .ok (.iload 4, 2) := by decide +kernel
theorem dX0_notePiece_68 : decode mX0_notePiece.2.2.1 68 = .ok (.invokevirtual 61, 3) := by decide +kernel
theorem dX0_notePiece_71 : decode mX0_notePiece.2.2.1 71 = .ok (.return_, 1) := by decide +kernel
