theorem dX3_init_0 : decode mX3_init.2.2.1 0 = .ok (.aload_n 0, 1) := by decide +kernel
theorem dX3_init_1 : decode mX3_init.2.2.1 1 = .ok (.invokespecial 3, 3) := by decide +kernel
theorem dX3_init_4 : decode mX3_init.2.2.1 4 = .ok (.aload_n 0, 1) := by decide +kernel
theorem dX3_init_5 : decode mX3_init.2.2.1 5 = .ok (.new 9, 3) := by decide +kernel
theorem dX3_init_8 : decode mX3_init.2.2.1 8 = .ok (.dup, 1) := by decide +kernel
theorem dX3_init_9 : decode mX3_init.2.2.1 9 = .ok (.sipush 4000, 3) := by decide +kernel
theorem dX3_init_12 : decode mX3_init.2.2.1 12 = .ok (.invokespecial 11, 3) := by decide +kernel
theorem dX3_init_15 : decode mX3_init.2.2.1 15 = .ok (.putfield 14, 3) := by decide +kernel
theorem dX3_init_18 : decode mX3_init.2.2.1 18 = .ok (.aload_n 0, 1) := by decide +kernel
theorem dX3_init_19 : decode mX3_init.2.2.1 19 = .ok (.iconst 0, 1) := by decide +kernel
theorem dX3_init_20 : decode mX3_init.2.2.1 20 = .ok (.putfield 20, 3) := by decide +kernel
theorem dX3_init_23 : decode mX3_init.2.2.1 23 = .ok (.aload_n 0, 1) := by decide +kernel
theorem dX3_init_24 : decode mX3_init.2.2.1 24 = .ok (.iconst 0, 1) := by decide +kernel
theorem dX3_init_25 : decode mX3_init.2.2.1 25 = .ok (.putfield 24, 3) := by decide +kernel
theorem dX3_init_28 : decode mX3_init.2.2.1 28 = .ok (.aload_n 0, 1) := by decide +kernel
theorem dX3_init_29 : decode mX3_init.2.2.1 29 = .ok (.iconst 0, 1) := by decide +kernel
theorem dX3_init_30 : decode mX3_init.2.2.1 30 = .ok (.putfield 27, 3) := by decide +kernel
theorem dX3_init_33 : decode mX3_init.2.2.1 33 = .ok (.aload_n 0, 1) := by decide +kernel
theorem dX3_init_34 : decode mX3_init.2.2.1 34 = .ok (.iconst 0, 1) := by decide +kernel
theorem dX3_init_35 : decode mX3_init.2.2.1 35 = .ok (.putfield 30, 3) := by decide +kernel
theorem dX3_init_38 : decode mX3_init.2.2.1 38 = .ok (.aload_n 0, 1) := by decide +kernel
theorem dX3_init_39 : decode mX3_init.2.2.1 39 = .ok (.iconst 0, 1) := by decide +kernel
theorem dX3_init_40 : decode mX3_init.2.2.1 40 = .ok (.putfield 33, 3) := by decide +kernel
theorem dX3_init_43 : decode mX3_init.2.2.1 43 = .ok (.aload_n 0, 1) := by decide +kernel
theorem dX3_init_44 : decode mX3_init.2.2.1 44 = .ok (.iconst 0, 1) := by decide +kernel
theorem dX3_init_45 : decode mX3_init.2.2.1 45 = .ok (.putfield 36, 3) := by decide +kernel
theorem dX3_init_48 : decode mX3_init.2.2.1 48 = .ok (.aload_n 0, 1) := by decide +kernel
theorem dX3_init_49 : decode mX3_init.2.2.1 49 = .ok (.iconst 0, 1) := by decide +kernel
theorem dX3_init_50 : decode mX3_init.2.2.1 50 = .ok (.putfield 39, 3) := by decide +kernel
theorem dX3_init_53 : decode mX3_init.2.2.1 53 = .ok (.aload_n 0, 1) := by decide +kernel
theorem dX3_init_54 : decode mX3_init.2.2.1 54 = .ok (.lconst 0, 1) := by decide +kernel
theorem dX3_init_55 : decode mX3_init.2.2.1 55 = .ok (.putfield 42, 3) := by decide +kernel
theorem dX3_init_58 : decode mX3_init.2.2.1 58 = .ok (.aload_n 0, 1) := by decide +kernel
theorem dX3_init_59 : decode mX3_init.2.2.1 59 = .ok (.iconst 4, 1) := by decide +kernel
theorem dX3_init_60 : decode mX3_init.2.2.1 60 = .ok (.newarray .int, 2) := by decide +kernel
theorem dX3_init_62 : decode mX3_init.2.2.1 62 = .ok (.putfield 46, 3) := by decide +kernel
theorem dX3_init_65 : decode mX3_init.2.2.1 65 = .ok (.aload_n 0, 1) := by decide +kernel
theorem dX3_init_66 : decode mX3_init.2.2.1 66 = .ok (.iconst 0, 1) := by decide +kernel
theorem dX3_init_67 : decode mX3_init.2.2.1 67 = .ok (.putfield 50, 3) := by decide +kernel
theorem dX3_init_70 : decode mX3_init.2.2.1 70 = .ok (.aload_n 0, 1) := by decide +kernel
theorem dX3_init_71 : decode mX3_init.2.2.1 71 = .ok (.iconst 0, 1) := by decide +kernel
theorem dX3_init_72 : decode mX3_init.2.2.1 72 = .ok (.putfield 54, 3) := by decide +kernel
theorem dX3_init_75 : decode mX3_init.2.2.1 75 = .ok (.aload_n 0, 1) := by decide +kernel
theorem dX3_init_76 : decode mX3_init.2.2.1 76 = .ok (.iload_n 1, 1) := by decide +kernel
theorem dX3_init_77 : decode mX3_init.2.2.1 77 = .ok (.putfield 57, 3) := by decide +kernel
theorem dX3_init_80 : decode mX3_init.2.2.1 80 = .ok (.aload_n 0, 1) := by decide +kernel
theorem dX3_init_81 : decode mX3_init.2.2.1 81 = .ok (.iload_n 2, 1) := by decide +kernel
theorem dX3_init_82 : decode mX3_init.2.2.1 82 = .ok (.putfield 60, 3) := by decide +kernel
theorem dX3_init_85 : decode mX3_init.2.2.1 85 = .ok (.return_, 1) := by decide +kernel
theorem dX3_start_0 : decode mX3_start.2.2.1 0 = .ok (.aload_n 0, 1) := by decide +kernel
theorem dX3_start_1 : decode mX3_start.2.2.1 1 = .ok (.iconst 1, 1) := by decide +kernel
theorem dX3_start_2 : decode mX3_start.2.2.1 2 = .ok (.putfield 20, 3) := by decide +kernel
theorem dX3_start_5 : decode mX3_start.2.2.1 5 = .ok (.aload_n 0, 1) := by decide +kernel
theorem dX3_start_6 : decode mX3_start.2.2.1 6 = .ok (.iconst 1, 1) := by decide +kernel
theorem dX3_start_7 : decode mX3_start.2.2.1 7 = .ok (.putfield 30, 3) := by decide +kernel
theorem dX3_start_10 : decode mX3_start.2.2.1 10 = .ok (.aload_n 0, 1) := by decide +kernel
theorem dX3_start_11 : decode mX3_start.2.2.1 11 = .ok (.iconst 1, 1) := by decide +kernel
theorem dX3_start_12 : decode mX3_start.2.2.1 12 = .ok (.putfield 33, 3) := by decide +kernel
theorem dX3_start_15 : decode mX3_start.2.2.1 15 = .ok (.return_, 1) := by decide +kernel
theorem dX3_finish_0 : decode mX3_finish.2.2.1 0 = .ok (.aload_n 0, 1) := by decide +kernel
theorem dX3_finish_1 : decode mX3_finish.2.2.1 1 = .ok (.iconst 0, 1) := by decide +kernel
theorem dX3_finish_2 : decode mX3_finish.2.2.1 2 = .ok (.putfield 20, 3) := by decide +kernel
theorem dX3_finish_5 : decode mX3_finish.2.2.1 5 = .ok (.aload_n 0, 1) := by decide +kernel
theorem dX3_finish_6 : decode mX3_finish.2.2.1 6 = .ok (.iconst 0, 1) := by decide +kernel
theorem dX3_finish_7 : decode mX3_finish.2.2.1 7 = .ok (.putfield 24, 3) := by decide +kernel
theorem dX3_finish_10 : decode mX3_finish.2.2.1 10 = .ok (.aload_n 0, 1) := by decide +kernel
theorem dX3_finish_11 : decode mX3_finish.2.2.1 11 = .ok (.iconst 0, 1) := by decide +kernel
theorem dX3_finish_12 : decode mX3_finish.2.2.1 12 = .ok (.putfield 27, 3) := by decide +kernel
theorem dX3_finish_15 : decode mX3_finish.2.2.1 15 = .ok (.aload_n 0, 1) := by decide +kernel
theorem dX3_finish_16 : decode mX3_finish.2.2.1 16 = .ok (.iconst 0, 1) := by decide +kernel
theorem dX3_finish_17 : decode mX3_finish.2.2.1 17 = .ok (.putfield 30, 3) := by decide +kernel
theorem dX3_finish_20 : decode mX3_finish.2.2.1 20 = .ok (.aload_n 0, 1) := by decide +kernel
theorem dX3_finish_21 : decode mX3_finish.2.2.1 21 = .ok (.iconst 0, 1) := by decide +kernel
theorem dX3_finish_22 : decode mX3_finish.2.2.1 22 = .ok (.putfield 33, 3) := by decide +kernel
theorem dX3_finish_25 : decode mX3_finish.2.2.1 25 = .ok (.aload_n 0, 1) := by decide +kernel
theorem dX3_finish_26 : decode mX3_finish.2.2.1 26 = .ok (.iconst 0, 1) := by decide +kernel
theorem dX3_finish_27 : decode mX3_finish.2.2.1 27 = .ok (.putfield 36, 3) := by decide +kernel
theorem dX3_finish_30 : decode mX3_finish.2.2.1 30 = .ok (.aload_n 0, 1) := by decide +kernel
theorem dX3_finish_31 : decode mX3_finish.2.2.1 31 = .ok (.iconst 0, 1) := by decide +kernel
theorem dX3_finish_32 : decode mX3_finish.2.2.1 32 = .ok (.putfield 39, 3) := by decide +kernel
theorem dX3_finish_35 : decode mX3_finish.2.2.1 35 = .ok (.aload_n 0, 1) := by decide +kernel
theorem dX3_finish_36 : decode mX3_finish.2.2.1 36 = .ok (.lconst 0, 1) := by decide +kernel
theorem dX3_finish_37 : decode mX3_finish.2.2.1 37 = .ok (.putfield 42, 3) := by decide +kernel
theorem dX3_finish_40 : decode mX3_finish.2.2.1 40 = .ok (.aload_n 0, 1) := by decide +kernel
theorem dX3_finish_41 : decode mX3_finish.2.2.1 41 = .ok (.iconst 0, 1) := by decide +kernel
theorem dX3_finish_42 : decode mX3_finish.2.2.1 42 = .ok (.putfield 50, 3) := by decide +kernel
theorem dX3_finish_45 : decode mX3_finish.2.2.1 45 = .ok (.aload_n 0, 1) := by decide +kernel
theorem dX3_finish_46 : decode mX3_finish.2.2.1 46 = .ok (.iload_n 1, 1) := by decide +kernel
theorem dX3_finish_47 : decode mX3_finish.2.2.1 47 = .ok (.putfield 54, 3) := by decide +kernel
theorem dX3_finish_50 : decode mX3_finish.2.2.1 50 = .ok (.aload_n 0, 1) := by decide +kernel
theorem dX3_finish_51 : decode mX3_finish.2.2.1 51 = .ok (.getfield 14, 3) := by decide +kernel
theorem dX3_finish_54 : decode mX3_finish.2.2.1 54 = .ok (.iconst 0, 1) := by decide +kernel
theorem dX3_finish_55 : decode mX3_finish.2.2.1 55 = .ok (.invokevirtual 63, 3) := by decide +kernel
theorem dX3_finish_58 : decode mX3_finish.2.2.1 58 = .ok (.return_, 1) := by decide +kernel
theorem dX3_tellsOf_0 : decode mX3_tellsOf.2.2.1 0 = .ok (.aload_n 0, 1) := by decide +kernel
theorem dX3_tellsOf_1 : decode mX3_tellsOf.2.2.1 1 = .ok (.getfield 42, 3) := by decide +kernel
theorem dX3_tellsOf_4 : decode mX3_tellsOf.2.2.1 4 = .ok (.iload_n 1, 1) := by decide +kernel
theorem dX3_tellsOf_5 : decode mX3_tellsOf.2.2.1 5 = .ok (.lushr, 1) := by decide +kernel
theorem dX3_tellsOf_6 : decode mX3_tellsOf.2.2.1 6 = .ok (.lconst 1, 1) := by decide +kernel
theorem dX3_tellsOf_7 : decode mX3_tellsOf.2.2.1 7 = .ok (.land, 1) := by decide +kernel
theorem dX3_tellsOf_8 : decode mX3_tellsOf.2.2.1 8 = .ok (.lconst 0, 1) := by decide +kernel
theorem dX3_tellsOf_9 : decode mX3_tellsOf.2.2.1 9 = .ok (.lcmp, 1) := by decide +kernel
theorem dX3_tellsOf_10 : decode mX3_tellsOf.2.2.1 10 = .ok (.ifCond .eq 7, 3) := by decide +kernel
theorem dX3_tellsOf_13 : decode mX3_tellsOf.2.2.1 13 = .ok (.iconst 1, 1) := by decide +kernel
theorem dX3_tellsOf_14 : decode mX3_tellsOf.2.2.1 14 = .ok (.goto 4, 3) := by decide +kernel
theorem dX3_tellsOf_17 : decode mX3_tellsOf.2.2.1 17 = .ok (.iconst 0, 1) := by decide +kernel
theorem dX3_tellsOf_18 : decode mX3_tellsOf.2.2.1 18 = .ok (.ireturn, 1) := by decide +kernel
theorem dX3_wholeSize_0 : decode mX3_wholeSize.2.2.1 0 = .ok (.ldc2_w 66, 3) := by decide +kernel
theorem dX3_wholeSize_3 : decode mX3_wholeSize.2.2.1 3 = .ok (.lstore_n 1, 1) := by decide +kernel
theorem dX3_wholeSize_4 : decode mX3_wholeSize.2.2.1 4 = .ok (.aload_n 0, 1) := by decide +kernel
theorem dX3_wholeSize_5 : decode mX3_wholeSize.2.2.1 5 = .ok (.getfield 24, 3) := by decide +kernel
theorem dX3_wholeSize_8 : decode mX3_wholeSize.2.2.1 8 = .ok (.ifCond .eq 42, 3) := by decide +kernel
theorem dX3_wholeSize_11 : decode mX3_wholeSize.2.2.1 11 = .ok (.aload_n 0, 1) := by decide +kernel
theorem dX3_wholeSize_12 : decode mX3_wholeSize.2.2.1 12 = .ok (.getfield 14, 3) := by decide +kernel
theorem dX3_wholeSize_15 : decode mX3_wholeSize.2.2.1 15 = .ok (.iconst 0, 1) := by decide +kernel
theorem dX3_wholeSize_16 : decode mX3_wholeSize.2.2.1 16 = .ok (.invokevirtual 68, 3) := by decide +kernel
theorem dX3_wholeSize_19 : decode mX3_wholeSize.2.2.1 19 = .ok (.lstore_n 3, 1) := by decide +kernel
theorem dX3_wholeSize_20 : decode mX3_wholeSize.2.2.1 20 = .ok (.lload_n 3, 1) := by decide +kernel
theorem dX3_wholeSize_21 : decode mX3_wholeSize.2.2.1 21 = .ok (.ldc2_w 72, 3) := by decide +kernel
theorem dX3_wholeSize_24 : decode mX3_wholeSize.2.2.1 24 = .ok (.lcmp, 1) := by decide +kernel
theorem dX3_wholeSize_25 : decode mX3_wholeSize.2.2.1 25 = .ok (.ifCond .le 9, 3) := by decide +kernel
theorem dX3_wholeSize_28 : decode mX3_wholeSize.2.2.1 28 = .ok (.ldc2_w 74, 3) := by decide +kernel
theorem dX3_wholeSize_31 : decode mX3_wholeSize.2.2.1 31 = .ok (.goto 8, 3) := by decide +kernel
theorem dX3_wholeSize_34 : decode mX3_wholeSize.2.2.1 34 = .ok (.ldc2_w 74, 3) := by decide +kernel
theorem dX3_wholeSize_37 : decode mX3_wholeSize.2.2.1 37 = .ok (.lload_n 3, 1) := by decide +kernel
theorem dX3_wholeSize_38 : decode mX3_wholeSize.2.2.1 38 = .ok (.ladd, 1) := by decide +kernel
theorem dX3_wholeSize_39 : decode mX3_wholeSize.2.2.1 39 = .ok (.lstore_n 1, 1) := by decide +kernel
theorem dX3_wholeSize_40 : decode mX3_wholeSize.2.2.1 40 = .ok (.lload_n 3, 1) := by decide +kernel
theorem dX3_wholeSize_41 : decode mX3_wholeSize.2.2.1 41 = .ok (.ldc2_w 76, 3) := by decide +kernel
theorem dX3_wholeSize_44 : decode mX3_wholeSize.2.2.1 44 = .ok (.lcmp, 1) := by decide +kernel
theorem dX3_wholeSize_45 : decode mX3_wholeSize.2.2.1 45 = .ok (.ifCond .ne 5, 3) := by decide +kernel
theorem dX3_wholeSize_48 : decode mX3_wholeSize.2.2.1 48 = .ok (.iconst (-1), 1) := by decide +kernel
theorem dX3_wholeSize_49 : decode mX3_wholeSize.2.2.1 49 = .ok (.ireturn, 1) := by decide +kernel
theorem dX3_wholeSize_50 : decode mX3_wholeSize.2.2.1 50 = .ok (.lload_n 1, 1) := by decide +kernel
theorem dX3_wholeSize_51 : decode mX3_wholeSize.2.2.1 51 = .ok (.aload_n 0, 1) := by decide +kernel
theorem dX3_wholeSize_52 : decode mX3_wholeSize.2.2.1 52 = .ok (.getfield 14, 3) := by decide +kernel
theorem dX3_wholeSize_55 : decode mX3_wholeSize.2.2.1 55 = .ok (.invokevirtual 78, 3) := by decide +kernel
theorem dX3_wholeSize_58 : decode mX3_wholeSize.2.2.1 58 = .ok (.i2l, 1) := by decide +kernel
theorem dX3_wholeSize_59 : decode mX3_wholeSize.2.2.1 59 = .ok (.lcmp, 1) := by decide +kernel
theorem dX3_wholeSize_60 : decode mX3_wholeSize.2.2.1 60 = .ok (.ifCond .le 7, 3) := by decide +kernel
theorem dX3_wholeSize_63 : decode mX3_wholeSize.2.2.1 63 = .ok (.iconst (-1), 1) := by decide +kernel
theorem dX3_wholeSize_64 : decode mX3_wholeSize.2.2.1 64 = .ok (.goto 5, 3) := by decide +kernel
theorem dX3_wholeSize_67 : decode mX3_wholeSize.2.2.1 67 = .ok (.lload_n 1, 1) := by decide +kernel
theorem dX3_wholeSize_68 : decode mX3_wholeSize.2.2.1 68 = .ok (.l2i, 1) := by decide +kernel
theorem dX3_wholeSize_69 : decode mX3_wholeSize.2.2.1 69 = .ok (.ireturn, 1) := by decide +kernel
theorem dX3_addAsked_0 : decode mX3_addAsked.2.2.1 0 = .ok (.aload_n 0, 1) := by decide +kernel
theorem dX3_addAsked_1 : decode mX3_addAsked.2.2.1 1 = .ok (.getfield 50, 3) := by decide +kernel
theorem dX3_addAsked_4 : decode mX3_addAsked.2.2.1 4 = .ok (.iconst 4, 1) := by decide +kernel
theorem dX3_addAsked_5 : decode mX3_addAsked.2.2.1 5 = .ok (.if_icmp .ge 23, 3) := by decide +kernel
theorem dX3_addAsked_8 : decode mX3_addAsked.2.2.1 8 = .ok (.aload_n 0, 1) := by decide +kernel
theorem dX3_addAsked_9 : decode mX3_addAsked.2.2.1 9 = .ok (.getfield 46, 3) := by decide +kernel
theorem dX3_addAsked_12 : decode mX3_addAsked.2.2.1 12 = .ok (.aload_n 0, 1) := by decide +kernel
theorem dX3_addAsked_13 : decode mX3_addAsked.2.2.1 13 = .ok (.getfield 50, 3) := by decide +kernel
theorem dX3_addAsked_16 : decode mX3_addAsked.2.2.1 16 = .ok (.iload_n 1, 1) := by decide +kernel
theorem dX3_addAsked_17 : decode mX3_addAsked.2.2.1 17 = .ok (.iastore, 1) := by decide +kernel
theorem dX3_addAsked_18 : decode mX3_addAsked.2.2.1 18 = .ok (.aload_n 0, 1) := by decide +kernel
theorem dX3_addAsked_19 : decode mX3_addAsked.2.2.1 19 = .ok (.dup, 1) := by decide +kernel
theorem dX3_addAsked_20 : decode mX3_addAsked.2.2.1 20 = .ok (.getfield 50, 3) := by decide +kernel
theorem dX3_addAsked_23 : decode mX3_addAsked.2.2.1 23 = .ok (.iconst 1, 1) := by decide +kernel
theorem dX3_addAsked_24 : decode mX3_addAsked.2.2.1 24 = .ok (.iadd, 1) := by decide +kernel
theorem dX3_addAsked_25 : decode mX3_addAsked.2.2.1 25 = .ok (.putfield 50, 3) := by decide +kernel
theorem dX3_addAsked_28 : decode mX3_addAsked.2.2.1 28 = .ok (.return_, 1) := by decide +kernel
theorem dX3_takeAsked_0 : decode mX3_takeAsked.2.2.1 0 = .ok (.iload_n 1, 1) := by decide +kernel
theorem dX3_takeAsked_1 : decode mX3_takeAsked.2.2.1 1 = .ok (.ifCond .lt 11, 3) := by decide +kernel
theorem dX3_takeAsked_4 : decode mX3_takeAsked.2.2.1 4 = .ok (.iload_n 1, 1) := by decide +kernel
theorem dX3_takeAsked_5 : decode mX3_takeAsked.2.2.1 5 = .ok (.aload_n 0, 1) := by decide +kernel
theorem dX3_takeAsked_6 : decode mX3_takeAsked.2.2.1 6 = .ok (.getfield 50, 3) := by decide +kernel
theorem dX3_takeAsked_9 : decode mX3_takeAsked.2.2.1 9 = .ok (.if_icmp .lt 5, 3) := by decide +kernel
theorem dX3_takeAsked_12 : decode mX3_takeAsked.2.2.1 12 = .ok (.iconst (-1), 1) := by decide +kernel
theorem dX3_takeAsked_13 : decode mX3_takeAsked.2.2.1 13 = .ok (.ireturn, 1) := by decide +kernel
theorem dX3_takeAsked_14 : decode mX3_takeAsked.2.2.1 14 = .ok (.aload_n 0, 1) := by decide +kernel
theorem dX3_takeAsked_15 : decode mX3_takeAsked.2.2.1 15 = .ok (.getfield 46, 3) := by decide +kernel
theorem dX3_takeAsked_18 : decode mX3_takeAsked.2.2.1 18 = .ok (.iload_n 1, 1) := by decide +kernel
theorem dX3_takeAsked_19 : decode mX3_takeAsked.2.2.1 19 = .ok (.iaload, 1) := by decide +kernel
theorem dX3_takeAsked_20 : decode mX3_takeAsked.2.2.1 20 = .ok (.istore_n 2, 1) := by decide +kernel
theorem dX3_takeAsked_21 : decode mX3_takeAsked.2.2.1 21 = .ok (.aload_n 0, 1) := by decide +kernel
theorem dX3_takeAsked_22 : decode mX3_takeAsked.2.2.1 22 = .ok (.dup, 1) := by decide +kernel
theorem dX3_takeAsked_23 : decode mX3_takeAsked.2.2.1 23 = .ok (.getfield 50, 3) := by decide +kernel
theorem dX3_takeAsked_26 : decode mX3_takeAsked.2.2.1 26 = .ok (.iconst 1, 1) := by decide +kernel
theorem dX3_takeAsked_27 : decode mX3_takeAsked.2.2.1 27 = .ok (.isub, 1) := by decide +kernel
theorem dX3_takeAsked_28 : decode mX3_takeAsked.2.2.1 28 = .ok (.putfield 50, 3) := by decide +kernel
theorem dX3_takeAsked_31 : decode mX3_takeAsked.2.2.1 31 = .ok (.aload_n 0, 1) := by decide +kernel
theorem dX3_takeAsked_32 : decode mX3_takeAsked.2.2.1 32 = .ok (.getfield 46, 3) := by decide +kernel
theorem dX3_takeAsked_35 : decode mX3_takeAsked.2.2.1 35 = .ok (.iload_n 1, 1) := by decide +kernel
theorem dX3_takeAsked_36 : decode mX3_takeAsked.2.2.1 36 = .ok (.aload_n 0, 1) := by decide +kernel
theorem dX3_takeAsked_37 : decode mX3_takeAsked.2.2.1 37 = .ok (.getfield 46, 3) := by decide +kernel
theorem dX3_takeAsked_40 : decode mX3_takeAsked.2.2.1 40 = .ok (.aload_n 0, 1) := by decide +kernel
theorem dX3_takeAsked_41 : decode mX3_takeAsked.2.2.1 41 = .ok (.getfield 50, 3) := by decide +kernel
theorem dX3_takeAsked_44 : decode mX3_takeAsked.2.2.1 44 = .ok (.iaload, 1) := by decide +kernel
theorem dX3_takeAsked_45 : decode mX3_takeAsked.2.2.1 45 = .ok (.iastore, 1) := by decide +kernel
theorem dX3_takeAsked_46 : decode mX3_takeAsked.2.2.1 46 = .ok (.iload_n 2, 1) := by decide +kernel
theorem dX3_takeAsked_47 : decode mX3_takeAsked.2.2.1 47 = .ok (.ireturn, 1) := by decide +kernel
