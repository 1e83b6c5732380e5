theorem dX9_init_0 : decode mX9_init.2.2.1 0 = .ok (.aload_n 0, 1) := by decide +kernel
theorem dX9_init_1 : decode mX9_init.2.2.1 1 = .ok (.invokespecial 3, 3) := by decide +kernel
theorem dX9_init_4 : decode mX9_init.2.2.1 4 = .ok (.aload_n 0, 1) := by decide +kernel
theorem dX9_init_5 : decode mX9_init.2.2.1 5 = .ok (.new 9, 3) := by decide +kernel
theorem dX9_init_8 : decode mX9_init.2.2.1 8 = .ok (.dup, 1) := by decide +kernel
theorem dX9_init_9 : decode mX9_init.2.2.1 9 = .ok (.sipush 6000, 3) := by decide +kernel
theorem dX9_init_12 : decode mX9_init.2.2.1 12 = .ok (.invokespecial 11, 3) := by decide +kernel
theorem dX9_init_15 : decode mX9_init.2.2.1 15 = .ok (.putfield 14, 3) := by decide +kernel
theorem dX9_init_18 : decode mX9_init.2.2.1 18 = .ok (.aload_n 0, 1) := by decide +kernel
theorem dX9_init_19 : decode mX9_init.2.2.1 19 = .ok (.new 9, 3) := by decide +kernel
theorem dX9_init_22 : decode mX9_init.2.2.1 22 = .ok (.dup, 1) := by decide +kernel
theorem dX9_init_23 : decode mX9_init.2.2.1 23 = .ok (.sipush 6000, 3) := by decide +kernel
theorem dX9_init_26 : decode mX9_init.2.2.1 26 = .ok (.invokespecial 11, 3) := by decide +kernel
theorem dX9_init_29 : decode mX9_init.2.2.1 29 = .ok (.putfield 18, 3) := by decide +kernel
theorem dX9_init_32 : decode mX9_init.2.2.1 32 = .ok (.aload_n 0, 1) := by decide +kernel
theorem dX9_init_33 : decode mX9_init.2.2.1 33 = .ok (.new 9, 3) := by decide +kernel
theorem dX9_init_36 : decode mX9_init.2.2.1 36 = .ok (.dup, 1) := by decide +kernel
theorem dX9_init_37 : decode mX9_init.2.2.1 37 = .ok (.sipush 4096, 3) := by decide +kernel
theorem dX9_init_40 : decode mX9_init.2.2.1 40 = .ok (.invokespecial 11, 3) := by decide +kernel
theorem dX9_init_43 : decode mX9_init.2.2.1 43 = .ok (.putfield 21, 3) := by decide +kernel
theorem dX9_init_46 : decode mX9_init.2.2.1 46 = .ok (.aload_n 0, 1) := by decide +kernel
theorem dX9_init_47 : decode mX9_init.2.2.1 47 = .ok (.new 24, 3) := by decide +kernel
theorem dX9_init_50 : decode mX9_init.2.2.1 50 = .ok (.dup, 1) := by decide +kernel
theorem dX9_init_51 : decode mX9_init.2.2.1 51 = .ok (.invokespecial 26, 3) := by decide +kernel
theorem dX9_init_54 : decode mX9_init.2.2.1 54 = .ok (.putfield 27, 3) := by decide +kernel
theorem dX9_init_57 : decode mX9_init.2.2.1 57 = .ok (.aload_n 0, 1) := by decide +kernel
theorem dX9_init_58 : decode mX9_init.2.2.1 58 = .ok (.new 31, 3) := by decide +kernel
theorem dX9_init_61 : decode mX9_init.2.2.1 61 = .ok (.dup, 1) := by decide +kernel
theorem dX9_init_62 : decode mX9_init.2.2.1 62 = .ok (.aload_n 0, 1) := by decide +kernel
theorem dX9_init_63 : decode mX9_init.2.2.1 63 = .ok (.getfield 27, 3) := by decide +kernel
theorem dX9_init_66 : decode mX9_init.2.2.1 66 = .ok (.invokespecial 33, 3) := by decide +kernel
theorem dX9_init_69 : decode mX9_init.2.2.1 69 = .ok (.putfield 36, 3) := by decide +kernel
theorem dX9_init_72 : decode mX9_init.2.2.1 72 = .ok (.aload_n 0, 1) := by decide +kernel
theorem dX9_init_73 : decode mX9_init.2.2.1 73 = .ok (.new 40, 3) := by decide +kernel
theorem dX9_init_76 : decode mX9_init.2.2.1 76 = .ok (.dup, 1) := by decide +kernel
theorem dX9_init_77 : decode mX9_init.2.2.1 77 = .ok (.invokespecial 42, 3) := by decide +kernel
theorem dX9_init_80 : decode mX9_init.2.2.1 80 = .ok (.putfield 43, 3) := by decide +kernel
theorem dX9_init_83 : decode mX9_init.2.2.1 83 = .ok (.aload_n 0, 1) := by decide +kernel
theorem dX9_init_84 : decode mX9_init.2.2.1 84 = .ok (.new 47, 3) := by decide +kernel
theorem dX9_init_87 : decode mX9_init.2.2.1 87 = .ok (.dup, 1) := by decide +kernel
theorem dX9_init_88 : decode mX9_init.2.2.1 88 = .ok (.aload_n 0, 1) := by decide +kernel
theorem dX9_init_89 : decode mX9_init.2.2.1 89 = .ok (.getfield 43, 3) := by decide +kernel
theorem dX9_init_92 : decode mX9_init.2.2.1 92 = .ok (.aload_n 0, 1) := by decide +kernel
theorem dX9_init_93 : decode mX9_init.2.2.1 93 = .ok (.getfield 27, 3) := by decide +kernel
theorem dX9_init_96 : decode mX9_init.2.2.1 96 = .ok (.invokespecial 49, 3) := by decide +kernel
theorem dX9_init_99 : decode mX9_init.2.2.1 99 = .ok (.putfield 52, 3) := by decide +kernel
theorem dX9_init_102 : decode mX9_init.2.2.1 102 = .ok (.aload_n 0, 1) := by decide +kernel
theorem dX9_init_103 : decode mX9_init.2.2.1 103 = .ok (.iconst (-1), 1) := by decide +kernel
theorem dX9_init_104 : decode mX9_init.2.2.1 104 = .ok (.putfield 56, 3) := by decide +kernel
theorem dX9_init_107 : decode mX9_init.2.2.1 107 = .ok (.return_, 1) := by decide +kernel
theorem dX9_feed_0 : decode mX9_feed.2.2.1 0 = .ok (.aload_n 0, 1) := by decide +kernel
theorem dX9_feed_1 : decode mX9_feed.2.2.1 1 = .ok (.getfield 14, 3) := by decide +kernel
theorem dX9_feed_4 : decode mX9_feed.2.2.1 4 = .ok (.bipush 20, 2) := by decide +kernel
theorem dX9_feed_6 : decode mX9_feed.2.2.1 6 = .ok (.invokevirtual 60, 3) := by decide +kernel
theorem dX9_feed_9 : decode mX9_feed.2.2.1 9 = .ok (.ifCond .ne 5, 3) := by decide +kernel
theorem dX9_feed_12 : decode mX9_feed.2.2.1 12 = .ok (.iconst (-1), 1) := by decide +kernel
theorem dX9_feed_13 : decode mX9_feed.2.2.1 13 = .ok (.ireturn, 1) := by decide +kernel
theorem dX9_feed_14 : decode mX9_feed.2.2.1 14 = .ok (.aload_n 0, 1) := by decide +kernel
theorem dX9_feed_15 : decode mX9_feed.2.2.1 15 = .ok (.getfield 14, 3) := by decide +kernel
theorem dX9_feed_18 : decode mX9_feed.2.2.1 18 = .ok (.iload_n 1, 1) := by decide +kernel
theorem dX9_feed_19 : decode mX9_feed.2.2.1 19 = .ok (.invokevirtual 64, 3) := by decide +kernel
theorem dX9_feed_22 : decode mX9_feed.2.2.1 22 = .ok (.aload_n 0, 1) := by decide +kernel
theorem dX9_feed_23 : decode mX9_feed.2.2.1 23 = .ok (.getfield 14, 3) := by decide +kernel
theorem dX9_feed_26 : decode mX9_feed.2.2.1 26 = .ok (.iload_n 2, 1) := by decide +kernel
theorem dX9_feed_27 : decode mX9_feed.2.2.1 27 = .ok (.invokevirtual 64, 3) := by decide +kernel
theorem dX9_feed_30 : decode mX9_feed.2.2.1 30 = .ok (.aload_n 0, 1) := by decide +kernel
theorem dX9_feed_31 : decode mX9_feed.2.2.1 31 = .ok (.getfield 14, 3) := by decide +kernel
theorem dX9_feed_34 : decode mX9_feed.2.2.1 34 = .ok (.iload_n 3, 1) := by decide +kernel
theorem dX9_feed_35 : decode mX9_feed.2.2.1 35 = .ok (.invokevirtual 64, 3) := by decide +kernel
theorem dX9_feed_38 : decode mX9_feed.2.2.1 38 = .ok (.aload_n 0, 1) := by decide +kernel
theorem dX9_feed_39 : decode mX9_feed.2.2.1 39 = .ok (.getfield 14, 3) := by decide +kernel
theorem dX9_feed_42 : decode mX9_feed.2.2.1 42 = .ok (.iload 4, 2) := by decide +kernel
theorem dX9_feed_44 : decode mX9_feed.2.2.1 44 = .ok (.invokevirtual 64, 3) := by decide +kernel
theorem dX9_feed_47 : decode mX9_feed.2.2.1 47 = .ok (.aload_n 0, 1) := by decide +kernel
theorem dX9_feed_48 : decode mX9_feed.2.2.1 48 = .ok (.getfield 14, 3) := by decide +kernel
theorem dX9_feed_51 : decode mX9_feed.2.2.1 51 = .ok (.iload 5, 2) := by decide +kernel
theorem dX9_feed_53 : decode mX9_feed.2.2.1 53 = .ok (.invokevirtual 64, 3) := by decide +kernel
theorem dX9_feed_56 : decode mX9_feed.2.2.1 56 = .ok (.aload_n 0, 1) := by decide +kernel
theorem dX9_feed_57 : decode mX9_feed.2.2.1 57 = .ok (.getfield 14, 3) := by decide +kernel
theorem dX9_feed_60 : decode mX9_feed.2.2.1 60 = .ok (.invokevirtual 67, 3) := by decide +kernel
theorem dX9_feed_63 : decode mX9_feed.2.2.1 63 = .ok (.ireturn, 1) := by decide +kernel
theorem dX9_end_0 : decode mX9_end.2.2.1 0 = .ok (.iload_n 1, 1) := by decide +kernel
theorem dX9_end_1 : decode mX9_end.2.2.1 1 = .ok (.ifCond .lt 14, 3) := by decide +kernel
theorem dX9_end_4 : decode mX9_end.2.2.1 4 = .ok (.iload_n 1, 1) := by decide +kernel
theorem dX9_end_5 : decode mX9_end.2.2.1 5 = .ok (.aload_n 0, 1) := by decide +kernel
theorem dX9_end_6 : decode mX9_end.2.2.1 6 = .ok (.getfield 14, 3) := by decide +kernel
theorem dX9_end_9 : decode mX9_end.2.2.1 9 = .ok (.invokevirtual 67, 3) := by decide +kernel
theorem dX9_end_12 : decode mX9_end.2.2.1 12 = .ok (.if_icmp .le 5, 3) := by decide +kernel
theorem dX9_end_15 : decode mX9_end.2.2.1 15 = .ok (.iconst (-1), 1) := by decide +kernel
theorem dX9_end_16 : decode mX9_end.2.2.1 16 = .ok (.ireturn, 1) := by decide +kernel
theorem dX9_end_17 : decode mX9_end.2.2.1 17 = .ok (.aload_n 0, 1) := by decide +kernel
theorem dX9_end_18 : decode mX9_end.2.2.1 18 = .ok (.getfield 14, 3) := by decide +kernel
theorem dX9_end_21 : decode mX9_end.2.2.1 21 = .ok (.iload_n 1, 1) := by decide +kernel
theorem dX9_end_22 : decode mX9_end.2.2.1 22 = .ok (.invokevirtual 71, 3) := by decide +kernel
theorem dX9_end_25 : decode mX9_end.2.2.1 25 = .ok (.iload_n 1, 1) := by decide +kernel
theorem dX9_end_26 : decode mX9_end.2.2.1 26 = .ok (.ireturn, 1) := by decide +kernel
theorem dX9_take_0 : decode mX9_take.2.2.1 0 = .ok (.aload_n 0, 1) := by decide +kernel
theorem dX9_take_1 : decode mX9_take.2.2.1 1 = .ok (.getfield 14, 3) := by decide +kernel
theorem dX9_take_4 : decode mX9_take.2.2.1 4 = .ok (.iconst 0, 1) := by decide +kernel
theorem dX9_take_5 : decode mX9_take.2.2.1 5 = .ok (.invokevirtual 71, 3) := by decide +kernel
theorem dX9_take_8 : decode mX9_take.2.2.1 8 = .ok (.aload_n 0, 1) := by decide +kernel
theorem dX9_take_9 : decode mX9_take.2.2.1 9 = .ok (.getfield 14, 3) := by decide +kernel
theorem dX9_take_12 : decode mX9_take.2.2.1 12 = .ok (.aload_n 0, 1) := by decide +kernel
theorem dX9_take_13 : decode mX9_take.2.2.1 13 = .ok (.getfield 18, 3) := by decide +kernel
theorem dX9_take_16 : decode mX9_take.2.2.1 16 = .ok (.iconst 0, 1) := by decide +kernel
theorem dX9_take_17 : decode mX9_take.2.2.1 17 = .ok (.aload_n 0, 1) := by decide +kernel
theorem dX9_take_18 : decode mX9_take.2.2.1 18 = .ok (.getfield 18, 3) := by decide +kernel
theorem dX9_take_21 : decode mX9_take.2.2.1 21 = .ok (.invokevirtual 67, 3) := by decide +kernel
theorem dX9_take_24 : decode mX9_take.2.2.1 24 = .ok (.invokevirtual 74, 3) := by decide +kernel
theorem dX9_take_27 : decode mX9_take.2.2.1 27 = .ok (.aload_n 0, 1) := by decide +kernel
theorem dX9_take_28 : decode mX9_take.2.2.1 28 = .ok (.getfield 14, 3) := by decide +kernel
theorem dX9_take_31 : decode mX9_take.2.2.1 31 = .ok (.invokevirtual 67, 3) := by decide +kernel
theorem dX9_take_34 : decode mX9_take.2.2.1 34 = .ok (.ireturn, 1) := by decide +kernel
theorem dX9_alter_0 : decode mX9_alter.2.2.1 0 = .ok (.aload_n 0, 1) := by decide +kernel
theorem dX9_alter_1 : decode mX9_alter.2.2.1 1 = .ok (.getfield 14, 3) := by decide +kernel
theorem dX9_alter_4 : decode mX9_alter.2.2.1 4 = .ok (.iload_n 1, 1) := by decide +kernel
theorem dX9_alter_5 : decode mX9_alter.2.2.1 5 = .ok (.iload_n 2, 1) := by decide +kernel
theorem dX9_alter_6 : decode mX9_alter.2.2.1 6 = .ok (.invokevirtual 78, 3) := by decide +kernel
theorem dX9_alter_9 : decode mX9_alter.2.2.1 9 = .ok (.ireturn, 1) := by decide +kernel
theorem dX9_out_0 : decode mX9_out.2.2.1 0 = .ok (.aload_n 0, 1) := by decide +kernel
theorem dX9_out_1 : decode mX9_out.2.2.1 1 = .ok (.getfield 18, 3) := by decide +kernel
theorem dX9_out_4 : decode mX9_out.2.2.1 4 = .ok (.iload_n 1, 1) := by decide +kernel
theorem dX9_out_5 : decode mX9_out.2.2.1 5 = .ok (.invokevirtual 82, 3) := by decide +kernel
theorem dX9_out_8 : decode mX9_out.2.2.1 8 = .ok (.ireturn, 1) := by decide +kernel
theorem dX9_digest_0 : decode mX9_digest.2.2.1 0 = .ok (.aload_n 0, 1) := by decide +kernel
theorem dX9_digest_1 : decode mX9_digest.2.2.1 1 = .ok (.getfield 27, 3) := by decide +kernel
theorem dX9_digest_4 : decode mX9_digest.2.2.1 4 = .ok (.aload_n 0, 1) := by decide +kernel
theorem dX9_digest_5 : decode mX9_digest.2.2.1 5 = .ok (.getfield 14, 3) := by decide +kernel
theorem dX9_digest_8 : decode mX9_digest.2.2.1 8 = .ok (.iconst 0, 1) := by decide +kernel
theorem dX9_digest_9 : decode mX9_digest.2.2.1 9 = .ok (.aload_n 0, 1) := by decide +kernel
theorem dX9_digest_10 : decode mX9_digest.2.2.1 10 = .ok (.getfield 14, 3) := by decide +kernel
theorem dX9_digest_13 : decode mX9_digest.2.2.1 13 = .ok (.invokevirtual 67, 3) := by decide +kernel
theorem dX9_digest_16 : decode mX9_digest.2.2.1 16 = .ok (.invokevirtual 86, 3) := by decide +kernel
theorem dX9_digest_19 : decode mX9_digest.2.2.1 19 = .ok (.aload_n 0, 1) := by decide +kernel
theorem dX9_digest_20 : decode mX9_digest.2.2.1 20 = .ok (.getfield 14, 3) := by decide +kernel
theorem dX9_digest_23 : decode mX9_digest.2.2.1 23 = .ok (.iconst 0, 1) := by decide +kernel
theorem dX9_digest_24 : decode mX9_digest.2.2.1 24 = .ok (.invokevirtual 71, 3) := by decide +kernel
theorem dX9_digest_27 : decode mX9_digest.2.2.1 27 = .ok (.aload_n 0, 1) := by decide +kernel
theorem dX9_digest_28 : decode mX9_digest.2.2.1 28 = .ok (.getfield 18, 3) := by decide +kernel
theorem dX9_digest_31 : decode mX9_digest.2.2.1 31 = .ok (.iconst 0, 1) := by decide +kernel
theorem dX9_digest_32 : decode mX9_digest.2.2.1 32 = .ok (.invokevirtual 71, 3) := by decide +kernel
theorem dX9_digest_35 : decode mX9_digest.2.2.1 35 = .ok (.aload_n 0, 1) := by decide +kernel
theorem dX9_digest_36 : decode mX9_digest.2.2.1 36 = .ok (.getfield 27, 3) := by decide +kernel
theorem dX9_digest_39 : decode mX9_digest.2.2.1 39 = .ok (.aload_n 0, 1) := by decide +kernel
theorem dX9_digest_40 : decode mX9_digest.2.2.1 40 = .ok (.getfield 18, 3) := by decide +kernel
theorem dX9_digest_43 : decode mX9_digest.2.2.1 43 = .ok (.invokevirtual 89, 3) := by decide +kernel
theorem dX9_digest_46 : decode mX9_digest.2.2.1 46 = .ok (.bipush 20, 2) := by decide +kernel
theorem dX9_digest_48 : decode mX9_digest.2.2.1 48 = .ok (.ireturn, 1) := by decide +kernel
theorem dX9_make_0 : decode mX9_make.2.2.1 0 = .ok (.aload_n 0, 1) := by decide +kernel
theorem dX9_make_1 : decode mX9_make.2.2.1 1 = .ok (.aload_n 0, 1) := by decide +kernel
theorem dX9_make_2 : decode mX9_make.2.2.1 2 = .ok (.getfield 14, 3) := by decide +kernel
theorem dX9_make_5 : decode mX9_make.2.2.1 5 = .ok (.invokevirtual 67, 3) := by decide +kernel
theorem dX9_make_8 : decode mX9_make.2.2.1 8 = .ok (.iload_n 1, 1) := by decide +kernel
theorem dX9_make_9 : decode mX9_make.2.2.1 9 = .ok (.invokevirtual 93, 3) := by decide +kernel
theorem dX9_make_12 : decode mX9_make.2.2.1 12 = .ok (.istore_n 2, 1) := by decide +kernel
theorem dX9_make_13 : decode mX9_make.2.2.1 13 = .ok (.iload_n 2, 1) := by decide +kernel
theorem dX9_make_14 : decode mX9_make.2.2.1 14 = .ok (.ifCond .eq 30, 3) := by decide +kernel
theorem dX9_make_17 : decode mX9_make.2.2.1 17 = .ok (.aload_n 0, 1) := by decide +kernel
theorem dX9_make_18 : decode mX9_make.2.2.1 18 = .ok (.getfield 21, 3) := by decide +kernel
theorem dX9_make_21 : decode mX9_make.2.2.1 21 = .ok (.iconst 0, 1) := by decide +kernel
theorem dX9_make_22 : decode mX9_make.2.2.1 22 = .ok (.invokevirtual 71, 3) := by decide +kernel
theorem dX9_make_25 : decode mX9_make.2.2.1 25 = .ok (.aload_n 0, 1) := by decide +kernel
theorem dX9_make_26 : decode mX9_make.2.2.1 26 = .ok (.getfield 21, 3) := by decide +kernel
theorem dX9_make_29 : decode mX9_make.2.2.1 29 = .ok (.aload_n 0, 1) := by decide +kernel
theorem dX9_make_30 : decode mX9_make.2.2.1 30 = .ok (.getfield 14, 3) := by decide +kernel
theorem dX9_make_33 : decode mX9_make.2.2.1 33 = .ok (.iconst 0, 1) := by decide +kernel
theorem dX9_make_34 : decode mX9_make.2.2.1 34 = .ok (.aload_n 0, 1) := by decide +kernel
theorem dX9_make_35 : decode mX9_make.2.2.1 35 = .ok (.getfield 14, 3) := by decide +kernel
theorem dX9_make_38 : decode mX9_make.2.2.1 38 = .ok (.invokevirtual 67, 3) := by decide +kernel
theorem dX9_make_41 : decode mX9_make.2.2.1 41 = .ok (.invokevirtual 74, 3) := by decide +kernel
theorem dX9_make_44 : decode mX9_make.2.2.1 44 = .ok (.aload_n 0, 1) := by decide +kernel
theorem dX9_make_45 : decode mX9_make.2.2.1 45 = .ok (.getfield 14, 3) := by decide +kernel
theorem dX9_make_48 : decode mX9_make.2.2.1 48 = .ok (.iconst 0, 1) := by decide +kernel
theorem dX9_make_49 : decode mX9_make.2.2.1 49 = .ok (.invokevirtual 71, 3) := by decide +kernel
theorem dX9_make_52 : decode mX9_make.2.2.1 52 = .ok (.iload_n 2, 1) := by decide +kernel
theorem dX9_make_53 : decode mX9_make.2.2.1 53 = .ok (.ifCond .ne 5, 3) := by decide +kernel
theorem dX9_make_56 : decode mX9_make.2.2.1 56 = .ok (.iconst (-1), 1) := by decide +kernel
theorem dX9_make_57 : decode mX9_make.2.2.1 57 = .ok (.ireturn, 1) := by decide +kernel
theorem dX9_make_58 : decode mX9_make.2.2.1 58 = .ok (.aload_n 0, 1) := by decide +kernel
theorem dX9_make_59 : decode mX9_make.2.2.1 59 = .ok (.iload_n 1, 1) := by decide +kernel
theorem dX9_make_60 : decode mX9_make.2.2.1 60 = .ok (.invokevirtual 96, 3) := by decide +kernel
theorem dX9_make_63 : decode mX9_make.2.2.1 63 = .ok (.aload_n 0, 1) := by decide +kernel
theorem dX9_make_64 : decode mX9_make.2.2.1 64 = .ok (.getfield 36, 3) := by decide +kernel
theorem dX9_make_67 : decode mX9_make.2.2.1 67 = .ok (.aload_n 0, 1) := by decide +kernel
theorem dX9_make_68 : decode mX9_make.2.2.1 68 = .ok (.getfield 18, 3) := by decide +kernel
theorem dX9_make_71 : decode mX9_make.2.2.1 71 = .ok (.invokevirtual 99, 3) := by decide +kernel
theorem dX9_make_74 : decode mX9_make.2.2.1 74 = .ok (.pop, 1) := by decide +kernel
theorem dX9_make_75 : decode mX9_make.2.2.1 75 = .ok (.aload_n 0, 1) := by decide +kernel
theorem dX9_make_76 : decode mX9_make.2.2.1 76 = .ok (.getfield 43, 3) := by decide +kernel
theorem dX9_make_79 : decode mX9_make.2.2.1 79 = .ok (.aload_n 0, 1) := by decide +kernel
theorem dX9_make_80 : decode mX9_make.2.2.1 80 = .ok (.getfield 36, 3) := by decide +kernel
theorem dX9_make_83 : decode mX9_make.2.2.1 83 = .ok (.aload_n 0, 1) := by decide +kernel
theorem dX9_make_84 : decode mX9_make.2.2.1 84 = .ok (.getfield 43, 3) := by decide +kernel
theorem dX9_make_87 : decode mX9_make.2.2.1 87 = .ok (.getfield 103, 3) := by decide +kernel
theorem dX9_make_90 : decode mX9_make.2.2.1 90 = .ok (.invokevirtual 107, 3) := by decide +kernel
theorem dX9_make_93 : decode mX9_make.2.2.1 93 = .ok (.invokevirtual 111, 3) := by decide +kernel
theorem dX9_make_96 : decode mX9_make.2.2.1 96 = .ok (.aload_n 0, 1) := by decide +kernel
theorem dX9_make_97 : decode mX9_make.2.2.1 97 = .ok (.getfield 18, 3) := by decide +kernel
theorem dX9_make_100 : decode mX9_make.2.2.1 100 = .ok (.invokevirtual 67, 3) := by decide +kernel
theorem dX9_make_103 : decode mX9_make.2.2.1 103 = .ok (.ireturn, 1) := by decide +kernel
theorem dX9_load_0 : decode mX9_load.2.2.1 0 = .ok (.aload_n 0, 1) := by decide +kernel
theorem dX9_load_1 : decode mX9_load.2.2.1 1 = .ok (.getfield 36, 3) := by decide +kernel
theorem dX9_load_4 : decode mX9_load.2.2.1 4 = .ok (.aload_n 0, 1) := by decide +kernel
theorem dX9_load_5 : decode mX9_load.2.2.1 5 = .ok (.getfield 14, 3) := by decide +kernel
theorem dX9_load_8 : decode mX9_load.2.2.1 8 = .ok (.invokevirtual 99, 3) := by decide +kernel
theorem dX9_load_11 : decode mX9_load.2.2.1 11 = .ok (.istore_n 1, 1) := by decide +kernel
theorem dX9_load_12 : decode mX9_load.2.2.1 12 = .ok (.aload_n 0, 1) := by decide +kernel
theorem dX9_load_13 : decode mX9_load.2.2.1 13 = .ok (.getfield 14, 3) := by decide +kernel
theorem dX9_load_16 : decode mX9_load.2.2.1 16 = .ok (.iconst 0, 1) := by decide +kernel
theorem dX9_load_17 : decode mX9_load.2.2.1 17 = .ok (.invokevirtual 71, 3) := by decide +kernel
theorem dX9_load_20 : decode mX9_load.2.2.1 20 = .ok (.aload_n 0, 1) := by decide +kernel
theorem dX9_load_21 : decode mX9_load.2.2.1 21 = .ok (.aload_n 0, 1) := by decide +kernel
theorem dX9_load_22 : decode mX9_load.2.2.1 22 = .ok (.getfield 36, 3) := by decide +kernel
theorem dX9_load_25 : decode mX9_load.2.2.1 25 = .ok (.getfield 115, 3) := by decide +kernel
theorem dX9_load_28 : decode mX9_load.2.2.1 28 = .ok (.putfield 56, 3) := by decide +kernel
theorem dX9_load_31 : decode mX9_load.2.2.1 31 = .ok (.iload_n 1, 1) := by decide +kernel
theorem dX9_load_32 : decode mX9_load.2.2.1 32 = .ok (.ifCond .ne 32, 3) := by decide +kernel
theorem dX9_load_35 : decode mX9_load.2.2.1 35 = .ok (.aload_n 0, 1) := by decide +kernel
theorem dX9_load_36 : decode mX9_load.2.2.1 36 = .ok (.getfield 21, 3) := by decide +kernel
theorem dX9_load_39 : decode mX9_load.2.2.1 39 = .ok (.iconst 0, 1) := by decide +kernel
theorem dX9_load_40 : decode mX9_load.2.2.1 40 = .ok (.invokevirtual 71, 3) := by decide +kernel
theorem dX9_load_43 : decode mX9_load.2.2.1 43 = .ok (.aload_n 0, 1) := by decide +kernel
theorem dX9_load_44 : decode mX9_load.2.2.1 44 = .ok (.getfield 43, 3) := by decide +kernel
theorem dX9_load_47 : decode mX9_load.2.2.1 47 = .ok (.aload_n 0, 1) := by decide +kernel
theorem dX9_load_48 : decode mX9_load.2.2.1 48 = .ok (.getfield 36, 3) := by decide +kernel
theorem dX9_load_51 : decode mX9_load.2.2.1 51 = .ok (.aload_n 0, 1) := by decide +kernel
theorem dX9_load_52 : decode mX9_load.2.2.1 52 = .ok (.getfield 43, 3) := by decide +kernel
theorem dX9_load_55 : decode mX9_load.2.2.1 55 = .ok (.getfield 103, 3) := by decide +kernel
theorem dX9_load_58 : decode mX9_load.2.2.1 58 = .ok (.invokevirtual 107, 3) := by decide +kernel
theorem dX9_load_61 : decode mX9_load.2.2.1 61 = .ok (.invokevirtual 111, 3) := by decide +kernel
theorem dX9_load_64 : decode mX9_load.2.2.1 64 = .ok (.iload_n 1, 1) := by decide +kernel
theorem dX9_load_65 : decode mX9_load.2.2.1 65 = .ok (.ireturn, 1) := by decide +kernel
theorem dX9_place_0 : decode mX9_place.2.2.1 0 = .ok (.aload_n 0, 1) := by decide +kernel
theorem dX9_place_1 : decode mX9_place.2.2.1 1 = .ok (.getfield 56, 3) := by decide +kernel
theorem dX9_place_4 : decode mX9_place.2.2.1 4 = .ok (.ireturn, 1) := by decide +kernel
theorem dX9_torrent_0 : decode mX9_torrent.2.2.1 0 = .ok (.aload_n 0, 1) := by decide +kernel
theorem dX9_torrent_1 : decode mX9_torrent.2.2.1 1 = .ok (.getfield 43, 3) := by decide +kernel
theorem dX9_torrent_4 : decode mX9_torrent.2.2.1 4 = .ok (.getfield 103, 3) := by decide +kernel
theorem dX9_torrent_7 : decode mX9_torrent.2.2.1 7 = .ok (.astore_n 2, 1) := by decide +kernel
theorem dX9_torrent_8 : decode mX9_torrent.2.2.1 8 = .ok (.aload_n 2, 1) := by decide +kernel
theorem dX9_torrent_9 : decode mX9_torrent.2.2.1 9 = .ok (.invokevirtual 116, 3) := by decide +kernel
theorem dX9_torrent_12 : decode mX9_torrent.2.2.1 12 = .ok (.ifCond .ne 5, 3) := by decide +kernel
theorem dX9_torrent_15 : decode mX9_torrent.2.2.1 15 = .ok (.iconst (-1), 1) := by decide +kernel
theorem dX9_torrent_16 : decode mX9_torrent.2.2.1 16 = .ok (.ireturn, 1) := by decide +kernel
theorem dX9_torrent_17 : decode mX9_torrent.2.2.1 17 = .ok (.iload_n 1, 1) := by decide +kernel
theorem dX9_torrent_18 : decode mX9_torrent.2.2.1 18 = .ok (.tableswitch 50 0 3 #[30, 35, 40, 45], 30) := by decide +kernel
theorem dX9_torrent_48 : decode mX9_torrent.2.2.1 48 = .ok (.aload_n 2, 1) := by decide +kernel
theorem dX9_torrent_49 : decode mX9_torrent.2.2.1 49 = .ok (.getfield 122, 3) := by decide +kernel
theorem dX9_torrent_52 : decode mX9_torrent.2.2.1 52 = .ok (.ireturn, 1) := by decide +kernel
theorem dX9_torrent_53 : decode mX9_torrent.2.2.1 53 = .ok (.aload_n 2, 1) := by decide +kernel
theorem dX9_torrent_54 : decode mX9_torrent.2.2.1 54 = .ok (.getfield 125, 3) := by decide +kernel
theorem dX9_torrent_57 : decode mX9_torrent.2.2.1 57 = .ok (.ireturn, 1) := by decide +kernel
theorem dX9_torrent_58 : decode mX9_torrent.2.2.1 58 = .ok (.aload_n 2, 1) := by decide +kernel
theorem dX9_torrent_59 : decode mX9_torrent.2.2.1 59 = .ok (.getfield 128, 3) := by decide +kernel
theorem dX9_torrent_62 : decode mX9_torrent.2.2.1 62 = .ok (.ireturn, 1) := by decide +kernel
theorem dX9_torrent_63 : decode mX9_torrent.2.2.1 63 = .ok (.aload_n 2, 1) := by decide +kernel
theorem dX9_torrent_64 : decode mX9_torrent.2.2.1 64 = .ok (.getfield 131, 3) := by decide +kernel
theorem dX9_torrent_67 : decode mX9_torrent.2.2.1 67 = .ok (.ireturn, 1) := by decide +kernel
theorem dX9_torrent_68 : decode mX9_torrent.2.2.1 68 = .ok (.iconst (-1), 1) := by decide +kernel
theorem dX9_torrent_69 : decode mX9_torrent.2.2.1 69 = .ok (.ireturn, 1) := by decide +kernel
theorem dX9_file_0 : decode mX9_file.2.2.1 0 = .ok (.aload_n 0, 1) := by decide +kernel
theorem dX9_file_1 : decode mX9_file.2.2.1 1 = .ok (.getfield 43, 3) := by decide +kernel
theorem dX9_file_4 : decode mX9_file.2.2.1 4 = .ok (.getfield 103, 3) := by decide +kernel
theorem dX9_file_7 : decode mX9_file.2.2.1 7 = .ok (.astore_n 3, 1) := by decide +kernel
theorem dX9_file_8 : decode mX9_file.2.2.1 8 = .ok (.iload_n 1, 1) := by decide +kernel
theorem dX9_file_9 : decode mX9_file.2.2.1 9 = .ok (.ifCond .lt 17, 3) := by decide +kernel
theorem dX9_file_12 : decode mX9_file.2.2.1 12 = .ok (.iload_n 1, 1) := by decide +kernel
theorem dX9_file_13 : decode mX9_file.2.2.1 13 = .ok (.aload_n 3, 1) := by decide +kernel
theorem dX9_file_14 : decode mX9_file.2.2.1 14 = .ok (.getfield 131, 3) := by decide +kernel
theorem dX9_file_17 : decode mX9_file.2.2.1 17 = .ok (.if_icmp .ge 9, 3) := by decide +kernel
theorem dX9_file_20 : decode mX9_file.2.2.1 20 = .ok (.iload_n 1, 1) := by decide +kernel
theorem dX9_file_21 : decode mX9_file.2.2.1 21 = .ok (.bipush 16, 2) := by decide +kernel
theorem dX9_file_23 : decode mX9_file.2.2.1 23 = .ok (.if_icmp .lt 5, 3) := by decide +kernel
theorem dX9_file_26 : decode mX9_file.2.2.1 26 = .ok (.iconst (-1), 1) := by decide +kernel
theorem dX9_file_27 : decode mX9_file.2.2.1 27 = .ok (.ireturn, 1) := by decide +kernel
theorem dX9_file_28 : decode mX9_file.2.2.1 28 = .ok (.iload_n 2, 1) := by decide +kernel
theorem dX9_file_29 : decode mX9_file.2.2.1 29 = .ok (.tableswitch 48 0 2 #[27, 34, 41], 27) := by decide +kernel
theorem dX9_file_56 : decode mX9_file.2.2.1 56 = .ok (.aload_n 3, 1) := by decide +kernel
theorem dX9_file_57 : decode mX9_file.2.2.1 57 = .ok (.getfield 134, 3) := by decide +kernel
theorem dX9_file_60 : decode mX9_file.2.2.1 60 = .ok (.iload_n 1, 1) := by decide +kernel
theorem dX9_file_61 : decode mX9_file.2.2.1 61 = .ok (.iaload, 1) := by decide +kernel
theorem dX9_file_62 : decode mX9_file.2.2.1 62 = .ok (.ireturn, 1) := by decide +kernel
theorem dX9_file_63 : decode mX9_file.2.2.1 63 = .ok (.aload_n 3, 1) := by decide +kernel
theorem dX9_file_64 : decode mX9_file.2.2.1 64 = .ok (.getfield 138, 3) := by decide +kernel
theorem dX9_file_67 : decode mX9_file.2.2.1 67 = .ok (.iload_n 1, 1) := by decide +kernel
theorem dX9_file_68 : decode mX9_file.2.2.1 68 = .ok (.iaload, 1) := by decide +kernel
theorem dX9_file_69 : decode mX9_file.2.2.1 69 = .ok (.ireturn, 1) := by decide +kernel
theorem dX9_file_70 : decode mX9_file.2.2.1 70 = .ok (.aload_n 3, 1) := by decide +kernel
theorem dX9_file_71 : decode mX9_file.2.2.1 71 = .ok (.getfield 141, 3) := by decide +kernel
theorem dX9_file_74 : decode mX9_file.2.2.1 74 = .ok (.iload_n 1, 1) := by decide +kernel
theorem dX9_file_75 : decode mX9_file.2.2.1 75 = .ok (.iaload, 1) := by decide +kernel
theorem dX9_file_76 : decode mX9_file.2.2.1 76 = .ok (.ireturn, 1) := by decide +kernel
theorem dX9_file_77 : decode mX9_file.2.2.1 77 = .ok (.iconst (-1), 1) := by decide +kernel
theorem dX9_file_78 : decode mX9_file.2.2.1 78 = .ok (.ireturn, 1) := by decide +kernel
theorem dX9_hash_0 : decode mX9_hash.2.2.1 0 = .ok (.aload_n 0, 1) := by decide +kernel
theorem dX9_hash_1 : decode mX9_hash.2.2.1 1 = .ok (.getfield 43, 3) := by decide +kernel
theorem dX9_hash_4 : decode mX9_hash.2.2.1 4 = .ok (.getfield 103, 3) := by decide +kernel
theorem dX9_hash_7 : decode mX9_hash.2.2.1 7 = .ok (.invokevirtual 116, 3) := by decide +kernel
theorem dX9_hash_10 : decode mX9_hash.2.2.1 10 = .ok (.ifCond .ne 5, 3) := by decide +kernel
theorem dX9_hash_13 : decode mX9_hash.2.2.1 13 = .ok (.iconst (-1), 1) := by decide +kernel
theorem dX9_hash_14 : decode mX9_hash.2.2.1 14 = .ok (.ireturn, 1) := by decide +kernel
theorem dX9_hash_15 : decode mX9_hash.2.2.1 15 = .ok (.aload_n 0, 1) := by decide +kernel
theorem dX9_hash_16 : decode mX9_hash.2.2.1 16 = .ok (.getfield 18, 3) := by decide +kernel
theorem dX9_hash_19 : decode mX9_hash.2.2.1 19 = .ok (.iconst 0, 1) := by decide +kernel
theorem dX9_hash_20 : decode mX9_hash.2.2.1 20 = .ok (.invokevirtual 71, 3) := by decide +kernel
theorem dX9_hash_23 : decode mX9_hash.2.2.1 23 = .ok (.aload_n 0, 1) := by decide +kernel
theorem dX9_hash_24 : decode mX9_hash.2.2.1 24 = .ok (.getfield 18, 3) := by decide +kernel
theorem dX9_hash_27 : decode mX9_hash.2.2.1 27 = .ok (.aload_n 0, 1) := by decide +kernel
theorem dX9_hash_28 : decode mX9_hash.2.2.1 28 = .ok (.getfield 43, 3) := by decide +kernel
theorem dX9_hash_31 : decode mX9_hash.2.2.1 31 = .ok (.getfield 103, 3) := by decide +kernel
theorem dX9_hash_34 : decode mX9_hash.2.2.1 34 = .ok (.getfield 144, 3) := by decide +kernel
theorem dX9_hash_37 : decode mX9_hash.2.2.1 37 = .ok (.iconst 0, 1) := by decide +kernel
theorem dX9_hash_38 : decode mX9_hash.2.2.1 38 = .ok (.bipush 20, 2) := by decide +kernel
theorem dX9_hash_40 : decode mX9_hash.2.2.1 40 = .ok (.invokevirtual 74, 3) := by decide +kernel
theorem dX9_hash_43 : decode mX9_hash.2.2.1 43 = .ok (.bipush 20, 2) := by decide +kernel
theorem dX9_hash_45 : decode mX9_hash.2.2.1 45 = .ok (.ireturn, 1) := by decide +kernel
theorem dX9_isMakeable_0 : decode mX9_isMakeable.2.2.1 0 = .ok (.iload_n 1, 1) := by decide +kernel
theorem dX9_isMakeable_1 : decode mX9_isMakeable.2.2.1 1 = .ok (.iconst 1, 1) := by decide +kernel
theorem dX9_isMakeable_2 : decode mX9_isMakeable.2.2.1 2 = .ok (.sipush 4096, 3) := by decide +kernel
theorem dX9_isMakeable_5 : decode mX9_isMakeable.2.2.1 5 = .ok (.invokestatic 147, 3) := by decide +kernel
theorem dX9_isMakeable_8 : decode mX9_isMakeable.2.2.1 8 = .ok (.ifCond .eq 27, 3) := by decide +kernel
theorem dX9_isMakeable_11 : decode mX9_isMakeable.2.2.1 11 = .ok (.iload_n 2, 1) := by decide +kernel
theorem dX9_isMakeable_12 : decode mX9_isMakeable.2.2.1 12 = .ok (.bipush 32, 2) := by decide +kernel
theorem dX9_isMakeable_14 : decode mX9_isMakeable.2.2.1 14 = .ok (.sipush 1024, 3) := by decide +kernel
theorem dX9_isMakeable_17 : decode mX9_isMakeable.2.2.1 17 = .ok (.invokestatic 147, 3) := by decide +kernel
theorem dX9_isMakeable_20 : decode mX9_isMakeable.2.2.1 20 = .ok (.ifCond .eq 15, 3) := by decide +kernel
theorem dX9_isMakeable_23 : decode mX9_isMakeable.2.2.1 23 = .ok (.iload_n 1, 1) := by decide +kernel
theorem dX9_isMakeable_24 : decode mX9_isMakeable.2.2.1 24 = .ok (.bipush 64, 2) := by decide +kernel
theorem dX9_isMakeable_26 : decode mX9_isMakeable.2.2.1 26 = .ok (.iload_n 2, 1) := by decide +kernel
theorem dX9_isMakeable_27 : decode mX9_isMakeable.2.2.1 27 = .ok (.imul, 1) := by decide +kernel
theorem dX9_isMakeable_28 : decode mX9_isMakeable.2.2.1 28 = .ok (.if_icmp .gt 7, 3) := by decide +kernel
theorem dX9_isMakeable_31 : decode mX9_isMakeable.2.2.1 31 = .ok (.iconst 1, 1) := by decide +kernel
theorem dX9_isMakeable_32 : decode mX9_isMakeable.2.2.1 32 = .ok (.goto 4, 3) := by decide +kernel
theorem dX9_isMakeable_35 : decode mX9_isMakeable.2.2.1 35 = .ok (.iconst 0, 1) := by decide +kernel
theorem dX9_isMakeable_36 : decode mX9_isMakeable.2.2.1 36 = .ok (.ireturn, 1) := by decide +kernel
theorem dX9_writeMetainfo_0 : decode mX9_writeMetainfo.2.2.1 0 = .ok (.aload_n 0, 1) := by decide +kernel
theorem dX9_writeMetainfo_1 : decode mX9_writeMetainfo.2.2.1 1 = .ok (.getfield 21, 3) := by decide +kernel
theorem dX9_writeMetainfo_4 : decode mX9_writeMetainfo.2.2.1 4 = .ok (.invokevirtual 67, 3) := by decide +kernel
theorem dX9_writeMetainfo_7 : decode mX9_writeMetainfo.2.2.1 7 = .ok (.istore_n 2, 1) := by decide +kernel
theorem dX9_writeMetainfo_8 : decode mX9_writeMetainfo.2.2.1 8 = .ok (.iload_n 2, 1) := by decide +kernel
theorem dX9_writeMetainfo_9 : decode mX9_writeMetainfo.2.2.1 9 = .ok (.iload_n 1, 1) := by decide +kernel
theorem dX9_writeMetainfo_10 : decode mX9_writeMetainfo.2.2.1 10 = .ok (.invokestatic 151, 3) := by decide +kernel
theorem dX9_writeMetainfo_13 : decode mX9_writeMetainfo.2.2.1 13 = .ok (.istore_n 3, 1) := by decide +kernel
theorem dX9_writeMetainfo_14 : decode mX9_writeMetainfo.2.2.1 14 = .ok (.aload_n 0, 1) := by decide +kernel
theorem dX9_writeMetainfo_15 : decode mX9_writeMetainfo.2.2.1 15 = .ok (.getfield 18, 3) := by decide +kernel
theorem dX9_writeMetainfo_18 : decode mX9_writeMetainfo.2.2.1 18 = .ok (.iconst 0, 1) := by decide +kernel
theorem dX9_writeMetainfo_19 : decode mX9_writeMetainfo.2.2.1 19 = .ok (.invokevirtual 71, 3) := by decide +kernel
theorem dX9_writeMetainfo_22 : decode mX9_writeMetainfo.2.2.1 22 = .ok (.aload_n 0, 1) := by decide +kernel
theorem dX9_writeMetainfo_23 : decode mX9_writeMetainfo.2.2.1 23 = .ok (.getfield 18, 3) := by decide +kernel
theorem dX9_writeMetainfo_26 : decode mX9_writeMetainfo.2.2.1 26 = .ok (.ldc 155, 2) := by decide +kernel
theorem dX9_writeMetainfo_28 : decode mX9_writeMetainfo.2.2.1 28 = .ok (.invokevirtual 157, 3) := by decide +kernel
theorem dX9_writeMetainfo_31 : decode mX9_writeMetainfo.2.2.1 31 = .ok (.aload_n 0, 1) := by decide +kernel
theorem dX9_writeMetainfo_32 : decode mX9_writeMetainfo.2.2.1 32 = .ok (.getfield 18, 3) := by decide +kernel
theorem dX9_writeMetainfo_35 : decode mX9_writeMetainfo.2.2.1 35 = .ok (.iload_n 2, 1) := by decide +kernel
theorem dX9_writeMetainfo_36 : decode mX9_writeMetainfo.2.2.1 36 = .ok (.invokevirtual 161, 3) := by decide +kernel
theorem dX9_writeMetainfo_39 : decode mX9_writeMetainfo.2.2.1 39 = .ok (.aload_n 0, 1) := by decide +kernel
theorem dX9_writeMetainfo_40 : decode mX9_writeMetainfo.2.2.1 40 = .ok (.getfield 18, 3) := by decide +kernel
theorem dX9_writeMetainfo_43 : decode mX9_writeMetainfo.2.2.1 43 = .ok (.ldc 164, 2) := by decide +kernel
theorem dX9_writeMetainfo_45 : decode mX9_writeMetainfo.2.2.1 45 = .ok (.invokevirtual 157, 3) := by decide +kernel
theorem dX9_writeMetainfo_48 : decode mX9_writeMetainfo.2.2.1 48 = .ok (.aload_n 0, 1) := by decide +kernel
theorem dX9_writeMetainfo_49 : decode mX9_writeMetainfo.2.2.1 49 = .ok (.getfield 18, 3) := by decide +kernel
theorem dX9_writeMetainfo_52 : decode mX9_writeMetainfo.2.2.1 52 = .ok (.iload_n 1, 1) := by decide +kernel
theorem dX9_writeMetainfo_53 : decode mX9_writeMetainfo.2.2.1 53 = .ok (.invokevirtual 161, 3) := by decide +kernel
theorem dX9_writeMetainfo_56 : decode mX9_writeMetainfo.2.2.1 56 = .ok (.aload_n 0, 1) := by decide +kernel
theorem dX9_writeMetainfo_57 : decode mX9_writeMetainfo.2.2.1 57 = .ok (.getfield 18, 3) := by decide +kernel
theorem dX9_writeMetainfo_60 : decode mX9_writeMetainfo.2.2.1 60 = .ok (.ldc 166, 2) := by decide +kernel
theorem dX9_writeMetainfo_62 : decode mX9_writeMetainfo.2.2.1 62 = .ok (.invokevirtual 157, 3) := by decide +kernel
theorem dX9_writeMetainfo_65 : decode mX9_writeMetainfo.2.2.1 65 = .ok (.aload_n 0, 1) := by decide +kernel
theorem dX9_writeMetainfo_66 : decode mX9_writeMetainfo.2.2.1 66 = .ok (.getfield 18, 3) := by decide +kernel
theorem dX9_writeMetainfo_69 : decode mX9_writeMetainfo.2.2.1 69 = .ok (.bipush 20, 2) := by decide +kernel
theorem dX9_writeMetainfo_71 : decode mX9_writeMetainfo.2.2.1 71 = .ok (.iload_n 3, 1) := by decide +kernel
theorem dX9_writeMetainfo_72 : decode mX9_writeMetainfo.2.2.1 72 = .ok (.imul, 1) := by decide +kernel
theorem dX9_writeMetainfo_73 : decode mX9_writeMetainfo.2.2.1 73 = .ok (.invokevirtual 161, 3) := by decide +kernel
theorem dX9_writeMetainfo_76 : decode mX9_writeMetainfo.2.2.1 76 = .ok (.aload_n 0, 1) := by decide +kernel
theorem dX9_writeMetainfo_77 : decode mX9_writeMetainfo.2.2.1 77 = .ok (.getfield 18, 3) := by decide +kernel
theorem dX9_writeMetainfo_80 : decode mX9_writeMetainfo.2.2.1 80 = .ok (.ldc 168, 2) := by decide +kernel
theorem dX9_writeMetainfo_82 : decode mX9_writeMetainfo.2.2.1 82 = .ok (.invokevirtual 157, 3) := by decide +kernel
theorem dX9_writeMetainfo_85 : decode mX9_writeMetainfo.2.2.1 85 = .ok (.iconst 0, 1) := by decide +kernel
theorem dX9_writeMetainfo_86 : decode mX9_writeMetainfo.2.2.1 86 = .ok (.istore 4, 2) := by decide +kernel
theorem dX9_writeMetainfo_88 : decode mX9_writeMetainfo.2.2.1 88 = .ok (.iload 4, 2) := by decide +kernel
theorem dX9_writeMetainfo_90 : decode mX9_writeMetainfo.2.2.1 90 = .ok (.iload_n 3, 1) := by decide +kernel
theorem dX9_writeMetainfo_91 : decode mX9_writeMetainfo.2.2.1 91 = .ok (.if_icmp .ge 47, 3) := by decide +kernel
theorem dX9_writeMetainfo_94 : decode mX9_writeMetainfo.2.2.1 94 = .ok (.iload 4, 2) := by decide +kernel
theorem dX9_writeMetainfo_96 : decode mX9_writeMetainfo.2.2.1 96 = .ok (.iload_n 1, 1) := by decide +kernel
theorem dX9_writeMetainfo_97 : decode mX9_writeMetainfo.2.2.1 97 = .ok (.imul, 1) := by decide +kernel
theorem dX9_writeMetainfo_98 : decode mX9_writeMetainfo.2.2.1 98 = .ok (.istore 5, 2) := by decide +kernel
theorem dX9_writeMetainfo_100 : decode mX9_writeMetainfo.2.2.1 100 = .ok (.aload_n 0, 1) := by decide +kernel
theorem dX9_writeMetainfo_101 : decode mX9_writeMetainfo.2.2.1 101 = .ok (.getfield 27, 3) := by decide +kernel
theorem dX9_writeMetainfo_104 : decode mX9_writeMetainfo.2.2.1 104 = .ok (.aload_n 0, 1) := by decide +kernel
theorem dX9_writeMetainfo_105 : decode mX9_writeMetainfo.2.2.1 105 = .ok (.getfield 21, 3) := by decide +kernel
theorem dX9_writeMetainfo_108 : decode mX9_writeMetainfo.2.2.1 108 = .ok (.iload 5, 2) := by decide +kernel
theorem dX9_writeMetainfo_110 : decode mX9_writeMetainfo.2.2.1 110 = .ok (.iload_n 1, 1) := by decide +kernel
theorem dX9_writeMetainfo_111 : decode mX9_writeMetainfo.2.2.1 111 = .ok (.iload_n 2, 1) := by decide +kernel
theorem dX9_writeMetainfo_112 : decode mX9_writeMetainfo.2.2.1 112 = .ok (.iload 5, 2) := by decide +kernel
theorem dX9_writeMetainfo_114 : decode mX9_writeMetainfo.2.2.1 114 = .ok (.isub, 1) := by decide +kernel
theorem dX9_writeMetainfo_115 : decode mX9_writeMetainfo.2.2.1 115 = .ok (.invokestatic 170, 3) := by decide +kernel
theorem dX9_writeMetainfo_118 : decode mX9_writeMetainfo.2.2.1 118 = .ok (.invokevirtual 86, 3) := by decide +kernel
theorem dX9_writeMetainfo_121 : decode mX9_writeMetainfo.2.2.1 121 = .ok (.aload_n 0, 1) := by decide +kernel
theorem dX9_writeMetainfo_122 : decode mX9_writeMetainfo.2.2.1 122 = .ok (.getfield 27, 3) := by decide +kernel
theorem dX9_writeMetainfo_125 : decode mX9_writeMetainfo.2.2.1 125 = .ok (.aload_n 0, 1) := by decide +kernel
theorem dX9_writeMetainfo_126 : decode mX9_writeMetainfo.2.2.1 126 = .ok (.getfield 18, 3) := by decide +kernel
theorem dX9_writeMetainfo_129 : decode mX9_writeMetainfo.2.2.1 129 = .ok (.invokevirtual 89, 3) := by decide +kernel
theorem dX9_writeMetainfo_132 : decode mX9_writeMetainfo.2.2.1 132 = .ok (.iinc 4 1, 3) := by decide +kernel
theorem dX9_writeMetainfo_135 : decode mX9_writeMetainfo.2.2.1 135 = .ok (.goto (-47), 3) := by decide +kernel
theorem dX9_writeMetainfo_138 : decode mX9_writeMetainfo.2.2.1 138 = .ok (.aload_n 0, 1) := by decide +kernel
theorem dX9_writeMetainfo_139 : decode mX9_writeMetainfo.2.2.1 139 = .ok (.getfield 18, 3) := by decide +kernel
theorem dX9_writeMetainfo_142 : decode mX9_writeMetainfo.2.2.1 142 = .ok (.ldc 175, 2) := by decide +kernel
theorem dX9_writeMetainfo_144 : decode mX9_writeMetainfo.2.2.1 144 = .ok (.invokevirtual 157, 3) := by decide +kernel
theorem dX9_writeMetainfo_147 : decode mX9_writeMetainfo.2.2.1 147 = .ok (.return_, 1) := by decide +kernel
theorem dX9_client_0 : decode mX9_client.2.2.1 0 = .ok (.iload_n 1, 1) := by decide +kernel
theorem dX9_client_1 : decode mX9_client.2.2.1 1 = .ok (.ifCond .lt 35, 3) := by decide +kernel
theorem dX9_client_4 : decode mX9_client.2.2.1 4 = .ok (.iload_n 1, 1) := by decide +kernel
theorem dX9_client_5 : decode mX9_client.2.2.1 5 = .ok (.iconst 4, 1) := by decide +kernel
theorem dX9_client_6 : decode mX9_client.2.2.1 6 = .ok (.if_icmp .ge 30, 3) := by decide +kernel
theorem dX9_client_9 : decode mX9_client.2.2.1 9 = .ok (.aload_n 0, 1) := by decide +kernel
theorem dX9_client_10 : decode mX9_client.2.2.1 10 = .ok (.getfield 43, 3) := by decide +kernel
theorem dX9_client_13 : decode mX9_client.2.2.1 13 = .ok (.getfield 103, 3) := by decide +kernel
theorem dX9_client_16 : decode mX9_client.2.2.1 16 = .ok (.invokevirtual 116, 3) := by decide +kernel
theorem dX9_client_19 : decode mX9_client.2.2.1 19 = .ok (.ifCond .eq 17, 3) := by decide +kernel
theorem dX9_client_22 : decode mX9_client.2.2.1 22 = .ok (.iload_n 2, 1) := by decide +kernel
theorem dX9_client_23 : decode mX9_client.2.2.1 23 = .ok (.ifCond .eq 15, 3) := by decide +kernel
theorem dX9_client_26 : decode mX9_client.2.2.1 26 = .ok (.aload_n 0, 1) := by decide +kernel
theorem dX9_client_27 : decode mX9_client.2.2.1 27 = .ok (.getfield 21, 3) := by decide +kernel
theorem dX9_client_30 : decode mX9_client.2.2.1 30 = .ok (.invokevirtual 67, 3) := by decide +kernel
theorem dX9_client_33 : decode mX9_client.2.2.1 33 = .ok (.ifCond .ne 5, 3) := by decide +kernel
theorem dX9_client_36 : decode mX9_client.2.2.1 36 = .ok (.iconst 0, 1) := by decide +kernel
theorem dX9_client_37 : decode mX9_client.2.2.1 37 = .ok (.ireturn, 1) := by decide +kernel
theorem dX9_client_38 : decode mX9_client.2.2.1 38 = .ok (.aload_n 0, 1) := by decide +kernel
theorem dX9_client_39 : decode mX9_client.2.2.1 39 = .ok (.getfield 43, 3) := by decide +kernel
theorem dX9_client_42 : decode mX9_client.2.2.1 42 = .ok (.iload_n 1, 1) := by decide +kernel
theorem dX9_client_43 : decode mX9_client.2.2.1 43 = .ok (.invokevirtual 177, 3) := by decide +kernel
theorem dX9_client_46 : decode mX9_client.2.2.1 46 = .ok (.iload_n 2, 1) := by decide +kernel
theorem dX9_client_47 : decode mX9_client.2.2.1 47 = .ok (.ifCond .eq 15, 3) := by decide +kernel
theorem dX9_client_50 : decode mX9_client.2.2.1 50 = .ok (.aload_n 0, 1) := by decide +kernel
theorem dX9_client_51 : decode mX9_client.2.2.1 51 = .ok (.getfield 43, 3) := by decide +kernel
theorem dX9_client_54 : decode mX9_client.2.2.1 54 = .ok (.iload_n 1, 1) := by decide +kernel
theorem dX9_client_55 : decode mX9_client.2.2.1 55 = .ok (.aload_n 0, 1) := by decide +kernel
theorem dX9_client_56 : decode mX9_client.2.2.1 56 = .ok (.getfield 21, 3) := by decide +kernel
theorem dX9_client_59 : decode mX9_client.2.2.1 59 = .ok (.invokevirtual 180, 3) := by decide +kernel
theorem dX9_client_62 : decode mX9_client.2.2.1 62 = .ok (.iconst 1, 1) := by decide +kernel
theorem dX9_client_63 : decode mX9_client.2.2.1 63 = .ok (.ireturn, 1) := by decide +kernel
theorem dX9_connect_0 : decode mX9_connect.2.2.1 0 = .ok (.aload_n 0, 1) := by decide +kernel
theorem dX9_connect_1 : decode mX9_connect.2.2.1 1 = .ok (.getfield 43, 3) := by decide +kernel
theorem dX9_connect_4 : decode mX9_connect.2.2.1 4 = .ok (.iload_n 1, 1) := by decide +kernel
theorem dX9_connect_5 : decode mX9_connect.2.2.1 5 = .ok (.iload_n 2, 1) := by decide +kernel
theorem dX9_connect_6 : decode mX9_connect.2.2.1 6 = .ok (.invokevirtual 184, 3) := by decide +kernel
theorem dX9_connect_9 : decode mX9_connect.2.2.1 9 = .ok (.astore_n 3, 1) := by decide +kernel
theorem dX9_connect_10 : decode mX9_connect.2.2.1 10 = .ok (.aload_n 3, 1) := by decide +kernel
theorem dX9_connect_11 : decode mX9_connect.2.2.1 11 = .ok (.ifnull 32, 3) := by decide +kernel
theorem dX9_connect_14 : decode mX9_connect.2.2.1 14 = .ok (.aload_n 3, 1) := by decide +kernel
theorem dX9_connect_15 : decode mX9_connect.2.2.1 15 = .ok (.getfield 188, 3) := by decide +kernel
theorem dX9_connect_18 : decode mX9_connect.2.2.1 18 = .ok (.ifCond .ne 25, 3) := by decide +kernel
theorem dX9_connect_21 : decode mX9_connect.2.2.1 21 = .ok (.aload_n 0, 1) := by decide +kernel
theorem dX9_connect_22 : decode mX9_connect.2.2.1 22 = .ok (.getfield 43, 3) := by decide +kernel
theorem dX9_connect_25 : decode mX9_connect.2.2.1 25 = .ok (.iload_n 1, 1) := by decide +kernel
theorem dX9_connect_26 : decode mX9_connect.2.2.1 26 = .ok (.invokevirtual 194, 3) := by decide +kernel
theorem dX9_connect_29 : decode mX9_connect.2.2.1 29 = .ok (.ifCond .eq 14, 3) := by decide +kernel
theorem dX9_connect_32 : decode mX9_connect.2.2.1 32 = .ok (.aload_n 0, 1) := by decide +kernel
theorem dX9_connect_33 : decode mX9_connect.2.2.1 33 = .ok (.getfield 43, 3) := by decide +kernel
theorem dX9_connect_36 : decode mX9_connect.2.2.1 36 = .ok (.iload_n 2, 1) := by decide +kernel
theorem dX9_connect_37 : decode mX9_connect.2.2.1 37 = .ok (.invokevirtual 194, 3) := by decide +kernel
theorem dX9_connect_40 : decode mX9_connect.2.2.1 40 = .ok (.ifCond .ne 5, 3) := by decide +kernel
theorem dX9_connect_43 : decode mX9_connect.2.2.1 43 = .ok (.iconst 0, 1) := by decide +kernel
theorem dX9_connect_44 : decode mX9_connect.2.2.1 44 = .ok (.ireturn, 1) := by decide +kernel
theorem dX9_connect_45 : decode mX9_connect.2.2.1 45 = .ok (.aload_n 0, 1) := by decide +kernel
theorem dX9_connect_46 : decode mX9_connect.2.2.1 46 = .ok (.getfield 43, 3) := by decide +kernel
theorem dX9_connect_49 : decode mX9_connect.2.2.1 49 = .ok (.iload_n 1, 1) := by decide +kernel
theorem dX9_connect_50 : decode mX9_connect.2.2.1 50 = .ok (.iload_n 2, 1) := by decide +kernel
theorem dX9_connect_51 : decode mX9_connect.2.2.1 51 = .ok (.invokevirtual 197, 3) := by decide +kernel
theorem dX9_connect_54 : decode mX9_connect.2.2.1 54 = .ok (.iconst 1, 1) := by decide +kernel
theorem dX9_connect_55 : decode mX9_connect.2.2.1 55 = .ok (.ireturn, 1) := by decide +kernel
theorem dX9_close_0 : decode mX9_close.2.2.1 0 = .ok (.aload_n 0, 1) := by decide +kernel
theorem dX9_close_1 : decode mX9_close.2.2.1 1 = .ok (.getfield 43, 3) := by decide +kernel
theorem dX9_close_4 : decode mX9_close.2.2.1 4 = .ok (.iload_n 1, 1) := by decide +kernel
theorem dX9_close_5 : decode mX9_close.2.2.1 5 = .ok (.iload_n 2, 1) := by decide +kernel
theorem dX9_close_6 : decode mX9_close.2.2.1 6 = .ok (.invokevirtual 184, 3) := by decide +kernel
theorem dX9_close_9 : decode mX9_close.2.2.1 9 = .ok (.astore_n 3, 1) := by decide +kernel
theorem dX9_close_10 : decode mX9_close.2.2.1 10 = .ok (.aload_n 3, 1) := by decide +kernel
theorem dX9_close_11 : decode mX9_close.2.2.1 11 = .ok (.ifnull 10, 3) := by decide +kernel
theorem dX9_close_14 : decode mX9_close.2.2.1 14 = .ok (.aload_n 3, 1) := by decide +kernel
theorem dX9_close_15 : decode mX9_close.2.2.1 15 = .ok (.getfield 188, 3) := by decide +kernel
theorem dX9_close_18 : decode mX9_close.2.2.1 18 = .ok (.ifCond .ne 5, 3) := by decide +kernel
theorem dX9_close_21 : decode mX9_close.2.2.1 21 = .ok (.iconst 0, 1) := by decide +kernel
theorem dX9_close_22 : decode mX9_close.2.2.1 22 = .ok (.ireturn, 1) := by decide +kernel
theorem dX9_close_23 : decode mX9_close.2.2.1 23 = .ok (.aload_n 0, 1) := by decide +kernel
theorem dX9_close_24 : decode mX9_close.2.2.1 24 = .ok (.getfield 43, 3) := by decide +kernel
theorem dX9_close_27 : decode mX9_close.2.2.1 27 = .ok (.iload_n 1, 1) := by decide +kernel
theorem dX9_close_28 : decode mX9_close.2.2.1 28 = .ok (.iload_n 2, 1) := by decide +kernel
theorem dX9_close_29 : decode mX9_close.2.2.1 29 = .ok (.iconst 0, 1) := by decide +kernel
theorem dX9_close_30 : decode mX9_close.2.2.1 30 = .ok (.invokevirtual 201, 3) := by decide +kernel
theorem dX9_close_33 : decode mX9_close.2.2.1 33 = .ok (.iconst 1, 1) := by decide +kernel
theorem dX9_close_34 : decode mX9_close.2.2.1 34 = .ok (.ireturn, 1) := by decide +kernel
theorem dX9_say_0 : decode mX9_say.2.2.1 0 = .ok (.aload_n 0, 1) := by decide +kernel
theorem dX9_say_1 : decode mX9_say.2.2.1 1 = .ok (.getfield 43, 3) := by decide +kernel
theorem dX9_say_4 : decode mX9_say.2.2.1 4 = .ok (.iload_n 1, 1) := by decide +kernel
theorem dX9_say_5 : decode mX9_say.2.2.1 5 = .ok (.iconst 4, 1) := by decide +kernel
theorem dX9_say_6 : decode mX9_say.2.2.1 6 = .ok (.invokevirtual 184, 3) := by decide +kernel
theorem dX9_say_9 : decode mX9_say.2.2.1 9 = .ok (.astore_n 2, 1) := by decide +kernel
theorem dX9_say_10 : decode mX9_say.2.2.1 10 = .ok (.aload_n 2, 1) := by decide +kernel
theorem dX9_say_11 : decode mX9_say.2.2.1 11 = .ok (.ifnull 31, 3) := by decide +kernel
theorem dX9_say_14 : decode mX9_say.2.2.1 14 = .ok (.aload_n 2, 1) := by decide +kernel
theorem dX9_say_15 : decode mX9_say.2.2.1 15 = .ok (.getfield 188, 3) := by decide +kernel
theorem dX9_say_18 : decode mX9_say.2.2.1 18 = .ok (.ifCond .eq 24, 3) := by decide +kernel
theorem dX9_say_21 : decode mX9_say.2.2.1 21 = .ok (.aload_n 2, 1) := by decide +kernel
theorem dX9_say_22 : decode mX9_say.2.2.1 22 = .ok (.getfield 205, 3) := by decide +kernel
theorem dX9_say_25 : decode mX9_say.2.2.1 25 = .ok (.aload_n 0, 1) := by decide +kernel
theorem dX9_say_26 : decode mX9_say.2.2.1 26 = .ok (.getfield 14, 3) := by decide +kernel
theorem dX9_say_29 : decode mX9_say.2.2.1 29 = .ok (.invokevirtual 67, 3) := by decide +kernel
theorem dX9_say_32 : decode mX9_say.2.2.1 32 = .ok (.invokevirtual 60, 3) := by decide +kernel
theorem dX9_say_35 : decode mX9_say.2.2.1 35 = .ok (.ifCond .eq 7, 3) := by decide +kernel
theorem dX9_say_38 : decode mX9_say.2.2.1 38 = .ok (.iconst 1, 1) := by decide +kernel
theorem dX9_say_39 : decode mX9_say.2.2.1 39 = .ok (.goto 4, 3) := by decide +kernel
theorem dX9_say_42 : decode mX9_say.2.2.1 42 = .ok (.iconst 0, 1) := by decide +kernel
theorem dX9_say_43 : decode mX9_say.2.2.1 43 = .ok (.istore_n 3, 1) := by decide +kernel
theorem dX9_say_44 : decode mX9_say.2.2.1 44 = .ok (.iload_n 3, 1) := by decide +kernel
theorem dX9_say_45 : decode mX9_say.2.2.1 45 = .ok (.ifCond .eq 22, 3) := by decide +kernel
theorem dX9_say_48 : decode mX9_say.2.2.1 48 = .ok (.aload_n 2, 1) := by decide +kernel
theorem dX9_say_49 : decode mX9_say.2.2.1 49 = .ok (.getfield 205, 3) := by decide +kernel
theorem dX9_say_52 : decode mX9_say.2.2.1 52 = .ok (.aload_n 0, 1) := by decide +kernel
theorem dX9_say_53 : decode mX9_say.2.2.1 53 = .ok (.getfield 14, 3) := by decide +kernel
theorem dX9_say_56 : decode mX9_say.2.2.1 56 = .ok (.iconst 0, 1) := by decide +kernel
theorem dX9_say_57 : decode mX9_say.2.2.1 57 = .ok (.aload_n 0, 1) := by decide +kernel
theorem dX9_say_58 : decode mX9_say.2.2.1 58 = .ok (.getfield 14, 3) := by decide +kernel
theorem dX9_say_61 : decode mX9_say.2.2.1 61 = .ok (.invokevirtual 67, 3) := by decide +kernel
theorem dX9_say_64 : decode mX9_say.2.2.1 64 = .ok (.invokevirtual 74, 3) := by decide +kernel
theorem dX9_say_67 : decode mX9_say.2.2.1 67 = .ok (.aload_n 0, 1) := by decide +kernel
theorem dX9_say_68 : decode mX9_say.2.2.1 68 = .ok (.getfield 14, 3) := by decide +kernel
theorem dX9_say_71 : decode mX9_say.2.2.1 71 = .ok (.iconst 0, 1) := by decide +kernel
theorem dX9_say_72 : decode mX9_say.2.2.1 72 = .ok (.invokevirtual 71, 3) := by decide +kernel
theorem dX9_say_75 : decode mX9_say.2.2.1 75 = .ok (.iload_n 3, 1) := by decide +kernel
theorem dX9_say_76 : decode mX9_say.2.2.1 76 = .ok (.ifCond .eq 13, 3) := by decide +kernel
theorem dX9_say_79 : decode mX9_say.2.2.1 79 = .ok (.aload_n 2, 1) := by decide +kernel
theorem dX9_say_80 : decode mX9_say.2.2.1 80 = .ok (.getfield 205, 3) := by decide +kernel
theorem dX9_say_83 : decode mX9_say.2.2.1 83 = .ok (.invokevirtual 67, 3) := by decide +kernel
theorem dX9_say_86 : decode mX9_say.2.2.1 86 = .ok (.goto 4, 3) := by decide +kernel
theorem dX9_say_89 : decode mX9_say.2.2.1 89 = .ok (.iconst (-1), 1) := by decide +kernel
theorem dX9_say_90 : decode mX9_say.2.2.1 90 = .ok (.ireturn, 1) := by decide +kernel
theorem dX9_hear_0 : decode mX9_hear.2.2.1 0 = .ok (.aload_n 0, 1) := by decide +kernel
theorem dX9_hear_1 : decode mX9_hear.2.2.1 1 = .ok (.getfield 43, 3) := by decide +kernel
theorem dX9_hear_4 : decode mX9_hear.2.2.1 4 = .ok (.iconst 4, 1) := by decide +kernel
theorem dX9_hear_5 : decode mX9_hear.2.2.1 5 = .ok (.iload_n 1, 1) := by decide +kernel
theorem dX9_hear_6 : decode mX9_hear.2.2.1 6 = .ok (.invokevirtual 184, 3) := by decide +kernel
theorem dX9_hear_9 : decode mX9_hear.2.2.1 9 = .ok (.astore_n 2, 1) := by decide +kernel
theorem dX9_hear_10 : decode mX9_hear.2.2.1 10 = .ok (.aload_n 2, 1) := by decide +kernel
theorem dX9_hear_11 : decode mX9_hear.2.2.1 11 = .ok (.ifnull 10, 3) := by decide +kernel
theorem dX9_hear_14 : decode mX9_hear.2.2.1 14 = .ok (.aload_n 2, 1) := by decide +kernel
theorem dX9_hear_15 : decode mX9_hear.2.2.1 15 = .ok (.getfield 188, 3) := by decide +kernel
theorem dX9_hear_18 : decode mX9_hear.2.2.1 18 = .ok (.ifCond .ne 5, 3) := by decide +kernel
theorem dX9_hear_21 : decode mX9_hear.2.2.1 21 = .ok (.iconst (-1), 1) := by decide +kernel
theorem dX9_hear_22 : decode mX9_hear.2.2.1 22 = .ok (.ireturn, 1) := by decide +kernel
theorem dX9_hear_23 : decode mX9_hear.2.2.1 23 = .ok (.aload_n 0, 1) := by decide +kernel
theorem dX9_hear_24 : decode mX9_hear.2.2.1 24 = .ok (.getfield 18, 3) := by decide +kernel
theorem dX9_hear_27 : decode mX9_hear.2.2.1 27 = .ok (.iconst 0, 1) := by decide +kernel
theorem dX9_hear_28 : decode mX9_hear.2.2.1 28 = .ok (.invokevirtual 71, 3) := by decide +kernel
theorem dX9_hear_31 : decode mX9_hear.2.2.1 31 = .ok (.aload_n 0, 1) := by decide +kernel
theorem dX9_hear_32 : decode mX9_hear.2.2.1 32 = .ok (.getfield 18, 3) := by decide +kernel
theorem dX9_hear_35 : decode mX9_hear.2.2.1 35 = .ok (.aload_n 2, 1) := by decide +kernel
theorem dX9_hear_36 : decode mX9_hear.2.2.1 36 = .ok (.getfield 205, 3) := by decide +kernel
theorem dX9_hear_39 : decode mX9_hear.2.2.1 39 = .ok (.iconst 0, 1) := by decide +kernel
theorem dX9_hear_40 : decode mX9_hear.2.2.1 40 = .ok (.aload_n 2, 1) := by decide +kernel
theorem dX9_hear_41 : decode mX9_hear.2.2.1 41 = .ok (.getfield 205, 3) := by decide +kernel
theorem dX9_hear_44 : decode mX9_hear.2.2.1 44 = .ok (.invokevirtual 67, 3) := by decide +kernel
theorem dX9_hear_47 : decode mX9_hear.2.2.1 47 = .ok (.invokevirtual 74, 3) := by decide +kernel
theorem dX9_hear_50 : decode mX9_hear.2.2.1 50 = .ok (.aload_n 2, 1) := by decide +kernel
theorem dX9_hear_51 : decode mX9_hear.2.2.1 51 = .ok (.getfield 205, 3) := by decide +kernel
theorem dX9_hear_54 : decode mX9_hear.2.2.1 54 = .ok (.iconst 0, 1) := by decide +kernel
theorem dX9_hear_55 : decode mX9_hear.2.2.1 55 = .ok (.invokevirtual 71, 3) := by decide +kernel
theorem dX9_hear_58 : decode mX9_hear.2.2.1 58 = .ok (.aload_n 0, 1) := by decide +kernel
theorem dX9_hear_59 : decode mX9_hear.2.2.1 59 = .ok (.getfield 18, 3) := by decide +kernel
theorem dX9_hear_62 : decode mX9_hear.2.2.1 62 = .ok (.invokevirtual 67, 3) := by decide +kernel
theorem dX9_hear_65 : decode mX9_hear.2.2.1 65 = .ok (.ireturn, 1) := by decide +kernel
theorem dX9_meddle_0 : decode mX9_meddle.2.2.1 0 = .ok (.aload_n 0, 1) := by decide +kernel
theorem dX9_meddle_1 : decode mX9_meddle.2.2.1 1 = .ok (.getfield 43, 3) := by decide +kernel
theorem dX9_meddle_4 : decode mX9_meddle.2.2.1 4 = .ok (.iload_n 2, 1) := by decide +kernel
theorem dX9_meddle_5 : decode mX9_meddle.2.2.1 5 = .ok (.iload_n 1, 1) := by decide +kernel
theorem dX9_meddle_6 : decode mX9_meddle.2.2.1 6 = .ok (.invokevirtual 184, 3) := by decide +kernel
theorem dX9_meddle_9 : decode mX9_meddle.2.2.1 9 = .ok (.astore 5, 2) := by decide +kernel
theorem dX9_meddle_11 : decode mX9_meddle.2.2.1 11 = .ok (.aload 5, 2) := by decide +kernel
theorem dX9_meddle_13 : decode mX9_meddle.2.2.1 13 = .ok (.ifnull 21, 3) := by decide +kernel
theorem dX9_meddle_16 : decode mX9_meddle.2.2.1 16 = .ok (.aload 5, 2) := by decide +kernel
theorem dX9_meddle_18 : decode mX9_meddle.2.2.1 18 = .ok (.getfield 205, 3) := by decide +kernel
theorem dX9_meddle_21 : decode mX9_meddle.2.2.1 21 = .ok (.iload_n 3, 1) := by decide +kernel
theorem dX9_meddle_22 : decode mX9_meddle.2.2.1 22 = .ok (.iload 4, 2) := by decide +kernel
theorem dX9_meddle_24 : decode mX9_meddle.2.2.1 24 = .ok (.invokevirtual 78, 3) := by decide +kernel
theorem dX9_meddle_27 : decode mX9_meddle.2.2.1 27 = .ok (.ifCond .eq 7, 3) := by decide +kernel
theorem dX9_meddle_30 : decode mX9_meddle.2.2.1 30 = .ok (.iconst 1, 1) := by decide +kernel
theorem dX9_meddle_31 : decode mX9_meddle.2.2.1 31 = .ok (.goto 4, 3) := by decide +kernel
theorem dX9_meddle_34 : decode mX9_meddle.2.2.1 34 = .ok (.iconst 0, 1) := by decide +kernel
theorem dX9_meddle_35 : decode mX9_meddle.2.2.1 35 = .ok (.ireturn, 1) := by decide +kernel
theorem dX9_act_0 : decode mX9_act.2.2.1 0 = .ok (.aload_n 0, 1) := by decide +kernel
theorem dX9_act_1 : decode mX9_act.2.2.1 1 = .ok (.getfield 52, 3) := by decide +kernel
theorem dX9_act_4 : decode mX9_act.2.2.1 4 = .ok (.iload_n 1, 1) := by decide +kernel
theorem dX9_act_5 : decode mX9_act.2.2.1 5 = .ok (.iload_n 2, 1) := by decide +kernel
theorem dX9_act_6 : decode mX9_act.2.2.1 6 = .ok (.invokevirtual 208, 3) := by decide +kernel
theorem dX9_act_9 : decode mX9_act.2.2.1 9 = .ok (.ireturn, 1) := by decide +kernel
theorem dX9_pump_0 : decode mX9_pump.2.2.1 0 = .ok (.iload_n 1, 1) := by decide +kernel
theorem dX9_pump_1 : decode mX9_pump.2.2.1 1 = .ok (.iconst 1, 1) := by decide +kernel
theorem dX9_pump_2 : decode mX9_pump.2.2.1 2 = .ok (.sipush 2000, 3) := by decide +kernel
theorem dX9_pump_5 : decode mX9_pump.2.2.1 5 = .ok (.invokestatic 147, 3) := by decide +kernel
theorem dX9_pump_8 : decode mX9_pump.2.2.1 8 = .ok (.ifCond .ne 5, 3) := by decide +kernel
theorem dX9_pump_11 : decode mX9_pump.2.2.1 11 = .ok (.iconst (-1), 1) := by decide +kernel
theorem dX9_pump_12 : decode mX9_pump.2.2.1 12 = .ok (.ireturn, 1) := by decide +kernel
theorem dX9_pump_13 : decode mX9_pump.2.2.1 13 = .ok (.iconst 0, 1) := by decide +kernel
theorem dX9_pump_14 : decode mX9_pump.2.2.1 14 = .ok (.istore_n 2, 1) := by decide +kernel
theorem dX9_pump_15 : decode mX9_pump.2.2.1 15 = .ok (.iconst 0, 1) := by decide +kernel
theorem dX9_pump_16 : decode mX9_pump.2.2.1 16 = .ok (.istore_n 3, 1) := by decide +kernel
theorem dX9_pump_17 : decode mX9_pump.2.2.1 17 = .ok (.iconst 0, 1) := by decide +kernel
theorem dX9_pump_18 : decode mX9_pump.2.2.1 18 = .ok (.istore 4, 2) := by decide +kernel
theorem dX9_pump_20 : decode mX9_pump.2.2.1 20 = .ok (.iload 4, 2) := by decide +kernel
theorem dX9_pump_22 : decode mX9_pump.2.2.1 22 = .ok (.iload_n 1, 1) := by decide +kernel
theorem dX9_pump_23 : decode mX9_pump.2.2.1 23 = .ok (.if_icmp .ge 76, 3) := by decide +kernel
theorem dX9_pump_26 : decode mX9_pump.2.2.1 26 = .ok (.iload_n 3, 1) := by decide +kernel
theorem dX9_pump_27 : decode mX9_pump.2.2.1 27 = .ok (.ifCond .ne 72, 3) := by decide +kernel
theorem dX9_pump_30 : decode mX9_pump.2.2.1 30 = .ok (.iload_n 2, 1) := by decide +kernel
theorem dX9_pump_31 : decode mX9_pump.2.2.1 31 = .ok (.iload_n 1, 1) := by decide +kernel
theorem dX9_pump_32 : decode mX9_pump.2.2.1 32 = .ok (.if_icmp .ge 67, 3) := by decide +kernel
theorem dX9_pump_35 : decode mX9_pump.2.2.1 35 = .ok (.iload_n 2, 1) := by decide +kernel
theorem dX9_pump_36 : decode mX9_pump.2.2.1 36 = .ok (.istore 5, 2) := by decide +kernel
theorem dX9_pump_38 : decode mX9_pump.2.2.1 38 = .ok (.iconst 0, 1) := by decide +kernel
theorem dX9_pump_39 : decode mX9_pump.2.2.1 39 = .ok (.istore 6, 2) := by decide +kernel
theorem dX9_pump_41 : decode mX9_pump.2.2.1 41 = .ok (.iload 6, 2) := by decide +kernel
theorem dX9_pump_43 : decode mX9_pump.2.2.1 43 = .ok (.bipush 20, 2) := by decide +kernel
theorem dX9_pump_45 : decode mX9_pump.2.2.1 45 = .ok (.if_icmp .ge 36, 3) := by decide +kernel
theorem dX9_pump_48 : decode mX9_pump.2.2.1 48 = .ok (.iload_n 2, 1) := by decide +kernel
theorem dX9_pump_49 : decode mX9_pump.2.2.1 49 = .ok (.iload_n 1, 1) := by decide +kernel
theorem dX9_pump_50 : decode mX9_pump.2.2.1 50 = .ok (.if_icmp .ge 31, 3) := by decide +kernel
theorem dX9_pump_53 : decode mX9_pump.2.2.1 53 = .ok (.aload_n 0, 1) := by decide +kernel
theorem dX9_pump_54 : decode mX9_pump.2.2.1 54 = .ok (.getfield 52, 3) := by decide +kernel
theorem dX9_pump_57 : decode mX9_pump.2.2.1 57 = .ok (.iload 6, 2) := by decide +kernel
theorem dX9_pump_59 : decode mX9_pump.2.2.1 59 = .ok (.iconst 5, 1) := by decide +kernel
theorem dX9_pump_60 : decode mX9_pump.2.2.1 60 = .ok (.idiv, 1) := by decide +kernel
theorem dX9_pump_61 : decode mX9_pump.2.2.1 61 = .ok (.iload 6, 2) := by decide +kernel
theorem dX9_pump_63 : decode mX9_pump.2.2.1 63 = .ok (.iconst 5, 1) := by decide +kernel
theorem dX9_pump_64 : decode mX9_pump.2.2.1 64 = .ok (.irem, 1) := by decide +kernel
theorem dX9_pump_65 : decode mX9_pump.2.2.1 65 = .ok (.invokevirtual 208, 3) := by decide +kernel
theorem dX9_pump_68 : decode mX9_pump.2.2.1 68 = .ok (.iconst (-1), 1) := by decide +kernel
theorem dX9_pump_69 : decode mX9_pump.2.2.1 69 = .ok (.if_icmp .eq 6, 3) := by decide +kernel
theorem dX9_pump_72 : decode mX9_pump.2.2.1 72 = .ok (.iinc 2 1, 3) := by decide +kernel
theorem dX9_pump_75 : decode mX9_pump.2.2.1 75 = .ok (.iinc 6 1, 3) := by decide +kernel
theorem dX9_pump_78 : decode mX9_pump.2.2.1 78 = .ok (.goto (-37), 3) := by decide +kernel
theorem dX9_pump_81 : decode mX9_pump.2.2.1 81 = .ok (.iload_n 2, 1) := by decide +kernel
theorem dX9_pump_82 : decode mX9_pump.2.2.1 82 = .ok (.iload 5, 2) := by decide +kernel
theorem dX9_pump_84 : decode mX9_pump.2.2.1 84 = .ok (.if_icmp .ne 7, 3) := by decide +kernel
theorem dX9_pump_87 : decode mX9_pump.2.2.1 87 = .ok (.iconst 1, 1) := by decide +kernel
theorem dX9_pump_88 : decode mX9_pump.2.2.1 88 = .ok (.goto 4, 3) := by decide +kernel
theorem dX9_pump_91 : decode mX9_pump.2.2.1 91 = .ok (.iconst 0, 1) := by decide +kernel
theorem dX9_pump_92 : decode mX9_pump.2.2.1 92 = .ok (.istore_n 3, 1) := by decide +kernel
theorem dX9_pump_93 : decode mX9_pump.2.2.1 93 = .ok (.iinc 4 1, 3) := by decide +kernel
theorem dX9_pump_96 : decode mX9_pump.2.2.1 96 = .ok (.goto (-76), 3) := by decide +kernel
theorem dX9_pump_99 : decode mX9_pump.2.2.1 99 = .ok (.iload_n 2, 1) := by decide +kernel
theorem dX9_pump_100 : decode mX9_pump.2.2.1 100 = .ok (.ireturn, 1) := by decide +kernel
theorem dX9_known_0 : decode mX9_known.2.2.1 0 = .ok (.aload_n 0, 1) := by decide +kernel
theorem dX9_known_1 : decode mX9_known.2.2.1 1 = .ok (.getfield 43, 3) := by decide +kernel
theorem dX9_known_4 : decode mX9_known.2.2.1 4 = .ok (.iload_n 1, 1) := by decide +kernel
theorem dX9_known_5 : decode mX9_known.2.2.1 5 = .ok (.iload_n 2, 1) := by decide +kernel
theorem dX9_known_6 : decode mX9_known.2.2.1 6 = .ok (.invokevirtual 184, 3) := by decide +kernel
theorem dX9_known_9 : decode mX9_known.2.2.1 9 = .ok (.astore 4, 2) := by decide +kernel
theorem dX9_known_11 : decode mX9_known.2.2.1 11 = .ok (.aload 4, 2) := by decide +kernel
theorem dX9_known_13 : decode mX9_known.2.2.1 13 = .ok (.ifnull 14, 3) := by decide +kernel
theorem dX9_known_16 : decode mX9_known.2.2.1 16 = .ok (.aload_n 0, 1) := by decide +kernel
theorem dX9_known_17 : decode mX9_known.2.2.1 17 = .ok (.getfield 43, 3) := by decide +kernel
theorem dX9_known_20 : decode mX9_known.2.2.1 20 = .ok (.iload_n 1, 1) := by decide +kernel
theorem dX9_known_21 : decode mX9_known.2.2.1 21 = .ok (.invokevirtual 211, 3) := by decide +kernel
theorem dX9_known_24 : decode mX9_known.2.2.1 24 = .ok (.ifnonnull 5, 3) := by decide +kernel
theorem dX9_known_27 : decode mX9_known.2.2.1 27 = .ok (.iconst (-1), 1) := by decide +kernel
theorem dX9_known_28 : decode mX9_known.2.2.1 28 = .ok (.ireturn, 1) := by decide +kernel
theorem dX9_known_29 : decode mX9_known.2.2.1 29 = .ok (.iload_n 3, 1) := by decide +kernel
theorem dX9_known_30 : decode mX9_known.2.2.1 30 = .ok (.tableswitch 168 0 9 #[54, 68, 82, 96, 110, 124, 138, 147, 153, 162], 54) := by decide +kernel
theorem dX9_known_84 : decode mX9_known.2.2.1 84 = .ok (.aload 4, 2) := by decide +kernel
theorem dX9_known_86 : decode mX9_known.2.2.1 86 = .ok (.getfield 188, 3) := by decide +kernel
theorem dX9_known_89 : decode mX9_known.2.2.1 89 = .ok (.ifCond .eq 7, 3) := by decide +kernel
theorem dX9_known_92 : decode mX9_known.2.2.1 92 = .ok (.iconst 1, 1) := by decide +kernel
theorem dX9_known_93 : decode mX9_known.2.2.1 93 = .ok (.goto 4, 3) := by decide +kernel
theorem dX9_known_96 : decode mX9_known.2.2.1 96 = .ok (.iconst 0, 1) := by decide +kernel
theorem dX9_known_97 : decode mX9_known.2.2.1 97 = .ok (.ireturn, 1) := by decide +kernel
theorem dX9_known_98 : decode mX9_known.2.2.1 98 = .ok (.aload 4, 2) := by decide +kernel
theorem dX9_known_100 : decode mX9_known.2.2.1 100 = .ok (.getfield 215, 3) := by decide +kernel
theorem dX9_known_103 : decode mX9_known.2.2.1 103 = .ok (.ifCond .eq 7, 3) := by decide +kernel
theorem dX9_known_106 : decode mX9_known.2.2.1 106 = .ok (.iconst 1, 1) := by decide +kernel
theorem dX9_known_107 : decode mX9_known.2.2.1 107 = .ok (.goto 4, 3) := by decide +kernel
theorem dX9_known_110 : decode mX9_known.2.2.1 110 = .ok (.iconst 0, 1) := by decide +kernel
theorem dX9_known_111 : decode mX9_known.2.2.1 111 = .ok (.ireturn, 1) := by decide +kernel
theorem dX9_known_112 : decode mX9_known.2.2.1 112 = .ok (.aload 4, 2) := by decide +kernel
theorem dX9_known_114 : decode mX9_known.2.2.1 114 = .ok (.getfield 218, 3) := by decide +kernel
theorem dX9_known_117 : decode mX9_known.2.2.1 117 = .ok (.ifCond .eq 7, 3) := by decide +kernel
theorem dX9_known_120 : decode mX9_known.2.2.1 120 = .ok (.iconst 1, 1) := by decide +kernel
theorem dX9_known_121 : decode mX9_known.2.2.1 121 = .ok (.goto 4, 3) := by decide +kernel
theorem dX9_known_124 : decode mX9_known.2.2.1 124 = .ok (.iconst 0, 1) := by decide +kernel
theorem dX9_known_125 : decode mX9_known.2.2.1 125 = .ok (.ireturn, 1) := by decide +kernel
theorem dX9_known_126 : decode mX9_known.2.2.1 126 = .ok (.aload 4, 2) := by decide +kernel
theorem dX9_known_128 : decode mX9_known.2.2.1 128 = .ok (.getfield 221, 3) := by decide +kernel
theorem dX9_known_131 : decode mX9_known.2.2.1 131 = .ok (.ifCond .eq 7, 3) := by decide +kernel
theorem dX9_known_134 : decode mX9_known.2.2.1 134 = .ok (.iconst 1, 1) := by decide +kernel
theorem dX9_known_135 : decode mX9_known.2.2.1 135 = .ok (.goto 4, 3) := by decide +kernel
theorem dX9_known_138 : decode mX9_known.2.2.1 138 = .ok (.iconst 0, 1) := by decide +kernel
theorem dX9_known_139 : decode mX9_known.2.2.1 139 = .ok (.ireturn, 1) := by decide +kernel
theorem dX9_known_140 : decode mX9_known.2.2.1 140 = .ok (.aload 4, 2) := by decide +kernel
theorem dX9_known_142 : decode mX9_known.2.2.1 142 = .ok (.getfield 224, 3) := by decide +kernel
theorem dX9_known_145 : decode mX9_known.2.2.1 145 = .ok (.ifCond .eq 7, 3) := by decide +kernel
theorem dX9_known_148 : decode mX9_known.2.2.1 148 = .ok (.iconst 1, 1) := by decide +kernel
theorem dX9_known_149 : decode mX9_known.2.2.1 149 = .ok (.goto 4, 3) := by decide +kernel
theorem dX9_known_152 : decode mX9_known.2.2.1 152 = .ok (.iconst 0, 1) := by decide +kernel
theorem dX9_known_153 : decode mX9_known.2.2.1 153 = .ok (.ireturn, 1) := by decide +kernel
theorem dX9_known_154 : decode mX9_known.2.2.1 154 = .ok (.aload 4, 2) := by decide +kernel
theorem dX9_known_156 : decode mX9_known.2.2.1 156 = .ok (.getfield 227, 3) := by decide +kernel
theorem dX9_known_159 : decode mX9_known.2.2.1 159 = .ok (.ifCond .eq 7, 3) := by decide +kernel
theorem dX9_known_162 : decode mX9_known.2.2.1 162 = .ok (.iconst 1, 1) := by decide +kernel
theorem dX9_known_163 : decode mX9_known.2.2.1 163 = .ok (.goto 4, 3) := by decide +kernel
theorem dX9_known_166 : decode mX9_known.2.2.1 166 = .ok (.iconst 0, 1) := by decide +kernel
theorem dX9_known_167 : decode mX9_known.2.2.1 167 = .ok (.ireturn, 1) := by decide +kernel
theorem dX9_known_168 : decode mX9_known.2.2.1 168 = .ok (.aload 4, 2) := by decide +kernel
theorem dX9_known_170 : decode mX9_known.2.2.1 170 = .ok (.getfield 230, 3) := by decide +kernel
theorem dX9_known_173 : decode mX9_known.2.2.1 173 = .ok (.invokestatic 234, 3) := by decide +kernel
theorem dX9_known_176 : decode mX9_known.2.2.1 176 = .ok (.ireturn, 1) := by decide +kernel
theorem dX9_known_177 : decode mX9_known.2.2.1 177 = .ok (.aload 4, 2) := by decide +kernel
theorem dX9_known_179 : decode mX9_known.2.2.1 179 = .ok (.getfield 240, 3) := by decide +kernel
theorem dX9_known_182 : decode mX9_known.2.2.1 182 = .ok (.ireturn, 1) := by decide +kernel
theorem dX9_known_183 : decode mX9_known.2.2.1 183 = .ok (.aload 4, 2) := by decide +kernel
theorem dX9_known_185 : decode mX9_known.2.2.1 185 = .ok (.getfield 205, 3) := by decide +kernel
theorem dX9_known_188 : decode mX9_known.2.2.1 188 = .ok (.invokevirtual 67, 3) := by decide +kernel
theorem dX9_known_191 : decode mX9_known.2.2.1 191 = .ok (.ireturn, 1) := by decide +kernel
theorem dX9_known_192 : decode mX9_known.2.2.1 192 = .ok (.aload 4, 2) := by decide +kernel
theorem dX9_known_194 : decode mX9_known.2.2.1 194 = .ok (.getfield 243, 3) := by decide +kernel
theorem dX9_known_197 : decode mX9_known.2.2.1 197 = .ok (.ireturn, 1) := by decide +kernel
theorem dX9_known_198 : decode mX9_known.2.2.1 198 = .ok (.iconst (-1), 1) := by decide +kernel
theorem dX9_known_199 : decode mX9_known.2.2.1 199 = .ok (.ireturn, 1) := by decide +kernel
theorem dX9_piece_0 : decode mX9_piece.2.2.1 0 = .ok (.aload_n 0, 1) := by decide +kernel
theorem dX9_piece_1 : decode mX9_piece.2.2.1 1 = .ok (.getfield 43, 3) := by decide +kernel
theorem dX9_piece_4 : decode mX9_piece.2.2.1 4 = .ok (.iload_n 1, 1) := by decide +kernel
theorem dX9_piece_5 : decode mX9_piece.2.2.1 5 = .ok (.invokevirtual 211, 3) := by decide +kernel
theorem dX9_piece_8 : decode mX9_piece.2.2.1 8 = .ok (.astore_n 3, 1) := by decide +kernel
theorem dX9_piece_9 : decode mX9_piece.2.2.1 9 = .ok (.aload_n 3, 1) := by decide +kernel
theorem dX9_piece_10 : decode mX9_piece.2.2.1 10 = .ok (.ifnull 18, 3) := by decide +kernel
theorem dX9_piece_13 : decode mX9_piece.2.2.1 13 = .ok (.aload_n 0, 1) := by decide +kernel
theorem dX9_piece_14 : decode mX9_piece.2.2.1 14 = .ok (.getfield 43, 3) := by decide +kernel
theorem dX9_piece_17 : decode mX9_piece.2.2.1 17 = .ok (.getfield 103, 3) := by decide +kernel
theorem dX9_piece_20 : decode mX9_piece.2.2.1 20 = .ok (.iload_n 2, 1) := by decide +kernel
theorem dX9_piece_21 : decode mX9_piece.2.2.1 21 = .ok (.i2l, 1) := by decide +kernel
theorem dX9_piece_22 : decode mX9_piece.2.2.1 22 = .ok (.invokevirtual 246, 3) := by decide +kernel
theorem dX9_piece_25 : decode mX9_piece.2.2.1 25 = .ok (.ifCond .ne 5, 3) := by decide +kernel
theorem dX9_piece_28 : decode mX9_piece.2.2.1 28 = .ok (.iconst (-1), 1) := by decide +kernel
theorem dX9_piece_29 : decode mX9_piece.2.2.1 29 = .ok (.ireturn, 1) := by decide +kernel
theorem dX9_piece_30 : decode mX9_piece.2.2.1 30 = .ok (.aload_n 3, 1) := by decide +kernel
theorem dX9_piece_31 : decode mX9_piece.2.2.1 31 = .ok (.iload_n 2, 1) := by decide +kernel
theorem dX9_piece_32 : decode mX9_piece.2.2.1 32 = .ok (.invokevirtual 250, 3) := by decide +kernel
theorem dX9_piece_35 : decode mX9_piece.2.2.1 35 = .ok (.ifCond .eq 5, 3) := by decide +kernel
theorem dX9_piece_38 : decode mX9_piece.2.2.1 38 = .ok (.iconst 2, 1) := by decide +kernel
theorem dX9_piece_39 : decode mX9_piece.2.2.1 39 = .ok (.ireturn, 1) := by decide +kernel
theorem dX9_piece_40 : decode mX9_piece.2.2.1 40 = .ok (.aload_n 3, 1) := by decide +kernel
theorem dX9_piece_41 : decode mX9_piece.2.2.1 41 = .ok (.getfield 255, 3) := by decide +kernel
theorem dX9_piece_44 : decode mX9_piece.2.2.1 44 = .ok (.iload_n 2, 1) := by decide +kernel
theorem dX9_piece_45 : decode mX9_piece.2.2.1 45 = .ok (.iaload, 1) := by decide +kernel
theorem dX9_piece_46 : decode mX9_piece.2.2.1 46 = .ok (.ifCond .eq 7, 3) := by decide +kernel
theorem dX9_piece_49 : decode mX9_piece.2.2.1 49 = .ok (.iconst 1, 1) := by decide +kernel
theorem dX9_piece_50 : decode mX9_piece.2.2.1 50 = .ok (.goto 4, 3) := by decide +kernel
theorem dX9_piece_53 : decode mX9_piece.2.2.1 53 = .ok (.iconst 0, 1) := by decide +kernel
theorem dX9_piece_54 : decode mX9_piece.2.2.1 54 = .ok (.ireturn, 1) := by decide +kernel
theorem dX9_told_0 : decode mX9_told.2.2.1 0 = .ok (.aload_n 0, 1) := by decide +kernel
theorem dX9_told_1 : decode mX9_told.2.2.1 1 = .ok (.getfield 43, 3) := by decide +kernel
theorem dX9_told_4 : decode mX9_told.2.2.1 4 = .ok (.iload_n 1, 1) := by decide +kernel
theorem dX9_told_5 : decode mX9_told.2.2.1 5 = .ok (.iload_n 2, 1) := by decide +kernel
theorem dX9_told_6 : decode mX9_told.2.2.1 6 = .ok (.invokevirtual 184, 3) := by decide +kernel
theorem dX9_told_9 : decode mX9_told.2.2.1 9 = .ok (.astore 4, 2) := by decide +kernel
theorem dX9_told_11 : decode mX9_told.2.2.1 11 = .ok (.aload 4, 2) := by decide +kernel
theorem dX9_told_13 : decode mX9_told.2.2.1 13 = .ok (.ifnull 37, 3) := by decide +kernel
theorem dX9_told_16 : decode mX9_told.2.2.1 16 = .ok (.aload_n 0, 1) := by decide +kernel
theorem dX9_told_17 : decode mX9_told.2.2.1 17 = .ok (.getfield 43, 3) := by decide +kernel
theorem dX9_told_20 : decode mX9_told.2.2.1 20 = .ok (.iload_n 1, 1) := by decide +kernel
theorem dX9_told_21 : decode mX9_told.2.2.1 21 = .ok (.invokevirtual 211, 3) := by decide +kernel
theorem dX9_told_24 : decode mX9_told.2.2.1 24 = .ok (.ifnull 26, 3) := by decide +kernel
theorem dX9_told_27 : decode mX9_told.2.2.1 27 = .ok (.aload 4, 2) := by decide +kernel
theorem dX9_told_29 : decode mX9_told.2.2.1 29 = .ok (.getfield 188, 3) := by decide +kernel
theorem dX9_told_32 : decode mX9_told.2.2.1 32 = .ok (.ifCond .eq 18, 3) := by decide +kernel
theorem dX9_told_35 : decode mX9_told.2.2.1 35 = .ok (.aload_n 0, 1) := by decide +kernel
theorem dX9_told_36 : decode mX9_told.2.2.1 36 = .ok (.getfield 43, 3) := by decide +kernel
theorem dX9_told_39 : decode mX9_told.2.2.1 39 = .ok (.getfield 103, 3) := by decide +kernel
theorem dX9_told_42 : decode mX9_told.2.2.1 42 = .ok (.iload_n 3, 1) := by decide +kernel
theorem dX9_told_43 : decode mX9_told.2.2.1 43 = .ok (.i2l, 1) := by decide +kernel
theorem dX9_told_44 : decode mX9_told.2.2.1 44 = .ok (.invokevirtual 246, 3) := by decide +kernel
theorem dX9_told_47 : decode mX9_told.2.2.1 47 = .ok (.ifCond .ne 5, 3) := by decide +kernel
theorem dX9_told_50 : decode mX9_told.2.2.1 50 = .ok (.iconst (-1), 1) := by decide +kernel
theorem dX9_told_51 : decode mX9_told.2.2.1 51 = .ok (.ireturn, 1) := by decide +kernel
theorem dX9_told_52 : decode mX9_told.2.2.1 52 = .ok (.aload 4, 2) := by decide +kernel
theorem dX9_told_54 : decode mX9_told.2.2.1 54 = .ok (.iload_n 3, 1) := by decide +kernel
theorem dX9_told_55 : decode mX9_told.2.2.1 55 = .ok (.invokevirtual 258, 3) := by decide +kernel
theorem dX9_told_58 : decode mX9_told.2.2.1 58 = .ok (.ifCond .eq 7, 3) := by decide +kernel
theorem dX9_told_61 : decode mX9_told.2.2.1 61 = .ok (.iconst 1, 1) := by decide +kernel
theorem dX9_told_62 : decode mX9_told.2.2.1 62 = .ok (.goto 4, 3) := by decide +kernel
theorem dX9_told_65 : decode mX9_told.2.2.1 65 = .ok (.iconst 0, 1) := by decide +kernel
theorem dX9_told_66 : decode mX9_told.2.2.1 66 = .ok (.ireturn, 1) := by decide +kernel
theorem dX9_disk_0 : decode mX9_disk.2.2.1 0 = .ok (.aload_n 0, 1) := by decide +kernel
theorem dX9_disk_1 : decode mX9_disk.2.2.1 1 = .ok (.getfield 43, 3) := by decide +kernel
theorem dX9_disk_4 : decode mX9_disk.2.2.1 4 = .ok (.iload_n 1, 1) := by decide +kernel
theorem dX9_disk_5 : decode mX9_disk.2.2.1 5 = .ok (.invokevirtual 211, 3) := by decide +kernel
theorem dX9_disk_8 : decode mX9_disk.2.2.1 8 = .ok (.astore_n 3, 1) := by decide +kernel
theorem dX9_disk_9 : decode mX9_disk.2.2.1 9 = .ok (.aload_n 3, 1) := by decide +kernel
theorem dX9_disk_10 : decode mX9_disk.2.2.1 10 = .ok (.ifnonnull 7, 3) := by decide +kernel
theorem dX9_disk_13 : decode mX9_disk.2.2.1 13 = .ok (.iconst (-1), 1) := by decide +kernel
theorem dX9_disk_14 : decode mX9_disk.2.2.1 14 = .ok (.goto 11, 3) := by decide +kernel
theorem dX9_disk_17 : decode mX9_disk.2.2.1 17 = .ok (.aload_n 3, 1) := by decide +kernel
theorem dX9_disk_18 : decode mX9_disk.2.2.1 18 = .ok (.getfield 261, 3) := by decide +kernel
theorem dX9_disk_21 : decode mX9_disk.2.2.1 21 = .ok (.iload_n 2, 1) := by decide +kernel
theorem dX9_disk_22 : decode mX9_disk.2.2.1 22 = .ok (.invokevirtual 82, 3) := by decide +kernel
theorem dX9_disk_25 : decode mX9_disk.2.2.1 25 = .ok (.ireturn, 1) := by decide +kernel
theorem dX9_count_0 : decode mX9_count.2.2.1 0 = .ok (.aload_n 0, 1) := by decide +kernel
theorem dX9_count_1 : decode mX9_count.2.2.1 1 = .ok (.getfield 43, 3) := by decide +kernel
theorem dX9_count_4 : decode mX9_count.2.2.1 4 = .ok (.iload_n 1, 1) := by decide +kernel
theorem dX9_count_5 : decode mX9_count.2.2.1 5 = .ok (.invokevirtual 211, 3) := by decide +kernel
theorem dX9_count_8 : decode mX9_count.2.2.1 8 = .ok (.astore_n 3, 1) := by decide +kernel
theorem dX9_count_9 : decode mX9_count.2.2.1 9 = .ok (.aload_n 3, 1) := by decide +kernel
theorem dX9_count_10 : decode mX9_count.2.2.1 10 = .ok (.ifnonnull 5, 3) := by decide +kernel
theorem dX9_count_13 : decode mX9_count.2.2.1 13 = .ok (.iconst (-1), 1) := by decide +kernel
theorem dX9_count_14 : decode mX9_count.2.2.1 14 = .ok (.ireturn, 1) := by decide +kernel
theorem dX9_count_15 : decode mX9_count.2.2.1 15 = .ok (.iload_n 2, 1) := by decide +kernel
theorem dX9_count_16 : decode mX9_count.2.2.1 16 = .ok (.tableswitch 64 0 4 #[36, 44, 49, 54, 59], 36) := by decide +kernel
theorem dX9_count_52 : decode mX9_count.2.2.1 52 = .ok (.aload_n 3, 1) := by decide +kernel
theorem dX9_count_53 : decode mX9_count.2.2.1 53 = .ok (.getfield 264, 3) := by decide +kernel
theorem dX9_count_56 : decode mX9_count.2.2.1 56 = .ok (.invokestatic 234, 3) := by decide +kernel
theorem dX9_count_59 : decode mX9_count.2.2.1 59 = .ok (.ireturn, 1) := by decide +kernel
theorem dX9_count_60 : decode mX9_count.2.2.1 60 = .ok (.aload_n 3, 1) := by decide +kernel
theorem dX9_count_61 : decode mX9_count.2.2.1 61 = .ok (.getfield 265, 3) := by decide +kernel
theorem dX9_count_64 : decode mX9_count.2.2.1 64 = .ok (.ireturn, 1) := by decide +kernel
theorem dX9_count_65 : decode mX9_count.2.2.1 65 = .ok (.aload_n 3, 1) := by decide +kernel
theorem dX9_count_66 : decode mX9_count.2.2.1 66 = .ok (.getfield 268, 3) := by decide +kernel
theorem dX9_count_69 : decode mX9_count.2.2.1 69 = .ok (.ireturn, 1) := by decide +kernel
theorem dX9_count_70 : decode mX9_count.2.2.1 70 = .ok (.aload_n 3, 1) := by decide +kernel
theorem dX9_count_71 : decode mX9_count.2.2.1 71 = .ok (.getfield 271, 3) := by decide +kernel
theorem dX9_count_74 : decode mX9_count.2.2.1 74 = .ok (.ireturn, 1) := by decide +kernel
theorem dX9_count_75 : decode mX9_count.2.2.1 75 = .ok (.aload_n 3, 1) := by decide +kernel
theorem dX9_count_76 : decode mX9_count.2.2.1 76 = .ok (.getfield 274, 3) := by decide +kernel
theorem dX9_count_79 : decode mX9_count.2.2.1 79 = .ok (.ireturn, 1) := by decide +kernel
theorem dX9_count_80 : decode mX9_count.2.2.1 80 = .ok (.iconst (-1), 1) := by decide +kernel
theorem dX9_count_81 : decode mX9_count.2.2.1 81 = .ok (.ireturn, 1) := by decide +kernel
theorem dX9_isWithin_0 : decode mX9_isWithin.2.2.1 0 = .ok (.iload_n 0, 1) := by decide +kernel
theorem dX9_isWithin_1 : decode mX9_isWithin.2.2.1 1 = .ok (.iload_n 1, 1) := by decide +kernel
theorem dX9_isWithin_2 : decode mX9_isWithin.2.2.1 2 = .ok (.if_icmp .lt 12, 3) := by decide +kernel
theorem dX9_isWithin_5 : decode mX9_isWithin.2.2.1 5 = .ok (.iload_n 0, 1) := by decide +kernel
theorem dX9_isWithin_6 : decode mX9_isWithin.2.2.1 6 = .ok (.iload_n 2, 1) := by decide +kernel
theorem dX9_isWithin_7 : decode mX9_isWithin.2.2.1 7 = .ok (.if_icmp .gt 7, 3) := by decide +kernel
theorem dX9_isWithin_10 : decode mX9_isWithin.2.2.1 10 = .ok (.iconst 1, 1) := by decide +kernel
theorem dX9_isWithin_11 : decode mX9_isWithin.2.2.1 11 = .ok (.goto 4, 3) := by decide +kernel
theorem dX9_isWithin_14 : decode mX9_isWithin.2.2.1 14 = .ok (.iconst 0, 1) := by decide +kernel
theorem dX9_isWithin_15 : decode mX9_isWithin.2.2.1 15 = .ok (.ireturn, 1) := by decide +kernel
theorem dX9_countParts_0 : decode mX9_countParts.2.2.1 0 = .ok (.iload_n 1, 1) := by decide +kernel
theorem dX9_countParts_1 : decode mX9_countParts.2.2.1 1 = .ok (.ifCond .gt 7, 3) := by decide +kernel
theorem dX9_countParts_4 : decode mX9_countParts.2.2.1 4 = .ok (.iconst 0, 1) := by decide +kernel
theorem dX9_countParts_5 : decode mX9_countParts.2.2.1 5 = .ok (.goto 10, 3) := by decide +kernel
theorem dX9_countParts_8 : decode mX9_countParts.2.2.1 8 = .ok (.iload_n 0, 1) := by decide +kernel
theorem dX9_countParts_9 : decode mX9_countParts.2.2.1 9 = .ok (.iload_n 1, 1) := by decide +kernel
theorem dX9_countParts_10 : decode mX9_countParts.2.2.1 10 = .ok (.iadd, 1) := by decide +kernel
theorem dX9_countParts_11 : decode mX9_countParts.2.2.1 11 = .ok (.iconst 1, 1) := by decide +kernel
theorem dX9_countParts_12 : decode mX9_countParts.2.2.1 12 = .ok (.isub, 1) := by decide +kernel
theorem dX9_countParts_13 : decode mX9_countParts.2.2.1 13 = .ok (.iload_n 1, 1) := by decide +kernel
theorem dX9_countParts_14 : decode mX9_countParts.2.2.1 14 = .ok (.idiv, 1) := by decide +kernel
theorem dX9_countParts_15 : decode mX9_countParts.2.2.1 15 = .ok (.ireturn, 1) := by decide +kernel
