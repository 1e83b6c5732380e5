theorem dX2_init_0 : decode mX2_init.2.2.1 0 = .ok (.aload_n 0, 1) := by decide +kernel
theorem dX2_init_1 : decode mX2_init.2.2.1 1 = .ok (.invokespecial 3, 3) := by decide +kernel
theorem dX2_init_4 : decode mX2_init.2.2.1 4 = .ok (.aload_n 0, 1) := by decide +kernel
theorem dX2_init_5 : decode mX2_init.2.2.1 5 = .ok (.iconst 0, 1) := by decide +kernel
theorem dX2_init_6 : decode mX2_init.2.2.1 6 = .ok (.putfield 9, 3) := by decide +kernel
theorem dX2_init_9 : decode mX2_init.2.2.1 9 = .ok (.aload_n 0, 1) := by decide +kernel
theorem dX2_init_10 : decode mX2_init.2.2.1 10 = .ok (.new 15, 3) := by decide +kernel
theorem dX2_init_13 : decode mX2_init.2.2.1 13 = .ok (.dup, 1) := by decide +kernel
theorem dX2_init_14 : decode mX2_init.2.2.1 14 = .ok (.sipush 4096, 3) := by decide +kernel
theorem dX2_init_17 : decode mX2_init.2.2.1 17 = .ok (.invokespecial 17, 3) := by decide +kernel
theorem dX2_init_20 : decode mX2_init.2.2.1 20 = .ok (.putfield 20, 3) := by decide +kernel
theorem dX2_init_23 : decode mX2_init.2.2.1 23 = .ok (.aload_n 0, 1) := by decide +kernel
theorem dX2_init_24 : decode mX2_init.2.2.1 24 = .ok (.lconst 0, 1) := by decide +kernel
theorem dX2_init_25 : decode mX2_init.2.2.1 25 = .ok (.putfield 24, 3) := by decide +kernel
theorem dX2_init_28 : decode mX2_init.2.2.1 28 = .ok (.aload_n 0, 1) := by decide +kernel
theorem dX2_init_29 : decode mX2_init.2.2.1 29 = .ok (.bipush 64, 2) := by decide +kernel
theorem dX2_init_31 : decode mX2_init.2.2.1 31 = .ok (.newarray .int, 2) := by decide +kernel
theorem dX2_init_33 : decode mX2_init.2.2.1 33 = .ok (.putfield 28, 3) := by decide +kernel
theorem dX2_init_36 : decode mX2_init.2.2.1 36 = .ok (.aload_n 0, 1) := by decide +kernel
theorem dX2_init_37 : decode mX2_init.2.2.1 37 = .ok (.iconst 0, 1) := by decide +kernel
theorem dX2_init_38 : decode mX2_init.2.2.1 38 = .ok (.putfield 32, 3) := by decide +kernel
theorem dX2_init_41 : decode mX2_init.2.2.1 41 = .ok (.aload_n 0, 1) := by decide +kernel
theorem dX2_init_42 : decode mX2_init.2.2.1 42 = .ok (.iconst 0, 1) := by decide +kernel
theorem dX2_init_43 : decode mX2_init.2.2.1 43 = .ok (.putfield 36, 3) := by decide +kernel
theorem dX2_init_46 : decode mX2_init.2.2.1 46 = .ok (.aload_n 0, 1) := by decide +kernel
theorem dX2_init_47 : decode mX2_init.2.2.1 47 = .ok (.iconst 0, 1) := by decide +kernel
theorem dX2_init_48 : decode mX2_init.2.2.1 48 = .ok (.putfield 39, 3) := by decide +kernel
theorem dX2_init_51 : decode mX2_init.2.2.1 51 = .ok (.aload_n 0, 1) := by decide +kernel
theorem dX2_init_52 : decode mX2_init.2.2.1 52 = .ok (.iconst 0, 1) := by decide +kernel
theorem dX2_init_53 : decode mX2_init.2.2.1 53 = .ok (.putfield 42, 3) := by decide +kernel
theorem dX2_init_56 : decode mX2_init.2.2.1 56 = .ok (.return_, 1) := by decide +kernel
theorem dX2_begin_0 : decode mX2_begin.2.2.1 0 = .ok (.aload_n 0, 1) := by decide +kernel
theorem dX2_begin_1 : decode mX2_begin.2.2.1 1 = .ok (.iconst 1, 1) := by decide +kernel
theorem dX2_begin_2 : decode mX2_begin.2.2.1 2 = .ok (.putfield 9, 3) := by decide +kernel
theorem dX2_begin_5 : decode mX2_begin.2.2.1 5 = .ok (.aload_n 0, 1) := by decide +kernel
theorem dX2_begin_6 : decode mX2_begin.2.2.1 6 = .ok (.getfield 20, 3) := by decide +kernel
theorem dX2_begin_9 : decode mX2_begin.2.2.1 9 = .ok (.iload_n 1, 1) := by decide +kernel
theorem dX2_begin_10 : decode mX2_begin.2.2.1 10 = .ok (.invokevirtual 45, 3) := by decide +kernel
theorem dX2_begin_13 : decode mX2_begin.2.2.1 13 = .ok (.aload_n 0, 1) := by decide +kernel
theorem dX2_begin_14 : decode mX2_begin.2.2.1 14 = .ok (.lconst 0, 1) := by decide +kernel
theorem dX2_begin_15 : decode mX2_begin.2.2.1 15 = .ok (.putfield 24, 3) := by decide +kernel
theorem dX2_begin_18 : decode mX2_begin.2.2.1 18 = .ok (.aload_n 0, 1) := by decide +kernel
theorem dX2_begin_19 : decode mX2_begin.2.2.1 19 = .ok (.getfield 28, 3) := by decide +kernel
theorem dX2_begin_22 : decode mX2_begin.2.2.1 22 = .ok (.iconst 0, 1) := by decide +kernel
theorem dX2_begin_23 : decode mX2_begin.2.2.1 23 = .ok (.invokestatic 48, 3) := by decide +kernel
theorem dX2_begin_26 : decode mX2_begin.2.2.1 26 = .ok (.aload_n 0, 1) := by decide +kernel
theorem dX2_begin_27 : decode mX2_begin.2.2.1 27 = .ok (.iconst 0, 1) := by decide +kernel
theorem dX2_begin_28 : decode mX2_begin.2.2.1 28 = .ok (.putfield 32, 3) := by decide +kernel
theorem dX2_begin_31 : decode mX2_begin.2.2.1 31 = .ok (.aload_n 0, 1) := by decide +kernel
theorem dX2_begin_32 : decode mX2_begin.2.2.1 32 = .ok (.iconst 0, 1) := by decide +kernel
theorem dX2_begin_33 : decode mX2_begin.2.2.1 33 = .ok (.putfield 36, 3) := by decide +kernel
theorem dX2_begin_36 : decode mX2_begin.2.2.1 36 = .ok (.aload_n 0, 1) := by decide +kernel
theorem dX2_begin_37 : decode mX2_begin.2.2.1 37 = .ok (.iconst 0, 1) := by decide +kernel
theorem dX2_begin_38 : decode mX2_begin.2.2.1 38 = .ok (.putfield 39, 3) := by decide +kernel
theorem dX2_begin_41 : decode mX2_begin.2.2.1 41 = .ok (.aload_n 0, 1) := by decide +kernel
theorem dX2_begin_42 : decode mX2_begin.2.2.1 42 = .ok (.iconst 0, 1) := by decide +kernel
theorem dX2_begin_43 : decode mX2_begin.2.2.1 43 = .ok (.putfield 42, 3) := by decide +kernel
theorem dX2_begin_46 : decode mX2_begin.2.2.1 46 = .ok (.return_, 1) := by decide +kernel
theorem dX2_hasPiece_0 : decode mX2_hasPiece.2.2.1 0 = .ok (.aload_n 0, 1) := by decide +kernel
theorem dX2_hasPiece_1 : decode mX2_hasPiece.2.2.1 1 = .ok (.getfield 24, 3) := by decide +kernel
theorem dX2_hasPiece_4 : decode mX2_hasPiece.2.2.1 4 = .ok (.iload_n 1, 1) := by decide +kernel
theorem dX2_hasPiece_5 : decode mX2_hasPiece.2.2.1 5 = .ok (.lushr, 1) := by decide +kernel
theorem dX2_hasPiece_6 : decode mX2_hasPiece.2.2.1 6 = .ok (.lconst 1, 1) := by decide +kernel
theorem dX2_hasPiece_7 : decode mX2_hasPiece.2.2.1 7 = .ok (.land, 1) := by decide +kernel
theorem dX2_hasPiece_8 : decode mX2_hasPiece.2.2.1 8 = .ok (.lconst 0, 1) := by decide +kernel
theorem dX2_hasPiece_9 : decode mX2_hasPiece.2.2.1 9 = .ok (.lcmp, 1) := by decide +kernel
theorem dX2_hasPiece_10 : decode mX2_hasPiece.2.2.1 10 = .ok (.ifCond .eq 7, 3) := by decide +kernel
theorem dX2_hasPiece_13 : decode mX2_hasPiece.2.2.1 13 = .ok (.iconst 1, 1) := by decide +kernel
theorem dX2_hasPiece_14 : decode mX2_hasPiece.2.2.1 14 = .ok (.goto 4, 3) := by decide +kernel
theorem dX2_hasPiece_17 : decode mX2_hasPiece.2.2.1 17 = .ok (.iconst 0, 1) := by decide +kernel
theorem dX2_hasPiece_18 : decode mX2_hasPiece.2.2.1 18 = .ok (.ireturn, 1) := by decide +kernel
