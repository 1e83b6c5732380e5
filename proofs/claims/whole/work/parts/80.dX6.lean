theorem dX6_init_0 : decode mX6_init.2.2.1 0 = .ok (.aload_n 0, 1) := by decide +kernel
theorem dX6_init_1 : decode mX6_init.2.2.1 1 = .ok (.invokespecial 3, 3) := by decide +kernel
theorem dX6_init_4 : decode mX6_init.2.2.1 4 = .ok (.aload_n 0, 1) := by decide +kernel
theorem dX6_init_5 : decode mX6_init.2.2.1 5 = .ok (.iconst 0, 1) := by decide +kernel
theorem dX6_init_6 : decode mX6_init.2.2.1 6 = .ok (.putfield 9, 3) := by decide +kernel
theorem dX6_init_9 : decode mX6_init.2.2.1 9 = .ok (.aload_n 0, 1) := by decide +kernel
theorem dX6_init_10 : decode mX6_init.2.2.1 10 = .ok (.iconst 0, 1) := by decide +kernel
theorem dX6_init_11 : decode mX6_init.2.2.1 11 = .ok (.iload_n 1, 1) := by decide +kernel
theorem dX6_init_12 : decode mX6_init.2.2.1 12 = .ok (.invokestatic 15, 3) := by decide +kernel
theorem dX6_init_15 : decode mX6_init.2.2.1 15 = .ok (.newarray .byte, 2) := by decide +kernel
theorem dX6_init_17 : decode mX6_init.2.2.1 17 = .ok (.putfield 21, 3) := by decide +kernel
theorem dX6_init_20 : decode mX6_init.2.2.1 20 = .ok (.return_, 1) := by decide +kernel
theorem dX6_size_0 : decode mX6_size.2.2.1 0 = .ok (.aload_n 0, 1) := by decide +kernel
theorem dX6_size_1 : decode mX6_size.2.2.1 1 = .ok (.getfield 9, 3) := by decide +kernel
theorem dX6_size_4 : decode mX6_size.2.2.1 4 = .ok (.ireturn, 1) := by decide +kernel
theorem dX6_at_0 : decode mX6_at.2.2.1 0 = .ok (.iload_n 1, 1) := by decide +kernel
theorem dX6_at_1 : decode mX6_at.2.2.1 1 = .ok (.ifCond .lt 11, 3) := by decide +kernel
theorem dX6_at_4 : decode mX6_at.2.2.1 4 = .ok (.iload_n 1, 1) := by decide +kernel
theorem dX6_at_5 : decode mX6_at.2.2.1 5 = .ok (.aload_n 0, 1) := by decide +kernel
theorem dX6_at_6 : decode mX6_at.2.2.1 6 = .ok (.getfield 9, 3) := by decide +kernel
theorem dX6_at_9 : decode mX6_at.2.2.1 9 = .ok (.if_icmp .lt 7, 3) := by decide +kernel
theorem dX6_at_12 : decode mX6_at.2.2.1 12 = .ok (.iconst (-1), 1) := by decide +kernel
theorem dX6_at_13 : decode mX6_at.2.2.1 13 = .ok (.goto 13, 3) := by decide +kernel
theorem dX6_at_16 : decode mX6_at.2.2.1 16 = .ok (.aload_n 0, 1) := by decide +kernel
theorem dX6_at_17 : decode mX6_at.2.2.1 17 = .ok (.getfield 21, 3) := by decide +kernel
theorem dX6_at_20 : decode mX6_at.2.2.1 20 = .ok (.iload_n 1, 1) := by decide +kernel
theorem dX6_at_21 : decode mX6_at.2.2.1 21 = .ok (.baload, 1) := by decide +kernel
theorem dX6_at_22 : decode mX6_at.2.2.1 22 = .ok (.sipush 255, 3) := by decide +kernel
theorem dX6_at_25 : decode mX6_at.2.2.1 25 = .ok (.iand, 1) := by decide +kernel
theorem dX6_at_26 : decode mX6_at.2.2.1 26 = .ok (.ireturn, 1) := by decide +kernel
theorem dX6_number_0 : decode mX6_number.2.2.1 0 = .ok (.iload_n 1, 1) := by decide +kernel
theorem dX6_number_1 : decode mX6_number.2.2.1 1 = .ok (.ifCond .lt 13, 3) := by decide +kernel
theorem dX6_number_4 : decode mX6_number.2.2.1 4 = .ok (.iload_n 1, 1) := by decide +kernel
theorem dX6_number_5 : decode mX6_number.2.2.1 5 = .ok (.aload_n 0, 1) := by decide +kernel
theorem dX6_number_6 : decode mX6_number.2.2.1 6 = .ok (.getfield 9, 3) := by decide +kernel
theorem dX6_number_9 : decode mX6_number.2.2.1 9 = .ok (.iconst 4, 1) := by decide +kernel
theorem dX6_number_10 : decode mX6_number.2.2.1 10 = .ok (.isub, 1) := by decide +kernel
theorem dX6_number_11 : decode mX6_number.2.2.1 11 = .ok (.if_icmp .le 7, 3) := by decide +kernel
theorem dX6_number_14 : decode mX6_number.2.2.1 14 = .ok (.ldc2_w 25, 3) := by decide +kernel
theorem dX6_number_17 : decode mX6_number.2.2.1 17 = .ok (.lreturn, 1) := by decide +kernel
theorem dX6_number_18 : decode mX6_number.2.2.1 18 = .ok (.aload_n 0, 1) := by decide +kernel
theorem dX6_number_19 : decode mX6_number.2.2.1 19 = .ok (.getfield 21, 3) := by decide +kernel
theorem dX6_number_22 : decode mX6_number.2.2.1 22 = .ok (.iload_n 1, 1) := by decide +kernel
theorem dX6_number_23 : decode mX6_number.2.2.1 23 = .ok (.baload, 1) := by decide +kernel
theorem dX6_number_24 : decode mX6_number.2.2.1 24 = .ok (.i2l, 1) := by decide +kernel
theorem dX6_number_25 : decode mX6_number.2.2.1 25 = .ok (.ldc2_w 27, 3) := by decide +kernel
theorem dX6_number_28 : decode mX6_number.2.2.1 28 = .ok (.land, 1) := by decide +kernel
theorem dX6_number_29 : decode mX6_number.2.2.1 29 = .ok (.bipush 24, 2) := by decide +kernel
theorem dX6_number_31 : decode mX6_number.2.2.1 31 = .ok (.lshl, 1) := by decide +kernel
theorem dX6_number_32 : decode mX6_number.2.2.1 32 = .ok (.aload_n 0, 1) := by decide +kernel
theorem dX6_number_33 : decode mX6_number.2.2.1 33 = .ok (.getfield 21, 3) := by decide +kernel
theorem dX6_number_36 : decode mX6_number.2.2.1 36 = .ok (.iload_n 1, 1) := by decide +kernel
theorem dX6_number_37 : decode mX6_number.2.2.1 37 = .ok (.iconst 1, 1) := by decide +kernel
theorem dX6_number_38 : decode mX6_number.2.2.1 38 = .ok (.iadd, 1) := by decide +kernel
theorem dX6_number_39 : decode mX6_number.2.2.1 39 = .ok (.baload, 1) := by decide +kernel
theorem dX6_number_40 : decode mX6_number.2.2.1 40 = .ok (.i2l, 1) := by decide +kernel
theorem dX6_number_41 : decode mX6_number.2.2.1 41 = .ok (.ldc2_w 27, 3) := by decide +kernel
theorem dX6_number_44 : decode mX6_number.2.2.1 44 = .ok (.land, 1) := by decide +kernel
theorem dX6_number_45 : decode mX6_number.2.2.1 45 = .ok (.bipush 16, 2) := by decide +kernel
theorem dX6_number_47 : decode mX6_number.2.2.1 47 = .ok (.lshl, 1) := by decide +kernel
theorem dX6_number_48 : decode mX6_number.2.2.1 48 = .ok (.lor, 1) := by decide +kernel
theorem dX6_number_49 : decode mX6_number.2.2.1 49 = .ok (.aload_n 0, 1) := by decide +kernel
theorem dX6_number_50 : decode mX6_number.2.2.1 50 = .ok (.getfield 21, 3) := by decide +kernel
theorem dX6_number_53 : decode mX6_number.2.2.1 53 = .ok (.iload_n 1, 1) := by decide +kernel
theorem dX6_number_54 : decode mX6_number.2.2.1 54 = .ok (.iconst 2, 1) := by decide +kernel
theorem dX6_number_55 : decode mX6_number.2.2.1 55 = .ok (.iadd, 1) := by decide +kernel
theorem dX6_number_56 : decode mX6_number.2.2.1 56 = .ok (.baload, 1) := by decide +kernel
theorem dX6_number_57 : decode mX6_number.2.2.1 57 = .ok (.i2l, 1) := by decide +kernel
theorem dX6_number_58 : decode mX6_number.2.2.1 58 = .ok (.ldc2_w 27, 3) := by decide +kernel
theorem dX6_number_61 : decode mX6_number.2.2.1 61 = .ok (.land, 1) := by decide +kernel
theorem dX6_number_62 : decode mX6_number.2.2.1 62 = .ok (.bipush 8, 2) := by decide +kernel
theorem dX6_number_64 : decode mX6_number.2.2.1 64 = .ok (.lshl, 1) := by decide +kernel
theorem dX6_number_65 : decode mX6_number.2.2.1 65 = .ok (.lor, 1) := by decide +kernel
theorem dX6_number_66 : decode mX6_number.2.2.1 66 = .ok (.aload_n 0, 1) := by decide +kernel
theorem dX6_number_67 : decode mX6_number.2.2.1 67 = .ok (.getfield 21, 3) := by decide +kernel
theorem dX6_number_70 : decode mX6_number.2.2.1 70 = .ok (.iload_n 1, 1) := by decide +kernel
theorem dX6_number_71 : decode mX6_number.2.2.1 71 = .ok (.iconst 3, 1) := by decide +kernel
theorem dX6_number_72 : decode mX6_number.2.2.1 72 = .ok (.iadd, 1) := by decide +kernel
theorem dX6_number_73 : decode mX6_number.2.2.1 73 = .ok (.baload, 1) := by decide +kernel
theorem dX6_number_74 : decode mX6_number.2.2.1 74 = .ok (.i2l, 1) := by decide +kernel
theorem dX6_number_75 : decode mX6_number.2.2.1 75 = .ok (.ldc2_w 27, 3) := by decide +kernel
theorem dX6_number_78 : decode mX6_number.2.2.1 78 = .ok (.land, 1) := by decide +kernel
theorem dX6_number_79 : decode mX6_number.2.2.1 79 = .ok (.lor, 1) := by decide +kernel
theorem dX6_number_80 : decode mX6_number.2.2.1 80 = .ok (.lreturn, 1) := by decide +kernel
theorem dX6_change_0 : decode mX6_change.2.2.1 0 = .ok (.iload_n 1, 1) := by decide +kernel
theorem dX6_change_1 : decode mX6_change.2.2.1 1 = .ok (.ifCond .lt 11, 3) := by decide +kernel
theorem dX6_change_4 : decode mX6_change.2.2.1 4 = .ok (.iload_n 1, 1) := by decide +kernel
theorem dX6_change_5 : decode mX6_change.2.2.1 5 = .ok (.aload_n 0, 1) := by decide +kernel
theorem dX6_change_6 : decode mX6_change.2.2.1 6 = .ok (.getfield 9, 3) := by decide +kernel
theorem dX6_change_9 : decode mX6_change.2.2.1 9 = .ok (.if_icmp .lt 5, 3) := by decide +kernel
theorem dX6_change_12 : decode mX6_change.2.2.1 12 = .ok (.iconst 0, 1) := by decide +kernel
theorem dX6_change_13 : decode mX6_change.2.2.1 13 = .ok (.ireturn, 1) := by decide +kernel
theorem dX6_change_14 : decode mX6_change.2.2.1 14 = .ok (.aload_n 0, 1) := by decide +kernel
theorem dX6_change_15 : decode mX6_change.2.2.1 15 = .ok (.getfield 21, 3) := by decide +kernel
theorem dX6_change_18 : decode mX6_change.2.2.1 18 = .ok (.iload_n 1, 1) := by decide +kernel
theorem dX6_change_19 : decode mX6_change.2.2.1 19 = .ok (.iload_n 2, 1) := by decide +kernel
theorem dX6_change_20 : decode mX6_change.2.2.1 20 = .ok (.i2b, 1) := by decide +kernel
theorem dX6_change_21 : decode mX6_change.2.2.1 21 = .ok (.bastore, 1) := by decide +kernel
theorem dX6_change_22 : decode mX6_change.2.2.1 22 = .ok (.iconst 1, 1) := by decide +kernel
theorem dX6_change_23 : decode mX6_change.2.2.1 23 = .ok (.ireturn, 1) := by decide +kernel
theorem dX6_fits_0 : decode mX6_fits.2.2.1 0 = .ok (.iload_n 1, 1) := by decide +kernel
theorem dX6_fits_1 : decode mX6_fits.2.2.1 1 = .ok (.ifCond .lt 21, 3) := by decide +kernel
theorem dX6_fits_4 : decode mX6_fits.2.2.1 4 = .ok (.iload_n 1, 1) := by decide +kernel
theorem dX6_fits_5 : decode mX6_fits.2.2.1 5 = .ok (.aload_n 0, 1) := by decide +kernel
theorem dX6_fits_6 : decode mX6_fits.2.2.1 6 = .ok (.getfield 21, 3) := by decide +kernel
theorem dX6_fits_9 : decode mX6_fits.2.2.1 9 = .ok (.arraylength, 1) := by decide +kernel
theorem dX6_fits_10 : decode mX6_fits.2.2.1 10 = .ok (.aload_n 0, 1) := by decide +kernel
theorem dX6_fits_11 : decode mX6_fits.2.2.1 11 = .ok (.getfield 9, 3) := by decide +kernel
theorem dX6_fits_14 : decode mX6_fits.2.2.1 14 = .ok (.isub, 1) := by decide +kernel
theorem dX6_fits_15 : decode mX6_fits.2.2.1 15 = .ok (.if_icmp .gt 7, 3) := by decide +kernel
theorem dX6_fits_18 : decode mX6_fits.2.2.1 18 = .ok (.iconst 1, 1) := by decide +kernel
theorem dX6_fits_19 : decode mX6_fits.2.2.1 19 = .ok (.goto 4, 3) := by decide +kernel
theorem dX6_fits_22 : decode mX6_fits.2.2.1 22 = .ok (.iconst 0, 1) := by decide +kernel
theorem dX6_fits_23 : decode mX6_fits.2.2.1 23 = .ok (.ireturn, 1) := by decide +kernel
theorem dX6_cut_0 : decode mX6_cut.2.2.1 0 = .ok (.iload_n 1, 1) := by decide +kernel
theorem dX6_cut_1 : decode mX6_cut.2.2.1 1 = .ok (.ifCond .lt 16, 3) := by decide +kernel
theorem dX6_cut_4 : decode mX6_cut.2.2.1 4 = .ok (.iload_n 1, 1) := by decide +kernel
theorem dX6_cut_5 : decode mX6_cut.2.2.1 5 = .ok (.aload_n 0, 1) := by decide +kernel
theorem dX6_cut_6 : decode mX6_cut.2.2.1 6 = .ok (.getfield 9, 3) := by decide +kernel
theorem dX6_cut_9 : decode mX6_cut.2.2.1 9 = .ok (.if_icmp .gt 8, 3) := by decide +kernel
theorem dX6_cut_12 : decode mX6_cut.2.2.1 12 = .ok (.aload_n 0, 1) := by decide +kernel
theorem dX6_cut_13 : decode mX6_cut.2.2.1 13 = .ok (.iload_n 1, 1) := by decide +kernel
theorem dX6_cut_14 : decode mX6_cut.2.2.1 14 = .ok (.putfield 9, 3) := by decide +kernel
theorem dX6_cut_17 : decode mX6_cut.2.2.1 17 = .ok (.return_, 1) := by decide +kernel
theorem dX6_add_0 : decode mX6_add.2.2.1 0 = .ok (.aload_n 0, 1) := by decide +kernel
theorem dX6_add_1 : decode mX6_add.2.2.1 1 = .ok (.iconst 1, 1) := by decide +kernel
theorem dX6_add_2 : decode mX6_add.2.2.1 2 = .ok (.invokevirtual 29, 3) := by decide +kernel
theorem dX6_add_5 : decode mX6_add.2.2.1 5 = .ok (.ifCond .eq 24, 3) := by decide +kernel
theorem dX6_add_8 : decode mX6_add.2.2.1 8 = .ok (.aload_n 0, 1) := by decide +kernel
theorem dX6_add_9 : decode mX6_add.2.2.1 9 = .ok (.getfield 21, 3) := by decide +kernel
theorem dX6_add_12 : decode mX6_add.2.2.1 12 = .ok (.aload_n 0, 1) := by decide +kernel
theorem dX6_add_13 : decode mX6_add.2.2.1 13 = .ok (.getfield 9, 3) := by decide +kernel
theorem dX6_add_16 : decode mX6_add.2.2.1 16 = .ok (.iload_n 1, 1) := by decide +kernel
theorem dX6_add_17 : decode mX6_add.2.2.1 17 = .ok (.i2b, 1) := by decide +kernel
theorem dX6_add_18 : decode mX6_add.2.2.1 18 = .ok (.bastore, 1) := by decide +kernel
theorem dX6_add_19 : decode mX6_add.2.2.1 19 = .ok (.aload_n 0, 1) := by decide +kernel
theorem dX6_add_20 : decode mX6_add.2.2.1 20 = .ok (.dup, 1) := by decide +kernel
theorem dX6_add_21 : decode mX6_add.2.2.1 21 = .ok (.getfield 9, 3) := by decide +kernel
theorem dX6_add_24 : decode mX6_add.2.2.1 24 = .ok (.iconst 1, 1) := by decide +kernel
theorem dX6_add_25 : decode mX6_add.2.2.1 25 = .ok (.iadd, 1) := by decide +kernel
theorem dX6_add_26 : decode mX6_add.2.2.1 26 = .ok (.putfield 9, 3) := by decide +kernel
theorem dX6_add_29 : decode mX6_add.2.2.1 29 = .ok (.return_, 1) := by decide +kernel
theorem dX6_addNumber_0 : decode mX6_addNumber.2.2.1 0 = .ok (.aload_n 0, 1) := by decide +kernel
theorem dX6_addNumber_1 : decode mX6_addNumber.2.2.1 1 = .ok (.iconst 4, 1) := by decide +kernel
theorem dX6_addNumber_2 : decode mX6_addNumber.2.2.1 2 = .ok (.invokevirtual 29, 3) := by decide +kernel
theorem dX6_addNumber_5 : decode mX6_addNumber.2.2.1 5 = .ok (.ifCond .eq 72, 3) := by decide +kernel
theorem dX6_addNumber_8 : decode mX6_addNumber.2.2.1 8 = .ok (.aload_n 0, 1) := by decide +kernel
theorem dX6_addNumber_9 : decode mX6_addNumber.2.2.1 9 = .ok (.getfield 21, 3) := by decide +kernel
theorem dX6_addNumber_12 : decode mX6_addNumber.2.2.1 12 = .ok (.aload_n 0, 1) := by decide +kernel
theorem dX6_addNumber_13 : decode mX6_addNumber.2.2.1 13 = .ok (.getfield 9, 3) := by decide +kernel
theorem dX6_addNumber_16 : decode mX6_addNumber.2.2.1 16 = .ok (.iload_n 1, 1) := by decide +kernel
theorem dX6_addNumber_17 : decode mX6_addNumber.2.2.1 17 = .ok (.bipush 24, 2) := by decide +kernel
theorem dX6_addNumber_19 : decode mX6_addNumber.2.2.1 19 = .ok (.iushr, 1) := by decide +kernel
theorem dX6_addNumber_20 : decode mX6_addNumber.2.2.1 20 = .ok (.i2b, 1) := by decide +kernel
theorem dX6_addNumber_21 : decode mX6_addNumber.2.2.1 21 = .ok (.bastore, 1) := by decide +kernel
theorem dX6_addNumber_22 : decode mX6_addNumber.2.2.1 22 = .ok (.aload_n 0, 1) := by decide +kernel
theorem dX6_addNumber_23 : decode mX6_addNumber.2.2.1 23 = .ok (.getfield 21, 3) := by decide +kernel
theorem dX6_addNumber_26 : decode mX6_addNumber.2.2.1 26 = .ok (.aload_n 0, 1) := by decide +kernel
theorem dX6_addNumber_27 : decode mX6_addNumber.2.2.1 27 = .ok (.getfield 9, 3) := by decide +kernel
theorem dX6_addNumber_30 : decode mX6_addNumber.2.2.1 30 = .ok (.iconst 1, 1) := by decide +kernel
theorem dX6_addNumber_31 : decode mX6_addNumber.2.2.1 31 = .ok (.iadd, 1) := by decide +kernel
theorem dX6_addNumber_32 : decode mX6_addNumber.2.2.1 32 = .ok (.iload_n 1, 1) := by decide +kernel
theorem dX6_addNumber_33 : decode mX6_addNumber.2.2.1 33 = .ok (.bipush 16, 2) := by decide +kernel
theorem dX6_addNumber_35 : decode mX6_addNumber.2.2.1 35 = .ok (.iushr, 1) := by decide +kernel
theorem dX6_addNumber_36 : decode mX6_addNumber.2.2.1 36 = .ok (.i2b, 1) := by decide +kernel
theorem dX6_addNumber_37 : decode mX6_addNumber.2.2.1 37 = .ok (.bastore, 1) := by decide +kernel
theorem dX6_addNumber_38 : decode mX6_addNumber.2.2.1 38 = .ok (.aload_n 0, 1) := by decide +kernel
theorem dX6_addNumber_39 : decode mX6_addNumber.2.2.1 39 = .ok (.getfield 21, 3) := by decide +kernel
theorem dX6_addNumber_42 : decode mX6_addNumber.2.2.1 42 = .ok (.aload_n 0, 1) := by decide +kernel
theorem dX6_addNumber_43 : decode mX6_addNumber.2.2.1 43 = .ok (.getfield 9, 3) := by decide +kernel
theorem dX6_addNumber_46 : decode mX6_addNumber.2.2.1 46 = .ok (.iconst 2, 1) := by decide +kernel
theorem dX6_addNumber_47 : decode mX6_addNumber.2.2.1 47 = .ok (.iadd, 1) := by decide +kernel
theorem dX6_addNumber_48 : decode mX6_addNumber.2.2.1 48 = .ok (.iload_n 1, 1) := by decide +kernel
theorem dX6_addNumber_49 : decode mX6_addNumber.2.2.1 49 = .ok (.bipush 8, 2) := by decide +kernel
theorem dX6_addNumber_51 : decode mX6_addNumber.2.2.1 51 = .ok (.iushr, 1) := by decide +kernel
theorem dX6_addNumber_52 : decode mX6_addNumber.2.2.1 52 = .ok (.i2b, 1) := by decide +kernel
theorem dX6_addNumber_53 : decode mX6_addNumber.2.2.1 53 = .ok (.bastore, 1) := by decide +kernel
theorem dX6_addNumber_54 : decode mX6_addNumber.2.2.1 54 = .ok (.aload_n 0, 1) := by decide +kernel
theorem dX6_addNumber_55 : decode mX6_addNumber.2.2.1 55 = .ok (.getfield 21, 3) := by decide +kernel
theorem dX6_addNumber_58 : decode mX6_addNumber.2.2.1 58 = .ok (.aload_n 0, 1) := by decide +kernel
theorem dX6_addNumber_59 : decode mX6_addNumber.2.2.1 59 = .ok (.getfield 9, 3) := by decide +kernel
theorem dX6_addNumber_62 : decode mX6_addNumber.2.2.1 62 = .ok (.iconst 3, 1) := by decide +kernel
theorem dX6_addNumber_63 : decode mX6_addNumber.2.2.1 63 = .ok (.iadd, 1) := by decide +kernel
theorem dX6_addNumber_64 : decode mX6_addNumber.2.2.1 64 = .ok (.iload_n 1, 1) := by decide +kernel
theorem dX6_addNumber_65 : decode mX6_addNumber.2.2.1 65 = .ok (.i2b, 1) := by decide +kernel
theorem dX6_addNumber_66 : decode mX6_addNumber.2.2.1 66 = .ok (.bastore, 1) := by decide +kernel
theorem dX6_addNumber_67 : decode mX6_addNumber.2.2.1 67 = .ok (.aload_n 0, 1) := by decide +kernel
theorem dX6_addNumber_68 : decode mX6_addNumber.2.2.1 68 = .ok (.dup, 1) := by decide +kernel
theorem dX6_addNumber_69 : decode mX6_addNumber.2.2.1 69 = .ok (.getfield 9, 3) := by decide +kernel
theorem dX6_addNumber_72 : decode mX6_addNumber.2.2.1 72 = .ok (.iconst 4, 1) := by decide +kernel
theorem dX6_addNumber_73 : decode mX6_addNumber.2.2.1 73 = .ok (.iadd, 1) := by decide +kernel
theorem dX6_addNumber_74 : decode mX6_addNumber.2.2.1 74 = .ok (.putfield 9, 3) := by decide +kernel
theorem dX6_addNumber_77 : decode mX6_addNumber.2.2.1 77 = .ok (.return_, 1) := by decide +kernel
theorem dX6_addText_0 : decode mX6_addText.2.2.1 0 = .ok (.iconst 0, 1) := by decide +kernel
theorem dX6_addText_1 : decode mX6_addText.2.2.1 1 = .ok (.istore_n 2, 1) := by decide +kernel
theorem dX6_addText_2 : decode mX6_addText.2.2.1 2 = .ok (.iload_n 2, 1) := by decide +kernel
theorem dX6_addText_3 : decode mX6_addText.2.2.1 3 = .ok (.aload_n 1, 1) := by decide +kernel
theorem dX6_addText_4 : decode mX6_addText.2.2.1 4 = .ok (.invokevirtual 33, 3) := by decide +kernel
theorem dX6_addText_7 : decode mX6_addText.2.2.1 7 = .ok (.if_icmp .ge 18, 3) := by decide +kernel
theorem dX6_addText_10 : decode mX6_addText.2.2.1 10 = .ok (.aload_n 0, 1) := by decide +kernel
theorem dX6_addText_11 : decode mX6_addText.2.2.1 11 = .ok (.aload_n 1, 1) := by decide +kernel
theorem dX6_addText_12 : decode mX6_addText.2.2.1 12 = .ok (.iload_n 2, 1) := by decide +kernel
theorem dX6_addText_13 : decode mX6_addText.2.2.1 13 = .ok (.invokevirtual 38, 3) := by decide +kernel
theorem dX6_addText_16 : decode mX6_addText.2.2.1 16 = .ok (.invokevirtual 42, 3) := by decide +kernel
theorem dX6_addText_19 : decode mX6_addText.2.2.1 19 = .ok (.iinc 2 1, 3) := by decide +kernel
theorem dX6_addText_22 : decode mX6_addText.2.2.1 22 = .ok (.goto (-20), 3) := by decide +kernel
theorem dX6_addText_25 : decode mX6_addText.2.2.1 25 = .ok (.return_, 1) := by decide +kernel
theorem dX6_addDecimal_0 : decode mX6_addDecimal.2.2.1 0 = .ok (.iconst 1, 1) := by decide +kernel
theorem dX6_addDecimal_1 : decode mX6_addDecimal.2.2.1 1 = .ok (.istore_n 2, 1) := by decide +kernel
theorem dX6_addDecimal_2 : decode mX6_addDecimal.2.2.1 2 = .ok (.iconst 0, 1) := by decide +kernel
theorem dX6_addDecimal_3 : decode mX6_addDecimal.2.2.1 3 = .ok (.istore_n 3, 1) := by decide +kernel
theorem dX6_addDecimal_4 : decode mX6_addDecimal.2.2.1 4 = .ok (.iload_n 3, 1) := by decide +kernel
theorem dX6_addDecimal_5 : decode mX6_addDecimal.2.2.1 5 = .ok (.bipush 8, 2) := by decide +kernel
theorem dX6_addDecimal_7 : decode mX6_addDecimal.2.2.1 7 = .ok (.if_icmp .ge 22, 3) := by decide +kernel
theorem dX6_addDecimal_10 : decode mX6_addDecimal.2.2.1 10 = .ok (.iload_n 2, 1) := by decide +kernel
theorem dX6_addDecimal_11 : decode mX6_addDecimal.2.2.1 11 = .ok (.iload_n 1, 1) := by decide +kernel
theorem dX6_addDecimal_12 : decode mX6_addDecimal.2.2.1 12 = .ok (.bipush 10, 2) := by decide +kernel
theorem dX6_addDecimal_14 : decode mX6_addDecimal.2.2.1 14 = .ok (.idiv, 1) := by decide +kernel
theorem dX6_addDecimal_15 : decode mX6_addDecimal.2.2.1 15 = .ok (.if_icmp .gt 14, 3) := by decide +kernel
theorem dX6_addDecimal_18 : decode mX6_addDecimal.2.2.1 18 = .ok (.iload_n 2, 1) := by decide +kernel
theorem dX6_addDecimal_19 : decode mX6_addDecimal.2.2.1 19 = .ok (.bipush 10, 2) := by decide +kernel
theorem dX6_addDecimal_21 : decode mX6_addDecimal.2.2.1 21 = .ok (.imul, 1) := by decide +kernel
theorem dX6_addDecimal_22 : decode mX6_addDecimal.2.2.1 22 = .ok (.istore_n 2, 1) := by decide +kernel
theorem dX6_addDecimal_23 : decode mX6_addDecimal.2.2.1 23 = .ok (.iinc 3 1, 3) := by decide +kernel
theorem dX6_addDecimal_26 : decode mX6_addDecimal.2.2.1 26 = .ok (.goto (-22), 3) := by decide +kernel
theorem dX6_addDecimal_29 : decode mX6_addDecimal.2.2.1 29 = .ok (.iload_n 2, 1) := by decide +kernel
theorem dX6_addDecimal_30 : decode mX6_addDecimal.2.2.1 30 = .ok (.ifCond .le 24, 3) := by decide +kernel
theorem dX6_addDecimal_33 : decode mX6_addDecimal.2.2.1 33 = .ok (.aload_n 0, 1) := by decide +kernel
theorem dX6_addDecimal_34 : decode mX6_addDecimal.2.2.1 34 = .ok (.bipush 48, 2) := by decide +kernel
theorem dX6_addDecimal_36 : decode mX6_addDecimal.2.2.1 36 = .ok (.iload_n 1, 1) := by decide +kernel
theorem dX6_addDecimal_37 : decode mX6_addDecimal.2.2.1 37 = .ok (.iload_n 2, 1) := by decide +kernel
theorem dX6_addDecimal_38 : decode mX6_addDecimal.2.2.1 38 = .ok (.idiv, 1) := by decide +kernel
theorem dX6_addDecimal_39 : decode mX6_addDecimal.2.2.1 39 = .ok (.bipush 10, 2) := by decide +kernel
theorem dX6_addDecimal_41 : decode mX6_addDecimal.2.2.1 41 = .ok (.irem, 1) := by decide +kernel
theorem dX6_addDecimal_42 : decode mX6_addDecimal.2.2.1 42 = .ok (.iadd, 1) := by decide +kernel
theorem dX6_addDecimal_43 : decode mX6_addDecimal.2.2.1 43 = .ok (.invokevirtual 42, 3) := by decide +kernel
theorem dX6_addDecimal_46 : decode mX6_addDecimal.2.2.1 46 = .ok (.iload_n 2, 1) := by decide +kernel
theorem dX6_addDecimal_47 : decode mX6_addDecimal.2.2.1 47 = .ok (.bipush 10, 2) := by decide +kernel
theorem dX6_addDecimal_49 : decode mX6_addDecimal.2.2.1 49 = .ok (.idiv, 1) := by decide +kernel
theorem dX6_addDecimal_50 : decode mX6_addDecimal.2.2.1 50 = .ok (.istore_n 2, 1) := by decide +kernel
theorem dX6_addDecimal_51 : decode mX6_addDecimal.2.2.1 51 = .ok (.goto (-22), 3) := by decide +kernel
theorem dX6_addDecimal_54 : decode mX6_addDecimal.2.2.1 54 = .ok (.return_, 1) := by decide +kernel
theorem dX6_addPart_0 : decode mX6_addPart.2.2.1 0 = .ok (.iload_n 2, 1) := by decide +kernel
theorem dX6_addPart_1 : decode mX6_addPart.2.2.1 1 = .ok (.ifCond .lt 48, 3) := by decide +kernel
theorem dX6_addPart_4 : decode mX6_addPart.2.2.1 4 = .ok (.aload_n 0, 1) := by decide +kernel
theorem dX6_addPart_5 : decode mX6_addPart.2.2.1 5 = .ok (.iload_n 3, 1) := by decide +kernel
theorem dX6_addPart_6 : decode mX6_addPart.2.2.1 6 = .ok (.invokevirtual 29, 3) := by decide +kernel
theorem dX6_addPart_9 : decode mX6_addPart.2.2.1 9 = .ok (.ifCond .eq 40, 3) := by decide +kernel
theorem dX6_addPart_12 : decode mX6_addPart.2.2.1 12 = .ok (.iload_n 2, 1) := by decide +kernel
theorem dX6_addPart_13 : decode mX6_addPart.2.2.1 13 = .ok (.aload_n 1, 1) := by decide +kernel
theorem dX6_addPart_14 : decode mX6_addPart.2.2.1 14 = .ok (.getfield 9, 3) := by decide +kernel
theorem dX6_addPart_17 : decode mX6_addPart.2.2.1 17 = .ok (.iload_n 3, 1) := by decide +kernel
theorem dX6_addPart_18 : decode mX6_addPart.2.2.1 18 = .ok (.isub, 1) := by decide +kernel
theorem dX6_addPart_19 : decode mX6_addPart.2.2.1 19 = .ok (.if_icmp .gt 30, 3) := by decide +kernel
theorem dX6_addPart_22 : decode mX6_addPart.2.2.1 22 = .ok (.aload_n 1, 1) := by decide +kernel
theorem dX6_addPart_23 : decode mX6_addPart.2.2.1 23 = .ok (.getfield 21, 3) := by decide +kernel
theorem dX6_addPart_26 : decode mX6_addPart.2.2.1 26 = .ok (.iload_n 2, 1) := by decide +kernel
theorem dX6_addPart_27 : decode mX6_addPart.2.2.1 27 = .ok (.aload_n 0, 1) := by decide +kernel
theorem dX6_addPart_28 : decode mX6_addPart.2.2.1 28 = .ok (.getfield 21, 3) := by decide +kernel
theorem dX6_addPart_31 : decode mX6_addPart.2.2.1 31 = .ok (.aload_n 0, 1) := by decide +kernel
theorem dX6_addPart_32 : decode mX6_addPart.2.2.1 32 = .ok (.getfield 9, 3) := by decide +kernel
theorem dX6_addPart_35 : decode mX6_addPart.2.2.1 35 = .ok (.iload_n 3, 1) := by decide +kernel
theorem dX6_addPart_36 : decode mX6_addPart.2.2.1 36 = .ok (.invokestatic 46, 3) := by decide +kernel
theorem dX6_addPart_39 : decode mX6_addPart.2.2.1 39 = .ok (.aload_n 0, 1) := by decide +kernel
theorem dX6_addPart_40 : decode mX6_addPart.2.2.1 40 = .ok (.dup, 1) := by decide +kernel
theorem dX6_addPart_41 : decode mX6_addPart.2.2.1 41 = .ok (.getfield 9, 3) := by decide +kernel
theorem dX6_addPart_44 : decode mX6_addPart.2.2.1 44 = .ok (.iload_n 3, 1) := by decide +kernel
theorem dX6_addPart_45 : decode mX6_addPart.2.2.1 45 = .ok (.iadd, 1) := by decide +kernel
theorem dX6_addPart_46 : decode mX6_addPart.2.2.1 46 = .ok (.putfield 9, 3) := by decide +kernel
theorem dX6_addPart_49 : decode mX6_addPart.2.2.1 49 = .ok (.return_, 1) := by decide +kernel
theorem dX6_dropFirst_0 : decode mX6_dropFirst.2.2.1 0 = .ok (.iload_n 1, 1) := by decide +kernel
theorem dX6_dropFirst_1 : decode mX6_dropFirst.2.2.1 1 = .ok (.ifCond .lt 40, 3) := by decide +kernel
theorem dX6_dropFirst_4 : decode mX6_dropFirst.2.2.1 4 = .ok (.iload_n 1, 1) := by decide +kernel
theorem dX6_dropFirst_5 : decode mX6_dropFirst.2.2.1 5 = .ok (.aload_n 0, 1) := by decide +kernel
theorem dX6_dropFirst_6 : decode mX6_dropFirst.2.2.1 6 = .ok (.getfield 9, 3) := by decide +kernel
theorem dX6_dropFirst_9 : decode mX6_dropFirst.2.2.1 9 = .ok (.if_icmp .gt 32, 3) := by decide +kernel
theorem dX6_dropFirst_12 : decode mX6_dropFirst.2.2.1 12 = .ok (.aload_n 0, 1) := by decide +kernel
theorem dX6_dropFirst_13 : decode mX6_dropFirst.2.2.1 13 = .ok (.getfield 21, 3) := by decide +kernel
theorem dX6_dropFirst_16 : decode mX6_dropFirst.2.2.1 16 = .ok (.iload_n 1, 1) := by decide +kernel
theorem dX6_dropFirst_17 : decode mX6_dropFirst.2.2.1 17 = .ok (.aload_n 0, 1) := by decide +kernel
theorem dX6_dropFirst_18 : decode mX6_dropFirst.2.2.1 18 = .ok (.getfield 21, 3) := by decide +kernel
theorem dX6_dropFirst_21 : decode mX6_dropFirst.2.2.1 21 = .ok (.iconst 0, 1) := by decide +kernel
theorem dX6_dropFirst_22 : decode mX6_dropFirst.2.2.1 22 = .ok (.aload_n 0, 1) := by decide +kernel
theorem dX6_dropFirst_23 : decode mX6_dropFirst.2.2.1 23 = .ok (.getfield 9, 3) := by decide +kernel
theorem dX6_dropFirst_26 : decode mX6_dropFirst.2.2.1 26 = .ok (.iload_n 1, 1) := by decide +kernel
theorem dX6_dropFirst_27 : decode mX6_dropFirst.2.2.1 27 = .ok (.isub, 1) := by decide +kernel
theorem dX6_dropFirst_28 : decode mX6_dropFirst.2.2.1 28 = .ok (.invokestatic 46, 3) := by decide +kernel
theorem dX6_dropFirst_31 : decode mX6_dropFirst.2.2.1 31 = .ok (.aload_n 0, 1) := by decide +kernel
theorem dX6_dropFirst_32 : decode mX6_dropFirst.2.2.1 32 = .ok (.dup, 1) := by decide +kernel
theorem dX6_dropFirst_33 : decode mX6_dropFirst.2.2.1 33 = .ok (.getfield 9, 3) := by decide +kernel
theorem dX6_dropFirst_36 : decode mX6_dropFirst.2.2.1 36 = .ok (.iload_n 1, 1) := by decide +kernel
theorem dX6_dropFirst_37 : decode mX6_dropFirst.2.2.1 37 = .ok (.isub, 1) := by decide +kernel
theorem dX6_dropFirst_38 : decode mX6_dropFirst.2.2.1 38 = .ok (.putfield 9, 3) := by decide +kernel
theorem dX6_dropFirst_41 : decode mX6_dropFirst.2.2.1 41 = .ok (.return_, 1) := by decide +kernel
theorem dX6_becomeZeros_0 : decode mX6_becomeZeros.2.2.1 0 = .ok (.iload_n 1, 1) := by decide +kernel
theorem dX6_becomeZeros_1 : decode mX6_becomeZeros.2.2.1 1 = .ok (.ifCond .lt 27, 3) := by decide +kernel
theorem dX6_becomeZeros_4 : decode mX6_becomeZeros.2.2.1 4 = .ok (.iload_n 1, 1) := by decide +kernel
theorem dX6_becomeZeros_5 : decode mX6_becomeZeros.2.2.1 5 = .ok (.aload_n 0, 1) := by decide +kernel
theorem dX6_becomeZeros_6 : decode mX6_becomeZeros.2.2.1 6 = .ok (.getfield 21, 3) := by decide +kernel
theorem dX6_becomeZeros_9 : decode mX6_becomeZeros.2.2.1 9 = .ok (.arraylength, 1) := by decide +kernel
theorem dX6_becomeZeros_10 : decode mX6_becomeZeros.2.2.1 10 = .ok (.if_icmp .gt 18, 3) := by decide +kernel
theorem dX6_becomeZeros_13 : decode mX6_becomeZeros.2.2.1 13 = .ok (.aload_n 0, 1) := by decide +kernel
theorem dX6_becomeZeros_14 : decode mX6_becomeZeros.2.2.1 14 = .ok (.getfield 21, 3) := by decide +kernel
theorem dX6_becomeZeros_17 : decode mX6_becomeZeros.2.2.1 17 = .ok (.iconst 0, 1) := by decide +kernel
theorem dX6_becomeZeros_18 : decode mX6_becomeZeros.2.2.1 18 = .ok (.iload_n 1, 1) := by decide +kernel
theorem dX6_becomeZeros_19 : decode mX6_becomeZeros.2.2.1 19 = .ok (.iconst 0, 1) := by decide +kernel
theorem dX6_becomeZeros_20 : decode mX6_becomeZeros.2.2.1 20 = .ok (.invokestatic 52, 3) := by decide +kernel
theorem dX6_becomeZeros_23 : decode mX6_becomeZeros.2.2.1 23 = .ok (.aload_n 0, 1) := by decide +kernel
theorem dX6_becomeZeros_24 : decode mX6_becomeZeros.2.2.1 24 = .ok (.iload_n 1, 1) := by decide +kernel
theorem dX6_becomeZeros_25 : decode mX6_becomeZeros.2.2.1 25 = .ok (.putfield 9, 3) := by decide +kernel
theorem dX6_becomeZeros_28 : decode mX6_becomeZeros.2.2.1 28 = .ok (.return_, 1) := by decide +kernel
