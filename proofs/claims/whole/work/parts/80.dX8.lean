theorem dX8_init_0 : decode mX8_init.2.2.1 0 = .ok (.aload_n 0, 1) := by decide +kernel
theorem dX8_init_1 : decode mX8_init.2.2.1 1 = .ok (.invokespecial 3, 3) := by decide +kernel
theorem dX8_init_4 : decode mX8_init.2.2.1 4 = .ok (.aload_n 0, 1) := by decide +kernel
theorem dX8_init_5 : decode mX8_init.2.2.1 5 = .ok (.iconst 0, 1) := by decide +kernel
theorem dX8_init_6 : decode mX8_init.2.2.1 6 = .ok (.putfield 9, 3) := by decide +kernel
theorem dX8_init_9 : decode mX8_init.2.2.1 9 = .ok (.aload_n 0, 1) := by decide +kernel
theorem dX8_init_10 : decode mX8_init.2.2.1 10 = .ok (.iconst 0, 1) := by decide +kernel
theorem dX8_init_11 : decode mX8_init.2.2.1 11 = .ok (.putfield 15, 3) := by decide +kernel
theorem dX8_init_14 : decode mX8_init.2.2.1 14 = .ok (.aload_n 0, 1) := by decide +kernel
theorem dX8_init_15 : decode mX8_init.2.2.1 15 = .ok (.iconst 0, 1) := by decide +kernel
theorem dX8_init_16 : decode mX8_init.2.2.1 16 = .ok (.putfield 18, 3) := by decide +kernel
theorem dX8_init_19 : decode mX8_init.2.2.1 19 = .ok (.aload_n 0, 1) := by decide +kernel
theorem dX8_init_20 : decode mX8_init.2.2.1 20 = .ok (.iconst 0, 1) := by decide +kernel
theorem dX8_init_21 : decode mX8_init.2.2.1 21 = .ok (.putfield 21, 3) := by decide +kernel
theorem dX8_init_24 : decode mX8_init.2.2.1 24 = .ok (.aload_n 0, 1) := by decide +kernel
theorem dX8_init_25 : decode mX8_init.2.2.1 25 = .ok (.bipush 16, 2) := by decide +kernel
theorem dX8_init_27 : decode mX8_init.2.2.1 27 = .ok (.newarray .int, 2) := by decide +kernel
theorem dX8_init_29 : decode mX8_init.2.2.1 29 = .ok (.putfield 24, 3) := by decide +kernel
theorem dX8_init_32 : decode mX8_init.2.2.1 32 = .ok (.aload_n 0, 1) := by decide +kernel
theorem dX8_init_33 : decode mX8_init.2.2.1 33 = .ok (.bipush 16, 2) := by decide +kernel
theorem dX8_init_35 : decode mX8_init.2.2.1 35 = .ok (.newarray .int, 2) := by decide +kernel
theorem dX8_init_37 : decode mX8_init.2.2.1 37 = .ok (.putfield 28, 3) := by decide +kernel
theorem dX8_init_40 : decode mX8_init.2.2.1 40 = .ok (.aload_n 0, 1) := by decide +kernel
theorem dX8_init_41 : decode mX8_init.2.2.1 41 = .ok (.bipush 16, 2) := by decide +kernel
theorem dX8_init_43 : decode mX8_init.2.2.1 43 = .ok (.newarray .int, 2) := by decide +kernel
theorem dX8_init_45 : decode mX8_init.2.2.1 45 = .ok (.putfield 31, 3) := by decide +kernel
theorem dX8_init_48 : decode mX8_init.2.2.1 48 = .ok (.aload_n 0, 1) := by decide +kernel
theorem dX8_init_49 : decode mX8_init.2.2.1 49 = .ok (.new 34, 3) := by decide +kernel
theorem dX8_init_52 : decode mX8_init.2.2.1 52 = .ok (.dup, 1) := by decide +kernel
theorem dX8_init_53 : decode mX8_init.2.2.1 53 = .ok (.bipush 20, 2) := by decide +kernel
theorem dX8_init_55 : decode mX8_init.2.2.1 55 = .ok (.invokespecial 36, 3) := by decide +kernel
theorem dX8_init_58 : decode mX8_init.2.2.1 58 = .ok (.putfield 39, 3) := by decide +kernel
theorem dX8_init_61 : decode mX8_init.2.2.1 61 = .ok (.aload_n 0, 1) := by decide +kernel
theorem dX8_init_62 : decode mX8_init.2.2.1 62 = .ok (.new 34, 3) := by decide +kernel
theorem dX8_init_65 : decode mX8_init.2.2.1 65 = .ok (.dup, 1) := by decide +kernel
theorem dX8_init_66 : decode mX8_init.2.2.1 66 = .ok (.sipush 1280, 3) := by decide +kernel
theorem dX8_init_69 : decode mX8_init.2.2.1 69 = .ok (.invokespecial 36, 3) := by decide +kernel
theorem dX8_init_72 : decode mX8_init.2.2.1 72 = .ok (.putfield 43, 3) := by decide +kernel
theorem dX8_init_75 : decode mX8_init.2.2.1 75 = .ok (.return_, 1) := by decide +kernel
theorem dX8_isSet_0 : decode mX8_isSet.2.2.1 0 = .ok (.aload_n 0, 1) := by decide +kernel
theorem dX8_isSet_1 : decode mX8_isSet.2.2.1 1 = .ok (.getfield 18, 3) := by decide +kernel
theorem dX8_isSet_4 : decode mX8_isSet.2.2.1 4 = .ok (.ifCond .le 7, 3) := by decide +kernel
theorem dX8_isSet_7 : decode mX8_isSet.2.2.1 7 = .ok (.iconst 1, 1) := by decide +kernel
theorem dX8_isSet_8 : decode mX8_isSet.2.2.1 8 = .ok (.goto 4, 3) := by decide +kernel
theorem dX8_isSet_11 : decode mX8_isSet.2.2.1 11 = .ok (.iconst 0, 1) := by decide +kernel
theorem dX8_isSet_12 : decode mX8_isSet.2.2.1 12 = .ok (.ireturn, 1) := by decide +kernel
theorem dX8_isPiece_0 : decode mX8_isPiece.2.2.1 0 = .ok (.lload_n 1, 1) := by decide +kernel
theorem dX8_isPiece_1 : decode mX8_isPiece.2.2.1 1 = .ok (.lconst 0, 1) := by decide +kernel
theorem dX8_isPiece_2 : decode mX8_isPiece.2.2.1 2 = .ok (.lcmp, 1) := by decide +kernel
theorem dX8_isPiece_3 : decode mX8_isPiece.2.2.1 3 = .ok (.ifCond .lt 25, 3) := by decide +kernel
theorem dX8_isPiece_6 : decode mX8_isPiece.2.2.1 6 = .ok (.lload_n 1, 1) := by decide +kernel
theorem dX8_isPiece_7 : decode mX8_isPiece.2.2.1 7 = .ok (.aload_n 0, 1) := by decide +kernel
theorem dX8_isPiece_8 : decode mX8_isPiece.2.2.1 8 = .ok (.getfield 18, 3) := by decide +kernel
theorem dX8_isPiece_11 : decode mX8_isPiece.2.2.1 11 = .ok (.i2l, 1) := by decide +kernel
theorem dX8_isPiece_12 : decode mX8_isPiece.2.2.1 12 = .ok (.lcmp, 1) := by decide +kernel
theorem dX8_isPiece_13 : decode mX8_isPiece.2.2.1 13 = .ok (.ifCond .ge 15, 3) := by decide +kernel
theorem dX8_isPiece_16 : decode mX8_isPiece.2.2.1 16 = .ok (.lload_n 1, 1) := by decide +kernel
theorem dX8_isPiece_17 : decode mX8_isPiece.2.2.1 17 = .ok (.ldc2_w 46, 3) := by decide +kernel
theorem dX8_isPiece_20 : decode mX8_isPiece.2.2.1 20 = .ok (.lcmp, 1) := by decide +kernel
theorem dX8_isPiece_21 : decode mX8_isPiece.2.2.1 21 = .ok (.ifCond .ge 7, 3) := by decide +kernel
theorem dX8_isPiece_24 : decode mX8_isPiece.2.2.1 24 = .ok (.iconst 1, 1) := by decide +kernel
theorem dX8_isPiece_25 : decode mX8_isPiece.2.2.1 25 = .ok (.goto 4, 3) := by decide +kernel
theorem dX8_isPiece_28 : decode mX8_isPiece.2.2.1 28 = .ok (.iconst 0, 1) := by decide +kernel
theorem dX8_isPiece_29 : decode mX8_isPiece.2.2.1 29 = .ok (.ireturn, 1) := by decide +kernel
theorem dX8_pieceBegin_0 : decode mX8_pieceBegin.2.2.1 0 = .ok (.iload_n 1, 1) := by decide +kernel
theorem dX8_pieceBegin_1 : decode mX8_pieceBegin.2.2.1 1 = .ok (.aload_n 0, 1) := by decide +kernel
theorem dX8_pieceBegin_2 : decode mX8_pieceBegin.2.2.1 2 = .ok (.getfield 15, 3) := by decide +kernel
theorem dX8_pieceBegin_5 : decode mX8_pieceBegin.2.2.1 5 = .ok (.imul, 1) := by decide +kernel
theorem dX8_pieceBegin_6 : decode mX8_pieceBegin.2.2.1 6 = .ok (.ireturn, 1) := by decide +kernel
theorem dX8_pieceSize_0 : decode mX8_pieceSize.2.2.1 0 = .ok (.aload_n 0, 1) := by decide +kernel
theorem dX8_pieceSize_1 : decode mX8_pieceSize.2.2.1 1 = .ok (.getfield 15, 3) := by decide +kernel
theorem dX8_pieceSize_4 : decode mX8_pieceSize.2.2.1 4 = .ok (.aload_n 0, 1) := by decide +kernel
theorem dX8_pieceSize_5 : decode mX8_pieceSize.2.2.1 5 = .ok (.getfield 9, 3) := by decide +kernel
theorem dX8_pieceSize_8 : decode mX8_pieceSize.2.2.1 8 = .ok (.aload_n 0, 1) := by decide +kernel
theorem dX8_pieceSize_9 : decode mX8_pieceSize.2.2.1 9 = .ok (.iload_n 1, 1) := by decide +kernel
theorem dX8_pieceSize_10 : decode mX8_pieceSize.2.2.1 10 = .ok (.invokevirtual 48, 3) := by decide +kernel
theorem dX8_pieceSize_13 : decode mX8_pieceSize.2.2.1 13 = .ok (.isub, 1) := by decide +kernel
theorem dX8_pieceSize_14 : decode mX8_pieceSize.2.2.1 14 = .ok (.invokestatic 52, 3) := by decide +kernel
theorem dX8_pieceSize_17 : decode mX8_pieceSize.2.2.1 17 = .ok (.ireturn, 1) := by decide +kernel
theorem dX8_blockSize_0 : decode mX8_blockSize.2.2.1 0 = .ok (.bipush 64, 2) := by decide +kernel
theorem dX8_blockSize_2 : decode mX8_blockSize.2.2.1 2 = .ok (.aload_n 0, 1) := by decide +kernel
theorem dX8_blockSize_3 : decode mX8_blockSize.2.2.1 3 = .ok (.iload_n 1, 1) := by decide +kernel
theorem dX8_blockSize_4 : decode mX8_blockSize.2.2.1 4 = .ok (.invokevirtual 58, 3) := by decide +kernel
theorem dX8_blockSize_7 : decode mX8_blockSize.2.2.1 7 = .ok (.bipush 64, 2) := by decide +kernel
theorem dX8_blockSize_9 : decode mX8_blockSize.2.2.1 9 = .ok (.iload_n 2, 1) := by decide +kernel
theorem dX8_blockSize_10 : decode mX8_blockSize.2.2.1 10 = .ok (.imul, 1) := by decide +kernel
theorem dX8_blockSize_11 : decode mX8_blockSize.2.2.1 11 = .ok (.isub, 1) := by decide +kernel
theorem dX8_blockSize_12 : decode mX8_blockSize.2.2.1 12 = .ok (.invokestatic 52, 3) := by decide +kernel
theorem dX8_blockSize_15 : decode mX8_blockSize.2.2.1 15 = .ok (.ireturn, 1) := by decide +kernel
theorem dX8_allBlocks_0 : decode mX8_allBlocks.2.2.1 0 = .ok (.iconst 1, 1) := by decide +kernel
theorem dX8_allBlocks_1 : decode mX8_allBlocks.2.2.1 1 = .ok (.aload_n 0, 1) := by decide +kernel
theorem dX8_allBlocks_2 : decode mX8_allBlocks.2.2.1 2 = .ok (.iload_n 1, 1) := by decide +kernel
theorem dX8_allBlocks_3 : decode mX8_allBlocks.2.2.1 3 = .ok (.invokevirtual 58, 3) := by decide +kernel
theorem dX8_allBlocks_6 : decode mX8_allBlocks.2.2.1 6 = .ok (.bipush 64, 2) := by decide +kernel
theorem dX8_allBlocks_8 : decode mX8_allBlocks.2.2.1 8 = .ok (.invokestatic 61, 3) := by decide +kernel
theorem dX8_allBlocks_11 : decode mX8_allBlocks.2.2.1 11 = .ok (.ishl, 1) := by decide +kernel
theorem dX8_allBlocks_12 : decode mX8_allBlocks.2.2.1 12 = .ok (.iconst 1, 1) := by decide +kernel
theorem dX8_allBlocks_13 : decode mX8_allBlocks.2.2.1 13 = .ok (.isub, 1) := by decide +kernel
theorem dX8_allBlocks_14 : decode mX8_allBlocks.2.2.1 14 = .ok (.ireturn, 1) := by decide +kernel
theorem dX8_allPieces_0 : decode mX8_allPieces.2.2.1 0 = .ok (.aload_n 0, 1) := by decide +kernel
theorem dX8_allPieces_1 : decode mX8_allPieces.2.2.1 1 = .ok (.getfield 18, 3) := by decide +kernel
theorem dX8_allPieces_4 : decode mX8_allPieces.2.2.1 4 = .ok (.bipush 64, 2) := by decide +kernel
theorem dX8_allPieces_6 : decode mX8_allPieces.2.2.1 6 = .ok (.if_icmp .lt 9, 3) := by decide +kernel
theorem dX8_allPieces_9 : decode mX8_allPieces.2.2.1 9 = .ok (.ldc2_w 64, 3) := by decide +kernel
theorem dX8_allPieces_12 : decode mX8_allPieces.2.2.1 12 = .ok (.goto 11, 3) := by decide +kernel
theorem dX8_allPieces_15 : decode mX8_allPieces.2.2.1 15 = .ok (.lconst 1, 1) := by decide +kernel
theorem dX8_allPieces_16 : decode mX8_allPieces.2.2.1 16 = .ok (.aload_n 0, 1) := by decide +kernel
theorem dX8_allPieces_17 : decode mX8_allPieces.2.2.1 17 = .ok (.getfield 18, 3) := by decide +kernel
theorem dX8_allPieces_20 : decode mX8_allPieces.2.2.1 20 = .ok (.lshl, 1) := by decide +kernel
theorem dX8_allPieces_21 : decode mX8_allPieces.2.2.1 21 = .ok (.lconst 1, 1) := by decide +kernel
theorem dX8_allPieces_22 : decode mX8_allPieces.2.2.1 22 = .ok (.lsub, 1) := by decide +kernel
theorem dX8_allPieces_23 : decode mX8_allPieces.2.2.1 23 = .ok (.lreturn, 1) := by decide +kernel
theorem dX8_bitfieldBytes_0 : decode mX8_bitfieldBytes.2.2.1 0 = .ok (.aload_n 0, 1) := by decide +kernel
theorem dX8_bitfieldBytes_1 : decode mX8_bitfieldBytes.2.2.1 1 = .ok (.getfield 18, 3) := by decide +kernel
theorem dX8_bitfieldBytes_4 : decode mX8_bitfieldBytes.2.2.1 4 = .ok (.bipush 8, 2) := by decide +kernel
theorem dX8_bitfieldBytes_6 : decode mX8_bitfieldBytes.2.2.1 6 = .ok (.invokestatic 61, 3) := by decide +kernel
theorem dX8_bitfieldBytes_9 : decode mX8_bitfieldBytes.2.2.1 9 = .ok (.ireturn, 1) := by decide +kernel
theorem dX8_writeHello_0 : decode mX8_writeHello.2.2.1 0 = .ok (.aload_n 1, 1) := by decide +kernel
theorem dX8_writeHello_1 : decode mX8_writeHello.2.2.1 1 = .ok (.iconst 0, 1) := by decide +kernel
theorem dX8_writeHello_2 : decode mX8_writeHello.2.2.1 2 = .ok (.invokevirtual 66, 3) := by decide +kernel
theorem dX8_writeHello_5 : decode mX8_writeHello.2.2.1 5 = .ok (.aload_n 1, 1) := by decide +kernel
theorem dX8_writeHello_6 : decode mX8_writeHello.2.2.1 6 = .ok (.ldc 69, 2) := by decide +kernel
theorem dX8_writeHello_8 : decode mX8_writeHello.2.2.1 8 = .ok (.invokevirtual 71, 3) := by decide +kernel
theorem dX8_writeHello_11 : decode mX8_writeHello.2.2.1 11 = .ok (.invokevirtual 76, 3) := by decide +kernel
theorem dX8_writeHello_14 : decode mX8_writeHello.2.2.1 14 = .ok (.aload_n 1, 1) := by decide +kernel
theorem dX8_writeHello_15 : decode mX8_writeHello.2.2.1 15 = .ok (.ldc 69, 2) := by decide +kernel
theorem dX8_writeHello_17 : decode mX8_writeHello.2.2.1 17 = .ok (.invokevirtual 79, 3) := by decide +kernel
theorem dX8_writeHello_20 : decode mX8_writeHello.2.2.1 20 = .ok (.aload_n 1, 1) := by decide +kernel
theorem dX8_writeHello_21 : decode mX8_writeHello.2.2.1 21 = .ok (.iconst 0, 1) := by decide +kernel
theorem dX8_writeHello_22 : decode mX8_writeHello.2.2.1 22 = .ok (.invokevirtual 83, 3) := by decide +kernel
theorem dX8_writeHello_25 : decode mX8_writeHello.2.2.1 25 = .ok (.aload_n 1, 1) := by decide +kernel
theorem dX8_writeHello_26 : decode mX8_writeHello.2.2.1 26 = .ok (.iconst 0, 1) := by decide +kernel
theorem dX8_writeHello_27 : decode mX8_writeHello.2.2.1 27 = .ok (.invokevirtual 83, 3) := by decide +kernel
theorem dX8_writeHello_30 : decode mX8_writeHello.2.2.1 30 = .ok (.aload_n 1, 1) := by decide +kernel
theorem dX8_writeHello_31 : decode mX8_writeHello.2.2.1 31 = .ok (.aload_n 0, 1) := by decide +kernel
theorem dX8_writeHello_32 : decode mX8_writeHello.2.2.1 32 = .ok (.getfield 39, 3) := by decide +kernel
theorem dX8_writeHello_35 : decode mX8_writeHello.2.2.1 35 = .ok (.iconst 0, 1) := by decide +kernel
theorem dX8_writeHello_36 : decode mX8_writeHello.2.2.1 36 = .ok (.bipush 20, 2) := by decide +kernel
theorem dX8_writeHello_38 : decode mX8_writeHello.2.2.1 38 = .ok (.invokevirtual 86, 3) := by decide +kernel
theorem dX8_writeHello_41 : decode mX8_writeHello.2.2.1 41 = .ok (.aload_n 1, 1) := by decide +kernel
theorem dX8_writeHello_42 : decode mX8_writeHello.2.2.1 42 = .ok (.ldc 90, 2) := by decide +kernel
theorem dX8_writeHello_44 : decode mX8_writeHello.2.2.1 44 = .ok (.invokevirtual 79, 3) := by decide +kernel
theorem dX8_writeHello_47 : decode mX8_writeHello.2.2.1 47 = .ok (.aload_n 1, 1) := by decide +kernel
theorem dX8_writeHello_48 : decode mX8_writeHello.2.2.1 48 = .ok (.bipush 48, 2) := by decide +kernel
theorem dX8_writeHello_50 : decode mX8_writeHello.2.2.1 50 = .ok (.iload_n 2, 1) := by decide +kernel
theorem dX8_writeHello_51 : decode mX8_writeHello.2.2.1 51 = .ok (.iadd, 1) := by decide +kernel
theorem dX8_writeHello_52 : decode mX8_writeHello.2.2.1 52 = .ok (.invokevirtual 76, 3) := by decide +kernel
theorem dX8_writeHello_55 : decode mX8_writeHello.2.2.1 55 = .ok (.return_, 1) := by decide +kernel
theorem dX8_isHello_0 : decode mX8_isHello.2.2.1 0 = .ok (.aload_n 1, 1) := by decide +kernel
theorem dX8_isHello_1 : decode mX8_isHello.2.2.1 1 = .ok (.iconst 0, 1) := by decide +kernel
theorem dX8_isHello_2 : decode mX8_isHello.2.2.1 2 = .ok (.invokevirtual 92, 3) := by decide +kernel
theorem dX8_isHello_5 : decode mX8_isHello.2.2.1 5 = .ok (.ldc 69, 2) := by decide +kernel
theorem dX8_isHello_7 : decode mX8_isHello.2.2.1 7 = .ok (.invokevirtual 71, 3) := by decide +kernel
theorem dX8_isHello_10 : decode mX8_isHello.2.2.1 10 = .ok (.if_icmp .eq 5, 3) := by decide +kernel
theorem dX8_isHello_13 : decode mX8_isHello.2.2.1 13 = .ok (.iconst 0, 1) := by decide +kernel
theorem dX8_isHello_14 : decode mX8_isHello.2.2.1 14 = .ok (.ireturn, 1) := by decide +kernel
theorem dX8_isHello_15 : decode mX8_isHello.2.2.1 15 = .ok (.iconst 0, 1) := by decide +kernel
theorem dX8_isHello_16 : decode mX8_isHello.2.2.1 16 = .ok (.istore_n 2, 1) := by decide +kernel
theorem dX8_isHello_17 : decode mX8_isHello.2.2.1 17 = .ok (.iload_n 2, 1) := by decide +kernel
theorem dX8_isHello_18 : decode mX8_isHello.2.2.1 18 = .ok (.ldc 69, 2) := by decide +kernel
theorem dX8_isHello_20 : decode mX8_isHello.2.2.1 20 = .ok (.invokevirtual 71, 3) := by decide +kernel
theorem dX8_isHello_23 : decode mX8_isHello.2.2.1 23 = .ok (.if_icmp .ge 27, 3) := by decide +kernel
theorem dX8_isHello_26 : decode mX8_isHello.2.2.1 26 = .ok (.aload_n 1, 1) := by decide +kernel
theorem dX8_isHello_27 : decode mX8_isHello.2.2.1 27 = .ok (.iconst 1, 1) := by decide +kernel
theorem dX8_isHello_28 : decode mX8_isHello.2.2.1 28 = .ok (.iload_n 2, 1) := by decide +kernel
theorem dX8_isHello_29 : decode mX8_isHello.2.2.1 29 = .ok (.iadd, 1) := by decide +kernel
theorem dX8_isHello_30 : decode mX8_isHello.2.2.1 30 = .ok (.invokevirtual 92, 3) := by decide +kernel
theorem dX8_isHello_33 : decode mX8_isHello.2.2.1 33 = .ok (.ldc 69, 2) := by decide +kernel
theorem dX8_isHello_35 : decode mX8_isHello.2.2.1 35 = .ok (.iload_n 2, 1) := by decide +kernel
theorem dX8_isHello_36 : decode mX8_isHello.2.2.1 36 = .ok (.invokevirtual 95, 3) := by decide +kernel
theorem dX8_isHello_39 : decode mX8_isHello.2.2.1 39 = .ok (.if_icmp .eq 5, 3) := by decide +kernel
theorem dX8_isHello_42 : decode mX8_isHello.2.2.1 42 = .ok (.iconst 0, 1) := by decide +kernel
theorem dX8_isHello_43 : decode mX8_isHello.2.2.1 43 = .ok (.ireturn, 1) := by decide +kernel
theorem dX8_isHello_44 : decode mX8_isHello.2.2.1 44 = .ok (.iinc 2 1, 3) := by decide +kernel
theorem dX8_isHello_47 : decode mX8_isHello.2.2.1 47 = .ok (.goto (-30), 3) := by decide +kernel
theorem dX8_isHello_50 : decode mX8_isHello.2.2.1 50 = .ok (.iconst 0, 1) := by decide +kernel
theorem dX8_isHello_51 : decode mX8_isHello.2.2.1 51 = .ok (.istore_n 2, 1) := by decide +kernel
theorem dX8_isHello_52 : decode mX8_isHello.2.2.1 52 = .ok (.iload_n 2, 1) := by decide +kernel
theorem dX8_isHello_53 : decode mX8_isHello.2.2.1 53 = .ok (.bipush 20, 2) := by decide +kernel
theorem dX8_isHello_55 : decode mX8_isHello.2.2.1 55 = .ok (.if_icmp .ge 30, 3) := by decide +kernel
theorem dX8_isHello_58 : decode mX8_isHello.2.2.1 58 = .ok (.aload_n 1, 1) := by decide +kernel
theorem dX8_isHello_59 : decode mX8_isHello.2.2.1 59 = .ok (.bipush 28, 2) := by decide +kernel
theorem dX8_isHello_61 : decode mX8_isHello.2.2.1 61 = .ok (.iload_n 2, 1) := by decide +kernel
theorem dX8_isHello_62 : decode mX8_isHello.2.2.1 62 = .ok (.iadd, 1) := by decide +kernel
theorem dX8_isHello_63 : decode mX8_isHello.2.2.1 63 = .ok (.invokevirtual 92, 3) := by decide +kernel
theorem dX8_isHello_66 : decode mX8_isHello.2.2.1 66 = .ok (.aload_n 0, 1) := by decide +kernel
theorem dX8_isHello_67 : decode mX8_isHello.2.2.1 67 = .ok (.getfield 39, 3) := by decide +kernel
theorem dX8_isHello_70 : decode mX8_isHello.2.2.1 70 = .ok (.iload_n 2, 1) := by decide +kernel
theorem dX8_isHello_71 : decode mX8_isHello.2.2.1 71 = .ok (.invokevirtual 92, 3) := by decide +kernel
theorem dX8_isHello_74 : decode mX8_isHello.2.2.1 74 = .ok (.if_icmp .eq 5, 3) := by decide +kernel
theorem dX8_isHello_77 : decode mX8_isHello.2.2.1 77 = .ok (.iconst 0, 1) := by decide +kernel
theorem dX8_isHello_78 : decode mX8_isHello.2.2.1 78 = .ok (.ireturn, 1) := by decide +kernel
theorem dX8_isHello_79 : decode mX8_isHello.2.2.1 79 = .ok (.iinc 2 1, 3) := by decide +kernel
theorem dX8_isHello_82 : decode mX8_isHello.2.2.1 82 = .ok (.goto (-30), 3) := by decide +kernel
theorem dX8_isHello_85 : decode mX8_isHello.2.2.1 85 = .ok (.iconst 1, 1) := by decide +kernel
theorem dX8_isHello_86 : decode mX8_isHello.2.2.1 86 = .ok (.ireturn, 1) := by decide +kernel
