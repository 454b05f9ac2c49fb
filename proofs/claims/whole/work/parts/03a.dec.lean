theorem dD_init_0 : decode bD_init 0 = .ok (.aload_n 0, 1) := by decide +kernel
theorem dD_init_1 : decode bD_init 1 = .ok (.invokespecial 3, 3) := by decide +kernel
theorem dD_init_4 : decode bD_init 4 = .ok (.aload_n 0, 1) := by decide +kernel
theorem dD_init_5 : decode bD_init 5 = .ok (.bipush 10, 2) := by decide +kernel
theorem dD_init_7 : decode bD_init 7 = .ok (.newarray .int, 2) := by decide +kernel
theorem dD_init_9 : decode bD_init 9 = .ok (.putfield 9, 3) := by decide +kernel
theorem dD_init_12 : decode bD_init 12 = .ok (.aload_n 0, 1) := by decide +kernel
theorem dD_init_13 : decode bD_init 13 = .ok (.bipush 10, 2) := by decide +kernel
theorem dD_init_15 : decode bD_init 15 = .ok (.newarray .int, 2) := by decide +kernel
theorem dD_init_17 : decode bD_init 17 = .ok (.putfield 15, 3) := by decide +kernel
theorem dD_init_20 : decode bD_init 20 = .ok (.aload_n 0, 1) := by decide +kernel
theorem dD_init_21 : decode bD_init 21 = .ok (.bipush 10, 2) := by decide +kernel
theorem dD_init_23 : decode bD_init 23 = .ok (.newarray .int, 2) := by decide +kernel
theorem dD_init_25 : decode bD_init 25 = .ok (.putfield 18, 3) := by decide +kernel
theorem dD_init_28 : decode bD_init 28 = .ok (.aload_n 0, 1) := by decide +kernel
theorem dD_init_29 : decode bD_init 29 = .ok (.bipush 10, 2) := by decide +kernel
theorem dD_init_31 : decode bD_init 31 = .ok (.newarray .int, 2) := by decide +kernel
theorem dD_init_33 : decode bD_init 33 = .ok (.putfield 21, 3) := by decide +kernel
theorem dD_init_36 : decode bD_init 36 = .ok (.aload_n 0, 1) := by decide +kernel
theorem dD_init_37 : decode bD_init 37 = .ok (.iconst 0, 1) := by decide +kernel
theorem dD_init_38 : decode bD_init 38 = .ok (.putfield 24, 3) := by decide +kernel
theorem dD_init_41 : decode bD_init 41 = .ok (.return_, 1) := by decide +kernel
theorem dD_mayGoOnTo_0 : decode bD_mayGoOnTo 0 = .ok (.aload_n 0, 1) := by decide +kernel
theorem dD_mayGoOnTo_1 : decode bD_mayGoOnTo 1 = .ok (.getfield 24, 3) := by decide +kernel
theorem dD_mayGoOnTo_4 : decode bD_mayGoOnTo 4 = .ok (.bipush 10, 2) := by decide +kernel
theorem dD_mayGoOnTo_6 : decode bD_mayGoOnTo 6 = .ok (.if_icmp .ge 16, 3) := by decide +kernel
theorem dD_mayGoOnTo_9 : decode bD_mayGoOnTo 9 = .ok (.iload_n 2, 1) := by decide +kernel
theorem dD_mayGoOnTo_10 : decode bD_mayGoOnTo 10 = .ok (.sipush (-3000), 3) := by decide +kernel
theorem dD_mayGoOnTo_13 : decode bD_mayGoOnTo 13 = .ok (.sipush 3000, 3) := by decide +kernel
theorem dD_mayGoOnTo_16 : decode bD_mayGoOnTo 16 = .ok (.invokestatic 28, 3) := by decide +kernel
theorem dD_mayGoOnTo_19 : decode bD_mayGoOnTo 19 = .ok (.ifCond .ne 5, 3) := by decide +kernel
theorem dD_mayGoOnTo_22 : decode bD_mayGoOnTo 22 = .ok (.iconst 0, 1) := by decide +kernel
theorem dD_mayGoOnTo_23 : decode bD_mayGoOnTo 23 = .ok (.ireturn, 1) := by decide +kernel
theorem dD_mayGoOnTo_24 : decode bD_mayGoOnTo 24 = .ok (.aload_n 0, 1) := by decide +kernel
theorem dD_mayGoOnTo_25 : decode bD_mayGoOnTo 25 = .ok (.getfield 24, 3) := by decide +kernel
theorem dD_mayGoOnTo_28 : decode bD_mayGoOnTo 28 = .ok (.ifCond .ne 7, 3) := by decide +kernel
theorem dD_mayGoOnTo_31 : decode bD_mayGoOnTo 31 = .ok (.iconst 0, 1) := by decide +kernel
theorem dD_mayGoOnTo_32 : decode bD_mayGoOnTo 32 = .ok (.goto 17, 3) := by decide +kernel
theorem dD_mayGoOnTo_35 : decode bD_mayGoOnTo 35 = .ok (.aload_n 0, 1) := by decide +kernel
theorem dD_mayGoOnTo_36 : decode bD_mayGoOnTo 36 = .ok (.getfield 9, 3) := by decide +kernel
theorem dD_mayGoOnTo_39 : decode bD_mayGoOnTo 39 = .ok (.aload_n 0, 1) := by decide +kernel
theorem dD_mayGoOnTo_40 : decode bD_mayGoOnTo 40 = .ok (.getfield 24, 3) := by decide +kernel
theorem dD_mayGoOnTo_43 : decode bD_mayGoOnTo 43 = .ok (.iconst 1, 1) := by decide +kernel
theorem dD_mayGoOnTo_44 : decode bD_mayGoOnTo 44 = .ok (.isub, 1) := by decide +kernel
theorem dD_mayGoOnTo_45 : decode bD_mayGoOnTo 45 = .ok (.iaload, 1) := by decide +kernel
theorem dD_mayGoOnTo_46 : decode bD_mayGoOnTo 46 = .ok (.bipush 100, 2) := by decide +kernel
theorem dD_mayGoOnTo_48 : decode bD_mayGoOnTo 48 = .ok (.iadd, 1) := by decide +kernel
theorem dD_mayGoOnTo_49 : decode bD_mayGoOnTo 49 = .ok (.istore_n 3, 1) := by decide +kernel
theorem dD_mayGoOnTo_50 : decode bD_mayGoOnTo 50 = .ok (.iload_n 1, 1) := by decide +kernel
theorem dD_mayGoOnTo_51 : decode bD_mayGoOnTo 51 = .ok (.iload_n 3, 1) := by decide +kernel
theorem dD_mayGoOnTo_52 : decode bD_mayGoOnTo 52 = .ok (.ldc 32, 2) := by decide +kernel
theorem dD_mayGoOnTo_54 : decode bD_mayGoOnTo 54 = .ok (.invokestatic 28, 3) := by decide +kernel
theorem dD_mayGoOnTo_57 : decode bD_mayGoOnTo 57 = .ok (.ireturn, 1) := by decide +kernel
theorem dD_goOnTo_0 : decode bD_goOnTo 0 = .ok (.aload_n 0, 1) := by decide +kernel
theorem dD_goOnTo_1 : decode bD_goOnTo 1 = .ok (.getfield 24, 3) := by decide +kernel
theorem dD_goOnTo_4 : decode bD_goOnTo 4 = .ok (.bipush 10, 2) := by decide +kernel
theorem dD_goOnTo_6 : decode bD_goOnTo 6 = .ok (.if_icmp .lt 4, 3) := by decide +kernel
theorem dD_goOnTo_9 : decode bD_goOnTo 9 = .ok (.return_, 1) := by decide +kernel
theorem dD_goOnTo_10 : decode bD_goOnTo 10 = .ok (.aload_n 0, 1) := by decide +kernel
theorem dD_goOnTo_11 : decode bD_goOnTo 11 = .ok (.getfield 9, 3) := by decide +kernel
theorem dD_goOnTo_14 : decode bD_goOnTo 14 = .ok (.aload_n 0, 1) := by decide +kernel
theorem dD_goOnTo_15 : decode bD_goOnTo 15 = .ok (.getfield 24, 3) := by decide +kernel
theorem dD_goOnTo_18 : decode bD_goOnTo 18 = .ok (.iload_n 1, 1) := by decide +kernel
theorem dD_goOnTo_19 : decode bD_goOnTo 19 = .ok (.iastore, 1) := by decide +kernel
theorem dD_goOnTo_20 : decode bD_goOnTo 20 = .ok (.aload_n 0, 1) := by decide +kernel
theorem dD_goOnTo_21 : decode bD_goOnTo 21 = .ok (.getfield 15, 3) := by decide +kernel
theorem dD_goOnTo_24 : decode bD_goOnTo 24 = .ok (.aload_n 0, 1) := by decide +kernel
theorem dD_goOnTo_25 : decode bD_goOnTo 25 = .ok (.getfield 24, 3) := by decide +kernel
theorem dD_goOnTo_28 : decode bD_goOnTo 28 = .ok (.iload_n 2, 1) := by decide +kernel
theorem dD_goOnTo_29 : decode bD_goOnTo 29 = .ok (.iastore, 1) := by decide +kernel
theorem dD_goOnTo_30 : decode bD_goOnTo 30 = .ok (.aload_n 0, 1) := by decide +kernel
theorem dD_goOnTo_31 : decode bD_goOnTo 31 = .ok (.dup, 1) := by decide +kernel
theorem dD_goOnTo_32 : decode bD_goOnTo 32 = .ok (.getfield 24, 3) := by decide +kernel
theorem dD_goOnTo_35 : decode bD_goOnTo 35 = .ok (.iconst 1, 1) := by decide +kernel
theorem dD_goOnTo_36 : decode bD_goOnTo 36 = .ok (.iadd, 1) := by decide +kernel
theorem dD_goOnTo_37 : decode bD_goOnTo 37 = .ok (.putfield 24, 3) := by decide +kernel
theorem dD_goOnTo_40 : decode bD_goOnTo 40 = .ok (.aload_n 0, 1) := by decide +kernel
theorem dD_goOnTo_41 : decode bD_goOnTo 41 = .ok (.getfield 24, 3) := by decide +kernel
theorem dD_goOnTo_44 : decode bD_goOnTo 44 = .ok (.iconst 1, 1) := by decide +kernel
theorem dD_goOnTo_45 : decode bD_goOnTo 45 = .ok (.if_icmp .le 13, 3) := by decide +kernel
theorem dD_goOnTo_48 : decode bD_goOnTo 48 = .ok (.aload_n 0, 1) := by decide +kernel
theorem dD_goOnTo_49 : decode bD_goOnTo 49 = .ok (.aload_n 0, 1) := by decide +kernel
theorem dD_goOnTo_50 : decode bD_goOnTo 50 = .ok (.getfield 24, 3) := by decide +kernel
theorem dD_goOnTo_53 : decode bD_goOnTo 53 = .ok (.iconst 2, 1) := by decide +kernel
theorem dD_goOnTo_54 : decode bD_goOnTo 54 = .ok (.isub, 1) := by decide +kernel
theorem dD_goOnTo_55 : decode bD_goOnTo 55 = .ok (.invokevirtual 33, 3) := by decide +kernel
theorem dD_goOnTo_58 : decode bD_goOnTo 58 = .ok (.return_, 1) := by decide +kernel
theorem dD_measurePiece_0 : decode bD_measurePiece 0 = .ok (.aload_n 0, 1) := by decide +kernel
theorem dD_measurePiece_1 : decode bD_measurePiece 1 = .ok (.iload_n 1, 1) := by decide +kernel
theorem dD_measurePiece_2 : decode bD_measurePiece 2 = .ok (.invokevirtual 37, 3) := by decide +kernel
theorem dD_measurePiece_5 : decode bD_measurePiece 5 = .ok (.i2l, 1) := by decide +kernel
theorem dD_measurePiece_6 : decode bD_measurePiece 6 = .ok (.lstore_n 2, 1) := by decide +kernel
theorem dD_measurePiece_7 : decode bD_measurePiece 7 = .ok (.aload_n 0, 1) := by decide +kernel
theorem dD_measurePiece_8 : decode bD_measurePiece 8 = .ok (.getfield 15, 3) := by decide +kernel
theorem dD_measurePiece_11 : decode bD_measurePiece 11 = .ok (.iload_n 1, 1) := by decide +kernel
theorem dD_measurePiece_12 : decode bD_measurePiece 12 = .ok (.iconst 1, 1) := by decide +kernel
theorem dD_measurePiece_13 : decode bD_measurePiece 13 = .ok (.iadd, 1) := by decide +kernel
theorem dD_measurePiece_14 : decode bD_measurePiece 14 = .ok (.iaload, 1) := by decide +kernel
theorem dD_measurePiece_15 : decode bD_measurePiece 15 = .ok (.aload_n 0, 1) := by decide +kernel
theorem dD_measurePiece_16 : decode bD_measurePiece 16 = .ok (.getfield 15, 3) := by decide +kernel
theorem dD_measurePiece_19 : decode bD_measurePiece 19 = .ok (.iload_n 1, 1) := by decide +kernel
theorem dD_measurePiece_20 : decode bD_measurePiece 20 = .ok (.iaload, 1) := by decide +kernel
theorem dD_measurePiece_21 : decode bD_measurePiece 21 = .ok (.isub, 1) := by decide +kernel
theorem dD_measurePiece_22 : decode bD_measurePiece 22 = .ok (.i2l, 1) := by decide +kernel
theorem dD_measurePiece_23 : decode bD_measurePiece 23 = .ok (.lstore 4, 2) := by decide +kernel
theorem dD_measurePiece_25 : decode bD_measurePiece 25 = .ok (.aload_n 0, 1) := by decide +kernel
theorem dD_measurePiece_26 : decode bD_measurePiece 26 = .ok (.getfield 18, 3) := by decide +kernel
theorem dD_measurePiece_29 : decode bD_measurePiece 29 = .ok (.iload_n 1, 1) := by decide +kernel
theorem dD_measurePiece_30 : decode bD_measurePiece 30 = .ok (.lload_n 2, 1) := by decide +kernel
theorem dD_measurePiece_31 : decode bD_measurePiece 31 = .ok (.lload_n 2, 1) := by decide +kernel
theorem dD_measurePiece_32 : decode bD_measurePiece 32 = .ok (.lmul, 1) := by decide +kernel
theorem dD_measurePiece_33 : decode bD_measurePiece 33 = .ok (.lload 4, 2) := by decide +kernel
theorem dD_measurePiece_35 : decode bD_measurePiece 35 = .ok (.lload 4, 2) := by decide +kernel
theorem dD_measurePiece_37 : decode bD_measurePiece 37 = .ok (.lmul, 1) := by decide +kernel
theorem dD_measurePiece_38 : decode bD_measurePiece 38 = .ok (.ladd, 1) := by decide +kernel
theorem dD_measurePiece_39 : decode bD_measurePiece 39 = .ok (.invokestatic 41, 3) := by decide +kernel
theorem dD_measurePiece_42 : decode bD_measurePiece 42 = .ok (.iastore, 1) := by decide +kernel
theorem dD_measurePiece_43 : decode bD_measurePiece 43 = .ok (.aload_n 0, 1) := by decide +kernel
theorem dD_measurePiece_44 : decode bD_measurePiece 44 = .ok (.getfield 21, 3) := by decide +kernel
theorem dD_measurePiece_47 : decode bD_measurePiece 47 = .ok (.iload_n 1, 1) := by decide +kernel
theorem dD_measurePiece_48 : decode bD_measurePiece 48 = .ok (.ldc2_w 45, 3) := by decide +kernel
theorem dD_measurePiece_51 : decode bD_measurePiece 51 = .ok (.lload 4, 2) := by decide +kernel
theorem dD_measurePiece_53 : decode bD_measurePiece 53 = .ok (.lmul, 1) := by decide +kernel
theorem dD_measurePiece_54 : decode bD_measurePiece 54 = .ok (.lload_n 2, 1) := by decide +kernel
theorem dD_measurePiece_55 : decode bD_measurePiece 55 = .ok (.invokestatic 47, 3) := by decide +kernel
theorem dD_measurePiece_58 : decode bD_measurePiece 58 = .ok (.l2i, 1) := by decide +kernel
theorem dD_measurePiece_59 : decode bD_measurePiece 59 = .ok (.iastore, 1) := by decide +kernel
theorem dD_measurePiece_60 : decode bD_measurePiece 60 = .ok (.return_, 1) := by decide +kernel
theorem dD_rootOf_0 : decode bD_rootOf 0 = .ok (.lconst 0, 1) := by decide +kernel
theorem dD_rootOf_1 : decode bD_rootOf 1 = .ok (.lstore_n 2, 1) := by decide +kernel
theorem dD_rootOf_2 : decode bD_rootOf 2 = .ok (.ldc2_w 51, 3) := by decide +kernel
theorem dD_rootOf_5 : decode bD_rootOf 5 = .ok (.lstore 4, 2) := by decide +kernel
theorem dD_rootOf_7 : decode bD_rootOf 7 = .ok (.iconst 0, 1) := by decide +kernel
theorem dD_rootOf_8 : decode bD_rootOf 8 = .ok (.istore 6, 2) := by decide +kernel
theorem dD_rootOf_10 : decode bD_rootOf 10 = .ok (.iload 6, 2) := by decide +kernel
theorem dD_rootOf_12 : decode bD_rootOf 12 = .ok (.bipush 40, 2) := by decide +kernel
theorem dD_rootOf_14 : decode bD_rootOf 14 = .ok (.if_icmp .ge 50, 3) := by decide +kernel
theorem dD_rootOf_17 : decode bD_rootOf 17 = .ok (.lload_n 2, 1) := by decide +kernel
theorem dD_rootOf_18 : decode bD_rootOf 18 = .ok (.lload 4, 2) := by decide +kernel
theorem dD_rootOf_20 : decode bD_rootOf 20 = .ok (.lcmp, 1) := by decide +kernel
theorem dD_rootOf_21 : decode bD_rootOf 21 = .ok (.ifCond .ge 43, 3) := by decide +kernel
theorem dD_rootOf_24 : decode bD_rootOf 24 = .ok (.lload_n 2, 1) := by decide +kernel
theorem dD_rootOf_25 : decode bD_rootOf 25 = .ok (.lload 4, 2) := by decide +kernel
theorem dD_rootOf_27 : decode bD_rootOf 27 = .ok (.ladd, 1) := by decide +kernel
theorem dD_rootOf_28 : decode bD_rootOf 28 = .ok (.lconst 1, 1) := by decide +kernel
theorem dD_rootOf_29 : decode bD_rootOf 29 = .ok (.ladd, 1) := by decide +kernel
theorem dD_rootOf_30 : decode bD_rootOf 30 = .ok (.ldc2_w 53, 3) := by decide +kernel
theorem dD_rootOf_33 : decode bD_rootOf 33 = .ok (.ldiv, 1) := by decide +kernel
theorem dD_rootOf_34 : decode bD_rootOf 34 = .ok (.lstore 7, 2) := by decide +kernel
theorem dD_rootOf_36 : decode bD_rootOf 36 = .ok (.lload 7, 2) := by decide +kernel
theorem dD_rootOf_38 : decode bD_rootOf 38 = .ok (.lload 7, 2) := by decide +kernel
theorem dD_rootOf_40 : decode bD_rootOf 40 = .ok (.lmul, 1) := by decide +kernel
theorem dD_rootOf_41 : decode bD_rootOf 41 = .ok (.lload_n 0, 1) := by decide +kernel
theorem dD_rootOf_42 : decode bD_rootOf 42 = .ok (.lcmp, 1) := by decide +kernel
theorem dD_rootOf_43 : decode bD_rootOf 43 = .ok (.ifCond .gt 9, 3) := by decide +kernel
theorem dD_rootOf_46 : decode bD_rootOf 46 = .ok (.lload 7, 2) := by decide +kernel
theorem dD_rootOf_48 : decode bD_rootOf 48 = .ok (.lstore_n 2, 1) := by decide +kernel
theorem dD_rootOf_49 : decode bD_rootOf 49 = .ok (.goto 9, 3) := by decide +kernel
theorem dD_rootOf_52 : decode bD_rootOf 52 = .ok (.lload 7, 2) := by decide +kernel
theorem dD_rootOf_54 : decode bD_rootOf 54 = .ok (.lconst 1, 1) := by decide +kernel
theorem dD_rootOf_55 : decode bD_rootOf 55 = .ok (.lsub, 1) := by decide +kernel
theorem dD_rootOf_56 : decode bD_rootOf 56 = .ok (.lstore 4, 2) := by decide +kernel
theorem dD_rootOf_58 : decode bD_rootOf 58 = .ok (.iinc 6 1, 3) := by decide +kernel
theorem dD_rootOf_61 : decode bD_rootOf 61 = .ok (.goto (-51), 3) := by decide +kernel
theorem dD_rootOf_64 : decode bD_rootOf 64 = .ok (.lload_n 2, 1) := by decide +kernel
theorem dD_rootOf_65 : decode bD_rootOf 65 = .ok (.l2i, 1) := by decide +kernel
theorem dD_rootOf_66 : decode bD_rootOf 66 = .ok (.ireturn, 1) := by decide +kernel
theorem dD_hasPoint_0 : decode bD_hasPoint 0 = .ok (.iload_n 1, 1) := by decide +kernel
theorem dD_hasPoint_1 : decode bD_hasPoint 1 = .ok (.iconst 0, 1) := by decide +kernel
theorem dD_hasPoint_2 : decode bD_hasPoint 2 = .ok (.aload_n 0, 1) := by decide +kernel
theorem dD_hasPoint_3 : decode bD_hasPoint 3 = .ok (.getfield 24, 3) := by decide +kernel
theorem dD_hasPoint_6 : decode bD_hasPoint 6 = .ok (.iconst 1, 1) := by decide +kernel
theorem dD_hasPoint_7 : decode bD_hasPoint 7 = .ok (.isub, 1) := by decide +kernel
theorem dD_hasPoint_8 : decode bD_hasPoint 8 = .ok (.invokestatic 28, 3) := by decide +kernel
theorem dD_hasPoint_11 : decode bD_hasPoint 11 = .ok (.ireturn, 1) := by decide +kernel
theorem dD_hasPiece_0 : decode bD_hasPiece 0 = .ok (.iload_n 1, 1) := by decide +kernel
theorem dD_hasPiece_1 : decode bD_hasPiece 1 = .ok (.iconst 0, 1) := by decide +kernel
theorem dD_hasPiece_2 : decode bD_hasPiece 2 = .ok (.aload_n 0, 1) := by decide +kernel
theorem dD_hasPiece_3 : decode bD_hasPiece 3 = .ok (.getfield 24, 3) := by decide +kernel
theorem dD_hasPiece_6 : decode bD_hasPiece 6 = .ok (.iconst 2, 1) := by decide +kernel
theorem dD_hasPiece_7 : decode bD_hasPiece 7 = .ok (.isub, 1) := by decide +kernel
theorem dD_hasPiece_8 : decode bD_hasPiece 8 = .ok (.invokestatic 28, 3) := by decide +kernel
theorem dD_hasPiece_11 : decode bD_hasPiece 11 = .ok (.ireturn, 1) := by decide +kernel
theorem dD_hasPieces_0 : decode bD_hasPieces 0 = .ok (.aload_n 0, 1) := by decide +kernel
theorem dD_hasPieces_1 : decode bD_hasPieces 1 = .ok (.getfield 24, 3) := by decide +kernel
theorem dD_hasPieces_4 : decode bD_hasPieces 4 = .ok (.iconst 2, 1) := by decide +kernel
theorem dD_hasPieces_5 : decode bD_hasPieces 5 = .ok (.if_icmp .lt 7, 3) := by decide +kernel
theorem dD_hasPieces_8 : decode bD_hasPieces 8 = .ok (.iconst 1, 1) := by decide +kernel
theorem dD_hasPieces_9 : decode bD_hasPieces 9 = .ok (.goto 4, 3) := by decide +kernel
theorem dD_hasPieces_12 : decode bD_hasPieces 12 = .ok (.iconst 0, 1) := by decide +kernel
theorem dD_hasPieces_13 : decode bD_hasPieces 13 = .ok (.ireturn, 1) := by decide +kernel
theorem dD_isBetweenPieces_0 : decode bD_isBetweenPieces 0 = .ok (.iload_n 1, 1) := by decide +kernel
theorem dD_isBetweenPieces_1 : decode bD_isBetweenPieces 1 = .ok (.ifCond .le 17, 3) := by decide +kernel
theorem dD_isBetweenPieces_4 : decode bD_isBetweenPieces 4 = .ok (.iload_n 1, 1) := by decide +kernel
theorem dD_isBetweenPieces_5 : decode bD_isBetweenPieces 5 = .ok (.aload_n 0, 1) := by decide +kernel
theorem dD_isBetweenPieces_6 : decode bD_isBetweenPieces 6 = .ok (.getfield 24, 3) := by decide +kernel
theorem dD_isBetweenPieces_9 : decode bD_isBetweenPieces 9 = .ok (.iconst 1, 1) := by decide +kernel
theorem dD_isBetweenPieces_10 : decode bD_isBetweenPieces 10 = .ok (.isub, 1) := by decide +kernel
theorem dD_isBetweenPieces_11 : decode bD_isBetweenPieces 11 = .ok (.if_icmp .ge 7, 3) := by decide +kernel
theorem dD_isBetweenPieces_14 : decode bD_isBetweenPieces 14 = .ok (.iconst 1, 1) := by decide +kernel
theorem dD_isBetweenPieces_15 : decode bD_isBetweenPieces 15 = .ok (.goto 4, 3) := by decide +kernel
theorem dD_isBetweenPieces_18 : decode bD_isBetweenPieces 18 = .ok (.iconst 0, 1) := by decide +kernel
theorem dD_isBetweenPieces_19 : decode bD_isBetweenPieces 19 = .ok (.ireturn, 1) := by decide +kernel
theorem dD_widthOf_0 : decode bD_widthOf 0 = .ok (.aload_n 0, 1) := by decide +kernel
theorem dD_widthOf_1 : decode bD_widthOf 1 = .ok (.getfield 9, 3) := by decide +kernel
theorem dD_widthOf_4 : decode bD_widthOf 4 = .ok (.iload_n 1, 1) := by decide +kernel
theorem dD_widthOf_5 : decode bD_widthOf 5 = .ok (.iconst 1, 1) := by decide +kernel
theorem dD_widthOf_6 : decode bD_widthOf 6 = .ok (.iadd, 1) := by decide +kernel
theorem dD_widthOf_7 : decode bD_widthOf 7 = .ok (.iaload, 1) := by decide +kernel
theorem dD_widthOf_8 : decode bD_widthOf 8 = .ok (.aload_n 0, 1) := by decide +kernel
theorem dD_widthOf_9 : decode bD_widthOf 9 = .ok (.getfield 9, 3) := by decide +kernel
theorem dD_widthOf_12 : decode bD_widthOf 12 = .ok (.iload_n 1, 1) := by decide +kernel
theorem dD_widthOf_13 : decode bD_widthOf 13 = .ok (.iaload, 1) := by decide +kernel
theorem dD_widthOf_14 : decode bD_widthOf 14 = .ok (.isub, 1) := by decide +kernel
theorem dD_widthOf_15 : decode bD_widthOf 15 = .ok (.ireturn, 1) := by decide +kernel
theorem dD_bendAt_0 : decode bD_bendAt 0 = .ok (.aload_n 0, 1) := by decide +kernel
theorem dD_bendAt_1 : decode bD_bendAt 1 = .ok (.iload_n 1, 1) := by decide +kernel
theorem dD_bendAt_2 : decode bD_bendAt 2 = .ok (.invokevirtual 55, 3) := by decide +kernel
theorem dD_bendAt_5 : decode bD_bendAt 5 = .ok (.ifCond .eq 21, 3) := by decide +kernel
theorem dD_bendAt_8 : decode bD_bendAt 8 = .ok (.aload_n 0, 1) := by decide +kernel
theorem dD_bendAt_9 : decode bD_bendAt 9 = .ok (.getfield 21, 3) := by decide +kernel
theorem dD_bendAt_12 : decode bD_bendAt 12 = .ok (.iload_n 1, 1) := by decide +kernel
theorem dD_bendAt_13 : decode bD_bendAt 13 = .ok (.iaload, 1) := by decide +kernel
theorem dD_bendAt_14 : decode bD_bendAt 14 = .ok (.aload_n 0, 1) := by decide +kernel
theorem dD_bendAt_15 : decode bD_bendAt 15 = .ok (.getfield 21, 3) := by decide +kernel
theorem dD_bendAt_18 : decode bD_bendAt 18 = .ok (.iload_n 1, 1) := by decide +kernel
theorem dD_bendAt_19 : decode bD_bendAt 19 = .ok (.iconst 1, 1) := by decide +kernel
theorem dD_bendAt_20 : decode bD_bendAt 20 = .ok (.isub, 1) := by decide +kernel
theorem dD_bendAt_21 : decode bD_bendAt 21 = .ok (.iaload, 1) := by decide +kernel
theorem dD_bendAt_22 : decode bD_bendAt 22 = .ok (.isub, 1) := by decide +kernel
theorem dD_bendAt_23 : decode bD_bendAt 23 = .ok (.goto 4, 3) := by decide +kernel
theorem dD_bendAt_26 : decode bD_bendAt 26 = .ok (.iconst 0, 1) := by decide +kernel
theorem dD_bendAt_27 : decode bD_bendAt 27 = .ok (.ireturn, 1) := by decide +kernel
theorem dD_turnAt_0 : decode bD_turnAt 0 = .ok (.aload_n 0, 1) := by decide +kernel
theorem dD_turnAt_1 : decode bD_turnAt 1 = .ok (.iload_n 1, 1) := by decide +kernel
theorem dD_turnAt_2 : decode bD_turnAt 2 = .ok (.invokevirtual 59, 3) := by decide +kernel
theorem dD_turnAt_5 : decode bD_turnAt 5 = .ok (.invokestatic 62, 3) := by decide +kernel
theorem dD_turnAt_8 : decode bD_turnAt 8 = .ok (.ireturn, 1) := by decide +kernel
theorem dD_pieceOver_0 : decode bD_pieceOver 0 = .ok (.iconst 0, 1) := by decide +kernel
theorem dD_pieceOver_1 : decode bD_pieceOver 1 = .ok (.istore_n 2, 1) := by decide +kernel
theorem dD_pieceOver_2 : decode bD_pieceOver 2 = .ok (.iload_n 2, 1) := by decide +kernel
theorem dD_pieceOver_3 : decode bD_pieceOver 3 = .ok (.aload_n 0, 1) := by decide +kernel
theorem dD_pieceOver_4 : decode bD_pieceOver 4 = .ok (.getfield 24, 3) := by decide +kernel
theorem dD_pieceOver_7 : decode bD_pieceOver 7 = .ok (.iconst 1, 1) := by decide +kernel
theorem dD_pieceOver_8 : decode bD_pieceOver 8 = .ok (.isub, 1) := by decide +kernel
theorem dD_pieceOver_9 : decode bD_pieceOver 9 = .ok (.if_icmp .ge 32, 3) := by decide +kernel
theorem dD_pieceOver_12 : decode bD_pieceOver 12 = .ok (.iload_n 1, 1) := by decide +kernel
theorem dD_pieceOver_13 : decode bD_pieceOver 13 = .ok (.aload_n 0, 1) := by decide +kernel
theorem dD_pieceOver_14 : decode bD_pieceOver 14 = .ok (.getfield 9, 3) := by decide +kernel
theorem dD_pieceOver_17 : decode bD_pieceOver 17 = .ok (.iload_n 2, 1) := by decide +kernel
theorem dD_pieceOver_18 : decode bD_pieceOver 18 = .ok (.iaload, 1) := by decide +kernel
theorem dD_pieceOver_19 : decode bD_pieceOver 19 = .ok (.aload_n 0, 1) := by decide +kernel
theorem dD_pieceOver_20 : decode bD_pieceOver 20 = .ok (.getfield 9, 3) := by decide +kernel
theorem dD_pieceOver_23 : decode bD_pieceOver 23 = .ok (.iload_n 2, 1) := by decide +kernel
theorem dD_pieceOver_24 : decode bD_pieceOver 24 = .ok (.iconst 1, 1) := by decide +kernel
theorem dD_pieceOver_25 : decode bD_pieceOver 25 = .ok (.iadd, 1) := by decide +kernel
theorem dD_pieceOver_26 : decode bD_pieceOver 26 = .ok (.iaload, 1) := by decide +kernel
theorem dD_pieceOver_27 : decode bD_pieceOver 27 = .ok (.invokestatic 28, 3) := by decide +kernel
theorem dD_pieceOver_30 : decode bD_pieceOver 30 = .ok (.ifCond .eq 5, 3) := by decide +kernel
theorem dD_pieceOver_33 : decode bD_pieceOver 33 = .ok (.iload_n 2, 1) := by decide +kernel
theorem dD_pieceOver_34 : decode bD_pieceOver 34 = .ok (.ireturn, 1) := by decide +kernel
theorem dD_pieceOver_35 : decode bD_pieceOver 35 = .ok (.iinc 2 1, 3) := by decide +kernel
theorem dD_pieceOver_38 : decode bD_pieceOver 38 = .ok (.goto (-36), 3) := by decide +kernel
theorem dD_pieceOver_41 : decode bD_pieceOver 41 = .ok (.iconst (-1), 1) := by decide +kernel
theorem dD_pieceOver_42 : decode bD_pieceOver 42 = .ok (.ireturn, 1) := by decide +kernel
theorem dD_pointOnWay_0 : decode bD_pointOnWay 0 = .ok (.iload_n 1, 1) := by decide +kernel
theorem dD_pointOnWay_1 : decode bD_pointOnWay 1 = .ok (.iconst 2, 1) := by decide +kernel
theorem dD_pointOnWay_2 : decode bD_pointOnWay 2 = .ok (.if_icmp .ne 14, 3) := by decide +kernel
theorem dD_pointOnWay_5 : decode bD_pointOnWay 5 = .ok (.aload_n 0, 1) := by decide +kernel
theorem dD_pointOnWay_6 : decode bD_pointOnWay 6 = .ok (.getfield 24, 3) := by decide +kernel
theorem dD_pointOnWay_9 : decode bD_pointOnWay 9 = .ok (.iconst 1, 1) := by decide +kernel
theorem dD_pointOnWay_10 : decode bD_pointOnWay 10 = .ok (.isub, 1) := by decide +kernel
theorem dD_pointOnWay_11 : decode bD_pointOnWay 11 = .ok (.iload_n 2, 1) := by decide +kernel
theorem dD_pointOnWay_12 : decode bD_pointOnWay 12 = .ok (.isub, 1) := by decide +kernel
theorem dD_pointOnWay_13 : decode bD_pointOnWay 13 = .ok (.goto 4, 3) := by decide +kernel
theorem dD_pointOnWay_16 : decode bD_pointOnWay 16 = .ok (.iload_n 2, 1) := by decide +kernel
theorem dD_pointOnWay_17 : decode bD_pointOnWay 17 = .ok (.ireturn, 1) := by decide +kernel
theorem dD_lengthBefore_0 : decode bD_lengthBefore 0 = .ok (.aload_n 0, 1) := by decide +kernel
theorem dD_lengthBefore_1 : decode bD_lengthBefore 1 = .ok (.getfield 18, 3) := by decide +kernel
theorem dD_lengthBefore_4 : decode bD_lengthBefore 4 = .ok (.iload_n 1, 1) := by decide +kernel
theorem dD_lengthBefore_5 : decode bD_lengthBefore 5 = .ok (.iconst 2, 1) := by decide +kernel
theorem dD_lengthBefore_6 : decode bD_lengthBefore 6 = .ok (.if_icmp .ne 14, 3) := by decide +kernel
theorem dD_lengthBefore_9 : decode bD_lengthBefore 9 = .ok (.aload_n 0, 1) := by decide +kernel
theorem dD_lengthBefore_10 : decode bD_lengthBefore 10 = .ok (.getfield 24, 3) := by decide +kernel
theorem dD_lengthBefore_13 : decode bD_lengthBefore 13 = .ok (.iconst 1, 1) := by decide +kernel
theorem dD_lengthBefore_14 : decode bD_lengthBefore 14 = .ok (.isub, 1) := by decide +kernel
theorem dD_lengthBefore_15 : decode bD_lengthBefore 15 = .ok (.iload_n 2, 1) := by decide +kernel
theorem dD_lengthBefore_16 : decode bD_lengthBefore 16 = .ok (.isub, 1) := by decide +kernel
theorem dD_lengthBefore_17 : decode bD_lengthBefore 17 = .ok (.goto 6, 3) := by decide +kernel
theorem dD_lengthBefore_20 : decode bD_lengthBefore 20 = .ok (.iload_n 2, 1) := by decide +kernel
theorem dD_lengthBefore_21 : decode bD_lengthBefore 21 = .ok (.iconst 1, 1) := by decide +kernel
theorem dD_lengthBefore_22 : decode bD_lengthBefore 22 = .ok (.isub, 1) := by decide +kernel
theorem dD_lengthBefore_23 : decode bD_lengthBefore 23 = .ok (.iaload, 1) := by decide +kernel
theorem dD_lengthBefore_24 : decode bD_lengthBefore 24 = .ok (.ireturn, 1) := by decide +kernel
theorem dD_comeNearer_0 : decode bD_comeNearer 0 = .ok (.iconst 0, 1) := by decide +kernel
theorem dD_comeNearer_1 : decode bD_comeNearer 1 = .ok (.istore_n 3, 1) := by decide +kernel
theorem dD_comeNearer_2 : decode bD_comeNearer 2 = .ok (.iload_n 3, 1) := by decide +kernel
theorem dD_comeNearer_3 : decode bD_comeNearer 3 = .ok (.aload_n 0, 1) := by decide +kernel
theorem dD_comeNearer_4 : decode bD_comeNearer 4 = .ok (.getfield 24, 3) := by decide +kernel
theorem dD_comeNearer_7 : decode bD_comeNearer 7 = .ok (.iconst 1, 1) := by decide +kernel
theorem dD_comeNearer_8 : decode bD_comeNearer 8 = .ok (.isub, 1) := by decide +kernel
theorem dD_comeNearer_9 : decode bD_comeNearer 9 = .ok (.if_icmp .ge 43, 3) := by decide +kernel
theorem dD_comeNearer_12 : decode bD_comeNearer 12 = .ok (.iconst 0, 1) := by decide +kernel
theorem dD_comeNearer_13 : decode bD_comeNearer 13 = .ok (.istore 4, 2) := by decide +kernel
theorem dD_comeNearer_15 : decode bD_comeNearer 15 = .ok (.iload 4, 2) := by decide +kernel
theorem dD_comeNearer_17 : decode bD_comeNearer 17 = .ok (.aload_n 1, 1) := by decide +kernel
theorem dD_comeNearer_18 : decode bD_comeNearer 18 = .ok (.getfield 24, 3) := by decide +kernel
theorem dD_comeNearer_21 : decode bD_comeNearer 21 = .ok (.iconst 1, 1) := by decide +kernel
theorem dD_comeNearer_22 : decode bD_comeNearer 22 = .ok (.isub, 1) := by decide +kernel
theorem dD_comeNearer_23 : decode bD_comeNearer 23 = .ok (.if_icmp .ge 23, 3) := by decide +kernel
theorem dD_comeNearer_26 : decode bD_comeNearer 26 = .ok (.aload_n 0, 1) := by decide +kernel
theorem dD_comeNearer_27 : decode bD_comeNearer 27 = .ok (.iload_n 3, 1) := by decide +kernel
theorem dD_comeNearer_28 : decode bD_comeNearer 28 = .ok (.aload_n 1, 1) := by decide +kernel
theorem dD_comeNearer_29 : decode bD_comeNearer 29 = .ok (.iload 4, 2) := by decide +kernel
theorem dD_comeNearer_31 : decode bD_comeNearer 31 = .ok (.iload_n 2, 1) := by decide +kernel
theorem dD_comeNearer_32 : decode bD_comeNearer 32 = .ok (.invokestatic 67, 3) := by decide +kernel
theorem dD_comeNearer_35 : decode bD_comeNearer 35 = .ok (.ifCond .eq 5, 3) := by decide +kernel
theorem dD_comeNearer_38 : decode bD_comeNearer 38 = .ok (.iconst 1, 1) := by decide +kernel
theorem dD_comeNearer_39 : decode bD_comeNearer 39 = .ok (.ireturn, 1) := by decide +kernel
theorem dD_comeNearer_40 : decode bD_comeNearer 40 = .ok (.iinc 4 1, 3) := by decide +kernel
theorem dD_comeNearer_43 : decode bD_comeNearer 43 = .ok (.goto (-28), 3) := by decide +kernel
theorem dD_comeNearer_46 : decode bD_comeNearer 46 = .ok (.iinc 3 1, 3) := by decide +kernel
theorem dD_comeNearer_49 : decode bD_comeNearer 49 = .ok (.goto (-47), 3) := by decide +kernel
theorem dD_comeNearer_52 : decode bD_comeNearer 52 = .ok (.iconst 0, 1) := by decide +kernel
theorem dD_comeNearer_53 : decode bD_comeNearer 53 = .ok (.ireturn, 1) := by decide +kernel
theorem dD_piecesComeNearer_0 : decode bD_piecesComeNearer 0 = .ok (.aload_n 0, 1) := by decide +kernel
theorem dD_piecesComeNearer_1 : decode bD_piecesComeNearer 1 = .ok (.getfield 9, 3) := by decide +kernel
theorem dD_piecesComeNearer_4 : decode bD_piecesComeNearer 4 = .ok (.iload_n 1, 1) := by decide +kernel
theorem dD_piecesComeNearer_5 : decode bD_piecesComeNearer 5 = .ok (.iaload, 1) := by decide +kernel
theorem dD_piecesComeNearer_6 : decode bD_piecesComeNearer 6 = .ok (.aload_n 2, 1) := by decide +kernel
theorem dD_piecesComeNearer_7 : decode bD_piecesComeNearer 7 = .ok (.getfield 9, 3) := by decide +kernel
theorem dD_piecesComeNearer_10 : decode bD_piecesComeNearer 10 = .ok (.iload_n 3, 1) := by decide +kernel
theorem dD_piecesComeNearer_11 : decode bD_piecesComeNearer 11 = .ok (.iaload, 1) := by decide +kernel
theorem dD_piecesComeNearer_12 : decode bD_piecesComeNearer 12 = .ok (.invokestatic 71, 3) := by decide +kernel
theorem dD_piecesComeNearer_15 : decode bD_piecesComeNearer 15 = .ok (.istore 5, 2) := by decide +kernel
theorem dD_piecesComeNearer_17 : decode bD_piecesComeNearer 17 = .ok (.aload_n 0, 1) := by decide +kernel
theorem dD_piecesComeNearer_18 : decode bD_piecesComeNearer 18 = .ok (.getfield 9, 3) := by decide +kernel
theorem dD_piecesComeNearer_21 : decode bD_piecesComeNearer 21 = .ok (.iload_n 1, 1) := by decide +kernel
theorem dD_piecesComeNearer_22 : decode bD_piecesComeNearer 22 = .ok (.iconst 1, 1) := by decide +kernel
theorem dD_piecesComeNearer_23 : decode bD_piecesComeNearer 23 = .ok (.iadd, 1) := by decide +kernel
theorem dD_piecesComeNearer_24 : decode bD_piecesComeNearer 24 = .ok (.iaload, 1) := by decide +kernel
theorem dD_piecesComeNearer_25 : decode bD_piecesComeNearer 25 = .ok (.aload_n 2, 1) := by decide +kernel
theorem dD_piecesComeNearer_26 : decode bD_piecesComeNearer 26 = .ok (.getfield 9, 3) := by decide +kernel
theorem dD_piecesComeNearer_29 : decode bD_piecesComeNearer 29 = .ok (.iload_n 3, 1) := by decide +kernel
theorem dD_piecesComeNearer_30 : decode bD_piecesComeNearer 30 = .ok (.iconst 1, 1) := by decide +kernel
theorem dD_piecesComeNearer_31 : decode bD_piecesComeNearer 31 = .ok (.iadd, 1) := by decide +kernel
theorem dD_piecesComeNearer_32 : decode bD_piecesComeNearer 32 = .ok (.iaload, 1) := by decide +kernel
theorem dD_piecesComeNearer_33 : decode bD_piecesComeNearer 33 = .ok (.invokestatic 75, 3) := by decide +kernel
theorem dD_piecesComeNearer_36 : decode bD_piecesComeNearer 36 = .ok (.istore 6, 2) := by decide +kernel
theorem dD_piecesComeNearer_38 : decode bD_piecesComeNearer 38 = .ok (.iload 5, 2) := by decide +kernel
theorem dD_piecesComeNearer_40 : decode bD_piecesComeNearer 40 = .ok (.iload 6, 2) := by decide +kernel
theorem dD_piecesComeNearer_42 : decode bD_piecesComeNearer 42 = .ok (.if_icmp .gt 8, 3) := by decide +kernel
theorem dD_piecesComeNearer_45 : decode bD_piecesComeNearer 45 = .ok (.iload 4, 2) := by decide +kernel
theorem dD_piecesComeNearer_47 : decode bD_piecesComeNearer 47 = .ok (.ifCond .gt 5, 3) := by decide +kernel
theorem dD_piecesComeNearer_50 : decode bD_piecesComeNearer 50 = .ok (.iconst 0, 1) := by decide +kernel
theorem dD_piecesComeNearer_51 : decode bD_piecesComeNearer 51 = .ok (.ireturn, 1) := by decide +kernel
theorem dD_piecesComeNearer_52 : decode bD_piecesComeNearer 52 = .ok (.aload_n 0, 1) := by decide +kernel
theorem dD_piecesComeNearer_53 : decode bD_piecesComeNearer 53 = .ok (.iload_n 1, 1) := by decide +kernel
theorem dD_piecesComeNearer_54 : decode bD_piecesComeNearer 54 = .ok (.aload_n 2, 1) := by decide +kernel
theorem dD_piecesComeNearer_55 : decode bD_piecesComeNearer 55 = .ok (.iload_n 3, 1) := by decide +kernel
theorem dD_piecesComeNearer_56 : decode bD_piecesComeNearer 56 = .ok (.iload 5, 2) := by decide +kernel
theorem dD_piecesComeNearer_58 : decode bD_piecesComeNearer 58 = .ok (.invokestatic 78, 3) := by decide +kernel
theorem dD_piecesComeNearer_61 : decode bD_piecesComeNearer 61 = .ok (.lstore 7, 2) := by decide +kernel
theorem dD_piecesComeNearer_63 : decode bD_piecesComeNearer 63 = .ok (.aload_n 0, 1) := by decide +kernel
theorem dD_piecesComeNearer_64 : decode bD_piecesComeNearer 64 = .ok (.iload_n 1, 1) := by decide +kernel
theorem dD_piecesComeNearer_65 : decode bD_piecesComeNearer 65 = .ok (.aload_n 2, 1) := by decide +kernel
theorem dD_piecesComeNearer_66 : decode bD_piecesComeNearer 66 = .ok (.iload_n 3, 1) := by decide +kernel
theorem dD_piecesComeNearer_67 : decode bD_piecesComeNearer 67 = .ok (.iload 6, 2) := by decide +kernel
theorem dD_piecesComeNearer_69 : decode bD_piecesComeNearer 69 = .ok (.invokestatic 78, 3) := by decide +kernel
theorem dD_piecesComeNearer_72 : decode bD_piecesComeNearer 72 = .ok (.lstore 9, 2) := by decide +kernel
theorem dD_piecesComeNearer_74 : decode bD_piecesComeNearer 74 = .ok (.lload 7, 2) := by decide +kernel
theorem dD_piecesComeNearer_76 : decode bD_piecesComeNearer 76 = .ok (.lconst 0, 1) := by decide +kernel
theorem dD_piecesComeNearer_77 : decode bD_piecesComeNearer 77 = .ok (.lcmp, 1) := by decide +kernel
theorem dD_piecesComeNearer_78 : decode bD_piecesComeNearer 78 = .ok (.ifCond .ge 10, 3) := by decide +kernel
theorem dD_piecesComeNearer_81 : decode bD_piecesComeNearer 81 = .ok (.lload 9, 2) := by decide +kernel
theorem dD_piecesComeNearer_83 : decode bD_piecesComeNearer 83 = .ok (.lconst 0, 1) := by decide +kernel
theorem dD_piecesComeNearer_84 : decode bD_piecesComeNearer 84 = .ok (.lcmp, 1) := by decide +kernel
theorem dD_piecesComeNearer_85 : decode bD_piecesComeNearer 85 = .ok (.ifCond .gt 17, 3) := by decide +kernel
theorem dD_piecesComeNearer_88 : decode bD_piecesComeNearer 88 = .ok (.lload 7, 2) := by decide +kernel
theorem dD_piecesComeNearer_90 : decode bD_piecesComeNearer 90 = .ok (.lconst 0, 1) := by decide +kernel
theorem dD_piecesComeNearer_91 : decode bD_piecesComeNearer 91 = .ok (.lcmp, 1) := by decide +kernel
theorem dD_piecesComeNearer_92 : decode bD_piecesComeNearer 92 = .ok (.ifCond .le 14, 3) := by decide +kernel
theorem dD_piecesComeNearer_95 : decode bD_piecesComeNearer 95 = .ok (.lload 9, 2) := by decide +kernel
theorem dD_piecesComeNearer_97 : decode bD_piecesComeNearer 97 = .ok (.lconst 0, 1) := by decide +kernel
theorem dD_piecesComeNearer_98 : decode bD_piecesComeNearer 98 = .ok (.lcmp, 1) := by decide +kernel
theorem dD_piecesComeNearer_99 : decode bD_piecesComeNearer 99 = .ok (.ifCond .ge 7, 3) := by decide +kernel
theorem dD_piecesComeNearer_102 : decode bD_piecesComeNearer 102 = .ok (.iconst 1, 1) := by decide +kernel
theorem dD_piecesComeNearer_103 : decode bD_piecesComeNearer 103 = .ok (.goto 4, 3) := by decide +kernel
theorem dD_piecesComeNearer_106 : decode bD_piecesComeNearer 106 = .ok (.iconst 0, 1) := by decide +kernel
theorem dD_piecesComeNearer_107 : decode bD_piecesComeNearer 107 = .ok (.istore 11, 2) := by decide +kernel
theorem dD_piecesComeNearer_109 : decode bD_piecesComeNearer 109 = .ok (.iload 4, 2) := by decide +kernel
theorem dD_piecesComeNearer_111 : decode bD_piecesComeNearer 111 = .ok (.i2l, 1) := by decide +kernel
theorem dD_piecesComeNearer_112 : decode bD_piecesComeNearer 112 = .ok (.aload_n 0, 1) := by decide +kernel
theorem dD_piecesComeNearer_113 : decode bD_piecesComeNearer 113 = .ok (.iload_n 1, 1) := by decide +kernel
theorem dD_piecesComeNearer_114 : decode bD_piecesComeNearer 114 = .ok (.invokevirtual 37, 3) := by decide +kernel
theorem dD_piecesComeNearer_117 : decode bD_piecesComeNearer 117 = .ok (.i2l, 1) := by decide +kernel
theorem dD_piecesComeNearer_118 : decode bD_piecesComeNearer 118 = .ok (.lmul, 1) := by decide +kernel
theorem dD_piecesComeNearer_119 : decode bD_piecesComeNearer 119 = .ok (.aload_n 2, 1) := by decide +kernel
theorem dD_piecesComeNearer_120 : decode bD_piecesComeNearer 120 = .ok (.iload_n 3, 1) := by decide +kernel
theorem dD_piecesComeNearer_121 : decode bD_piecesComeNearer 121 = .ok (.invokevirtual 37, 3) := by decide +kernel
