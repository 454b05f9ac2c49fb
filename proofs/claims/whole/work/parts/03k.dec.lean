theorem dM_at_20 : decode bM_at 20 = .ok (.iaload, 1) := by decide +kernel
theorem dM_at_21 : decode bM_at 21 = .ok (.if_icmp .ge 97, 3) := by decide +kernel
theorem dM_at_24 : decode bM_at 24 = .ok (.bipush 10, 2) := by decide +kernel
theorem dM_at_26 : decode bM_at 26 = .ok (.iload_n 1, 1) := by decide +kernel
theorem dM_at_27 : decode bM_at 27 = .ok (.imul, 1) := by decide +kernel
theorem dM_at_28 : decode bM_at 28 = .ok (.iload_n 3, 1) := by decide +kernel
theorem dM_at_29 : decode bM_at 29 = .ok (.iadd, 1) := by decide +kernel
theorem dM_at_30 : decode bM_at 30 = .ok (.istore 4, 2) := by decide +kernel
theorem dM_at_32 : decode bM_at 32 = .ok (.iload_n 2, 1) := by decide +kernel
theorem dM_at_33 : decode bM_at 33 = .ok (.aload_n 0, 1) := by decide +kernel
theorem dM_at_34 : decode bM_at 34 = .ok (.getfield 25, 3) := by decide +kernel
theorem dM_at_37 : decode bM_at 37 = .ok (.iload 4, 2) := by decide +kernel
theorem dM_at_39 : decode bM_at 39 = .ok (.iaload, 1) := by decide +kernel
theorem dM_at_40 : decode bM_at 40 = .ok (.aload_n 0, 1) := by decide +kernel
theorem dM_at_41 : decode bM_at 41 = .ok (.getfield 25, 3) := by decide +kernel
theorem dM_at_44 : decode bM_at 44 = .ok (.iload 4, 2) := by decide +kernel
theorem dM_at_46 : decode bM_at 46 = .ok (.iconst 1, 1) := by decide +kernel
theorem dM_at_47 : decode bM_at 47 = .ok (.iadd, 1) := by decide +kernel
theorem dM_at_48 : decode bM_at 48 = .ok (.iaload, 1) := by decide +kernel
theorem dM_at_49 : decode bM_at 49 = .ok (.invokestatic 63, 3) := by decide +kernel
theorem dM_at_52 : decode bM_at 52 = .ok (.ifCond .eq 60, 3) := by decide +kernel
theorem dM_at_55 : decode bM_at 55 = .ok (.aload_n 0, 1) := by decide +kernel
theorem dM_at_56 : decode bM_at 56 = .ok (.getfield 31, 3) := by decide +kernel
theorem dM_at_59 : decode bM_at 59 = .ok (.iload 4, 2) := by decide +kernel
theorem dM_at_61 : decode bM_at 61 = .ok (.laload, 1) := by decide +kernel
theorem dM_at_62 : decode bM_at 62 = .ok (.aload_n 0, 1) := by decide +kernel
theorem dM_at_63 : decode bM_at 63 = .ok (.getfield 31, 3) := by decide +kernel
theorem dM_at_66 : decode bM_at 66 = .ok (.iload 4, 2) := by decide +kernel
theorem dM_at_68 : decode bM_at 68 = .ok (.iconst 1, 1) := by decide +kernel
theorem dM_at_69 : decode bM_at 69 = .ok (.iadd, 1) := by decide +kernel
theorem dM_at_70 : decode bM_at 70 = .ok (.laload, 1) := by decide +kernel
theorem dM_at_71 : decode bM_at 71 = .ok (.aload_n 0, 1) := by decide +kernel
theorem dM_at_72 : decode bM_at 72 = .ok (.getfield 31, 3) := by decide +kernel
theorem dM_at_75 : decode bM_at 75 = .ok (.iload 4, 2) := by decide +kernel
theorem dM_at_77 : decode bM_at 77 = .ok (.laload, 1) := by decide +kernel
theorem dM_at_78 : decode bM_at 78 = .ok (.lsub, 1) := by decide +kernel
theorem dM_at_79 : decode bM_at 79 = .ok (.iload_n 2, 1) := by decide +kernel
theorem dM_at_80 : decode bM_at 80 = .ok (.aload_n 0, 1) := by decide +kernel
theorem dM_at_81 : decode bM_at 81 = .ok (.getfield 25, 3) := by decide +kernel
theorem dM_at_84 : decode bM_at 84 = .ok (.iload 4, 2) := by decide +kernel
theorem dM_at_86 : decode bM_at 86 = .ok (.iaload, 1) := by decide +kernel
theorem dM_at_87 : decode bM_at 87 = .ok (.isub, 1) := by decide +kernel
theorem dM_at_88 : decode bM_at 88 = .ok (.i2l, 1) := by decide +kernel
theorem dM_at_89 : decode bM_at 89 = .ok (.lmul, 1) := by decide +kernel
theorem dM_at_90 : decode bM_at 90 = .ok (.aload_n 0, 1) := by decide +kernel
theorem dM_at_91 : decode bM_at 91 = .ok (.getfield 25, 3) := by decide +kernel
theorem dM_at_94 : decode bM_at 94 = .ok (.iload 4, 2) := by decide +kernel
theorem dM_at_96 : decode bM_at 96 = .ok (.iconst 1, 1) := by decide +kernel
theorem dM_at_97 : decode bM_at 97 = .ok (.iadd, 1) := by decide +kernel
theorem dM_at_98 : decode bM_at 98 = .ok (.iaload, 1) := by decide +kernel
theorem dM_at_99 : decode bM_at 99 = .ok (.aload_n 0, 1) := by decide +kernel
theorem dM_at_100 : decode bM_at 100 = .ok (.getfield 25, 3) := by decide +kernel
theorem dM_at_103 : decode bM_at 103 = .ok (.iload 4, 2) := by decide +kernel
theorem dM_at_105 : decode bM_at 105 = .ok (.iaload, 1) := by decide +kernel
theorem dM_at_106 : decode bM_at 106 = .ok (.isub, 1) := by decide +kernel
theorem dM_at_107 : decode bM_at 107 = .ok (.i2l, 1) := by decide +kernel
theorem dM_at_108 : decode bM_at 108 = .ok (.ldiv, 1) := by decide +kernel
theorem dM_at_109 : decode bM_at 109 = .ok (.ladd, 1) := by decide +kernel
theorem dM_at_110 : decode bM_at 110 = .ok (.l2i, 1) := by decide +kernel
theorem dM_at_111 : decode bM_at 111 = .ok (.ireturn, 1) := by decide +kernel
theorem dM_at_112 : decode bM_at 112 = .ok (.iinc 3 1, 3) := by decide +kernel
theorem dM_at_115 : decode bM_at 115 = .ok (.goto (-103), 3) := by decide +kernel
theorem dM_at_118 : decode bM_at 118 = .ok (.iconst (-1), 1) := by decide +kernel
theorem dM_at_119 : decode bM_at 119 = .ok (.ireturn, 1) := by decide +kernel
theorem dM_longer_0 : decode bM_longer 0 = .ok (.aload_n 0, 1) := by decide +kernel
theorem dM_longer_1 : decode bM_longer 1 = .ok (.iload_n 1, 1) := by decide +kernel
theorem dM_longer_2 : decode bM_longer 2 = .ok (.invokevirtual 134, 3) := by decide +kernel
theorem dM_longer_5 : decode bM_longer 5 = .ok (.ifCond .eq 11, 3) := by decide +kernel
theorem dM_longer_8 : decode bM_longer 8 = .ok (.aload_n 0, 1) := by decide +kernel
theorem dM_longer_9 : decode bM_longer 9 = .ok (.iload_n 1, 1) := by decide +kernel
theorem dM_longer_10 : decode bM_longer 10 = .ok (.invokevirtual 119, 3) := by decide +kernel
theorem dM_longer_13 : decode bM_longer 13 = .ok (.goto 4, 3) := by decide +kernel
theorem dM_longer_16 : decode bM_longer 16 = .ok (.iconst (-1), 1) := by decide +kernel
theorem dM_longer_17 : decode bM_longer 17 = .ok (.ireturn, 1) := by decide +kernel
theorem dM_piece_0 : decode bM_piece 0 = .ok (.aload_n 0, 1) := by decide +kernel
theorem dM_piece_1 : decode bM_piece 1 = .ok (.iload_n 1, 1) := by decide +kernel
theorem dM_piece_2 : decode bM_piece 2 = .ok (.invokevirtual 67, 3) := by decide +kernel
theorem dM_piece_5 : decode bM_piece 5 = .ok (.ifCond .eq 28, 3) := by decide +kernel
theorem dM_piece_8 : decode bM_piece 8 = .ok (.iload_n 2, 1) := by decide +kernel
theorem dM_piece_9 : decode bM_piece 9 = .ok (.iconst 0, 1) := by decide +kernel
theorem dM_piece_10 : decode bM_piece 10 = .ok (.aload_n 0, 1) := by decide +kernel
theorem dM_piece_11 : decode bM_piece 11 = .ok (.getfield 13, 3) := by decide +kernel
theorem dM_piece_14 : decode bM_piece 14 = .ok (.iload_n 1, 1) := by decide +kernel
theorem dM_piece_15 : decode bM_piece 15 = .ok (.iaload, 1) := by decide +kernel
theorem dM_piece_16 : decode bM_piece 16 = .ok (.iconst 2, 1) := by decide +kernel
theorem dM_piece_17 : decode bM_piece 17 = .ok (.isub, 1) := by decide +kernel
theorem dM_piece_18 : decode bM_piece 18 = .ok (.invokestatic 63, 3) := by decide +kernel
theorem dM_piece_21 : decode bM_piece 21 = .ok (.ifCond .eq 12, 3) := by decide +kernel
theorem dM_piece_24 : decode bM_piece 24 = .ok (.iload_n 3, 1) := by decide +kernel
theorem dM_piece_25 : decode bM_piece 25 = .ok (.iconst 0, 1) := by decide +kernel
theorem dM_piece_26 : decode bM_piece 26 = .ok (.iconst 2, 1) := by decide +kernel
theorem dM_piece_27 : decode bM_piece 27 = .ok (.invokestatic 63, 3) := by decide +kernel
theorem dM_piece_30 : decode bM_piece 30 = .ok (.ifCond .ne 5, 3) := by decide +kernel
theorem dM_piece_33 : decode bM_piece 33 = .ok (.iconst (-1), 1) := by decide +kernel
theorem dM_piece_34 : decode bM_piece 34 = .ok (.ireturn, 1) := by decide +kernel
theorem dM_piece_35 : decode bM_piece 35 = .ok (.iload_n 3, 1) := by decide +kernel
theorem dM_piece_36 : decode bM_piece 36 = .ok (.ifCond .ne 13, 3) := by decide +kernel
theorem dM_piece_39 : decode bM_piece 39 = .ok (.aload_n 0, 1) := by decide +kernel
theorem dM_piece_40 : decode bM_piece 40 = .ok (.iload_n 1, 1) := by decide +kernel
theorem dM_piece_41 : decode bM_piece 41 = .ok (.iload_n 2, 1) := by decide +kernel
theorem dM_piece_42 : decode bM_piece 42 = .ok (.invokevirtual 91, 3) := by decide +kernel
theorem dM_piece_45 : decode bM_piece 45 = .ok (.l2i, 1) := by decide +kernel
theorem dM_piece_46 : decode bM_piece 46 = .ok (.goto 25, 3) := by decide +kernel
theorem dM_piece_49 : decode bM_piece 49 = .ok (.iload_n 3, 1) := by decide +kernel
theorem dM_piece_50 : decode bM_piece 50 = .ok (.iconst 1, 1) := by decide +kernel
theorem dM_piece_51 : decode bM_piece 51 = .ok (.if_icmp .ne 12, 3) := by decide +kernel
theorem dM_piece_54 : decode bM_piece 54 = .ok (.aload_n 0, 1) := by decide +kernel
theorem dM_piece_55 : decode bM_piece 55 = .ok (.iload_n 1, 1) := by decide +kernel
theorem dM_piece_56 : decode bM_piece 56 = .ok (.iload_n 2, 1) := by decide +kernel
theorem dM_piece_57 : decode bM_piece 57 = .ok (.invokevirtual 83, 3) := by decide +kernel
theorem dM_piece_60 : decode bM_piece 60 = .ok (.goto 11, 3) := by decide +kernel
theorem dM_piece_63 : decode bM_piece 63 = .ok (.aload_n 0, 1) := by decide +kernel
theorem dM_piece_64 : decode bM_piece 64 = .ok (.iload_n 1, 1) := by decide +kernel
theorem dM_piece_65 : decode bM_piece 65 = .ok (.iload_n 2, 1) := by decide +kernel
theorem dM_piece_66 : decode bM_piece 66 = .ok (.iconst 1, 1) := by decide +kernel
theorem dM_piece_67 : decode bM_piece 67 = .ok (.iadd, 1) := by decide +kernel
theorem dM_piece_68 : decode bM_piece 68 = .ok (.invokevirtual 99, 3) := by decide +kernel
theorem dM_piece_71 : decode bM_piece 71 = .ok (.ireturn, 1) := by decide +kernel
theorem dM_presses_0 : decode bM_presses 0 = .ok (.aload_n 0, 1) := by decide +kernel
theorem dM_presses_1 : decode bM_presses 1 = .ok (.iload_n 1, 1) := by decide +kernel
theorem dM_presses_2 : decode bM_presses 2 = .ok (.invokevirtual 134, 3) := by decide +kernel
theorem dM_presses_5 : decode bM_presses 5 = .ok (.ifCond .eq 19, 3) := by decide +kernel
theorem dM_presses_8 : decode bM_presses 8 = .ok (.iload_n 2, 1) := by decide +kernel
theorem dM_presses_9 : decode bM_presses 9 = .ok (.iconst 1, 1) := by decide +kernel
theorem dM_presses_10 : decode bM_presses 10 = .ok (.aload_n 0, 1) := by decide +kernel
theorem dM_presses_11 : decode bM_presses 11 = .ok (.getfield 13, 3) := by decide +kernel
theorem dM_presses_14 : decode bM_presses 14 = .ok (.iload_n 1, 1) := by decide +kernel
theorem dM_presses_15 : decode bM_presses 15 = .ok (.iaload, 1) := by decide +kernel
theorem dM_presses_16 : decode bM_presses 16 = .ok (.iconst 2, 1) := by decide +kernel
theorem dM_presses_17 : decode bM_presses 17 = .ok (.isub, 1) := by decide +kernel
theorem dM_presses_18 : decode bM_presses 18 = .ok (.invokestatic 63, 3) := by decide +kernel
theorem dM_presses_21 : decode bM_presses 21 = .ok (.ifCond .ne 6, 3) := by decide +kernel
theorem dM_presses_24 : decode bM_presses 24 = .ok (.ldc 140, 2) := by decide +kernel
theorem dM_presses_26 : decode bM_presses 26 = .ok (.ireturn, 1) := by decide +kernel
theorem dM_presses_27 : decode bM_presses 27 = .ok (.aload_n 0, 1) := by decide +kernel
theorem dM_presses_28 : decode bM_presses 28 = .ok (.iload_n 1, 1) := by decide +kernel
theorem dM_presses_29 : decode bM_presses 29 = .ok (.iload_n 2, 1) := by decide +kernel
theorem dM_presses_30 : decode bM_presses 30 = .ok (.invokevirtual 83, 3) := by decide +kernel
theorem dM_presses_33 : decode bM_presses 33 = .ok (.aload_n 0, 1) := by decide +kernel
theorem dM_presses_34 : decode bM_presses 34 = .ok (.iload_n 1, 1) := by decide +kernel
theorem dM_presses_35 : decode bM_presses 35 = .ok (.iload_n 2, 1) := by decide +kernel
theorem dM_presses_36 : decode bM_presses 36 = .ok (.iconst 1, 1) := by decide +kernel
theorem dM_presses_37 : decode bM_presses 37 = .ok (.isub, 1) := by decide +kernel
theorem dM_presses_38 : decode bM_presses 38 = .ok (.invokevirtual 83, 3) := by decide +kernel
theorem dM_presses_41 : decode bM_presses 41 = .ok (.isub, 1) := by decide +kernel
theorem dM_presses_42 : decode bM_presses 42 = .ok (.i2l, 1) := by decide +kernel
theorem dM_presses_43 : decode bM_presses 43 = .ok (.lstore_n 3, 1) := by decide +kernel
theorem dM_presses_44 : decode bM_presses 44 = .ok (.aload_n 0, 1) := by decide +kernel
theorem dM_presses_45 : decode bM_presses 45 = .ok (.getfield 31, 3) := by decide +kernel
theorem dM_presses_48 : decode bM_presses 48 = .ok (.bipush 10, 2) := by decide +kernel
theorem dM_presses_50 : decode bM_presses 50 = .ok (.iload_n 1, 1) := by decide +kernel
theorem dM_presses_51 : decode bM_presses 51 = .ok (.imul, 1) := by decide +kernel
theorem dM_presses_52 : decode bM_presses 52 = .ok (.iload_n 2, 1) := by decide +kernel
theorem dM_presses_53 : decode bM_presses 53 = .ok (.iadd, 1) := by decide +kernel
theorem dM_presses_54 : decode bM_presses 54 = .ok (.laload, 1) := by decide +kernel
theorem dM_presses_55 : decode bM_presses 55 = .ok (.lload_n 3, 1) := by decide +kernel
theorem dM_presses_56 : decode bM_presses 56 = .ok (.lmul, 1) := by decide +kernel
theorem dM_presses_57 : decode bM_presses 57 = .ok (.ldc2_w 110, 3) := by decide +kernel
theorem dM_presses_60 : decode bM_presses 60 = .ok (.ldiv, 1) := by decide +kernel
theorem dM_presses_61 : decode bM_presses 61 = .ok (.l2i, 1) := by decide +kernel
theorem dM_presses_62 : decode bM_presses 62 = .ok (.ireturn, 1) := by decide +kernel
theorem dM_pieceAt_0 : decode bM_pieceAt 0 = .ok (.iconst 0, 1) := by decide +kernel
theorem dM_pieceAt_1 : decode bM_pieceAt 1 = .ok (.istore_n 3, 1) := by decide +kernel
theorem dM_pieceAt_2 : decode bM_pieceAt 2 = .ok (.iload_n 3, 1) := by decide +kernel
theorem dM_pieceAt_3 : decode bM_pieceAt 3 = .ok (.iconst 2, 1) := by decide +kernel
theorem dM_pieceAt_4 : decode bM_pieceAt 4 = .ok (.iadd, 1) := by decide +kernel
theorem dM_pieceAt_5 : decode bM_pieceAt 5 = .ok (.aload_n 0, 1) := by decide +kernel
theorem dM_pieceAt_6 : decode bM_pieceAt 6 = .ok (.getfield 13, 3) := by decide +kernel
theorem dM_pieceAt_9 : decode bM_pieceAt 9 = .ok (.iload_n 1, 1) := by decide +kernel
theorem dM_pieceAt_10 : decode bM_pieceAt 10 = .ok (.iaload, 1) := by decide +kernel
theorem dM_pieceAt_11 : decode bM_pieceAt 11 = .ok (.if_icmp .ge 26, 3) := by decide +kernel
theorem dM_pieceAt_14 : decode bM_pieceAt 14 = .ok (.iload_n 2, 1) := by decide +kernel
theorem dM_pieceAt_15 : decode bM_pieceAt 15 = .ok (.aload_n 0, 1) := by decide +kernel
theorem dM_pieceAt_16 : decode bM_pieceAt 16 = .ok (.getfield 25, 3) := by decide +kernel
theorem dM_pieceAt_19 : decode bM_pieceAt 19 = .ok (.bipush 10, 2) := by decide +kernel
theorem dM_pieceAt_21 : decode bM_pieceAt 21 = .ok (.iload_n 1, 1) := by decide +kernel
theorem dM_pieceAt_22 : decode bM_pieceAt 22 = .ok (.imul, 1) := by decide +kernel
theorem dM_pieceAt_23 : decode bM_pieceAt 23 = .ok (.iload_n 3, 1) := by decide +kernel
theorem dM_pieceAt_24 : decode bM_pieceAt 24 = .ok (.iadd, 1) := by decide +kernel
theorem dM_pieceAt_25 : decode bM_pieceAt 25 = .ok (.iconst 1, 1) := by decide +kernel
theorem dM_pieceAt_26 : decode bM_pieceAt 26 = .ok (.iadd, 1) := by decide +kernel
theorem dM_pieceAt_27 : decode bM_pieceAt 27 = .ok (.iaload, 1) := by decide +kernel
theorem dM_pieceAt_28 : decode bM_pieceAt 28 = .ok (.if_icmp .le 9, 3) := by decide +kernel
theorem dM_pieceAt_31 : decode bM_pieceAt 31 = .ok (.iinc 3 1, 3) := by decide +kernel
theorem dM_pieceAt_34 : decode bM_pieceAt 34 = .ok (.goto (-32), 3) := by decide +kernel
theorem dM_pieceAt_37 : decode bM_pieceAt 37 = .ok (.bipush 10, 2) := by decide +kernel
theorem dM_pieceAt_39 : decode bM_pieceAt 39 = .ok (.iload_n 1, 1) := by decide +kernel
theorem dM_pieceAt_40 : decode bM_pieceAt 40 = .ok (.imul, 1) := by decide +kernel
theorem dM_pieceAt_41 : decode bM_pieceAt 41 = .ok (.iload_n 3, 1) := by decide +kernel
theorem dM_pieceAt_42 : decode bM_pieceAt 42 = .ok (.iadd, 1) := by decide +kernel
theorem dM_pieceAt_43 : decode bM_pieceAt 43 = .ok (.ireturn, 1) := by decide +kernel
theorem dM_apart_0 : decode bM_apart 0 = .ok (.aload_n 0, 1) := by decide +kernel
theorem dM_apart_1 : decode bM_apart 1 = .ok (.iload_n 1, 1) := by decide +kernel
theorem dM_apart_2 : decode bM_apart 2 = .ok (.iload_n 3, 1) := by decide +kernel
theorem dM_apart_3 : decode bM_apart 3 = .ok (.invokevirtual 141, 3) := by decide +kernel
theorem dM_apart_6 : decode bM_apart 6 = .ok (.istore 4, 2) := by decide +kernel
theorem dM_apart_8 : decode bM_apart 8 = .ok (.aload_n 0, 1) := by decide +kernel
theorem dM_apart_9 : decode bM_apart 9 = .ok (.iload_n 2, 1) := by decide +kernel
theorem dM_apart_10 : decode bM_apart 10 = .ok (.iload_n 3, 1) := by decide +kernel
theorem dM_apart_11 : decode bM_apart 11 = .ok (.invokevirtual 141, 3) := by decide +kernel
theorem dM_apart_14 : decode bM_apart 14 = .ok (.istore 5, 2) := by decide +kernel
theorem dM_apart_16 : decode bM_apart 16 = .ok (.aload_n 0, 1) := by decide +kernel
theorem dM_apart_17 : decode bM_apart 17 = .ok (.getfield 25, 3) := by decide +kernel
theorem dM_apart_20 : decode bM_apart 20 = .ok (.iload 4, 2) := by decide +kernel
theorem dM_apart_22 : decode bM_apart 22 = .ok (.iconst 1, 1) := by decide +kernel
theorem dM_apart_23 : decode bM_apart 23 = .ok (.iadd, 1) := by decide +kernel
theorem dM_apart_24 : decode bM_apart 24 = .ok (.iaload, 1) := by decide +kernel
theorem dM_apart_25 : decode bM_apart 25 = .ok (.aload_n 0, 1) := by decide +kernel
theorem dM_apart_26 : decode bM_apart 26 = .ok (.getfield 25, 3) := by decide +kernel
theorem dM_apart_29 : decode bM_apart 29 = .ok (.iload 4, 2) := by decide +kernel
theorem dM_apart_31 : decode bM_apart 31 = .ok (.iaload, 1) := by decide +kernel
theorem dM_apart_32 : decode bM_apart 32 = .ok (.isub, 1) := by decide +kernel
theorem dM_apart_33 : decode bM_apart 33 = .ok (.i2l, 1) := by decide +kernel
theorem dM_apart_34 : decode bM_apart 34 = .ok (.lstore 6, 2) := by decide +kernel
theorem dM_apart_36 : decode bM_apart 36 = .ok (.aload_n 0, 1) := by decide +kernel
theorem dM_apart_37 : decode bM_apart 37 = .ok (.getfield 25, 3) := by decide +kernel
theorem dM_apart_40 : decode bM_apart 40 = .ok (.iload 5, 2) := by decide +kernel
theorem dM_apart_42 : decode bM_apart 42 = .ok (.iconst 1, 1) := by decide +kernel
theorem dM_apart_43 : decode bM_apart 43 = .ok (.iadd, 1) := by decide +kernel
theorem dM_apart_44 : decode bM_apart 44 = .ok (.iaload, 1) := by decide +kernel
theorem dM_apart_45 : decode bM_apart 45 = .ok (.aload_n 0, 1) := by decide +kernel
theorem dM_apart_46 : decode bM_apart 46 = .ok (.getfield 25, 3) := by decide +kernel
theorem dM_apart_49 : decode bM_apart 49 = .ok (.iload 5, 2) := by decide +kernel
theorem dM_apart_51 : decode bM_apart 51 = .ok (.iaload, 1) := by decide +kernel
theorem dM_apart_52 : decode bM_apart 52 = .ok (.isub, 1) := by decide +kernel
theorem dM_apart_53 : decode bM_apart 53 = .ok (.i2l, 1) := by decide +kernel
theorem dM_apart_54 : decode bM_apart 54 = .ok (.lstore 8, 2) := by decide +kernel
theorem dM_apart_56 : decode bM_apart 56 = .ok (.aload_n 0, 1) := by decide +kernel
theorem dM_apart_57 : decode bM_apart 57 = .ok (.getfield 28, 3) := by decide +kernel
theorem dM_apart_60 : decode bM_apart 60 = .ok (.iload 4, 2) := by decide +kernel
theorem dM_apart_62 : decode bM_apart 62 = .ok (.iaload, 1) := by decide +kernel
theorem dM_apart_63 : decode bM_apart 63 = .ok (.i2l, 1) := by decide +kernel
theorem dM_apart_64 : decode bM_apart 64 = .ok (.lload 6, 2) := by decide +kernel
theorem dM_apart_66 : decode bM_apart 66 = .ok (.lmul, 1) := by decide +kernel
theorem dM_apart_67 : decode bM_apart 67 = .ok (.aload_n 0, 1) := by decide +kernel
theorem dM_apart_68 : decode bM_apart 68 = .ok (.getfield 28, 3) := by decide +kernel
theorem dM_apart_71 : decode bM_apart 71 = .ok (.iload 4, 2) := by decide +kernel
theorem dM_apart_73 : decode bM_apart 73 = .ok (.iconst 1, 1) := by decide +kernel
theorem dM_apart_74 : decode bM_apart 74 = .ok (.iadd, 1) := by decide +kernel
theorem dM_apart_75 : decode bM_apart 75 = .ok (.iaload, 1) := by decide +kernel
theorem dM_apart_76 : decode bM_apart 76 = .ok (.aload_n 0, 1) := by decide +kernel
theorem dM_apart_77 : decode bM_apart 77 = .ok (.getfield 28, 3) := by decide +kernel
theorem dM_apart_80 : decode bM_apart 80 = .ok (.iload 4, 2) := by decide +kernel
theorem dM_apart_82 : decode bM_apart 82 = .ok (.iaload, 1) := by decide +kernel
theorem dM_apart_83 : decode bM_apart 83 = .ok (.isub, 1) := by decide +kernel
theorem dM_apart_84 : decode bM_apart 84 = .ok (.i2l, 1) := by decide +kernel
theorem dM_apart_85 : decode bM_apart 85 = .ok (.iload_n 3, 1) := by decide +kernel
theorem dM_apart_86 : decode bM_apart 86 = .ok (.aload_n 0, 1) := by decide +kernel
theorem dM_apart_87 : decode bM_apart 87 = .ok (.getfield 25, 3) := by decide +kernel
theorem dM_apart_90 : decode bM_apart 90 = .ok (.iload 4, 2) := by decide +kernel
theorem dM_apart_92 : decode bM_apart 92 = .ok (.iaload, 1) := by decide +kernel
theorem dM_apart_93 : decode bM_apart 93 = .ok (.isub, 1) := by decide +kernel
theorem dM_apart_94 : decode bM_apart 94 = .ok (.i2l, 1) := by decide +kernel
theorem dM_apart_95 : decode bM_apart 95 = .ok (.lmul, 1) := by decide +kernel
theorem dM_apart_96 : decode bM_apart 96 = .ok (.ladd, 1) := by decide +kernel
theorem dM_apart_97 : decode bM_apart 97 = .ok (.lstore 10, 2) := by decide +kernel
theorem dM_apart_99 : decode bM_apart 99 = .ok (.aload_n 0, 1) := by decide +kernel
theorem dM_apart_100 : decode bM_apart 100 = .ok (.getfield 28, 3) := by decide +kernel
theorem dM_apart_103 : decode bM_apart 103 = .ok (.iload 5, 2) := by decide +kernel
theorem dM_apart_105 : decode bM_apart 105 = .ok (.iaload, 1) := by decide +kernel
theorem dM_apart_106 : decode bM_apart 106 = .ok (.i2l, 1) := by decide +kernel
theorem dM_apart_107 : decode bM_apart 107 = .ok (.lload 8, 2) := by decide +kernel
theorem dM_apart_109 : decode bM_apart 109 = .ok (.lmul, 1) := by decide +kernel
theorem dM_apart_110 : decode bM_apart 110 = .ok (.aload_n 0, 1) := by decide +kernel
theorem dM_apart_111 : decode bM_apart 111 = .ok (.getfield 28, 3) := by decide +kernel
theorem dM_apart_114 : decode bM_apart 114 = .ok (.iload 5, 2) := by decide +kernel
theorem dM_apart_116 : decode bM_apart 116 = .ok (.iconst 1, 1) := by decide +kernel
theorem dM_apart_117 : decode bM_apart 117 = .ok (.iadd, 1) := by decide +kernel
theorem dM_apart_118 : decode bM_apart 118 = .ok (.iaload, 1) := by decide +kernel
theorem dM_apart_119 : decode bM_apart 119 = .ok (.aload_n 0, 1) := by decide +kernel
theorem dM_apart_120 : decode bM_apart 120 = .ok (.getfield 28, 3) := by decide +kernel
theorem dM_apart_123 : decode bM_apart 123 = .ok (.iload 5, 2) := by decide +kernel
theorem dM_apart_125 : decode bM_apart 125 = .ok (.iaload, 1) := by decide +kernel
theorem dM_apart_126 : decode bM_apart 126 = .ok (.isub, 1) := by decide +kernel
theorem dM_apart_127 : decode bM_apart 127 = .ok (.i2l, 1) := by decide +kernel
theorem dM_apart_128 : decode bM_apart 128 = .ok (.iload_n 3, 1) := by decide +kernel
theorem dM_apart_129 : decode bM_apart 129 = .ok (.aload_n 0, 1) := by decide +kernel
theorem dM_apart_130 : decode bM_apart 130 = .ok (.getfield 25, 3) := by decide +kernel
theorem dM_apart_133 : decode bM_apart 133 = .ok (.iload 5, 2) := by decide +kernel
theorem dM_apart_135 : decode bM_apart 135 = .ok (.iaload, 1) := by decide +kernel
theorem dM_apart_136 : decode bM_apart 136 = .ok (.isub, 1) := by decide +kernel
theorem dM_apart_137 : decode bM_apart 137 = .ok (.i2l, 1) := by decide +kernel
theorem dM_apart_138 : decode bM_apart 138 = .ok (.lmul, 1) := by decide +kernel
theorem dM_apart_139 : decode bM_apart 139 = .ok (.ladd, 1) := by decide +kernel
theorem dM_apart_140 : decode bM_apart 140 = .ok (.lstore 12, 2) := by decide +kernel
theorem dM_apart_142 : decode bM_apart 142 = .ok (.lload 10, 2) := by decide +kernel
theorem dM_apart_144 : decode bM_apart 144 = .ok (.lload 8, 2) := by decide +kernel
theorem dM_apart_146 : decode bM_apart 146 = .ok (.lmul, 1) := by decide +kernel
theorem dM_apart_147 : decode bM_apart 147 = .ok (.lload 12, 2) := by decide +kernel
theorem dM_apart_149 : decode bM_apart 149 = .ok (.lload 6, 2) := by decide +kernel
theorem dM_apart_151 : decode bM_apart 151 = .ok (.lmul, 1) := by decide +kernel
theorem dM_apart_152 : decode bM_apart 152 = .ok (.lsub, 1) := by decide +kernel
theorem dM_apart_153 : decode bM_apart 153 = .ok (.lreturn, 1) := by decide +kernel
theorem dM_unit_0 : decode bM_unit 0 = .ok (.aload_n 0, 1) := by decide +kernel
theorem dM_unit_1 : decode bM_unit 1 = .ok (.iload_n 1, 1) := by decide +kernel
theorem dM_unit_2 : decode bM_unit 2 = .ok (.iload_n 3, 1) := by decide +kernel
theorem dM_unit_3 : decode bM_unit 3 = .ok (.invokevirtual 141, 3) := by decide +kernel
theorem dM_unit_6 : decode bM_unit 6 = .ok (.istore 4, 2) := by decide +kernel
theorem dM_unit_8 : decode bM_unit 8 = .ok (.aload_n 0, 1) := by decide +kernel
theorem dM_unit_9 : decode bM_unit 9 = .ok (.iload_n 2, 1) := by decide +kernel
theorem dM_unit_10 : decode bM_unit 10 = .ok (.iload_n 3, 1) := by decide +kernel
theorem dM_unit_11 : decode bM_unit 11 = .ok (.invokevirtual 141, 3) := by decide +kernel
theorem dM_unit_14 : decode bM_unit 14 = .ok (.istore 5, 2) := by decide +kernel
theorem dM_unit_16 : decode bM_unit 16 = .ok (.aload_n 0, 1) := by decide +kernel
theorem dM_unit_17 : decode bM_unit 17 = .ok (.getfield 25, 3) := by decide +kernel
theorem dM_unit_20 : decode bM_unit 20 = .ok (.iload 4, 2) := by decide +kernel
theorem dM_unit_22 : decode bM_unit 22 = .ok (.iconst 1, 1) := by decide +kernel
theorem dM_unit_23 : decode bM_unit 23 = .ok (.iadd, 1) := by decide +kernel
theorem dM_unit_24 : decode bM_unit 24 = .ok (.iaload, 1) := by decide +kernel
theorem dM_unit_25 : decode bM_unit 25 = .ok (.aload_n 0, 1) := by decide +kernel
theorem dM_unit_26 : decode bM_unit 26 = .ok (.getfield 25, 3) := by decide +kernel
theorem dM_unit_29 : decode bM_unit 29 = .ok (.iload 4, 2) := by decide +kernel
theorem dM_unit_31 : decode bM_unit 31 = .ok (.iaload, 1) := by decide +kernel
theorem dM_unit_32 : decode bM_unit 32 = .ok (.isub, 1) := by decide +kernel
theorem dM_unit_33 : decode bM_unit 33 = .ok (.i2l, 1) := by decide +kernel
theorem dM_unit_34 : decode bM_unit 34 = .ok (.aload_n 0, 1) := by decide +kernel
theorem dM_unit_35 : decode bM_unit 35 = .ok (.getfield 25, 3) := by decide +kernel
theorem dM_unit_38 : decode bM_unit 38 = .ok (.iload 5, 2) := by decide +kernel
theorem dM_unit_40 : decode bM_unit 40 = .ok (.iconst 1, 1) := by decide +kernel
theorem dM_unit_41 : decode bM_unit 41 = .ok (.iadd, 1) := by decide +kernel
theorem dM_unit_42 : decode bM_unit 42 = .ok (.iaload, 1) := by decide +kernel
theorem dM_unit_43 : decode bM_unit 43 = .ok (.aload_n 0, 1) := by decide +kernel
theorem dM_unit_44 : decode bM_unit 44 = .ok (.getfield 25, 3) := by decide +kernel
theorem dM_unit_47 : decode bM_unit 47 = .ok (.iload 5, 2) := by decide +kernel
theorem dM_unit_49 : decode bM_unit 49 = .ok (.iaload, 1) := by decide +kernel
theorem dM_unit_50 : decode bM_unit 50 = .ok (.isub, 1) := by decide +kernel
theorem dM_unit_51 : decode bM_unit 51 = .ok (.i2l, 1) := by decide +kernel
theorem dM_unit_52 : decode bM_unit 52 = .ok (.lmul, 1) := by decide +kernel
theorem dM_unit_53 : decode bM_unit 53 = .ok (.lreturn, 1) := by decide +kernel
theorem dM_clash_0 : decode bM_clash 0 = .ok (.aload_n 0, 1) := by decide +kernel
theorem dM_clash_1 : decode bM_clash 1 = .ok (.iload_n 1, 1) := by decide +kernel
theorem dM_clash_2 : decode bM_clash 2 = .ok (.invokevirtual 67, 3) := by decide +kernel
theorem dM_clash_5 : decode bM_clash 5 = .ok (.ifCond .eq 47, 3) := by decide +kernel
theorem dM_clash_8 : decode bM_clash 8 = .ok (.aload_n 0, 1) := by decide +kernel
theorem dM_clash_9 : decode bM_clash 9 = .ok (.iload_n 2, 1) := by decide +kernel
theorem dM_clash_10 : decode bM_clash 10 = .ok (.invokevirtual 67, 3) := by decide +kernel
theorem dM_clash_13 : decode bM_clash 13 = .ok (.ifCond .eq 39, 3) := by decide +kernel
theorem dM_clash_16 : decode bM_clash 16 = .ok (.iload_n 1, 1) := by decide +kernel
theorem dM_clash_17 : decode bM_clash 17 = .ok (.iload_n 2, 1) := by decide +kernel
theorem dM_clash_18 : decode bM_clash 18 = .ok (.if_icmp .eq 34, 3) := by decide +kernel
theorem dM_clash_21 : decode bM_clash 21 = .ok (.aload_n 0, 1) := by decide +kernel
theorem dM_clash_22 : decode bM_clash 22 = .ok (.getfield 13, 3) := by decide +kernel
theorem dM_clash_25 : decode bM_clash 25 = .ok (.iload_n 1, 1) := by decide +kernel
theorem dM_clash_26 : decode bM_clash 26 = .ok (.iaload, 1) := by decide +kernel
theorem dM_clash_27 : decode bM_clash 27 = .ok (.iconst 2, 1) := by decide +kernel
theorem dM_clash_28 : decode bM_clash 28 = .ok (.if_icmp .lt 24, 3) := by decide +kernel
theorem dM_clash_31 : decode bM_clash 31 = .ok (.aload_n 0, 1) := by decide +kernel
theorem dM_clash_32 : decode bM_clash 32 = .ok (.getfield 13, 3) := by decide +kernel
theorem dM_clash_35 : decode bM_clash 35 = .ok (.iload_n 2, 1) := by decide +kernel
theorem dM_clash_36 : decode bM_clash 36 = .ok (.iaload, 1) := by decide +kernel
theorem dM_clash_37 : decode bM_clash 37 = .ok (.iconst 2, 1) := by decide +kernel
theorem dM_clash_38 : decode bM_clash 38 = .ok (.if_icmp .lt 14, 3) := by decide +kernel
theorem dM_clash_41 : decode bM_clash 41 = .ok (.iload_n 3, 1) := by decide +kernel
theorem dM_clash_42 : decode bM_clash 42 = .ok (.iconst 1, 1) := by decide +kernel
theorem dM_clash_43 : decode bM_clash 43 = .ok (.sipush 1000, 3) := by decide +kernel
theorem dM_clash_46 : decode bM_clash 46 = .ok (.invokestatic 63, 3) := by decide +kernel
theorem dM_clash_49 : decode bM_clash 49 = .ok (.ifCond .ne 5, 3) := by decide +kernel
theorem dM_clash_52 : decode bM_clash 52 = .ok (.iconst 0, 1) := by decide +kernel
theorem dM_clash_53 : decode bM_clash 53 = .ok (.ireturn, 1) := by decide +kernel
theorem dM_clash_54 : decode bM_clash 54 = .ok (.aload_n 0, 1) := by decide +kernel
theorem dM_clash_55 : decode bM_clash 55 = .ok (.getfield 25, 3) := by decide +kernel
theorem dM_clash_58 : decode bM_clash 58 = .ok (.bipush 10, 2) := by decide +kernel
theorem dM_clash_60 : decode bM_clash 60 = .ok (.iload_n 1, 1) := by decide +kernel
theorem dM_clash_61 : decode bM_clash 61 = .ok (.imul, 1) := by decide +kernel
theorem dM_clash_62 : decode bM_clash 62 = .ok (.iaload, 1) := by decide +kernel
theorem dM_clash_63 : decode bM_clash 63 = .ok (.aload_n 0, 1) := by decide +kernel
theorem dM_clash_64 : decode bM_clash 64 = .ok (.getfield 25, 3) := by decide +kernel
theorem dM_clash_67 : decode bM_clash 67 = .ok (.bipush 10, 2) := by decide +kernel
theorem dM_clash_69 : decode bM_clash 69 = .ok (.iload_n 2, 1) := by decide +kernel
theorem dM_clash_70 : decode bM_clash 70 = .ok (.imul, 1) := by decide +kernel
theorem dM_clash_71 : decode bM_clash 71 = .ok (.iaload, 1) := by decide +kernel
theorem dM_clash_72 : decode bM_clash 72 = .ok (.if_icmp .le 15, 3) := by decide +kernel
theorem dM_clash_75 : decode bM_clash 75 = .ok (.aload_n 0, 1) := by decide +kernel
theorem dM_clash_76 : decode bM_clash 76 = .ok (.getfield 25, 3) := by decide +kernel
theorem dM_clash_79 : decode bM_clash 79 = .ok (.bipush 10, 2) := by decide +kernel
theorem dM_clash_81 : decode bM_clash 81 = .ok (.iload_n 1, 1) := by decide +kernel
theorem dM_clash_82 : decode bM_clash 82 = .ok (.imul, 1) := by decide +kernel
theorem dM_clash_83 : decode bM_clash 83 = .ok (.iaload, 1) := by decide +kernel
theorem dM_clash_84 : decode bM_clash 84 = .ok (.goto 12, 3) := by decide +kernel
theorem dM_clash_87 : decode bM_clash 87 = .ok (.aload_n 0, 1) := by decide +kernel
theorem dM_clash_88 : decode bM_clash 88 = .ok (.getfield 25, 3) := by decide +kernel
theorem dM_clash_91 : decode bM_clash 91 = .ok (.bipush 10, 2) := by decide +kernel
theorem dM_clash_93 : decode bM_clash 93 = .ok (.iload_n 2, 1) := by decide +kernel
theorem dM_clash_94 : decode bM_clash 94 = .ok (.imul, 1) := by decide +kernel
theorem dM_clash_95 : decode bM_clash 95 = .ok (.iaload, 1) := by decide +kernel
theorem dM_clash_96 : decode bM_clash 96 = .ok (.istore 4, 2) := by decide +kernel
theorem dM_clash_98 : decode bM_clash 98 = .ok (.aload_n 0, 1) := by decide +kernel
theorem dM_clash_99 : decode bM_clash 99 = .ok (.getfield 25, 3) := by decide +kernel
theorem dM_clash_102 : decode bM_clash 102 = .ok (.bipush 10, 2) := by decide +kernel
theorem dM_clash_104 : decode bM_clash 104 = .ok (.iload_n 1, 1) := by decide +kernel
theorem dM_clash_105 : decode bM_clash 105 = .ok (.imul, 1) := by decide +kernel
theorem dM_clash_106 : decode bM_clash 106 = .ok (.aload_n 0, 1) := by decide +kernel
theorem dM_clash_107 : decode bM_clash 107 = .ok (.getfield 13, 3) := by decide +kernel
theorem dM_clash_110 : decode bM_clash 110 = .ok (.iload_n 1, 1) := by decide +kernel
theorem dM_clash_111 : decode bM_clash 111 = .ok (.iaload, 1) := by decide +kernel
theorem dM_clash_112 : decode bM_clash 112 = .ok (.iadd, 1) := by decide +kernel
theorem dM_clash_113 : decode bM_clash 113 = .ok (.iconst 1, 1) := by decide +kernel
theorem dM_clash_114 : decode bM_clash 114 = .ok (.isub, 1) := by decide +kernel
theorem dM_clash_115 : decode bM_clash 115 = .ok (.iaload, 1) := by decide +kernel
theorem dM_clash_116 : decode bM_clash 116 = .ok (.istore 5, 2) := by decide +kernel
