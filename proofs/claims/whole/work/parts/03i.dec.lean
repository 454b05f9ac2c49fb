theorem dM_turnOf_29 : decode bM_turnOf 29 = .ok (.invokevirtual 83, 3) := by decide +kernel
theorem dM_turnOf_32 : decode bM_turnOf 32 = .ok (.isub, 1) := by decide +kernel
theorem dM_turnOf_33 : decode bM_turnOf 33 = .ok (.istore_n 3, 1) := by decide +kernel
theorem dM_turnOf_34 : decode bM_turnOf 34 = .ok (.iload_n 3, 1) := by decide +kernel
theorem dM_turnOf_35 : decode bM_turnOf 35 = .ok (.ifCond .ge 8, 3) := by decide +kernel
theorem dM_turnOf_38 : decode bM_turnOf 38 = .ok (.iload_n 3, 1) := by decide +kernel
theorem dM_turnOf_39 : decode bM_turnOf 39 = .ok (.ineg, 1) := by decide +kernel
theorem dM_turnOf_40 : decode bM_turnOf 40 = .ok (.goto 4, 3) := by decide +kernel
theorem dM_turnOf_43 : decode bM_turnOf 43 = .ok (.iload_n 3, 1) := by decide +kernel
theorem dM_turnOf_44 : decode bM_turnOf 44 = .ok (.ireturn, 1) := by decide +kernel
theorem dM_byRough_0 : decode bM_byRough 0 = .ok (.lload_n 1, 1) := by decide +kernel
theorem dM_byRough_1 : decode bM_byRough 1 = .ok (.aload_n 0, 1) := by decide +kernel
theorem dM_byRough_2 : decode bM_byRough 2 = .ok (.getfield 38, 3) := by decide +kernel
theorem dM_byRough_5 : decode bM_byRough 5 = .ok (.i2l, 1) := by decide +kernel
theorem dM_byRough_6 : decode bM_byRough 6 = .ok (.lmul, 1) := by decide +kernel
theorem dM_byRough_7 : decode bM_byRough 7 = .ok (.lload_n 3, 1) := by decide +kernel
theorem dM_byRough_8 : decode bM_byRough 8 = .ok (.lmul, 1) := by decide +kernel
theorem dM_byRough_9 : decode bM_byRough 9 = .ok (.ldc2_w 87, 3) := by decide +kernel
theorem dM_byRough_12 : decode bM_byRough 12 = .ok (.ldiv, 1) := by decide +kernel
theorem dM_byRough_13 : decode bM_byRough 13 = .ok (.lreturn, 1) := by decide +kernel
theorem dM_byTurn_0 : decode bM_byTurn 0 = .ok (.lload_n 1, 1) := by decide +kernel
theorem dM_byTurn_1 : decode bM_byTurn 1 = .ok (.aload_n 0, 1) := by decide +kernel
theorem dM_byTurn_2 : decode bM_byTurn 2 = .ok (.getfield 42, 3) := by decide +kernel
theorem dM_byTurn_5 : decode bM_byTurn 5 = .ok (.i2l, 1) := by decide +kernel
theorem dM_byTurn_6 : decode bM_byTurn 6 = .ok (.lmul, 1) := by decide +kernel
theorem dM_byTurn_7 : decode bM_byTurn 7 = .ok (.iload_n 3, 1) := by decide +kernel
theorem dM_byTurn_8 : decode bM_byTurn 8 = .ok (.i2l, 1) := by decide +kernel
theorem dM_byTurn_9 : decode bM_byTurn 9 = .ok (.lmul, 1) := by decide +kernel
theorem dM_byTurn_10 : decode bM_byTurn 10 = .ok (.ldc2_w 89, 3) := by decide +kernel
theorem dM_byTurn_13 : decode bM_byTurn 13 = .ok (.ldiv, 1) := by decide +kernel
theorem dM_byTurn_14 : decode bM_byTurn 14 = .ok (.lreturn, 1) := by decide +kernel
theorem dM_draw_0 : decode bM_draw 0 = .ok (.aload_n 0, 1) := by decide +kernel
theorem dM_draw_1 : decode bM_draw 1 = .ok (.getfield 13, 3) := by decide +kernel
theorem dM_draw_4 : decode bM_draw 4 = .ok (.iload_n 1, 1) := by decide +kernel
theorem dM_draw_5 : decode bM_draw 5 = .ok (.iaload, 1) := by decide +kernel
theorem dM_draw_6 : decode bM_draw 6 = .ok (.istore 6, 2) := by decide +kernel
theorem dM_draw_8 : decode bM_draw 8 = .ok (.lload_n 3, 1) := by decide +kernel
theorem dM_draw_9 : decode bM_draw 9 = .ok (.lstore 7, 2) := by decide +kernel
theorem dM_draw_11 : decode bM_draw 11 = .ok (.iconst 0, 1) := by decide +kernel
theorem dM_draw_12 : decode bM_draw 12 = .ok (.istore 9, 2) := by decide +kernel
theorem dM_draw_14 : decode bM_draw 14 = .ok (.iload 9, 2) := by decide +kernel
theorem dM_draw_16 : decode bM_draw 16 = .ok (.iload 6, 2) := by decide +kernel
theorem dM_draw_18 : decode bM_draw 18 = .ok (.if_icmp .ge 102, 3) := by decide +kernel
theorem dM_draw_21 : decode bM_draw 21 = .ok (.iload_n 2, 1) := by decide +kernel
theorem dM_draw_22 : decode bM_draw 22 = .ok (.ifCond .eq 13, 3) := by decide +kernel
theorem dM_draw_25 : decode bM_draw 25 = .ok (.iload 6, 2) := by decide +kernel
theorem dM_draw_27 : decode bM_draw 27 = .ok (.iconst 1, 1) := by decide +kernel
theorem dM_draw_28 : decode bM_draw 28 = .ok (.isub, 1) := by decide +kernel
theorem dM_draw_29 : decode bM_draw 29 = .ok (.iload 9, 2) := by decide +kernel
theorem dM_draw_31 : decode bM_draw 31 = .ok (.isub, 1) := by decide +kernel
theorem dM_draw_32 : decode bM_draw 32 = .ok (.goto 5, 3) := by decide +kernel
theorem dM_draw_35 : decode bM_draw 35 = .ok (.iload 9, 2) := by decide +kernel
theorem dM_draw_37 : decode bM_draw 37 = .ok (.istore 10, 2) := by decide +kernel
theorem dM_draw_39 : decode bM_draw 39 = .ok (.iload 9, 2) := by decide +kernel
theorem dM_draw_41 : decode bM_draw 41 = .ok (.ifCond .le 66, 3) := by decide +kernel
theorem dM_draw_44 : decode bM_draw 44 = .ok (.lload 7, 2) := by decide +kernel
theorem dM_draw_46 : decode bM_draw 46 = .ok (.aload_n 0, 1) := by decide +kernel
theorem dM_draw_47 : decode bM_draw 47 = .ok (.lload 7, 2) := by decide +kernel
theorem dM_draw_49 : decode bM_draw 49 = .ok (.aload_n 0, 1) := by decide +kernel
theorem dM_draw_50 : decode bM_draw 50 = .ok (.iload_n 1, 1) := by decide +kernel
theorem dM_draw_51 : decode bM_draw 51 = .ok (.iload_n 2, 1) := by decide +kernel
theorem dM_draw_52 : decode bM_draw 52 = .ok (.ifCond .eq 8, 3) := by decide +kernel
theorem dM_draw_55 : decode bM_draw 55 = .ok (.iload 10, 2) := by decide +kernel
theorem dM_draw_57 : decode bM_draw 57 = .ok (.goto 7, 3) := by decide +kernel
theorem dM_draw_60 : decode bM_draw 60 = .ok (.iload 10, 2) := by decide +kernel
theorem dM_draw_62 : decode bM_draw 62 = .ok (.iconst 1, 1) := by decide +kernel
theorem dM_draw_63 : decode bM_draw 63 = .ok (.isub, 1) := by decide +kernel
theorem dM_draw_64 : decode bM_draw 64 = .ok (.invokevirtual 91, 3) := by decide +kernel
theorem dM_draw_67 : decode bM_draw 67 = .ok (.invokevirtual 95, 3) := by decide +kernel
theorem dM_draw_70 : decode bM_draw 70 = .ok (.lsub, 1) := by decide +kernel
theorem dM_draw_71 : decode bM_draw 71 = .ok (.lstore 7, 2) := by decide +kernel
theorem dM_draw_73 : decode bM_draw 73 = .ok (.aload_n 0, 1) := by decide +kernel
theorem dM_draw_74 : decode bM_draw 74 = .ok (.lload 7, 2) := by decide +kernel
theorem dM_draw_76 : decode bM_draw 76 = .ok (.aload_n 0, 1) := by decide +kernel
theorem dM_draw_77 : decode bM_draw 77 = .ok (.iload_n 1, 1) := by decide +kernel
theorem dM_draw_78 : decode bM_draw 78 = .ok (.iload 10, 2) := by decide +kernel
theorem dM_draw_80 : decode bM_draw 80 = .ok (.invokevirtual 99, 3) := by decide +kernel
theorem dM_draw_83 : decode bM_draw 83 = .ok (.invokevirtual 102, 3) := by decide +kernel
theorem dM_draw_86 : decode bM_draw 86 = .ok (.lstore 11, 2) := by decide +kernel
theorem dM_draw_88 : decode bM_draw 88 = .ok (.lload 11, 2) := by decide +kernel
theorem dM_draw_90 : decode bM_draw 90 = .ok (.lload 7, 2) := by decide +kernel
theorem dM_draw_92 : decode bM_draw 92 = .ok (.lcmp, 1) := by decide +kernel
theorem dM_draw_93 : decode bM_draw 93 = .ok (.ifCond .le 7, 3) := by decide +kernel
theorem dM_draw_96 : decode bM_draw 96 = .ok (.lconst 0, 1) := by decide +kernel
theorem dM_draw_97 : decode bM_draw 97 = .ok (.goto 8, 3) := by decide +kernel
theorem dM_draw_100 : decode bM_draw 100 = .ok (.lload 7, 2) := by decide +kernel
theorem dM_draw_102 : decode bM_draw 102 = .ok (.lload 11, 2) := by decide +kernel
theorem dM_draw_104 : decode bM_draw 104 = .ok (.lsub, 1) := by decide +kernel
theorem dM_draw_105 : decode bM_draw 105 = .ok (.lstore 7, 2) := by decide +kernel
theorem dM_draw_107 : decode bM_draw 107 = .ok (.aload 5, 2) := by decide +kernel
theorem dM_draw_109 : decode bM_draw 109 = .ok (.iload 10, 2) := by decide +kernel
theorem dM_draw_111 : decode bM_draw 111 = .ok (.lload 7, 2) := by decide +kernel
theorem dM_draw_113 : decode bM_draw 113 = .ok (.lastore, 1) := by decide +kernel
theorem dM_draw_114 : decode bM_draw 114 = .ok (.iinc 9 1, 3) := by decide +kernel
theorem dM_draw_117 : decode bM_draw 117 = .ok (.goto (-103), 3) := by decide +kernel
theorem dM_draw_120 : decode bM_draw 120 = .ok (.return_, 1) := by decide +kernel
theorem dM_drawAll_0 : decode bM_drawAll 0 = .ok (.aload_n 0, 1) := by decide +kernel
theorem dM_drawAll_1 : decode bM_drawAll 1 = .ok (.iload_n 1, 1) := by decide +kernel
theorem dM_drawAll_2 : decode bM_drawAll 2 = .ok (.iload_n 2, 1) := by decide +kernel
theorem dM_drawAll_3 : decode bM_drawAll 3 = .ok (.iconst 2, 1) := by decide +kernel
theorem dM_drawAll_4 : decode bM_drawAll 4 = .ok (.if_icmp .ne 7, 3) := by decide +kernel
theorem dM_drawAll_7 : decode bM_drawAll 7 = .ok (.iconst 1, 1) := by decide +kernel
theorem dM_drawAll_8 : decode bM_drawAll 8 = .ok (.goto 4, 3) := by decide +kernel
theorem dM_drawAll_11 : decode bM_drawAll 11 = .ok (.iconst 0, 1) := by decide +kernel
theorem dM_drawAll_12 : decode bM_drawAll 12 = .ok (.lload_n 3, 1) := by decide +kernel
theorem dM_drawAll_13 : decode bM_drawAll 13 = .ok (.aload_n 0, 1) := by decide +kernel
theorem dM_drawAll_14 : decode bM_drawAll 14 = .ok (.getfield 51, 3) := by decide +kernel
theorem dM_drawAll_17 : decode bM_drawAll 17 = .ok (.invokevirtual 106, 3) := by decide +kernel
theorem dM_drawAll_20 : decode bM_drawAll 20 = .ok (.iload_n 2, 1) := by decide +kernel
theorem dM_drawAll_21 : decode bM_drawAll 21 = .ok (.iconst 3, 1) := by decide +kernel
theorem dM_drawAll_22 : decode bM_drawAll 22 = .ok (.if_icmp .ne 76, 3) := by decide +kernel
theorem dM_drawAll_25 : decode bM_drawAll 25 = .ok (.aload_n 0, 1) := by decide +kernel
theorem dM_drawAll_26 : decode bM_drawAll 26 = .ok (.iload_n 1, 1) := by decide +kernel
theorem dM_drawAll_27 : decode bM_drawAll 27 = .ok (.iconst 1, 1) := by decide +kernel
theorem dM_drawAll_28 : decode bM_drawAll 28 = .ok (.lload_n 3, 1) := by decide +kernel
theorem dM_drawAll_29 : decode bM_drawAll 29 = .ok (.aload_n 0, 1) := by decide +kernel
theorem dM_drawAll_30 : decode bM_drawAll 30 = .ok (.getfield 54, 3) := by decide +kernel
theorem dM_drawAll_33 : decode bM_drawAll 33 = .ok (.invokevirtual 106, 3) := by decide +kernel
theorem dM_drawAll_36 : decode bM_drawAll 36 = .ok (.iconst 0, 1) := by decide +kernel
theorem dM_drawAll_37 : decode bM_drawAll 37 = .ok (.istore 5, 2) := by decide +kernel
theorem dM_drawAll_39 : decode bM_drawAll 39 = .ok (.iload 5, 2) := by decide +kernel
theorem dM_drawAll_41 : decode bM_drawAll 41 = .ok (.aload_n 0, 1) := by decide +kernel
theorem dM_drawAll_42 : decode bM_drawAll 42 = .ok (.getfield 13, 3) := by decide +kernel
theorem dM_drawAll_45 : decode bM_drawAll 45 = .ok (.iload_n 1, 1) := by decide +kernel
theorem dM_drawAll_46 : decode bM_drawAll 46 = .ok (.iaload, 1) := by decide +kernel
theorem dM_drawAll_47 : decode bM_drawAll 47 = .ok (.if_icmp .ge 51, 3) := by decide +kernel
theorem dM_drawAll_50 : decode bM_drawAll 50 = .ok (.aload_n 0, 1) := by decide +kernel
theorem dM_drawAll_51 : decode bM_drawAll 51 = .ok (.getfield 51, 3) := by decide +kernel
theorem dM_drawAll_54 : decode bM_drawAll 54 = .ok (.iload 5, 2) := by decide +kernel
theorem dM_drawAll_56 : decode bM_drawAll 56 = .ok (.aload_n 0, 1) := by decide +kernel
theorem dM_drawAll_57 : decode bM_drawAll 57 = .ok (.getfield 51, 3) := by decide +kernel
theorem dM_drawAll_60 : decode bM_drawAll 60 = .ok (.iload 5, 2) := by decide +kernel
theorem dM_drawAll_62 : decode bM_drawAll 62 = .ok (.laload, 1) := by decide +kernel
theorem dM_drawAll_63 : decode bM_drawAll 63 = .ok (.aload_n 0, 1) := by decide +kernel
theorem dM_drawAll_64 : decode bM_drawAll 64 = .ok (.getfield 54, 3) := by decide +kernel
theorem dM_drawAll_67 : decode bM_drawAll 67 = .ok (.iload 5, 2) := by decide +kernel
theorem dM_drawAll_69 : decode bM_drawAll 69 = .ok (.laload, 1) := by decide +kernel
theorem dM_drawAll_70 : decode bM_drawAll 70 = .ok (.lcmp, 1) := by decide +kernel
theorem dM_drawAll_71 : decode bM_drawAll 71 = .ok (.ifCond .le 13, 3) := by decide +kernel
theorem dM_drawAll_74 : decode bM_drawAll 74 = .ok (.aload_n 0, 1) := by decide +kernel
theorem dM_drawAll_75 : decode bM_drawAll 75 = .ok (.getfield 51, 3) := by decide +kernel
theorem dM_drawAll_78 : decode bM_drawAll 78 = .ok (.iload 5, 2) := by decide +kernel
theorem dM_drawAll_80 : decode bM_drawAll 80 = .ok (.laload, 1) := by decide +kernel
theorem dM_drawAll_81 : decode bM_drawAll 81 = .ok (.goto 10, 3) := by decide +kernel
theorem dM_drawAll_84 : decode bM_drawAll 84 = .ok (.aload_n 0, 1) := by decide +kernel
theorem dM_drawAll_85 : decode bM_drawAll 85 = .ok (.getfield 54, 3) := by decide +kernel
theorem dM_drawAll_88 : decode bM_drawAll 88 = .ok (.iload 5, 2) := by decide +kernel
theorem dM_drawAll_90 : decode bM_drawAll 90 = .ok (.laload, 1) := by decide +kernel
theorem dM_drawAll_91 : decode bM_drawAll 91 = .ok (.lastore, 1) := by decide +kernel
theorem dM_drawAll_92 : decode bM_drawAll 92 = .ok (.iinc 5 1, 3) := by decide +kernel
theorem dM_drawAll_95 : decode bM_drawAll 95 = .ok (.goto (-56), 3) := by decide +kernel
theorem dM_drawAll_98 : decode bM_drawAll 98 = .ok (.return_, 1) := by decide +kernel
theorem dM_longerOf_0 : decode bM_longerOf 0 = .ok (.lconst 0, 1) := by decide +kernel
theorem dM_longerOf_1 : decode bM_longerOf 1 = .ok (.lstore_n 2, 1) := by decide +kernel
theorem dM_longerOf_2 : decode bM_longerOf 2 = .ok (.iconst 0, 1) := by decide +kernel
theorem dM_longerOf_3 : decode bM_longerOf 3 = .ok (.istore 4, 2) := by decide +kernel
theorem dM_longerOf_5 : decode bM_longerOf 5 = .ok (.iload 4, 2) := by decide +kernel
theorem dM_longerOf_7 : decode bM_longerOf 7 = .ok (.iconst 1, 1) := by decide +kernel
theorem dM_longerOf_8 : decode bM_longerOf 8 = .ok (.iadd, 1) := by decide +kernel
theorem dM_longerOf_9 : decode bM_longerOf 9 = .ok (.aload_n 0, 1) := by decide +kernel
theorem dM_longerOf_10 : decode bM_longerOf 10 = .ok (.getfield 13, 3) := by decide +kernel
theorem dM_longerOf_13 : decode bM_longerOf 13 = .ok (.iload_n 1, 1) := by decide +kernel
theorem dM_longerOf_14 : decode bM_longerOf 14 = .ok (.iaload, 1) := by decide +kernel
theorem dM_longerOf_15 : decode bM_longerOf 15 = .ok (.if_icmp .ge 71, 3) := by decide +kernel
theorem dM_longerOf_18 : decode bM_longerOf 18 = .ok (.aload_n 0, 1) := by decide +kernel
theorem dM_longerOf_19 : decode bM_longerOf 19 = .ok (.getfield 31, 3) := by decide +kernel
theorem dM_longerOf_22 : decode bM_longerOf 22 = .ok (.bipush 10, 2) := by decide +kernel
theorem dM_longerOf_24 : decode bM_longerOf 24 = .ok (.iload_n 1, 1) := by decide +kernel
theorem dM_longerOf_25 : decode bM_longerOf 25 = .ok (.imul, 1) := by decide +kernel
theorem dM_longerOf_26 : decode bM_longerOf 26 = .ok (.iload 4, 2) := by decide +kernel
theorem dM_longerOf_28 : decode bM_longerOf 28 = .ok (.iadd, 1) := by decide +kernel
theorem dM_longerOf_29 : decode bM_longerOf 29 = .ok (.laload, 1) := by decide +kernel
theorem dM_longerOf_30 : decode bM_longerOf 30 = .ok (.aload_n 0, 1) := by decide +kernel
theorem dM_longerOf_31 : decode bM_longerOf 31 = .ok (.getfield 31, 3) := by decide +kernel
theorem dM_longerOf_34 : decode bM_longerOf 34 = .ok (.bipush 10, 2) := by decide +kernel
theorem dM_longerOf_36 : decode bM_longerOf 36 = .ok (.iload_n 1, 1) := by decide +kernel
theorem dM_longerOf_37 : decode bM_longerOf 37 = .ok (.imul, 1) := by decide +kernel
theorem dM_longerOf_38 : decode bM_longerOf 38 = .ok (.iload 4, 2) := by decide +kernel
theorem dM_longerOf_40 : decode bM_longerOf 40 = .ok (.iadd, 1) := by decide +kernel
theorem dM_longerOf_41 : decode bM_longerOf 41 = .ok (.iconst 1, 1) := by decide +kernel
theorem dM_longerOf_42 : decode bM_longerOf 42 = .ok (.iadd, 1) := by decide +kernel
theorem dM_longerOf_43 : decode bM_longerOf 43 = .ok (.laload, 1) := by decide +kernel
theorem dM_longerOf_44 : decode bM_longerOf 44 = .ok (.ladd, 1) := by decide +kernel
theorem dM_longerOf_45 : decode bM_longerOf 45 = .ok (.lstore 5, 2) := by decide +kernel
theorem dM_longerOf_47 : decode bM_longerOf 47 = .ok (.lload_n 2, 1) := by decide +kernel
theorem dM_longerOf_48 : decode bM_longerOf 48 = .ok (.lload 5, 2) := by decide +kernel
theorem dM_longerOf_50 : decode bM_longerOf 50 = .ok (.aload_n 0, 1) := by decide +kernel
theorem dM_longerOf_51 : decode bM_longerOf 51 = .ok (.iload_n 1, 1) := by decide +kernel
theorem dM_longerOf_52 : decode bM_longerOf 52 = .ok (.iload 4, 2) := by decide +kernel
theorem dM_longerOf_54 : decode bM_longerOf 54 = .ok (.invokevirtual 91, 3) := by decide +kernel
theorem dM_longerOf_57 : decode bM_longerOf 57 = .ok (.lmul, 1) := by decide +kernel
theorem dM_longerOf_58 : decode bM_longerOf 58 = .ok (.ldc2_w 110, 3) := by decide +kernel
theorem dM_longerOf_61 : decode bM_longerOf 61 = .ok (.lmul, 1) := by decide +kernel
theorem dM_longerOf_62 : decode bM_longerOf 62 = .ok (.ldc2_w 77, 3) := by decide +kernel
theorem dM_longerOf_65 : decode bM_longerOf 65 = .ok (.aload_n 0, 1) := by decide +kernel
theorem dM_longerOf_66 : decode bM_longerOf 66 = .ok (.getfield 7, 3) := by decide +kernel
theorem dM_longerOf_69 : decode bM_longerOf 69 = .ok (.iload_n 1, 1) := by decide +kernel
theorem dM_longerOf_70 : decode bM_longerOf 70 = .ok (.iaload, 1) := by decide +kernel
theorem dM_longerOf_71 : decode bM_longerOf 71 = .ok (.i2l, 1) := by decide +kernel
theorem dM_longerOf_72 : decode bM_longerOf 72 = .ok (.lmul, 1) := by decide +kernel
theorem dM_longerOf_73 : decode bM_longerOf 73 = .ok (.ldc2_w 112, 3) := by decide +kernel
theorem dM_longerOf_76 : decode bM_longerOf 76 = .ok (.lmul, 1) := by decide +kernel
theorem dM_longerOf_77 : decode bM_longerOf 77 = .ok (.ldiv, 1) := by decide +kernel
theorem dM_longerOf_78 : decode bM_longerOf 78 = .ok (.ladd, 1) := by decide +kernel
theorem dM_longerOf_79 : decode bM_longerOf 79 = .ok (.lstore_n 2, 1) := by decide +kernel
theorem dM_longerOf_80 : decode bM_longerOf 80 = .ok (.iinc 4 1, 3) := by decide +kernel
theorem dM_longerOf_83 : decode bM_longerOf 83 = .ok (.goto (-78), 3) := by decide +kernel
theorem dM_longerOf_86 : decode bM_longerOf 86 = .ok (.lload_n 2, 1) := by decide +kernel
theorem dM_longerOf_87 : decode bM_longerOf 87 = .ok (.l2i, 1) := by decide +kernel
theorem dM_longerOf_88 : decode bM_longerOf 88 = .ok (.ireturn, 1) := by decide +kernel
theorem dM_pull_0 : decode bM_pull 0 = .ok (.aload_n 0, 1) := by decide +kernel
theorem dM_pull_1 : decode bM_pull 1 = .ok (.iload_n 1, 1) := by decide +kernel
theorem dM_pull_2 : decode bM_pull 2 = .ok (.invokevirtual 67, 3) := by decide +kernel
theorem dM_pull_5 : decode bM_pull 5 = .ok (.ifCond .eq 42, 3) := by decide +kernel
theorem dM_pull_8 : decode bM_pull 8 = .ok (.aload_n 0, 1) := by decide +kernel
theorem dM_pull_9 : decode bM_pull 9 = .ok (.getfield 16, 3) := by decide +kernel
theorem dM_pull_12 : decode bM_pull 12 = .ok (.iload_n 1, 1) := by decide +kernel
theorem dM_pull_13 : decode bM_pull 13 = .ok (.iaload, 1) := by decide +kernel
theorem dM_pull_14 : decode bM_pull 14 = .ok (.iconst 2, 1) := by decide +kernel
theorem dM_pull_15 : decode bM_pull 15 = .ok (.if_icmp .eq 32, 3) := by decide +kernel
theorem dM_pull_18 : decode bM_pull 18 = .ok (.aload_n 0, 1) := by decide +kernel
theorem dM_pull_19 : decode bM_pull 19 = .ok (.getfield 13, 3) := by decide +kernel
theorem dM_pull_22 : decode bM_pull 22 = .ok (.iload_n 1, 1) := by decide +kernel
theorem dM_pull_23 : decode bM_pull 23 = .ok (.iaload, 1) := by decide +kernel
theorem dM_pull_24 : decode bM_pull 24 = .ok (.iconst 2, 1) := by decide +kernel
theorem dM_pull_25 : decode bM_pull 25 = .ok (.if_icmp .lt 22, 3) := by decide +kernel
theorem dM_pull_28 : decode bM_pull 28 = .ok (.iload_n 2, 1) := by decide +kernel
theorem dM_pull_29 : decode bM_pull 29 = .ok (.iconst 1, 1) := by decide +kernel
theorem dM_pull_30 : decode bM_pull 30 = .ok (.iconst 3, 1) := by decide +kernel
theorem dM_pull_31 : decode bM_pull 31 = .ok (.invokestatic 63, 3) := by decide +kernel
theorem dM_pull_34 : decode bM_pull 34 = .ok (.ifCond .eq 13, 3) := by decide +kernel
theorem dM_pull_37 : decode bM_pull 37 = .ok (.iload_n 3, 1) := by decide +kernel
theorem dM_pull_38 : decode bM_pull 38 = .ok (.iconst 1, 1) := by decide +kernel
theorem dM_pull_39 : decode bM_pull 39 = .ok (.ldc 114, 2) := by decide +kernel
theorem dM_pull_41 : decode bM_pull 41 = .ok (.invokestatic 63, 3) := by decide +kernel
theorem dM_pull_44 : decode bM_pull 44 = .ok (.ifCond .ne 5, 3) := by decide +kernel
theorem dM_pull_47 : decode bM_pull 47 = .ok (.iconst (-1), 1) := by decide +kernel
theorem dM_pull_48 : decode bM_pull 48 = .ok (.ireturn, 1) := by decide +kernel
theorem dM_pull_49 : decode bM_pull 49 = .ok (.aload_n 0, 1) := by decide +kernel
theorem dM_pull_50 : decode bM_pull 50 = .ok (.iload_n 1, 1) := by decide +kernel
theorem dM_pull_51 : decode bM_pull 51 = .ok (.iload_n 2, 1) := by decide +kernel
theorem dM_pull_52 : decode bM_pull 52 = .ok (.iload_n 3, 1) := by decide +kernel
theorem dM_pull_53 : decode bM_pull 53 = .ok (.i2l, 1) := by decide +kernel
theorem dM_pull_54 : decode bM_pull 54 = .ok (.invokevirtual 115, 3) := by decide +kernel
theorem dM_pull_57 : decode bM_pull 57 = .ok (.iconst 0, 1) := by decide +kernel
theorem dM_pull_58 : decode bM_pull 58 = .ok (.istore 4, 2) := by decide +kernel
theorem dM_pull_60 : decode bM_pull 60 = .ok (.iload 4, 2) := by decide +kernel
theorem dM_pull_62 : decode bM_pull 62 = .ok (.aload_n 0, 1) := by decide +kernel
theorem dM_pull_63 : decode bM_pull 63 = .ok (.getfield 13, 3) := by decide +kernel
theorem dM_pull_66 : decode bM_pull 66 = .ok (.iload_n 1, 1) := by decide +kernel
theorem dM_pull_67 : decode bM_pull 67 = .ok (.iaload, 1) := by decide +kernel
theorem dM_pull_68 : decode bM_pull 68 = .ok (.if_icmp .ge 28, 3) := by decide +kernel
theorem dM_pull_71 : decode bM_pull 71 = .ok (.aload_n 0, 1) := by decide +kernel
theorem dM_pull_72 : decode bM_pull 72 = .ok (.getfield 31, 3) := by decide +kernel
theorem dM_pull_75 : decode bM_pull 75 = .ok (.bipush 10, 2) := by decide +kernel
theorem dM_pull_77 : decode bM_pull 77 = .ok (.iload_n 1, 1) := by decide +kernel
theorem dM_pull_78 : decode bM_pull 78 = .ok (.imul, 1) := by decide +kernel
theorem dM_pull_79 : decode bM_pull 79 = .ok (.iload 4, 2) := by decide +kernel
theorem dM_pull_81 : decode bM_pull 81 = .ok (.iadd, 1) := by decide +kernel
theorem dM_pull_82 : decode bM_pull 82 = .ok (.aload_n 0, 1) := by decide +kernel
theorem dM_pull_83 : decode bM_pull 83 = .ok (.getfield 51, 3) := by decide +kernel
theorem dM_pull_86 : decode bM_pull 86 = .ok (.iload 4, 2) := by decide +kernel
theorem dM_pull_88 : decode bM_pull 88 = .ok (.laload, 1) := by decide +kernel
theorem dM_pull_89 : decode bM_pull 89 = .ok (.lastore, 1) := by decide +kernel
theorem dM_pull_90 : decode bM_pull 90 = .ok (.iinc 4 1, 3) := by decide +kernel
theorem dM_pull_93 : decode bM_pull 93 = .ok (.goto (-33), 3) := by decide +kernel
theorem dM_pull_96 : decode bM_pull 96 = .ok (.aload_n 0, 1) := by decide +kernel
theorem dM_pull_97 : decode bM_pull 97 = .ok (.getfield 16, 3) := by decide +kernel
theorem dM_pull_100 : decode bM_pull 100 = .ok (.iload_n 1, 1) := by decide +kernel
theorem dM_pull_101 : decode bM_pull 101 = .ok (.iconst 1, 1) := by decide +kernel
theorem dM_pull_102 : decode bM_pull 102 = .ok (.iastore, 1) := by decide +kernel
theorem dM_pull_103 : decode bM_pull 103 = .ok (.aload_n 0, 1) := by decide +kernel
theorem dM_pull_104 : decode bM_pull 104 = .ok (.getfield 19, 3) := by decide +kernel
theorem dM_pull_107 : decode bM_pull 107 = .ok (.iload_n 1, 1) := by decide +kernel
theorem dM_pull_108 : decode bM_pull 108 = .ok (.iload_n 2, 1) := by decide +kernel
theorem dM_pull_109 : decode bM_pull 109 = .ok (.iastore, 1) := by decide +kernel
theorem dM_pull_110 : decode bM_pull 110 = .ok (.aload_n 0, 1) := by decide +kernel
theorem dM_pull_111 : decode bM_pull 111 = .ok (.getfield 22, 3) := by decide +kernel
theorem dM_pull_114 : decode bM_pull 114 = .ok (.iload_n 1, 1) := by decide +kernel
theorem dM_pull_115 : decode bM_pull 115 = .ok (.iload_n 3, 1) := by decide +kernel
theorem dM_pull_116 : decode bM_pull 116 = .ok (.iastore, 1) := by decide +kernel
theorem dM_pull_117 : decode bM_pull 117 = .ok (.aload_n 0, 1) := by decide +kernel
theorem dM_pull_118 : decode bM_pull 118 = .ok (.iload_n 1, 1) := by decide +kernel
theorem dM_pull_119 : decode bM_pull 119 = .ok (.invokevirtual 119, 3) := by decide +kernel
theorem dM_pull_122 : decode bM_pull 122 = .ok (.ireturn, 1) := by decide +kernel
theorem dM_tryOut_0 : decode bM_tryOut 0 = .ok (.aload_n 0, 1) := by decide +kernel
theorem dM_tryOut_1 : decode bM_tryOut 1 = .ok (.getfield 13, 3) := by decide +kernel
theorem dM_tryOut_4 : decode bM_tryOut 4 = .ok (.iload_n 1, 1) := by decide +kernel
theorem dM_tryOut_5 : decode bM_tryOut 5 = .ok (.iaload, 1) := by decide +kernel
theorem dM_tryOut_6 : decode bM_tryOut 6 = .ok (.istore 5, 2) := by decide +kernel
theorem dM_tryOut_8 : decode bM_tryOut 8 = .ok (.lload_n 3, 1) := by decide +kernel
theorem dM_tryOut_9 : decode bM_tryOut 9 = .ok (.lstore 6, 2) := by decide +kernel
theorem dM_tryOut_11 : decode bM_tryOut 11 = .ok (.iconst 1, 1) := by decide +kernel
theorem dM_tryOut_12 : decode bM_tryOut 12 = .ok (.istore 8, 2) := by decide +kernel
theorem dM_tryOut_14 : decode bM_tryOut 14 = .ok (.iconst 0, 1) := by decide +kernel
theorem dM_tryOut_15 : decode bM_tryOut 15 = .ok (.istore 9, 2) := by decide +kernel
theorem dM_tryOut_17 : decode bM_tryOut 17 = .ok (.iload 9, 2) := by decide +kernel
theorem dM_tryOut_19 : decode bM_tryOut 19 = .ok (.iload 5, 2) := by decide +kernel
theorem dM_tryOut_21 : decode bM_tryOut 21 = .ok (.if_icmp .ge 137, 3) := by decide +kernel
theorem dM_tryOut_24 : decode bM_tryOut 24 = .ok (.iload_n 2, 1) := by decide +kernel
theorem dM_tryOut_25 : decode bM_tryOut 25 = .ok (.ifCond .eq 13, 3) := by decide +kernel
theorem dM_tryOut_28 : decode bM_tryOut 28 = .ok (.iload 5, 2) := by decide +kernel
theorem dM_tryOut_30 : decode bM_tryOut 30 = .ok (.iconst 1, 1) := by decide +kernel
theorem dM_tryOut_31 : decode bM_tryOut 31 = .ok (.isub, 1) := by decide +kernel
theorem dM_tryOut_32 : decode bM_tryOut 32 = .ok (.iload 9, 2) := by decide +kernel
theorem dM_tryOut_34 : decode bM_tryOut 34 = .ok (.isub, 1) := by decide +kernel
theorem dM_tryOut_35 : decode bM_tryOut 35 = .ok (.goto 5, 3) := by decide +kernel
theorem dM_tryOut_38 : decode bM_tryOut 38 = .ok (.iload 9, 2) := by decide +kernel
theorem dM_tryOut_40 : decode bM_tryOut 40 = .ok (.istore 10, 2) := by decide +kernel
theorem dM_tryOut_42 : decode bM_tryOut 42 = .ok (.aload_n 0, 1) := by decide +kernel
theorem dM_tryOut_43 : decode bM_tryOut 43 = .ok (.getfield 31, 3) := by decide +kernel
theorem dM_tryOut_46 : decode bM_tryOut 46 = .ok (.bipush 10, 2) := by decide +kernel
theorem dM_tryOut_48 : decode bM_tryOut 48 = .ok (.iload_n 1, 1) := by decide +kernel
theorem dM_tryOut_49 : decode bM_tryOut 49 = .ok (.imul, 1) := by decide +kernel
theorem dM_tryOut_50 : decode bM_tryOut 50 = .ok (.iload 10, 2) := by decide +kernel
theorem dM_tryOut_52 : decode bM_tryOut 52 = .ok (.iadd, 1) := by decide +kernel
theorem dM_tryOut_53 : decode bM_tryOut 53 = .ok (.laload, 1) := by decide +kernel
theorem dM_tryOut_54 : decode bM_tryOut 54 = .ok (.lstore 11, 2) := by decide +kernel
theorem dM_tryOut_56 : decode bM_tryOut 56 = .ok (.iload 9, 2) := by decide +kernel
theorem dM_tryOut_58 : decode bM_tryOut 58 = .ok (.ifCond .le 55, 3) := by decide +kernel
theorem dM_tryOut_61 : decode bM_tryOut 61 = .ok (.iload 8, 2) := by decide +kernel
theorem dM_tryOut_63 : decode bM_tryOut 63 = .ok (.ifCond .eq 50, 3) := by decide +kernel
theorem dM_tryOut_66 : decode bM_tryOut 66 = .ok (.lload 6, 2) := by decide +kernel
theorem dM_tryOut_68 : decode bM_tryOut 68 = .ok (.aload_n 0, 1) := by decide +kernel
theorem dM_tryOut_69 : decode bM_tryOut 69 = .ok (.lload 6, 2) := by decide +kernel
theorem dM_tryOut_71 : decode bM_tryOut 71 = .ok (.aload_n 0, 1) := by decide +kernel
theorem dM_tryOut_72 : decode bM_tryOut 72 = .ok (.iload_n 1, 1) := by decide +kernel
theorem dM_tryOut_73 : decode bM_tryOut 73 = .ok (.iload_n 2, 1) := by decide +kernel
theorem dM_tryOut_74 : decode bM_tryOut 74 = .ok (.ifCond .eq 8, 3) := by decide +kernel
theorem dM_tryOut_77 : decode bM_tryOut 77 = .ok (.iload 10, 2) := by decide +kernel
theorem dM_tryOut_79 : decode bM_tryOut 79 = .ok (.goto 7, 3) := by decide +kernel
theorem dM_tryOut_82 : decode bM_tryOut 82 = .ok (.iload 10, 2) := by decide +kernel
theorem dM_tryOut_84 : decode bM_tryOut 84 = .ok (.iconst 1, 1) := by decide +kernel
theorem dM_tryOut_85 : decode bM_tryOut 85 = .ok (.isub, 1) := by decide +kernel
theorem dM_tryOut_86 : decode bM_tryOut 86 = .ok (.invokevirtual 91, 3) := by decide +kernel
theorem dM_tryOut_89 : decode bM_tryOut 89 = .ok (.invokevirtual 95, 3) := by decide +kernel
theorem dM_tryOut_92 : decode bM_tryOut 92 = .ok (.ladd, 1) := by decide +kernel
theorem dM_tryOut_93 : decode bM_tryOut 93 = .ok (.lstore 6, 2) := by decide +kernel
theorem dM_tryOut_95 : decode bM_tryOut 95 = .ok (.lload 6, 2) := by decide +kernel
theorem dM_tryOut_97 : decode bM_tryOut 97 = .ok (.aload_n 0, 1) := by decide +kernel
theorem dM_tryOut_98 : decode bM_tryOut 98 = .ok (.lload 6, 2) := by decide +kernel
theorem dM_tryOut_100 : decode bM_tryOut 100 = .ok (.aload_n 0, 1) := by decide +kernel
theorem dM_tryOut_101 : decode bM_tryOut 101 = .ok (.iload_n 1, 1) := by decide +kernel
theorem dM_tryOut_102 : decode bM_tryOut 102 = .ok (.iload 10, 2) := by decide +kernel
theorem dM_tryOut_104 : decode bM_tryOut 104 = .ok (.invokevirtual 99, 3) := by decide +kernel
theorem dM_tryOut_107 : decode bM_tryOut 107 = .ok (.invokevirtual 102, 3) := by decide +kernel
theorem dM_tryOut_110 : decode bM_tryOut 110 = .ok (.ladd, 1) := by decide +kernel
theorem dM_tryOut_111 : decode bM_tryOut 111 = .ok (.lstore 6, 2) := by decide +kernel
theorem dM_tryOut_113 : decode bM_tryOut 113 = .ok (.iload 8, 2) := by decide +kernel
theorem dM_tryOut_115 : decode bM_tryOut 115 = .ok (.ifCond .eq 15, 3) := by decide +kernel
theorem dM_tryOut_118 : decode bM_tryOut 118 = .ok (.lload 6, 2) := by decide +kernel
theorem dM_tryOut_120 : decode bM_tryOut 120 = .ok (.lload 11, 2) := by decide +kernel
theorem dM_tryOut_122 : decode bM_tryOut 122 = .ok (.lcmp, 1) := by decide +kernel
theorem dM_tryOut_123 : decode bM_tryOut 123 = .ok (.ifCond .ge 7, 3) := by decide +kernel
theorem dM_tryOut_126 : decode bM_tryOut 126 = .ok (.iconst 1, 1) := by decide +kernel
theorem dM_tryOut_127 : decode bM_tryOut 127 = .ok (.goto 4, 3) := by decide +kernel
theorem dM_tryOut_130 : decode bM_tryOut 130 = .ok (.iconst 0, 1) := by decide +kernel
theorem dM_tryOut_131 : decode bM_tryOut 131 = .ok (.istore 8, 2) := by decide +kernel
theorem dM_tryOut_133 : decode bM_tryOut 133 = .ok (.aload_n 0, 1) := by decide +kernel
theorem dM_tryOut_134 : decode bM_tryOut 134 = .ok (.getfield 51, 3) := by decide +kernel
theorem dM_tryOut_137 : decode bM_tryOut 137 = .ok (.iload 10, 2) := by decide +kernel
theorem dM_tryOut_139 : decode bM_tryOut 139 = .ok (.iload 8, 2) := by decide +kernel
theorem dM_tryOut_141 : decode bM_tryOut 141 = .ok (.ifCond .eq 8, 3) := by decide +kernel
theorem dM_tryOut_144 : decode bM_tryOut 144 = .ok (.lload 6, 2) := by decide +kernel
theorem dM_tryOut_146 : decode bM_tryOut 146 = .ok (.goto 5, 3) := by decide +kernel
theorem dM_tryOut_149 : decode bM_tryOut 149 = .ok (.lload 11, 2) := by decide +kernel
theorem dM_tryOut_151 : decode bM_tryOut 151 = .ok (.lastore, 1) := by decide +kernel
theorem dM_tryOut_152 : decode bM_tryOut 152 = .ok (.iinc 9 1, 3) := by decide +kernel
theorem dM_tryOut_155 : decode bM_tryOut 155 = .ok (.goto (-138), 3) := by decide +kernel
theorem dM_tryOut_158 : decode bM_tryOut 158 = .ok (.lconst 0, 1) := by decide +kernel
theorem dM_tryOut_159 : decode bM_tryOut 159 = .ok (.lstore 9, 2) := by decide +kernel
theorem dM_tryOut_161 : decode bM_tryOut 161 = .ok (.iconst 0, 1) := by decide +kernel
theorem dM_tryOut_162 : decode bM_tryOut 162 = .ok (.istore 11, 2) := by decide +kernel
theorem dM_tryOut_164 : decode bM_tryOut 164 = .ok (.iload 11, 2) := by decide +kernel
theorem dM_tryOut_166 : decode bM_tryOut 166 = .ok (.iconst 1, 1) := by decide +kernel
theorem dM_tryOut_167 : decode bM_tryOut 167 = .ok (.iadd, 1) := by decide +kernel
theorem dM_tryOut_168 : decode bM_tryOut 168 = .ok (.iload 5, 2) := by decide +kernel
theorem dM_tryOut_170 : decode bM_tryOut 170 = .ok (.if_icmp .ge 91, 3) := by decide +kernel
theorem dM_tryOut_173 : decode bM_tryOut 173 = .ok (.aload_n 0, 1) := by decide +kernel
theorem dM_tryOut_174 : decode bM_tryOut 174 = .ok (.getfield 31, 3) := by decide +kernel
theorem dM_tryOut_177 : decode bM_tryOut 177 = .ok (.bipush 10, 2) := by decide +kernel
theorem dM_tryOut_179 : decode bM_tryOut 179 = .ok (.iload_n 1, 1) := by decide +kernel
theorem dM_tryOut_180 : decode bM_tryOut 180 = .ok (.imul, 1) := by decide +kernel
theorem dM_tryOut_181 : decode bM_tryOut 181 = .ok (.iload 11, 2) := by decide +kernel
theorem dM_tryOut_183 : decode bM_tryOut 183 = .ok (.iadd, 1) := by decide +kernel
theorem dM_tryOut_184 : decode bM_tryOut 184 = .ok (.laload, 1) := by decide +kernel
theorem dM_tryOut_185 : decode bM_tryOut 185 = .ok (.aload_n 0, 1) := by decide +kernel
theorem dM_tryOut_186 : decode bM_tryOut 186 = .ok (.getfield 31, 3) := by decide +kernel
theorem dM_tryOut_189 : decode bM_tryOut 189 = .ok (.bipush 10, 2) := by decide +kernel
theorem dM_tryOut_191 : decode bM_tryOut 191 = .ok (.iload_n 1, 1) := by decide +kernel
theorem dM_tryOut_192 : decode bM_tryOut 192 = .ok (.imul, 1) := by decide +kernel
theorem dM_tryOut_193 : decode bM_tryOut 193 = .ok (.iload 11, 2) := by decide +kernel
theorem dM_tryOut_195 : decode bM_tryOut 195 = .ok (.iadd, 1) := by decide +kernel
theorem dM_tryOut_196 : decode bM_tryOut 196 = .ok (.iconst 1, 1) := by decide +kernel
theorem dM_tryOut_197 : decode bM_tryOut 197 = .ok (.iadd, 1) := by decide +kernel
theorem dM_tryOut_198 : decode bM_tryOut 198 = .ok (.laload, 1) := by decide +kernel
theorem dM_tryOut_199 : decode bM_tryOut 199 = .ok (.ladd, 1) := by decide +kernel
theorem dM_tryOut_200 : decode bM_tryOut 200 = .ok (.aload_n 0, 1) := by decide +kernel
theorem dM_tryOut_201 : decode bM_tryOut 201 = .ok (.getfield 51, 3) := by decide +kernel
theorem dM_tryOut_204 : decode bM_tryOut 204 = .ok (.iload 11, 2) := by decide +kernel
