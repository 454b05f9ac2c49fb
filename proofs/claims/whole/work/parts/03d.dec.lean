theorem dT_init_0 : decode bT_init 0 = .ok (.aload_n 0, 1) := by decide +kernel
theorem dT_init_1 : decode bT_init 1 = .ok (.invokespecial 3, 3) := by decide +kernel
theorem dT_init_4 : decode bT_init 4 = .ok (.aload_n 0, 1) := by decide +kernel
theorem dT_init_5 : decode bT_init 5 = .ok (.iload_n 1, 1) := by decide +kernel
theorem dT_init_6 : decode bT_init 6 = .ok (.putfield 9, 3) := by decide +kernel
theorem dT_init_9 : decode bT_init 9 = .ok (.aload_n 0, 1) := by decide +kernel
theorem dT_init_10 : decode bT_init 10 = .ok (.new 15, 3) := by decide +kernel
theorem dT_init_13 : decode bT_init 13 = .ok (.dup, 1) := by decide +kernel
theorem dT_init_14 : decode bT_init 14 = .ok (.invokespecial 17, 3) := by decide +kernel
theorem dT_init_17 : decode bT_init 17 = .ok (.putfield 18, 3) := by decide +kernel
theorem dT_init_20 : decode bT_init 20 = .ok (.aload_n 0, 1) := by decide +kernel
theorem dT_init_21 : decode bT_init 21 = .ok (.bipush 10, 2) := by decide +kernel
theorem dT_init_23 : decode bT_init 23 = .ok (.newarray .long, 2) := by decide +kernel
theorem dT_init_25 : decode bT_init 25 = .ok (.putfield 22, 3) := by decide +kernel
theorem dT_init_28 : decode bT_init 28 = .ok (.aload_n 0, 1) := by decide +kernel
theorem dT_init_29 : decode bT_init 29 = .ok (.bipush 10, 2) := by decide +kernel
theorem dT_init_31 : decode bT_init 31 = .ok (.newarray .long, 2) := by decide +kernel
theorem dT_init_33 : decode bT_init 33 = .ok (.putfield 26, 3) := by decide +kernel
theorem dT_init_36 : decode bT_init 36 = .ok (.aload_n 0, 1) := by decide +kernel
theorem dT_init_37 : decode bT_init 37 = .ok (.iconst 0, 1) := by decide +kernel
theorem dT_init_38 : decode bT_init 38 = .ok (.putfield 29, 3) := by decide +kernel
theorem dT_init_41 : decode bT_init 41 = .ok (.aload_n 0, 1) := by decide +kernel
theorem dT_init_42 : decode bT_init 42 = .ok (.iconst 0, 1) := by decide +kernel
theorem dT_init_43 : decode bT_init 43 = .ok (.putfield 32, 3) := by decide +kernel
theorem dT_init_46 : decode bT_init 46 = .ok (.aload_n 0, 1) := by decide +kernel
theorem dT_init_47 : decode bT_init 47 = .ok (.iconst 0, 1) := by decide +kernel
theorem dT_init_48 : decode bT_init 48 = .ok (.putfield 35, 3) := by decide +kernel
theorem dT_init_51 : decode bT_init 51 = .ok (.return_, 1) := by decide +kernel
theorem dT_startPulling_0 : decode bT_startPulling 0 = .ok (.aload_n 0, 1) := by decide +kernel
theorem dT_startPulling_1 : decode bT_startPulling 1 = .ok (.aload_n 0, 1) := by decide +kernel
theorem dT_startPulling_2 : decode bT_startPulling 2 = .ok (.getfield 22, 3) := by decide +kernel
theorem dT_startPulling_5 : decode bT_startPulling 5 = .ok (.iload_n 1, 1) := by decide +kernel
theorem dT_startPulling_6 : decode bT_startPulling 6 = .ok (.iload_n 2, 1) := by decide +kernel
theorem dT_startPulling_7 : decode bT_startPulling 7 = .ok (.aload_n 3, 1) := by decide +kernel
theorem dT_startPulling_8 : decode bT_startPulling 8 = .ok (.invokevirtual 38, 3) := by decide +kernel
theorem dT_startPulling_11 : decode bT_startPulling 11 = .ok (.aload_n 0, 1) := by decide +kernel
theorem dT_startPulling_12 : decode bT_startPulling 12 = .ok (.iconst 1, 1) := by decide +kernel
theorem dT_startPulling_13 : decode bT_startPulling 13 = .ok (.putfield 29, 3) := by decide +kernel
theorem dT_startPulling_16 : decode bT_startPulling 16 = .ok (.aload_n 0, 1) := by decide +kernel
theorem dT_startPulling_17 : decode bT_startPulling 17 = .ok (.iload_n 1, 1) := by decide +kernel
theorem dT_startPulling_18 : decode bT_startPulling 18 = .ok (.putfield 32, 3) := by decide +kernel
theorem dT_startPulling_21 : decode bT_startPulling 21 = .ok (.aload_n 0, 1) := by decide +kernel
theorem dT_startPulling_22 : decode bT_startPulling 22 = .ok (.iload_n 2, 1) := by decide +kernel
theorem dT_startPulling_23 : decode bT_startPulling 23 = .ok (.putfield 35, 3) := by decide +kernel
theorem dT_startPulling_26 : decode bT_startPulling 26 = .ok (.return_, 1) := by decide +kernel
theorem dT_leastForceIfPulled_0 : decode bT_leastForceIfPulled 0 = .ok (.aload_n 0, 1) := by decide +kernel
theorem dT_leastForceIfPulled_1 : decode bT_leastForceIfPulled 1 = .ok (.aload_n 0, 1) := by decide +kernel
theorem dT_leastForceIfPulled_2 : decode bT_leastForceIfPulled 2 = .ok (.getfield 26, 3) := by decide +kernel
theorem dT_leastForceIfPulled_5 : decode bT_leastForceIfPulled 5 = .ok (.iload_n 1, 1) := by decide +kernel
theorem dT_leastForceIfPulled_6 : decode bT_leastForceIfPulled 6 = .ok (.iload_n 2, 1) := by decide +kernel
theorem dT_leastForceIfPulled_7 : decode bT_leastForceIfPulled 7 = .ok (.aload_n 3, 1) := by decide +kernel
theorem dT_leastForceIfPulled_8 : decode bT_leastForceIfPulled 8 = .ok (.invokevirtual 38, 3) := by decide +kernel
theorem dT_leastForceIfPulled_11 : decode bT_leastForceIfPulled 11 = .ok (.iload_n 2, 1) := by decide +kernel
theorem dT_leastForceIfPulled_12 : decode bT_leastForceIfPulled 12 = .ok (.i2l, 1) := by decide +kernel
theorem dT_leastForceIfPulled_13 : decode bT_leastForceIfPulled 13 = .ok (.lstore 4, 2) := by decide +kernel
theorem dT_leastForceIfPulled_15 : decode bT_leastForceIfPulled 15 = .ok (.iconst 0, 1) := by decide +kernel
theorem dT_leastForceIfPulled_16 : decode bT_leastForceIfPulled 16 = .ok (.istore 6, 2) := by decide +kernel
theorem dT_leastForceIfPulled_18 : decode bT_leastForceIfPulled 18 = .ok (.iload 6, 2) := by decide +kernel
theorem dT_leastForceIfPulled_20 : decode bT_leastForceIfPulled 20 = .ok (.aload_n 0, 1) := by decide +kernel
theorem dT_leastForceIfPulled_21 : decode bT_leastForceIfPulled 21 = .ok (.getfield 18, 3) := by decide +kernel
theorem dT_leastForceIfPulled_24 : decode bT_leastForceIfPulled 24 = .ok (.getfield 42, 3) := by decide +kernel
theorem dT_leastForceIfPulled_27 : decode bT_leastForceIfPulled 27 = .ok (.if_icmp .ge 23, 3) := by decide +kernel
theorem dT_leastForceIfPulled_30 : decode bT_leastForceIfPulled 30 = .ok (.lload 4, 2) := by decide +kernel
theorem dT_leastForceIfPulled_32 : decode bT_leastForceIfPulled 32 = .ok (.aload_n 0, 1) := by decide +kernel
theorem dT_leastForceIfPulled_33 : decode bT_leastForceIfPulled 33 = .ok (.getfield 26, 3) := by decide +kernel
theorem dT_leastForceIfPulled_36 : decode bT_leastForceIfPulled 36 = .ok (.iload 6, 2) := by decide +kernel
theorem dT_leastForceIfPulled_38 : decode bT_leastForceIfPulled 38 = .ok (.laload, 1) := by decide +kernel
theorem dT_leastForceIfPulled_39 : decode bT_leastForceIfPulled 39 = .ok (.invokestatic 45, 3) := by decide +kernel
theorem dT_leastForceIfPulled_42 : decode bT_leastForceIfPulled 42 = .ok (.lstore 4, 2) := by decide +kernel
theorem dT_leastForceIfPulled_44 : decode bT_leastForceIfPulled 44 = .ok (.iinc 6 1, 3) := by decide +kernel
theorem dT_leastForceIfPulled_47 : decode bT_leastForceIfPulled 47 = .ok (.goto (-29), 3) := by decide +kernel
theorem dT_leastForceIfPulled_50 : decode bT_leastForceIfPulled 50 = .ok (.lload 4, 2) := by decide +kernel
theorem dT_leastForceIfPulled_52 : decode bT_leastForceIfPulled 52 = .ok (.lreturn, 1) := by decide +kernel
theorem dT_strain_0 : decode bT_strain 0 = .ok (.iconst 0, 1) := by decide +kernel
theorem dT_strain_1 : decode bT_strain 1 = .ok (.istore 5, 2) := by decide +kernel
theorem dT_strain_3 : decode bT_strain 3 = .ok (.iload 5, 2) := by decide +kernel
theorem dT_strain_5 : decode bT_strain 5 = .ok (.aload_n 0, 1) := by decide +kernel
theorem dT_strain_6 : decode bT_strain 6 = .ok (.getfield 18, 3) := by decide +kernel
theorem dT_strain_9 : decode bT_strain 9 = .ok (.getfield 42, 3) := by decide +kernel
theorem dT_strain_12 : decode bT_strain 12 = .ok (.if_icmp .ge 14, 3) := by decide +kernel
theorem dT_strain_15 : decode bT_strain 15 = .ok (.aload_n 1, 1) := by decide +kernel
theorem dT_strain_16 : decode bT_strain 16 = .ok (.iload 5, 2) := by decide +kernel
theorem dT_strain_18 : decode bT_strain 18 = .ok (.lconst 0, 1) := by decide +kernel
theorem dT_strain_19 : decode bT_strain 19 = .ok (.lastore, 1) := by decide +kernel
theorem dT_strain_20 : decode bT_strain 20 = .ok (.iinc 5 1, 3) := by decide +kernel
theorem dT_strain_23 : decode bT_strain 23 = .ok (.goto (-20), 3) := by decide +kernel
theorem dT_strain_26 : decode bT_strain 26 = .ok (.iload_n 2, 1) := by decide +kernel
theorem dT_strain_27 : decode bT_strain 27 = .ok (.iconst 1, 1) := by decide +kernel
theorem dT_strain_28 : decode bT_strain 28 = .ok (.iand, 1) := by decide +kernel
theorem dT_strain_29 : decode bT_strain 29 = .ok (.ifCond .eq 12, 3) := by decide +kernel
theorem dT_strain_32 : decode bT_strain 32 = .ok (.aload_n 0, 1) := by decide +kernel
theorem dT_strain_33 : decode bT_strain 33 = .ok (.aload_n 1, 1) := by decide +kernel
theorem dT_strain_34 : decode bT_strain 34 = .ok (.iconst 1, 1) := by decide +kernel
theorem dT_strain_35 : decode bT_strain 35 = .ok (.iload_n 3, 1) := by decide +kernel
theorem dT_strain_36 : decode bT_strain 36 = .ok (.aload 4, 2) := by decide +kernel
theorem dT_strain_38 : decode bT_strain 38 = .ok (.invokevirtual 51, 3) := by decide +kernel
theorem dT_strain_41 : decode bT_strain 41 = .ok (.iload_n 2, 1) := by decide +kernel
theorem dT_strain_42 : decode bT_strain 42 = .ok (.iconst 2, 1) := by decide +kernel
theorem dT_strain_43 : decode bT_strain 43 = .ok (.iand, 1) := by decide +kernel
theorem dT_strain_44 : decode bT_strain 44 = .ok (.ifCond .eq 12, 3) := by decide +kernel
theorem dT_strain_47 : decode bT_strain 47 = .ok (.aload_n 0, 1) := by decide +kernel
theorem dT_strain_48 : decode bT_strain 48 = .ok (.aload_n 1, 1) := by decide +kernel
theorem dT_strain_49 : decode bT_strain 49 = .ok (.iconst 2, 1) := by decide +kernel
theorem dT_strain_50 : decode bT_strain 50 = .ok (.iload_n 3, 1) := by decide +kernel
theorem dT_strain_51 : decode bT_strain 51 = .ok (.aload 4, 2) := by decide +kernel
theorem dT_strain_53 : decode bT_strain 53 = .ok (.invokevirtual 51, 3) := by decide +kernel
theorem dT_strain_56 : decode bT_strain 56 = .ok (.return_, 1) := by decide +kernel
theorem dT_strainFromEnd_0 : decode bT_strainFromEnd 0 = .ok (.iload_n 3, 1) := by decide +kernel
theorem dT_strainFromEnd_1 : decode bT_strainFromEnd 1 = .ok (.i2l, 1) := by decide +kernel
theorem dT_strainFromEnd_2 : decode bT_strainFromEnd 2 = .ok (.lstore 5, 2) := by decide +kernel
theorem dT_strainFromEnd_4 : decode bT_strainFromEnd 4 = .ok (.iconst 0, 1) := by decide +kernel
theorem dT_strainFromEnd_5 : decode bT_strainFromEnd 5 = .ok (.istore 7, 2) := by decide +kernel
theorem dT_strainFromEnd_7 : decode bT_strainFromEnd 7 = .ok (.iload 7, 2) := by decide +kernel
theorem dT_strainFromEnd_9 : decode bT_strainFromEnd 9 = .ok (.aload_n 0, 1) := by decide +kernel
theorem dT_strainFromEnd_10 : decode bT_strainFromEnd 10 = .ok (.getfield 18, 3) := by decide +kernel
theorem dT_strainFromEnd_13 : decode bT_strainFromEnd 13 = .ok (.getfield 42, 3) := by decide +kernel
theorem dT_strainFromEnd_16 : decode bT_strainFromEnd 16 = .ok (.if_icmp .ge 86, 3) := by decide +kernel
theorem dT_strainFromEnd_19 : decode bT_strainFromEnd 19 = .ok (.aload_n 0, 1) := by decide +kernel
theorem dT_strainFromEnd_20 : decode bT_strainFromEnd 20 = .ok (.getfield 18, 3) := by decide +kernel
theorem dT_strainFromEnd_23 : decode bT_strainFromEnd 23 = .ok (.iload_n 2, 1) := by decide +kernel
theorem dT_strainFromEnd_24 : decode bT_strainFromEnd 24 = .ok (.iload 7, 2) := by decide +kernel
theorem dT_strainFromEnd_26 : decode bT_strainFromEnd 26 = .ok (.invokevirtual 54, 3) := by decide +kernel
theorem dT_strainFromEnd_29 : decode bT_strainFromEnd 29 = .ok (.istore 8, 2) := by decide +kernel
theorem dT_strainFromEnd_31 : decode bT_strainFromEnd 31 = .ok (.iload 7, 2) := by decide +kernel
theorem dT_strainFromEnd_33 : decode bT_strainFromEnd 33 = .ok (.ifCond .le 50, 3) := by decide +kernel
theorem dT_strainFromEnd_36 : decode bT_strainFromEnd 36 = .ok (.lload 5, 2) := by decide +kernel
theorem dT_strainFromEnd_38 : decode bT_strainFromEnd 38 = .ok (.aload 4, 2) := by decide +kernel
theorem dT_strainFromEnd_40 : decode bT_strainFromEnd 40 = .ok (.lload 5, 2) := by decide +kernel
theorem dT_strainFromEnd_42 : decode bT_strainFromEnd 42 = .ok (.aload_n 0, 1) := by decide +kernel
theorem dT_strainFromEnd_43 : decode bT_strainFromEnd 43 = .ok (.getfield 18, 3) := by decide +kernel
theorem dT_strainFromEnd_46 : decode bT_strainFromEnd 46 = .ok (.iload_n 2, 1) := by decide +kernel
theorem dT_strainFromEnd_47 : decode bT_strainFromEnd 47 = .ok (.iload 7, 2) := by decide +kernel
theorem dT_strainFromEnd_49 : decode bT_strainFromEnd 49 = .ok (.invokevirtual 58, 3) := by decide +kernel
theorem dT_strainFromEnd_52 : decode bT_strainFromEnd 52 = .ok (.invokevirtual 61, 3) := by decide +kernel
theorem dT_strainFromEnd_55 : decode bT_strainFromEnd 55 = .ok (.lsub, 1) := by decide +kernel
theorem dT_strainFromEnd_56 : decode bT_strainFromEnd 56 = .ok (.lstore 5, 2) := by decide +kernel
theorem dT_strainFromEnd_58 : decode bT_strainFromEnd 58 = .ok (.lconst 0, 1) := by decide +kernel
theorem dT_strainFromEnd_59 : decode bT_strainFromEnd 59 = .ok (.lload 5, 2) := by decide +kernel
theorem dT_strainFromEnd_61 : decode bT_strainFromEnd 61 = .ok (.aload 4, 2) := by decide +kernel
theorem dT_strainFromEnd_63 : decode bT_strainFromEnd 63 = .ok (.lload 5, 2) := by decide +kernel
theorem dT_strainFromEnd_65 : decode bT_strainFromEnd 65 = .ok (.aload_n 0, 1) := by decide +kernel
theorem dT_strainFromEnd_66 : decode bT_strainFromEnd 66 = .ok (.getfield 18, 3) := by decide +kernel
theorem dT_strainFromEnd_69 : decode bT_strainFromEnd 69 = .ok (.iload 8, 2) := by decide +kernel
theorem dT_strainFromEnd_71 : decode bT_strainFromEnd 71 = .ok (.invokevirtual 67, 3) := by decide +kernel
theorem dT_strainFromEnd_74 : decode bT_strainFromEnd 74 = .ok (.invokevirtual 71, 3) := by decide +kernel
theorem dT_strainFromEnd_77 : decode bT_strainFromEnd 77 = .ok (.lsub, 1) := by decide +kernel
theorem dT_strainFromEnd_78 : decode bT_strainFromEnd 78 = .ok (.invokestatic 74, 3) := by decide +kernel
theorem dT_strainFromEnd_81 : decode bT_strainFromEnd 81 = .ok (.lstore 5, 2) := by decide +kernel
theorem dT_strainFromEnd_83 : decode bT_strainFromEnd 83 = .ok (.aload_n 1, 1) := by decide +kernel
theorem dT_strainFromEnd_84 : decode bT_strainFromEnd 84 = .ok (.iload 8, 2) := by decide +kernel
theorem dT_strainFromEnd_86 : decode bT_strainFromEnd 86 = .ok (.aload_n 1, 1) := by decide +kernel
theorem dT_strainFromEnd_87 : decode bT_strainFromEnd 87 = .ok (.iload 8, 2) := by decide +kernel
theorem dT_strainFromEnd_89 : decode bT_strainFromEnd 89 = .ok (.laload, 1) := by decide +kernel
theorem dT_strainFromEnd_90 : decode bT_strainFromEnd 90 = .ok (.lload 5, 2) := by decide +kernel
theorem dT_strainFromEnd_92 : decode bT_strainFromEnd 92 = .ok (.invokestatic 74, 3) := by decide +kernel
theorem dT_strainFromEnd_95 : decode bT_strainFromEnd 95 = .ok (.lastore, 1) := by decide +kernel
theorem dT_strainFromEnd_96 : decode bT_strainFromEnd 96 = .ok (.iinc 7 1, 3) := by decide +kernel
theorem dT_strainFromEnd_99 : decode bT_strainFromEnd 99 = .ok (.goto (-92), 3) := by decide +kernel
theorem dT_strainFromEnd_102 : decode bT_strainFromEnd 102 = .ok (.return_, 1) := by decide +kernel
theorem dT_slipBack_0 : decode bT_slipBack 0 = .ok (.aload_n 0, 1) := by decide +kernel
theorem dT_slipBack_1 : decode bT_slipBack 1 = .ok (.getfield 32, 3) := by decide +kernel
theorem dT_slipBack_4 : decode bT_slipBack 4 = .ok (.iconst 1, 1) := by decide +kernel
theorem dT_slipBack_5 : decode bT_slipBack 5 = .ok (.iand, 1) := by decide +kernel
theorem dT_slipBack_6 : decode bT_slipBack 6 = .ok (.ifCond .eq 10, 3) := by decide +kernel
theorem dT_slipBack_9 : decode bT_slipBack 9 = .ok (.aload_n 0, 1) := by decide +kernel
theorem dT_slipBack_10 : decode bT_slipBack 10 = .ok (.iconst 1, 1) := by decide +kernel
theorem dT_slipBack_11 : decode bT_slipBack 11 = .ok (.iload_n 1, 1) := by decide +kernel
theorem dT_slipBack_12 : decode bT_slipBack 12 = .ok (.aload_n 2, 1) := by decide +kernel
theorem dT_slipBack_13 : decode bT_slipBack 13 = .ok (.invokevirtual 77, 3) := by decide +kernel
theorem dT_slipBack_16 : decode bT_slipBack 16 = .ok (.aload_n 0, 1) := by decide +kernel
theorem dT_slipBack_17 : decode bT_slipBack 17 = .ok (.getfield 32, 3) := by decide +kernel
theorem dT_slipBack_20 : decode bT_slipBack 20 = .ok (.iconst 2, 1) := by decide +kernel
theorem dT_slipBack_21 : decode bT_slipBack 21 = .ok (.iand, 1) := by decide +kernel
theorem dT_slipBack_22 : decode bT_slipBack 22 = .ok (.ifCond .eq 10, 3) := by decide +kernel
theorem dT_slipBack_25 : decode bT_slipBack 25 = .ok (.aload_n 0, 1) := by decide +kernel
theorem dT_slipBack_26 : decode bT_slipBack 26 = .ok (.iconst 2, 1) := by decide +kernel
theorem dT_slipBack_27 : decode bT_slipBack 27 = .ok (.iload_n 1, 1) := by decide +kernel
theorem dT_slipBack_28 : decode bT_slipBack 28 = .ok (.aload_n 2, 1) := by decide +kernel
theorem dT_slipBack_29 : decode bT_slipBack 29 = .ok (.invokevirtual 77, 3) := by decide +kernel
theorem dT_slipBack_32 : decode bT_slipBack 32 = .ok (.return_, 1) := by decide +kernel
theorem dT_slipAtEnd_0 : decode bT_slipAtEnd 0 = .ok (.iconst 0, 1) := by decide +kernel
theorem dT_slipAtEnd_1 : decode bT_slipAtEnd 1 = .ok (.istore 4, 2) := by decide +kernel
theorem dT_slipAtEnd_3 : decode bT_slipAtEnd 3 = .ok (.aload_n 0, 1) := by decide +kernel
theorem dT_slipAtEnd_4 : decode bT_slipAtEnd 4 = .ok (.getfield 35, 3) := by decide +kernel
theorem dT_slipAtEnd_7 : decode bT_slipAtEnd 7 = .ok (.istore 5, 2) := by decide +kernel
theorem dT_slipAtEnd_9 : decode bT_slipAtEnd 9 = .ok (.iconst 0, 1) := by decide +kernel
theorem dT_slipAtEnd_10 : decode bT_slipAtEnd 10 = .ok (.istore 6, 2) := by decide +kernel
theorem dT_slipAtEnd_12 : decode bT_slipAtEnd 12 = .ok (.iload 6, 2) := by decide +kernel
theorem dT_slipAtEnd_14 : decode bT_slipAtEnd 14 = .ok (.bipush 40, 2) := by decide +kernel
theorem dT_slipAtEnd_16 : decode bT_slipAtEnd 16 = .ok (.if_icmp .ge 58, 3) := by decide +kernel
theorem dT_slipAtEnd_19 : decode bT_slipAtEnd 19 = .ok (.iload 4, 2) := by decide +kernel
theorem dT_slipAtEnd_21 : decode bT_slipAtEnd 21 = .ok (.iload 5, 2) := by decide +kernel
theorem dT_slipAtEnd_23 : decode bT_slipAtEnd 23 = .ok (.if_icmp .ge 51, 3) := by decide +kernel
theorem dT_slipAtEnd_26 : decode bT_slipAtEnd 26 = .ok (.iload 4, 2) := by decide +kernel
theorem dT_slipAtEnd_28 : decode bT_slipAtEnd 28 = .ok (.iload 5, 2) := by decide +kernel
theorem dT_slipAtEnd_30 : decode bT_slipAtEnd 30 = .ok (.iadd, 1) := by decide +kernel
theorem dT_slipAtEnd_31 : decode bT_slipAtEnd 31 = .ok (.iconst 1, 1) := by decide +kernel
theorem dT_slipAtEnd_32 : decode bT_slipAtEnd 32 = .ok (.iadd, 1) := by decide +kernel
theorem dT_slipAtEnd_33 : decode bT_slipAtEnd 33 = .ok (.iconst 2, 1) := by decide +kernel
theorem dT_slipAtEnd_34 : decode bT_slipAtEnd 34 = .ok (.idiv, 1) := by decide +kernel
theorem dT_slipAtEnd_35 : decode bT_slipAtEnd 35 = .ok (.istore 7, 2) := by decide +kernel
theorem dT_slipAtEnd_37 : decode bT_slipAtEnd 37 = .ok (.aload_n 0, 1) := by decide +kernel
theorem dT_slipAtEnd_38 : decode bT_slipAtEnd 38 = .ok (.iload_n 1, 1) := by decide +kernel
theorem dT_slipAtEnd_39 : decode bT_slipAtEnd 39 = .ok (.iload 7, 2) := by decide +kernel
theorem dT_slipAtEnd_41 : decode bT_slipAtEnd 41 = .ok (.aload_n 3, 1) := by decide +kernel
theorem dT_slipAtEnd_42 : decode bT_slipAtEnd 42 = .ok (.invokevirtual 81, 3) := by decide +kernel
theorem dT_slipAtEnd_45 : decode bT_slipAtEnd 45 = .ok (.aload_n 0, 1) := by decide +kernel
theorem dT_slipAtEnd_46 : decode bT_slipAtEnd 46 = .ok (.invokevirtual 84, 3) := by decide +kernel
theorem dT_slipAtEnd_49 : decode bT_slipAtEnd 49 = .ok (.iload_n 2, 1) := by decide +kernel
theorem dT_slipAtEnd_50 : decode bT_slipAtEnd 50 = .ok (.i2l, 1) := by decide +kernel
theorem dT_slipAtEnd_51 : decode bT_slipAtEnd 51 = .ok (.lcmp, 1) := by decide +kernel
theorem dT_slipAtEnd_52 : decode bT_slipAtEnd 52 = .ok (.ifCond .lt 10, 3) := by decide +kernel
theorem dT_slipAtEnd_55 : decode bT_slipAtEnd 55 = .ok (.iload 7, 2) := by decide +kernel
theorem dT_slipAtEnd_57 : decode bT_slipAtEnd 57 = .ok (.istore 4, 2) := by decide +kernel
theorem dT_slipAtEnd_59 : decode bT_slipAtEnd 59 = .ok (.goto 9, 3) := by decide +kernel
theorem dT_slipAtEnd_62 : decode bT_slipAtEnd 62 = .ok (.iload 7, 2) := by decide +kernel
theorem dT_slipAtEnd_64 : decode bT_slipAtEnd 64 = .ok (.iconst 1, 1) := by decide +kernel
theorem dT_slipAtEnd_65 : decode bT_slipAtEnd 65 = .ok (.isub, 1) := by decide +kernel
theorem dT_slipAtEnd_66 : decode bT_slipAtEnd 66 = .ok (.istore 5, 2) := by decide +kernel
theorem dT_slipAtEnd_68 : decode bT_slipAtEnd 68 = .ok (.iinc 6 1, 3) := by decide +kernel
theorem dT_slipAtEnd_71 : decode bT_slipAtEnd 71 = .ok (.goto (-59), 3) := by decide +kernel
theorem dT_slipAtEnd_74 : decode bT_slipAtEnd 74 = .ok (.aload_n 0, 1) := by decide +kernel
theorem dT_slipAtEnd_75 : decode bT_slipAtEnd 75 = .ok (.iload_n 1, 1) := by decide +kernel
theorem dT_slipAtEnd_76 : decode bT_slipAtEnd 76 = .ok (.iload 4, 2) := by decide +kernel
theorem dT_slipAtEnd_78 : decode bT_slipAtEnd 78 = .ok (.aload_n 3, 1) := by decide +kernel
theorem dT_slipAtEnd_79 : decode bT_slipAtEnd 79 = .ok (.invokevirtual 81, 3) := by decide +kernel
theorem dT_slipAtEnd_82 : decode bT_slipAtEnd 82 = .ok (.iconst 0, 1) := by decide +kernel
theorem dT_slipAtEnd_83 : decode bT_slipAtEnd 83 = .ok (.istore 6, 2) := by decide +kernel
theorem dT_slipAtEnd_85 : decode bT_slipAtEnd 85 = .ok (.iload 6, 2) := by decide +kernel
theorem dT_slipAtEnd_87 : decode bT_slipAtEnd 87 = .ok (.aload_n 0, 1) := by decide +kernel
theorem dT_slipAtEnd_88 : decode bT_slipAtEnd 88 = .ok (.getfield 18, 3) := by decide +kernel
theorem dT_slipAtEnd_91 : decode bT_slipAtEnd 91 = .ok (.getfield 42, 3) := by decide +kernel
theorem dT_slipAtEnd_94 : decode bT_slipAtEnd 94 = .ok (.if_icmp .ge 23, 3) := by decide +kernel
theorem dT_slipAtEnd_97 : decode bT_slipAtEnd 97 = .ok (.aload_n 0, 1) := by decide +kernel
theorem dT_slipAtEnd_98 : decode bT_slipAtEnd 98 = .ok (.getfield 22, 3) := by decide +kernel
theorem dT_slipAtEnd_101 : decode bT_slipAtEnd 101 = .ok (.iload 6, 2) := by decide +kernel
theorem dT_slipAtEnd_103 : decode bT_slipAtEnd 103 = .ok (.aload_n 0, 1) := by decide +kernel
theorem dT_slipAtEnd_104 : decode bT_slipAtEnd 104 = .ok (.getfield 26, 3) := by decide +kernel
theorem dT_slipAtEnd_107 : decode bT_slipAtEnd 107 = .ok (.iload 6, 2) := by decide +kernel
theorem dT_slipAtEnd_109 : decode bT_slipAtEnd 109 = .ok (.laload, 1) := by decide +kernel
theorem dT_slipAtEnd_110 : decode bT_slipAtEnd 110 = .ok (.lastore, 1) := by decide +kernel
theorem dT_slipAtEnd_111 : decode bT_slipAtEnd 111 = .ok (.iinc 6 1, 3) := by decide +kernel
theorem dT_slipAtEnd_114 : decode bT_slipAtEnd 114 = .ok (.goto (-29), 3) := by decide +kernel
theorem dT_slipAtEnd_117 : decode bT_slipAtEnd 117 = .ok (.return_, 1) := by decide +kernel
theorem dT_tryAnchor_0 : decode bT_tryAnchor 0 = .ok (.iconst 0, 1) := by decide +kernel
theorem dT_tryAnchor_1 : decode bT_tryAnchor 1 = .ok (.istore 4, 2) := by decide +kernel
theorem dT_tryAnchor_3 : decode bT_tryAnchor 3 = .ok (.iload 4, 2) := by decide +kernel
theorem dT_tryAnchor_5 : decode bT_tryAnchor 5 = .ok (.aload_n 0, 1) := by decide +kernel
theorem dT_tryAnchor_6 : decode bT_tryAnchor 6 = .ok (.getfield 18, 3) := by decide +kernel
theorem dT_tryAnchor_9 : decode bT_tryAnchor 9 = .ok (.getfield 42, 3) := by decide +kernel
theorem dT_tryAnchor_12 : decode bT_tryAnchor 12 = .ok (.if_icmp .ge 23, 3) := by decide +kernel
theorem dT_tryAnchor_15 : decode bT_tryAnchor 15 = .ok (.aload_n 0, 1) := by decide +kernel
theorem dT_tryAnchor_16 : decode bT_tryAnchor 16 = .ok (.getfield 26, 3) := by decide +kernel
theorem dT_tryAnchor_19 : decode bT_tryAnchor 19 = .ok (.iload 4, 2) := by decide +kernel
theorem dT_tryAnchor_21 : decode bT_tryAnchor 21 = .ok (.aload_n 0, 1) := by decide +kernel
theorem dT_tryAnchor_22 : decode bT_tryAnchor 22 = .ok (.getfield 22, 3) := by decide +kernel
theorem dT_tryAnchor_25 : decode bT_tryAnchor 25 = .ok (.iload 4, 2) := by decide +kernel
theorem dT_tryAnchor_27 : decode bT_tryAnchor 27 = .ok (.laload, 1) := by decide +kernel
theorem dT_tryAnchor_28 : decode bT_tryAnchor 28 = .ok (.lastore, 1) := by decide +kernel
theorem dT_tryAnchor_29 : decode bT_tryAnchor 29 = .ok (.iinc 4 1, 3) := by decide +kernel
theorem dT_tryAnchor_32 : decode bT_tryAnchor 32 = .ok (.goto (-29), 3) := by decide +kernel
theorem dT_tryAnchor_35 : decode bT_tryAnchor 35 = .ok (.iload_n 2, 1) := by decide +kernel
theorem dT_tryAnchor_36 : decode bT_tryAnchor 36 = .ok (.i2l, 1) := by decide +kernel
theorem dT_tryAnchor_37 : decode bT_tryAnchor 37 = .ok (.lstore 4, 2) := by decide +kernel
theorem dT_tryAnchor_39 : decode bT_tryAnchor 39 = .ok (.iconst 0, 1) := by decide +kernel
theorem dT_tryAnchor_40 : decode bT_tryAnchor 40 = .ok (.istore 6, 2) := by decide +kernel
theorem dT_tryAnchor_42 : decode bT_tryAnchor 42 = .ok (.iload 6, 2) := by decide +kernel
theorem dT_tryAnchor_44 : decode bT_tryAnchor 44 = .ok (.aload_n 0, 1) := by decide +kernel
theorem dT_tryAnchor_45 : decode bT_tryAnchor 45 = .ok (.getfield 18, 3) := by decide +kernel
theorem dT_tryAnchor_48 : decode bT_tryAnchor 48 = .ok (.getfield 42, 3) := by decide +kernel
theorem dT_tryAnchor_51 : decode bT_tryAnchor 51 = .ok (.if_icmp .ge 90, 3) := by decide +kernel
theorem dT_tryAnchor_54 : decode bT_tryAnchor 54 = .ok (.aload_n 0, 1) := by decide +kernel
theorem dT_tryAnchor_55 : decode bT_tryAnchor 55 = .ok (.getfield 18, 3) := by decide +kernel
theorem dT_tryAnchor_58 : decode bT_tryAnchor 58 = .ok (.iload_n 1, 1) := by decide +kernel
theorem dT_tryAnchor_59 : decode bT_tryAnchor 59 = .ok (.iload 6, 2) := by decide +kernel
theorem dT_tryAnchor_61 : decode bT_tryAnchor 61 = .ok (.invokevirtual 54, 3) := by decide +kernel
theorem dT_tryAnchor_64 : decode bT_tryAnchor 64 = .ok (.istore 7, 2) := by decide +kernel
theorem dT_tryAnchor_66 : decode bT_tryAnchor 66 = .ok (.iload 6, 2) := by decide +kernel
theorem dT_tryAnchor_68 : decode bT_tryAnchor 68 = .ok (.ifCond .le 44, 3) := by decide +kernel
theorem dT_tryAnchor_71 : decode bT_tryAnchor 71 = .ok (.lload 4, 2) := by decide +kernel
theorem dT_tryAnchor_73 : decode bT_tryAnchor 73 = .ok (.aload_n 3, 1) := by decide +kernel
theorem dT_tryAnchor_74 : decode bT_tryAnchor 74 = .ok (.lload 4, 2) := by decide +kernel
theorem dT_tryAnchor_76 : decode bT_tryAnchor 76 = .ok (.aload_n 0, 1) := by decide +kernel
theorem dT_tryAnchor_77 : decode bT_tryAnchor 77 = .ok (.getfield 18, 3) := by decide +kernel
theorem dT_tryAnchor_80 : decode bT_tryAnchor 80 = .ok (.iload_n 1, 1) := by decide +kernel
theorem dT_tryAnchor_81 : decode bT_tryAnchor 81 = .ok (.iload 6, 2) := by decide +kernel
theorem dT_tryAnchor_83 : decode bT_tryAnchor 83 = .ok (.invokevirtual 58, 3) := by decide +kernel
theorem dT_tryAnchor_86 : decode bT_tryAnchor 86 = .ok (.invokevirtual 61, 3) := by decide +kernel
theorem dT_tryAnchor_89 : decode bT_tryAnchor 89 = .ok (.ladd, 1) := by decide +kernel
theorem dT_tryAnchor_90 : decode bT_tryAnchor 90 = .ok (.lstore 4, 2) := by decide +kernel
theorem dT_tryAnchor_92 : decode bT_tryAnchor 92 = .ok (.lload 4, 2) := by decide +kernel
theorem dT_tryAnchor_94 : decode bT_tryAnchor 94 = .ok (.aload_n 3, 1) := by decide +kernel
theorem dT_tryAnchor_95 : decode bT_tryAnchor 95 = .ok (.lload 4, 2) := by decide +kernel
theorem dT_tryAnchor_97 : decode bT_tryAnchor 97 = .ok (.aload_n 0, 1) := by decide +kernel
theorem dT_tryAnchor_98 : decode bT_tryAnchor 98 = .ok (.getfield 18, 3) := by decide +kernel
theorem dT_tryAnchor_101 : decode bT_tryAnchor 101 = .ok (.iload 7, 2) := by decide +kernel
theorem dT_tryAnchor_103 : decode bT_tryAnchor 103 = .ok (.invokevirtual 67, 3) := by decide +kernel
theorem dT_tryAnchor_106 : decode bT_tryAnchor 106 = .ok (.invokevirtual 71, 3) := by decide +kernel
theorem dT_tryAnchor_109 : decode bT_tryAnchor 109 = .ok (.ladd, 1) := by decide +kernel
theorem dT_tryAnchor_110 : decode bT_tryAnchor 110 = .ok (.lstore 4, 2) := by decide +kernel
theorem dT_tryAnchor_112 : decode bT_tryAnchor 112 = .ok (.lload 4, 2) := by decide +kernel
theorem dT_tryAnchor_114 : decode bT_tryAnchor 114 = .ok (.aload_n 0, 1) := by decide +kernel
theorem dT_tryAnchor_115 : decode bT_tryAnchor 115 = .ok (.getfield 22, 3) := by decide +kernel
theorem dT_tryAnchor_118 : decode bT_tryAnchor 118 = .ok (.iload 7, 2) := by decide +kernel
theorem dT_tryAnchor_120 : decode bT_tryAnchor 120 = .ok (.laload, 1) := by decide +kernel
theorem dT_tryAnchor_121 : decode bT_tryAnchor 121 = .ok (.lcmp, 1) := by decide +kernel
theorem dT_tryAnchor_122 : decode bT_tryAnchor 122 = .ok (.ifCond .lt 4, 3) := by decide +kernel
theorem dT_tryAnchor_125 : decode bT_tryAnchor 125 = .ok (.return_, 1) := by decide +kernel
theorem dT_tryAnchor_126 : decode bT_tryAnchor 126 = .ok (.aload_n 0, 1) := by decide +kernel
theorem dT_tryAnchor_127 : decode bT_tryAnchor 127 = .ok (.getfield 26, 3) := by decide +kernel
theorem dT_tryAnchor_130 : decode bT_tryAnchor 130 = .ok (.iload 7, 2) := by decide +kernel
theorem dT_tryAnchor_132 : decode bT_tryAnchor 132 = .ok (.lload 4, 2) := by decide +kernel
theorem dT_tryAnchor_134 : decode bT_tryAnchor 134 = .ok (.lastore, 1) := by decide +kernel
theorem dT_tryAnchor_135 : decode bT_tryAnchor 135 = .ok (.iinc 6 1, 3) := by decide +kernel
theorem dT_tryAnchor_138 : decode bT_tryAnchor 138 = .ok (.goto (-96), 3) := by decide +kernel
theorem dT_tryAnchor_141 : decode bT_tryAnchor 141 = .ok (.return_, 1) := by decide +kernel
theorem dT_shortening_0 : decode bT_shortening 0 = .ok (.lconst 0, 1) := by decide +kernel
theorem dT_shortening_1 : decode bT_shortening 1 = .ok (.lstore_n 1, 1) := by decide +kernel
theorem dT_shortening_2 : decode bT_shortening 2 = .ok (.iconst 0, 1) := by decide +kernel
theorem dT_shortening_3 : decode bT_shortening 3 = .ok (.istore_n 3, 1) := by decide +kernel
theorem dT_shortening_4 : decode bT_shortening 4 = .ok (.iload_n 3, 1) := by decide +kernel
theorem dT_shortening_5 : decode bT_shortening 5 = .ok (.aload_n 0, 1) := by decide +kernel
theorem dT_shortening_6 : decode bT_shortening 6 = .ok (.getfield 18, 3) := by decide +kernel
theorem dT_shortening_9 : decode bT_shortening 9 = .ok (.getfield 42, 3) := by decide +kernel
theorem dT_shortening_12 : decode bT_shortening 12 = .ok (.iconst 1, 1) := by decide +kernel
theorem dT_shortening_13 : decode bT_shortening 13 = .ok (.isub, 1) := by decide +kernel
theorem dT_shortening_14 : decode bT_shortening 14 = .ok (.if_icmp .ge 48, 3) := by decide +kernel
theorem dT_shortening_17 : decode bT_shortening 17 = .ok (.lload_n 1, 1) := by decide +kernel
theorem dT_shortening_18 : decode bT_shortening 18 = .ok (.aload_n 0, 1) := by decide +kernel
theorem dT_shortening_19 : decode bT_shortening 19 = .ok (.iload_n 3, 1) := by decide +kernel
theorem dT_shortening_20 : decode bT_shortening 20 = .ok (.aload_n 0, 1) := by decide +kernel
theorem dT_shortening_21 : decode bT_shortening 21 = .ok (.getfield 22, 3) := by decide +kernel
theorem dT_shortening_24 : decode bT_shortening 24 = .ok (.iload_n 3, 1) := by decide +kernel
theorem dT_shortening_25 : decode bT_shortening 25 = .ok (.laload, 1) := by decide +kernel
theorem dT_shortening_26 : decode bT_shortening 26 = .ok (.aload_n 0, 1) := by decide +kernel
theorem dT_shortening_27 : decode bT_shortening 27 = .ok (.getfield 26, 3) := by decide +kernel
theorem dT_shortening_30 : decode bT_shortening 30 = .ok (.iload_n 3, 1) := by decide +kernel
theorem dT_shortening_31 : decode bT_shortening 31 = .ok (.laload, 1) := by decide +kernel
theorem dT_shortening_32 : decode bT_shortening 32 = .ok (.lsub, 1) := by decide +kernel
theorem dT_shortening_33 : decode bT_shortening 33 = .ok (.aload_n 0, 1) := by decide +kernel
theorem dT_shortening_34 : decode bT_shortening 34 = .ok (.getfield 22, 3) := by decide +kernel
theorem dT_shortening_37 : decode bT_shortening 37 = .ok (.iload_n 3, 1) := by decide +kernel
theorem dT_shortening_38 : decode bT_shortening 38 = .ok (.iconst 1, 1) := by decide +kernel
theorem dT_shortening_39 : decode bT_shortening 39 = .ok (.iadd, 1) := by decide +kernel
theorem dT_shortening_40 : decode bT_shortening 40 = .ok (.laload, 1) := by decide +kernel
theorem dT_shortening_41 : decode bT_shortening 41 = .ok (.ladd, 1) := by decide +kernel
theorem dT_shortening_42 : decode bT_shortening 42 = .ok (.aload_n 0, 1) := by decide +kernel
theorem dT_shortening_43 : decode bT_shortening 43 = .ok (.getfield 26, 3) := by decide +kernel
theorem dT_shortening_46 : decode bT_shortening 46 = .ok (.iload_n 3, 1) := by decide +kernel
theorem dT_shortening_47 : decode bT_shortening 47 = .ok (.iconst 1, 1) := by decide +kernel
theorem dT_shortening_48 : decode bT_shortening 48 = .ok (.iadd, 1) := by decide +kernel
theorem dT_shortening_49 : decode bT_shortening 49 = .ok (.laload, 1) := by decide +kernel
theorem dT_shortening_50 : decode bT_shortening 50 = .ok (.lsub, 1) := by decide +kernel
theorem dT_shortening_51 : decode bT_shortening 51 = .ok (.invokevirtual 88, 3) := by decide +kernel
theorem dT_shortening_54 : decode bT_shortening 54 = .ok (.ladd, 1) := by decide +kernel
theorem dT_shortening_55 : decode bT_shortening 55 = .ok (.lstore_n 1, 1) := by decide +kernel
theorem dT_shortening_56 : decode bT_shortening 56 = .ok (.iinc 3 1, 3) := by decide +kernel
theorem dT_shortening_59 : decode bT_shortening 59 = .ok (.goto (-55), 3) := by decide +kernel
theorem dT_shortening_62 : decode bT_shortening 62 = .ok (.lload_n 1, 1) := by decide +kernel
theorem dT_shortening_63 : decode bT_shortening 63 = .ok (.lreturn, 1) := by decide +kernel
theorem dT_stretch_0 : decode bT_stretch 0 = .ok (.lconst 0, 1) := by decide +kernel
theorem dT_stretch_1 : decode bT_stretch 1 = .ok (.lstore_n 1, 1) := by decide +kernel
theorem dT_stretch_2 : decode bT_stretch 2 = .ok (.iconst 0, 1) := by decide +kernel
theorem dT_stretch_3 : decode bT_stretch 3 = .ok (.istore_n 3, 1) := by decide +kernel
theorem dT_stretch_4 : decode bT_stretch 4 = .ok (.iload_n 3, 1) := by decide +kernel
theorem dT_stretch_5 : decode bT_stretch 5 = .ok (.aload_n 0, 1) := by decide +kernel
theorem dT_stretch_6 : decode bT_stretch 6 = .ok (.getfield 18, 3) := by decide +kernel
theorem dT_stretch_9 : decode bT_stretch 9 = .ok (.getfield 42, 3) := by decide +kernel
theorem dT_stretch_12 : decode bT_stretch 12 = .ok (.iconst 1, 1) := by decide +kernel
theorem dT_stretch_13 : decode bT_stretch 13 = .ok (.isub, 1) := by decide +kernel
theorem dT_stretch_14 : decode bT_stretch 14 = .ok (.if_icmp .ge 32, 3) := by decide +kernel
theorem dT_stretch_17 : decode bT_stretch 17 = .ok (.lload_n 1, 1) := by decide +kernel
theorem dT_stretch_18 : decode bT_stretch 18 = .ok (.aload_n 0, 1) := by decide +kernel
theorem dT_stretch_19 : decode bT_stretch 19 = .ok (.iload_n 3, 1) := by decide +kernel
theorem dT_stretch_20 : decode bT_stretch 20 = .ok (.aload_n 0, 1) := by decide +kernel
theorem dT_stretch_21 : decode bT_stretch 21 = .ok (.getfield 22, 3) := by decide +kernel
theorem dT_stretch_24 : decode bT_stretch 24 = .ok (.iload_n 3, 1) := by decide +kernel
theorem dT_stretch_25 : decode bT_stretch 25 = .ok (.laload, 1) := by decide +kernel
theorem dT_stretch_26 : decode bT_stretch 26 = .ok (.aload_n 0, 1) := by decide +kernel
theorem dT_stretch_27 : decode bT_stretch 27 = .ok (.getfield 22, 3) := by decide +kernel
theorem dT_stretch_30 : decode bT_stretch 30 = .ok (.iload_n 3, 1) := by decide +kernel
theorem dT_stretch_31 : decode bT_stretch 31 = .ok (.iconst 1, 1) := by decide +kernel
theorem dT_stretch_32 : decode bT_stretch 32 = .ok (.iadd, 1) := by decide +kernel
theorem dT_stretch_33 : decode bT_stretch 33 = .ok (.laload, 1) := by decide +kernel
theorem dT_stretch_34 : decode bT_stretch 34 = .ok (.ladd, 1) := by decide +kernel
theorem dT_stretch_35 : decode bT_stretch 35 = .ok (.invokevirtual 88, 3) := by decide +kernel
theorem dT_stretch_38 : decode bT_stretch 38 = .ok (.ladd, 1) := by decide +kernel
theorem dT_stretch_39 : decode bT_stretch 39 = .ok (.lstore_n 1, 1) := by decide +kernel
theorem dT_stretch_40 : decode bT_stretch 40 = .ok (.iinc 3 1, 3) := by decide +kernel
theorem dT_stretch_43 : decode bT_stretch 43 = .ok (.goto (-39), 3) := by decide +kernel
theorem dT_stretch_46 : decode bT_stretch 46 = .ok (.lload_n 1, 1) := by decide +kernel
theorem dT_stretch_47 : decode bT_stretch 47 = .ok (.lreturn, 1) := by decide +kernel
theorem dT_stretchOf_0 : decode bT_stretchOf 0 = .ok (.lload_n 2, 1) := by decide +kernel
theorem dT_stretchOf_1 : decode bT_stretchOf 1 = .ok (.aload_n 0, 1) := by decide +kernel
theorem dT_stretchOf_2 : decode bT_stretchOf 2 = .ok (.getfield 18, 3) := by decide +kernel
theorem dT_stretchOf_5 : decode bT_stretchOf 5 = .ok (.getfield 92, 3) := by decide +kernel
theorem dT_stretchOf_8 : decode bT_stretchOf 8 = .ok (.iload_n 1, 1) := by decide +kernel
theorem dT_stretchOf_9 : decode bT_stretchOf 9 = .ok (.iaload, 1) := by decide +kernel
theorem dT_stretchOf_10 : decode bT_stretchOf 10 = .ok (.i2l, 1) := by decide +kernel
theorem dT_stretchOf_11 : decode bT_stretchOf 11 = .ok (.lmul, 1) := by decide +kernel
