theorem dT_stretchOf_12 : decode bT_stretchOf 12 = .ok (.ldc2_w 96, 3) := by decide +kernel
theorem dT_stretchOf_15 : decode bT_stretchOf 15 = .ok (.lmul, 1) := by decide +kernel
theorem dT_stretchOf_16 : decode bT_stretchOf 16 = .ok (.ldc2_w 98, 3) := by decide +kernel
theorem dT_stretchOf_19 : decode bT_stretchOf 19 = .ok (.aload_n 0, 1) := by decide +kernel
theorem dT_stretchOf_20 : decode bT_stretchOf 20 = .ok (.getfield 9, 3) := by decide +kernel
theorem dT_stretchOf_23 : decode bT_stretchOf 23 = .ok (.i2l, 1) := by decide +kernel
theorem dT_stretchOf_24 : decode bT_stretchOf 24 = .ok (.lmul, 1) := by decide +kernel
theorem dT_stretchOf_25 : decode bT_stretchOf 25 = .ok (.ldc2_w 100, 3) := by decide +kernel
theorem dT_stretchOf_28 : decode bT_stretchOf 28 = .ok (.lmul, 1) := by decide +kernel
theorem dT_stretchOf_29 : decode bT_stretchOf 29 = .ok (.invokestatic 102, 3) := by decide +kernel
theorem dT_stretchOf_32 : decode bT_stretchOf 32 = .ok (.lreturn, 1) := by decide +kernel
theorem dT_meanForce_0 : decode bT_meanForce 0 = .ok (.lconst 0, 1) := by decide +kernel
theorem dT_meanForce_1 : decode bT_meanForce 1 = .ok (.lstore_n 1, 1) := by decide +kernel
theorem dT_meanForce_2 : decode bT_meanForce 2 = .ok (.iconst 0, 1) := by decide +kernel
theorem dT_meanForce_3 : decode bT_meanForce 3 = .ok (.istore_n 3, 1) := by decide +kernel
theorem dT_meanForce_4 : decode bT_meanForce 4 = .ok (.iload_n 3, 1) := by decide +kernel
theorem dT_meanForce_5 : decode bT_meanForce 5 = .ok (.aload_n 0, 1) := by decide +kernel
theorem dT_meanForce_6 : decode bT_meanForce 6 = .ok (.getfield 18, 3) := by decide +kernel
theorem dT_meanForce_9 : decode bT_meanForce 9 = .ok (.getfield 42, 3) := by decide +kernel
theorem dT_meanForce_12 : decode bT_meanForce 12 = .ok (.if_icmp .ge 18, 3) := by decide +kernel
theorem dT_meanForce_15 : decode bT_meanForce 15 = .ok (.lload_n 1, 1) := by decide +kernel
theorem dT_meanForce_16 : decode bT_meanForce 16 = .ok (.aload_n 0, 1) := by decide +kernel
theorem dT_meanForce_17 : decode bT_meanForce 17 = .ok (.getfield 22, 3) := by decide +kernel
theorem dT_meanForce_20 : decode bT_meanForce 20 = .ok (.iload_n 3, 1) := by decide +kernel
theorem dT_meanForce_21 : decode bT_meanForce 21 = .ok (.laload, 1) := by decide +kernel
theorem dT_meanForce_22 : decode bT_meanForce 22 = .ok (.ladd, 1) := by decide +kernel
theorem dT_meanForce_23 : decode bT_meanForce 23 = .ok (.lstore_n 1, 1) := by decide +kernel
theorem dT_meanForce_24 : decode bT_meanForce 24 = .ok (.iinc 3 1, 3) := by decide +kernel
theorem dT_meanForce_27 : decode bT_meanForce 27 = .ok (.goto (-23), 3) := by decide +kernel
theorem dT_meanForce_30 : decode bT_meanForce 30 = .ok (.lload_n 1, 1) := by decide +kernel
theorem dT_meanForce_31 : decode bT_meanForce 31 = .ok (.aload_n 0, 1) := by decide +kernel
theorem dT_meanForce_32 : decode bT_meanForce 32 = .ok (.getfield 18, 3) := by decide +kernel
theorem dT_meanForce_35 : decode bT_meanForce 35 = .ok (.getfield 42, 3) := by decide +kernel
theorem dT_meanForce_38 : decode bT_meanForce 38 = .ok (.i2l, 1) := by decide +kernel
theorem dT_meanForce_39 : decode bT_meanForce 39 = .ok (.invokestatic 102, 3) := by decide +kernel
theorem dT_meanForce_42 : decode bT_meanForce 42 = .ok (.lreturn, 1) := by decide +kernel
theorem dT_loseEverywhere_0 : decode bT_loseEverywhere 0 = .ok (.iconst 0, 1) := by decide +kernel
theorem dT_loseEverywhere_1 : decode bT_loseEverywhere 1 = .ok (.istore_n 3, 1) := by decide +kernel
theorem dT_loseEverywhere_2 : decode bT_loseEverywhere 2 = .ok (.iload_n 3, 1) := by decide +kernel
theorem dT_loseEverywhere_3 : decode bT_loseEverywhere 3 = .ok (.aload_n 0, 1) := by decide +kernel
theorem dT_loseEverywhere_4 : decode bT_loseEverywhere 4 = .ok (.getfield 18, 3) := by decide +kernel
theorem dT_loseEverywhere_7 : decode bT_loseEverywhere 7 = .ok (.getfield 42, 3) := by decide +kernel
theorem dT_loseEverywhere_10 : decode bT_loseEverywhere 10 = .ok (.if_icmp .ge 27, 3) := by decide +kernel
theorem dT_loseEverywhere_13 : decode bT_loseEverywhere 13 = .ok (.aload_n 0, 1) := by decide +kernel
theorem dT_loseEverywhere_14 : decode bT_loseEverywhere 14 = .ok (.getfield 22, 3) := by decide +kernel
theorem dT_loseEverywhere_17 : decode bT_loseEverywhere 17 = .ok (.iload_n 3, 1) := by decide +kernel
theorem dT_loseEverywhere_18 : decode bT_loseEverywhere 18 = .ok (.lconst 0, 1) := by decide +kernel
theorem dT_loseEverywhere_19 : decode bT_loseEverywhere 19 = .ok (.aload_n 0, 1) := by decide +kernel
theorem dT_loseEverywhere_20 : decode bT_loseEverywhere 20 = .ok (.getfield 22, 3) := by decide +kernel
theorem dT_loseEverywhere_23 : decode bT_loseEverywhere 23 = .ok (.iload_n 3, 1) := by decide +kernel
theorem dT_loseEverywhere_24 : decode bT_loseEverywhere 24 = .ok (.laload, 1) := by decide +kernel
theorem dT_loseEverywhere_25 : decode bT_loseEverywhere 25 = .ok (.lload_n 1, 1) := by decide +kernel
theorem dT_loseEverywhere_26 : decode bT_loseEverywhere 26 = .ok (.lsub, 1) := by decide +kernel
theorem dT_loseEverywhere_27 : decode bT_loseEverywhere 27 = .ok (.invokestatic 74, 3) := by decide +kernel
theorem dT_loseEverywhere_30 : decode bT_loseEverywhere 30 = .ok (.lastore, 1) := by decide +kernel
theorem dT_loseEverywhere_31 : decode bT_loseEverywhere 31 = .ok (.iinc 3 1, 3) := by decide +kernel
theorem dT_loseEverywhere_34 : decode bT_loseEverywhere 34 = .ok (.goto (-32), 3) := by decide +kernel
theorem dT_loseEverywhere_37 : decode bT_loseEverywhere 37 = .ok (.return_, 1) := by decide +kernel
theorem dT_fadeAway_0 : decode bT_fadeAway 0 = .ok (.iconst 0, 1) := by decide +kernel
theorem dT_fadeAway_1 : decode bT_fadeAway 1 = .ok (.istore_n 3, 1) := by decide +kernel
theorem dT_fadeAway_2 : decode bT_fadeAway 2 = .ok (.iload_n 3, 1) := by decide +kernel
theorem dT_fadeAway_3 : decode bT_fadeAway 3 = .ok (.aload_n 0, 1) := by decide +kernel
theorem dT_fadeAway_4 : decode bT_fadeAway 4 = .ok (.getfield 18, 3) := by decide +kernel
theorem dT_fadeAway_7 : decode bT_fadeAway 7 = .ok (.getfield 42, 3) := by decide +kernel
theorem dT_fadeAway_10 : decode bT_fadeAway 10 = .ok (.if_icmp .ge 46, 3) := by decide +kernel
theorem dT_fadeAway_13 : decode bT_fadeAway 13 = .ok (.iconst 0, 1) := by decide +kernel
theorem dT_fadeAway_14 : decode bT_fadeAway 14 = .ok (.istore 4, 2) := by decide +kernel
theorem dT_fadeAway_16 : decode bT_fadeAway 16 = .ok (.iload 4, 2) := by decide +kernel
theorem dT_fadeAway_18 : decode bT_fadeAway 18 = .ok (.iload_n 1, 1) := by decide +kernel
theorem dT_fadeAway_19 : decode bT_fadeAway 19 = .ok (.if_icmp .ge 31, 3) := by decide +kernel
theorem dT_fadeAway_22 : decode bT_fadeAway 22 = .ok (.aload_n 0, 1) := by decide +kernel
theorem dT_fadeAway_23 : decode bT_fadeAway 23 = .ok (.getfield 22, 3) := by decide +kernel
theorem dT_fadeAway_26 : decode bT_fadeAway 26 = .ok (.iload_n 3, 1) := by decide +kernel
theorem dT_fadeAway_27 : decode bT_fadeAway 27 = .ok (.dup2, 1) := by decide +kernel
theorem dT_fadeAway_28 : decode bT_fadeAway 28 = .ok (.laload, 1) := by decide +kernel
theorem dT_fadeAway_29 : decode bT_fadeAway 29 = .ok (.aload_n 0, 1) := by decide +kernel
theorem dT_fadeAway_30 : decode bT_fadeAway 30 = .ok (.getfield 22, 3) := by decide +kernel
theorem dT_fadeAway_33 : decode bT_fadeAway 33 = .ok (.iload_n 3, 1) := by decide +kernel
theorem dT_fadeAway_34 : decode bT_fadeAway 34 = .ok (.laload, 1) := by decide +kernel
theorem dT_fadeAway_35 : decode bT_fadeAway 35 = .ok (.iload_n 2, 1) := by decide +kernel
theorem dT_fadeAway_36 : decode bT_fadeAway 36 = .ok (.i2l, 1) := by decide +kernel
theorem dT_fadeAway_37 : decode bT_fadeAway 37 = .ok (.lmul, 1) := by decide +kernel
theorem dT_fadeAway_38 : decode bT_fadeAway 38 = .ok (.ldc2_w 105, 3) := by decide +kernel
theorem dT_fadeAway_41 : decode bT_fadeAway 41 = .ok (.ldiv, 1) := by decide +kernel
theorem dT_fadeAway_42 : decode bT_fadeAway 42 = .ok (.lsub, 1) := by decide +kernel
theorem dT_fadeAway_43 : decode bT_fadeAway 43 = .ok (.lastore, 1) := by decide +kernel
theorem dT_fadeAway_44 : decode bT_fadeAway 44 = .ok (.iinc 4 1, 3) := by decide +kernel
theorem dT_fadeAway_47 : decode bT_fadeAway 47 = .ok (.goto (-31), 3) := by decide +kernel
theorem dT_fadeAway_50 : decode bT_fadeAway 50 = .ok (.iinc 3 1, 3) := by decide +kernel
theorem dT_fadeAway_53 : decode bT_fadeAway 53 = .ok (.goto (-51), 3) := by decide +kernel
theorem dT_fadeAway_56 : decode bT_fadeAway 56 = .ok (.return_, 1) := by decide +kernel
theorem dT_forceOn_0 : decode bT_forceOn 0 = .ok (.aload_n 0, 1) := by decide +kernel
theorem dT_forceOn_1 : decode bT_forceOn 1 = .ok (.getfield 22, 3) := by decide +kernel
theorem dT_forceOn_4 : decode bT_forceOn 4 = .ok (.iload_n 1, 1) := by decide +kernel
theorem dT_forceOn_5 : decode bT_forceOn 5 = .ok (.iconst 1, 1) := by decide +kernel
theorem dT_forceOn_6 : decode bT_forceOn 6 = .ok (.iadd, 1) := by decide +kernel
theorem dT_forceOn_7 : decode bT_forceOn 7 = .ok (.laload, 1) := by decide +kernel
theorem dT_forceOn_8 : decode bT_forceOn 8 = .ok (.aload_n 0, 1) := by decide +kernel
theorem dT_forceOn_9 : decode bT_forceOn 9 = .ok (.getfield 22, 3) := by decide +kernel
theorem dT_forceOn_12 : decode bT_forceOn 12 = .ok (.iload_n 1, 1) := by decide +kernel
theorem dT_forceOn_13 : decode bT_forceOn 13 = .ok (.laload, 1) := by decide +kernel
theorem dT_forceOn_14 : decode bT_forceOn 14 = .ok (.lsub, 1) := by decide +kernel
theorem dT_forceOn_15 : decode bT_forceOn 15 = .ok (.lstore_n 3, 1) := by decide +kernel
theorem dT_forceOn_16 : decode bT_forceOn 16 = .ok (.iload_n 2, 1) := by decide +kernel
theorem dT_forceOn_17 : decode bT_forceOn 17 = .ok (.aload_n 0, 1) := by decide +kernel
theorem dT_forceOn_18 : decode bT_forceOn 18 = .ok (.getfield 18, 3) := by decide +kernel
theorem dT_forceOn_21 : decode bT_forceOn 21 = .ok (.getfield 107, 3) := by decide +kernel
theorem dT_forceOn_24 : decode bT_forceOn 24 = .ok (.iload_n 1, 1) := by decide +kernel
theorem dT_forceOn_25 : decode bT_forceOn 25 = .ok (.iaload, 1) := by decide +kernel
theorem dT_forceOn_26 : decode bT_forceOn 26 = .ok (.isub, 1) := by decide +kernel
theorem dT_forceOn_27 : decode bT_forceOn 27 = .ok (.i2l, 1) := by decide +kernel
theorem dT_forceOn_28 : decode bT_forceOn 28 = .ok (.lstore 5, 2) := by decide +kernel
theorem dT_forceOn_30 : decode bT_forceOn 30 = .ok (.aload_n 0, 1) := by decide +kernel
theorem dT_forceOn_31 : decode bT_forceOn 31 = .ok (.getfield 22, 3) := by decide +kernel
theorem dT_forceOn_34 : decode bT_forceOn 34 = .ok (.iload_n 1, 1) := by decide +kernel
theorem dT_forceOn_35 : decode bT_forceOn 35 = .ok (.laload, 1) := by decide +kernel
theorem dT_forceOn_36 : decode bT_forceOn 36 = .ok (.lload_n 3, 1) := by decide +kernel
theorem dT_forceOn_37 : decode bT_forceOn 37 = .ok (.lload 5, 2) := by decide +kernel
theorem dT_forceOn_39 : decode bT_forceOn 39 = .ok (.lmul, 1) := by decide +kernel
theorem dT_forceOn_40 : decode bT_forceOn 40 = .ok (.aload_n 0, 1) := by decide +kernel
theorem dT_forceOn_41 : decode bT_forceOn 41 = .ok (.getfield 18, 3) := by decide +kernel
theorem dT_forceOn_44 : decode bT_forceOn 44 = .ok (.iload_n 1, 1) := by decide +kernel
theorem dT_forceOn_45 : decode bT_forceOn 45 = .ok (.invokevirtual 110, 3) := by decide +kernel
theorem dT_forceOn_48 : decode bT_forceOn 48 = .ok (.i2l, 1) := by decide +kernel
theorem dT_forceOn_49 : decode bT_forceOn 49 = .ok (.invokestatic 102, 3) := by decide +kernel
theorem dT_forceOn_52 : decode bT_forceOn 52 = .ok (.ladd, 1) := by decide +kernel
theorem dT_forceOn_53 : decode bT_forceOn 53 = .ok (.lreturn, 1) := by decide +kernel
