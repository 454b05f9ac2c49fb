theorem dF_init_0 : decode bF_init 0 = .ok (.aload_n 0, 1) := by decide +kernel
theorem dF_init_1 : decode bF_init 1 = .ok (.invokespecial 3, 3) := by decide +kernel
theorem dF_init_4 : decode bF_init 4 = .ok (.aload_n 0, 1) := by decide +kernel
theorem dF_init_5 : decode bF_init 5 = .ok (.iconst 5, 1) := by decide +kernel
theorem dF_init_6 : decode bF_init 6 = .ok (.putfield 9, 3) := by decide +kernel
theorem dF_init_9 : decode bF_init 9 = .ok (.aload_n 0, 1) := by decide +kernel
theorem dF_init_10 : decode bF_init 10 = .ok (.sipush 200, 3) := by decide +kernel
theorem dF_init_13 : decode bF_init 13 = .ok (.putfield 15, 3) := by decide +kernel
theorem dF_init_16 : decode bF_init 16 = .ok (.return_, 1) := by decide +kernel
theorem dF_alongPiece_0 : decode bF_alongPiece 0 = .ok (.lload_n 1, 1) := by decide +kernel
theorem dF_alongPiece_1 : decode bF_alongPiece 1 = .ok (.aload_n 0, 1) := by decide +kernel
theorem dF_alongPiece_2 : decode bF_alongPiece 2 = .ok (.getfield 9, 3) := by decide +kernel
theorem dF_alongPiece_5 : decode bF_alongPiece 5 = .ok (.i2l, 1) := by decide +kernel
theorem dF_alongPiece_6 : decode bF_alongPiece 6 = .ok (.lmul, 1) := by decide +kernel
theorem dF_alongPiece_7 : decode bF_alongPiece 7 = .ok (.iload_n 3, 1) := by decide +kernel
theorem dF_alongPiece_8 : decode bF_alongPiece 8 = .ok (.i2l, 1) := by decide +kernel
theorem dF_alongPiece_9 : decode bF_alongPiece 9 = .ok (.lmul, 1) := by decide +kernel
theorem dF_alongPiece_10 : decode bF_alongPiece 10 = .ok (.ldc2_w 18, 3) := by decide +kernel
theorem dF_alongPiece_13 : decode bF_alongPiece 13 = .ok (.ldiv, 1) := by decide +kernel
theorem dF_alongPiece_14 : decode bF_alongPiece 14 = .ok (.lreturn, 1) := by decide +kernel
theorem dF_atTurn_0 : decode bF_atTurn 0 = .ok (.lload_n 1, 1) := by decide +kernel
theorem dF_atTurn_1 : decode bF_atTurn 1 = .ok (.aload_n 0, 1) := by decide +kernel
theorem dF_atTurn_2 : decode bF_atTurn 2 = .ok (.getfield 15, 3) := by decide +kernel
theorem dF_atTurn_5 : decode bF_atTurn 5 = .ok (.i2l, 1) := by decide +kernel
theorem dF_atTurn_6 : decode bF_atTurn 6 = .ok (.lmul, 1) := by decide +kernel
theorem dF_atTurn_7 : decode bF_atTurn 7 = .ok (.iload_n 3, 1) := by decide +kernel
theorem dF_atTurn_8 : decode bF_atTurn 8 = .ok (.i2l, 1) := by decide +kernel
theorem dF_atTurn_9 : decode bF_atTurn 9 = .ok (.lmul, 1) := by decide +kernel
theorem dF_atTurn_10 : decode bF_atTurn 10 = .ok (.ldc2_w 20, 3) := by decide +kernel
theorem dF_atTurn_13 : decode bF_atTurn 13 = .ok (.ldiv, 1) := by decide +kernel
theorem dF_atTurn_14 : decode bF_atTurn 14 = .ok (.lreturn, 1) := by decide +kernel
