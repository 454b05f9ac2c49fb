theorem dD_piecesComeNearer_124 : decode bD_piecesComeNearer 124 = .ok (.i2l, 1) := by decide +kernel
theorem dD_piecesComeNearer_125 : decode bD_piecesComeNearer 125 = .ok (.lmul, 1) := by decide +kernel
theorem dD_piecesComeNearer_126 : decode bD_piecesComeNearer 126 = .ok (.lstore 12, 2) := by decide +kernel
theorem dD_piecesComeNearer_128 : decode bD_piecesComeNearer 128 = .ok (.iload 11, 2) := by decide +kernel
theorem dD_piecesComeNearer_130 : decode bD_piecesComeNearer 130 = .ok (.ifCond .ne 25, 3) := by decide +kernel
theorem dD_piecesComeNearer_133 : decode bD_piecesComeNearer 133 = .ok (.lload 7, 2) := by decide +kernel
theorem dD_piecesComeNearer_135 : decode bD_piecesComeNearer 135 = .ok (.invokestatic 82, 3) := by decide +kernel
theorem dD_piecesComeNearer_138 : decode bD_piecesComeNearer 138 = .ok (.lload 12, 2) := by decide +kernel
theorem dD_piecesComeNearer_140 : decode bD_piecesComeNearer 140 = .ok (.lcmp, 1) := by decide +kernel
theorem dD_piecesComeNearer_141 : decode bD_piecesComeNearer 141 = .ok (.ifCond .lt 14, 3) := by decide +kernel
theorem dD_piecesComeNearer_144 : decode bD_piecesComeNearer 144 = .ok (.lload 9, 2) := by decide +kernel
theorem dD_piecesComeNearer_146 : decode bD_piecesComeNearer 146 = .ok (.invokestatic 82, 3) := by decide +kernel
theorem dD_piecesComeNearer_149 : decode bD_piecesComeNearer 149 = .ok (.lload 12, 2) := by decide +kernel
theorem dD_piecesComeNearer_151 : decode bD_piecesComeNearer 151 = .ok (.lcmp, 1) := by decide +kernel
theorem dD_piecesComeNearer_152 : decode bD_piecesComeNearer 152 = .ok (.ifCond .ge 7, 3) := by decide +kernel
theorem dD_piecesComeNearer_155 : decode bD_piecesComeNearer 155 = .ok (.iconst 1, 1) := by decide +kernel
theorem dD_piecesComeNearer_156 : decode bD_piecesComeNearer 156 = .ok (.goto 4, 3) := by decide +kernel
theorem dD_piecesComeNearer_159 : decode bD_piecesComeNearer 159 = .ok (.iconst 0, 1) := by decide +kernel
theorem dD_piecesComeNearer_160 : decode bD_piecesComeNearer 160 = .ok (.ireturn, 1) := by decide +kernel
theorem dD_scaledDistance_0 : decode bD_scaledDistance 0 = .ok (.aload_n 0, 1) := by decide +kernel
theorem dD_scaledDistance_1 : decode bD_scaledDistance 1 = .ok (.iload_n 1, 1) := by decide +kernel
theorem dD_scaledDistance_2 : decode bD_scaledDistance 2 = .ok (.iload 4, 2) := by decide +kernel
theorem dD_scaledDistance_4 : decode bD_scaledDistance 4 = .ok (.invokevirtual 85, 3) := by decide +kernel
theorem dD_scaledDistance_7 : decode bD_scaledDistance 7 = .ok (.aload_n 2, 1) := by decide +kernel
theorem dD_scaledDistance_8 : decode bD_scaledDistance 8 = .ok (.iload_n 3, 1) := by decide +kernel
theorem dD_scaledDistance_9 : decode bD_scaledDistance 9 = .ok (.invokevirtual 37, 3) := by decide +kernel
theorem dD_scaledDistance_12 : decode bD_scaledDistance 12 = .ok (.i2l, 1) := by decide +kernel
theorem dD_scaledDistance_13 : decode bD_scaledDistance 13 = .ok (.lmul, 1) := by decide +kernel
theorem dD_scaledDistance_14 : decode bD_scaledDistance 14 = .ok (.aload_n 2, 1) := by decide +kernel
theorem dD_scaledDistance_15 : decode bD_scaledDistance 15 = .ok (.iload_n 3, 1) := by decide +kernel
theorem dD_scaledDistance_16 : decode bD_scaledDistance 16 = .ok (.iload 4, 2) := by decide +kernel
theorem dD_scaledDistance_18 : decode bD_scaledDistance 18 = .ok (.invokevirtual 85, 3) := by decide +kernel
theorem dD_scaledDistance_21 : decode bD_scaledDistance 21 = .ok (.aload_n 0, 1) := by decide +kernel
theorem dD_scaledDistance_22 : decode bD_scaledDistance 22 = .ok (.iload_n 1, 1) := by decide +kernel
theorem dD_scaledDistance_23 : decode bD_scaledDistance 23 = .ok (.invokevirtual 37, 3) := by decide +kernel
theorem dD_scaledDistance_26 : decode bD_scaledDistance 26 = .ok (.i2l, 1) := by decide +kernel
theorem dD_scaledDistance_27 : decode bD_scaledDistance 27 = .ok (.lmul, 1) := by decide +kernel
theorem dD_scaledDistance_28 : decode bD_scaledDistance 28 = .ok (.lsub, 1) := by decide +kernel
theorem dD_scaledDistance_29 : decode bD_scaledDistance 29 = .ok (.lreturn, 1) := by decide +kernel
theorem dD_scaledHeight_0 : decode bD_scaledHeight 0 = .ok (.aload_n 0, 1) := by decide +kernel
theorem dD_scaledHeight_1 : decode bD_scaledHeight 1 = .ok (.getfield 15, 3) := by decide +kernel
theorem dD_scaledHeight_4 : decode bD_scaledHeight 4 = .ok (.iload_n 1, 1) := by decide +kernel
theorem dD_scaledHeight_5 : decode bD_scaledHeight 5 = .ok (.iconst 1, 1) := by decide +kernel
theorem dD_scaledHeight_6 : decode bD_scaledHeight 6 = .ok (.iadd, 1) := by decide +kernel
theorem dD_scaledHeight_7 : decode bD_scaledHeight 7 = .ok (.iaload, 1) := by decide +kernel
theorem dD_scaledHeight_8 : decode bD_scaledHeight 8 = .ok (.aload_n 0, 1) := by decide +kernel
theorem dD_scaledHeight_9 : decode bD_scaledHeight 9 = .ok (.getfield 15, 3) := by decide +kernel
theorem dD_scaledHeight_12 : decode bD_scaledHeight 12 = .ok (.iload_n 1, 1) := by decide +kernel
theorem dD_scaledHeight_13 : decode bD_scaledHeight 13 = .ok (.iaload, 1) := by decide +kernel
theorem dD_scaledHeight_14 : decode bD_scaledHeight 14 = .ok (.isub, 1) := by decide +kernel
theorem dD_scaledHeight_15 : decode bD_scaledHeight 15 = .ok (.i2l, 1) := by decide +kernel
theorem dD_scaledHeight_16 : decode bD_scaledHeight 16 = .ok (.lstore_n 3, 1) := by decide +kernel
theorem dD_scaledHeight_17 : decode bD_scaledHeight 17 = .ok (.aload_n 0, 1) := by decide +kernel
theorem dD_scaledHeight_18 : decode bD_scaledHeight 18 = .ok (.getfield 15, 3) := by decide +kernel
theorem dD_scaledHeight_21 : decode bD_scaledHeight 21 = .ok (.iload_n 1, 1) := by decide +kernel
theorem dD_scaledHeight_22 : decode bD_scaledHeight 22 = .ok (.iaload, 1) := by decide +kernel
theorem dD_scaledHeight_23 : decode bD_scaledHeight 23 = .ok (.i2l, 1) := by decide +kernel
theorem dD_scaledHeight_24 : decode bD_scaledHeight 24 = .ok (.aload_n 0, 1) := by decide +kernel
theorem dD_scaledHeight_25 : decode bD_scaledHeight 25 = .ok (.iload_n 1, 1) := by decide +kernel
theorem dD_scaledHeight_26 : decode bD_scaledHeight 26 = .ok (.invokevirtual 37, 3) := by decide +kernel
theorem dD_scaledHeight_29 : decode bD_scaledHeight 29 = .ok (.i2l, 1) := by decide +kernel
theorem dD_scaledHeight_30 : decode bD_scaledHeight 30 = .ok (.lmul, 1) := by decide +kernel
theorem dD_scaledHeight_31 : decode bD_scaledHeight 31 = .ok (.lload_n 3, 1) := by decide +kernel
theorem dD_scaledHeight_32 : decode bD_scaledHeight 32 = .ok (.iload_n 2, 1) := by decide +kernel
theorem dD_scaledHeight_33 : decode bD_scaledHeight 33 = .ok (.aload_n 0, 1) := by decide +kernel
theorem dD_scaledHeight_34 : decode bD_scaledHeight 34 = .ok (.getfield 9, 3) := by decide +kernel
theorem dD_scaledHeight_37 : decode bD_scaledHeight 37 = .ok (.iload_n 1, 1) := by decide +kernel
theorem dD_scaledHeight_38 : decode bD_scaledHeight 38 = .ok (.iaload, 1) := by decide +kernel
theorem dD_scaledHeight_39 : decode bD_scaledHeight 39 = .ok (.isub, 1) := by decide +kernel
theorem dD_scaledHeight_40 : decode bD_scaledHeight 40 = .ok (.i2l, 1) := by decide +kernel
theorem dD_scaledHeight_41 : decode bD_scaledHeight 41 = .ok (.lmul, 1) := by decide +kernel
theorem dD_scaledHeight_42 : decode bD_scaledHeight 42 = .ok (.ladd, 1) := by decide +kernel
theorem dD_scaledHeight_43 : decode bD_scaledHeight 43 = .ok (.lreturn, 1) := by decide +kernel
