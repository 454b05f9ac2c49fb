theorem dL_presses_31 : decode bL_presses 31 = .ok (.getfield 59, 3) := by decide +kernel
theorem dL_presses_34 : decode bL_presses 34 = .ok (.iload_n 2, 1) := by decide +kernel
theorem dL_presses_35 : decode bL_presses 35 = .ok (.invokevirtual 149, 3) := by decide +kernel
theorem dL_presses_38 : decode bL_presses 38 = .ok (.i2l, 1) := by decide +kernel
theorem dL_presses_39 : decode bL_presses 39 = .ok (.lmul, 1) := by decide +kernel
theorem dL_presses_40 : decode bL_presses 40 = .ok (.ldc2_w 102, 3) := by decide +kernel
theorem dL_presses_43 : decode bL_presses 43 = .ok (.ldiv, 1) := by decide +kernel
theorem dL_presses_44 : decode bL_presses 44 = .ok (.l2i, 1) := by decide +kernel
theorem dL_presses_45 : decode bL_presses 45 = .ok (.ireturn, 1) := by decide +kernel
theorem dL_clash_0 : decode bL_clash 0 = .ok (.aload_n 0, 1) := by decide +kernel
theorem dL_clash_1 : decode bL_clash 1 = .ok (.iload_n 1, 1) := by decide +kernel
theorem dL_clash_2 : decode bL_clash 2 = .ok (.invokevirtual 52, 3) := by decide +kernel
theorem dL_clash_5 : decode bL_clash 5 = .ok (.astore 4, 2) := by decide +kernel
theorem dL_clash_7 : decode bL_clash 7 = .ok (.aload_n 0, 1) := by decide +kernel
theorem dL_clash_8 : decode bL_clash 8 = .ok (.iload_n 2, 1) := by decide +kernel
theorem dL_clash_9 : decode bL_clash 9 = .ok (.invokevirtual 52, 3) := by decide +kernel
theorem dL_clash_12 : decode bL_clash 12 = .ok (.astore 5, 2) := by decide +kernel
theorem dL_clash_14 : decode bL_clash 14 = .ok (.aload 4, 2) := by decide +kernel
theorem dL_clash_16 : decode bL_clash 16 = .ok (.ifnull 24, 3) := by decide +kernel
theorem dL_clash_19 : decode bL_clash 19 = .ok (.aload 5, 2) := by decide +kernel
theorem dL_clash_21 : decode bL_clash 21 = .ok (.ifnull 19, 3) := by decide +kernel
theorem dL_clash_24 : decode bL_clash 24 = .ok (.iload_n 1, 1) := by decide +kernel
theorem dL_clash_25 : decode bL_clash 25 = .ok (.iload_n 2, 1) := by decide +kernel
theorem dL_clash_26 : decode bL_clash 26 = .ok (.if_icmp .eq 14, 3) := by decide +kernel
theorem dL_clash_29 : decode bL_clash 29 = .ok (.iload_n 3, 1) := by decide +kernel
theorem dL_clash_30 : decode bL_clash 30 = .ok (.iconst 0, 1) := by decide +kernel
theorem dL_clash_31 : decode bL_clash 31 = .ok (.sipush 1000, 3) := by decide +kernel
theorem dL_clash_34 : decode bL_clash 34 = .ok (.invokestatic 45, 3) := by decide +kernel
theorem dL_clash_37 : decode bL_clash 37 = .ok (.ifCond .ne 5, 3) := by decide +kernel
theorem dL_clash_40 : decode bL_clash 40 = .ok (.iconst 0, 1) := by decide +kernel
theorem dL_clash_41 : decode bL_clash 41 = .ok (.ireturn, 1) := by decide +kernel
theorem dL_clash_42 : decode bL_clash 42 = .ok (.aload 4, 2) := by decide +kernel
theorem dL_clash_44 : decode bL_clash 44 = .ok (.getfield 59, 3) := by decide +kernel
theorem dL_clash_47 : decode bL_clash 47 = .ok (.aload 5, 2) := by decide +kernel
theorem dL_clash_49 : decode bL_clash 49 = .ok (.getfield 59, 3) := by decide +kernel
theorem dL_clash_52 : decode bL_clash 52 = .ok (.iload_n 3, 1) := by decide +kernel
theorem dL_clash_53 : decode bL_clash 53 = .ok (.invokestatic 152, 3) := by decide +kernel
theorem dL_clash_56 : decode bL_clash 56 = .ok (.ireturn, 1) := by decide +kernel
theorem dL_locked_0 : decode bL_locked 0 = .ok (.iload_n 1, 1) := by decide +kernel
theorem dL_locked_1 : decode bL_locked 1 = .ok (.iconst 0, 1) := by decide +kernel
theorem dL_locked_2 : decode bL_locked 2 = .ok (.aload_n 0, 1) := by decide +kernel
theorem dL_locked_3 : decode bL_locked 3 = .ok (.getfield 30, 3) := by decide +kernel
theorem dL_locked_6 : decode bL_locked 6 = .ok (.iconst 1, 1) := by decide +kernel
theorem dL_locked_7 : decode bL_locked 7 = .ok (.isub, 1) := by decide +kernel
theorem dL_locked_8 : decode bL_locked 8 = .ok (.invokestatic 45, 3) := by decide +kernel
theorem dL_locked_11 : decode bL_locked 11 = .ok (.ifCond .eq 12, 3) := by decide +kernel
theorem dL_locked_14 : decode bL_locked 14 = .ok (.aload_n 0, 1) := by decide +kernel
theorem dL_locked_15 : decode bL_locked 15 = .ok (.getfield 15, 3) := by decide +kernel
theorem dL_locked_18 : decode bL_locked 18 = .ok (.iload_n 1, 1) := by decide +kernel
theorem dL_locked_19 : decode bL_locked 19 = .ok (.iaload, 1) := by decide +kernel
theorem dL_locked_20 : decode bL_locked 20 = .ok (.goto 4, 3) := by decide +kernel
theorem dL_locked_23 : decode bL_locked 23 = .ok (.iconst (-1), 1) := by decide +kernel
theorem dL_locked_24 : decode bL_locked 24 = .ok (.ireturn, 1) := by decide +kernel
theorem dL_wanted_0 : decode bL_wanted 0 = .ok (.aload_n 0, 1) := by decide +kernel
theorem dL_wanted_1 : decode bL_wanted 1 = .ok (.iload_n 1, 1) := by decide +kernel
theorem dL_wanted_2 : decode bL_wanted 2 = .ok (.invokevirtual 52, 3) := by decide +kernel
theorem dL_wanted_5 : decode bL_wanted 5 = .ok (.astore 5, 2) := by decide +kernel
theorem dL_wanted_7 : decode bL_wanted 7 = .ok (.aload 5, 2) := by decide +kernel
theorem dL_wanted_9 : decode bL_wanted 9 = .ok (.ifnull 33, 3) := by decide +kernel
theorem dL_wanted_12 : decode bL_wanted 12 = .ok (.aload 5, 2) := by decide +kernel
theorem dL_wanted_14 : decode bL_wanted 14 = .ok (.getfield 59, 3) := by decide +kernel
theorem dL_wanted_17 : decode bL_wanted 17 = .ok (.invokevirtual 82, 3) := by decide +kernel
theorem dL_wanted_20 : decode bL_wanted 20 = .ok (.ifCond .eq 22, 3) := by decide +kernel
theorem dL_wanted_23 : decode bL_wanted 23 = .ok (.iload_n 2, 1) := by decide +kernel
theorem dL_wanted_24 : decode bL_wanted 24 = .ok (.iconst 1, 1) := by decide +kernel
theorem dL_wanted_25 : decode bL_wanted 25 = .ok (.iconst 3, 1) := by decide +kernel
theorem dL_wanted_26 : decode bL_wanted 26 = .ok (.invokestatic 45, 3) := by decide +kernel
theorem dL_wanted_29 : decode bL_wanted 29 = .ok (.ifCond .eq 13, 3) := by decide +kernel
theorem dL_wanted_32 : decode bL_wanted 32 = .ok (.iload_n 3, 1) := by decide +kernel
theorem dL_wanted_33 : decode bL_wanted 33 = .ok (.iconst 1, 1) := by decide +kernel
theorem dL_wanted_34 : decode bL_wanted 34 = .ok (.ldc 156, 2) := by decide +kernel
theorem dL_wanted_36 : decode bL_wanted 36 = .ok (.invokestatic 45, 3) := by decide +kernel
theorem dL_wanted_39 : decode bL_wanted 39 = .ok (.ifCond .ne 5, 3) := by decide +kernel
theorem dL_wanted_42 : decode bL_wanted 42 = .ok (.iconst (-1), 1) := by decide +kernel
theorem dL_wanted_43 : decode bL_wanted 43 = .ok (.ireturn, 1) := by decide +kernel
theorem dL_wanted_44 : decode bL_wanted 44 = .ok (.iconst 0, 1) := by decide +kernel
theorem dL_wanted_45 : decode bL_wanted 45 = .ok (.istore 6, 2) := by decide +kernel
theorem dL_wanted_47 : decode bL_wanted 47 = .ok (.iload 6, 2) := by decide +kernel
theorem dL_wanted_49 : decode bL_wanted 49 = .ok (.bipush 50, 2) := by decide +kernel
theorem dL_wanted_51 : decode bL_wanted 51 = .ok (.if_icmp .gt 37, 3) := by decide +kernel
theorem dL_wanted_54 : decode bL_wanted 54 = .ok (.iload 6, 2) := by decide +kernel
theorem dL_wanted_56 : decode bL_wanted 56 = .ok (.iload_n 3, 1) := by decide +kernel
theorem dL_wanted_57 : decode bL_wanted 57 = .ok (.imul, 1) := by decide +kernel
theorem dL_wanted_58 : decode bL_wanted 58 = .ok (.istore 7, 2) := by decide +kernel
theorem dL_wanted_60 : decode bL_wanted 60 = .ok (.aload 5, 2) := by decide +kernel
theorem dL_wanted_62 : decode bL_wanted 62 = .ok (.iload_n 2, 1) := by decide +kernel
theorem dL_wanted_63 : decode bL_wanted 63 = .ok (.iload 7, 2) := by decide +kernel
theorem dL_wanted_65 : decode bL_wanted 65 = .ok (.aload_n 0, 1) := by decide +kernel
theorem dL_wanted_66 : decode bL_wanted 66 = .ok (.getfield 22, 3) := by decide +kernel
theorem dL_wanted_69 : decode bL_wanted 69 = .ok (.invokevirtual 157, 3) := by decide +kernel
theorem dL_wanted_72 : decode bL_wanted 72 = .ok (.iload 4, 2) := by decide +kernel
theorem dL_wanted_74 : decode bL_wanted 74 = .ok (.i2l, 1) := by decide +kernel
theorem dL_wanted_75 : decode bL_wanted 75 = .ok (.lcmp, 1) := by decide +kernel
theorem dL_wanted_76 : decode bL_wanted 76 = .ok (.ifCond .lt 6, 3) := by decide +kernel
theorem dL_wanted_79 : decode bL_wanted 79 = .ok (.iload 7, 2) := by decide +kernel
theorem dL_wanted_81 : decode bL_wanted 81 = .ok (.ireturn, 1) := by decide +kernel
theorem dL_wanted_82 : decode bL_wanted 82 = .ok (.iinc 6 1, 3) := by decide +kernel
theorem dL_wanted_85 : decode bL_wanted 85 = .ok (.goto (-38), 3) := by decide +kernel
theorem dL_wanted_88 : decode bL_wanted 88 = .ok (.iconst (-1), 1) := by decide +kernel
theorem dL_wanted_89 : decode bL_wanted 89 = .ok (.ireturn, 1) := by decide +kernel
theorem dL_count_0 : decode bL_count 0 = .ok (.iload_n 1, 1) := by decide +kernel
theorem dL_count_1 : decode bL_count 1 = .ok (.tableswitch 60 0 4 #[35, 40, 45, 50, 55], 35) := by decide +kernel
theorem dL_count_36 : decode bL_count 36 = .ok (.aload_n 0, 1) := by decide +kernel
theorem dL_count_37 : decode bL_count 37 = .ok (.getfield 26, 3) := by decide +kernel
theorem dL_count_40 : decode bL_count 40 = .ok (.ireturn, 1) := by decide +kernel
theorem dL_count_41 : decode bL_count 41 = .ok (.aload_n 0, 1) := by decide +kernel
theorem dL_count_42 : decode bL_count 42 = .ok (.getfield 30, 3) := by decide +kernel
theorem dL_count_45 : decode bL_count 45 = .ok (.ireturn, 1) := by decide +kernel
theorem dL_count_46 : decode bL_count 46 = .ok (.aload_n 0, 1) := by decide +kernel
theorem dL_count_47 : decode bL_count 47 = .ok (.invokevirtual 161, 3) := by decide +kernel
theorem dL_count_50 : decode bL_count 50 = .ok (.ireturn, 1) := by decide +kernel
theorem dL_count_51 : decode bL_count 51 = .ok (.aload_n 0, 1) := by decide +kernel
theorem dL_count_52 : decode bL_count 52 = .ok (.getfield 33, 3) := by decide +kernel
theorem dL_count_55 : decode bL_count 55 = .ok (.ireturn, 1) := by decide +kernel
theorem dL_count_56 : decode bL_count 56 = .ok (.aload_n 0, 1) := by decide +kernel
theorem dL_count_57 : decode bL_count 57 = .ok (.invokevirtual 165, 3) := by decide +kernel
theorem dL_count_60 : decode bL_count 60 = .ok (.ireturn, 1) := by decide +kernel
theorem dL_count_61 : decode bL_count 61 = .ok (.iconst (-1), 1) := by decide +kernel
theorem dL_count_62 : decode bL_count 62 = .ok (.ireturn, 1) := by decide +kernel
theorem dL_isWithin_0 : decode bL_isWithin 0 = .ok (.iload_n 0, 1) := by decide +kernel
theorem dL_isWithin_1 : decode bL_isWithin 1 = .ok (.iload_n 1, 1) := by decide +kernel
theorem dL_isWithin_2 : decode bL_isWithin 2 = .ok (.if_icmp .lt 12, 3) := by decide +kernel
theorem dL_isWithin_5 : decode bL_isWithin 5 = .ok (.iload_n 0, 1) := by decide +kernel
theorem dL_isWithin_6 : decode bL_isWithin 6 = .ok (.iload_n 2, 1) := by decide +kernel
theorem dL_isWithin_7 : decode bL_isWithin 7 = .ok (.if_icmp .gt 7, 3) := by decide +kernel
theorem dL_isWithin_10 : decode bL_isWithin 10 = .ok (.iconst 1, 1) := by decide +kernel
theorem dL_isWithin_11 : decode bL_isWithin 11 = .ok (.goto 4, 3) := by decide +kernel
theorem dL_isWithin_14 : decode bL_isWithin 14 = .ok (.iconst 0, 1) := by decide +kernel
theorem dL_isWithin_15 : decode bL_isWithin 15 = .ok (.ireturn, 1) := by decide +kernel
theorem dL_find_0 : decode bL_find 0 = .ok (.iload_n 1, 1) := by decide +kernel
theorem dL_find_1 : decode bL_find 1 = .ok (.iconst 0, 1) := by decide +kernel
theorem dL_find_2 : decode bL_find 2 = .ok (.aload_n 0, 1) := by decide +kernel
theorem dL_find_3 : decode bL_find 3 = .ok (.getfield 26, 3) := by decide +kernel
theorem dL_find_6 : decode bL_find 6 = .ok (.iconst 1, 1) := by decide +kernel
theorem dL_find_7 : decode bL_find 7 = .ok (.isub, 1) := by decide +kernel
theorem dL_find_8 : decode bL_find 8 = .ok (.invokestatic 45, 3) := by decide +kernel
theorem dL_find_11 : decode bL_find 11 = .ok (.ifCond .eq 12, 3) := by decide +kernel
theorem dL_find_14 : decode bL_find 14 = .ok (.aload_n 0, 1) := by decide +kernel
theorem dL_find_15 : decode bL_find 15 = .ok (.getfield 11, 3) := by decide +kernel
theorem dL_find_18 : decode bL_find 18 = .ok (.iload_n 1, 1) := by decide +kernel
theorem dL_find_19 : decode bL_find 19 = .ok (.aaload, 1) := by decide +kernel
theorem dL_find_20 : decode bL_find 20 = .ok (.goto 4, 3) := by decide +kernel
theorem dL_find_23 : decode bL_find 23 = .ok (.aconst_null, 1) := by decide +kernel
theorem dL_find_24 : decode bL_find 24 = .ok (.areturn, 1) := by decide +kernel
theorem dL_findStrained_0 : decode bL_findStrained 0 = .ok (.aload_n 0, 1) := by decide +kernel
theorem dL_findStrained_1 : decode bL_findStrained 1 = .ok (.iload_n 1, 1) := by decide +kernel
theorem dL_findStrained_2 : decode bL_findStrained 2 = .ok (.invokevirtual 52, 3) := by decide +kernel
theorem dL_findStrained_5 : decode bL_findStrained 5 = .ok (.astore_n 2, 1) := by decide +kernel
theorem dL_findStrained_6 : decode bL_findStrained 6 = .ok (.aload_n 2, 1) := by decide +kernel
theorem dL_findStrained_7 : decode bL_findStrained 7 = .ok (.ifnull 10, 3) := by decide +kernel
theorem dL_findStrained_10 : decode bL_findStrained 10 = .ok (.aload_n 2, 1) := by decide +kernel
theorem dL_findStrained_11 : decode bL_findStrained 11 = .ok (.getfield 56, 3) := by decide +kernel
theorem dL_findStrained_14 : decode bL_findStrained 14 = .ok (.ifCond .ne 7, 3) := by decide +kernel
theorem dL_findStrained_17 : decode bL_findStrained 17 = .ok (.aconst_null, 1) := by decide +kernel
theorem dL_findStrained_18 : decode bL_findStrained 18 = .ok (.goto 4, 3) := by decide +kernel
theorem dL_findStrained_21 : decode bL_findStrained 21 = .ok (.aload_n 2, 1) := by decide +kernel
theorem dL_findStrained_22 : decode bL_findStrained 22 = .ok (.areturn, 1) := by decide +kernel
theorem dL_weakenLockedOnes_0 : decode bL_weakenLockedOnes 0 = .ok (.iconst 0, 1) := by decide +kernel
theorem dL_weakenLockedOnes_1 : decode bL_weakenLockedOnes 1 = .ok (.istore_n 3, 1) := by decide +kernel
theorem dL_weakenLockedOnes_2 : decode bL_weakenLockedOnes 2 = .ok (.iload_n 3, 1) := by decide +kernel
theorem dL_weakenLockedOnes_3 : decode bL_weakenLockedOnes 3 = .ok (.aload_n 0, 1) := by decide +kernel
theorem dL_weakenLockedOnes_4 : decode bL_weakenLockedOnes 4 = .ok (.getfield 30, 3) := by decide +kernel
theorem dL_weakenLockedOnes_7 : decode bL_weakenLockedOnes 7 = .ok (.if_icmp .ge 32, 3) := by decide +kernel
theorem dL_weakenLockedOnes_10 : decode bL_weakenLockedOnes 10 = .ok (.aload_n 0, 1) := by decide +kernel
theorem dL_weakenLockedOnes_11 : decode bL_weakenLockedOnes 11 = .ok (.aload_n 0, 1) := by decide +kernel
theorem dL_weakenLockedOnes_12 : decode bL_weakenLockedOnes 12 = .ok (.getfield 15, 3) := by decide +kernel
theorem dL_weakenLockedOnes_15 : decode bL_weakenLockedOnes 15 = .ok (.iload_n 3, 1) := by decide +kernel
theorem dL_weakenLockedOnes_16 : decode bL_weakenLockedOnes 16 = .ok (.iaload, 1) := by decide +kernel
theorem dL_weakenLockedOnes_17 : decode bL_weakenLockedOnes 17 = .ok (.invokevirtual 52, 3) := by decide +kernel
theorem dL_weakenLockedOnes_20 : decode bL_weakenLockedOnes 20 = .ok (.astore 4, 2) := by decide +kernel
theorem dL_weakenLockedOnes_22 : decode bL_weakenLockedOnes 22 = .ok (.aload 4, 2) := by decide +kernel
theorem dL_weakenLockedOnes_24 : decode bL_weakenLockedOnes 24 = .ok (.ifnull 9, 3) := by decide +kernel
theorem dL_weakenLockedOnes_27 : decode bL_weakenLockedOnes 27 = .ok (.aload 4, 2) := by decide +kernel
theorem dL_weakenLockedOnes_29 : decode bL_weakenLockedOnes 29 = .ok (.lload_n 1, 1) := by decide +kernel
theorem dL_weakenLockedOnes_30 : decode bL_weakenLockedOnes 30 = .ok (.invokevirtual 168, 3) := by decide +kernel
theorem dL_weakenLockedOnes_33 : decode bL_weakenLockedOnes 33 = .ok (.iinc 3 1, 3) := by decide +kernel
theorem dL_weakenLockedOnes_36 : decode bL_weakenLockedOnes 36 = .ok (.goto (-34), 3) := by decide +kernel
theorem dL_weakenLockedOnes_39 : decode bL_weakenLockedOnes 39 = .ok (.return_, 1) := by decide +kernel
theorem dL_forgetLocked_0 : decode bL_forgetLocked 0 = .ok (.iconst 0, 1) := by decide +kernel
theorem dL_forgetLocked_1 : decode bL_forgetLocked 1 = .ok (.istore_n 2, 1) := by decide +kernel
theorem dL_forgetLocked_2 : decode bL_forgetLocked 2 = .ok (.iconst 0, 1) := by decide +kernel
theorem dL_forgetLocked_3 : decode bL_forgetLocked 3 = .ok (.istore_n 3, 1) := by decide +kernel
theorem dL_forgetLocked_4 : decode bL_forgetLocked 4 = .ok (.iload_n 3, 1) := by decide +kernel
theorem dL_forgetLocked_5 : decode bL_forgetLocked 5 = .ok (.aload_n 0, 1) := by decide +kernel
theorem dL_forgetLocked_6 : decode bL_forgetLocked 6 = .ok (.getfield 30, 3) := by decide +kernel
theorem dL_forgetLocked_9 : decode bL_forgetLocked 9 = .ok (.if_icmp .ge 34, 3) := by decide +kernel
theorem dL_forgetLocked_12 : decode bL_forgetLocked 12 = .ok (.aload_n 0, 1) := by decide +kernel
theorem dL_forgetLocked_13 : decode bL_forgetLocked 13 = .ok (.getfield 15, 3) := by decide +kernel
theorem dL_forgetLocked_16 : decode bL_forgetLocked 16 = .ok (.iload_n 3, 1) := by decide +kernel
theorem dL_forgetLocked_17 : decode bL_forgetLocked 17 = .ok (.iaload, 1) := by decide +kernel
theorem dL_forgetLocked_18 : decode bL_forgetLocked 18 = .ok (.iload_n 1, 1) := by decide +kernel
theorem dL_forgetLocked_19 : decode bL_forgetLocked 19 = .ok (.if_icmp .eq 18, 3) := by decide +kernel
theorem dL_forgetLocked_22 : decode bL_forgetLocked 22 = .ok (.aload_n 0, 1) := by decide +kernel
theorem dL_forgetLocked_23 : decode bL_forgetLocked 23 = .ok (.getfield 15, 3) := by decide +kernel
theorem dL_forgetLocked_26 : decode bL_forgetLocked 26 = .ok (.iload_n 2, 1) := by decide +kernel
theorem dL_forgetLocked_27 : decode bL_forgetLocked 27 = .ok (.aload_n 0, 1) := by decide +kernel
theorem dL_forgetLocked_28 : decode bL_forgetLocked 28 = .ok (.getfield 15, 3) := by decide +kernel
theorem dL_forgetLocked_31 : decode bL_forgetLocked 31 = .ok (.iload_n 3, 1) := by decide +kernel
theorem dL_forgetLocked_32 : decode bL_forgetLocked 32 = .ok (.iaload, 1) := by decide +kernel
theorem dL_forgetLocked_33 : decode bL_forgetLocked 33 = .ok (.iastore, 1) := by decide +kernel
theorem dL_forgetLocked_34 : decode bL_forgetLocked 34 = .ok (.iinc 2 1, 3) := by decide +kernel
theorem dL_forgetLocked_37 : decode bL_forgetLocked 37 = .ok (.iinc 3 1, 3) := by decide +kernel
theorem dL_forgetLocked_40 : decode bL_forgetLocked 40 = .ok (.goto (-36), 3) := by decide +kernel
theorem dL_forgetLocked_43 : decode bL_forgetLocked 43 = .ok (.aload_n 0, 1) := by decide +kernel
theorem dL_forgetLocked_44 : decode bL_forgetLocked 44 = .ok (.iload_n 2, 1) := by decide +kernel
theorem dL_forgetLocked_45 : decode bL_forgetLocked 45 = .ok (.putfield 30, 3) := by decide +kernel
theorem dL_forgetLocked_48 : decode bL_forgetLocked 48 = .ok (.return_, 1) := by decide +kernel
theorem dL_countPulled_0 : decode bL_countPulled 0 = .ok (.iconst 0, 1) := by decide +kernel
theorem dL_countPulled_1 : decode bL_countPulled 1 = .ok (.istore_n 1, 1) := by decide +kernel
theorem dL_countPulled_2 : decode bL_countPulled 2 = .ok (.iconst 0, 1) := by decide +kernel
theorem dL_countPulled_3 : decode bL_countPulled 3 = .ok (.istore_n 2, 1) := by decide +kernel
theorem dL_countPulled_4 : decode bL_countPulled 4 = .ok (.iload_n 2, 1) := by decide +kernel
theorem dL_countPulled_5 : decode bL_countPulled 5 = .ok (.aload_n 0, 1) := by decide +kernel
theorem dL_countPulled_6 : decode bL_countPulled 6 = .ok (.getfield 26, 3) := by decide +kernel
theorem dL_countPulled_9 : decode bL_countPulled 9 = .ok (.if_icmp .ge 30, 3) := by decide +kernel
theorem dL_countPulled_12 : decode bL_countPulled 12 = .ok (.aload_n 0, 1) := by decide +kernel
theorem dL_countPulled_13 : decode bL_countPulled 13 = .ok (.iload_n 2, 1) := by decide +kernel
theorem dL_countPulled_14 : decode bL_countPulled 14 = .ok (.invokevirtual 52, 3) := by decide +kernel
theorem dL_countPulled_17 : decode bL_countPulled 17 = .ok (.astore_n 3, 1) := by decide +kernel
theorem dL_countPulled_18 : decode bL_countPulled 18 = .ok (.aload_n 3, 1) := by decide +kernel
theorem dL_countPulled_19 : decode bL_countPulled 19 = .ok (.ifnull 14, 3) := by decide +kernel
theorem dL_countPulled_22 : decode bL_countPulled 22 = .ok (.aload_n 3, 1) := by decide +kernel
theorem dL_countPulled_23 : decode bL_countPulled 23 = .ok (.getfield 56, 3) := by decide +kernel
theorem dL_countPulled_26 : decode bL_countPulled 26 = .ok (.iconst 1, 1) := by decide +kernel
theorem dL_countPulled_27 : decode bL_countPulled 27 = .ok (.if_icmp .ne 6, 3) := by decide +kernel
theorem dL_countPulled_30 : decode bL_countPulled 30 = .ok (.iinc 1 1, 3) := by decide +kernel
theorem dL_countPulled_33 : decode bL_countPulled 33 = .ok (.iinc 2 1, 3) := by decide +kernel
theorem dL_countPulled_36 : decode bL_countPulled 36 = .ok (.goto (-32), 3) := by decide +kernel
theorem dL_countPulled_39 : decode bL_countPulled 39 = .ok (.iload_n 1, 1) := by decide +kernel
theorem dL_countPulled_40 : decode bL_countPulled 40 = .ok (.ireturn, 1) := by decide +kernel
theorem dL_countPoints_0 : decode bL_countPoints 0 = .ok (.iconst 0, 1) := by decide +kernel
theorem dL_countPoints_1 : decode bL_countPoints 1 = .ok (.istore_n 1, 1) := by decide +kernel
theorem dL_countPoints_2 : decode bL_countPoints 2 = .ok (.iconst 0, 1) := by decide +kernel
theorem dL_countPoints_3 : decode bL_countPoints 3 = .ok (.istore_n 2, 1) := by decide +kernel
theorem dL_countPoints_4 : decode bL_countPoints 4 = .ok (.iload_n 2, 1) := by decide +kernel
theorem dL_countPoints_5 : decode bL_countPoints 5 = .ok (.aload_n 0, 1) := by decide +kernel
theorem dL_countPoints_6 : decode bL_countPoints 6 = .ok (.getfield 26, 3) := by decide +kernel
theorem dL_countPoints_9 : decode bL_countPoints 9 = .ok (.if_icmp .ge 29, 3) := by decide +kernel
theorem dL_countPoints_12 : decode bL_countPoints 12 = .ok (.aload_n 0, 1) := by decide +kernel
theorem dL_countPoints_13 : decode bL_countPoints 13 = .ok (.iload_n 2, 1) := by decide +kernel
theorem dL_countPoints_14 : decode bL_countPoints 14 = .ok (.invokevirtual 52, 3) := by decide +kernel
theorem dL_countPoints_17 : decode bL_countPoints 17 = .ok (.astore_n 3, 1) := by decide +kernel
theorem dL_countPoints_18 : decode bL_countPoints 18 = .ok (.aload_n 3, 1) := by decide +kernel
theorem dL_countPoints_19 : decode bL_countPoints 19 = .ok (.ifnull 13, 3) := by decide +kernel
theorem dL_countPoints_22 : decode bL_countPoints 22 = .ok (.iload_n 1, 1) := by decide +kernel
theorem dL_countPoints_23 : decode bL_countPoints 23 = .ok (.aload_n 3, 1) := by decide +kernel
theorem dL_countPoints_24 : decode bL_countPoints 24 = .ok (.getfield 59, 3) := by decide +kernel
theorem dL_countPoints_27 : decode bL_countPoints 27 = .ok (.getfield 73, 3) := by decide +kernel
theorem dL_countPoints_30 : decode bL_countPoints 30 = .ok (.iadd, 1) := by decide +kernel
theorem dL_countPoints_31 : decode bL_countPoints 31 = .ok (.istore_n 1, 1) := by decide +kernel
theorem dL_countPoints_32 : decode bL_countPoints 32 = .ok (.iinc 2 1, 3) := by decide +kernel
theorem dL_countPoints_35 : decode bL_countPoints 35 = .ok (.goto (-31), 3) := by decide +kernel
theorem dL_countPoints_38 : decode bL_countPoints 38 = .ok (.iload_n 1, 1) := by decide +kernel
theorem dL_countPoints_39 : decode bL_countPoints 39 = .ok (.ireturn, 1) := by decide +kernel
theorem dL_quotient_0 : decode bL_quotient 0 = .ok (.lload_n 2, 1) := by decide +kernel
theorem dL_quotient_1 : decode bL_quotient 1 = .ok (.lconst 0, 1) := by decide +kernel
theorem dL_quotient_2 : decode bL_quotient 2 = .ok (.lcmp, 1) := by decide +kernel
theorem dL_quotient_3 : decode bL_quotient 3 = .ok (.ifCond .ne 7, 3) := by decide +kernel
theorem dL_quotient_6 : decode bL_quotient 6 = .ok (.lconst 0, 1) := by decide +kernel
theorem dL_quotient_7 : decode bL_quotient 7 = .ok (.goto 6, 3) := by decide +kernel
theorem dL_quotient_10 : decode bL_quotient 10 = .ok (.lload_n 0, 1) := by decide +kernel
theorem dL_quotient_11 : decode bL_quotient 11 = .ok (.lload_n 2, 1) := by decide +kernel
theorem dL_quotient_12 : decode bL_quotient 12 = .ok (.ldiv, 1) := by decide +kernel
theorem dL_quotient_13 : decode bL_quotient 13 = .ok (.lreturn, 1) := by decide +kernel
