theorem dL_init_0 : decode bL_init 0 = .ok (.aload_n 0, 1) := by decide +kernel
theorem dL_init_1 : decode bL_init 1 = .ok (.invokespecial 1, 3) := by decide +kernel
theorem dL_init_4 : decode bL_init 4 = .ok (.aload_n 0, 1) := by decide +kernel
theorem dL_init_5 : decode bL_init 5 = .ok (.bipush 6, 2) := by decide +kernel
theorem dL_init_7 : decode bL_init 7 = .ok (.anewarray 9, 3) := by decide +kernel
theorem dL_init_10 : decode bL_init 10 = .ok (.putfield 11, 3) := by decide +kernel
theorem dL_init_13 : decode bL_init 13 = .ok (.aload_n 0, 1) := by decide +kernel
theorem dL_init_14 : decode bL_init 14 = .ok (.bipush 6, 2) := by decide +kernel
theorem dL_init_16 : decode bL_init 16 = .ok (.newarray .int, 2) := by decide +kernel
theorem dL_init_18 : decode bL_init 18 = .ok (.putfield 15, 3) := by decide +kernel
theorem dL_init_21 : decode bL_init 21 = .ok (.aload_n 0, 1) := by decide +kernel
theorem dL_init_22 : decode bL_init 22 = .ok (.new 19, 3) := by decide +kernel
theorem dL_init_25 : decode bL_init 25 = .ok (.dup, 1) := by decide +kernel
theorem dL_init_26 : decode bL_init 26 = .ok (.invokespecial 21, 3) := by decide +kernel
theorem dL_init_29 : decode bL_init 29 = .ok (.putfield 22, 3) := by decide +kernel
theorem dL_init_32 : decode bL_init 32 = .ok (.aload_n 0, 1) := by decide +kernel
theorem dL_init_33 : decode bL_init 33 = .ok (.iconst 0, 1) := by decide +kernel
theorem dL_init_34 : decode bL_init 34 = .ok (.putfield 26, 3) := by decide +kernel
theorem dL_init_37 : decode bL_init 37 = .ok (.aload_n 0, 1) := by decide +kernel
theorem dL_init_38 : decode bL_init 38 = .ok (.iconst 0, 1) := by decide +kernel
theorem dL_init_39 : decode bL_init 39 = .ok (.putfield 30, 3) := by decide +kernel
theorem dL_init_42 : decode bL_init 42 = .ok (.aload_n 0, 1) := by decide +kernel
theorem dL_init_43 : decode bL_init 43 = .ok (.iconst 0, 1) := by decide +kernel
theorem dL_init_44 : decode bL_init 44 = .ok (.putfield 33, 3) := by decide +kernel
theorem dL_init_47 : decode bL_init 47 = .ok (.aload_n 0, 1) := by decide +kernel
theorem dL_init_48 : decode bL_init 48 = .ok (.iconst 0, 1) := by decide +kernel
theorem dL_init_49 : decode bL_init 49 = .ok (.putfield 36, 3) := by decide +kernel
theorem dL_init_52 : decode bL_init 52 = .ok (.aload_n 0, 1) := by decide +kernel
theorem dL_init_53 : decode bL_init 53 = .ok (.bipush 10, 2) := by decide +kernel
theorem dL_init_55 : decode bL_init 55 = .ok (.putfield 39, 3) := by decide +kernel
theorem dL_init_58 : decode bL_init 58 = .ok (.aload_n 0, 1) := by decide +kernel
theorem dL_init_59 : decode bL_init 59 = .ok (.iconst 3, 1) := by decide +kernel
theorem dL_init_60 : decode bL_init 60 = .ok (.putfield 42, 3) := by decide +kernel
theorem dL_init_63 : decode bL_init 63 = .ok (.return_, 1) := by decide +kernel
theorem dL_tendon_0 : decode bL_tendon 0 = .ok (.iload_n 1, 1) := by decide +kernel
theorem dL_tendon_1 : decode bL_tendon 1 = .ok (.bipush 50, 2) := by decide +kernel
theorem dL_tendon_3 : decode bL_tendon 3 = .ok (.sipush 10000, 3) := by decide +kernel
theorem dL_tendon_6 : decode bL_tendon 6 = .ok (.invokestatic 45, 3) := by decide +kernel
theorem dL_tendon_9 : decode bL_tendon 9 = .ok (.ifCond .eq 12, 3) := by decide +kernel
theorem dL_tendon_12 : decode bL_tendon 12 = .ok (.aload_n 0, 1) := by decide +kernel
theorem dL_tendon_13 : decode bL_tendon 13 = .ok (.getfield 26, 3) := by decide +kernel
theorem dL_tendon_16 : decode bL_tendon 16 = .ok (.bipush 6, 2) := by decide +kernel
theorem dL_tendon_18 : decode bL_tendon 18 = .ok (.if_icmp .lt 5, 3) := by decide +kernel
theorem dL_tendon_21 : decode bL_tendon 21 = .ok (.iconst (-1), 1) := by decide +kernel
theorem dL_tendon_22 : decode bL_tendon 22 = .ok (.ireturn, 1) := by decide +kernel
theorem dL_tendon_23 : decode bL_tendon 23 = .ok (.aload_n 0, 1) := by decide +kernel
theorem dL_tendon_24 : decode bL_tendon 24 = .ok (.getfield 26, 3) := by decide +kernel
theorem dL_tendon_27 : decode bL_tendon 27 = .ok (.istore_n 2, 1) := by decide +kernel
theorem dL_tendon_28 : decode bL_tendon 28 = .ok (.aload_n 0, 1) := by decide +kernel
theorem dL_tendon_29 : decode bL_tendon 29 = .ok (.getfield 11, 3) := by decide +kernel
theorem dL_tendon_32 : decode bL_tendon 32 = .ok (.iload_n 2, 1) := by decide +kernel
theorem dL_tendon_33 : decode bL_tendon 33 = .ok (.new 9, 3) := by decide +kernel
theorem dL_tendon_36 : decode bL_tendon 36 = .ok (.dup, 1) := by decide +kernel
theorem dL_tendon_37 : decode bL_tendon 37 = .ok (.iload_n 1, 1) := by decide +kernel
theorem dL_tendon_38 : decode bL_tendon 38 = .ok (.invokespecial 49, 3) := by decide +kernel
theorem dL_tendon_41 : decode bL_tendon 41 = .ok (.aastore, 1) := by decide +kernel
theorem dL_tendon_42 : decode bL_tendon 42 = .ok (.aload_n 0, 1) := by decide +kernel
theorem dL_tendon_43 : decode bL_tendon 43 = .ok (.iload_n 2, 1) := by decide +kernel
theorem dL_tendon_44 : decode bL_tendon 44 = .ok (.iconst 1, 1) := by decide +kernel
theorem dL_tendon_45 : decode bL_tendon 45 = .ok (.iadd, 1) := by decide +kernel
theorem dL_tendon_46 : decode bL_tendon 46 = .ok (.putfield 26, 3) := by decide +kernel
theorem dL_tendon_49 : decode bL_tendon 49 = .ok (.iload_n 2, 1) := by decide +kernel
theorem dL_tendon_50 : decode bL_tendon 50 = .ok (.ireturn, 1) := by decide +kernel
theorem dL_point_0 : decode bL_point 0 = .ok (.aload_n 0, 1) := by decide +kernel
theorem dL_point_1 : decode bL_point 1 = .ok (.iload_n 1, 1) := by decide +kernel
theorem dL_point_2 : decode bL_point 2 = .ok (.invokevirtual 52, 3) := by decide +kernel
theorem dL_point_5 : decode bL_point 5 = .ok (.astore 4, 2) := by decide +kernel
theorem dL_point_7 : decode bL_point 7 = .ok (.aload 4, 2) := by decide +kernel
theorem dL_point_9 : decode bL_point 9 = .ok (.ifnull 24, 3) := by decide +kernel
theorem dL_point_12 : decode bL_point 12 = .ok (.aload 4, 2) := by decide +kernel
theorem dL_point_14 : decode bL_point 14 = .ok (.getfield 56, 3) := by decide +kernel
theorem dL_point_17 : decode bL_point 17 = .ok (.ifCond .ne 16, 3) := by decide +kernel
theorem dL_point_20 : decode bL_point 20 = .ok (.aload 4, 2) := by decide +kernel
theorem dL_point_22 : decode bL_point 22 = .ok (.getfield 59, 3) := by decide +kernel
theorem dL_point_25 : decode bL_point 25 = .ok (.iload_n 2, 1) := by decide +kernel
theorem dL_point_26 : decode bL_point 26 = .ok (.iload_n 3, 1) := by decide +kernel
theorem dL_point_27 : decode bL_point 27 = .ok (.invokevirtual 63, 3) := by decide +kernel
theorem dL_point_30 : decode bL_point 30 = .ok (.ifCond .ne 5, 3) := by decide +kernel
theorem dL_point_33 : decode bL_point 33 = .ok (.iconst (-1), 1) := by decide +kernel
theorem dL_point_34 : decode bL_point 34 = .ok (.ireturn, 1) := by decide +kernel
theorem dL_point_35 : decode bL_point 35 = .ok (.aload 4, 2) := by decide +kernel
theorem dL_point_37 : decode bL_point 37 = .ok (.getfield 59, 3) := by decide +kernel
theorem dL_point_40 : decode bL_point 40 = .ok (.iload_n 2, 1) := by decide +kernel
theorem dL_point_41 : decode bL_point 41 = .ok (.iload_n 3, 1) := by decide +kernel
theorem dL_point_42 : decode bL_point 42 = .ok (.invokevirtual 69, 3) := by decide +kernel
theorem dL_point_45 : decode bL_point 45 = .ok (.aload 4, 2) := by decide +kernel
theorem dL_point_47 : decode bL_point 47 = .ok (.getfield 59, 3) := by decide +kernel
theorem dL_point_50 : decode bL_point 50 = .ok (.getfield 73, 3) := by decide +kernel
theorem dL_point_53 : decode bL_point 53 = .ok (.ireturn, 1) := by decide +kernel
theorem dL_friction_0 : decode bL_friction 0 = .ok (.iload_n 1, 1) := by decide +kernel
theorem dL_friction_1 : decode bL_friction 1 = .ok (.iconst 0, 1) := by decide +kernel
theorem dL_friction_2 : decode bL_friction 2 = .ok (.sipush 1000, 3) := by decide +kernel
theorem dL_friction_5 : decode bL_friction 5 = .ok (.invokestatic 45, 3) := by decide +kernel
theorem dL_friction_8 : decode bL_friction 8 = .ok (.ifCond .eq 14, 3) := by decide +kernel
theorem dL_friction_11 : decode bL_friction 11 = .ok (.iload_n 2, 1) := by decide +kernel
theorem dL_friction_12 : decode bL_friction 12 = .ok (.iconst 0, 1) := by decide +kernel
theorem dL_friction_13 : decode bL_friction 13 = .ok (.sipush 500, 3) := by decide +kernel
theorem dL_friction_16 : decode bL_friction 16 = .ok (.invokestatic 45, 3) := by decide +kernel
theorem dL_friction_19 : decode bL_friction 19 = .ok (.ifCond .ne 5, 3) := by decide +kernel
theorem dL_friction_22 : decode bL_friction 22 = .ok (.iconst 0, 1) := by decide +kernel
theorem dL_friction_23 : decode bL_friction 23 = .ok (.ireturn, 1) := by decide +kernel
theorem dL_friction_24 : decode bL_friction 24 = .ok (.aload_n 0, 1) := by decide +kernel
theorem dL_friction_25 : decode bL_friction 25 = .ok (.getfield 22, 3) := by decide +kernel
theorem dL_friction_28 : decode bL_friction 28 = .ok (.iload_n 1, 1) := by decide +kernel
theorem dL_friction_29 : decode bL_friction 29 = .ok (.putfield 76, 3) := by decide +kernel
theorem dL_friction_32 : decode bL_friction 32 = .ok (.aload_n 0, 1) := by decide +kernel
theorem dL_friction_33 : decode bL_friction 33 = .ok (.getfield 22, 3) := by decide +kernel
theorem dL_friction_36 : decode bL_friction 36 = .ok (.iload_n 2, 1) := by decide +kernel
theorem dL_friction_37 : decode bL_friction 37 = .ok (.putfield 79, 3) := by decide +kernel
theorem dL_friction_40 : decode bL_friction 40 = .ok (.iconst 1, 1) := by decide +kernel
theorem dL_friction_41 : decode bL_friction 41 = .ok (.ireturn, 1) := by decide +kernel
theorem dL_losses_0 : decode bL_losses 0 = .ok (.iload_n 1, 1) := by decide +kernel
theorem dL_losses_1 : decode bL_losses 1 = .ok (.iconst 0, 1) := by decide +kernel
theorem dL_losses_2 : decode bL_losses 2 = .ok (.sipush 20000, 3) := by decide +kernel
theorem dL_losses_5 : decode bL_losses 5 = .ok (.invokestatic 45, 3) := by decide +kernel
theorem dL_losses_8 : decode bL_losses 8 = .ok (.ifCond .eq 24, 3) := by decide +kernel
theorem dL_losses_11 : decode bL_losses 11 = .ok (.iload_n 2, 1) := by decide +kernel
theorem dL_losses_12 : decode bL_losses 12 = .ok (.iconst 0, 1) := by decide +kernel
theorem dL_losses_13 : decode bL_losses 13 = .ok (.bipush 100, 2) := by decide +kernel
theorem dL_losses_15 : decode bL_losses 15 = .ok (.invokestatic 45, 3) := by decide +kernel
theorem dL_losses_18 : decode bL_losses 18 = .ok (.ifCond .eq 14, 3) := by decide +kernel
theorem dL_losses_21 : decode bL_losses 21 = .ok (.iload_n 3, 1) := by decide +kernel
theorem dL_losses_22 : decode bL_losses 22 = .ok (.iconst 0, 1) := by decide +kernel
theorem dL_losses_23 : decode bL_losses 23 = .ok (.sipush 1000, 3) := by decide +kernel
theorem dL_losses_26 : decode bL_losses 26 = .ok (.invokestatic 45, 3) := by decide +kernel
theorem dL_losses_29 : decode bL_losses 29 = .ok (.ifCond .ne 5, 3) := by decide +kernel
theorem dL_losses_32 : decode bL_losses 32 = .ok (.iconst 0, 1) := by decide +kernel
theorem dL_losses_33 : decode bL_losses 33 = .ok (.ireturn, 1) := by decide +kernel
theorem dL_losses_34 : decode bL_losses 34 = .ok (.aload_n 0, 1) := by decide +kernel
theorem dL_losses_35 : decode bL_losses 35 = .ok (.iload_n 1, 1) := by decide +kernel
theorem dL_losses_36 : decode bL_losses 36 = .ok (.putfield 36, 3) := by decide +kernel
theorem dL_losses_39 : decode bL_losses 39 = .ok (.aload_n 0, 1) := by decide +kernel
theorem dL_losses_40 : decode bL_losses 40 = .ok (.iload_n 2, 1) := by decide +kernel
theorem dL_losses_41 : decode bL_losses 41 = .ok (.putfield 39, 3) := by decide +kernel
theorem dL_losses_44 : decode bL_losses 44 = .ok (.aload_n 0, 1) := by decide +kernel
theorem dL_losses_45 : decode bL_losses 45 = .ok (.iload_n 3, 1) := by decide +kernel
theorem dL_losses_46 : decode bL_losses 46 = .ok (.putfield 42, 3) := by decide +kernel
theorem dL_losses_49 : decode bL_losses 49 = .ok (.iconst 1, 1) := by decide +kernel
theorem dL_losses_50 : decode bL_losses 50 = .ok (.ireturn, 1) := by decide +kernel
theorem dL_pull_0 : decode bL_pull 0 = .ok (.aload_n 0, 1) := by decide +kernel
theorem dL_pull_1 : decode bL_pull 1 = .ok (.iload_n 1, 1) := by decide +kernel
theorem dL_pull_2 : decode bL_pull 2 = .ok (.invokevirtual 52, 3) := by decide +kernel
theorem dL_pull_5 : decode bL_pull 5 = .ok (.astore 4, 2) := by decide +kernel
theorem dL_pull_7 : decode bL_pull 7 = .ok (.aload 4, 2) := by decide +kernel
theorem dL_pull_9 : decode bL_pull 9 = .ok (.ifnull 42, 3) := by decide +kernel
theorem dL_pull_12 : decode bL_pull 12 = .ok (.aload 4, 2) := by decide +kernel
theorem dL_pull_14 : decode bL_pull 14 = .ok (.getfield 56, 3) := by decide +kernel
theorem dL_pull_17 : decode bL_pull 17 = .ok (.iconst 2, 1) := by decide +kernel
theorem dL_pull_18 : decode bL_pull 18 = .ok (.if_icmp .eq 33, 3) := by decide +kernel
theorem dL_pull_21 : decode bL_pull 21 = .ok (.aload 4, 2) := by decide +kernel
theorem dL_pull_23 : decode bL_pull 23 = .ok (.getfield 59, 3) := by decide +kernel
theorem dL_pull_26 : decode bL_pull 26 = .ok (.invokevirtual 82, 3) := by decide +kernel
theorem dL_pull_29 : decode bL_pull 29 = .ok (.ifCond .eq 22, 3) := by decide +kernel
theorem dL_pull_32 : decode bL_pull 32 = .ok (.iload_n 2, 1) := by decide +kernel
theorem dL_pull_33 : decode bL_pull 33 = .ok (.iconst 1, 1) := by decide +kernel
theorem dL_pull_34 : decode bL_pull 34 = .ok (.iconst 3, 1) := by decide +kernel
theorem dL_pull_35 : decode bL_pull 35 = .ok (.invokestatic 45, 3) := by decide +kernel
theorem dL_pull_38 : decode bL_pull 38 = .ok (.ifCond .eq 13, 3) := by decide +kernel
theorem dL_pull_41 : decode bL_pull 41 = .ok (.iload_n 3, 1) := by decide +kernel
theorem dL_pull_42 : decode bL_pull 42 = .ok (.iconst 1, 1) := by decide +kernel
theorem dL_pull_43 : decode bL_pull 43 = .ok (.ldc 86, 2) := by decide +kernel
theorem dL_pull_45 : decode bL_pull 45 = .ok (.invokestatic 45, 3) := by decide +kernel
theorem dL_pull_48 : decode bL_pull 48 = .ok (.ifCond .ne 5, 3) := by decide +kernel
theorem dL_pull_51 : decode bL_pull 51 = .ok (.iconst (-1), 1) := by decide +kernel
theorem dL_pull_52 : decode bL_pull 52 = .ok (.ireturn, 1) := by decide +kernel
theorem dL_pull_53 : decode bL_pull 53 = .ok (.aload 4, 2) := by decide +kernel
theorem dL_pull_55 : decode bL_pull 55 = .ok (.iload_n 2, 1) := by decide +kernel
theorem dL_pull_56 : decode bL_pull 56 = .ok (.iload_n 3, 1) := by decide +kernel
theorem dL_pull_57 : decode bL_pull 57 = .ok (.aload_n 0, 1) := by decide +kernel
theorem dL_pull_58 : decode bL_pull 58 = .ok (.getfield 22, 3) := by decide +kernel
theorem dL_pull_61 : decode bL_pull 61 = .ok (.invokevirtual 87, 3) := by decide +kernel
theorem dL_pull_64 : decode bL_pull 64 = .ok (.aload 4, 2) := by decide +kernel
theorem dL_pull_66 : decode bL_pull 66 = .ok (.invokevirtual 91, 3) := by decide +kernel
theorem dL_pull_69 : decode bL_pull 69 = .ok (.l2i, 1) := by decide +kernel
theorem dL_pull_70 : decode bL_pull 70 = .ok (.ireturn, 1) := by decide +kernel
theorem dL_lock_0 : decode bL_lock 0 = .ok (.aload_n 0, 1) := by decide +kernel
theorem dL_lock_1 : decode bL_lock 1 = .ok (.iload_n 1, 1) := by decide +kernel
theorem dL_lock_2 : decode bL_lock 2 = .ok (.invokevirtual 52, 3) := by decide +kernel
theorem dL_lock_5 : decode bL_lock 5 = .ok (.astore_n 2, 1) := by decide +kernel
theorem dL_lock_6 : decode bL_lock 6 = .ok (.aload_n 2, 1) := by decide +kernel
theorem dL_lock_7 : decode bL_lock 7 = .ok (.ifnull 20, 3) := by decide +kernel
theorem dL_lock_10 : decode bL_lock 10 = .ok (.aload_n 2, 1) := by decide +kernel
theorem dL_lock_11 : decode bL_lock 11 = .ok (.getfield 56, 3) := by decide +kernel
theorem dL_lock_14 : decode bL_lock 14 = .ok (.iconst 1, 1) := by decide +kernel
theorem dL_lock_15 : decode bL_lock 15 = .ok (.if_icmp .ne 12, 3) := by decide +kernel
theorem dL_lock_18 : decode bL_lock 18 = .ok (.aload_n 0, 1) := by decide +kernel
theorem dL_lock_19 : decode bL_lock 19 = .ok (.getfield 30, 3) := by decide +kernel
theorem dL_lock_22 : decode bL_lock 22 = .ok (.bipush 6, 2) := by decide +kernel
theorem dL_lock_24 : decode bL_lock 24 = .ok (.if_icmp .lt 5, 3) := by decide +kernel
theorem dL_lock_27 : decode bL_lock 27 = .ok (.iconst (-1), 1) := by decide +kernel
theorem dL_lock_28 : decode bL_lock 28 = .ok (.ireturn, 1) := by decide +kernel
theorem dL_lock_29 : decode bL_lock 29 = .ok (.aload_n 2, 1) := by decide +kernel
theorem dL_lock_30 : decode bL_lock 30 = .ok (.invokevirtual 91, 3) := by decide +kernel
theorem dL_lock_33 : decode bL_lock 33 = .ok (.lstore_n 3, 1) := by decide +kernel
theorem dL_lock_34 : decode bL_lock 34 = .ok (.aload_n 2, 1) := by decide +kernel
theorem dL_lock_35 : decode bL_lock 35 = .ok (.aload_n 0, 1) := by decide +kernel
theorem dL_lock_36 : decode bL_lock 36 = .ok (.getfield 36, 3) := by decide +kernel
theorem dL_lock_39 : decode bL_lock 39 = .ok (.aload_n 0, 1) := by decide +kernel
theorem dL_lock_40 : decode bL_lock 40 = .ok (.getfield 22, 3) := by decide +kernel
theorem dL_lock_43 : decode bL_lock 43 = .ok (.invokevirtual 95, 3) := by decide +kernel
theorem dL_lock_46 : decode bL_lock 46 = .ok (.aload_n 2, 1) := by decide +kernel
theorem dL_lock_47 : decode bL_lock 47 = .ok (.iconst 2, 1) := by decide +kernel
theorem dL_lock_48 : decode bL_lock 48 = .ok (.putfield 56, 3) := by decide +kernel
theorem dL_lock_51 : decode bL_lock 51 = .ok (.aload_n 0, 1) := by decide +kernel
theorem dL_lock_52 : decode bL_lock 52 = .ok (.aload_n 2, 1) := by decide +kernel
theorem dL_lock_53 : decode bL_lock 53 = .ok (.invokevirtual 99, 3) := by decide +kernel
theorem dL_lock_56 : decode bL_lock 56 = .ok (.aload_n 0, 1) := by decide +kernel
theorem dL_lock_57 : decode bL_lock 57 = .ok (.getfield 39, 3) := by decide +kernel
theorem dL_lock_60 : decode bL_lock 60 = .ok (.i2l, 1) := by decide +kernel
theorem dL_lock_61 : decode bL_lock 61 = .ok (.lmul, 1) := by decide +kernel
theorem dL_lock_62 : decode bL_lock 62 = .ok (.ldc2_w 102, 3) := by decide +kernel
theorem dL_lock_65 : decode bL_lock 65 = .ok (.ldiv, 1) := by decide +kernel
theorem dL_lock_66 : decode bL_lock 66 = .ok (.invokevirtual 104, 3) := by decide +kernel
theorem dL_lock_69 : decode bL_lock 69 = .ok (.aload_n 0, 1) := by decide +kernel
theorem dL_lock_70 : decode bL_lock 70 = .ok (.getfield 15, 3) := by decide +kernel
theorem dL_lock_73 : decode bL_lock 73 = .ok (.aload_n 0, 1) := by decide +kernel
theorem dL_lock_74 : decode bL_lock 74 = .ok (.getfield 30, 3) := by decide +kernel
theorem dL_lock_77 : decode bL_lock 77 = .ok (.iload_n 1, 1) := by decide +kernel
theorem dL_lock_78 : decode bL_lock 78 = .ok (.iastore, 1) := by decide +kernel
theorem dL_lock_79 : decode bL_lock 79 = .ok (.aload_n 0, 1) := by decide +kernel
theorem dL_lock_80 : decode bL_lock 80 = .ok (.dup, 1) := by decide +kernel
theorem dL_lock_81 : decode bL_lock 81 = .ok (.getfield 30, 3) := by decide +kernel
theorem dL_lock_84 : decode bL_lock 84 = .ok (.iconst 1, 1) := by decide +kernel
theorem dL_lock_85 : decode bL_lock 85 = .ok (.iadd, 1) := by decide +kernel
theorem dL_lock_86 : decode bL_lock 86 = .ok (.putfield 30, 3) := by decide +kernel
theorem dL_lock_89 : decode bL_lock 89 = .ok (.lload_n 3, 1) := by decide +kernel
theorem dL_lock_90 : decode bL_lock 90 = .ok (.aload_n 2, 1) := by decide +kernel
theorem dL_lock_91 : decode bL_lock 91 = .ok (.invokevirtual 91, 3) := by decide +kernel
theorem dL_lock_94 : decode bL_lock 94 = .ok (.lsub, 1) := by decide +kernel
theorem dL_lock_95 : decode bL_lock 95 = .ok (.l2i, 1) := by decide +kernel
theorem dL_lock_96 : decode bL_lock 96 = .ok (.ireturn, 1) := by decide +kernel
theorem dL_cut_0 : decode bL_cut 0 = .ok (.aload_n 0, 1) := by decide +kernel
theorem dL_cut_1 : decode bL_cut 1 = .ok (.iload_n 1, 1) := by decide +kernel
theorem dL_cut_2 : decode bL_cut 2 = .ok (.invokevirtual 52, 3) := by decide +kernel
theorem dL_cut_5 : decode bL_cut 5 = .ok (.astore_n 2, 1) := by decide +kernel
theorem dL_cut_6 : decode bL_cut 6 = .ok (.aload_n 2, 1) := by decide +kernel
theorem dL_cut_7 : decode bL_cut 7 = .ok (.ifnull 10, 3) := by decide +kernel
theorem dL_cut_10 : decode bL_cut 10 = .ok (.aload_n 2, 1) := by decide +kernel
theorem dL_cut_11 : decode bL_cut 11 = .ok (.getfield 56, 3) := by decide +kernel
theorem dL_cut_14 : decode bL_cut 14 = .ok (.ifCond .ne 5, 3) := by decide +kernel
theorem dL_cut_17 : decode bL_cut 17 = .ok (.iconst 0, 1) := by decide +kernel
theorem dL_cut_18 : decode bL_cut 18 = .ok (.ireturn, 1) := by decide +kernel
theorem dL_cut_19 : decode bL_cut 19 = .ok (.aload_n 2, 1) := by decide +kernel
theorem dL_cut_20 : decode bL_cut 20 = .ok (.getfield 56, 3) := by decide +kernel
theorem dL_cut_23 : decode bL_cut 23 = .ok (.iconst 2, 1) := by decide +kernel
theorem dL_cut_24 : decode bL_cut 24 = .ok (.if_icmp .ne 8, 3) := by decide +kernel
theorem dL_cut_27 : decode bL_cut 27 = .ok (.aload_n 0, 1) := by decide +kernel
theorem dL_cut_28 : decode bL_cut 28 = .ok (.iload_n 1, 1) := by decide +kernel
theorem dL_cut_29 : decode bL_cut 29 = .ok (.invokevirtual 108, 3) := by decide +kernel
theorem dL_cut_32 : decode bL_cut 32 = .ok (.aload_n 2, 1) := by decide +kernel
theorem dL_cut_33 : decode bL_cut 33 = .ok (.iconst 0, 1) := by decide +kernel
theorem dL_cut_34 : decode bL_cut 34 = .ok (.putfield 56, 3) := by decide +kernel
theorem dL_cut_37 : decode bL_cut 37 = .ok (.iconst 1, 1) := by decide +kernel
theorem dL_cut_38 : decode bL_cut 38 = .ok (.ireturn, 1) := by decide +kernel
theorem dL_days_0 : decode bL_days 0 = .ok (.iload_n 1, 1) := by decide +kernel
theorem dL_days_1 : decode bL_days 1 = .ok (.iconst 1, 1) := by decide +kernel
theorem dL_days_2 : decode bL_days 2 = .ok (.sipush 1000, 3) := by decide +kernel
theorem dL_days_5 : decode bL_days 5 = .ok (.invokestatic 45, 3) := by decide +kernel
theorem dL_days_8 : decode bL_days 8 = .ok (.ifCond .ne 5, 3) := by decide +kernel
theorem dL_days_11 : decode bL_days 11 = .ok (.iconst (-1), 1) := by decide +kernel
theorem dL_days_12 : decode bL_days 12 = .ok (.ireturn, 1) := by decide +kernel
theorem dL_days_13 : decode bL_days 13 = .ok (.iconst 0, 1) := by decide +kernel
theorem dL_days_14 : decode bL_days 14 = .ok (.istore_n 2, 1) := by decide +kernel
theorem dL_days_15 : decode bL_days 15 = .ok (.iload_n 2, 1) := by decide +kernel
theorem dL_days_16 : decode bL_days 16 = .ok (.aload_n 0, 1) := by decide +kernel
theorem dL_days_17 : decode bL_days 17 = .ok (.getfield 30, 3) := by decide +kernel
theorem dL_days_20 : decode bL_days 20 = .ok (.if_icmp .ge 33, 3) := by decide +kernel
theorem dL_days_23 : decode bL_days 23 = .ok (.aload_n 0, 1) := by decide +kernel
theorem dL_days_24 : decode bL_days 24 = .ok (.aload_n 0, 1) := by decide +kernel
theorem dL_days_25 : decode bL_days 25 = .ok (.getfield 15, 3) := by decide +kernel
theorem dL_days_28 : decode bL_days 28 = .ok (.iload_n 2, 1) := by decide +kernel
theorem dL_days_29 : decode bL_days 29 = .ok (.iaload, 1) := by decide +kernel
theorem dL_days_30 : decode bL_days 30 = .ok (.invokevirtual 52, 3) := by decide +kernel
theorem dL_days_33 : decode bL_days 33 = .ok (.astore_n 3, 1) := by decide +kernel
theorem dL_days_34 : decode bL_days 34 = .ok (.aload_n 3, 1) := by decide +kernel
theorem dL_days_35 : decode bL_days 35 = .ok (.ifnull 12, 3) := by decide +kernel
theorem dL_days_38 : decode bL_days 38 = .ok (.aload_n 3, 1) := by decide +kernel
theorem dL_days_39 : decode bL_days 39 = .ok (.iload_n 1, 1) := by decide +kernel
theorem dL_days_40 : decode bL_days 40 = .ok (.aload_n 0, 1) := by decide +kernel
theorem dL_days_41 : decode bL_days 41 = .ok (.getfield 42, 3) := by decide +kernel
theorem dL_days_44 : decode bL_days 44 = .ok (.invokevirtual 111, 3) := by decide +kernel
theorem dL_days_47 : decode bL_days 47 = .ok (.iinc 2 1, 3) := by decide +kernel
theorem dL_days_50 : decode bL_days 50 = .ok (.goto (-35), 3) := by decide +kernel
theorem dL_days_53 : decode bL_days 53 = .ok (.aload_n 0, 1) := by decide +kernel
theorem dL_days_54 : decode bL_days 54 = .ok (.dup, 1) := by decide +kernel
theorem dL_days_55 : decode bL_days 55 = .ok (.getfield 33, 3) := by decide +kernel
theorem dL_days_58 : decode bL_days 58 = .ok (.iload_n 1, 1) := by decide +kernel
theorem dL_days_59 : decode bL_days 59 = .ok (.iadd, 1) := by decide +kernel
theorem dL_days_60 : decode bL_days 60 = .ok (.putfield 33, 3) := by decide +kernel
theorem dL_days_63 : decode bL_days 63 = .ok (.aload_n 0, 1) := by decide +kernel
theorem dL_days_64 : decode bL_days 64 = .ok (.getfield 33, 3) := by decide +kernel
theorem dL_days_67 : decode bL_days 67 = .ok (.ireturn, 1) := by decide +kernel
theorem dL_force_0 : decode bL_force 0 = .ok (.aload_n 0, 1) := by decide +kernel
theorem dL_force_1 : decode bL_force 1 = .ok (.iload_n 1, 1) := by decide +kernel
theorem dL_force_2 : decode bL_force 2 = .ok (.invokevirtual 114, 3) := by decide +kernel
theorem dL_force_5 : decode bL_force 5 = .ok (.astore_n 3, 1) := by decide +kernel
theorem dL_force_6 : decode bL_force 6 = .ok (.aload_n 3, 1) := by decide +kernel
theorem dL_force_7 : decode bL_force 7 = .ok (.ifnull 14, 3) := by decide +kernel
theorem dL_force_10 : decode bL_force 10 = .ok (.aload_n 3, 1) := by decide +kernel
theorem dL_force_11 : decode bL_force 11 = .ok (.getfield 59, 3) := by decide +kernel
theorem dL_force_14 : decode bL_force 14 = .ok (.iload_n 2, 1) := by decide +kernel
theorem dL_force_15 : decode bL_force 15 = .ok (.invokevirtual 117, 3) := by decide +kernel
theorem dL_force_18 : decode bL_force 18 = .ok (.ifCond .ne 7, 3) := by decide +kernel
theorem dL_force_21 : decode bL_force 21 = .ok (.iconst (-1), 1) := by decide +kernel
theorem dL_force_22 : decode bL_force 22 = .ok (.goto 10, 3) := by decide +kernel
theorem dL_force_25 : decode bL_force 25 = .ok (.aload_n 3, 1) := by decide +kernel
theorem dL_force_26 : decode bL_force 26 = .ok (.getfield 121, 3) := by decide +kernel
theorem dL_force_29 : decode bL_force 29 = .ok (.iload_n 2, 1) := by decide +kernel
theorem dL_force_30 : decode bL_force 30 = .ok (.laload, 1) := by decide +kernel
theorem dL_force_31 : decode bL_force 31 = .ok (.l2i, 1) := by decide +kernel
theorem dL_force_32 : decode bL_force 32 = .ok (.ireturn, 1) := by decide +kernel
theorem dL_at_0 : decode bL_at 0 = .ok (.aload_n 0, 1) := by decide +kernel
theorem dL_at_1 : decode bL_at 1 = .ok (.iload_n 1, 1) := by decide +kernel
theorem dL_at_2 : decode bL_at 2 = .ok (.invokevirtual 114, 3) := by decide +kernel
theorem dL_at_5 : decode bL_at 5 = .ok (.astore_n 3, 1) := by decide +kernel
theorem dL_at_6 : decode bL_at 6 = .ok (.aload_n 3, 1) := by decide +kernel
theorem dL_at_7 : decode bL_at 7 = .ok (.ifnonnull 5, 3) := by decide +kernel
theorem dL_at_10 : decode bL_at 10 = .ok (.iconst (-1), 1) := by decide +kernel
theorem dL_at_11 : decode bL_at 11 = .ok (.ireturn, 1) := by decide +kernel
theorem dL_at_12 : decode bL_at 12 = .ok (.aload_n 3, 1) := by decide +kernel
theorem dL_at_13 : decode bL_at 13 = .ok (.getfield 59, 3) := by decide +kernel
theorem dL_at_16 : decode bL_at 16 = .ok (.iload_n 2, 1) := by decide +kernel
theorem dL_at_17 : decode bL_at 17 = .ok (.invokevirtual 125, 3) := by decide +kernel
theorem dL_at_20 : decode bL_at 20 = .ok (.istore 4, 2) := by decide +kernel
theorem dL_at_22 : decode bL_at 22 = .ok (.iload 4, 2) := by decide +kernel
theorem dL_at_24 : decode bL_at 24 = .ok (.ifCond .ge 7, 3) := by decide +kernel
theorem dL_at_27 : decode bL_at 27 = .ok (.iconst (-1), 1) := by decide +kernel
theorem dL_at_28 : decode bL_at 28 = .ok (.goto 11, 3) := by decide +kernel
theorem dL_at_31 : decode bL_at 31 = .ok (.aload_n 3, 1) := by decide +kernel
theorem dL_at_32 : decode bL_at 32 = .ok (.iload 4, 2) := by decide +kernel
theorem dL_at_34 : decode bL_at 34 = .ok (.iload_n 2, 1) := by decide +kernel
theorem dL_at_35 : decode bL_at 35 = .ok (.invokevirtual 129, 3) := by decide +kernel
theorem dL_at_38 : decode bL_at 38 = .ok (.l2i, 1) := by decide +kernel
theorem dL_at_39 : decode bL_at 39 = .ok (.ireturn, 1) := by decide +kernel
theorem dL_longer_0 : decode bL_longer 0 = .ok (.aload_n 0, 1) := by decide +kernel
theorem dL_longer_1 : decode bL_longer 1 = .ok (.iload_n 1, 1) := by decide +kernel
theorem dL_longer_2 : decode bL_longer 2 = .ok (.invokevirtual 114, 3) := by decide +kernel
theorem dL_longer_5 : decode bL_longer 5 = .ok (.astore_n 2, 1) := by decide +kernel
theorem dL_longer_6 : decode bL_longer 6 = .ok (.aload_n 2, 1) := by decide +kernel
theorem dL_longer_7 : decode bL_longer 7 = .ok (.ifnonnull 7, 3) := by decide +kernel
theorem dL_longer_10 : decode bL_longer 10 = .ok (.iconst (-1), 1) := by decide +kernel
theorem dL_longer_11 : decode bL_longer 11 = .ok (.goto 8, 3) := by decide +kernel
theorem dL_longer_14 : decode bL_longer 14 = .ok (.aload_n 2, 1) := by decide +kernel
theorem dL_longer_15 : decode bL_longer 15 = .ok (.invokevirtual 91, 3) := by decide +kernel
theorem dL_longer_18 : decode bL_longer 18 = .ok (.l2i, 1) := by decide +kernel
theorem dL_longer_19 : decode bL_longer 19 = .ok (.ireturn, 1) := by decide +kernel
theorem dL_piece_0 : decode bL_piece 0 = .ok (.aload_n 0, 1) := by decide +kernel
theorem dL_piece_1 : decode bL_piece 1 = .ok (.iload_n 1, 1) := by decide +kernel
theorem dL_piece_2 : decode bL_piece 2 = .ok (.invokevirtual 52, 3) := by decide +kernel
theorem dL_piece_5 : decode bL_piece 5 = .ok (.astore 4, 2) := by decide +kernel
theorem dL_piece_7 : decode bL_piece 7 = .ok (.aload 4, 2) := by decide +kernel
theorem dL_piece_9 : decode bL_piece 9 = .ok (.ifnull 15, 3) := by decide +kernel
theorem dL_piece_12 : decode bL_piece 12 = .ok (.aload 4, 2) := by decide +kernel
theorem dL_piece_14 : decode bL_piece 14 = .ok (.getfield 59, 3) := by decide +kernel
theorem dL_piece_17 : decode bL_piece 17 = .ok (.iload_n 2, 1) := by decide +kernel
theorem dL_piece_18 : decode bL_piece 18 = .ok (.invokevirtual 133, 3) := by decide +kernel
theorem dL_piece_21 : decode bL_piece 21 = .ok (.ifCond .ne 5, 3) := by decide +kernel
theorem dL_piece_24 : decode bL_piece 24 = .ok (.iconst (-1), 1) := by decide +kernel
theorem dL_piece_25 : decode bL_piece 25 = .ok (.ireturn, 1) := by decide +kernel
theorem dL_piece_26 : decode bL_piece 26 = .ok (.iload_n 3, 1) := by decide +kernel
theorem dL_piece_27 : decode bL_piece 27 = .ok (.tableswitch 59 0 2 #[25, 36, 47], 25) := by decide +kernel
theorem dL_piece_52 : decode bL_piece 52 = .ok (.aload 4, 2) := by decide +kernel
theorem dL_piece_54 : decode bL_piece 54 = .ok (.getfield 59, 3) := by decide +kernel
theorem dL_piece_57 : decode bL_piece 57 = .ok (.getfield 136, 3) := by decide +kernel
theorem dL_piece_60 : decode bL_piece 60 = .ok (.iload_n 2, 1) := by decide +kernel
theorem dL_piece_61 : decode bL_piece 61 = .ok (.iaload, 1) := by decide +kernel
theorem dL_piece_62 : decode bL_piece 62 = .ok (.ireturn, 1) := by decide +kernel
theorem dL_piece_63 : decode bL_piece 63 = .ok (.aload 4, 2) := by decide +kernel
theorem dL_piece_65 : decode bL_piece 65 = .ok (.getfield 59, 3) := by decide +kernel
theorem dL_piece_68 : decode bL_piece 68 = .ok (.getfield 139, 3) := by decide +kernel
theorem dL_piece_71 : decode bL_piece 71 = .ok (.iload_n 2, 1) := by decide +kernel
theorem dL_piece_72 : decode bL_piece 72 = .ok (.iaload, 1) := by decide +kernel
theorem dL_piece_73 : decode bL_piece 73 = .ok (.ireturn, 1) := by decide +kernel
theorem dL_piece_74 : decode bL_piece 74 = .ok (.aload 4, 2) := by decide +kernel
theorem dL_piece_76 : decode bL_piece 76 = .ok (.getfield 59, 3) := by decide +kernel
theorem dL_piece_79 : decode bL_piece 79 = .ok (.iload_n 2, 1) := by decide +kernel
theorem dL_piece_80 : decode bL_piece 80 = .ok (.iconst 1, 1) := by decide +kernel
theorem dL_piece_81 : decode bL_piece 81 = .ok (.iadd, 1) := by decide +kernel
theorem dL_piece_82 : decode bL_piece 82 = .ok (.invokevirtual 142, 3) := by decide +kernel
theorem dL_piece_85 : decode bL_piece 85 = .ok (.ireturn, 1) := by decide +kernel
theorem dL_piece_86 : decode bL_piece 86 = .ok (.iconst (-1), 1) := by decide +kernel
theorem dL_piece_87 : decode bL_piece 87 = .ok (.ireturn, 1) := by decide +kernel
theorem dL_presses_0 : decode bL_presses 0 = .ok (.aload_n 0, 1) := by decide +kernel
theorem dL_presses_1 : decode bL_presses 1 = .ok (.iload_n 1, 1) := by decide +kernel
theorem dL_presses_2 : decode bL_presses 2 = .ok (.invokevirtual 114, 3) := by decide +kernel
theorem dL_presses_5 : decode bL_presses 5 = .ok (.astore_n 3, 1) := by decide +kernel
theorem dL_presses_6 : decode bL_presses 6 = .ok (.aload_n 3, 1) := by decide +kernel
theorem dL_presses_7 : decode bL_presses 7 = .ok (.ifnull 14, 3) := by decide +kernel
theorem dL_presses_10 : decode bL_presses 10 = .ok (.aload_n 3, 1) := by decide +kernel
theorem dL_presses_11 : decode bL_presses 11 = .ok (.getfield 59, 3) := by decide +kernel
theorem dL_presses_14 : decode bL_presses 14 = .ok (.iload_n 2, 1) := by decide +kernel
theorem dL_presses_15 : decode bL_presses 15 = .ok (.invokevirtual 145, 3) := by decide +kernel
theorem dL_presses_18 : decode bL_presses 18 = .ok (.ifCond .ne 6, 3) := by decide +kernel
theorem dL_presses_21 : decode bL_presses 21 = .ok (.ldc 148, 2) := by decide +kernel
theorem dL_presses_23 : decode bL_presses 23 = .ok (.ireturn, 1) := by decide +kernel
theorem dL_presses_24 : decode bL_presses 24 = .ok (.aload_n 3, 1) := by decide +kernel
theorem dL_presses_25 : decode bL_presses 25 = .ok (.getfield 121, 3) := by decide +kernel
theorem dL_presses_28 : decode bL_presses 28 = .ok (.iload_n 2, 1) := by decide +kernel
theorem dL_presses_29 : decode bL_presses 29 = .ok (.laload, 1) := by decide +kernel
theorem dL_presses_30 : decode bL_presses 30 = .ok (.aload_n 3, 1) := by decide +kernel
