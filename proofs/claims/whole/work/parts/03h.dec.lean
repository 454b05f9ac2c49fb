theorem dM_init_0 : decode bM_init 0 = .ok (.aload_n 0, 1) := by decide +kernel
theorem dM_init_1 : decode bM_init 1 = .ok (.invokespecial 1, 3) := by decide +kernel
theorem dM_init_4 : decode bM_init 4 = .ok (.aload_n 0, 1) := by decide +kernel
theorem dM_init_5 : decode bM_init 5 = .ok (.bipush 6, 2) := by decide +kernel
theorem dM_init_7 : decode bM_init 7 = .ok (.newarray .int, 2) := by decide +kernel
theorem dM_init_9 : decode bM_init 9 = .ok (.putfield 7, 3) := by decide +kernel
theorem dM_init_12 : decode bM_init 12 = .ok (.aload_n 0, 1) := by decide +kernel
theorem dM_init_13 : decode bM_init 13 = .ok (.bipush 6, 2) := by decide +kernel
theorem dM_init_15 : decode bM_init 15 = .ok (.newarray .int, 2) := by decide +kernel
theorem dM_init_17 : decode bM_init 17 = .ok (.putfield 13, 3) := by decide +kernel
theorem dM_init_20 : decode bM_init 20 = .ok (.aload_n 0, 1) := by decide +kernel
theorem dM_init_21 : decode bM_init 21 = .ok (.bipush 6, 2) := by decide +kernel
theorem dM_init_23 : decode bM_init 23 = .ok (.newarray .int, 2) := by decide +kernel
theorem dM_init_25 : decode bM_init 25 = .ok (.putfield 16, 3) := by decide +kernel
theorem dM_init_28 : decode bM_init 28 = .ok (.aload_n 0, 1) := by decide +kernel
theorem dM_init_29 : decode bM_init 29 = .ok (.bipush 6, 2) := by decide +kernel
theorem dM_init_31 : decode bM_init 31 = .ok (.newarray .int, 2) := by decide +kernel
theorem dM_init_33 : decode bM_init 33 = .ok (.putfield 19, 3) := by decide +kernel
theorem dM_init_36 : decode bM_init 36 = .ok (.aload_n 0, 1) := by decide +kernel
theorem dM_init_37 : decode bM_init 37 = .ok (.bipush 6, 2) := by decide +kernel
theorem dM_init_39 : decode bM_init 39 = .ok (.newarray .int, 2) := by decide +kernel
theorem dM_init_41 : decode bM_init 41 = .ok (.putfield 22, 3) := by decide +kernel
theorem dM_init_44 : decode bM_init 44 = .ok (.aload_n 0, 1) := by decide +kernel
theorem dM_init_45 : decode bM_init 45 = .ok (.bipush 60, 2) := by decide +kernel
theorem dM_init_47 : decode bM_init 47 = .ok (.newarray .int, 2) := by decide +kernel
theorem dM_init_49 : decode bM_init 49 = .ok (.putfield 25, 3) := by decide +kernel
theorem dM_init_52 : decode bM_init 52 = .ok (.aload_n 0, 1) := by decide +kernel
theorem dM_init_53 : decode bM_init 53 = .ok (.bipush 60, 2) := by decide +kernel
theorem dM_init_55 : decode bM_init 55 = .ok (.newarray .int, 2) := by decide +kernel
theorem dM_init_57 : decode bM_init 57 = .ok (.putfield 28, 3) := by decide +kernel
theorem dM_init_60 : decode bM_init 60 = .ok (.aload_n 0, 1) := by decide +kernel
theorem dM_init_61 : decode bM_init 61 = .ok (.bipush 60, 2) := by decide +kernel
theorem dM_init_63 : decode bM_init 63 = .ok (.newarray .long, 2) := by decide +kernel
theorem dM_init_65 : decode bM_init 65 = .ok (.putfield 31, 3) := by decide +kernel
theorem dM_init_68 : decode bM_init 68 = .ok (.aload_n 0, 1) := by decide +kernel
theorem dM_init_69 : decode bM_init 69 = .ok (.bipush 6, 2) := by decide +kernel
theorem dM_init_71 : decode bM_init 71 = .ok (.newarray .int, 2) := by decide +kernel
theorem dM_init_73 : decode bM_init 73 = .ok (.putfield 35, 3) := by decide +kernel
theorem dM_init_76 : decode bM_init 76 = .ok (.aload_n 0, 1) := by decide +kernel
theorem dM_init_77 : decode bM_init 77 = .ok (.iconst 5, 1) := by decide +kernel
theorem dM_init_78 : decode bM_init 78 = .ok (.putfield 38, 3) := by decide +kernel
theorem dM_init_81 : decode bM_init 81 = .ok (.aload_n 0, 1) := by decide +kernel
theorem dM_init_82 : decode bM_init 82 = .ok (.sipush 200, 3) := by decide +kernel
theorem dM_init_85 : decode bM_init 85 = .ok (.putfield 42, 3) := by decide +kernel
theorem dM_init_88 : decode bM_init 88 = .ok (.aload_n 0, 1) := by decide +kernel
theorem dM_init_89 : decode bM_init 89 = .ok (.bipush 10, 2) := by decide +kernel
theorem dM_init_91 : decode bM_init 91 = .ok (.putfield 45, 3) := by decide +kernel
theorem dM_init_94 : decode bM_init 94 = .ok (.aload_n 0, 1) := by decide +kernel
theorem dM_init_95 : decode bM_init 95 = .ok (.iconst 3, 1) := by decide +kernel
theorem dM_init_96 : decode bM_init 96 = .ok (.putfield 48, 3) := by decide +kernel
theorem dM_init_99 : decode bM_init 99 = .ok (.aload_n 0, 1) := by decide +kernel
theorem dM_init_100 : decode bM_init 100 = .ok (.bipush 10, 2) := by decide +kernel
theorem dM_init_102 : decode bM_init 102 = .ok (.newarray .long, 2) := by decide +kernel
theorem dM_init_104 : decode bM_init 104 = .ok (.putfield 51, 3) := by decide +kernel
theorem dM_init_107 : decode bM_init 107 = .ok (.aload_n 0, 1) := by decide +kernel
theorem dM_init_108 : decode bM_init 108 = .ok (.bipush 10, 2) := by decide +kernel
theorem dM_init_110 : decode bM_init 110 = .ok (.newarray .long, 2) := by decide +kernel
theorem dM_init_112 : decode bM_init 112 = .ok (.putfield 54, 3) := by decide +kernel
theorem dM_init_115 : decode bM_init 115 = .ok (.aload_n 0, 1) := by decide +kernel
theorem dM_init_116 : decode bM_init 116 = .ok (.iconst 0, 1) := by decide +kernel
theorem dM_init_117 : decode bM_init 117 = .ok (.putfield 57, 3) := by decide +kernel
theorem dM_init_120 : decode bM_init 120 = .ok (.return_, 1) := by decide +kernel
theorem dM_in_0 : decode bM_in 0 = .ok (.iload_n 0, 1) := by decide +kernel
theorem dM_in_1 : decode bM_in 1 = .ok (.iload_n 1, 1) := by decide +kernel
theorem dM_in_2 : decode bM_in 2 = .ok (.if_icmp .lt 12, 3) := by decide +kernel
theorem dM_in_5 : decode bM_in 5 = .ok (.iload_n 0, 1) := by decide +kernel
theorem dM_in_6 : decode bM_in 6 = .ok (.iload_n 2, 1) := by decide +kernel
theorem dM_in_7 : decode bM_in 7 = .ok (.if_icmp .gt 7, 3) := by decide +kernel
theorem dM_in_10 : decode bM_in 10 = .ok (.iconst 1, 1) := by decide +kernel
theorem dM_in_11 : decode bM_in 11 = .ok (.goto 4, 3) := by decide +kernel
theorem dM_in_14 : decode bM_in 14 = .ok (.iconst 0, 1) := by decide +kernel
theorem dM_in_15 : decode bM_in 15 = .ok (.ireturn, 1) := by decide +kernel
theorem dM_isTendon_0 : decode bM_isTendon 0 = .ok (.iload_n 1, 1) := by decide +kernel
theorem dM_isTendon_1 : decode bM_isTendon 1 = .ok (.iconst 0, 1) := by decide +kernel
theorem dM_isTendon_2 : decode bM_isTendon 2 = .ok (.aload_n 0, 1) := by decide +kernel
theorem dM_isTendon_3 : decode bM_isTendon 3 = .ok (.getfield 57, 3) := by decide +kernel
theorem dM_isTendon_6 : decode bM_isTendon 6 = .ok (.iconst 1, 1) := by decide +kernel
theorem dM_isTendon_7 : decode bM_isTendon 7 = .ok (.isub, 1) := by decide +kernel
theorem dM_isTendon_8 : decode bM_isTendon 8 = .ok (.invokestatic 63, 3) := by decide +kernel
theorem dM_isTendon_11 : decode bM_isTendon 11 = .ok (.ireturn, 1) := by decide +kernel
theorem dM_hasForces_0 : decode bM_hasForces 0 = .ok (.aload_n 0, 1) := by decide +kernel
theorem dM_hasForces_1 : decode bM_hasForces 1 = .ok (.iload_n 1, 1) := by decide +kernel
theorem dM_hasForces_2 : decode bM_hasForces 2 = .ok (.invokevirtual 67, 3) := by decide +kernel
theorem dM_hasForces_5 : decode bM_hasForces 5 = .ok (.ifCond .eq 16, 3) := by decide +kernel
theorem dM_hasForces_8 : decode bM_hasForces 8 = .ok (.aload_n 0, 1) := by decide +kernel
theorem dM_hasForces_9 : decode bM_hasForces 9 = .ok (.getfield 16, 3) := by decide +kernel
theorem dM_hasForces_12 : decode bM_hasForces 12 = .ok (.iload_n 1, 1) := by decide +kernel
theorem dM_hasForces_13 : decode bM_hasForces 13 = .ok (.iaload, 1) := by decide +kernel
theorem dM_hasForces_14 : decode bM_hasForces 14 = .ok (.ifCond .le 7, 3) := by decide +kernel
theorem dM_hasForces_17 : decode bM_hasForces 17 = .ok (.iconst 1, 1) := by decide +kernel
theorem dM_hasForces_18 : decode bM_hasForces 18 = .ok (.goto 4, 3) := by decide +kernel
theorem dM_hasForces_21 : decode bM_hasForces 21 = .ok (.iconst 0, 1) := by decide +kernel
theorem dM_hasForces_22 : decode bM_hasForces 22 = .ok (.ireturn, 1) := by decide +kernel
theorem dM_tendon_0 : decode bM_tendon 0 = .ok (.iload_n 1, 1) := by decide +kernel
theorem dM_tendon_1 : decode bM_tendon 1 = .ok (.bipush 50, 2) := by decide +kernel
theorem dM_tendon_3 : decode bM_tendon 3 = .ok (.sipush 10000, 3) := by decide +kernel
theorem dM_tendon_6 : decode bM_tendon 6 = .ok (.invokestatic 63, 3) := by decide +kernel
theorem dM_tendon_9 : decode bM_tendon 9 = .ok (.ifCond .eq 12, 3) := by decide +kernel
theorem dM_tendon_12 : decode bM_tendon 12 = .ok (.aload_n 0, 1) := by decide +kernel
theorem dM_tendon_13 : decode bM_tendon 13 = .ok (.getfield 57, 3) := by decide +kernel
theorem dM_tendon_16 : decode bM_tendon 16 = .ok (.bipush 6, 2) := by decide +kernel
theorem dM_tendon_18 : decode bM_tendon 18 = .ok (.if_icmp .ne 5, 3) := by decide +kernel
theorem dM_tendon_21 : decode bM_tendon 21 = .ok (.iconst (-1), 1) := by decide +kernel
theorem dM_tendon_22 : decode bM_tendon 22 = .ok (.ireturn, 1) := by decide +kernel
theorem dM_tendon_23 : decode bM_tendon 23 = .ok (.aload_n 0, 1) := by decide +kernel
theorem dM_tendon_24 : decode bM_tendon 24 = .ok (.getfield 7, 3) := by decide +kernel
theorem dM_tendon_27 : decode bM_tendon 27 = .ok (.aload_n 0, 1) := by decide +kernel
theorem dM_tendon_28 : decode bM_tendon 28 = .ok (.getfield 57, 3) := by decide +kernel
theorem dM_tendon_31 : decode bM_tendon 31 = .ok (.iload_n 1, 1) := by decide +kernel
theorem dM_tendon_32 : decode bM_tendon 32 = .ok (.iastore, 1) := by decide +kernel
theorem dM_tendon_33 : decode bM_tendon 33 = .ok (.aload_n 0, 1) := by decide +kernel
theorem dM_tendon_34 : decode bM_tendon 34 = .ok (.dup, 1) := by decide +kernel
theorem dM_tendon_35 : decode bM_tendon 35 = .ok (.getfield 57, 3) := by decide +kernel
theorem dM_tendon_38 : decode bM_tendon 38 = .ok (.iconst 1, 1) := by decide +kernel
theorem dM_tendon_39 : decode bM_tendon 39 = .ok (.iadd, 1) := by decide +kernel
theorem dM_tendon_40 : decode bM_tendon 40 = .ok (.putfield 57, 3) := by decide +kernel
theorem dM_tendon_43 : decode bM_tendon 43 = .ok (.aload_n 0, 1) := by decide +kernel
theorem dM_tendon_44 : decode bM_tendon 44 = .ok (.getfield 57, 3) := by decide +kernel
theorem dM_tendon_47 : decode bM_tendon 47 = .ok (.iconst 1, 1) := by decide +kernel
theorem dM_tendon_48 : decode bM_tendon 48 = .ok (.isub, 1) := by decide +kernel
theorem dM_tendon_49 : decode bM_tendon 49 = .ok (.ireturn, 1) := by decide +kernel
theorem dM_point_0 : decode bM_point 0 = .ok (.aload_n 0, 1) := by decide +kernel
theorem dM_point_1 : decode bM_point 1 = .ok (.iload_n 1, 1) := by decide +kernel
theorem dM_point_2 : decode bM_point 2 = .ok (.invokevirtual 67, 3) := by decide +kernel
theorem dM_point_5 : decode bM_point 5 = .ok (.ifCond .eq 23, 3) := by decide +kernel
theorem dM_point_8 : decode bM_point 8 = .ok (.aload_n 0, 1) := by decide +kernel
theorem dM_point_9 : decode bM_point 9 = .ok (.getfield 16, 3) := by decide +kernel
theorem dM_point_12 : decode bM_point 12 = .ok (.iload_n 1, 1) := by decide +kernel
theorem dM_point_13 : decode bM_point 13 = .ok (.iaload, 1) := by decide +kernel
theorem dM_point_14 : decode bM_point 14 = .ok (.ifCond .gt 14, 3) := by decide +kernel
theorem dM_point_17 : decode bM_point 17 = .ok (.aload_n 0, 1) := by decide +kernel
theorem dM_point_18 : decode bM_point 18 = .ok (.getfield 13, 3) := by decide +kernel
theorem dM_point_21 : decode bM_point 21 = .ok (.iload_n 1, 1) := by decide +kernel
theorem dM_point_22 : decode bM_point 22 = .ok (.iaload, 1) := by decide +kernel
theorem dM_point_23 : decode bM_point 23 = .ok (.bipush 10, 2) := by decide +kernel
theorem dM_point_25 : decode bM_point 25 = .ok (.if_icmp .ne 5, 3) := by decide +kernel
theorem dM_point_28 : decode bM_point 28 = .ok (.iconst (-1), 1) := by decide +kernel
theorem dM_point_29 : decode bM_point 29 = .ok (.ireturn, 1) := by decide +kernel
theorem dM_point_30 : decode bM_point 30 = .ok (.aload_n 0, 1) := by decide +kernel
theorem dM_point_31 : decode bM_point 31 = .ok (.getfield 13, 3) := by decide +kernel
theorem dM_point_34 : decode bM_point 34 = .ok (.iload_n 1, 1) := by decide +kernel
theorem dM_point_35 : decode bM_point 35 = .ok (.iaload, 1) := by decide +kernel
theorem dM_point_36 : decode bM_point 36 = .ok (.istore 4, 2) := by decide +kernel
theorem dM_point_38 : decode bM_point 38 = .ok (.iload_n 2, 1) := by decide +kernel
theorem dM_point_39 : decode bM_point 39 = .ok (.iconst 0, 1) := by decide +kernel
theorem dM_point_40 : decode bM_point 40 = .ok (.ldc 71, 2) := by decide +kernel
theorem dM_point_42 : decode bM_point 42 = .ok (.invokestatic 63, 3) := by decide +kernel
theorem dM_point_45 : decode bM_point 45 = .ok (.ifCond .eq 42, 3) := by decide +kernel
theorem dM_point_48 : decode bM_point 48 = .ok (.iload_n 3, 1) := by decide +kernel
theorem dM_point_49 : decode bM_point 49 = .ok (.sipush (-3000), 3) := by decide +kernel
theorem dM_point_52 : decode bM_point 52 = .ok (.sipush 3000, 3) := by decide +kernel
theorem dM_point_55 : decode bM_point 55 = .ok (.invokestatic 63, 3) := by decide +kernel
theorem dM_point_58 : decode bM_point 58 = .ok (.ifCond .eq 29, 3) := by decide +kernel
theorem dM_point_61 : decode bM_point 61 = .ok (.iload 4, 2) := by decide +kernel
theorem dM_point_63 : decode bM_point 63 = .ok (.ifCond .le 26, 3) := by decide +kernel
theorem dM_point_66 : decode bM_point 66 = .ok (.iload_n 2, 1) := by decide +kernel
theorem dM_point_67 : decode bM_point 67 = .ok (.aload_n 0, 1) := by decide +kernel
theorem dM_point_68 : decode bM_point 68 = .ok (.getfield 25, 3) := by decide +kernel
theorem dM_point_71 : decode bM_point 71 = .ok (.bipush 10, 2) := by decide +kernel
theorem dM_point_73 : decode bM_point 73 = .ok (.iload_n 1, 1) := by decide +kernel
theorem dM_point_74 : decode bM_point 74 = .ok (.imul, 1) := by decide +kernel
theorem dM_point_75 : decode bM_point 75 = .ok (.iload 4, 2) := by decide +kernel
theorem dM_point_77 : decode bM_point 77 = .ok (.iadd, 1) := by decide +kernel
theorem dM_point_78 : decode bM_point 78 = .ok (.iconst 1, 1) := by decide +kernel
theorem dM_point_79 : decode bM_point 79 = .ok (.isub, 1) := by decide +kernel
theorem dM_point_80 : decode bM_point 80 = .ok (.iaload, 1) := by decide +kernel
theorem dM_point_81 : decode bM_point 81 = .ok (.isub, 1) := by decide +kernel
theorem dM_point_82 : decode bM_point 82 = .ok (.bipush 100, 2) := by decide +kernel
theorem dM_point_84 : decode bM_point 84 = .ok (.if_icmp .ge 5, 3) := by decide +kernel
theorem dM_point_87 : decode bM_point 87 = .ok (.iconst (-1), 1) := by decide +kernel
theorem dM_point_88 : decode bM_point 88 = .ok (.ireturn, 1) := by decide +kernel
theorem dM_point_89 : decode bM_point 89 = .ok (.aload_n 0, 1) := by decide +kernel
theorem dM_point_90 : decode bM_point 90 = .ok (.getfield 25, 3) := by decide +kernel
theorem dM_point_93 : decode bM_point 93 = .ok (.bipush 10, 2) := by decide +kernel
theorem dM_point_95 : decode bM_point 95 = .ok (.iload_n 1, 1) := by decide +kernel
theorem dM_point_96 : decode bM_point 96 = .ok (.imul, 1) := by decide +kernel
theorem dM_point_97 : decode bM_point 97 = .ok (.iload 4, 2) := by decide +kernel
theorem dM_point_99 : decode bM_point 99 = .ok (.iadd, 1) := by decide +kernel
theorem dM_point_100 : decode bM_point 100 = .ok (.iload_n 2, 1) := by decide +kernel
theorem dM_point_101 : decode bM_point 101 = .ok (.iastore, 1) := by decide +kernel
theorem dM_point_102 : decode bM_point 102 = .ok (.aload_n 0, 1) := by decide +kernel
theorem dM_point_103 : decode bM_point 103 = .ok (.getfield 28, 3) := by decide +kernel
theorem dM_point_106 : decode bM_point 106 = .ok (.bipush 10, 2) := by decide +kernel
theorem dM_point_108 : decode bM_point 108 = .ok (.iload_n 1, 1) := by decide +kernel
theorem dM_point_109 : decode bM_point 109 = .ok (.imul, 1) := by decide +kernel
theorem dM_point_110 : decode bM_point 110 = .ok (.iload 4, 2) := by decide +kernel
theorem dM_point_112 : decode bM_point 112 = .ok (.iadd, 1) := by decide +kernel
theorem dM_point_113 : decode bM_point 113 = .ok (.iload_n 3, 1) := by decide +kernel
theorem dM_point_114 : decode bM_point 114 = .ok (.iastore, 1) := by decide +kernel
theorem dM_point_115 : decode bM_point 115 = .ok (.aload_n 0, 1) := by decide +kernel
theorem dM_point_116 : decode bM_point 116 = .ok (.getfield 13, 3) := by decide +kernel
theorem dM_point_119 : decode bM_point 119 = .ok (.iload_n 1, 1) := by decide +kernel
theorem dM_point_120 : decode bM_point 120 = .ok (.dup2, 1) := by decide +kernel
theorem dM_point_121 : decode bM_point 121 = .ok (.iaload, 1) := by decide +kernel
theorem dM_point_122 : decode bM_point 122 = .ok (.iconst 1, 1) := by decide +kernel
theorem dM_point_123 : decode bM_point 123 = .ok (.iadd, 1) := by decide +kernel
theorem dM_point_124 : decode bM_point 124 = .ok (.iastore, 1) := by decide +kernel
theorem dM_point_125 : decode bM_point 125 = .ok (.aload_n 0, 1) := by decide +kernel
theorem dM_point_126 : decode bM_point 126 = .ok (.getfield 13, 3) := by decide +kernel
theorem dM_point_129 : decode bM_point 129 = .ok (.iload_n 1, 1) := by decide +kernel
theorem dM_point_130 : decode bM_point 130 = .ok (.iaload, 1) := by decide +kernel
theorem dM_point_131 : decode bM_point 131 = .ok (.ireturn, 1) := by decide +kernel
theorem dM_friction_0 : decode bM_friction 0 = .ok (.iload_n 1, 1) := by decide +kernel
theorem dM_friction_1 : decode bM_friction 1 = .ok (.iconst 0, 1) := by decide +kernel
theorem dM_friction_2 : decode bM_friction 2 = .ok (.sipush 1000, 3) := by decide +kernel
theorem dM_friction_5 : decode bM_friction 5 = .ok (.invokestatic 63, 3) := by decide +kernel
theorem dM_friction_8 : decode bM_friction 8 = .ok (.ifCond .eq 14, 3) := by decide +kernel
theorem dM_friction_11 : decode bM_friction 11 = .ok (.iload_n 2, 1) := by decide +kernel
theorem dM_friction_12 : decode bM_friction 12 = .ok (.iconst 0, 1) := by decide +kernel
theorem dM_friction_13 : decode bM_friction 13 = .ok (.sipush 500, 3) := by decide +kernel
theorem dM_friction_16 : decode bM_friction 16 = .ok (.invokestatic 63, 3) := by decide +kernel
theorem dM_friction_19 : decode bM_friction 19 = .ok (.ifCond .ne 5, 3) := by decide +kernel
theorem dM_friction_22 : decode bM_friction 22 = .ok (.iconst 0, 1) := by decide +kernel
theorem dM_friction_23 : decode bM_friction 23 = .ok (.ireturn, 1) := by decide +kernel
theorem dM_friction_24 : decode bM_friction 24 = .ok (.aload_n 0, 1) := by decide +kernel
theorem dM_friction_25 : decode bM_friction 25 = .ok (.iload_n 1, 1) := by decide +kernel
theorem dM_friction_26 : decode bM_friction 26 = .ok (.putfield 38, 3) := by decide +kernel
theorem dM_friction_29 : decode bM_friction 29 = .ok (.aload_n 0, 1) := by decide +kernel
theorem dM_friction_30 : decode bM_friction 30 = .ok (.iload_n 2, 1) := by decide +kernel
theorem dM_friction_31 : decode bM_friction 31 = .ok (.putfield 42, 3) := by decide +kernel
theorem dM_friction_34 : decode bM_friction 34 = .ok (.iconst 1, 1) := by decide +kernel
theorem dM_friction_35 : decode bM_friction 35 = .ok (.ireturn, 1) := by decide +kernel
theorem dM_losses_0 : decode bM_losses 0 = .ok (.iload_n 1, 1) := by decide +kernel
theorem dM_losses_1 : decode bM_losses 1 = .ok (.iconst 0, 1) := by decide +kernel
theorem dM_losses_2 : decode bM_losses 2 = .ok (.sipush 20000, 3) := by decide +kernel
theorem dM_losses_5 : decode bM_losses 5 = .ok (.invokestatic 63, 3) := by decide +kernel
theorem dM_losses_8 : decode bM_losses 8 = .ok (.ifCond .eq 24, 3) := by decide +kernel
theorem dM_losses_11 : decode bM_losses 11 = .ok (.iload_n 2, 1) := by decide +kernel
theorem dM_losses_12 : decode bM_losses 12 = .ok (.iconst 0, 1) := by decide +kernel
theorem dM_losses_13 : decode bM_losses 13 = .ok (.bipush 100, 2) := by decide +kernel
theorem dM_losses_15 : decode bM_losses 15 = .ok (.invokestatic 63, 3) := by decide +kernel
theorem dM_losses_18 : decode bM_losses 18 = .ok (.ifCond .eq 14, 3) := by decide +kernel
theorem dM_losses_21 : decode bM_losses 21 = .ok (.iload_n 3, 1) := by decide +kernel
theorem dM_losses_22 : decode bM_losses 22 = .ok (.iconst 0, 1) := by decide +kernel
theorem dM_losses_23 : decode bM_losses 23 = .ok (.sipush 1000, 3) := by decide +kernel
theorem dM_losses_26 : decode bM_losses 26 = .ok (.invokestatic 63, 3) := by decide +kernel
theorem dM_losses_29 : decode bM_losses 29 = .ok (.ifCond .ne 5, 3) := by decide +kernel
theorem dM_losses_32 : decode bM_losses 32 = .ok (.iconst 0, 1) := by decide +kernel
theorem dM_losses_33 : decode bM_losses 33 = .ok (.ireturn, 1) := by decide +kernel
theorem dM_losses_34 : decode bM_losses 34 = .ok (.aload_n 0, 1) := by decide +kernel
theorem dM_losses_35 : decode bM_losses 35 = .ok (.iload_n 1, 1) := by decide +kernel
theorem dM_losses_36 : decode bM_losses 36 = .ok (.putfield 72, 3) := by decide +kernel
theorem dM_losses_39 : decode bM_losses 39 = .ok (.aload_n 0, 1) := by decide +kernel
theorem dM_losses_40 : decode bM_losses 40 = .ok (.iload_n 2, 1) := by decide +kernel
theorem dM_losses_41 : decode bM_losses 41 = .ok (.putfield 45, 3) := by decide +kernel
theorem dM_losses_44 : decode bM_losses 44 = .ok (.aload_n 0, 1) := by decide +kernel
theorem dM_losses_45 : decode bM_losses 45 = .ok (.iload_n 3, 1) := by decide +kernel
theorem dM_losses_46 : decode bM_losses 46 = .ok (.putfield 48, 3) := by decide +kernel
theorem dM_losses_49 : decode bM_losses 49 = .ok (.iconst 1, 1) := by decide +kernel
theorem dM_losses_50 : decode bM_losses 50 = .ok (.ireturn, 1) := by decide +kernel
theorem dM_root_0 : decode bM_root 0 = .ok (.lconst 0, 1) := by decide +kernel
theorem dM_root_1 : decode bM_root 1 = .ok (.lstore_n 2, 1) := by decide +kernel
theorem dM_root_2 : decode bM_root 2 = .ok (.ldc2_w 75, 3) := by decide +kernel
theorem dM_root_5 : decode bM_root 5 = .ok (.lstore 4, 2) := by decide +kernel
theorem dM_root_7 : decode bM_root 7 = .ok (.lload_n 2, 1) := by decide +kernel
theorem dM_root_8 : decode bM_root 8 = .ok (.lload 4, 2) := by decide +kernel
theorem dM_root_10 : decode bM_root 10 = .ok (.lcmp, 1) := by decide +kernel
theorem dM_root_11 : decode bM_root 11 = .ok (.ifCond .ge 40, 3) := by decide +kernel
theorem dM_root_14 : decode bM_root 14 = .ok (.lload_n 2, 1) := by decide +kernel
theorem dM_root_15 : decode bM_root 15 = .ok (.lload 4, 2) := by decide +kernel
theorem dM_root_17 : decode bM_root 17 = .ok (.ladd, 1) := by decide +kernel
theorem dM_root_18 : decode bM_root 18 = .ok (.lconst 1, 1) := by decide +kernel
theorem dM_root_19 : decode bM_root 19 = .ok (.ladd, 1) := by decide +kernel
theorem dM_root_20 : decode bM_root 20 = .ok (.ldc2_w 77, 3) := by decide +kernel
theorem dM_root_23 : decode bM_root 23 = .ok (.ldiv, 1) := by decide +kernel
theorem dM_root_24 : decode bM_root 24 = .ok (.lstore 6, 2) := by decide +kernel
theorem dM_root_26 : decode bM_root 26 = .ok (.lload 6, 2) := by decide +kernel
theorem dM_root_28 : decode bM_root 28 = .ok (.lload 6, 2) := by decide +kernel
theorem dM_root_30 : decode bM_root 30 = .ok (.lmul, 1) := by decide +kernel
theorem dM_root_31 : decode bM_root 31 = .ok (.lload_n 0, 1) := by decide +kernel
theorem dM_root_32 : decode bM_root 32 = .ok (.lcmp, 1) := by decide +kernel
theorem dM_root_33 : decode bM_root 33 = .ok (.ifCond .gt 9, 3) := by decide +kernel
theorem dM_root_36 : decode bM_root 36 = .ok (.lload 6, 2) := by decide +kernel
theorem dM_root_38 : decode bM_root 38 = .ok (.lstore_n 2, 1) := by decide +kernel
theorem dM_root_39 : decode bM_root 39 = .ok (.goto 9, 3) := by decide +kernel
theorem dM_root_42 : decode bM_root 42 = .ok (.lload 6, 2) := by decide +kernel
theorem dM_root_44 : decode bM_root 44 = .ok (.lconst 1, 1) := by decide +kernel
theorem dM_root_45 : decode bM_root 45 = .ok (.lsub, 1) := by decide +kernel
theorem dM_root_46 : decode bM_root 46 = .ok (.lstore 4, 2) := by decide +kernel
theorem dM_root_48 : decode bM_root 48 = .ok (.goto (-41), 3) := by decide +kernel
theorem dM_root_51 : decode bM_root 51 = .ok (.lload_n 2, 1) := by decide +kernel
theorem dM_root_52 : decode bM_root 52 = .ok (.lreturn, 1) := by decide +kernel
theorem dM_lengthOf_0 : decode bM_lengthOf 0 = .ok (.aload_n 0, 1) := by decide +kernel
theorem dM_lengthOf_1 : decode bM_lengthOf 1 = .ok (.getfield 25, 3) := by decide +kernel
theorem dM_lengthOf_4 : decode bM_lengthOf 4 = .ok (.bipush 10, 2) := by decide +kernel
theorem dM_lengthOf_6 : decode bM_lengthOf 6 = .ok (.iload_n 1, 1) := by decide +kernel
theorem dM_lengthOf_7 : decode bM_lengthOf 7 = .ok (.imul, 1) := by decide +kernel
theorem dM_lengthOf_8 : decode bM_lengthOf 8 = .ok (.iload_n 2, 1) := by decide +kernel
theorem dM_lengthOf_9 : decode bM_lengthOf 9 = .ok (.iadd, 1) := by decide +kernel
theorem dM_lengthOf_10 : decode bM_lengthOf 10 = .ok (.iconst 1, 1) := by decide +kernel
theorem dM_lengthOf_11 : decode bM_lengthOf 11 = .ok (.iadd, 1) := by decide +kernel
theorem dM_lengthOf_12 : decode bM_lengthOf 12 = .ok (.iaload, 1) := by decide +kernel
theorem dM_lengthOf_13 : decode bM_lengthOf 13 = .ok (.aload_n 0, 1) := by decide +kernel
theorem dM_lengthOf_14 : decode bM_lengthOf 14 = .ok (.getfield 25, 3) := by decide +kernel
theorem dM_lengthOf_17 : decode bM_lengthOf 17 = .ok (.bipush 10, 2) := by decide +kernel
theorem dM_lengthOf_19 : decode bM_lengthOf 19 = .ok (.iload_n 1, 1) := by decide +kernel
theorem dM_lengthOf_20 : decode bM_lengthOf 20 = .ok (.imul, 1) := by decide +kernel
theorem dM_lengthOf_21 : decode bM_lengthOf 21 = .ok (.iload_n 2, 1) := by decide +kernel
theorem dM_lengthOf_22 : decode bM_lengthOf 22 = .ok (.iadd, 1) := by decide +kernel
theorem dM_lengthOf_23 : decode bM_lengthOf 23 = .ok (.iaload, 1) := by decide +kernel
theorem dM_lengthOf_24 : decode bM_lengthOf 24 = .ok (.isub, 1) := by decide +kernel
theorem dM_lengthOf_25 : decode bM_lengthOf 25 = .ok (.i2l, 1) := by decide +kernel
theorem dM_lengthOf_26 : decode bM_lengthOf 26 = .ok (.lstore_n 3, 1) := by decide +kernel
theorem dM_lengthOf_27 : decode bM_lengthOf 27 = .ok (.aload_n 0, 1) := by decide +kernel
theorem dM_lengthOf_28 : decode bM_lengthOf 28 = .ok (.getfield 28, 3) := by decide +kernel
theorem dM_lengthOf_31 : decode bM_lengthOf 31 = .ok (.bipush 10, 2) := by decide +kernel
theorem dM_lengthOf_33 : decode bM_lengthOf 33 = .ok (.iload_n 1, 1) := by decide +kernel
theorem dM_lengthOf_34 : decode bM_lengthOf 34 = .ok (.imul, 1) := by decide +kernel
theorem dM_lengthOf_35 : decode bM_lengthOf 35 = .ok (.iload_n 2, 1) := by decide +kernel
theorem dM_lengthOf_36 : decode bM_lengthOf 36 = .ok (.iadd, 1) := by decide +kernel
theorem dM_lengthOf_37 : decode bM_lengthOf 37 = .ok (.iconst 1, 1) := by decide +kernel
theorem dM_lengthOf_38 : decode bM_lengthOf 38 = .ok (.iadd, 1) := by decide +kernel
theorem dM_lengthOf_39 : decode bM_lengthOf 39 = .ok (.iaload, 1) := by decide +kernel
theorem dM_lengthOf_40 : decode bM_lengthOf 40 = .ok (.aload_n 0, 1) := by decide +kernel
theorem dM_lengthOf_41 : decode bM_lengthOf 41 = .ok (.getfield 28, 3) := by decide +kernel
theorem dM_lengthOf_44 : decode bM_lengthOf 44 = .ok (.bipush 10, 2) := by decide +kernel
theorem dM_lengthOf_46 : decode bM_lengthOf 46 = .ok (.iload_n 1, 1) := by decide +kernel
theorem dM_lengthOf_47 : decode bM_lengthOf 47 = .ok (.imul, 1) := by decide +kernel
theorem dM_lengthOf_48 : decode bM_lengthOf 48 = .ok (.iload_n 2, 1) := by decide +kernel
theorem dM_lengthOf_49 : decode bM_lengthOf 49 = .ok (.iadd, 1) := by decide +kernel
theorem dM_lengthOf_50 : decode bM_lengthOf 50 = .ok (.iaload, 1) := by decide +kernel
theorem dM_lengthOf_51 : decode bM_lengthOf 51 = .ok (.isub, 1) := by decide +kernel
theorem dM_lengthOf_52 : decode bM_lengthOf 52 = .ok (.i2l, 1) := by decide +kernel
theorem dM_lengthOf_53 : decode bM_lengthOf 53 = .ok (.lstore 5, 2) := by decide +kernel
theorem dM_lengthOf_55 : decode bM_lengthOf 55 = .ok (.lload_n 3, 1) := by decide +kernel
theorem dM_lengthOf_56 : decode bM_lengthOf 56 = .ok (.lload_n 3, 1) := by decide +kernel
theorem dM_lengthOf_57 : decode bM_lengthOf 57 = .ok (.lmul, 1) := by decide +kernel
theorem dM_lengthOf_58 : decode bM_lengthOf 58 = .ok (.lload 5, 2) := by decide +kernel
theorem dM_lengthOf_60 : decode bM_lengthOf 60 = .ok (.lload 5, 2) := by decide +kernel
theorem dM_lengthOf_62 : decode bM_lengthOf 62 = .ok (.lmul, 1) := by decide +kernel
theorem dM_lengthOf_63 : decode bM_lengthOf 63 = .ok (.ladd, 1) := by decide +kernel
theorem dM_lengthOf_64 : decode bM_lengthOf 64 = .ok (.invokestatic 79, 3) := by decide +kernel
theorem dM_lengthOf_67 : decode bM_lengthOf 67 = .ok (.lreturn, 1) := by decide +kernel
theorem dM_slopeOf_0 : decode bM_slopeOf 0 = .ok (.aload_n 0, 1) := by decide +kernel
theorem dM_slopeOf_1 : decode bM_slopeOf 1 = .ok (.getfield 25, 3) := by decide +kernel
theorem dM_slopeOf_4 : decode bM_slopeOf 4 = .ok (.bipush 10, 2) := by decide +kernel
theorem dM_slopeOf_6 : decode bM_slopeOf 6 = .ok (.iload_n 1, 1) := by decide +kernel
theorem dM_slopeOf_7 : decode bM_slopeOf 7 = .ok (.imul, 1) := by decide +kernel
theorem dM_slopeOf_8 : decode bM_slopeOf 8 = .ok (.iload_n 2, 1) := by decide +kernel
theorem dM_slopeOf_9 : decode bM_slopeOf 9 = .ok (.iadd, 1) := by decide +kernel
theorem dM_slopeOf_10 : decode bM_slopeOf 10 = .ok (.iconst 1, 1) := by decide +kernel
theorem dM_slopeOf_11 : decode bM_slopeOf 11 = .ok (.iadd, 1) := by decide +kernel
theorem dM_slopeOf_12 : decode bM_slopeOf 12 = .ok (.iaload, 1) := by decide +kernel
theorem dM_slopeOf_13 : decode bM_slopeOf 13 = .ok (.aload_n 0, 1) := by decide +kernel
theorem dM_slopeOf_14 : decode bM_slopeOf 14 = .ok (.getfield 25, 3) := by decide +kernel
theorem dM_slopeOf_17 : decode bM_slopeOf 17 = .ok (.bipush 10, 2) := by decide +kernel
theorem dM_slopeOf_19 : decode bM_slopeOf 19 = .ok (.iload_n 1, 1) := by decide +kernel
theorem dM_slopeOf_20 : decode bM_slopeOf 20 = .ok (.imul, 1) := by decide +kernel
theorem dM_slopeOf_21 : decode bM_slopeOf 21 = .ok (.iload_n 2, 1) := by decide +kernel
theorem dM_slopeOf_22 : decode bM_slopeOf 22 = .ok (.iadd, 1) := by decide +kernel
theorem dM_slopeOf_23 : decode bM_slopeOf 23 = .ok (.iaload, 1) := by decide +kernel
theorem dM_slopeOf_24 : decode bM_slopeOf 24 = .ok (.isub, 1) := by decide +kernel
theorem dM_slopeOf_25 : decode bM_slopeOf 25 = .ok (.istore_n 3, 1) := by decide +kernel
theorem dM_slopeOf_26 : decode bM_slopeOf 26 = .ok (.aload_n 0, 1) := by decide +kernel
theorem dM_slopeOf_27 : decode bM_slopeOf 27 = .ok (.getfield 28, 3) := by decide +kernel
theorem dM_slopeOf_30 : decode bM_slopeOf 30 = .ok (.bipush 10, 2) := by decide +kernel
theorem dM_slopeOf_32 : decode bM_slopeOf 32 = .ok (.iload_n 1, 1) := by decide +kernel
theorem dM_slopeOf_33 : decode bM_slopeOf 33 = .ok (.imul, 1) := by decide +kernel
theorem dM_slopeOf_34 : decode bM_slopeOf 34 = .ok (.iload_n 2, 1) := by decide +kernel
theorem dM_slopeOf_35 : decode bM_slopeOf 35 = .ok (.iadd, 1) := by decide +kernel
theorem dM_slopeOf_36 : decode bM_slopeOf 36 = .ok (.iconst 1, 1) := by decide +kernel
theorem dM_slopeOf_37 : decode bM_slopeOf 37 = .ok (.iadd, 1) := by decide +kernel
theorem dM_slopeOf_38 : decode bM_slopeOf 38 = .ok (.iaload, 1) := by decide +kernel
theorem dM_slopeOf_39 : decode bM_slopeOf 39 = .ok (.aload_n 0, 1) := by decide +kernel
theorem dM_slopeOf_40 : decode bM_slopeOf 40 = .ok (.getfield 28, 3) := by decide +kernel
theorem dM_slopeOf_43 : decode bM_slopeOf 43 = .ok (.bipush 10, 2) := by decide +kernel
theorem dM_slopeOf_45 : decode bM_slopeOf 45 = .ok (.iload_n 1, 1) := by decide +kernel
theorem dM_slopeOf_46 : decode bM_slopeOf 46 = .ok (.imul, 1) := by decide +kernel
theorem dM_slopeOf_47 : decode bM_slopeOf 47 = .ok (.iload_n 2, 1) := by decide +kernel
theorem dM_slopeOf_48 : decode bM_slopeOf 48 = .ok (.iadd, 1) := by decide +kernel
theorem dM_slopeOf_49 : decode bM_slopeOf 49 = .ok (.iaload, 1) := by decide +kernel
theorem dM_slopeOf_50 : decode bM_slopeOf 50 = .ok (.isub, 1) := by decide +kernel
theorem dM_slopeOf_51 : decode bM_slopeOf 51 = .ok (.istore 4, 2) := by decide +kernel
theorem dM_slopeOf_53 : decode bM_slopeOf 53 = .ok (.sipush 1000, 3) := by decide +kernel
theorem dM_slopeOf_56 : decode bM_slopeOf 56 = .ok (.iload 4, 2) := by decide +kernel
theorem dM_slopeOf_58 : decode bM_slopeOf 58 = .ok (.imul, 1) := by decide +kernel
theorem dM_slopeOf_59 : decode bM_slopeOf 59 = .ok (.iload_n 3, 1) := by decide +kernel
theorem dM_slopeOf_60 : decode bM_slopeOf 60 = .ok (.idiv, 1) := by decide +kernel
theorem dM_slopeOf_61 : decode bM_slopeOf 61 = .ok (.ireturn, 1) := by decide +kernel
theorem dM_turnOf_0 : decode bM_turnOf 0 = .ok (.iload_n 2, 1) := by decide +kernel
theorem dM_turnOf_1 : decode bM_turnOf 1 = .ok (.ifCond .eq 15, 3) := by decide +kernel
theorem dM_turnOf_4 : decode bM_turnOf 4 = .ok (.iload_n 2, 1) := by decide +kernel
theorem dM_turnOf_5 : decode bM_turnOf 5 = .ok (.aload_n 0, 1) := by decide +kernel
theorem dM_turnOf_6 : decode bM_turnOf 6 = .ok (.getfield 13, 3) := by decide +kernel
theorem dM_turnOf_9 : decode bM_turnOf 9 = .ok (.iload_n 1, 1) := by decide +kernel
theorem dM_turnOf_10 : decode bM_turnOf 10 = .ok (.iaload, 1) := by decide +kernel
theorem dM_turnOf_11 : decode bM_turnOf 11 = .ok (.iconst 1, 1) := by decide +kernel
theorem dM_turnOf_12 : decode bM_turnOf 12 = .ok (.isub, 1) := by decide +kernel
theorem dM_turnOf_13 : decode bM_turnOf 13 = .ok (.if_icmp .ne 5, 3) := by decide +kernel
theorem dM_turnOf_16 : decode bM_turnOf 16 = .ok (.iconst 0, 1) := by decide +kernel
theorem dM_turnOf_17 : decode bM_turnOf 17 = .ok (.ireturn, 1) := by decide +kernel
theorem dM_turnOf_18 : decode bM_turnOf 18 = .ok (.aload_n 0, 1) := by decide +kernel
theorem dM_turnOf_19 : decode bM_turnOf 19 = .ok (.iload_n 1, 1) := by decide +kernel
theorem dM_turnOf_20 : decode bM_turnOf 20 = .ok (.iload_n 2, 1) := by decide +kernel
theorem dM_turnOf_21 : decode bM_turnOf 21 = .ok (.invokevirtual 83, 3) := by decide +kernel
theorem dM_turnOf_24 : decode bM_turnOf 24 = .ok (.aload_n 0, 1) := by decide +kernel
theorem dM_turnOf_25 : decode bM_turnOf 25 = .ok (.iload_n 1, 1) := by decide +kernel
theorem dM_turnOf_26 : decode bM_turnOf 26 = .ok (.iload_n 2, 1) := by decide +kernel
theorem dM_turnOf_27 : decode bM_turnOf 27 = .ok (.iconst 1, 1) := by decide +kernel
theorem dM_turnOf_28 : decode bM_turnOf 28 = .ok (.isub, 1) := by decide +kernel
