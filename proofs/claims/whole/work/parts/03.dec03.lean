theorem dX4_smallestTeam_55 : decode cX4_smallestTeam 55 = .ok (.ifCond .eq 5, 3) := by decide +kernel
theorem dX4_smallestTeam_58 : decode cX4_smallestTeam 58 = .ok (.iload_n 3, 1) := by decide +kernel
theorem dX4_smallestTeam_59 : decode cX4_smallestTeam 59 = .ok (.istore_n 2, 1) := by decide +kernel
theorem dX4_smallestTeam_60 : decode cX4_smallestTeam 60 = .ok (.iinc 3 1, 3) := by decide +kernel
theorem dX4_smallestTeam_63 : decode cX4_smallestTeam 63 = .ok (.goto (-54), 3) := by decide +kernel
theorem dX4_smallestTeam_66 : decode cX4_smallestTeam 66 = .ok (.iload_n 2, 1) := by decide +kernel
theorem dX4_smallestTeam_67 : decode cX4_smallestTeam 67 = .ok (.ireturn, 1) := by decide +kernel
theorem dX4_isEnough_0 : decode cX4_isEnough 0 = .ok (.iload_n 1, 1) := by decide +kernel
theorem dX4_isEnough_1 : decode cX4_isEnough 1 = .ok (.bipush 8, 2) := by decide +kernel
theorem dX4_isEnough_3 : decode cX4_isEnough 3 = .ok (.ishl, 1) := by decide +kernel
theorem dX4_isEnough_4 : decode cX4_isEnough 4 = .ok (.aload_n 0, 1) := by decide +kernel
theorem dX4_isEnough_5 : decode cX4_isEnough 5 = .ok (.getfield 18, 3) := by decide +kernel
theorem dX4_isEnough_8 : decode cX4_isEnough 8 = .ok (.ior, 1) := by decide +kernel
theorem dX4_isEnough_9 : decode cX4_isEnough 9 = .ok (.istore_n 2, 1) := by decide +kernel
theorem dX4_isEnough_10 : decode cX4_isEnough 10 = .ok (.iconst 1, 1) := by decide +kernel
theorem dX4_isEnough_11 : decode cX4_isEnough 11 = .ok (.istore_n 3, 1) := by decide +kernel
theorem dX4_isEnough_12 : decode cX4_isEnough 12 = .ok (.iload_n 3, 1) := by decide +kernel
theorem dX4_isEnough_13 : decode cX4_isEnough 13 = .ok (.aload_n 0, 1) := by decide +kernel
theorem dX4_isEnough_14 : decode cX4_isEnough 14 = .ok (.getfield 18, 3) := by decide +kernel
theorem dX4_isEnough_17 : decode cX4_isEnough 17 = .ok (.if_icmp .gt 40, 3) := by decide +kernel
theorem dX4_isEnough_20 : decode cX4_isEnough 20 = .ok (.iload_n 3, 1) := by decide +kernel
theorem dX4_isEnough_21 : decode cX4_isEnough 21 = .ok (.aload_n 0, 1) := by decide +kernel
theorem dX4_isEnough_22 : decode cX4_isEnough 22 = .ok (.getfield 18, 3) := by decide +kernel
theorem dX4_isEnough_25 : decode cX4_isEnough 25 = .ok (.iconst (-1), 1) := by decide +kernel
theorem dX4_isEnough_26 : decode cX4_isEnough 26 = .ok (.ixor, 1) := by decide +kernel
theorem dX4_isEnough_27 : decode cX4_isEnough 27 = .ok (.iand, 1) := by decide +kernel
theorem dX4_isEnough_28 : decode cX4_isEnough 28 = .ok (.ifCond .ne 23, 3) := by decide +kernel
theorem dX4_isEnough_31 : decode cX4_isEnough 31 = .ok (.aload_n 0, 1) := by decide +kernel
theorem dX4_isEnough_32 : decode cX4_isEnough 32 = .ok (.getfield 15, 3) := by decide +kernel
theorem dX4_isEnough_35 : decode cX4_isEnough 35 = .ok (.iload_n 3, 1) := by decide +kernel
theorem dX4_isEnough_36 : decode cX4_isEnough 36 = .ok (.iaload, 1) := by decide +kernel
theorem dX4_isEnough_37 : decode cX4_isEnough 37 = .ok (.iload_n 2, 1) := by decide +kernel
theorem dX4_isEnough_38 : decode cX4_isEnough 38 = .ok (.iand, 1) := by decide +kernel
theorem dX4_isEnough_39 : decode cX4_isEnough 39 = .ok (.invokestatic 71, 3) := by decide +kernel
theorem dX4_isEnough_42 : decode cX4_isEnough 42 = .ok (.iload_n 3, 1) := by decide +kernel
theorem dX4_isEnough_43 : decode cX4_isEnough 43 = .ok (.invokestatic 71, 3) := by decide +kernel
theorem dX4_isEnough_46 : decode cX4_isEnough 46 = .ok (.if_icmp .ge 5, 3) := by decide +kernel
theorem dX4_isEnough_49 : decode cX4_isEnough 49 = .ok (.iconst 0, 1) := by decide +kernel
theorem dX4_isEnough_50 : decode cX4_isEnough 50 = .ok (.ireturn, 1) := by decide +kernel
theorem dX4_isEnough_51 : decode cX4_isEnough 51 = .ok (.iinc 3 1, 3) := by decide +kernel
theorem dX4_isEnough_54 : decode cX4_isEnough 54 = .ok (.goto (-42), 3) := by decide +kernel
theorem dX4_isEnough_57 : decode cX4_isEnough 57 = .ok (.iconst 1, 1) := by decide +kernel
theorem dX4_isEnough_58 : decode cX4_isEnough 58 = .ok (.ireturn, 1) := by decide +kernel
theorem dX4_gatherReached_0 : decode cX4_gatherReached 0 = .ok (.aload_n 0, 1) := by decide +kernel
theorem dX4_gatherReached_1 : decode cX4_gatherReached 1 = .ok (.getfield 15, 3) := by decide +kernel
theorem dX4_gatherReached_4 : decode cX4_gatherReached 4 = .ok (.iconst 0, 1) := by decide +kernel
theorem dX4_gatherReached_5 : decode cX4_gatherReached 5 = .ok (.iconst 0, 1) := by decide +kernel
theorem dX4_gatherReached_6 : decode cX4_gatherReached 6 = .ok (.iastore, 1) := by decide +kernel
theorem dX4_gatherReached_7 : decode cX4_gatherReached 7 = .ok (.iconst 0, 1) := by decide +kernel
theorem dX4_gatherReached_8 : decode cX4_gatherReached 8 = .ok (.istore_n 2, 1) := by decide +kernel
theorem dX4_gatherReached_9 : decode cX4_gatherReached 9 = .ok (.iload_n 2, 1) := by decide +kernel
theorem dX4_gatherReached_10 : decode cX4_gatherReached 10 = .ok (.aload_n 0, 1) := by decide +kernel
theorem dX4_gatherReached_11 : decode cX4_gatherReached 11 = .ok (.getfield 22, 3) := by decide +kernel
theorem dX4_gatherReached_14 : decode cX4_gatherReached 14 = .ok (.if_icmp .ge 28, 3) := by decide +kernel
theorem dX4_gatherReached_17 : decode cX4_gatherReached 17 = .ok (.aload_n 0, 1) := by decide +kernel
theorem dX4_gatherReached_18 : decode cX4_gatherReached 18 = .ok (.getfield 15, 3) := by decide +kernel
theorem dX4_gatherReached_21 : decode cX4_gatherReached 21 = .ok (.iconst 1, 1) := by decide +kernel
theorem dX4_gatherReached_22 : decode cX4_gatherReached 22 = .ok (.aload_n 0, 1) := by decide +kernel
theorem dX4_gatherReached_23 : decode cX4_gatherReached 23 = .ok (.getfield 11, 3) := by decide +kernel
theorem dX4_gatherReached_26 : decode cX4_gatherReached 26 = .ok (.iload_n 2, 1) := by decide +kernel
theorem dX4_gatherReached_27 : decode cX4_gatherReached 27 = .ok (.iaload, 1) := by decide +kernel
theorem dX4_gatherReached_28 : decode cX4_gatherReached 28 = .ok (.ishl, 1) := by decide +kernel
theorem dX4_gatherReached_29 : decode cX4_gatherReached 29 = .ok (.aload_n 0, 1) := by decide +kernel
theorem dX4_gatherReached_30 : decode cX4_gatherReached 30 = .ok (.aload_n 1, 1) := by decide +kernel
theorem dX4_gatherReached_31 : decode cX4_gatherReached 31 = .ok (.iload_n 2, 1) := by decide +kernel
theorem dX4_gatherReached_32 : decode cX4_gatherReached 32 = .ok (.invokevirtual 87, 3) := by decide +kernel
theorem dX4_gatherReached_35 : decode cX4_gatherReached 35 = .ok (.iastore, 1) := by decide +kernel
theorem dX4_gatherReached_36 : decode cX4_gatherReached 36 = .ok (.iinc 2 1, 3) := by decide +kernel
theorem dX4_gatherReached_39 : decode cX4_gatherReached 39 = .ok (.goto (-30), 3) := by decide +kernel
theorem dX4_gatherReached_42 : decode cX4_gatherReached 42 = .ok (.iconst 1, 1) := by decide +kernel
theorem dX4_gatherReached_43 : decode cX4_gatherReached 43 = .ok (.istore_n 2, 1) := by decide +kernel
theorem dX4_gatherReached_44 : decode cX4_gatherReached 44 = .ok (.iload_n 2, 1) := by decide +kernel
theorem dX4_gatherReached_45 : decode cX4_gatherReached 45 = .ok (.aload_n 0, 1) := by decide +kernel
theorem dX4_gatherReached_46 : decode cX4_gatherReached 46 = .ok (.getfield 18, 3) := by decide +kernel
theorem dX4_gatherReached_49 : decode cX4_gatherReached 49 = .ok (.if_icmp .gt 46, 3) := by decide +kernel
theorem dX4_gatherReached_52 : decode cX4_gatherReached 52 = .ok (.iload_n 2, 1) := by decide +kernel
theorem dX4_gatherReached_53 : decode cX4_gatherReached 53 = .ok (.iload_n 2, 1) := by decide +kernel
theorem dX4_gatherReached_54 : decode cX4_gatherReached 54 = .ok (.ineg, 1) := by decide +kernel
theorem dX4_gatherReached_55 : decode cX4_gatherReached 55 = .ok (.iand, 1) := by decide +kernel
theorem dX4_gatherReached_56 : decode cX4_gatherReached 56 = .ok (.istore_n 3, 1) := by decide +kernel
theorem dX4_gatherReached_57 : decode cX4_gatherReached 57 = .ok (.iload_n 2, 1) := by decide +kernel
theorem dX4_gatherReached_58 : decode cX4_gatherReached 58 = .ok (.aload_n 0, 1) := by decide +kernel
theorem dX4_gatherReached_59 : decode cX4_gatherReached 59 = .ok (.getfield 18, 3) := by decide +kernel
theorem dX4_gatherReached_62 : decode cX4_gatherReached 62 = .ok (.iconst (-1), 1) := by decide +kernel
theorem dX4_gatherReached_63 : decode cX4_gatherReached 63 = .ok (.ixor, 1) := by decide +kernel
theorem dX4_gatherReached_64 : decode cX4_gatherReached 64 = .ok (.iand, 1) := by decide +kernel
theorem dX4_gatherReached_65 : decode cX4_gatherReached 65 = .ok (.ifCond .ne 24, 3) := by decide +kernel
theorem dX4_gatherReached_68 : decode cX4_gatherReached 68 = .ok (.aload_n 0, 1) := by decide +kernel
theorem dX4_gatherReached_69 : decode cX4_gatherReached 69 = .ok (.getfield 15, 3) := by decide +kernel
theorem dX4_gatherReached_72 : decode cX4_gatherReached 72 = .ok (.iload_n 2, 1) := by decide +kernel
theorem dX4_gatherReached_73 : decode cX4_gatherReached 73 = .ok (.aload_n 0, 1) := by decide +kernel
theorem dX4_gatherReached_74 : decode cX4_gatherReached 74 = .ok (.getfield 15, 3) := by decide +kernel
theorem dX4_gatherReached_77 : decode cX4_gatherReached 77 = .ok (.iload_n 3, 1) := by decide +kernel
theorem dX4_gatherReached_78 : decode cX4_gatherReached 78 = .ok (.iaload, 1) := by decide +kernel
theorem dX4_gatherReached_79 : decode cX4_gatherReached 79 = .ok (.aload_n 0, 1) := by decide +kernel
theorem dX4_gatherReached_80 : decode cX4_gatherReached 80 = .ok (.getfield 15, 3) := by decide +kernel
theorem dX4_gatherReached_83 : decode cX4_gatherReached 83 = .ok (.iload_n 2, 1) := by decide +kernel
theorem dX4_gatherReached_84 : decode cX4_gatherReached 84 = .ok (.iload_n 3, 1) := by decide +kernel
theorem dX4_gatherReached_85 : decode cX4_gatherReached 85 = .ok (.isub, 1) := by decide +kernel
theorem dX4_gatherReached_86 : decode cX4_gatherReached 86 = .ok (.iaload, 1) := by decide +kernel
theorem dX4_gatherReached_87 : decode cX4_gatherReached 87 = .ok (.ior, 1) := by decide +kernel
theorem dX4_gatherReached_88 : decode cX4_gatherReached 88 = .ok (.iastore, 1) := by decide +kernel
theorem dX4_gatherReached_89 : decode cX4_gatherReached 89 = .ok (.iinc 2 1, 3) := by decide +kernel
theorem dX4_gatherReached_92 : decode cX4_gatherReached 92 = .ok (.goto (-48), 3) := by decide +kernel
theorem dX4_gatherReached_95 : decode cX4_gatherReached 95 = .ok (.return_, 1) := by decide +kernel
theorem dX4_comesFrom_0 : decode cX4_comesFrom 0 = .ok (.aload_n 0, 1) := by decide +kernel
theorem dX4_comesFrom_1 : decode cX4_comesFrom 1 = .ok (.getfield 11, 3) := by decide +kernel
theorem dX4_comesFrom_4 : decode cX4_comesFrom 4 = .ok (.iload_n 2, 1) := by decide +kernel
theorem dX4_comesFrom_5 : decode cX4_comesFrom 5 = .ok (.iaload, 1) := by decide +kernel
theorem dX4_comesFrom_6 : decode cX4_comesFrom 6 = .ok (.istore_n 3, 1) := by decide +kernel
theorem dX4_comesFrom_7 : decode cX4_comesFrom 7 = .ok (.iconst 0, 1) := by decide +kernel
theorem dX4_comesFrom_8 : decode cX4_comesFrom 8 = .ok (.istore 4, 2) := by decide +kernel
theorem dX4_comesFrom_10 : decode cX4_comesFrom 10 = .ok (.iconst 0, 1) := by decide +kernel
theorem dX4_comesFrom_11 : decode cX4_comesFrom 11 = .ok (.istore 5, 2) := by decide +kernel
theorem dX4_comesFrom_13 : decode cX4_comesFrom 13 = .ok (.iload 5, 2) := by decide +kernel
theorem dX4_comesFrom_15 : decode cX4_comesFrom 15 = .ok (.iload_n 2, 1) := by decide +kernel
theorem dX4_comesFrom_16 : decode cX4_comesFrom 16 = .ok (.if_icmp .ge 59, 3) := by decide +kernel
theorem dX4_comesFrom_19 : decode cX4_comesFrom 19 = .ok (.aload_n 0, 1) := by decide +kernel
theorem dX4_comesFrom_20 : decode cX4_comesFrom 20 = .ok (.getfield 11, 3) := by decide +kernel
theorem dX4_comesFrom_23 : decode cX4_comesFrom 23 = .ok (.iload 5, 2) := by decide +kernel
theorem dX4_comesFrom_25 : decode cX4_comesFrom 25 = .ok (.iaload, 1) := by decide +kernel
theorem dX4_comesFrom_26 : decode cX4_comesFrom 26 = .ok (.istore 6, 2) := by decide +kernel
theorem dX4_comesFrom_28 : decode cX4_comesFrom 28 = .ok (.aload_n 1, 1) := by decide +kernel
theorem dX4_comesFrom_29 : decode cX4_comesFrom 29 = .ok (.getfield 25, 3) := by decide +kernel
theorem dX4_comesFrom_32 : decode cX4_comesFrom 32 = .ok (.iload 6, 2) := by decide +kernel
theorem dX4_comesFrom_34 : decode cX4_comesFrom 34 = .ok (.iconst 0, 1) := by decide +kernel
theorem dX4_comesFrom_35 : decode cX4_comesFrom 35 = .ok (.invokevirtual 36, 3) := by decide +kernel
theorem dX4_comesFrom_38 : decode cX4_comesFrom 38 = .ok (.istore 7, 2) := by decide +kernel
theorem dX4_comesFrom_40 : decode cX4_comesFrom 40 = .ok (.aload_n 1, 1) := by decide +kernel
theorem dX4_comesFrom_41 : decode cX4_comesFrom 41 = .ok (.iload 7, 2) := by decide +kernel
theorem dX4_comesFrom_43 : decode cX4_comesFrom 43 = .ok (.aload_n 1, 1) := by decide +kernel
theorem dX4_comesFrom_44 : decode cX4_comesFrom 44 = .ok (.getfield 25, 3) := by decide +kernel
theorem dX4_comesFrom_47 : decode cX4_comesFrom 47 = .ok (.iload 6, 2) := by decide +kernel
theorem dX4_comesFrom_49 : decode cX4_comesFrom 49 = .ok (.iconst 1, 1) := by decide +kernel
theorem dX4_comesFrom_50 : decode cX4_comesFrom 50 = .ok (.invokevirtual 36, 3) := by decide +kernel
theorem dX4_comesFrom_53 : decode cX4_comesFrom 53 = .ok (.iload_n 3, 1) := by decide +kernel
theorem dX4_comesFrom_54 : decode cX4_comesFrom 54 = .ok (.invokestatic 63, 3) := by decide +kernel
theorem dX4_comesFrom_57 : decode cX4_comesFrom 57 = .ok (.ifCond .eq 12, 3) := by decide +kernel
theorem dX4_comesFrom_60 : decode cX4_comesFrom 60 = .ok (.iload 4, 2) := by decide +kernel
theorem dX4_comesFrom_62 : decode cX4_comesFrom 62 = .ok (.iconst 1, 1) := by decide +kernel
theorem dX4_comesFrom_63 : decode cX4_comesFrom 63 = .ok (.iload 6, 2) := by decide +kernel
theorem dX4_comesFrom_65 : decode cX4_comesFrom 65 = .ok (.ishl, 1) := by decide +kernel
theorem dX4_comesFrom_66 : decode cX4_comesFrom 66 = .ok (.ior, 1) := by decide +kernel
theorem dX4_comesFrom_67 : decode cX4_comesFrom 67 = .ok (.istore 4, 2) := by decide +kernel
theorem dX4_comesFrom_69 : decode cX4_comesFrom 69 = .ok (.iinc 5 1, 3) := by decide +kernel
theorem dX4_comesFrom_72 : decode cX4_comesFrom 72 = .ok (.goto (-59), 3) := by decide +kernel
theorem dX4_comesFrom_75 : decode cX4_comesFrom 75 = .ok (.iconst 0, 1) := by decide +kernel
theorem dX4_comesFrom_76 : decode cX4_comesFrom 76 = .ok (.istore 5, 2) := by decide +kernel
theorem dX4_comesFrom_78 : decode cX4_comesFrom 78 = .ok (.iload 5, 2) := by decide +kernel
theorem dX4_comesFrom_80 : decode cX4_comesFrom 80 = .ok (.aload_n 1, 1) := by decide +kernel
theorem dX4_comesFrom_81 : decode cX4_comesFrom 81 = .ok (.getfield 47, 3) := by decide +kernel
theorem dX4_comesFrom_84 : decode cX4_comesFrom 84 = .ok (.getfield 31, 3) := by decide +kernel
theorem dX4_comesFrom_87 : decode cX4_comesFrom 87 = .ok (.if_icmp .ge 45, 3) := by decide +kernel
theorem dX4_comesFrom_90 : decode cX4_comesFrom 90 = .ok (.aload_n 1, 1) := by decide +kernel
theorem dX4_comesFrom_91 : decode cX4_comesFrom 91 = .ok (.aload_n 1, 1) := by decide +kernel
theorem dX4_comesFrom_92 : decode cX4_comesFrom 92 = .ok (.getfield 47, 3) := by decide +kernel
theorem dX4_comesFrom_95 : decode cX4_comesFrom 95 = .ok (.iload 5, 2) := by decide +kernel
theorem dX4_comesFrom_97 : decode cX4_comesFrom 97 = .ok (.iconst 0, 1) := by decide +kernel
theorem dX4_comesFrom_98 : decode cX4_comesFrom 98 = .ok (.invokevirtual 36, 3) := by decide +kernel
theorem dX4_comesFrom_101 : decode cX4_comesFrom 101 = .ok (.aload_n 1, 1) := by decide +kernel
theorem dX4_comesFrom_102 : decode cX4_comesFrom 102 = .ok (.iload 5, 2) := by decide +kernel
theorem dX4_comesFrom_104 : decode cX4_comesFrom 104 = .ok (.invokestatic 59, 3) := by decide +kernel
theorem dX4_comesFrom_107 : decode cX4_comesFrom 107 = .ok (.iload_n 3, 1) := by decide +kernel
theorem dX4_comesFrom_108 : decode cX4_comesFrom 108 = .ok (.invokestatic 63, 3) := by decide +kernel
theorem dX4_comesFrom_111 : decode cX4_comesFrom 111 = .ok (.ifCond .eq 15, 3) := by decide +kernel
theorem dX4_comesFrom_114 : decode cX4_comesFrom 114 = .ok (.iload 4, 2) := by decide +kernel
theorem dX4_comesFrom_116 : decode cX4_comesFrom 116 = .ok (.iconst 1, 1) := by decide +kernel
theorem dX4_comesFrom_117 : decode cX4_comesFrom 117 = .ok (.bipush 8, 2) := by decide +kernel
theorem dX4_comesFrom_119 : decode cX4_comesFrom 119 = .ok (.iload 5, 2) := by decide +kernel
theorem dX4_comesFrom_121 : decode cX4_comesFrom 121 = .ok (.iadd, 1) := by decide +kernel
theorem dX4_comesFrom_122 : decode cX4_comesFrom 122 = .ok (.ishl, 1) := by decide +kernel
theorem dX4_comesFrom_123 : decode cX4_comesFrom 123 = .ok (.ior, 1) := by decide +kernel
theorem dX4_comesFrom_124 : decode cX4_comesFrom 124 = .ok (.istore 4, 2) := by decide +kernel
theorem dX4_comesFrom_126 : decode cX4_comesFrom 126 = .ok (.iinc 5 1, 3) := by decide +kernel
theorem dX4_comesFrom_129 : decode cX4_comesFrom 129 = .ok (.goto (-51), 3) := by decide +kernel
theorem dX4_comesFrom_132 : decode cX4_comesFrom 132 = .ok (.iload 4, 2) := by decide +kernel
theorem dX4_comesFrom_134 : decode cX4_comesFrom 134 = .ok (.ireturn, 1) := by decide +kernel
theorem dX5_init_0 : decode cX5_init 0 = .ok (.aload_n 0, 1) := by decide +kernel
theorem dX5_init_1 : decode cX5_init 1 = .ok (.invokespecial 3, 3) := by decide +kernel
theorem dX5_init_4 : decode cX5_init 4 = .ok (.aload_n 0, 1) := by decide +kernel
theorem dX5_init_5 : decode cX5_init 5 = .ok (.sipush 4096, 3) := by decide +kernel
theorem dX5_init_8 : decode cX5_init 8 = .ok (.newarray .int, 2) := by decide +kernel
theorem dX5_init_10 : decode cX5_init 10 = .ok (.putfield 13, 3) := by decide +kernel
theorem dX5_init_13 : decode cX5_init 13 = .ok (.return_, 1) := by decide +kernel
theorem dX5_greatestBut_0 : decode cX5_greatestBut 0 = .ok (.iconst 0, 1) := by decide +kernel
theorem dX5_greatestBut_1 : decode cX5_greatestBut 1 = .ok (.istore_n 3, 1) := by decide +kernel
theorem dX5_greatestBut_2 : decode cX5_greatestBut 2 = .ok (.iconst 0, 1) := by decide +kernel
theorem dX5_greatestBut_3 : decode cX5_greatestBut 3 = .ok (.istore 4, 2) := by decide +kernel
theorem dX5_greatestBut_5 : decode cX5_greatestBut 5 = .ok (.iload 4, 2) := by decide +kernel
theorem dX5_greatestBut_7 : decode cX5_greatestBut 7 = .ok (.aload_n 1, 1) := by decide +kernel
theorem dX5_greatestBut_8 : decode cX5_greatestBut 8 = .ok (.getfield 17, 3) := by decide +kernel
theorem dX5_greatestBut_11 : decode cX5_greatestBut 11 = .ok (.getfield 23, 3) := by decide +kernel
theorem dX5_greatestBut_14 : decode cX5_greatestBut 14 = .ok (.if_icmp .ge 47, 3) := by decide +kernel
theorem dX5_greatestBut_17 : decode cX5_greatestBut 17 = .ok (.aload_n 1, 1) := by decide +kernel
theorem dX5_greatestBut_18 : decode cX5_greatestBut 18 = .ok (.iload 4, 2) := by decide +kernel
theorem dX5_greatestBut_20 : decode cX5_greatestBut 20 = .ok (.invokevirtual 29, 3) := by decide +kernel
theorem dX5_greatestBut_23 : decode cX5_greatestBut 23 = .ok (.ifCond .eq 32, 3) := by decide +kernel
theorem dX5_greatestBut_26 : decode cX5_greatestBut 26 = .ok (.aload_n 1, 1) := by decide +kernel
theorem dX5_greatestBut_27 : decode cX5_greatestBut 27 = .ok (.getfield 17, 3) := by decide +kernel
theorem dX5_greatestBut_30 : decode cX5_greatestBut 30 = .ok (.iload 4, 2) := by decide +kernel
theorem dX5_greatestBut_32 : decode cX5_greatestBut 32 = .ok (.iconst 0, 1) := by decide +kernel
theorem dX5_greatestBut_33 : decode cX5_greatestBut 33 = .ok (.invokevirtual 33, 3) := by decide +kernel
theorem dX5_greatestBut_36 : decode cX5_greatestBut 36 = .ok (.iload_n 2, 1) := by decide +kernel
theorem dX5_greatestBut_37 : decode cX5_greatestBut 37 = .ok (.if_icmp .eq 18, 3) := by decide +kernel
theorem dX5_greatestBut_40 : decode cX5_greatestBut 40 = .ok (.iload_n 3, 1) := by decide +kernel
theorem dX5_greatestBut_41 : decode cX5_greatestBut 41 = .ok (.aload_n 1, 1) := by decide +kernel
theorem dX5_greatestBut_42 : decode cX5_greatestBut 42 = .ok (.getfield 17, 3) := by decide +kernel
theorem dX5_greatestBut_45 : decode cX5_greatestBut 45 = .ok (.iload 4, 2) := by decide +kernel
theorem dX5_greatestBut_47 : decode cX5_greatestBut 47 = .ok (.iconst 2, 1) := by decide +kernel
theorem dX5_greatestBut_48 : decode cX5_greatestBut 48 = .ok (.invokevirtual 33, 3) := by decide +kernel
theorem dX5_greatestBut_51 : decode cX5_greatestBut 51 = .ok (.invokestatic 37, 3) := by decide +kernel
theorem dX5_greatestBut_54 : decode cX5_greatestBut 54 = .ok (.istore_n 3, 1) := by decide +kernel
theorem dX5_greatestBut_55 : decode cX5_greatestBut 55 = .ok (.iinc 4 1, 3) := by decide +kernel
theorem dX5_greatestBut_58 : decode cX5_greatestBut 58 = .ok (.goto (-53), 3) := by decide +kernel
theorem dX5_greatestBut_61 : decode cX5_greatestBut 61 = .ok (.iload_n 3, 1) := by decide +kernel
theorem dX5_greatestBut_62 : decode cX5_greatestBut 62 = .ok (.ireturn, 1) := by decide +kernel
theorem dX5_bestPost_0 : decode cX5_bestPost 0 = .ok (.iconst (-1), 1) := by decide +kernel
theorem dX5_bestPost_1 : decode cX5_bestPost 1 = .ok (.istore_n 2, 1) := by decide +kernel
theorem dX5_bestPost_2 : decode cX5_bestPost 2 = .ok (.iconst 0, 1) := by decide +kernel
theorem dX5_bestPost_3 : decode cX5_bestPost 3 = .ok (.istore_n 3, 1) := by decide +kernel
theorem dX5_bestPost_4 : decode cX5_bestPost 4 = .ok (.iconst 0, 1) := by decide +kernel
theorem dX5_bestPost_5 : decode cX5_bestPost 5 = .ok (.istore 4, 2) := by decide +kernel
theorem dX5_bestPost_7 : decode cX5_bestPost 7 = .ok (.iload 4, 2) := by decide +kernel
theorem dX5_bestPost_9 : decode cX5_bestPost 9 = .ok (.aload_n 1, 1) := by decide +kernel
theorem dX5_bestPost_10 : decode cX5_bestPost 10 = .ok (.getfield 42, 3) := by decide +kernel
theorem dX5_bestPost_13 : decode cX5_bestPost 13 = .ok (.getfield 46, 3) := by decide +kernel
theorem dX5_bestPost_16 : decode cX5_bestPost 16 = .ok (.if_icmp .ge 35, 3) := by decide +kernel
theorem dX5_bestPost_19 : decode cX5_bestPost 19 = .ok (.aload_n 0, 1) := by decide +kernel
theorem dX5_bestPost_20 : decode cX5_bestPost 20 = .ok (.aload_n 1, 1) := by decide +kernel
theorem dX5_bestPost_21 : decode cX5_bestPost 21 = .ok (.iload 4, 2) := by decide +kernel
theorem dX5_bestPost_23 : decode cX5_bestPost 23 = .ok (.invokevirtual 49, 3) := by decide +kernel
theorem dX5_bestPost_26 : decode cX5_bestPost 26 = .ok (.istore 5, 2) := by decide +kernel
theorem dX5_bestPost_28 : decode cX5_bestPost 28 = .ok (.iload_n 2, 1) := by decide +kernel
theorem dX5_bestPost_29 : decode cX5_bestPost 29 = .ok (.iconst (-1), 1) := by decide +kernel
theorem dX5_bestPost_30 : decode cX5_bestPost 30 = .ok (.if_icmp .eq 9, 3) := by decide +kernel
theorem dX5_bestPost_33 : decode cX5_bestPost 33 = .ok (.iload 5, 2) := by decide +kernel
theorem dX5_bestPost_35 : decode cX5_bestPost 35 = .ok (.iload_n 3, 1) := by decide +kernel
theorem dX5_bestPost_36 : decode cX5_bestPost 36 = .ok (.if_icmp .ge 9, 3) := by decide +kernel
theorem dX5_bestPost_39 : decode cX5_bestPost 39 = .ok (.iload 4, 2) := by decide +kernel
theorem dX5_bestPost_41 : decode cX5_bestPost 41 = .ok (.istore_n 2, 1) := by decide +kernel
theorem dX5_bestPost_42 : decode cX5_bestPost 42 = .ok (.iload 5, 2) := by decide +kernel
theorem dX5_bestPost_44 : decode cX5_bestPost 44 = .ok (.istore_n 3, 1) := by decide +kernel
theorem dX5_bestPost_45 : decode cX5_bestPost 45 = .ok (.iinc 4 1, 3) := by decide +kernel
theorem dX5_bestPost_48 : decode cX5_bestPost 48 = .ok (.goto (-41), 3) := by decide +kernel
theorem dX5_bestPost_51 : decode cX5_bestPost 51 = .ok (.iload_n 2, 1) := by decide +kernel
theorem dX5_bestPost_52 : decode cX5_bestPost 52 = .ok (.ireturn, 1) := by decide +kernel
theorem dX5_worthOf_0 : decode cX5_worthOf 0 = .ok (.aload_n 0, 1) := by decide +kernel
theorem dX5_worthOf_1 : decode cX5_worthOf 1 = .ok (.invokevirtual 53, 3) := by decide +kernel
theorem dX5_worthOf_4 : decode cX5_worthOf 4 = .ok (.aload_n 0, 1) := by decide +kernel
theorem dX5_worthOf_5 : decode cX5_worthOf 5 = .ok (.aload_n 1, 1) := by decide +kernel
theorem dX5_worthOf_6 : decode cX5_worthOf 6 = .ok (.iload_n 2, 1) := by decide +kernel
theorem dX5_worthOf_7 : decode cX5_worthOf 7 = .ok (.iload_n 3, 1) := by decide +kernel
theorem dX5_worthOf_8 : decode cX5_worthOf 8 = .ok (.iconst 0, 1) := by decide +kernel
theorem dX5_worthOf_9 : decode cX5_worthOf 9 = .ok (.invokevirtual 56, 3) := by decide +kernel
theorem dX5_worthOf_12 : decode cX5_worthOf 12 = .ok (.ireturn, 1) := by decide +kernel
theorem dX5_firstMove_0 : decode cX5_firstMove 0 = .ok (.aload_n 0, 1) := by decide +kernel
theorem dX5_firstMove_1 : decode cX5_firstMove 1 = .ok (.invokevirtual 53, 3) := by decide +kernel
theorem dX5_firstMove_4 : decode cX5_firstMove 4 = .ok (.iload_n 2, 1) := by decide +kernel
theorem dX5_firstMove_5 : decode cX5_firstMove 5 = .ok (.istore 4, 2) := by decide +kernel
theorem dX5_firstMove_7 : decode cX5_firstMove 7 = .ok (.iconst (-1), 1) := by decide +kernel
theorem dX5_firstMove_8 : decode cX5_firstMove 8 = .ok (.istore 5, 2) := by decide +kernel
theorem dX5_firstMove_10 : decode cX5_firstMove 10 = .ok (.iconst 0, 1) := by decide +kernel
theorem dX5_firstMove_11 : decode cX5_firstMove 11 = .ok (.istore 6, 2) := by decide +kernel
theorem dX5_firstMove_13 : decode cX5_firstMove 13 = .ok (.iload 6, 2) := by decide +kernel
theorem dX5_firstMove_15 : decode cX5_firstMove 15 = .ok (.aload_n 1, 1) := by decide +kernel
theorem dX5_firstMove_16 : decode cX5_firstMove 16 = .ok (.getfield 42, 3) := by decide +kernel
theorem dX5_firstMove_19 : decode cX5_firstMove 19 = .ok (.getfield 46, 3) := by decide +kernel
theorem dX5_firstMove_22 : decode cX5_firstMove 22 = .ok (.if_icmp .ge 54, 3) := by decide +kernel
theorem dX5_firstMove_25 : decode cX5_firstMove 25 = .ok (.aload_n 1, 1) := by decide +kernel
theorem dX5_firstMove_26 : decode cX5_firstMove 26 = .ok (.iload_n 2, 1) := by decide +kernel
theorem dX5_firstMove_27 : decode cX5_firstMove 27 = .ok (.iload 6, 2) := by decide +kernel
theorem dX5_firstMove_29 : decode cX5_firstMove 29 = .ok (.invokestatic 60, 3) := by decide +kernel
theorem dX5_firstMove_32 : decode cX5_firstMove 32 = .ok (.ifCond .ne 6, 3) := by decide +kernel
theorem dX5_firstMove_35 : decode cX5_firstMove 35 = .ok (.goto 35, 3) := by decide +kernel
theorem dX5_firstMove_38 : decode cX5_firstMove 38 = .ok (.aload_n 0, 1) := by decide +kernel
theorem dX5_firstMove_39 : decode cX5_firstMove 39 = .ok (.aload_n 1, 1) := by decide +kernel
theorem dX5_firstMove_40 : decode cX5_firstMove 40 = .ok (.iload 6, 2) := by decide +kernel
theorem dX5_firstMove_42 : decode cX5_firstMove 42 = .ok (.iload_n 3, 1) := by decide +kernel
theorem dX5_firstMove_43 : decode cX5_firstMove 43 = .ok (.iconst 0, 1) := by decide +kernel
theorem dX5_firstMove_44 : decode cX5_firstMove 44 = .ok (.invokevirtual 64, 3) := by decide +kernel
theorem dX5_firstMove_47 : decode cX5_firstMove 47 = .ok (.istore 7, 2) := by decide +kernel
theorem dX5_firstMove_49 : decode cX5_firstMove 49 = .ok (.iload 5, 2) := by decide +kernel
theorem dX5_firstMove_51 : decode cX5_firstMove 51 = .ok (.iconst (-1), 1) := by decide +kernel
theorem dX5_firstMove_52 : decode cX5_firstMove 52 = .ok (.if_icmp .eq 10, 3) := by decide +kernel
theorem dX5_firstMove_55 : decode cX5_firstMove 55 = .ok (.iload 7, 2) := by decide +kernel
theorem dX5_firstMove_57 : decode cX5_firstMove 57 = .ok (.iload 5, 2) := by decide +kernel
theorem dX5_firstMove_59 : decode cX5_firstMove 59 = .ok (.if_icmp .ge 11, 3) := by decide +kernel
theorem dX5_firstMove_62 : decode cX5_firstMove 62 = .ok (.iload 6, 2) := by decide +kernel
theorem dX5_firstMove_64 : decode cX5_firstMove 64 = .ok (.istore 4, 2) := by decide +kernel
theorem dX5_firstMove_66 : decode cX5_firstMove 66 = .ok (.iload 7, 2) := by decide +kernel
theorem dX5_firstMove_68 : decode cX5_firstMove 68 = .ok (.istore 5, 2) := by decide +kernel
theorem dX5_firstMove_70 : decode cX5_firstMove 70 = .ok (.iinc 6 1, 3) := by decide +kernel
theorem dX5_firstMove_73 : decode cX5_firstMove 73 = .ok (.goto (-60), 3) := by decide +kernel
theorem dX5_firstMove_76 : decode cX5_firstMove 76 = .ok (.iload 4, 2) := by decide +kernel
theorem dX5_firstMove_78 : decode cX5_firstMove 78 = .ok (.ireturn, 1) := by decide +kernel
theorem dX5_forget_0 : decode cX5_forget 0 = .ok (.iconst 0, 1) := by decide +kernel
theorem dX5_forget_1 : decode cX5_forget 1 = .ok (.istore_n 1, 1) := by decide +kernel
theorem dX5_forget_2 : decode cX5_forget 2 = .ok (.iload_n 1, 1) := by decide +kernel
theorem dX5_forget_3 : decode cX5_forget 3 = .ok (.aload_n 0, 1) := by decide +kernel
theorem dX5_forget_4 : decode cX5_forget 4 = .ok (.getfield 13, 3) := by decide +kernel
theorem dX5_forget_7 : decode cX5_forget 7 = .ok (.arraylength, 1) := by decide +kernel
theorem dX5_forget_8 : decode cX5_forget 8 = .ok (.if_icmp .ge 16, 3) := by decide +kernel
theorem dX5_forget_11 : decode cX5_forget 11 = .ok (.aload_n 0, 1) := by decide +kernel
theorem dX5_forget_12 : decode cX5_forget 12 = .ok (.getfield 13, 3) := by decide +kernel
theorem dX5_forget_15 : decode cX5_forget 15 = .ok (.iload_n 1, 1) := by decide +kernel
theorem dX5_forget_16 : decode cX5_forget 16 = .ok (.iconst (-1), 1) := by decide +kernel
theorem dX5_forget_17 : decode cX5_forget 17 = .ok (.iastore, 1) := by decide +kernel
theorem dX5_forget_18 : decode cX5_forget 18 = .ok (.iinc 1 1, 3) := by decide +kernel
theorem dX5_forget_21 : decode cX5_forget 21 = .ok (.goto (-19), 3) := by decide +kernel
theorem dX5_forget_24 : decode cX5_forget 24 = .ok (.return_, 1) := by decide +kernel
theorem dX5_canMove_0 : decode cX5_canMove 0 = .ok (.iload_n 1, 1) := by decide +kernel
theorem dX5_canMove_1 : decode cX5_canMove 1 = .ok (.iload_n 2, 1) := by decide +kernel
theorem dX5_canMove_2 : decode cX5_canMove 2 = .ok (.if_icmp .eq 15, 3) := by decide +kernel
theorem dX5_canMove_5 : decode cX5_canMove 5 = .ok (.aload_n 0, 1) := by decide +kernel
theorem dX5_canMove_6 : decode cX5_canMove 6 = .ok (.getfield 42, 3) := by decide +kernel
theorem dX5_canMove_9 : decode cX5_canMove 9 = .ok (.iload_n 1, 1) := by decide +kernel
theorem dX5_canMove_10 : decode cX5_canMove 10 = .ok (.iload_n 2, 1) := by decide +kernel
theorem dX5_canMove_11 : decode cX5_canMove 11 = .ok (.invokevirtual 67, 3) := by decide +kernel
theorem dX5_canMove_14 : decode cX5_canMove 14 = .ok (.ifCond .le 7, 3) := by decide +kernel
theorem dX5_canMove_17 : decode cX5_canMove 17 = .ok (.iconst 1, 1) := by decide +kernel
theorem dX5_canMove_18 : decode cX5_canMove 18 = .ok (.goto 4, 3) := by decide +kernel
theorem dX5_canMove_21 : decode cX5_canMove 21 = .ok (.iconst 0, 1) := by decide +kernel
theorem dX5_canMove_22 : decode cX5_canMove 22 = .ok (.ireturn, 1) := by decide +kernel
theorem dX5_leastWorth_0 : decode cX5_leastWorth 0 = .ok (.iload_n 3, 1) := by decide +kernel
theorem dX5_leastWorth_1 : decode cX5_leastWorth 1 = .ok (.iconst 1, 1) := by decide +kernel
theorem dX5_leastWorth_2 : decode cX5_leastWorth 2 = .ok (.if_icmp .lt 8, 3) := by decide +kernel
theorem dX5_leastWorth_5 : decode cX5_leastWorth 5 = .ok (.iload_n 3, 1) := by decide +kernel
theorem dX5_leastWorth_6 : decode cX5_leastWorth 6 = .ok (.iconst 3, 1) := by decide +kernel
theorem dX5_leastWorth_7 : decode cX5_leastWorth 7 = .ok (.if_icmp .le 5, 3) := by decide +kernel
theorem dX5_leastWorth_10 : decode cX5_leastWorth 10 = .ok (.iconst 0, 1) := by decide +kernel
theorem dX5_leastWorth_11 : decode cX5_leastWorth 11 = .ok (.ireturn, 1) := by decide +kernel
theorem dX5_leastWorth_12 : decode cX5_leastWorth 12 = .ok (.iload_n 3, 1) := by decide +kernel
theorem dX5_leastWorth_13 : decode cX5_leastWorth 13 = .ok (.iconst 1, 1) := by decide +kernel
theorem dX5_leastWorth_14 : decode cX5_leastWorth 14 = .ok (.isub, 1) := by decide +kernel
theorem dX5_leastWorth_15 : decode cX5_leastWorth 15 = .ok (.sipush 256, 3) := by decide +kernel
theorem dX5_leastWorth_18 : decode cX5_leastWorth 18 = .ok (.imul, 1) := by decide +kernel
theorem dX5_leastWorth_19 : decode cX5_leastWorth 19 = .ok (.iload 4, 2) := by decide +kernel
theorem dX5_leastWorth_21 : decode cX5_leastWorth 21 = .ok (.iadd, 1) := by decide +kernel
theorem dX5_leastWorth_22 : decode cX5_leastWorth 22 = .ok (.bipush 8, 2) := by decide +kernel
theorem dX5_leastWorth_24 : decode cX5_leastWorth 24 = .ok (.imul, 1) := by decide +kernel
theorem dX5_leastWorth_25 : decode cX5_leastWorth 25 = .ok (.iload_n 2, 1) := by decide +kernel
theorem dX5_leastWorth_26 : decode cX5_leastWorth 26 = .ok (.iadd, 1) := by decide +kernel
theorem dX5_leastWorth_27 : decode cX5_leastWorth 27 = .ok (.istore 5, 2) := by decide +kernel
theorem dX5_leastWorth_29 : decode cX5_leastWorth 29 = .ok (.iload 5, 2) := by decide +kernel
theorem dX5_leastWorth_31 : decode cX5_leastWorth 31 = .ok (.ifCond .lt 17, 3) := by decide +kernel
theorem dX5_leastWorth_34 : decode cX5_leastWorth 34 = .ok (.iload 5, 2) := by decide +kernel
theorem dX5_leastWorth_36 : decode cX5_leastWorth 36 = .ok (.aload_n 0, 1) := by decide +kernel
theorem dX5_leastWorth_37 : decode cX5_leastWorth 37 = .ok (.getfield 13, 3) := by decide +kernel
theorem dX5_leastWorth_40 : decode cX5_leastWorth 40 = .ok (.arraylength, 1) := by decide +kernel
theorem dX5_leastWorth_41 : decode cX5_leastWorth 41 = .ok (.if_icmp .ge 7, 3) := by decide +kernel
theorem dX5_leastWorth_44 : decode cX5_leastWorth 44 = .ok (.iconst 1, 1) := by decide +kernel
theorem dX5_leastWorth_45 : decode cX5_leastWorth 45 = .ok (.goto 4, 3) := by decide +kernel
theorem dX5_leastWorth_48 : decode cX5_leastWorth 48 = .ok (.iconst 0, 1) := by decide +kernel
theorem dX5_leastWorth_49 : decode cX5_leastWorth 49 = .ok (.istore 6, 2) := by decide +kernel
theorem dX5_leastWorth_51 : decode cX5_leastWorth 51 = .ok (.iload 6, 2) := by decide +kernel
theorem dX5_leastWorth_53 : decode cX5_leastWorth 53 = .ok (.ifCond .eq 22, 3) := by decide +kernel
theorem dX5_leastWorth_56 : decode cX5_leastWorth 56 = .ok (.aload_n 0, 1) := by decide +kernel
theorem dX5_leastWorth_57 : decode cX5_leastWorth 57 = .ok (.getfield 13, 3) := by decide +kernel
theorem dX5_leastWorth_60 : decode cX5_leastWorth 60 = .ok (.iload 5, 2) := by decide +kernel
theorem dX5_leastWorth_62 : decode cX5_leastWorth 62 = .ok (.iaload, 1) := by decide +kernel
theorem dX5_leastWorth_63 : decode cX5_leastWorth 63 = .ok (.iconst (-1), 1) := by decide +kernel
theorem dX5_leastWorth_64 : decode cX5_leastWorth 64 = .ok (.if_icmp .eq 11, 3) := by decide +kernel
theorem dX5_leastWorth_67 : decode cX5_leastWorth 67 = .ok (.aload_n 0, 1) := by decide +kernel
theorem dX5_leastWorth_68 : decode cX5_leastWorth 68 = .ok (.getfield 13, 3) := by decide +kernel
theorem dX5_leastWorth_71 : decode cX5_leastWorth 71 = .ok (.iload 5, 2) := by decide +kernel
theorem dX5_leastWorth_73 : decode cX5_leastWorth 73 = .ok (.iaload, 1) := by decide +kernel
theorem dX5_leastWorth_74 : decode cX5_leastWorth 74 = .ok (.ireturn, 1) := by decide +kernel
theorem dX5_leastWorth_75 : decode cX5_leastWorth 75 = .ok (.iconst (-1), 1) := by decide +kernel
theorem dX5_leastWorth_76 : decode cX5_leastWorth 76 = .ok (.istore 7, 2) := by decide +kernel
theorem dX5_leastWorth_78 : decode cX5_leastWorth 78 = .ok (.iconst 0, 1) := by decide +kernel
theorem dX5_leastWorth_79 : decode cX5_leastWorth 79 = .ok (.istore 8, 2) := by decide +kernel
theorem dX5_leastWorth_81 : decode cX5_leastWorth 81 = .ok (.iload 8, 2) := by decide +kernel
theorem dX5_leastWorth_83 : decode cX5_leastWorth 83 = .ok (.aload_n 1, 1) := by decide +kernel
theorem dX5_leastWorth_84 : decode cX5_leastWorth 84 = .ok (.getfield 42, 3) := by decide +kernel
theorem dX5_leastWorth_87 : decode cX5_leastWorth 87 = .ok (.getfield 46, 3) := by decide +kernel
theorem dX5_leastWorth_90 : decode cX5_leastWorth 90 = .ok (.if_icmp .ge 51, 3) := by decide +kernel
theorem dX5_leastWorth_93 : decode cX5_leastWorth 93 = .ok (.aload_n 1, 1) := by decide +kernel
theorem dX5_leastWorth_94 : decode cX5_leastWorth 94 = .ok (.iload_n 2, 1) := by decide +kernel
theorem dX5_leastWorth_95 : decode cX5_leastWorth 95 = .ok (.iload 8, 2) := by decide +kernel
theorem dX5_leastWorth_97 : decode cX5_leastWorth 97 = .ok (.invokestatic 60, 3) := by decide +kernel
theorem dX5_leastWorth_100 : decode cX5_leastWorth 100 = .ok (.ifCond .eq 35, 3) := by decide +kernel
theorem dX5_leastWorth_103 : decode cX5_leastWorth 103 = .ok (.aload_n 0, 1) := by decide +kernel
theorem dX5_leastWorth_104 : decode cX5_leastWorth 104 = .ok (.aload_n 1, 1) := by decide +kernel
theorem dX5_leastWorth_105 : decode cX5_leastWorth 105 = .ok (.iload 8, 2) := by decide +kernel
theorem dX5_leastWorth_107 : decode cX5_leastWorth 107 = .ok (.iload_n 3, 1) := by decide +kernel
theorem dX5_leastWorth_108 : decode cX5_leastWorth 108 = .ok (.iload 4, 2) := by decide +kernel
theorem dX5_leastWorth_110 : decode cX5_leastWorth 110 = .ok (.invokevirtual 64, 3) := by decide +kernel
theorem dX5_leastWorth_113 : decode cX5_leastWorth 113 = .ok (.istore 9, 2) := by decide +kernel
theorem dX5_leastWorth_115 : decode cX5_leastWorth 115 = .ok (.iload 7, 2) := by decide +kernel
theorem dX5_leastWorth_117 : decode cX5_leastWorth 117 = .ok (.iconst (-1), 1) := by decide +kernel
theorem dX5_leastWorth_118 : decode cX5_leastWorth 118 = .ok (.if_icmp .ne 8, 3) := by decide +kernel
theorem dX5_leastWorth_121 : decode cX5_leastWorth 121 = .ok (.iload 9, 2) := by decide +kernel
theorem dX5_leastWorth_123 : decode cX5_leastWorth 123 = .ok (.goto 10, 3) := by decide +kernel
theorem dX5_leastWorth_126 : decode cX5_leastWorth 126 = .ok (.iload 7, 2) := by decide +kernel
theorem dX5_leastWorth_128 : decode cX5_leastWorth 128 = .ok (.iload 9, 2) := by decide +kernel
theorem dX5_leastWorth_130 : decode cX5_leastWorth 130 = .ok (.invokestatic 70, 3) := by decide +kernel
theorem dX5_leastWorth_133 : decode cX5_leastWorth 133 = .ok (.istore 7, 2) := by decide +kernel
theorem dX5_leastWorth_135 : decode cX5_leastWorth 135 = .ok (.iinc 8 1, 3) := by decide +kernel
theorem dX5_leastWorth_138 : decode cX5_leastWorth 138 = .ok (.goto (-57), 3) := by decide +kernel
theorem dX5_leastWorth_141 : decode cX5_leastWorth 141 = .ok (.iload 6, 2) := by decide +kernel
theorem dX5_leastWorth_143 : decode cX5_leastWorth 143 = .ok (.ifCond .eq 12, 3) := by decide +kernel
theorem dX5_leastWorth_146 : decode cX5_leastWorth 146 = .ok (.aload_n 0, 1) := by decide +kernel
theorem dX5_leastWorth_147 : decode cX5_leastWorth 147 = .ok (.getfield 13, 3) := by decide +kernel
theorem dX5_leastWorth_150 : decode cX5_leastWorth 150 = .ok (.iload 5, 2) := by decide +kernel
theorem dX5_leastWorth_152 : decode cX5_leastWorth 152 = .ok (.iload 7, 2) := by decide +kernel
theorem dX5_leastWorth_154 : decode cX5_leastWorth 154 = .ok (.iastore, 1) := by decide +kernel
theorem dX5_leastWorth_155 : decode cX5_leastWorth 155 = .ok (.iload 7, 2) := by decide +kernel
theorem dX5_leastWorth_157 : decode cX5_leastWorth 157 = .ok (.ireturn, 1) := by decide +kernel
theorem dX5_mostWorth_0 : decode cX5_mostWorth 0 = .ok (.aload_n 0, 1) := by decide +kernel
theorem dX5_mostWorth_1 : decode cX5_mostWorth 1 = .ok (.aload_n 1, 1) := by decide +kernel
theorem dX5_mostWorth_2 : decode cX5_mostWorth 2 = .ok (.iload_n 2, 1) := by decide +kernel
theorem dX5_mostWorth_3 : decode cX5_mostWorth 3 = .ok (.iload_n 3, 1) := by decide +kernel
theorem dX5_mostWorth_4 : decode cX5_mostWorth 4 = .ok (.iconst 1, 1) := by decide +kernel
theorem dX5_mostWorth_5 : decode cX5_mostWorth 5 = .ok (.isub, 1) := by decide +kernel
theorem dX5_mostWorth_6 : decode cX5_mostWorth 6 = .ok (.iload 4, 2) := by decide +kernel
theorem dX5_mostWorth_8 : decode cX5_mostWorth 8 = .ok (.invokevirtual 56, 3) := by decide +kernel
theorem dX5_mostWorth_11 : decode cX5_mostWorth 11 = .ok (.istore 5, 2) := by decide +kernel
theorem dX5_mostWorth_13 : decode cX5_mostWorth 13 = .ok (.iconst 0, 1) := by decide +kernel
theorem dX5_mostWorth_14 : decode cX5_mostWorth 14 = .ok (.istore 6, 2) := by decide +kernel
theorem dX5_mostWorth_16 : decode cX5_mostWorth 16 = .ok (.iload 6, 2) := by decide +kernel
theorem dX5_mostWorth_18 : decode cX5_mostWorth 18 = .ok (.aload_n 1, 1) := by decide +kernel
theorem dX5_mostWorth_19 : decode cX5_mostWorth 19 = .ok (.getfield 17, 3) := by decide +kernel
theorem dX5_mostWorth_22 : decode cX5_mostWorth 22 = .ok (.getfield 23, 3) := by decide +kernel
theorem dX5_mostWorth_25 : decode cX5_mostWorth 25 = .ok (.if_icmp .ge 100, 3) := by decide +kernel
theorem dX5_mostWorth_28 : decode cX5_mostWorth 28 = .ok (.iload 4, 2) := by decide +kernel
theorem dX5_mostWorth_30 : decode cX5_mostWorth 30 = .ok (.iload 6, 2) := by decide +kernel
theorem dX5_mostWorth_32 : decode cX5_mostWorth 32 = .ok (.ishr, 1) := by decide +kernel
theorem dX5_mostWorth_33 : decode cX5_mostWorth 33 = .ok (.iconst 1, 1) := by decide +kernel
theorem dX5_mostWorth_34 : decode cX5_mostWorth 34 = .ok (.iand, 1) := by decide +kernel
theorem dX5_mostWorth_35 : decode cX5_mostWorth 35 = .ok (.iconst 1, 1) := by decide +kernel
theorem dX5_mostWorth_36 : decode cX5_mostWorth 36 = .ok (.if_icmp .eq 83, 3) := by decide +kernel
theorem dX5_mostWorth_39 : decode cX5_mostWorth 39 = .ok (.aload_n 1, 1) := by decide +kernel
theorem dX5_mostWorth_40 : decode cX5_mostWorth 40 = .ok (.iload 6, 2) := by decide +kernel
theorem dX5_mostWorth_42 : decode cX5_mostWorth 42 = .ok (.invokevirtual 29, 3) := by decide +kernel
theorem dX5_mostWorth_45 : decode cX5_mostWorth 45 = .ok (.ifCond .ne 6, 3) := by decide +kernel
theorem dX5_mostWorth_48 : decode cX5_mostWorth 48 = .ok (.goto 71, 3) := by decide +kernel
theorem dX5_mostWorth_51 : decode cX5_mostWorth 51 = .ok (.aload_n 1, 1) := by decide +kernel
theorem dX5_mostWorth_52 : decode cX5_mostWorth 52 = .ok (.getfield 17, 3) := by decide +kernel
theorem dX5_mostWorth_55 : decode cX5_mostWorth 55 = .ok (.iload 6, 2) := by decide +kernel
theorem dX5_mostWorth_57 : decode cX5_mostWorth 57 = .ok (.iconst 0, 1) := by decide +kernel
theorem dX5_mostWorth_58 : decode cX5_mostWorth 58 = .ok (.invokevirtual 33, 3) := by decide +kernel
theorem dX5_mostWorth_61 : decode cX5_mostWorth 61 = .ok (.iload_n 2, 1) := by decide +kernel
theorem dX5_mostWorth_62 : decode cX5_mostWorth 62 = .ok (.if_icmp .eq 7, 3) := by decide +kernel
theorem dX5_mostWorth_65 : decode cX5_mostWorth 65 = .ok (.iconst 1, 1) := by decide +kernel
theorem dX5_mostWorth_66 : decode cX5_mostWorth 66 = .ok (.goto 4, 3) := by decide +kernel
theorem dX5_mostWorth_69 : decode cX5_mostWorth 69 = .ok (.iconst 0, 1) := by decide +kernel
theorem dX5_mostWorth_70 : decode cX5_mostWorth 70 = .ok (.istore 7, 2) := by decide +kernel
theorem dX5_mostWorth_72 : decode cX5_mostWorth 72 = .ok (.iload 7, 2) := by decide +kernel
theorem dX5_mostWorth_74 : decode cX5_mostWorth 74 = .ok (.ifCond .eq 16, 3) := by decide +kernel
theorem dX5_mostWorth_77 : decode cX5_mostWorth 77 = .ok (.aload_n 1, 1) := by decide +kernel
theorem dX5_mostWorth_78 : decode cX5_mostWorth 78 = .ok (.getfield 17, 3) := by decide +kernel
theorem dX5_mostWorth_81 : decode cX5_mostWorth 81 = .ok (.iload 6, 2) := by decide +kernel
theorem dX5_mostWorth_83 : decode cX5_mostWorth 83 = .ok (.iconst 2, 1) := by decide +kernel
theorem dX5_mostWorth_84 : decode cX5_mostWorth 84 = .ok (.invokevirtual 33, 3) := by decide +kernel
theorem dX5_mostWorth_87 : decode cX5_mostWorth 87 = .ok (.goto 4, 3) := by decide +kernel
theorem dX5_mostWorth_90 : decode cX5_mostWorth 90 = .ok (.iconst 0, 1) := by decide +kernel
theorem dX5_mostWorth_91 : decode cX5_mostWorth 91 = .ok (.istore 8, 2) := by decide +kernel
theorem dX5_mostWorth_93 : decode cX5_mostWorth 93 = .ok (.iload 5, 2) := by decide +kernel
theorem dX5_mostWorth_95 : decode cX5_mostWorth 95 = .ok (.iload 8, 2) := by decide +kernel
theorem dX5_mostWorth_97 : decode cX5_mostWorth 97 = .ok (.aload_n 0, 1) := by decide +kernel
theorem dX5_mostWorth_98 : decode cX5_mostWorth 98 = .ok (.aload_n 1, 1) := by decide +kernel
theorem dX5_mostWorth_99 : decode cX5_mostWorth 99 = .ok (.iload_n 2, 1) := by decide +kernel
theorem dX5_mostWorth_100 : decode cX5_mostWorth 100 = .ok (.iload_n 3, 1) := by decide +kernel
theorem dX5_mostWorth_101 : decode cX5_mostWorth 101 = .ok (.iconst 1, 1) := by decide +kernel
theorem dX5_mostWorth_102 : decode cX5_mostWorth 102 = .ok (.isub, 1) := by decide +kernel
theorem dX5_mostWorth_103 : decode cX5_mostWorth 103 = .ok (.iload 4, 2) := by decide +kernel
theorem dX5_mostWorth_105 : decode cX5_mostWorth 105 = .ok (.iconst 1, 1) := by decide +kernel
theorem dX5_mostWorth_106 : decode cX5_mostWorth 106 = .ok (.iload 6, 2) := by decide +kernel
theorem dX5_mostWorth_108 : decode cX5_mostWorth 108 = .ok (.ishl, 1) := by decide +kernel
theorem dX5_mostWorth_109 : decode cX5_mostWorth 109 = .ok (.ior, 1) := by decide +kernel
theorem dX5_mostWorth_110 : decode cX5_mostWorth 110 = .ok (.invokevirtual 56, 3) := by decide +kernel
theorem dX5_mostWorth_113 : decode cX5_mostWorth 113 = .ok (.iadd, 1) := by decide +kernel
theorem dX5_mostWorth_114 : decode cX5_mostWorth 114 = .ok (.invokestatic 37, 3) := by decide +kernel
theorem dX5_mostWorth_117 : decode cX5_mostWorth 117 = .ok (.istore 5, 2) := by decide +kernel
theorem dX5_mostWorth_119 : decode cX5_mostWorth 119 = .ok (.iinc 6 1, 3) := by decide +kernel
theorem dX5_mostWorth_122 : decode cX5_mostWorth 122 = .ok (.goto (-106), 3) := by decide +kernel
theorem dX5_mostWorth_125 : decode cX5_mostWorth 125 = .ok (.iload 5, 2) := by decide +kernel
theorem dX5_mostWorth_127 : decode cX5_mostWorth 127 = .ok (.ireturn, 1) := by decide +kernel
theorem dX6_init_0 : decode cX6_init 0 = .ok (.aload_n 0, 1) := by decide +kernel
theorem dX6_init_1 : decode cX6_init 1 = .ok (.invokespecial 3, 3) := by decide +kernel
theorem dX6_init_4 : decode cX6_init 4 = .ok (.aload_n 0, 1) := by decide +kernel
theorem dX6_init_5 : decode cX6_init 5 = .ok (.new 9, 3) := by decide +kernel
theorem dX6_init_8 : decode cX6_init 8 = .ok (.dup, 1) := by decide +kernel
theorem dX6_init_9 : decode cX6_init 9 = .ok (.bipush 12, 2) := by decide +kernel
theorem dX6_init_11 : decode cX6_init 11 = .ok (.iconst 2, 1) := by decide +kernel
theorem dX6_init_12 : decode cX6_init 12 = .ok (.invokespecial 13, 3) := by decide +kernel
theorem dX6_init_15 : decode cX6_init 15 = .ok (.putfield 16, 3) := by decide +kernel
theorem dX6_init_18 : decode cX6_init 18 = .ok (.aload_n 0, 1) := by decide +kernel
theorem dX6_init_19 : decode cX6_init 19 = .ok (.bipush 64, 2) := by decide +kernel
theorem dX6_init_21 : decode cX6_init 21 = .ok (.newarray .int, 2) := by decide +kernel
theorem dX6_init_23 : decode cX6_init 23 = .ok (.putfield 20, 3) := by decide +kernel
theorem dX6_init_26 : decode cX6_init 26 = .ok (.aload_n 0, 1) := by decide +kernel
theorem dX6_init_27 : decode cX6_init 27 = .ok (.bipush 64, 2) := by decide +kernel
theorem dX6_init_29 : decode cX6_init 29 = .ok (.newarray .int, 2) := by decide +kernel
theorem dX6_init_31 : decode cX6_init 31 = .ok (.putfield 24, 3) := by decide +kernel
theorem dX6_init_34 : decode cX6_init 34 = .ok (.return_, 1) := by decide +kernel
theorem dX6_clear_0 : decode cX6_clear 0 = .ok (.aload_n 0, 1) := by decide +kernel
theorem dX6_clear_1 : decode cX6_clear 1 = .ok (.iconst 0, 1) := by decide +kernel
theorem dX6_clear_2 : decode cX6_clear 2 = .ok (.putfield 27, 3) := by decide +kernel
theorem dX6_clear_5 : decode cX6_clear 5 = .ok (.aload_n 0, 1) := by decide +kernel
theorem dX6_clear_6 : decode cX6_clear 6 = .ok (.getfield 16, 3) := by decide +kernel
theorem dX6_clear_9 : decode cX6_clear 9 = .ok (.iconst 0, 1) := by decide +kernel
theorem dX6_clear_10 : decode cX6_clear 10 = .ok (.putfield 31, 3) := by decide +kernel
theorem dX6_clear_13 : decode cX6_clear 13 = .ok (.iconst 0, 1) := by decide +kernel
theorem dX6_clear_14 : decode cX6_clear 14 = .ok (.istore_n 1, 1) := by decide +kernel
theorem dX6_clear_15 : decode cX6_clear 15 = .ok (.iload_n 1, 1) := by decide +kernel
theorem dX6_clear_16 : decode cX6_clear 16 = .ok (.aload_n 0, 1) := by decide +kernel
theorem dX6_clear_17 : decode cX6_clear 17 = .ok (.getfield 20, 3) := by decide +kernel
theorem dX6_clear_20 : decode cX6_clear 20 = .ok (.arraylength, 1) := by decide +kernel
theorem dX6_clear_21 : decode cX6_clear 21 = .ok (.if_icmp .ge 25, 3) := by decide +kernel
theorem dX6_clear_24 : decode cX6_clear 24 = .ok (.aload_n 0, 1) := by decide +kernel
theorem dX6_clear_25 : decode cX6_clear 25 = .ok (.getfield 20, 3) := by decide +kernel
theorem dX6_clear_28 : decode cX6_clear 28 = .ok (.iload_n 1, 1) := by decide +kernel
theorem dX6_clear_29 : decode cX6_clear 29 = .ok (.iconst 0, 1) := by decide +kernel
theorem dX6_clear_30 : decode cX6_clear 30 = .ok (.iastore, 1) := by decide +kernel
theorem dX6_clear_31 : decode cX6_clear 31 = .ok (.aload_n 0, 1) := by decide +kernel
theorem dX6_clear_32 : decode cX6_clear 32 = .ok (.getfield 24, 3) := by decide +kernel
theorem dX6_clear_35 : decode cX6_clear 35 = .ok (.iload_n 1, 1) := by decide +kernel
theorem dX6_clear_36 : decode cX6_clear 36 = .ok (.sipush 1000, 3) := by decide +kernel
theorem dX6_clear_39 : decode cX6_clear 39 = .ok (.iastore, 1) := by decide +kernel
theorem dX6_clear_40 : decode cX6_clear 40 = .ok (.iinc 1 1, 3) := by decide +kernel
theorem dX6_clear_43 : decode cX6_clear 43 = .ok (.goto (-28), 3) := by decide +kernel
theorem dX6_clear_46 : decode cX6_clear 46 = .ok (.return_, 1) := by decide +kernel
theorem dX6_copyFrom_0 : decode cX6_copyFrom 0 = .ok (.aload_n 0, 1) := by decide +kernel
theorem dX6_copyFrom_1 : decode cX6_copyFrom 1 = .ok (.aload_n 1, 1) := by decide +kernel
theorem dX6_copyFrom_2 : decode cX6_copyFrom 2 = .ok (.getfield 27, 3) := by decide +kernel
theorem dX6_copyFrom_5 : decode cX6_copyFrom 5 = .ok (.putfield 27, 3) := by decide +kernel
theorem dX6_copyFrom_8 : decode cX6_copyFrom 8 = .ok (.aload_n 0, 1) := by decide +kernel
theorem dX6_copyFrom_9 : decode cX6_copyFrom 9 = .ok (.getfield 16, 3) := by decide +kernel
theorem dX6_copyFrom_12 : decode cX6_copyFrom 12 = .ok (.aload_n 1, 1) := by decide +kernel
theorem dX6_copyFrom_13 : decode cX6_copyFrom 13 = .ok (.getfield 16, 3) := by decide +kernel
theorem dX6_copyFrom_16 : decode cX6_copyFrom 16 = .ok (.invokevirtual 34, 3) := by decide +kernel
theorem dX6_copyFrom_19 : decode cX6_copyFrom 19 = .ok (.aload_n 1, 1) := by decide +kernel
theorem dX6_copyFrom_20 : decode cX6_copyFrom 20 = .ok (.getfield 20, 3) := by decide +kernel
theorem dX6_copyFrom_23 : decode cX6_copyFrom 23 = .ok (.iconst 0, 1) := by decide +kernel
theorem dX6_copyFrom_24 : decode cX6_copyFrom 24 = .ok (.aload_n 0, 1) := by decide +kernel
theorem dX6_copyFrom_25 : decode cX6_copyFrom 25 = .ok (.getfield 20, 3) := by decide +kernel
theorem dX6_copyFrom_28 : decode cX6_copyFrom 28 = .ok (.iconst 0, 1) := by decide +kernel
theorem dX6_copyFrom_29 : decode cX6_copyFrom 29 = .ok (.aload_n 0, 1) := by decide +kernel
theorem dX6_copyFrom_30 : decode cX6_copyFrom 30 = .ok (.getfield 20, 3) := by decide +kernel
theorem dX6_copyFrom_33 : decode cX6_copyFrom 33 = .ok (.arraylength, 1) := by decide +kernel
theorem dX6_copyFrom_34 : decode cX6_copyFrom 34 = .ok (.invokestatic 38, 3) := by decide +kernel
theorem dX6_copyFrom_37 : decode cX6_copyFrom 37 = .ok (.aload_n 1, 1) := by decide +kernel
theorem dX6_copyFrom_38 : decode cX6_copyFrom 38 = .ok (.getfield 24, 3) := by decide +kernel
theorem dX6_copyFrom_41 : decode cX6_copyFrom 41 = .ok (.iconst 0, 1) := by decide +kernel
theorem dX6_copyFrom_42 : decode cX6_copyFrom 42 = .ok (.aload_n 0, 1) := by decide +kernel
theorem dX6_copyFrom_43 : decode cX6_copyFrom 43 = .ok (.getfield 24, 3) := by decide +kernel
theorem dX6_copyFrom_46 : decode cX6_copyFrom 46 = .ok (.iconst 0, 1) := by decide +kernel
theorem dX6_copyFrom_47 : decode cX6_copyFrom 47 = .ok (.aload_n 0, 1) := by decide +kernel
theorem dX6_copyFrom_48 : decode cX6_copyFrom 48 = .ok (.getfield 24, 3) := by decide +kernel
theorem dX6_copyFrom_51 : decode cX6_copyFrom 51 = .ok (.arraylength, 1) := by decide +kernel
theorem dX6_copyFrom_52 : decode cX6_copyFrom 52 = .ok (.invokestatic 38, 3) := by decide +kernel
theorem dX6_copyFrom_55 : decode cX6_copyFrom 55 = .ok (.return_, 1) := by decide +kernel
theorem dX6_areCorners_0 : decode cX6_areCorners 0 = .ok (.iload_n 0, 1) := by decide +kernel
theorem dX6_areCorners_1 : decode cX6_areCorners 1 = .ok (.ifCond .lt 23, 3) := by decide +kernel
theorem dX6_areCorners_4 : decode cX6_areCorners 4 = .ok (.iload_n 0, 1) := by decide +kernel
theorem dX6_areCorners_5 : decode cX6_areCorners 5 = .ok (.bipush 8, 2) := by decide +kernel
theorem dX6_areCorners_7 : decode cX6_areCorners 7 = .ok (.if_icmp .ge 17, 3) := by decide +kernel
theorem dX6_areCorners_10 : decode cX6_areCorners 10 = .ok (.iload_n 1, 1) := by decide +kernel
theorem dX6_areCorners_11 : decode cX6_areCorners 11 = .ok (.ifCond .lt 13, 3) := by decide +kernel
theorem dX6_areCorners_14 : decode cX6_areCorners 14 = .ok (.iload_n 1, 1) := by decide +kernel
theorem dX6_areCorners_15 : decode cX6_areCorners 15 = .ok (.bipush 8, 2) := by decide +kernel
theorem dX6_areCorners_17 : decode cX6_areCorners 17 = .ok (.if_icmp .ge 7, 3) := by decide +kernel
theorem dX6_areCorners_20 : decode cX6_areCorners 20 = .ok (.iconst 1, 1) := by decide +kernel
theorem dX6_areCorners_21 : decode cX6_areCorners 21 = .ok (.goto 4, 3) := by decide +kernel
theorem dX6_areCorners_24 : decode cX6_areCorners 24 = .ok (.iconst 0, 1) := by decide +kernel
theorem dX6_areCorners_25 : decode cX6_areCorners 25 = .ok (.ireturn, 1) := by decide +kernel
theorem dX6_cell_0 : decode cX6_cell 0 = .ok (.iload_n 0, 1) := by decide +kernel
theorem dX6_cell_1 : decode cX6_cell 1 = .ok (.bipush 8, 2) := by decide +kernel
theorem dX6_cell_3 : decode cX6_cell 3 = .ok (.imul, 1) := by decide +kernel
theorem dX6_cell_4 : decode cX6_cell 4 = .ok (.iload_n 1, 1) := by decide +kernel
theorem dX6_cell_5 : decode cX6_cell 5 = .ok (.iadd, 1) := by decide +kernel
theorem dX6_cell_6 : decode cX6_cell 6 = .ok (.ireturn, 1) := by decide +kernel
theorem dX6_addRoad_0 : decode cX6_addRoad 0 = .ok (.iload_n 1, 1) := by decide +kernel
theorem dX6_addRoad_1 : decode cX6_addRoad 1 = .ok (.iload_n 2, 1) := by decide +kernel
theorem dX6_addRoad_2 : decode cX6_addRoad 2 = .ok (.invokestatic 44, 3) := by decide +kernel
theorem dX6_addRoad_5 : decode cX6_addRoad 5 = .ok (.ifCond .eq 13, 3) := by decide +kernel
theorem dX6_addRoad_8 : decode cX6_addRoad 8 = .ok (.aload_n 0, 1) := by decide +kernel
theorem dX6_addRoad_9 : decode cX6_addRoad 9 = .ok (.getfield 16, 3) := by decide +kernel
theorem dX6_addRoad_12 : decode cX6_addRoad 12 = .ok (.invokevirtual 48, 3) := by decide +kernel
theorem dX6_addRoad_15 : decode cX6_addRoad 15 = .ok (.ifCond .eq 4, 3) := by decide +kernel
theorem dX6_addRoad_18 : decode cX6_addRoad 18 = .ok (.return_, 1) := by decide +kernel
theorem dX6_addRoad_19 : decode cX6_addRoad 19 = .ok (.aload_n 0, 1) := by decide +kernel
theorem dX6_addRoad_20 : decode cX6_addRoad 20 = .ok (.getfield 16, 3) := by decide +kernel
theorem dX6_addRoad_23 : decode cX6_addRoad 23 = .ok (.invokevirtual 52, 3) := by decide +kernel
theorem dX6_addRoad_26 : decode cX6_addRoad 26 = .ok (.istore 4, 2) := by decide +kernel
theorem dX6_addRoad_28 : decode cX6_addRoad 28 = .ok (.aload_n 0, 1) := by decide +kernel
theorem dX6_addRoad_29 : decode cX6_addRoad 29 = .ok (.getfield 16, 3) := by decide +kernel
theorem dX6_addRoad_32 : decode cX6_addRoad 32 = .ok (.iload 4, 2) := by decide +kernel
theorem dX6_addRoad_34 : decode cX6_addRoad 34 = .ok (.iconst 0, 1) := by decide +kernel
theorem dX6_addRoad_35 : decode cX6_addRoad 35 = .ok (.iload_n 1, 1) := by decide +kernel
theorem dX6_addRoad_36 : decode cX6_addRoad 36 = .ok (.invokevirtual 56, 3) := by decide +kernel
theorem dX6_addRoad_39 : decode cX6_addRoad 39 = .ok (.aload_n 0, 1) := by decide +kernel
theorem dX6_addRoad_40 : decode cX6_addRoad 40 = .ok (.getfield 16, 3) := by decide +kernel
theorem dX6_addRoad_43 : decode cX6_addRoad 43 = .ok (.iload 4, 2) := by decide +kernel
theorem dX6_addRoad_45 : decode cX6_addRoad 45 = .ok (.iconst 1, 1) := by decide +kernel
theorem dX6_addRoad_46 : decode cX6_addRoad 46 = .ok (.iload_n 2, 1) := by decide +kernel
theorem dX6_addRoad_47 : decode cX6_addRoad 47 = .ok (.invokevirtual 56, 3) := by decide +kernel
theorem dX6_addRoad_50 : decode cX6_addRoad 50 = .ok (.aload_n 0, 1) := by decide +kernel
theorem dX6_addRoad_51 : decode cX6_addRoad 51 = .ok (.iload_n 1, 1) := by decide +kernel
theorem dX6_addRoad_52 : decode cX6_addRoad 52 = .ok (.iload_n 2, 1) := by decide +kernel
theorem dX6_addRoad_53 : decode cX6_addRoad 53 = .ok (.invokevirtual 60, 3) := by decide +kernel
theorem dX6_addRoad_56 : decode cX6_addRoad 56 = .ok (.istore 5, 2) := by decide +kernel
theorem dX6_addRoad_58 : decode cX6_addRoad 58 = .ok (.iload 5, 2) := by decide +kernel
theorem dX6_addRoad_60 : decode cX6_addRoad 60 = .ok (.ifCond .eq 9, 3) := by decide +kernel
theorem dX6_addRoad_63 : decode cX6_addRoad 63 = .ok (.iload_n 3, 1) := by decide +kernel
theorem dX6_addRoad_64 : decode cX6_addRoad 64 = .ok (.iload 5, 2) := by decide +kernel
theorem dX6_addRoad_66 : decode cX6_addRoad 66 = .ok (.if_icmp .ge 25, 3) := by decide +kernel
theorem dX6_addRoad_69 : decode cX6_addRoad 69 = .ok (.aload_n 0, 1) := by decide +kernel
theorem dX6_addRoad_70 : decode cX6_addRoad 70 = .ok (.getfield 20, 3) := by decide +kernel
theorem dX6_addRoad_73 : decode cX6_addRoad 73 = .ok (.iload_n 1, 1) := by decide +kernel
theorem dX6_addRoad_74 : decode cX6_addRoad 74 = .ok (.iload_n 2, 1) := by decide +kernel
theorem dX6_addRoad_75 : decode cX6_addRoad 75 = .ok (.invokestatic 64, 3) := by decide +kernel
theorem dX6_addRoad_78 : decode cX6_addRoad 78 = .ok (.iload_n 3, 1) := by decide +kernel
theorem dX6_addRoad_79 : decode cX6_addRoad 79 = .ok (.iastore, 1) := by decide +kernel
theorem dX6_addRoad_80 : decode cX6_addRoad 80 = .ok (.aload_n 0, 1) := by decide +kernel
theorem dX6_addRoad_81 : decode cX6_addRoad 81 = .ok (.getfield 20, 3) := by decide +kernel
theorem dX6_addRoad_84 : decode cX6_addRoad 84 = .ok (.iload_n 2, 1) := by decide +kernel
theorem dX6_addRoad_85 : decode cX6_addRoad 85 = .ok (.iload_n 1, 1) := by decide +kernel
theorem dX6_addRoad_86 : decode cX6_addRoad 86 = .ok (.invokestatic 64, 3) := by decide +kernel
theorem dX6_addRoad_89 : decode cX6_addRoad 89 = .ok (.iload_n 3, 1) := by decide +kernel
theorem dX6_addRoad_90 : decode cX6_addRoad 90 = .ok (.iastore, 1) := by decide +kernel
theorem dX6_addRoad_91 : decode cX6_addRoad 91 = .ok (.return_, 1) := by decide +kernel
theorem dX6_takesBetween_0 : decode cX6_takesBetween 0 = .ok (.iload_n 1, 1) := by decide +kernel
theorem dX6_takesBetween_1 : decode cX6_takesBetween 1 = .ok (.iload_n 2, 1) := by decide +kernel
theorem dX6_takesBetween_2 : decode cX6_takesBetween 2 = .ok (.invokestatic 44, 3) := by decide +kernel
theorem dX6_takesBetween_5 : decode cX6_takesBetween 5 = .ok (.ifCond .eq 16, 3) := by decide +kernel
theorem dX6_takesBetween_8 : decode cX6_takesBetween 8 = .ok (.aload_n 0, 1) := by decide +kernel
theorem dX6_takesBetween_9 : decode cX6_takesBetween 9 = .ok (.getfield 20, 3) := by decide +kernel
theorem dX6_takesBetween_12 : decode cX6_takesBetween 12 = .ok (.iload_n 1, 1) := by decide +kernel
theorem dX6_takesBetween_13 : decode cX6_takesBetween 13 = .ok (.iload_n 2, 1) := by decide +kernel
theorem dX6_takesBetween_14 : decode cX6_takesBetween 14 = .ok (.invokestatic 64, 3) := by decide +kernel
theorem dX6_takesBetween_17 : decode cX6_takesBetween 17 = .ok (.iaload, 1) := by decide +kernel
theorem dX6_takesBetween_18 : decode cX6_takesBetween 18 = .ok (.goto 4, 3) := by decide +kernel
theorem dX6_takesBetween_21 : decode cX6_takesBetween 21 = .ok (.iconst 0, 1) := by decide +kernel
theorem dX6_takesBetween_22 : decode cX6_takesBetween 22 = .ok (.ireturn, 1) := by decide +kernel
theorem dX6_hoursBetween_0 : decode cX6_hoursBetween 0 = .ok (.iload_n 1, 1) := by decide +kernel
theorem dX6_hoursBetween_1 : decode cX6_hoursBetween 1 = .ok (.iload_n 2, 1) := by decide +kernel
theorem dX6_hoursBetween_2 : decode cX6_hoursBetween 2 = .ok (.invokestatic 44, 3) := by decide +kernel
theorem dX6_hoursBetween_5 : decode cX6_hoursBetween 5 = .ok (.ifCond .eq 16, 3) := by decide +kernel
theorem dX6_hoursBetween_8 : decode cX6_hoursBetween 8 = .ok (.aload_n 0, 1) := by decide +kernel
theorem dX6_hoursBetween_9 : decode cX6_hoursBetween 9 = .ok (.getfield 24, 3) := by decide +kernel
theorem dX6_hoursBetween_12 : decode cX6_hoursBetween 12 = .ok (.iload_n 1, 1) := by decide +kernel
theorem dX6_hoursBetween_13 : decode cX6_hoursBetween 13 = .ok (.iload_n 2, 1) := by decide +kernel
theorem dX6_hoursBetween_14 : decode cX6_hoursBetween 14 = .ok (.invokestatic 64, 3) := by decide +kernel
theorem dX6_hoursBetween_17 : decode cX6_hoursBetween 17 = .ok (.iaload, 1) := by decide +kernel
theorem dX6_hoursBetween_18 : decode cX6_hoursBetween 18 = .ok (.goto 6, 3) := by decide +kernel
theorem dX6_hoursBetween_21 : decode cX6_hoursBetween 21 = .ok (.sipush 1000, 3) := by decide +kernel
theorem dX6_hoursBetween_24 : decode cX6_hoursBetween 24 = .ok (.istore_n 3, 1) := by decide +kernel
theorem dX6_hoursBetween_25 : decode cX6_hoursBetween 25 = .ok (.iload_n 3, 1) := by decide +kernel
theorem dX6_hoursBetween_26 : decode cX6_hoursBetween 26 = .ok (.sipush 1000, 3) := by decide +kernel
theorem dX6_hoursBetween_29 : decode cX6_hoursBetween 29 = .ok (.if_icmp .lt 7, 3) := by decide +kernel
theorem dX6_hoursBetween_32 : decode cX6_hoursBetween 32 = .ok (.iconst (-1), 1) := by decide +kernel
theorem dX6_hoursBetween_33 : decode cX6_hoursBetween 33 = .ok (.goto 4, 3) := by decide +kernel
theorem dX6_hoursBetween_36 : decode cX6_hoursBetween 36 = .ok (.iload_n 3, 1) := by decide +kernel
theorem dX6_hoursBetween_37 : decode cX6_hoursBetween 37 = .ok (.ireturn, 1) := by decide +kernel
theorem dX6_measure_0 : decode cX6_measure 0 = .ok (.iconst 0, 1) := by decide +kernel
theorem dX6_measure_1 : decode cX6_measure 1 = .ok (.istore_n 1, 1) := by decide +kernel
theorem dX6_measure_2 : decode cX6_measure 2 = .ok (.iload_n 1, 1) := by decide +kernel
theorem dX6_measure_3 : decode cX6_measure 3 = .ok (.aload_n 0, 1) := by decide +kernel
theorem dX6_measure_4 : decode cX6_measure 4 = .ok (.getfield 20, 3) := by decide +kernel
theorem dX6_measure_7 : decode cX6_measure 7 = .ok (.arraylength, 1) := by decide +kernel
theorem dX6_measure_8 : decode cX6_measure 8 = .ok (.if_icmp .ge 36, 3) := by decide +kernel
theorem dX6_measure_11 : decode cX6_measure 11 = .ok (.aload_n 0, 1) := by decide +kernel
theorem dX6_measure_12 : decode cX6_measure 12 = .ok (.getfield 24, 3) := by decide +kernel
theorem dX6_measure_15 : decode cX6_measure 15 = .ok (.iload_n 1, 1) := by decide +kernel
theorem dX6_measure_16 : decode cX6_measure 16 = .ok (.aload_n 0, 1) := by decide +kernel
theorem dX6_measure_17 : decode cX6_measure 17 = .ok (.getfield 20, 3) := by decide +kernel
theorem dX6_measure_20 : decode cX6_measure 20 = .ok (.iload_n 1, 1) := by decide +kernel
theorem dX6_measure_21 : decode cX6_measure 21 = .ok (.iaload, 1) := by decide +kernel
theorem dX6_measure_22 : decode cX6_measure 22 = .ok (.ifCond .ne 9, 3) := by decide +kernel
theorem dX6_measure_25 : decode cX6_measure 25 = .ok (.sipush 1000, 3) := by decide +kernel
theorem dX6_measure_28 : decode cX6_measure 28 = .ok (.goto 9, 3) := by decide +kernel
theorem dX6_measure_31 : decode cX6_measure 31 = .ok (.aload_n 0, 1) := by decide +kernel
theorem dX6_measure_32 : decode cX6_measure 32 = .ok (.getfield 20, 3) := by decide +kernel
theorem dX6_measure_35 : decode cX6_measure 35 = .ok (.iload_n 1, 1) := by decide +kernel
theorem dX6_measure_36 : decode cX6_measure 36 = .ok (.iaload, 1) := by decide +kernel
theorem dX6_measure_37 : decode cX6_measure 37 = .ok (.iastore, 1) := by decide +kernel
theorem dX6_measure_38 : decode cX6_measure 38 = .ok (.iinc 1 1, 3) := by decide +kernel
theorem dX6_measure_41 : decode cX6_measure 41 = .ok (.goto (-39), 3) := by decide +kernel
theorem dX6_measure_44 : decode cX6_measure 44 = .ok (.iconst 0, 1) := by decide +kernel
theorem dX6_measure_45 : decode cX6_measure 45 = .ok (.istore_n 1, 1) := by decide +kernel
theorem dX6_measure_46 : decode cX6_measure 46 = .ok (.iload_n 1, 1) := by decide +kernel
theorem dX6_measure_47 : decode cX6_measure 47 = .ok (.bipush 8, 2) := by decide +kernel
theorem dX6_measure_49 : decode cX6_measure 49 = .ok (.if_icmp .ge 20, 3) := by decide +kernel
theorem dX6_measure_52 : decode cX6_measure 52 = .ok (.aload_n 0, 1) := by decide +kernel
theorem dX6_measure_53 : decode cX6_measure 53 = .ok (.getfield 24, 3) := by decide +kernel
theorem dX6_measure_56 : decode cX6_measure 56 = .ok (.iload_n 1, 1) := by decide +kernel
theorem dX6_measure_57 : decode cX6_measure 57 = .ok (.iload_n 1, 1) := by decide +kernel
theorem dX6_measure_58 : decode cX6_measure 58 = .ok (.invokestatic 64, 3) := by decide +kernel
theorem dX6_measure_61 : decode cX6_measure 61 = .ok (.iconst 0, 1) := by decide +kernel
theorem dX6_measure_62 : decode cX6_measure 62 = .ok (.iastore, 1) := by decide +kernel
theorem dX6_measure_63 : decode cX6_measure 63 = .ok (.iinc 1 1, 3) := by decide +kernel
theorem dX6_measure_66 : decode cX6_measure 66 = .ok (.goto (-20), 3) := by decide +kernel
theorem dX6_measure_69 : decode cX6_measure 69 = .ok (.iconst 0, 1) := by decide +kernel
theorem dX6_measure_70 : decode cX6_measure 70 = .ok (.istore_n 1, 1) := by decide +kernel
theorem dX6_measure_71 : decode cX6_measure 71 = .ok (.iload_n 1, 1) := by decide +kernel
theorem dX6_measure_72 : decode cX6_measure 72 = .ok (.bipush 8, 2) := by decide +kernel
theorem dX6_measure_74 : decode cX6_measure 74 = .ok (.if_icmp .ge 85, 3) := by decide +kernel
theorem dX6_measure_77 : decode cX6_measure 77 = .ok (.iconst 0, 1) := by decide +kernel
theorem dX6_measure_78 : decode cX6_measure 78 = .ok (.istore_n 2, 1) := by decide +kernel
theorem dX6_measure_79 : decode cX6_measure 79 = .ok (.iload_n 2, 1) := by decide +kernel
theorem dX6_measure_80 : decode cX6_measure 80 = .ok (.bipush 8, 2) := by decide +kernel
theorem dX6_measure_82 : decode cX6_measure 82 = .ok (.if_icmp .ge 71, 3) := by decide +kernel
theorem dX6_measure_85 : decode cX6_measure 85 = .ok (.iconst 0, 1) := by decide +kernel
theorem dX6_measure_86 : decode cX6_measure 86 = .ok (.istore_n 3, 1) := by decide +kernel
theorem dX6_measure_87 : decode cX6_measure 87 = .ok (.iload_n 3, 1) := by decide +kernel
theorem dX6_measure_88 : decode cX6_measure 88 = .ok (.bipush 8, 2) := by decide +kernel
theorem dX6_measure_90 : decode cX6_measure 90 = .ok (.if_icmp .ge 57, 3) := by decide +kernel
theorem dX6_measure_93 : decode cX6_measure 93 = .ok (.aload_n 0, 1) := by decide +kernel
theorem dX6_measure_94 : decode cX6_measure 94 = .ok (.getfield 24, 3) := by decide +kernel
theorem dX6_measure_97 : decode cX6_measure 97 = .ok (.iload_n 2, 1) := by decide +kernel
theorem dX6_measure_98 : decode cX6_measure 98 = .ok (.iload_n 1, 1) := by decide +kernel
theorem dX6_measure_99 : decode cX6_measure 99 = .ok (.invokestatic 64, 3) := by decide +kernel
theorem dX6_measure_102 : decode cX6_measure 102 = .ok (.iaload, 1) := by decide +kernel
theorem dX6_measure_103 : decode cX6_measure 103 = .ok (.aload_n 0, 1) := by decide +kernel
theorem dX6_measure_104 : decode cX6_measure 104 = .ok (.getfield 24, 3) := by decide +kernel
theorem dX6_measure_107 : decode cX6_measure 107 = .ok (.iload_n 1, 1) := by decide +kernel
theorem dX6_measure_108 : decode cX6_measure 108 = .ok (.iload_n 3, 1) := by decide +kernel
theorem dX6_measure_109 : decode cX6_measure 109 = .ok (.invokestatic 64, 3) := by decide +kernel
theorem dX6_measure_112 : decode cX6_measure 112 = .ok (.iaload, 1) := by decide +kernel
theorem dX6_measure_113 : decode cX6_measure 113 = .ok (.iadd, 1) := by decide +kernel
theorem dX6_measure_114 : decode cX6_measure 114 = .ok (.istore 4, 2) := by decide +kernel
theorem dX6_measure_116 : decode cX6_measure 116 = .ok (.aload_n 0, 1) := by decide +kernel
theorem dX6_measure_117 : decode cX6_measure 117 = .ok (.getfield 24, 3) := by decide +kernel
theorem dX6_measure_120 : decode cX6_measure 120 = .ok (.iload_n 2, 1) := by decide +kernel
theorem dX6_measure_121 : decode cX6_measure 121 = .ok (.iload_n 3, 1) := by decide +kernel
theorem dX6_measure_122 : decode cX6_measure 122 = .ok (.invokestatic 64, 3) := by decide +kernel
theorem dX6_measure_125 : decode cX6_measure 125 = .ok (.aload_n 0, 1) := by decide +kernel
theorem dX6_measure_126 : decode cX6_measure 126 = .ok (.getfield 24, 3) := by decide +kernel
theorem dX6_measure_129 : decode cX6_measure 129 = .ok (.iload_n 2, 1) := by decide +kernel
theorem dX6_measure_130 : decode cX6_measure 130 = .ok (.iload_n 3, 1) := by decide +kernel
theorem dX6_measure_131 : decode cX6_measure 131 = .ok (.invokestatic 64, 3) := by decide +kernel
theorem dX6_measure_134 : decode cX6_measure 134 = .ok (.iaload, 1) := by decide +kernel
theorem dX6_measure_135 : decode cX6_measure 135 = .ok (.iload 4, 2) := by decide +kernel
theorem dX6_measure_137 : decode cX6_measure 137 = .ok (.invokestatic 67, 3) := by decide +kernel
theorem dX6_measure_140 : decode cX6_measure 140 = .ok (.iastore, 1) := by decide +kernel
theorem dX6_measure_141 : decode cX6_measure 141 = .ok (.iinc 3 1, 3) := by decide +kernel
theorem dX6_measure_144 : decode cX6_measure 144 = .ok (.goto (-57), 3) := by decide +kernel
theorem dX6_measure_147 : decode cX6_measure 147 = .ok (.iinc 2 1, 3) := by decide +kernel
theorem dX6_measure_150 : decode cX6_measure 150 = .ok (.goto (-71), 3) := by decide +kernel
theorem dX6_measure_153 : decode cX6_measure 153 = .ok (.iinc 1 1, 3) := by decide +kernel
theorem dX6_measure_156 : decode cX6_measure 156 = .ok (.goto (-85), 3) := by decide +kernel
theorem dX6_measure_159 : decode cX6_measure 159 = .ok (.return_, 1) := by decide +kernel
theorem dX6_firstCorner_0 : decode cX6_firstCorner 0 = .ok (.aload_n 0, 1) := by decide +kernel
theorem dX6_firstCorner_1 : decode cX6_firstCorner 1 = .ok (.iload_n 1, 1) := by decide +kernel
theorem dX6_firstCorner_2 : decode cX6_firstCorner 2 = .ok (.iload_n 2, 1) := by decide +kernel
theorem dX6_firstCorner_3 : decode cX6_firstCorner 3 = .ok (.invokevirtual 72, 3) := by decide +kernel
theorem dX6_firstCorner_6 : decode cX6_firstCorner 6 = .ok (.istore_n 3, 1) := by decide +kernel
theorem dX6_firstCorner_7 : decode cX6_firstCorner 7 = .ok (.iload_n 3, 1) := by decide +kernel
theorem dX6_firstCorner_8 : decode cX6_firstCorner 8 = .ok (.iconst (-1), 1) := by decide +kernel
theorem dX6_firstCorner_9 : decode cX6_firstCorner 9 = .ok (.if_icmp .ne 5, 3) := by decide +kernel
theorem dX6_firstCorner_12 : decode cX6_firstCorner 12 = .ok (.iconst (-1), 1) := by decide +kernel
theorem dX6_firstCorner_13 : decode cX6_firstCorner 13 = .ok (.ireturn, 1) := by decide +kernel
theorem dX6_firstCorner_14 : decode cX6_firstCorner 14 = .ok (.iconst 0, 1) := by decide +kernel
theorem dX6_firstCorner_15 : decode cX6_firstCorner 15 = .ok (.istore 4, 2) := by decide +kernel
theorem dX6_firstCorner_17 : decode cX6_firstCorner 17 = .ok (.iload 4, 2) := by decide +kernel
theorem dX6_firstCorner_19 : decode cX6_firstCorner 19 = .ok (.aload_n 0, 1) := by decide +kernel
theorem dX6_firstCorner_20 : decode cX6_firstCorner 20 = .ok (.getfield 27, 3) := by decide +kernel
theorem dX6_firstCorner_23 : decode cX6_firstCorner 23 = .ok (.if_icmp .ge 40, 3) := by decide +kernel
theorem dX6_firstCorner_26 : decode cX6_firstCorner 26 = .ok (.aload_n 0, 1) := by decide +kernel
theorem dX6_firstCorner_27 : decode cX6_firstCorner 27 = .ok (.iload_n 1, 1) := by decide +kernel
theorem dX6_firstCorner_28 : decode cX6_firstCorner 28 = .ok (.iload 4, 2) := by decide +kernel
theorem dX6_firstCorner_30 : decode cX6_firstCorner 30 = .ok (.invokevirtual 60, 3) := by decide +kernel
theorem dX6_firstCorner_33 : decode cX6_firstCorner 33 = .ok (.istore 5, 2) := by decide +kernel
theorem dX6_firstCorner_35 : decode cX6_firstCorner 35 = .ok (.iload 5, 2) := by decide +kernel
theorem dX6_firstCorner_37 : decode cX6_firstCorner 37 = .ok (.ifCond .le 20, 3) := by decide +kernel
theorem dX6_firstCorner_40 : decode cX6_firstCorner 40 = .ok (.aload_n 0, 1) := by decide +kernel
theorem dX6_firstCorner_41 : decode cX6_firstCorner 41 = .ok (.iload 4, 2) := by decide +kernel
theorem dX6_firstCorner_43 : decode cX6_firstCorner 43 = .ok (.iload_n 2, 1) := by decide +kernel
theorem dX6_firstCorner_44 : decode cX6_firstCorner 44 = .ok (.invokevirtual 72, 3) := by decide +kernel
theorem dX6_firstCorner_47 : decode cX6_firstCorner 47 = .ok (.iload_n 3, 1) := by decide +kernel
theorem dX6_firstCorner_48 : decode cX6_firstCorner 48 = .ok (.iload 5, 2) := by decide +kernel
theorem dX6_firstCorner_50 : decode cX6_firstCorner 50 = .ok (.isub, 1) := by decide +kernel
theorem dX6_firstCorner_51 : decode cX6_firstCorner 51 = .ok (.if_icmp .ne 6, 3) := by decide +kernel
theorem dX6_firstCorner_54 : decode cX6_firstCorner 54 = .ok (.iload 4, 2) := by decide +kernel
theorem dX6_firstCorner_56 : decode cX6_firstCorner 56 = .ok (.ireturn, 1) := by decide +kernel
theorem dX6_firstCorner_57 : decode cX6_firstCorner 57 = .ok (.iinc 4 1, 3) := by decide +kernel
theorem dX6_firstCorner_60 : decode cX6_firstCorner 60 = .ok (.goto (-43), 3) := by decide +kernel
theorem dX6_firstCorner_63 : decode cX6_firstCorner 63 = .ok (.iconst (-1), 1) := by decide +kernel
theorem dX6_firstCorner_64 : decode cX6_firstCorner 64 = .ok (.ireturn, 1) := by decide +kernel
theorem dX6_middle_0 : decode cX6_middle 0 = .ok (.iconst (-1), 1) := by decide +kernel
theorem dX6_middle_1 : decode cX6_middle 1 = .ok (.istore_n 1, 1) := by decide +kernel
theorem dX6_middle_2 : decode cX6_middle 2 = .ok (.iconst 0, 1) := by decide +kernel
theorem dX6_middle_3 : decode cX6_middle 3 = .ok (.istore_n 2, 1) := by decide +kernel
theorem dX6_middle_4 : decode cX6_middle 4 = .ok (.iconst 0, 1) := by decide +kernel
theorem dX6_middle_5 : decode cX6_middle 5 = .ok (.istore_n 3, 1) := by decide +kernel
theorem dX6_middle_6 : decode cX6_middle 6 = .ok (.iload_n 3, 1) := by decide +kernel
theorem dX6_middle_7 : decode cX6_middle 7 = .ok (.aload_n 0, 1) := by decide +kernel
theorem dX6_middle_8 : decode cX6_middle 8 = .ok (.getfield 27, 3) := by decide +kernel
theorem dX6_middle_11 : decode cX6_middle 11 = .ok (.if_icmp .ge 40, 3) := by decide +kernel
theorem dX6_middle_14 : decode cX6_middle 14 = .ok (.aload_n 0, 1) := by decide +kernel
theorem dX6_middle_15 : decode cX6_middle 15 = .ok (.iload_n 3, 1) := by decide +kernel
theorem dX6_middle_16 : decode cX6_middle 16 = .ok (.invokevirtual 75, 3) := by decide +kernel
theorem dX6_middle_19 : decode cX6_middle 19 = .ok (.istore 4, 2) := by decide +kernel
theorem dX6_middle_21 : decode cX6_middle 21 = .ok (.iload 4, 2) := by decide +kernel
theorem dX6_middle_23 : decode cX6_middle 23 = .ok (.sipush 1000, 3) := by decide +kernel
theorem dX6_middle_26 : decode cX6_middle 26 = .ok (.if_icmp .ge 19, 3) := by decide +kernel
theorem dX6_middle_29 : decode cX6_middle 29 = .ok (.iload_n 1, 1) := by decide +kernel
theorem dX6_middle_30 : decode cX6_middle 30 = .ok (.iconst (-1), 1) := by decide +kernel
theorem dX6_middle_31 : decode cX6_middle 31 = .ok (.if_icmp .eq 9, 3) := by decide +kernel
theorem dX6_middle_34 : decode cX6_middle 34 = .ok (.iload 4, 2) := by decide +kernel
theorem dX6_middle_36 : decode cX6_middle 36 = .ok (.iload_n 2, 1) := by decide +kernel
theorem dX6_middle_37 : decode cX6_middle 37 = .ok (.if_icmp .ge 8, 3) := by decide +kernel
theorem dX6_middle_40 : decode cX6_middle 40 = .ok (.iload_n 3, 1) := by decide +kernel
theorem dX6_middle_41 : decode cX6_middle 41 = .ok (.istore_n 1, 1) := by decide +kernel
theorem dX6_middle_42 : decode cX6_middle 42 = .ok (.iload 4, 2) := by decide +kernel
theorem dX6_middle_44 : decode cX6_middle 44 = .ok (.istore_n 2, 1) := by decide +kernel
theorem dX6_middle_45 : decode cX6_middle 45 = .ok (.iinc 3 1, 3) := by decide +kernel
theorem dX6_middle_48 : decode cX6_middle 48 = .ok (.goto (-42), 3) := by decide +kernel
theorem dX6_middle_51 : decode cX6_middle 51 = .ok (.iload_n 1, 1) := by decide +kernel
theorem dX6_middle_52 : decode cX6_middle 52 = .ok (.ireturn, 1) := by decide +kernel
theorem dX6_hoursToAll_0 : decode cX6_hoursToAll 0 = .ok (.iconst 0, 1) := by decide +kernel
theorem dX6_hoursToAll_1 : decode cX6_hoursToAll 1 = .ok (.istore_n 2, 1) := by decide +kernel
theorem dX6_hoursToAll_2 : decode cX6_hoursToAll 2 = .ok (.iconst 0, 1) := by decide +kernel
theorem dX6_hoursToAll_3 : decode cX6_hoursToAll 3 = .ok (.istore_n 3, 1) := by decide +kernel
theorem dX6_hoursToAll_4 : decode cX6_hoursToAll 4 = .ok (.iload_n 3, 1) := by decide +kernel
theorem dX6_hoursToAll_5 : decode cX6_hoursToAll 5 = .ok (.aload_n 0, 1) := by decide +kernel
theorem dX6_hoursToAll_6 : decode cX6_hoursToAll 6 = .ok (.getfield 27, 3) := by decide +kernel
theorem dX6_hoursToAll_9 : decode cX6_hoursToAll 9 = .ok (.if_icmp .ge 34, 3) := by decide +kernel
theorem dX6_hoursToAll_12 : decode cX6_hoursToAll 12 = .ok (.aload_n 0, 1) := by decide +kernel
theorem dX6_hoursToAll_13 : decode cX6_hoursToAll 13 = .ok (.iload_n 1, 1) := by decide +kernel
theorem dX6_hoursToAll_14 : decode cX6_hoursToAll 14 = .ok (.iload_n 3, 1) := by decide +kernel
theorem dX6_hoursToAll_15 : decode cX6_hoursToAll 15 = .ok (.invokevirtual 72, 3) := by decide +kernel
theorem dX6_hoursToAll_18 : decode cX6_hoursToAll 18 = .ok (.istore 4, 2) := by decide +kernel
theorem dX6_hoursToAll_20 : decode cX6_hoursToAll 20 = .ok (.iload_n 2, 1) := by decide +kernel
theorem dX6_hoursToAll_21 : decode cX6_hoursToAll 21 = .ok (.iload 4, 2) := by decide +kernel
theorem dX6_hoursToAll_23 : decode cX6_hoursToAll 23 = .ok (.iconst (-1), 1) := by decide +kernel
theorem dX6_hoursToAll_24 : decode cX6_hoursToAll 24 = .ok (.if_icmp .ne 9, 3) := by decide +kernel
theorem dX6_hoursToAll_27 : decode cX6_hoursToAll 27 = .ok (.sipush 1000, 3) := by decide +kernel
theorem dX6_hoursToAll_30 : decode cX6_hoursToAll 30 = .ok (.goto 5, 3) := by decide +kernel
theorem dX6_hoursToAll_33 : decode cX6_hoursToAll 33 = .ok (.iload 4, 2) := by decide +kernel
theorem dX6_hoursToAll_35 : decode cX6_hoursToAll 35 = .ok (.iadd, 1) := by decide +kernel
theorem dX6_hoursToAll_36 : decode cX6_hoursToAll 36 = .ok (.istore_n 2, 1) := by decide +kernel
theorem dX6_hoursToAll_37 : decode cX6_hoursToAll 37 = .ok (.iinc 3 1, 3) := by decide +kernel
theorem dX6_hoursToAll_40 : decode cX6_hoursToAll 40 = .ok (.goto (-36), 3) := by decide +kernel
theorem dX6_hoursToAll_43 : decode cX6_hoursToAll 43 = .ok (.iload_n 2, 1) := by decide +kernel
theorem dX6_hoursToAll_44 : decode cX6_hoursToAll 44 = .ok (.ireturn, 1) := by decide +kernel
theorem dX6_fewestClosed_0 : decode cX6_fewestClosed 0 = .ok (.aload_n 0, 1) := by decide +kernel
theorem dX6_fewestClosed_1 : decode cX6_fewestClosed 1 = .ok (.getfield 16, 3) := by decide +kernel
theorem dX6_fewestClosed_4 : decode cX6_fewestClosed 4 = .ok (.getfield 31, 3) := by decide +kernel
theorem dX6_fewestClosed_7 : decode cX6_fewestClosed 7 = .ok (.istore_n 3, 1) := by decide +kernel
theorem dX6_fewestClosed_8 : decode cX6_fewestClosed 8 = .ok (.iconst 0, 1) := by decide +kernel
theorem dX6_fewestClosed_9 : decode cX6_fewestClosed 9 = .ok (.istore 4, 2) := by decide +kernel
theorem dX6_fewestClosed_11 : decode cX6_fewestClosed 11 = .ok (.iload 4, 2) := by decide +kernel
theorem dX6_fewestClosed_13 : decode cX6_fewestClosed 13 = .ok (.iconst 1, 1) := by decide +kernel
theorem dX6_fewestClosed_14 : decode cX6_fewestClosed 14 = .ok (.aload_n 0, 1) := by decide +kernel
theorem dX6_fewestClosed_15 : decode cX6_fewestClosed 15 = .ok (.getfield 27, 3) := by decide +kernel
theorem dX6_fewestClosed_18 : decode cX6_fewestClosed 18 = .ok (.ishl, 1) := by decide +kernel
theorem dX6_fewestClosed_19 : decode cX6_fewestClosed 19 = .ok (.if_icmp .ge 39, 3) := by decide +kernel
theorem dX6_fewestClosed_22 : decode cX6_fewestClosed 22 = .ok (.iload 4, 2) := by decide +kernel
theorem dX6_fewestClosed_24 : decode cX6_fewestClosed 24 = .ok (.iload_n 1, 1) := by decide +kernel
theorem dX6_fewestClosed_25 : decode cX6_fewestClosed 25 = .ok (.ishr, 1) := by decide +kernel
theorem dX6_fewestClosed_26 : decode cX6_fewestClosed 26 = .ok (.iconst 1, 1) := by decide +kernel
theorem dX6_fewestClosed_27 : decode cX6_fewestClosed 27 = .ok (.iand, 1) := by decide +kernel
theorem dX6_fewestClosed_28 : decode cX6_fewestClosed 28 = .ok (.iconst 1, 1) := by decide +kernel
theorem dX6_fewestClosed_29 : decode cX6_fewestClosed 29 = .ok (.if_icmp .ne 23, 3) := by decide +kernel
theorem dX6_fewestClosed_32 : decode cX6_fewestClosed 32 = .ok (.iload 4, 2) := by decide +kernel
theorem dX6_fewestClosed_34 : decode cX6_fewestClosed 34 = .ok (.iload_n 2, 1) := by decide +kernel
theorem dX6_fewestClosed_35 : decode cX6_fewestClosed 35 = .ok (.ishr, 1) := by decide +kernel
theorem dX6_fewestClosed_36 : decode cX6_fewestClosed 36 = .ok (.iconst 1, 1) := by decide +kernel
theorem dX6_fewestClosed_37 : decode cX6_fewestClosed 37 = .ok (.iand, 1) := by decide +kernel
theorem dX6_fewestClosed_38 : decode cX6_fewestClosed 38 = .ok (.ifCond .ne 14, 3) := by decide +kernel
theorem dX6_fewestClosed_41 : decode cX6_fewestClosed 41 = .ok (.iload_n 3, 1) := by decide +kernel
theorem dX6_fewestClosed_42 : decode cX6_fewestClosed 42 = .ok (.aload_n 0, 1) := by decide +kernel
theorem dX6_fewestClosed_43 : decode cX6_fewestClosed 43 = .ok (.iload 4, 2) := by decide +kernel
theorem dX6_fewestClosed_45 : decode cX6_fewestClosed 45 = .ok (.invokevirtual 79, 3) := by decide +kernel
theorem dX6_fewestClosed_48 : decode cX6_fewestClosed 48 = .ok (.invokestatic 67, 3) := by decide +kernel
theorem dX6_fewestClosed_51 : decode cX6_fewestClosed 51 = .ok (.istore_n 3, 1) := by decide +kernel
theorem dX6_fewestClosed_52 : decode cX6_fewestClosed 52 = .ok (.iinc 4 1, 3) := by decide +kernel
theorem dX6_fewestClosed_55 : decode cX6_fewestClosed 55 = .ok (.goto (-44), 3) := by decide +kernel
theorem dX6_fewestClosed_58 : decode cX6_fewestClosed 58 = .ok (.iload_n 3, 1) := by decide +kernel
theorem dX6_fewestClosed_59 : decode cX6_fewestClosed 59 = .ok (.ireturn, 1) := by decide +kernel
theorem dX6_roadsOutOf_0 : decode cX6_roadsOutOf 0 = .ok (.iconst 0, 1) := by decide +kernel
theorem dX6_roadsOutOf_1 : decode cX6_roadsOutOf 1 = .ok (.istore_n 2, 1) := by decide +kernel
theorem dX6_roadsOutOf_2 : decode cX6_roadsOutOf 2 = .ok (.iconst 0, 1) := by decide +kernel
theorem dX6_roadsOutOf_3 : decode cX6_roadsOutOf 3 = .ok (.istore_n 3, 1) := by decide +kernel
theorem dX6_roadsOutOf_4 : decode cX6_roadsOutOf 4 = .ok (.iload_n 3, 1) := by decide +kernel
theorem dX6_roadsOutOf_5 : decode cX6_roadsOutOf 5 = .ok (.aload_n 0, 1) := by decide +kernel
theorem dX6_roadsOutOf_6 : decode cX6_roadsOutOf 6 = .ok (.getfield 16, 3) := by decide +kernel
theorem dX6_roadsOutOf_9 : decode cX6_roadsOutOf 9 = .ok (.getfield 31, 3) := by decide +kernel
theorem dX6_roadsOutOf_12 : decode cX6_roadsOutOf 12 = .ok (.if_icmp .ge 41, 3) := by decide +kernel
theorem dX6_roadsOutOf_15 : decode cX6_roadsOutOf 15 = .ok (.iload_n 1, 1) := by decide +kernel
theorem dX6_roadsOutOf_16 : decode cX6_roadsOutOf 16 = .ok (.aload_n 0, 1) := by decide +kernel
theorem dX6_roadsOutOf_17 : decode cX6_roadsOutOf 17 = .ok (.getfield 16, 3) := by decide +kernel
theorem dX6_roadsOutOf_20 : decode cX6_roadsOutOf 20 = .ok (.iload_n 3, 1) := by decide +kernel
theorem dX6_roadsOutOf_21 : decode cX6_roadsOutOf 21 = .ok (.iconst 0, 1) := by decide +kernel
theorem dX6_roadsOutOf_22 : decode cX6_roadsOutOf 22 = .ok (.invokevirtual 82, 3) := by decide +kernel
theorem dX6_roadsOutOf_25 : decode cX6_roadsOutOf 25 = .ok (.ishr, 1) := by decide +kernel
theorem dX6_roadsOutOf_26 : decode cX6_roadsOutOf 26 = .ok (.iconst 1, 1) := by decide +kernel
theorem dX6_roadsOutOf_27 : decode cX6_roadsOutOf 27 = .ok (.iand, 1) := by decide +kernel
theorem dX6_roadsOutOf_28 : decode cX6_roadsOutOf 28 = .ok (.iload_n 1, 1) := by decide +kernel
theorem dX6_roadsOutOf_29 : decode cX6_roadsOutOf 29 = .ok (.aload_n 0, 1) := by decide +kernel
theorem dX6_roadsOutOf_30 : decode cX6_roadsOutOf 30 = .ok (.getfield 16, 3) := by decide +kernel
theorem dX6_roadsOutOf_33 : decode cX6_roadsOutOf 33 = .ok (.iload_n 3, 1) := by decide +kernel
theorem dX6_roadsOutOf_34 : decode cX6_roadsOutOf 34 = .ok (.iconst 1, 1) := by decide +kernel
theorem dX6_roadsOutOf_35 : decode cX6_roadsOutOf 35 = .ok (.invokevirtual 82, 3) := by decide +kernel
theorem dX6_roadsOutOf_38 : decode cX6_roadsOutOf 38 = .ok (.ishr, 1) := by decide +kernel
theorem dX6_roadsOutOf_39 : decode cX6_roadsOutOf 39 = .ok (.iconst 1, 1) := by decide +kernel
theorem dX6_roadsOutOf_40 : decode cX6_roadsOutOf 40 = .ok (.iand, 1) := by decide +kernel
theorem dX6_roadsOutOf_41 : decode cX6_roadsOutOf 41 = .ok (.if_icmp .eq 6, 3) := by decide +kernel
theorem dX6_roadsOutOf_44 : decode cX6_roadsOutOf 44 = .ok (.iinc 2 1, 3) := by decide +kernel
theorem dX6_roadsOutOf_47 : decode cX6_roadsOutOf 47 = .ok (.iinc 3 1, 3) := by decide +kernel
theorem dX6_roadsOutOf_50 : decode cX6_roadsOutOf 50 = .ok (.goto (-46), 3) := by decide +kernel
theorem dX6_roadsOutOf_53 : decode cX6_roadsOutOf 53 = .ok (.iload_n 2, 1) := by decide +kernel
theorem dX6_roadsOutOf_54 : decode cX6_roadsOutOf 54 = .ok (.ireturn, 1) := by decide +kernel
theorem dX7_init_0 : decode cX7_init 0 = .ok (.aload_n 0, 1) := by decide +kernel
theorem dX7_init_1 : decode cX7_init 1 = .ok (.invokespecial 3, 3) := by decide +kernel
theorem dX7_init_4 : decode cX7_init 4 = .ok (.aload_n 0, 1) := by decide +kernel
theorem dX7_init_5 : decode cX7_init 5 = .ok (.iload_n 2, 1) := by decide +kernel
theorem dX7_init_6 : decode cX7_init 6 = .ok (.putfield 9, 3) := by decide +kernel
theorem dX7_init_9 : decode cX7_init 9 = .ok (.aload_n 0, 1) := by decide +kernel
theorem dX7_init_10 : decode cX7_init 10 = .ok (.iload_n 1, 1) := by decide +kernel
theorem dX7_init_11 : decode cX7_init 11 = .ok (.iload_n 2, 1) := by decide +kernel
theorem dX7_init_12 : decode cX7_init 12 = .ok (.imul, 1) := by decide +kernel
theorem dX7_init_13 : decode cX7_init 13 = .ok (.newarray .int, 2) := by decide +kernel
theorem dX7_init_15 : decode cX7_init 15 = .ok (.putfield 15, 3) := by decide +kernel
theorem dX7_init_18 : decode cX7_init 18 = .ok (.return_, 1) := by decide +kernel
theorem dX7_isFull_0 : decode cX7_isFull 0 = .ok (.aload_n 0, 1) := by decide +kernel
theorem dX7_isFull_1 : decode cX7_isFull 1 = .ok (.getfield 19, 3) := by decide +kernel
theorem dX7_isFull_4 : decode cX7_isFull 4 = .ok (.iconst 1, 1) := by decide +kernel
theorem dX7_isFull_5 : decode cX7_isFull 5 = .ok (.iadd, 1) := by decide +kernel
theorem dX7_isFull_6 : decode cX7_isFull 6 = .ok (.aload_n 0, 1) := by decide +kernel
theorem dX7_isFull_7 : decode cX7_isFull 7 = .ok (.getfield 9, 3) := by decide +kernel
theorem dX7_isFull_10 : decode cX7_isFull 10 = .ok (.imul, 1) := by decide +kernel
theorem dX7_isFull_11 : decode cX7_isFull 11 = .ok (.aload_n 0, 1) := by decide +kernel
theorem dX7_isFull_12 : decode cX7_isFull 12 = .ok (.getfield 15, 3) := by decide +kernel
theorem dX7_isFull_15 : decode cX7_isFull 15 = .ok (.arraylength, 1) := by decide +kernel
theorem dX7_isFull_16 : decode cX7_isFull 16 = .ok (.if_icmp .le 7, 3) := by decide +kernel
theorem dX7_isFull_19 : decode cX7_isFull 19 = .ok (.iconst 1, 1) := by decide +kernel
theorem dX7_isFull_20 : decode cX7_isFull 20 = .ok (.goto 4, 3) := by decide +kernel
theorem dX7_isFull_23 : decode cX7_isFull 23 = .ok (.iconst 0, 1) := by decide +kernel
theorem dX7_isFull_24 : decode cX7_isFull 24 = .ok (.ireturn, 1) := by decide +kernel
theorem dX7_add_0 : decode cX7_add 0 = .ok (.aload_n 0, 1) := by decide +kernel
theorem dX7_add_1 : decode cX7_add 1 = .ok (.invokevirtual 22, 3) := by decide +kernel
theorem dX7_add_4 : decode cX7_add 4 = .ok (.ifCond .eq 5, 3) := by decide +kernel
theorem dX7_add_7 : decode cX7_add 7 = .ok (.iconst (-1), 1) := by decide +kernel
theorem dX7_add_8 : decode cX7_add 8 = .ok (.ireturn, 1) := by decide +kernel
theorem dX7_add_9 : decode cX7_add 9 = .ok (.aload_n 0, 1) := by decide +kernel
theorem dX7_add_10 : decode cX7_add 10 = .ok (.dup, 1) := by decide +kernel
theorem dX7_add_11 : decode cX7_add 11 = .ok (.getfield 19, 3) := by decide +kernel
theorem dX7_add_14 : decode cX7_add 14 = .ok (.iconst 1, 1) := by decide +kernel
theorem dX7_add_15 : decode cX7_add 15 = .ok (.iadd, 1) := by decide +kernel
theorem dX7_add_16 : decode cX7_add 16 = .ok (.putfield 19, 3) := by decide +kernel
theorem dX7_add_19 : decode cX7_add 19 = .ok (.iconst 0, 1) := by decide +kernel
theorem dX7_add_20 : decode cX7_add 20 = .ok (.istore_n 1, 1) := by decide +kernel
theorem dX7_add_21 : decode cX7_add 21 = .ok (.iload_n 1, 1) := by decide +kernel
theorem dX7_add_22 : decode cX7_add 22 = .ok (.aload_n 0, 1) := by decide +kernel
theorem dX7_add_23 : decode cX7_add 23 = .ok (.getfield 9, 3) := by decide +kernel
theorem dX7_add_26 : decode cX7_add 26 = .ok (.if_icmp .ge 21, 3) := by decide +kernel
theorem dX7_add_29 : decode cX7_add 29 = .ok (.aload_n 0, 1) := by decide +kernel
theorem dX7_add_30 : decode cX7_add 30 = .ok (.aload_n 0, 1) := by decide +kernel
theorem dX7_add_31 : decode cX7_add 31 = .ok (.getfield 19, 3) := by decide +kernel
theorem dX7_add_34 : decode cX7_add 34 = .ok (.iconst 1, 1) := by decide +kernel
theorem dX7_add_35 : decode cX7_add 35 = .ok (.isub, 1) := by decide +kernel
theorem dX7_add_36 : decode cX7_add 36 = .ok (.iload_n 1, 1) := by decide +kernel
theorem dX7_add_37 : decode cX7_add 37 = .ok (.iconst 0, 1) := by decide +kernel
theorem dX7_add_38 : decode cX7_add 38 = .ok (.invokevirtual 26, 3) := by decide +kernel
theorem dX7_add_41 : decode cX7_add 41 = .ok (.iinc 1 1, 3) := by decide +kernel
theorem dX7_add_44 : decode cX7_add 44 = .ok (.goto (-23), 3) := by decide +kernel
theorem dX7_add_47 : decode cX7_add 47 = .ok (.aload_n 0, 1) := by decide +kernel
theorem dX7_add_48 : decode cX7_add 48 = .ok (.getfield 19, 3) := by decide +kernel
theorem dX7_add_51 : decode cX7_add 51 = .ok (.iconst 1, 1) := by decide +kernel
theorem dX7_add_52 : decode cX7_add 52 = .ok (.isub, 1) := by decide +kernel
theorem dX7_add_53 : decode cX7_add 53 = .ok (.ireturn, 1) := by decide +kernel
theorem dX7_get_0 : decode cX7_get 0 = .ok (.iload_n 1, 1) := by decide +kernel
theorem dX7_get_1 : decode cX7_get 1 = .ok (.ifCond .lt 27, 3) := by decide +kernel
theorem dX7_get_4 : decode cX7_get 4 = .ok (.iload_n 1, 1) := by decide +kernel
theorem dX7_get_5 : decode cX7_get 5 = .ok (.aload_n 0, 1) := by decide +kernel
theorem dX7_get_6 : decode cX7_get 6 = .ok (.getfield 19, 3) := by decide +kernel
theorem dX7_get_9 : decode cX7_get 9 = .ok (.if_icmp .ge 19, 3) := by decide +kernel
theorem dX7_get_12 : decode cX7_get 12 = .ok (.iload_n 2, 1) := by decide +kernel
theorem dX7_get_13 : decode cX7_get 13 = .ok (.ifCond .lt 15, 3) := by decide +kernel
theorem dX7_get_16 : decode cX7_get 16 = .ok (.iload_n 2, 1) := by decide +kernel
theorem dX7_get_17 : decode cX7_get 17 = .ok (.aload_n 0, 1) := by decide +kernel
theorem dX7_get_18 : decode cX7_get 18 = .ok (.getfield 9, 3) := by decide +kernel
theorem dX7_get_21 : decode cX7_get 21 = .ok (.if_icmp .ge 7, 3) := by decide +kernel
theorem dX7_get_24 : decode cX7_get 24 = .ok (.iconst 1, 1) := by decide +kernel
theorem dX7_get_25 : decode cX7_get 25 = .ok (.goto 4, 3) := by decide +kernel
theorem dX7_get_28 : decode cX7_get 28 = .ok (.iconst 0, 1) := by decide +kernel
theorem dX7_get_29 : decode cX7_get 29 = .ok (.istore_n 3, 1) := by decide +kernel
theorem dX7_get_30 : decode cX7_get 30 = .ok (.iload_n 3, 1) := by decide +kernel
theorem dX7_get_31 : decode cX7_get 31 = .ok (.ifCond .eq 19, 3) := by decide +kernel
theorem dX7_get_34 : decode cX7_get 34 = .ok (.aload_n 0, 1) := by decide +kernel
theorem dX7_get_35 : decode cX7_get 35 = .ok (.getfield 15, 3) := by decide +kernel
theorem dX7_get_38 : decode cX7_get 38 = .ok (.iload_n 1, 1) := by decide +kernel
theorem dX7_get_39 : decode cX7_get 39 = .ok (.aload_n 0, 1) := by decide +kernel
theorem dX7_get_40 : decode cX7_get 40 = .ok (.getfield 9, 3) := by decide +kernel
theorem dX7_get_43 : decode cX7_get 43 = .ok (.imul, 1) := by decide +kernel
theorem dX7_get_44 : decode cX7_get 44 = .ok (.iload_n 2, 1) := by decide +kernel
theorem dX7_get_45 : decode cX7_get 45 = .ok (.iadd, 1) := by decide +kernel
theorem dX7_get_46 : decode cX7_get 46 = .ok (.iaload, 1) := by decide +kernel
theorem dX7_get_47 : decode cX7_get 47 = .ok (.goto 4, 3) := by decide +kernel
theorem dX7_get_50 : decode cX7_get 50 = .ok (.iconst 0, 1) := by decide +kernel
theorem dX7_get_51 : decode cX7_get 51 = .ok (.ireturn, 1) := by decide +kernel
theorem dX7_set_0 : decode cX7_set 0 = .ok (.iload_n 1, 1) := by decide +kernel
theorem dX7_set_1 : decode cX7_set 1 = .ok (.ifCond .lt 37, 3) := by decide +kernel
theorem dX7_set_4 : decode cX7_set 4 = .ok (.iload_n 1, 1) := by decide +kernel
theorem dX7_set_5 : decode cX7_set 5 = .ok (.aload_n 0, 1) := by decide +kernel
theorem dX7_set_6 : decode cX7_set 6 = .ok (.getfield 19, 3) := by decide +kernel
theorem dX7_set_9 : decode cX7_set 9 = .ok (.if_icmp .ge 29, 3) := by decide +kernel
theorem dX7_set_12 : decode cX7_set 12 = .ok (.iload_n 2, 1) := by decide +kernel
theorem dX7_set_13 : decode cX7_set 13 = .ok (.ifCond .lt 25, 3) := by decide +kernel
theorem dX7_set_16 : decode cX7_set 16 = .ok (.iload_n 2, 1) := by decide +kernel
theorem dX7_set_17 : decode cX7_set 17 = .ok (.aload_n 0, 1) := by decide +kernel
theorem dX7_set_18 : decode cX7_set 18 = .ok (.getfield 9, 3) := by decide +kernel
theorem dX7_set_21 : decode cX7_set 21 = .ok (.if_icmp .ge 17, 3) := by decide +kernel
theorem dX7_set_24 : decode cX7_set 24 = .ok (.aload_n 0, 1) := by decide +kernel
theorem dX7_set_25 : decode cX7_set 25 = .ok (.getfield 15, 3) := by decide +kernel
theorem dX7_set_28 : decode cX7_set 28 = .ok (.iload_n 1, 1) := by decide +kernel
theorem dX7_set_29 : decode cX7_set 29 = .ok (.aload_n 0, 1) := by decide +kernel
theorem dX7_set_30 : decode cX7_set 30 = .ok (.getfield 9, 3) := by decide +kernel
theorem dX7_set_33 : decode cX7_set 33 = .ok (.imul, 1) := by decide +kernel
theorem dX7_set_34 : decode cX7_set 34 = .ok (.iload_n 2, 1) := by decide +kernel
theorem dX7_set_35 : decode cX7_set 35 = .ok (.iadd, 1) := by decide +kernel
theorem dX7_set_36 : decode cX7_set 36 = .ok (.iload_n 3, 1) := by decide +kernel
theorem dX7_set_37 : decode cX7_set 37 = .ok (.iastore, 1) := by decide +kernel
theorem dX7_set_38 : decode cX7_set 38 = .ok (.return_, 1) := by decide +kernel
theorem dX7_raiseBy_0 : decode cX7_raiseBy 0 = .ok (.aload_n 0, 1) := by decide +kernel
theorem dX7_raiseBy_1 : decode cX7_raiseBy 1 = .ok (.iload_n 1, 1) := by decide +kernel
theorem dX7_raiseBy_2 : decode cX7_raiseBy 2 = .ok (.iload_n 2, 1) := by decide +kernel
theorem dX7_raiseBy_3 : decode cX7_raiseBy 3 = .ok (.aload_n 0, 1) := by decide +kernel
theorem dX7_raiseBy_4 : decode cX7_raiseBy 4 = .ok (.iload_n 1, 1) := by decide +kernel
theorem dX7_raiseBy_5 : decode cX7_raiseBy 5 = .ok (.iload_n 2, 1) := by decide +kernel
theorem dX7_raiseBy_6 : decode cX7_raiseBy 6 = .ok (.invokevirtual 30, 3) := by decide +kernel
theorem dX7_raiseBy_9 : decode cX7_raiseBy 9 = .ok (.iload_n 3, 1) := by decide +kernel
theorem dX7_raiseBy_10 : decode cX7_raiseBy 10 = .ok (.iadd, 1) := by decide +kernel
theorem dX7_raiseBy_11 : decode cX7_raiseBy 11 = .ok (.invokevirtual 26, 3) := by decide +kernel
theorem dX7_raiseBy_14 : decode cX7_raiseBy 14 = .ok (.return_, 1) := by decide +kernel
theorem dX7_sum_0 : decode cX7_sum 0 = .ok (.iconst 0, 1) := by decide +kernel
theorem dX7_sum_1 : decode cX7_sum 1 = .ok (.istore_n 2, 1) := by decide +kernel
theorem dX7_sum_2 : decode cX7_sum 2 = .ok (.iconst 0, 1) := by decide +kernel
theorem dX7_sum_3 : decode cX7_sum 3 = .ok (.istore_n 3, 1) := by decide +kernel
theorem dX7_sum_4 : decode cX7_sum 4 = .ok (.iload_n 3, 1) := by decide +kernel
theorem dX7_sum_5 : decode cX7_sum 5 = .ok (.aload_n 0, 1) := by decide +kernel
theorem dX7_sum_6 : decode cX7_sum 6 = .ok (.getfield 19, 3) := by decide +kernel
theorem dX7_sum_9 : decode cX7_sum 9 = .ok (.if_icmp .ge 18, 3) := by decide +kernel
theorem dX7_sum_12 : decode cX7_sum 12 = .ok (.iload_n 2, 1) := by decide +kernel
theorem dX7_sum_13 : decode cX7_sum 13 = .ok (.aload_n 0, 1) := by decide +kernel
theorem dX7_sum_14 : decode cX7_sum 14 = .ok (.iload_n 3, 1) := by decide +kernel
theorem dX7_sum_15 : decode cX7_sum 15 = .ok (.iload_n 1, 1) := by decide +kernel
theorem dX7_sum_16 : decode cX7_sum 16 = .ok (.invokevirtual 30, 3) := by decide +kernel
theorem dX7_sum_19 : decode cX7_sum 19 = .ok (.iadd, 1) := by decide +kernel
theorem dX7_sum_20 : decode cX7_sum 20 = .ok (.istore_n 2, 1) := by decide +kernel
theorem dX7_sum_21 : decode cX7_sum 21 = .ok (.iinc 3 1, 3) := by decide +kernel
theorem dX7_sum_24 : decode cX7_sum 24 = .ok (.goto (-20), 3) := by decide +kernel
theorem dX7_sum_27 : decode cX7_sum 27 = .ok (.iload_n 2, 1) := by decide +kernel
theorem dX7_sum_28 : decode cX7_sum 28 = .ok (.ireturn, 1) := by decide +kernel
theorem dX7_withValue_0 : decode cX7_withValue 0 = .ok (.iconst 0, 1) := by decide +kernel
theorem dX7_withValue_1 : decode cX7_withValue 1 = .ok (.istore_n 3, 1) := by decide +kernel
theorem dX7_withValue_2 : decode cX7_withValue 2 = .ok (.iconst 0, 1) := by decide +kernel
theorem dX7_withValue_3 : decode cX7_withValue 3 = .ok (.istore 4, 2) := by decide +kernel
theorem dX7_withValue_5 : decode cX7_withValue 5 = .ok (.iload 4, 2) := by decide +kernel
theorem dX7_withValue_7 : decode cX7_withValue 7 = .ok (.aload_n 0, 1) := by decide +kernel
theorem dX7_withValue_8 : decode cX7_withValue 8 = .ok (.getfield 19, 3) := by decide +kernel
theorem dX7_withValue_11 : decode cX7_withValue 11 = .ok (.if_icmp .ge 27, 3) := by decide +kernel
theorem dX7_withValue_14 : decode cX7_withValue 14 = .ok (.aload_n 0, 1) := by decide +kernel
theorem dX7_withValue_15 : decode cX7_withValue 15 = .ok (.iload 4, 2) := by decide +kernel
theorem dX7_withValue_17 : decode cX7_withValue 17 = .ok (.iload_n 1, 1) := by decide +kernel
theorem dX7_withValue_18 : decode cX7_withValue 18 = .ok (.invokevirtual 30, 3) := by decide +kernel
theorem dX7_withValue_21 : decode cX7_withValue 21 = .ok (.iload_n 2, 1) := by decide +kernel
theorem dX7_withValue_22 : decode cX7_withValue 22 = .ok (.if_icmp .ne 10, 3) := by decide +kernel
theorem dX7_withValue_25 : decode cX7_withValue 25 = .ok (.iload_n 3, 1) := by decide +kernel
theorem dX7_withValue_26 : decode cX7_withValue 26 = .ok (.iconst 1, 1) := by decide +kernel
theorem dX7_withValue_27 : decode cX7_withValue 27 = .ok (.iload 4, 2) := by decide +kernel
theorem dX7_withValue_29 : decode cX7_withValue 29 = .ok (.ishl, 1) := by decide +kernel
theorem dX7_withValue_30 : decode cX7_withValue 30 = .ok (.ior, 1) := by decide +kernel
theorem dX7_withValue_31 : decode cX7_withValue 31 = .ok (.istore_n 3, 1) := by decide +kernel
theorem dX7_withValue_32 : decode cX7_withValue 32 = .ok (.iinc 4 1, 3) := by decide +kernel
theorem dX7_withValue_35 : decode cX7_withValue 35 = .ok (.goto (-30), 3) := by decide +kernel
theorem dX7_withValue_38 : decode cX7_withValue 38 = .ok (.iload_n 3, 1) := by decide +kernel
theorem dX7_withValue_39 : decode cX7_withValue 39 = .ok (.ireturn, 1) := by decide +kernel
theorem dX7_copyFrom_0 : decode cX7_copyFrom 0 = .ok (.aload_n 1, 1) := by decide +kernel
theorem dX7_copyFrom_1 : decode cX7_copyFrom 1 = .ok (.getfield 15, 3) := by decide +kernel
theorem dX7_copyFrom_4 : decode cX7_copyFrom 4 = .ok (.arraylength, 1) := by decide +kernel
theorem dX7_copyFrom_5 : decode cX7_copyFrom 5 = .ok (.aload_n 0, 1) := by decide +kernel
theorem dX7_copyFrom_6 : decode cX7_copyFrom 6 = .ok (.getfield 15, 3) := by decide +kernel
theorem dX7_copyFrom_9 : decode cX7_copyFrom 9 = .ok (.arraylength, 1) := by decide +kernel
theorem dX7_copyFrom_10 : decode cX7_copyFrom 10 = .ok (.if_icmp .ne 29, 3) := by decide +kernel
theorem dX7_copyFrom_13 : decode cX7_copyFrom 13 = .ok (.aload_n 1, 1) := by decide +kernel
theorem dX7_copyFrom_14 : decode cX7_copyFrom 14 = .ok (.getfield 15, 3) := by decide +kernel
theorem dX7_copyFrom_17 : decode cX7_copyFrom 17 = .ok (.iconst 0, 1) := by decide +kernel
theorem dX7_copyFrom_18 : decode cX7_copyFrom 18 = .ok (.aload_n 0, 1) := by decide +kernel
theorem dX7_copyFrom_19 : decode cX7_copyFrom 19 = .ok (.getfield 15, 3) := by decide +kernel
theorem dX7_copyFrom_22 : decode cX7_copyFrom 22 = .ok (.iconst 0, 1) := by decide +kernel
theorem dX7_copyFrom_23 : decode cX7_copyFrom 23 = .ok (.aload_n 0, 1) := by decide +kernel
theorem dX7_copyFrom_24 : decode cX7_copyFrom 24 = .ok (.getfield 15, 3) := by decide +kernel
theorem dX7_copyFrom_27 : decode cX7_copyFrom 27 = .ok (.arraylength, 1) := by decide +kernel
theorem dX7_copyFrom_28 : decode cX7_copyFrom 28 = .ok (.invokestatic 34, 3) := by decide +kernel
theorem dX7_copyFrom_31 : decode cX7_copyFrom 31 = .ok (.aload_n 0, 1) := by decide +kernel
theorem dX7_copyFrom_32 : decode cX7_copyFrom 32 = .ok (.aload_n 1, 1) := by decide +kernel
theorem dX7_copyFrom_33 : decode cX7_copyFrom 33 = .ok (.getfield 19, 3) := by decide +kernel
theorem dX7_copyFrom_36 : decode cX7_copyFrom 36 = .ok (.putfield 19, 3) := by decide +kernel
theorem dX7_copyFrom_39 : decode cX7_copyFrom 39 = .ok (.return_, 1) := by decide +kernel
theorem dX8_init_0 : decode cX8_init 0 = .ok (.aload_n 0, 1) := by decide +kernel
theorem dX8_init_1 : decode cX8_init 1 = .ok (.invokespecial 3, 3) := by decide +kernel
theorem dX8_init_4 : decode cX8_init 4 = .ok (.aload_n 0, 1) := by decide +kernel
theorem dX8_init_5 : decode cX8_init 5 = .ok (.sipush 900, 3) := by decide +kernel
theorem dX8_init_8 : decode cX8_init 8 = .ok (.newarray .int, 2) := by decide +kernel
theorem dX8_init_10 : decode cX8_init 10 = .ok (.putfield 11, 3) := by decide +kernel
theorem dX8_init_13 : decode cX8_init 13 = .ok (.aload_n 0, 1) := by decide +kernel
theorem dX8_init_14 : decode cX8_init 14 = .ok (.iconst (-1), 1) := by decide +kernel
theorem dX8_init_15 : decode cX8_init 15 = .ok (.putfield 15, 3) := by decide +kernel
theorem dX8_init_18 : decode cX8_init 18 = .ok (.return_, 1) := by decide +kernel
theorem dX8_hasRoomFor_0 : decode cX8_hasRoomFor 0 = .ok (.aload_n 0, 1) := by decide +kernel
theorem dX8_hasRoomFor_1 : decode cX8_hasRoomFor 1 = .ok (.getfield 19, 3) := by decide +kernel
theorem dX8_hasRoomFor_4 : decode cX8_hasRoomFor 4 = .ok (.iload_n 1, 1) := by decide +kernel
theorem dX8_hasRoomFor_5 : decode cX8_hasRoomFor 5 = .ok (.iadd, 1) := by decide +kernel
theorem dX8_hasRoomFor_6 : decode cX8_hasRoomFor 6 = .ok (.sipush 900, 3) := by decide +kernel
theorem dX8_hasRoomFor_9 : decode cX8_hasRoomFor 9 = .ok (.if_icmp .gt 7, 3) := by decide +kernel
theorem dX8_hasRoomFor_12 : decode cX8_hasRoomFor 12 = .ok (.iconst 1, 1) := by decide +kernel
theorem dX8_hasRoomFor_13 : decode cX8_hasRoomFor 13 = .ok (.goto 4, 3) := by decide +kernel
theorem dX8_hasRoomFor_16 : decode cX8_hasRoomFor 16 = .ok (.iconst 0, 1) := by decide +kernel
theorem dX8_hasRoomFor_17 : decode cX8_hasRoomFor 17 = .ok (.ireturn, 1) := by decide +kernel
theorem dX8_append_0 : decode cX8_append 0 = .ok (.aload_n 0, 1) := by decide +kernel
theorem dX8_append_1 : decode cX8_append 1 = .ok (.iconst 4, 1) := by decide +kernel
theorem dX8_append_2 : decode cX8_append 2 = .ok (.invokevirtual 22, 3) := by decide +kernel
theorem dX8_append_5 : decode cX8_append 5 = .ok (.ifCond .eq 80, 3) := by decide +kernel
theorem dX8_append_8 : decode cX8_append 8 = .ok (.aload_n 0, 1) := by decide +kernel
theorem dX8_append_9 : decode cX8_append 9 = .ok (.getfield 11, 3) := by decide +kernel
theorem dX8_append_12 : decode cX8_append 12 = .ok (.aload_n 0, 1) := by decide +kernel
theorem dX8_append_13 : decode cX8_append 13 = .ok (.getfield 19, 3) := by decide +kernel
theorem dX8_append_16 : decode cX8_append 16 = .ok (.iload_n 1, 1) := by decide +kernel
theorem dX8_append_17 : decode cX8_append 17 = .ok (.bipush 24, 2) := by decide +kernel
theorem dX8_append_19 : decode cX8_append 19 = .ok (.iushr, 1) := by decide +kernel
theorem dX8_append_20 : decode cX8_append 20 = .ok (.iastore, 1) := by decide +kernel
theorem dX8_append_21 : decode cX8_append 21 = .ok (.aload_n 0, 1) := by decide +kernel
theorem dX8_append_22 : decode cX8_append 22 = .ok (.getfield 11, 3) := by decide +kernel
theorem dX8_append_25 : decode cX8_append 25 = .ok (.aload_n 0, 1) := by decide +kernel
theorem dX8_append_26 : decode cX8_append 26 = .ok (.getfield 19, 3) := by decide +kernel
theorem dX8_append_29 : decode cX8_append 29 = .ok (.iconst 1, 1) := by decide +kernel
theorem dX8_append_30 : decode cX8_append 30 = .ok (.iadd, 1) := by decide +kernel
theorem dX8_append_31 : decode cX8_append 31 = .ok (.iload_n 1, 1) := by decide +kernel
theorem dX8_append_32 : decode cX8_append 32 = .ok (.bipush 16, 2) := by decide +kernel
theorem dX8_append_34 : decode cX8_append 34 = .ok (.iushr, 1) := by decide +kernel
theorem dX8_append_35 : decode cX8_append 35 = .ok (.sipush 255, 3) := by decide +kernel
theorem dX8_append_38 : decode cX8_append 38 = .ok (.iand, 1) := by decide +kernel
theorem dX8_append_39 : decode cX8_append 39 = .ok (.iastore, 1) := by decide +kernel
theorem dX8_append_40 : decode cX8_append 40 = .ok (.aload_n 0, 1) := by decide +kernel
theorem dX8_append_41 : decode cX8_append 41 = .ok (.getfield 11, 3) := by decide +kernel
theorem dX8_append_44 : decode cX8_append 44 = .ok (.aload_n 0, 1) := by decide +kernel
theorem dX8_append_45 : decode cX8_append 45 = .ok (.getfield 19, 3) := by decide +kernel
theorem dX8_append_48 : decode cX8_append 48 = .ok (.iconst 2, 1) := by decide +kernel
theorem dX8_append_49 : decode cX8_append 49 = .ok (.iadd, 1) := by decide +kernel
theorem dX8_append_50 : decode cX8_append 50 = .ok (.iload_n 1, 1) := by decide +kernel
theorem dX8_append_51 : decode cX8_append 51 = .ok (.bipush 8, 2) := by decide +kernel
theorem dX8_append_53 : decode cX8_append 53 = .ok (.iushr, 1) := by decide +kernel
theorem dX8_append_54 : decode cX8_append 54 = .ok (.sipush 255, 3) := by decide +kernel
theorem dX8_append_57 : decode cX8_append 57 = .ok (.iand, 1) := by decide +kernel
theorem dX8_append_58 : decode cX8_append 58 = .ok (.iastore, 1) := by decide +kernel
theorem dX8_append_59 : decode cX8_append 59 = .ok (.aload_n 0, 1) := by decide +kernel
theorem dX8_append_60 : decode cX8_append 60 = .ok (.getfield 11, 3) := by decide +kernel
theorem dX8_append_63 : decode cX8_append 63 = .ok (.aload_n 0, 1) := by decide +kernel
theorem dX8_append_64 : decode cX8_append 64 = .ok (.getfield 19, 3) := by decide +kernel
theorem dX8_append_67 : decode cX8_append 67 = .ok (.iconst 3, 1) := by decide +kernel
theorem dX8_append_68 : decode cX8_append 68 = .ok (.iadd, 1) := by decide +kernel
theorem dX8_append_69 : decode cX8_append 69 = .ok (.iload_n 1, 1) := by decide +kernel
theorem dX8_append_70 : decode cX8_append 70 = .ok (.sipush 255, 3) := by decide +kernel
theorem dX8_append_73 : decode cX8_append 73 = .ok (.iand, 1) := by decide +kernel
theorem dX8_append_74 : decode cX8_append 74 = .ok (.iastore, 1) := by decide +kernel
theorem dX8_append_75 : decode cX8_append 75 = .ok (.aload_n 0, 1) := by decide +kernel
theorem dX8_append_76 : decode cX8_append 76 = .ok (.dup, 1) := by decide +kernel
theorem dX8_append_77 : decode cX8_append 77 = .ok (.getfield 19, 3) := by decide +kernel
theorem dX8_append_80 : decode cX8_append 80 = .ok (.iconst 4, 1) := by decide +kernel
theorem dX8_append_81 : decode cX8_append 81 = .ok (.iadd, 1) := by decide +kernel
theorem dX8_append_82 : decode cX8_append 82 = .ok (.putfield 19, 3) := by decide +kernel
theorem dX8_append_85 : decode cX8_append 85 = .ok (.return_, 1) := by decide +kernel
theorem dX8_begin_0 : decode cX8_begin 0 = .ok (.aload_n 0, 1) := by decide +kernel
theorem dX8_begin_1 : decode cX8_begin 1 = .ok (.iconst 0, 1) := by decide +kernel
theorem dX8_begin_2 : decode cX8_begin 2 = .ok (.iload_n 1, 1) := by decide +kernel
theorem dX8_begin_3 : decode cX8_begin 3 = .ok (.aload_n 0, 1) := by decide +kernel
theorem dX8_begin_4 : decode cX8_begin 4 = .ok (.getfield 19, 3) := by decide +kernel
theorem dX8_begin_7 : decode cX8_begin 7 = .ok (.invokestatic 26, 3) := by decide +kernel
theorem dX8_begin_10 : decode cX8_begin 10 = .ok (.invokestatic 32, 3) := by decide +kernel
theorem dX8_begin_13 : decode cX8_begin 13 = .ok (.putfield 35, 3) := by decide +kernel
theorem dX8_begin_16 : decode cX8_begin 16 = .ok (.aload_n 0, 1) := by decide +kernel
theorem dX8_begin_17 : decode cX8_begin 17 = .ok (.iconst 0, 1) := by decide +kernel
theorem dX8_begin_18 : decode cX8_begin 18 = .ok (.putfield 19, 3) := by decide +kernel
theorem dX8_begin_21 : decode cX8_begin 21 = .ok (.aload_n 0, 1) := by decide +kernel
theorem dX8_begin_22 : decode cX8_begin 22 = .ok (.iconst 0, 1) := by decide +kernel
theorem dX8_begin_23 : decode cX8_begin 23 = .ok (.putfield 38, 3) := by decide +kernel
theorem dX8_begin_26 : decode cX8_begin 26 = .ok (.aload_n 0, 1) := by decide +kernel
theorem dX8_begin_27 : decode cX8_begin 27 = .ok (.iconst 0, 1) := by decide +kernel
theorem dX8_begin_28 : decode cX8_begin 28 = .ok (.putfield 41, 3) := by decide +kernel
theorem dX8_begin_31 : decode cX8_begin 31 = .ok (.aload_n 0, 1) := by decide +kernel
theorem dX8_begin_32 : decode cX8_begin 32 = .ok (.iconst (-1), 1) := by decide +kernel
theorem dX8_begin_33 : decode cX8_begin 33 = .ok (.putfield 15, 3) := by decide +kernel
theorem dX8_begin_36 : decode cX8_begin 36 = .ok (.aload_n 0, 1) := by decide +kernel
theorem dX8_begin_37 : decode cX8_begin 37 = .ok (.invokevirtual 44, 3) := by decide +kernel
theorem dX8_begin_40 : decode cX8_begin 40 = .ok (.return_, 1) := by decide +kernel
theorem dX8_isOpen_0 : decode cX8_isOpen 0 = .ok (.aload_n 0, 1) := by decide +kernel
theorem dX8_isOpen_1 : decode cX8_isOpen 1 = .ok (.getfield 41, 3) := by decide +kernel
theorem dX8_isOpen_4 : decode cX8_isOpen 4 = .ok (.ifCond .ne 14, 3) := by decide +kernel
theorem dX8_isOpen_7 : decode cX8_isOpen 7 = .ok (.aload_n 0, 1) := by decide +kernel
theorem dX8_isOpen_8 : decode cX8_isOpen 8 = .ok (.getfield 47, 3) := by decide +kernel
theorem dX8_isOpen_11 : decode cX8_isOpen 11 = .ok (.ifCond .eq 7, 3) := by decide +kernel
theorem dX8_isOpen_14 : decode cX8_isOpen 14 = .ok (.iconst 1, 1) := by decide +kernel
theorem dX8_isOpen_15 : decode cX8_isOpen 15 = .ok (.goto 4, 3) := by decide +kernel
theorem dX8_isOpen_18 : decode cX8_isOpen 18 = .ok (.iconst 0, 1) := by decide +kernel
theorem dX8_isOpen_19 : decode cX8_isOpen 19 = .ok (.ireturn, 1) := by decide +kernel
