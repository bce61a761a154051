theorem dX12_overOf_25 : decode cX12_overOf 25 = .ok (.iconst 1, 1) := by decide +kernel
theorem dX12_overOf_26 : decode cX12_overOf 26 = .ok (.istore_n 3, 1) := by decide +kernel
theorem dX12_overOf_27 : decode cX12_overOf 27 = .ok (.iload_n 3, 1) := by decide +kernel
theorem dX12_overOf_28 : decode cX12_overOf 28 = .ok (.sipush 300, 3) := by decide +kernel
theorem dX12_overOf_31 : decode cX12_overOf 31 = .ok (.if_icmp .gt 33, 3) := by decide +kernel
theorem dX12_overOf_34 : decode cX12_overOf 34 = .ok (.iload_n 2, 1) := by decide +kernel
theorem dX12_overOf_35 : decode cX12_overOf 35 = .ok (.iconst (-1), 1) := by decide +kernel
theorem dX12_overOf_36 : decode cX12_overOf 36 = .ok (.if_icmp .ne 28, 3) := by decide +kernel
theorem dX12_overOf_39 : decode cX12_overOf 39 = .ok (.aload_n 0, 1) := by decide +kernel
theorem dX12_overOf_40 : decode cX12_overOf 40 = .ok (.invokevirtual 354, 3) := by decide +kernel
theorem dX12_overOf_43 : decode cX12_overOf 43 = .ok (.pop, 1) := by decide +kernel
theorem dX12_overOf_44 : decode cX12_overOf 44 = .ok (.aload_n 0, 1) := by decide +kernel
theorem dX12_overOf_45 : decode cX12_overOf 45 = .ok (.iload_n 1, 1) := by decide +kernel
theorem dX12_overOf_46 : decode cX12_overOf 46 = .ok (.invokevirtual 333, 3) := by decide +kernel
theorem dX12_overOf_49 : decode cX12_overOf 49 = .ok (.ifCond .eq 7, 3) := by decide +kernel
theorem dX12_overOf_52 : decode cX12_overOf 52 = .ok (.iconst (-1), 1) := by decide +kernel
theorem dX12_overOf_53 : decode cX12_overOf 53 = .ok (.goto 4, 3) := by decide +kernel
theorem dX12_overOf_56 : decode cX12_overOf 56 = .ok (.iload_n 3, 1) := by decide +kernel
theorem dX12_overOf_57 : decode cX12_overOf 57 = .ok (.istore_n 2, 1) := by decide +kernel
theorem dX12_overOf_58 : decode cX12_overOf 58 = .ok (.iinc 3 1, 3) := by decide +kernel
theorem dX12_overOf_61 : decode cX12_overOf 61 = .ok (.goto (-34), 3) := by decide +kernel
theorem dX12_overOf_64 : decode cX12_overOf 64 = .ok (.aload_n 0, 1) := by decide +kernel
theorem dX12_overOf_65 : decode cX12_overOf 65 = .ok (.aload_n 0, 1) := by decide +kernel
theorem dX12_overOf_66 : decode cX12_overOf 66 = .ok (.iload_n 1, 1) := by decide +kernel
theorem dX12_overOf_67 : decode cX12_overOf 67 = .ok (.iconst 3, 1) := by decide +kernel
theorem dX12_overOf_68 : decode cX12_overOf 68 = .ok (.invokevirtual 278, 3) := by decide +kernel
theorem dX12_overOf_71 : decode cX12_overOf 71 = .ok (.putfield 393, 3) := by decide +kernel
theorem dX12_overOf_74 : decode cX12_overOf 74 = .ok (.aload_n 0, 1) := by decide +kernel
theorem dX12_overOf_75 : decode cX12_overOf 75 = .ok (.sipush 2970, 3) := by decide +kernel
theorem dX12_overOf_78 : decode cX12_overOf 78 = .ok (.invokevirtual 384, 3) := by decide +kernel
theorem dX12_overOf_81 : decode cX12_overOf 81 = .ok (.iload_n 2, 1) := by decide +kernel
theorem dX12_overOf_82 : decode cX12_overOf 82 = .ok (.ireturn, 1) := by decide +kernel
theorem dX12_overIn_0 : decode cX12_overIn 0 = .ok (.aload_n 0, 1) := by decide +kernel
theorem dX12_overIn_1 : decode cX12_overIn 1 = .ok (.iload_n 1, 1) := by decide +kernel
theorem dX12_overIn_2 : decode cX12_overIn 2 = .ok (.invokevirtual 296, 3) := by decide +kernel
theorem dX12_overIn_5 : decode cX12_overIn 5 = .ok (.ifCond .eq 15, 3) := by decide +kernel
theorem dX12_overIn_8 : decode cX12_overIn 8 = .ok (.aload_n 0, 1) := by decide +kernel
theorem dX12_overIn_9 : decode cX12_overIn 9 = .ok (.aload_n 0, 1) := by decide +kernel
theorem dX12_overIn_10 : decode cX12_overIn 10 = .ok (.iload_n 1, 1) := by decide +kernel
theorem dX12_overIn_11 : decode cX12_overIn 11 = .ok (.invokevirtual 396, 3) := by decide +kernel
theorem dX12_overIn_14 : decode cX12_overIn 14 = .ok (.invokevirtual 324, 3) := by decide +kernel
theorem dX12_overIn_17 : decode cX12_overIn 17 = .ok (.goto 8, 3) := by decide +kernel
theorem dX12_overIn_20 : decode cX12_overIn 20 = .ok (.aload_n 0, 1) := by decide +kernel
theorem dX12_overIn_21 : decode cX12_overIn 21 = .ok (.iconst 1, 1) := by decide +kernel
theorem dX12_overIn_22 : decode cX12_overIn 22 = .ok (.invokevirtual 85, 3) := by decide +kernel
theorem dX12_overIn_25 : decode cX12_overIn 25 = .ok (.ireturn, 1) := by decide +kernel
theorem dX12_becomes_0 : decode cX12_becomes 0 = .ok (.aload_n 0, 1) := by decide +kernel
theorem dX12_becomes_1 : decode cX12_becomes 1 = .ok (.iload_n 1, 1) := by decide +kernel
theorem dX12_becomes_2 : decode cX12_becomes 2 = .ok (.invokevirtual 296, 3) := by decide +kernel
theorem dX12_becomes_5 : decode cX12_becomes 5 = .ok (.ifCond .ne 9, 3) := by decide +kernel
theorem dX12_becomes_8 : decode cX12_becomes 8 = .ok (.aload_n 0, 1) := by decide +kernel
theorem dX12_becomes_9 : decode cX12_becomes 9 = .ok (.iconst 1, 1) := by decide +kernel
theorem dX12_becomes_10 : decode cX12_becomes 10 = .ok (.invokevirtual 85, 3) := by decide +kernel
theorem dX12_becomes_13 : decode cX12_becomes 13 = .ok (.ireturn, 1) := by decide +kernel
theorem dX12_becomes_14 : decode cX12_becomes 14 = .ok (.aload_n 0, 1) := by decide +kernel
theorem dX12_becomes_15 : decode cX12_becomes 15 = .ok (.iload_n 1, 1) := by decide +kernel
theorem dX12_becomes_16 : decode cX12_becomes 16 = .ok (.invokevirtual 396, 3) := by decide +kernel
theorem dX12_becomes_19 : decode cX12_becomes 19 = .ok (.iconst (-1), 1) := by decide +kernel
theorem dX12_becomes_20 : decode cX12_becomes 20 = .ok (.if_icmp .ne 12, 3) := by decide +kernel
theorem dX12_becomes_23 : decode cX12_becomes 23 = .ok (.aload_n 0, 1) := by decide +kernel
theorem dX12_becomes_24 : decode cX12_becomes 24 = .ok (.bipush 6, 2) := by decide +kernel
theorem dX12_becomes_26 : decode cX12_becomes 26 = .ok (.invokevirtual 85, 3) := by decide +kernel
theorem dX12_becomes_29 : decode cX12_becomes 29 = .ok (.goto 11, 3) := by decide +kernel
theorem dX12_becomes_32 : decode cX12_becomes 32 = .ok (.aload_n 0, 1) := by decide +kernel
theorem dX12_becomes_33 : decode cX12_becomes 33 = .ok (.aload_n 0, 1) := by decide +kernel
theorem dX12_becomes_34 : decode cX12_becomes 34 = .ok (.getfield 393, 3) := by decide +kernel
theorem dX12_becomes_37 : decode cX12_becomes 37 = .ok (.invokevirtual 89, 3) := by decide +kernel
theorem dX12_becomes_40 : decode cX12_becomes 40 = .ok (.ireturn, 1) := by decide +kernel
theorem dX12_wagesIn_0 : decode cX12_wagesIn 0 = .ok (.aload_n 0, 1) := by decide +kernel
theorem dX12_wagesIn_1 : decode cX12_wagesIn 1 = .ok (.iload_n 1, 1) := by decide +kernel
theorem dX12_wagesIn_2 : decode cX12_wagesIn 2 = .ok (.invokevirtual 293, 3) := by decide +kernel
theorem dX12_wagesIn_5 : decode cX12_wagesIn 5 = .ok (.ifCond .eq 28, 3) := by decide +kernel
theorem dX12_wagesIn_8 : decode cX12_wagesIn 8 = .ok (.iload_n 2, 1) := by decide +kernel
theorem dX12_wagesIn_9 : decode cX12_wagesIn 9 = .ok (.invokestatic 387, 3) := by decide +kernel
theorem dX12_wagesIn_12 : decode cX12_wagesIn 12 = .ok (.ifCond .eq 21, 3) := by decide +kernel
theorem dX12_wagesIn_15 : decode cX12_wagesIn 15 = .ok (.aload_n 0, 1) := by decide +kernel
theorem dX12_wagesIn_16 : decode cX12_wagesIn 16 = .ok (.aload_n 0, 1) := by decide +kernel
theorem dX12_wagesIn_17 : decode cX12_wagesIn 17 = .ok (.iload_n 1, 1) := by decide +kernel
theorem dX12_wagesIn_18 : decode cX12_wagesIn 18 = .ok (.invokestatic 211, 3) := by decide +kernel
theorem dX12_wagesIn_21 : decode cX12_wagesIn 21 = .ok (.iconst 3, 1) := by decide +kernel
theorem dX12_wagesIn_22 : decode cX12_wagesIn 22 = .ok (.iadd, 1) := by decide +kernel
theorem dX12_wagesIn_23 : decode cX12_wagesIn 23 = .ok (.iload_n 2, 1) := by decide +kernel
theorem dX12_wagesIn_24 : decode cX12_wagesIn 24 = .ok (.invokevirtual 390, 3) := by decide +kernel
theorem dX12_wagesIn_27 : decode cX12_wagesIn 27 = .ok (.invokevirtual 89, 3) := by decide +kernel
theorem dX12_wagesIn_30 : decode cX12_wagesIn 30 = .ok (.goto 8, 3) := by decide +kernel
theorem dX12_wagesIn_33 : decode cX12_wagesIn 33 = .ok (.aload_n 0, 1) := by decide +kernel
theorem dX12_wagesIn_34 : decode cX12_wagesIn 34 = .ok (.iconst 1, 1) := by decide +kernel
theorem dX12_wagesIn_35 : decode cX12_wagesIn 35 = .ok (.invokevirtual 85, 3) := by decide +kernel
theorem dX12_wagesIn_38 : decode cX12_wagesIn 38 = .ok (.ireturn, 1) := by decide +kernel
theorem dX12_warnedIn_0 : decode cX12_warnedIn 0 = .ok (.aload_n 0, 1) := by decide +kernel
theorem dX12_warnedIn_1 : decode cX12_warnedIn 1 = .ok (.iload_n 1, 1) := by decide +kernel
theorem dX12_warnedIn_2 : decode cX12_warnedIn 2 = .ok (.invokevirtual 305, 3) := by decide +kernel
theorem dX12_warnedIn_5 : decode cX12_warnedIn 5 = .ok (.ifCond .eq 28, 3) := by decide +kernel
theorem dX12_warnedIn_8 : decode cX12_warnedIn 8 = .ok (.iload_n 2, 1) := by decide +kernel
theorem dX12_warnedIn_9 : decode cX12_warnedIn 9 = .ok (.invokestatic 387, 3) := by decide +kernel
theorem dX12_warnedIn_12 : decode cX12_warnedIn 12 = .ok (.ifCond .eq 21, 3) := by decide +kernel
theorem dX12_warnedIn_15 : decode cX12_warnedIn 15 = .ok (.aload_n 0, 1) := by decide +kernel
theorem dX12_warnedIn_16 : decode cX12_warnedIn 16 = .ok (.aload_n 0, 1) := by decide +kernel
theorem dX12_warnedIn_17 : decode cX12_warnedIn 17 = .ok (.iload_n 1, 1) := by decide +kernel
theorem dX12_warnedIn_18 : decode cX12_warnedIn 18 = .ok (.invokestatic 217, 3) := by decide +kernel
theorem dX12_warnedIn_21 : decode cX12_warnedIn 21 = .ok (.iconst 2, 1) := by decide +kernel
theorem dX12_warnedIn_22 : decode cX12_warnedIn 22 = .ok (.iadd, 1) := by decide +kernel
theorem dX12_warnedIn_23 : decode cX12_warnedIn 23 = .ok (.iload_n 2, 1) := by decide +kernel
theorem dX12_warnedIn_24 : decode cX12_warnedIn 24 = .ok (.invokevirtual 390, 3) := by decide +kernel
theorem dX12_warnedIn_27 : decode cX12_warnedIn 27 = .ok (.invokevirtual 89, 3) := by decide +kernel
theorem dX12_warnedIn_30 : decode cX12_warnedIn 30 = .ok (.goto 8, 3) := by decide +kernel
theorem dX12_warnedIn_33 : decode cX12_warnedIn 33 = .ok (.aload_n 0, 1) := by decide +kernel
theorem dX12_warnedIn_34 : decode cX12_warnedIn 34 = .ok (.iconst 1, 1) := by decide +kernel
theorem dX12_warnedIn_35 : decode cX12_warnedIn 35 = .ok (.invokevirtual 85, 3) := by decide +kernel
theorem dX12_warnedIn_38 : decode cX12_warnedIn 38 = .ok (.ireturn, 1) := by decide +kernel
theorem dX12_ahead0_0 : decode cX12_ahead0 0 = .ok (.iconst 0, 1) := by decide +kernel
theorem dX12_ahead0_1 : decode cX12_ahead0 1 = .ok (.istore_n 1, 1) := by decide +kernel
theorem dX12_ahead0_2 : decode cX12_ahead0 2 = .ok (.iconst 0, 1) := by decide +kernel
theorem dX12_ahead0_3 : decode cX12_ahead0 3 = .ok (.istore_n 2, 1) := by decide +kernel
theorem dX12_ahead0_4 : decode cX12_ahead0 4 = .ok (.iload_n 2, 1) := by decide +kernel
theorem dX12_ahead0_5 : decode cX12_ahead0 5 = .ok (.aload_n 0, 1) := by decide +kernel
theorem dX12_ahead0_6 : decode cX12_ahead0 6 = .ok (.getfield 7, 3) := by decide +kernel
theorem dX12_ahead0_9 : decode cX12_ahead0 9 = .ok (.iconst 3, 1) := by decide +kernel
theorem dX12_ahead0_10 : decode cX12_ahead0 10 = .ok (.iaload, 1) := by decide +kernel
theorem dX12_ahead0_11 : decode cX12_ahead0 11 = .ok (.if_icmp .ge 43, 3) := by decide +kernel
theorem dX12_ahead0_14 : decode cX12_ahead0 14 = .ok (.iload_n 1, 1) := by decide +kernel
theorem dX12_ahead0_15 : decode cX12_ahead0 15 = .ok (.aload_n 0, 1) := by decide +kernel
theorem dX12_ahead0_16 : decode cX12_ahead0 16 = .ok (.iload_n 2, 1) := by decide +kernel
theorem dX12_ahead0_17 : decode cX12_ahead0 17 = .ok (.invokevirtual 333, 3) := by decide +kernel
theorem dX12_ahead0_20 : decode cX12_ahead0 20 = .ok (.ifCond .eq 25, 3) := by decide +kernel
theorem dX12_ahead0_23 : decode cX12_ahead0 23 = .ok (.aload_n 0, 1) := by decide +kernel
theorem dX12_ahead0_24 : decode cX12_ahead0 24 = .ok (.iload_n 2, 1) := by decide +kernel
theorem dX12_ahead0_25 : decode cX12_ahead0 25 = .ok (.iconst 1, 1) := by decide +kernel
theorem dX12_ahead0_26 : decode cX12_ahead0 26 = .ok (.invokevirtual 278, 3) := by decide +kernel
theorem dX12_ahead0_29 : decode cX12_ahead0 29 = .ok (.aload_n 0, 1) := by decide +kernel
theorem dX12_ahead0_30 : decode cX12_ahead0 30 = .ok (.getfield 7, 3) := by decide +kernel
theorem dX12_ahead0_33 : decode cX12_ahead0 33 = .ok (.bipush 8, 2) := by decide +kernel
theorem dX12_ahead0_35 : decode cX12_ahead0 35 = .ok (.iaload, 1) := by decide +kernel
theorem dX12_ahead0_36 : decode cX12_ahead0 36 = .ok (.if_icmp .lt 9, 3) := by decide +kernel
theorem dX12_ahead0_39 : decode cX12_ahead0 39 = .ok (.iconst 1, 1) := by decide +kernel
theorem dX12_ahead0_40 : decode cX12_ahead0 40 = .ok (.iload_n 2, 1) := by decide +kernel
theorem dX12_ahead0_41 : decode cX12_ahead0 41 = .ok (.ishl, 1) := by decide +kernel
theorem dX12_ahead0_42 : decode cX12_ahead0 42 = .ok (.goto 4, 3) := by decide +kernel
theorem dX12_ahead0_45 : decode cX12_ahead0 45 = .ok (.iconst 0, 1) := by decide +kernel
theorem dX12_ahead0_46 : decode cX12_ahead0 46 = .ok (.ior, 1) := by decide +kernel
theorem dX12_ahead0_47 : decode cX12_ahead0 47 = .ok (.istore_n 1, 1) := by decide +kernel
theorem dX12_ahead0_48 : decode cX12_ahead0 48 = .ok (.iinc 2 1, 3) := by decide +kernel
theorem dX12_ahead0_51 : decode cX12_ahead0 51 = .ok (.goto (-47), 3) := by decide +kernel
theorem dX12_ahead0_54 : decode cX12_ahead0 54 = .ok (.iload_n 1, 1) := by decide +kernel
theorem dX12_ahead0_55 : decode cX12_ahead0 55 = .ok (.ireturn, 1) := by decide +kernel
theorem dX12_canAttend_0 : decode cX12_canAttend 0 = .ok (.aload_n 0, 1) := by decide +kernel
theorem dX12_canAttend_1 : decode cX12_canAttend 1 = .ok (.iload_n 1, 1) := by decide +kernel
theorem dX12_canAttend_2 : decode cX12_canAttend 2 = .ok (.iconst 0, 1) := by decide +kernel
theorem dX12_canAttend_3 : decode cX12_canAttend 3 = .ok (.invokevirtual 275, 3) := by decide +kernel
theorem dX12_canAttend_6 : decode cX12_canAttend 6 = .ok (.bipush 10, 2) := by decide +kernel
theorem dX12_canAttend_8 : decode cX12_canAttend 8 = .ok (.irem, 1) := by decide +kernel
theorem dX12_canAttend_9 : decode cX12_canAttend 9 = .ok (.istore_n 3, 1) := by decide +kernel
theorem dX12_canAttend_10 : decode cX12_canAttend 10 = .ok (.aload_n 0, 1) := by decide +kernel
theorem dX12_canAttend_11 : decode cX12_canAttend 11 = .ok (.getfield 7, 3) := by decide +kernel
theorem dX12_canAttend_14 : decode cX12_canAttend 14 = .ok (.bipush 8, 2) := by decide +kernel
theorem dX12_canAttend_16 : decode cX12_canAttend 16 = .ok (.iaload, 1) := by decide +kernel
theorem dX12_canAttend_17 : decode cX12_canAttend 17 = .ok (.aload_n 0, 1) := by decide +kernel
theorem dX12_canAttend_18 : decode cX12_canAttend 18 = .ok (.iload_n 1, 1) := by decide +kernel
theorem dX12_canAttend_19 : decode cX12_canAttend 19 = .ok (.invokevirtual 281, 3) := by decide +kernel
theorem dX12_canAttend_22 : decode cX12_canAttend 22 = .ok (.ifCond .eq 7, 3) := by decide +kernel
theorem dX12_canAttend_25 : decode cX12_canAttend 25 = .ok (.iconst 0, 1) := by decide +kernel
theorem dX12_canAttend_26 : decode cX12_canAttend 26 = .ok (.goto 9, 3) := by decide +kernel
theorem dX12_canAttend_29 : decode cX12_canAttend 29 = .ok (.aload_n 0, 1) := by decide +kernel
theorem dX12_canAttend_30 : decode cX12_canAttend 30 = .ok (.iload_n 1, 1) := by decide +kernel
theorem dX12_canAttend_31 : decode cX12_canAttend 31 = .ok (.iconst 1, 1) := by decide +kernel
theorem dX12_canAttend_32 : decode cX12_canAttend 32 = .ok (.invokevirtual 275, 3) := by decide +kernel
theorem dX12_canAttend_35 : decode cX12_canAttend 35 = .ok (.iadd, 1) := by decide +kernel
theorem dX12_canAttend_36 : decode cX12_canAttend 36 = .ok (.iconst 1, 1) := by decide +kernel
theorem dX12_canAttend_37 : decode cX12_canAttend 37 = .ok (.isub, 1) := by decide +kernel
theorem dX12_canAttend_38 : decode cX12_canAttend 38 = .ok (.istore 4, 2) := by decide +kernel
theorem dX12_canAttend_40 : decode cX12_canAttend 40 = .ok (.iload_n 2, 1) := by decide +kernel
theorem dX12_canAttend_41 : decode cX12_canAttend 41 = .ok (.istore 5, 2) := by decide +kernel
theorem dX12_canAttend_43 : decode cX12_canAttend 43 = .ok (.iload 5, 2) := by decide +kernel
theorem dX12_canAttend_45 : decode cX12_canAttend 45 = .ok (.ifCond .eq 73, 3) := by decide +kernel
theorem dX12_canAttend_48 : decode cX12_canAttend 48 = .ok (.aload_n 0, 1) := by decide +kernel
theorem dX12_canAttend_49 : decode cX12_canAttend 49 = .ok (.iload 5, 2) := by decide +kernel
theorem dX12_canAttend_51 : decode cX12_canAttend 51 = .ok (.invokevirtual 336, 3) := by decide +kernel
theorem dX12_canAttend_54 : decode cX12_canAttend 54 = .ok (.istore 6, 2) := by decide +kernel
theorem dX12_canAttend_56 : decode cX12_canAttend 56 = .ok (.iload 5, 2) := by decide +kernel
theorem dX12_canAttend_58 : decode cX12_canAttend 58 = .ok (.iconst 1, 1) := by decide +kernel
theorem dX12_canAttend_59 : decode cX12_canAttend 59 = .ok (.iload 6, 2) := by decide +kernel
theorem dX12_canAttend_61 : decode cX12_canAttend 61 = .ok (.ishl, 1) := by decide +kernel
theorem dX12_canAttend_62 : decode cX12_canAttend 62 = .ok (.iconst (-1), 1) := by decide +kernel
theorem dX12_canAttend_63 : decode cX12_canAttend 63 = .ok (.ixor, 1) := by decide +kernel
theorem dX12_canAttend_64 : decode cX12_canAttend 64 = .ok (.iand, 1) := by decide +kernel
theorem dX12_canAttend_65 : decode cX12_canAttend 65 = .ok (.istore 5, 2) := by decide +kernel
theorem dX12_canAttend_67 : decode cX12_canAttend 67 = .ok (.aload_n 0, 1) := by decide +kernel
theorem dX12_canAttend_68 : decode cX12_canAttend 68 = .ok (.iload 6, 2) := by decide +kernel
theorem dX12_canAttend_70 : decode cX12_canAttend 70 = .ok (.iconst 1, 1) := by decide +kernel
theorem dX12_canAttend_71 : decode cX12_canAttend 71 = .ok (.invokevirtual 278, 3) := by decide +kernel
theorem dX12_canAttend_74 : decode cX12_canAttend 74 = .ok (.istore 7, 2) := by decide +kernel
theorem dX12_canAttend_76 : decode cX12_canAttend 76 = .ok (.aload_n 0, 1) := by decide +kernel
theorem dX12_canAttend_77 : decode cX12_canAttend 77 = .ok (.getfield 47, 3) := by decide +kernel
theorem dX12_canAttend_80 : decode cX12_canAttend 80 = .ok (.bipush 8, 2) := by decide +kernel
theorem dX12_canAttend_82 : decode cX12_canAttend 82 = .ok (.iload_n 3, 1) := by decide +kernel
theorem dX12_canAttend_83 : decode cX12_canAttend 83 = .ok (.imul, 1) := by decide +kernel
theorem dX12_canAttend_84 : decode cX12_canAttend 84 = .ok (.aload_n 0, 1) := by decide +kernel
theorem dX12_canAttend_85 : decode cX12_canAttend 85 = .ok (.iload 6, 2) := by decide +kernel
theorem dX12_canAttend_87 : decode cX12_canAttend 87 = .ok (.iconst 0, 1) := by decide +kernel
theorem dX12_canAttend_88 : decode cX12_canAttend 88 = .ok (.invokevirtual 278, 3) := by decide +kernel
theorem dX12_canAttend_91 : decode cX12_canAttend 91 = .ok (.iadd, 1) := by decide +kernel
theorem dX12_canAttend_92 : decode cX12_canAttend 92 = .ok (.iaload, 1) := by decide +kernel
theorem dX12_canAttend_93 : decode cX12_canAttend 93 = .ok (.iload 7, 2) := by decide +kernel
theorem dX12_canAttend_95 : decode cX12_canAttend 95 = .ok (.iload 4, 2) := by decide +kernel
theorem dX12_canAttend_97 : decode cX12_canAttend 97 = .ok (.isub, 1) := by decide +kernel
theorem dX12_canAttend_98 : decode cX12_canAttend 98 = .ok (.if_icmp .le 5, 3) := by decide +kernel
theorem dX12_canAttend_101 : decode cX12_canAttend 101 = .ok (.iconst 0, 1) := by decide +kernel
theorem dX12_canAttend_102 : decode cX12_canAttend 102 = .ok (.ireturn, 1) := by decide +kernel
theorem dX12_canAttend_103 : decode cX12_canAttend 103 = .ok (.aload_n 0, 1) := by decide +kernel
theorem dX12_canAttend_104 : decode cX12_canAttend 104 = .ok (.iload 6, 2) := by decide +kernel
theorem dX12_canAttend_106 : decode cX12_canAttend 106 = .ok (.iconst 0, 1) := by decide +kernel
theorem dX12_canAttend_107 : decode cX12_canAttend 107 = .ok (.invokevirtual 278, 3) := by decide +kernel
theorem dX12_canAttend_110 : decode cX12_canAttend 110 = .ok (.istore_n 3, 1) := by decide +kernel
theorem dX12_canAttend_111 : decode cX12_canAttend 111 = .ok (.iload 7, 2) := by decide +kernel
theorem dX12_canAttend_113 : decode cX12_canAttend 113 = .ok (.istore 4, 2) := by decide +kernel
theorem dX12_canAttend_115 : decode cX12_canAttend 115 = .ok (.goto (-72), 3) := by decide +kernel
theorem dX12_canAttend_118 : decode cX12_canAttend 118 = .ok (.iconst 1, 1) := by decide +kernel
theorem dX12_canAttend_119 : decode cX12_canAttend 119 = .ok (.ireturn, 1) := by decide +kernel
theorem dX12_attends_0 : decode cX12_attends 0 = .ok (.aload_n 0, 1) := by decide +kernel
theorem dX12_attends_1 : decode cX12_attends 1 = .ok (.iload_n 1, 1) := by decide +kernel
theorem dX12_attends_2 : decode cX12_attends 2 = .ok (.invokevirtual 293, 3) := by decide +kernel
theorem dX12_attends_5 : decode cX12_attends 5 = .ok (.ifCond .eq 22, 3) := by decide +kernel
theorem dX12_attends_8 : decode cX12_attends 8 = .ok (.iload_n 2, 1) := by decide +kernel
theorem dX12_attends_9 : decode cX12_attends 9 = .ok (.i2l, 1) := by decide +kernel
theorem dX12_attends_10 : decode cX12_attends 10 = .ok (.lconst 0, 1) := by decide +kernel
theorem dX12_attends_11 : decode cX12_attends 11 = .ok (.lconst 1, 1) := by decide +kernel
theorem dX12_attends_12 : decode cX12_attends 12 = .ok (.aload_n 0, 1) := by decide +kernel
theorem dX12_attends_13 : decode cX12_attends 13 = .ok (.getfield 7, 3) := by decide +kernel
theorem dX12_attends_16 : decode cX12_attends 16 = .ok (.iconst 3, 1) := by decide +kernel
theorem dX12_attends_17 : decode cX12_attends 17 = .ok (.iaload, 1) := by decide +kernel
theorem dX12_attends_18 : decode cX12_attends 18 = .ok (.lshl, 1) := by decide +kernel
theorem dX12_attends_19 : decode cX12_attends 19 = .ok (.lconst 1, 1) := by decide +kernel
theorem dX12_attends_20 : decode cX12_attends 20 = .ok (.lsub, 1) := by decide +kernel
theorem dX12_attends_21 : decode cX12_attends 21 = .ok (.invokestatic 359, 3) := by decide +kernel
theorem dX12_attends_24 : decode cX12_attends 24 = .ok (.ifCond .ne 9, 3) := by decide +kernel
theorem dX12_attends_27 : decode cX12_attends 27 = .ok (.aload_n 0, 1) := by decide +kernel
theorem dX12_attends_28 : decode cX12_attends 28 = .ok (.iconst 1, 1) := by decide +kernel
theorem dX12_attends_29 : decode cX12_attends 29 = .ok (.invokevirtual 85, 3) := by decide +kernel
theorem dX12_attends_32 : decode cX12_attends 32 = .ok (.ireturn, 1) := by decide +kernel
theorem dX12_attends_33 : decode cX12_attends 33 = .ok (.iload_n 2, 1) := by decide +kernel
theorem dX12_attends_34 : decode cX12_attends 34 = .ok (.aload_n 0, 1) := by decide +kernel
theorem dX12_attends_35 : decode cX12_attends 35 = .ok (.invokevirtual 399, 3) := by decide +kernel
theorem dX12_attends_38 : decode cX12_attends 38 = .ok (.iconst (-1), 1) := by decide +kernel
theorem dX12_attends_39 : decode cX12_attends 39 = .ok (.ixor, 1) := by decide +kernel
theorem dX12_attends_40 : decode cX12_attends 40 = .ok (.iand, 1) := by decide +kernel
theorem dX12_attends_41 : decode cX12_attends 41 = .ok (.ifCond .eq 10, 3) := by decide +kernel
theorem dX12_attends_44 : decode cX12_attends 44 = .ok (.aload_n 0, 1) := by decide +kernel
theorem dX12_attends_45 : decode cX12_attends 45 = .ok (.bipush 7, 2) := by decide +kernel
theorem dX12_attends_47 : decode cX12_attends 47 = .ok (.invokevirtual 85, 3) := by decide +kernel
theorem dX12_attends_50 : decode cX12_attends 50 = .ok (.ireturn, 1) := by decide +kernel
theorem dX12_attends_51 : decode cX12_attends 51 = .ok (.aload_n 0, 1) := by decide +kernel
theorem dX12_attends_52 : decode cX12_attends 52 = .ok (.invokevirtual 318, 3) := by decide +kernel
theorem dX12_attends_55 : decode cX12_attends 55 = .ok (.aload_n 0, 1) := by decide +kernel
theorem dX12_attends_56 : decode cX12_attends 56 = .ok (.aload_n 0, 1) := by decide +kernel
theorem dX12_attends_57 : decode cX12_attends 57 = .ok (.iload_n 1, 1) := by decide +kernel
theorem dX12_attends_58 : decode cX12_attends 58 = .ok (.iload_n 2, 1) := by decide +kernel
theorem dX12_attends_59 : decode cX12_attends 59 = .ok (.invokevirtual 402, 3) := by decide +kernel
theorem dX12_attends_62 : decode cX12_attends 62 = .ok (.ifCond .eq 7, 3) := by decide +kernel
theorem dX12_attends_65 : decode cX12_attends 65 = .ok (.iconst 1, 1) := by decide +kernel
theorem dX12_attends_66 : decode cX12_attends 66 = .ok (.goto 4, 3) := by decide +kernel
theorem dX12_attends_69 : decode cX12_attends 69 = .ok (.iconst 0, 1) := by decide +kernel
theorem dX12_attends_70 : decode cX12_attends 70 = .ok (.invokevirtual 89, 3) := by decide +kernel
theorem dX12_attends_73 : decode cX12_attends 73 = .ok (.ireturn, 1) := by decide +kernel
theorem dX12_wagesOf_0 : decode cX12_wagesOf 0 = .ok (.iconst 0, 1) := by decide +kernel
theorem dX12_wagesOf_1 : decode cX12_wagesOf 1 = .ok (.istore_n 2, 1) := by decide +kernel
theorem dX12_wagesOf_2 : decode cX12_wagesOf 2 = .ok (.iconst 0, 1) := by decide +kernel
theorem dX12_wagesOf_3 : decode cX12_wagesOf 3 = .ok (.istore_n 3, 1) := by decide +kernel
theorem dX12_wagesOf_4 : decode cX12_wagesOf 4 = .ok (.iload_n 3, 1) := by decide +kernel
theorem dX12_wagesOf_5 : decode cX12_wagesOf 5 = .ok (.aload_n 0, 1) := by decide +kernel
theorem dX12_wagesOf_6 : decode cX12_wagesOf 6 = .ok (.getfield 7, 3) := by decide +kernel
theorem dX12_wagesOf_9 : decode cX12_wagesOf 9 = .ok (.iconst 3, 1) := by decide +kernel
theorem dX12_wagesOf_10 : decode cX12_wagesOf 10 = .ok (.iaload, 1) := by decide +kernel
theorem dX12_wagesOf_11 : decode cX12_wagesOf 11 = .ok (.if_icmp .ge 38, 3) := by decide +kernel
theorem dX12_wagesOf_14 : decode cX12_wagesOf 14 = .ok (.iload_n 2, 1) := by decide +kernel
theorem dX12_wagesOf_15 : decode cX12_wagesOf 15 = .ok (.aload_n 0, 1) := by decide +kernel
theorem dX12_wagesOf_16 : decode cX12_wagesOf 16 = .ok (.iload_n 1, 1) := by decide +kernel
theorem dX12_wagesOf_17 : decode cX12_wagesOf 17 = .ok (.iload_n 3, 1) := by decide +kernel
theorem dX12_wagesOf_18 : decode cX12_wagesOf 18 = .ok (.invokevirtual 327, 3) := by decide +kernel
theorem dX12_wagesOf_21 : decode cX12_wagesOf 21 = .ok (.ifCond .eq 19, 3) := by decide +kernel
theorem dX12_wagesOf_24 : decode cX12_wagesOf 24 = .ok (.aload_n 0, 1) := by decide +kernel
theorem dX12_wagesOf_25 : decode cX12_wagesOf 25 = .ok (.getfield 7, 3) := by decide +kernel
theorem dX12_wagesOf_28 : decode cX12_wagesOf 28 = .ok (.iconst 5, 1) := by decide +kernel
theorem dX12_wagesOf_29 : decode cX12_wagesOf 29 = .ok (.iaload, 1) := by decide +kernel
theorem dX12_wagesOf_30 : decode cX12_wagesOf 30 = .ok (.aload_n 0, 1) := by decide +kernel
theorem dX12_wagesOf_31 : decode cX12_wagesOf 31 = .ok (.iload_n 3, 1) := by decide +kernel
theorem dX12_wagesOf_32 : decode cX12_wagesOf 32 = .ok (.iconst 2, 1) := by decide +kernel
theorem dX12_wagesOf_33 : decode cX12_wagesOf 33 = .ok (.invokevirtual 278, 3) := by decide +kernel
theorem dX12_wagesOf_36 : decode cX12_wagesOf 36 = .ok (.imul, 1) := by decide +kernel
theorem dX12_wagesOf_37 : decode cX12_wagesOf 37 = .ok (.goto 4, 3) := by decide +kernel
theorem dX12_wagesOf_40 : decode cX12_wagesOf 40 = .ok (.iconst 0, 1) := by decide +kernel
theorem dX12_wagesOf_41 : decode cX12_wagesOf 41 = .ok (.iadd, 1) := by decide +kernel
theorem dX12_wagesOf_42 : decode cX12_wagesOf 42 = .ok (.istore_n 2, 1) := by decide +kernel
theorem dX12_wagesOf_43 : decode cX12_wagesOf 43 = .ok (.iinc 3 1, 3) := by decide +kernel
theorem dX12_wagesOf_46 : decode cX12_wagesOf 46 = .ok (.goto (-42), 3) := by decide +kernel
theorem dX12_wagesOf_49 : decode cX12_wagesOf 49 = .ok (.iload_n 2, 1) := by decide +kernel
theorem dX12_wagesOf_50 : decode cX12_wagesOf 50 = .ok (.ireturn, 1) := by decide +kernel
theorem dX12_bestOf_0 : decode cX12_bestOf 0 = .ok (.aload_n 0, 1) := by decide +kernel
theorem dX12_bestOf_1 : decode cX12_bestOf 1 = .ok (.invokevirtual 318, 3) := by decide +kernel
theorem dX12_bestOf_4 : decode cX12_bestOf 4 = .ok (.iconst 0, 1) := by decide +kernel
theorem dX12_bestOf_5 : decode cX12_bestOf 5 = .ok (.istore_n 2, 1) := by decide +kernel
theorem dX12_bestOf_6 : decode cX12_bestOf 6 = .ok (.iconst 1, 1) := by decide +kernel
theorem dX12_bestOf_7 : decode cX12_bestOf 7 = .ok (.istore_n 3, 1) := by decide +kernel
theorem dX12_bestOf_8 : decode cX12_bestOf 8 = .ok (.iload_n 3, 1) := by decide +kernel
theorem dX12_bestOf_9 : decode cX12_bestOf 9 = .ok (.iconst 1, 1) := by decide +kernel
theorem dX12_bestOf_10 : decode cX12_bestOf 10 = .ok (.aload_n 0, 1) := by decide +kernel
theorem dX12_bestOf_11 : decode cX12_bestOf 11 = .ok (.getfield 7, 3) := by decide +kernel
theorem dX12_bestOf_14 : decode cX12_bestOf 14 = .ok (.iconst 3, 1) := by decide +kernel
theorem dX12_bestOf_15 : decode cX12_bestOf 15 = .ok (.iaload, 1) := by decide +kernel
theorem dX12_bestOf_16 : decode cX12_bestOf 16 = .ok (.ishl, 1) := by decide +kernel
theorem dX12_bestOf_17 : decode cX12_bestOf 17 = .ok (.if_icmp .ge 68, 3) := by decide +kernel
theorem dX12_bestOf_20 : decode cX12_bestOf 20 = .ok (.iload_n 3, 1) := by decide +kernel
theorem dX12_bestOf_21 : decode cX12_bestOf 21 = .ok (.aload_n 0, 1) := by decide +kernel
theorem dX12_bestOf_22 : decode cX12_bestOf 22 = .ok (.invokevirtual 399, 3) := by decide +kernel
theorem dX12_bestOf_25 : decode cX12_bestOf 25 = .ok (.iconst (-1), 1) := by decide +kernel
theorem dX12_bestOf_26 : decode cX12_bestOf 26 = .ok (.ixor, 1) := by decide +kernel
theorem dX12_bestOf_27 : decode cX12_bestOf 27 = .ok (.iand, 1) := by decide +kernel
theorem dX12_bestOf_28 : decode cX12_bestOf 28 = .ok (.ifCond .ne 51, 3) := by decide +kernel
theorem dX12_bestOf_31 : decode cX12_bestOf 31 = .ok (.aload_n 0, 1) := by decide +kernel
theorem dX12_bestOf_32 : decode cX12_bestOf 32 = .ok (.iload_n 1, 1) := by decide +kernel
theorem dX12_bestOf_33 : decode cX12_bestOf 33 = .ok (.iload_n 3, 1) := by decide +kernel
theorem dX12_bestOf_34 : decode cX12_bestOf 34 = .ok (.invokevirtual 402, 3) := by decide +kernel
theorem dX12_bestOf_37 : decode cX12_bestOf 37 = .ok (.ifCond .ne 6, 3) := by decide +kernel
theorem dX12_bestOf_40 : decode cX12_bestOf 40 = .ok (.goto 39, 3) := by decide +kernel
theorem dX12_bestOf_43 : decode cX12_bestOf 43 = .ok (.aload_n 0, 1) := by decide +kernel
theorem dX12_bestOf_44 : decode cX12_bestOf 44 = .ok (.iload_n 3, 1) := by decide +kernel
theorem dX12_bestOf_45 : decode cX12_bestOf 45 = .ok (.invokevirtual 405, 3) := by decide +kernel
theorem dX12_bestOf_48 : decode cX12_bestOf 48 = .ok (.aload_n 0, 1) := by decide +kernel
theorem dX12_bestOf_49 : decode cX12_bestOf 49 = .ok (.iload_n 2, 1) := by decide +kernel
theorem dX12_bestOf_50 : decode cX12_bestOf 50 = .ok (.invokevirtual 405, 3) := by decide +kernel
theorem dX12_bestOf_53 : decode cX12_bestOf 53 = .ok (.isub, 1) := by decide +kernel
theorem dX12_bestOf_54 : decode cX12_bestOf 54 = .ok (.istore 4, 2) := by decide +kernel
theorem dX12_bestOf_56 : decode cX12_bestOf 56 = .ok (.iload 4, 2) := by decide +kernel
theorem dX12_bestOf_58 : decode cX12_bestOf 58 = .ok (.ifCond .gt 19, 3) := by decide +kernel
theorem dX12_bestOf_61 : decode cX12_bestOf 61 = .ok (.iload 4, 2) := by decide +kernel
theorem dX12_bestOf_63 : decode cX12_bestOf 63 = .ok (.ifCond .ne 16, 3) := by decide +kernel
theorem dX12_bestOf_66 : decode cX12_bestOf 66 = .ok (.iload_n 3, 1) := by decide +kernel
theorem dX12_bestOf_67 : decode cX12_bestOf 67 = .ok (.invokestatic 302, 3) := by decide +kernel
theorem dX12_bestOf_70 : decode cX12_bestOf 70 = .ok (.iload_n 2, 1) := by decide +kernel
theorem dX12_bestOf_71 : decode cX12_bestOf 71 = .ok (.invokestatic 302, 3) := by decide +kernel
theorem dX12_bestOf_74 : decode cX12_bestOf 74 = .ok (.if_icmp .ge 5, 3) := by decide +kernel
theorem dX12_bestOf_77 : decode cX12_bestOf 77 = .ok (.iload_n 3, 1) := by decide +kernel
theorem dX12_bestOf_78 : decode cX12_bestOf 78 = .ok (.istore_n 2, 1) := by decide +kernel
theorem dX12_bestOf_79 : decode cX12_bestOf 79 = .ok (.iinc 3 1, 3) := by decide +kernel
theorem dX12_bestOf_82 : decode cX12_bestOf 82 = .ok (.goto (-74), 3) := by decide +kernel
theorem dX12_bestOf_85 : decode cX12_bestOf 85 = .ok (.iload_n 2, 1) := by decide +kernel
theorem dX12_bestOf_86 : decode cX12_bestOf 86 = .ok (.ireturn, 1) := by decide +kernel
theorem dX12_best_0 : decode cX12_best 0 = .ok (.aload_n 0, 1) := by decide +kernel
theorem dX12_best_1 : decode cX12_best 1 = .ok (.iload_n 1, 1) := by decide +kernel
theorem dX12_best_2 : decode cX12_best 2 = .ok (.invokevirtual 293, 3) := by decide +kernel
theorem dX12_best_5 : decode cX12_best 5 = .ok (.ifCond .eq 15, 3) := by decide +kernel
theorem dX12_best_8 : decode cX12_best 8 = .ok (.aload_n 0, 1) := by decide +kernel
theorem dX12_best_9 : decode cX12_best 9 = .ok (.aload_n 0, 1) := by decide +kernel
theorem dX12_best_10 : decode cX12_best 10 = .ok (.iload_n 1, 1) := by decide +kernel
theorem dX12_best_11 : decode cX12_best 11 = .ok (.invokevirtual 408, 3) := by decide +kernel
theorem dX12_best_14 : decode cX12_best 14 = .ok (.invokevirtual 89, 3) := by decide +kernel
theorem dX12_best_17 : decode cX12_best 17 = .ok (.goto 8, 3) := by decide +kernel
theorem dX12_best_20 : decode cX12_best 20 = .ok (.aload_n 0, 1) := by decide +kernel
theorem dX12_best_21 : decode cX12_best 21 = .ok (.iconst 1, 1) := by decide +kernel
theorem dX12_best_22 : decode cX12_best 22 = .ok (.invokevirtual 85, 3) := by decide +kernel
theorem dX12_best_25 : decode cX12_best 25 = .ok (.ireturn, 1) := by decide +kernel
theorem dX12_bestWages_0 : decode cX12_bestWages 0 = .ok (.aload_n 0, 1) := by decide +kernel
theorem dX12_bestWages_1 : decode cX12_bestWages 1 = .ok (.iload_n 1, 1) := by decide +kernel
theorem dX12_bestWages_2 : decode cX12_bestWages 2 = .ok (.invokevirtual 293, 3) := by decide +kernel
theorem dX12_bestWages_5 : decode cX12_bestWages 5 = .ok (.ifCond .eq 19, 3) := by decide +kernel
theorem dX12_bestWages_8 : decode cX12_bestWages 8 = .ok (.aload_n 0, 1) := by decide +kernel
theorem dX12_bestWages_9 : decode cX12_bestWages 9 = .ok (.aload_n 0, 1) := by decide +kernel
theorem dX12_bestWages_10 : decode cX12_bestWages 10 = .ok (.aload_n 0, 1) := by decide +kernel
theorem dX12_bestWages_11 : decode cX12_bestWages 11 = .ok (.iload_n 1, 1) := by decide +kernel
theorem dX12_bestWages_12 : decode cX12_bestWages 12 = .ok (.invokevirtual 408, 3) := by decide +kernel
theorem dX12_bestWages_15 : decode cX12_bestWages 15 = .ok (.invokevirtual 405, 3) := by decide +kernel
theorem dX12_bestWages_18 : decode cX12_bestWages 18 = .ok (.invokevirtual 89, 3) := by decide +kernel
theorem dX12_bestWages_21 : decode cX12_bestWages 21 = .ok (.goto 8, 3) := by decide +kernel
theorem dX12_bestWages_24 : decode cX12_bestWages 24 = .ok (.aload_n 0, 1) := by decide +kernel
theorem dX12_bestWages_25 : decode cX12_bestWages 25 = .ok (.iconst 1, 1) := by decide +kernel
theorem dX12_bestWages_26 : decode cX12_bestWages 26 = .ok (.invokevirtual 85, 3) := by decide +kernel
theorem dX12_bestWages_29 : decode cX12_bestWages 29 = .ok (.ireturn, 1) := by decide +kernel
theorem dX12_laysAttends_0 : decode cX12_laysAttends 0 = .ok (.aload_n 0, 1) := by decide +kernel
theorem dX12_laysAttends_1 : decode cX12_laysAttends 1 = .ok (.invokevirtual 318, 3) := by decide +kernel
theorem dX12_laysAttends_4 : decode cX12_laysAttends 4 = .ok (.aload_n 0, 1) := by decide +kernel
theorem dX12_laysAttends_5 : decode cX12_laysAttends 5 = .ok (.invokevirtual 399, 3) := by decide +kernel
theorem dX12_laysAttends_8 : decode cX12_laysAttends 8 = .ok (.istore_n 1, 1) := by decide +kernel
theorem dX12_laysAttends_9 : decode cX12_laysAttends 9 = .ok (.iconst 0, 1) := by decide +kernel
theorem dX12_laysAttends_10 : decode cX12_laysAttends 10 = .ok (.istore_n 2, 1) := by decide +kernel
theorem dX12_laysAttends_11 : decode cX12_laysAttends 11 = .ok (.iload_n 2, 1) := by decide +kernel
theorem dX12_laysAttends_12 : decode cX12_laysAttends 12 = .ok (.sipush 256, 3) := by decide +kernel
theorem dX12_laysAttends_15 : decode cX12_laysAttends 15 = .ok (.aload_n 0, 1) := by decide +kernel
theorem dX12_laysAttends_16 : decode cX12_laysAttends 16 = .ok (.getfield 7, 3) := by decide +kernel
theorem dX12_laysAttends_19 : decode cX12_laysAttends 19 = .ok (.iconst 2, 1) := by decide +kernel
theorem dX12_laysAttends_20 : decode cX12_laysAttends 20 = .ok (.iaload, 1) := by decide +kernel
theorem dX12_laysAttends_21 : decode cX12_laysAttends 21 = .ok (.imul, 1) := by decide +kernel
theorem dX12_laysAttends_22 : decode cX12_laysAttends 22 = .ok (.if_icmp .ge 49, 3) := by decide +kernel
theorem dX12_laysAttends_25 : decode cX12_laysAttends 25 = .ok (.aload_n 0, 1) := by decide +kernel
theorem dX12_laysAttends_26 : decode cX12_laysAttends 26 = .ok (.getfield 50, 3) := by decide +kernel
theorem dX12_laysAttends_29 : decode cX12_laysAttends 29 = .ok (.iload_n 2, 1) := by decide +kernel
theorem dX12_laysAttends_30 : decode cX12_laysAttends 30 = .ok (.iload_n 2, 1) := by decide +kernel
theorem dX12_laysAttends_31 : decode cX12_laysAttends 31 = .ok (.sipush 256, 3) := by decide +kernel
theorem dX12_laysAttends_34 : decode cX12_laysAttends 34 = .ok (.irem, 1) := by decide +kernel
theorem dX12_laysAttends_35 : decode cX12_laysAttends 35 = .ok (.iload_n 1, 1) := by decide +kernel
theorem dX12_laysAttends_36 : decode cX12_laysAttends 36 = .ok (.iconst (-1), 1) := by decide +kernel
theorem dX12_laysAttends_37 : decode cX12_laysAttends 37 = .ok (.ixor, 1) := by decide +kernel
theorem dX12_laysAttends_38 : decode cX12_laysAttends 38 = .ok (.iand, 1) := by decide +kernel
theorem dX12_laysAttends_39 : decode cX12_laysAttends 39 = .ok (.ifCond .ne 24, 3) := by decide +kernel
theorem dX12_laysAttends_42 : decode cX12_laysAttends 42 = .ok (.aload_n 0, 1) := by decide +kernel
theorem dX12_laysAttends_43 : decode cX12_laysAttends 43 = .ok (.iload_n 2, 1) := by decide +kernel
theorem dX12_laysAttends_44 : decode cX12_laysAttends 44 = .ok (.sipush 256, 3) := by decide +kernel
theorem dX12_laysAttends_47 : decode cX12_laysAttends 47 = .ok (.idiv, 1) := by decide +kernel
theorem dX12_laysAttends_48 : decode cX12_laysAttends 48 = .ok (.iload_n 2, 1) := by decide +kernel
theorem dX12_laysAttends_49 : decode cX12_laysAttends 49 = .ok (.sipush 256, 3) := by decide +kernel
theorem dX12_laysAttends_52 : decode cX12_laysAttends 52 = .ok (.irem, 1) := by decide +kernel
theorem dX12_laysAttends_53 : decode cX12_laysAttends 53 = .ok (.invokevirtual 402, 3) := by decide +kernel
theorem dX12_laysAttends_56 : decode cX12_laysAttends 56 = .ok (.ifCond .eq 7, 3) := by decide +kernel
theorem dX12_laysAttends_59 : decode cX12_laysAttends 59 = .ok (.iconst 1, 1) := by decide +kernel
theorem dX12_laysAttends_60 : decode cX12_laysAttends 60 = .ok (.goto 4, 3) := by decide +kernel
theorem dX12_laysAttends_63 : decode cX12_laysAttends 63 = .ok (.iconst 0, 1) := by decide +kernel
theorem dX12_laysAttends_64 : decode cX12_laysAttends 64 = .ok (.bastore, 1) := by decide +kernel
theorem dX12_laysAttends_65 : decode cX12_laysAttends 65 = .ok (.iinc 2 1, 3) := by decide +kernel
theorem dX12_laysAttends_68 : decode cX12_laysAttends 68 = .ok (.goto (-57), 3) := by decide +kernel
theorem dX12_laysAttends_71 : decode cX12_laysAttends 71 = .ok (.return_, 1) := by decide +kernel
theorem dX12_covers_0 : decode cX12_covers 0 = .ok (.iconst 1, 1) := by decide +kernel
theorem dX12_covers_1 : decode cX12_covers 1 = .ok (.aload_n 0, 1) := by decide +kernel
theorem dX12_covers_2 : decode cX12_covers 2 = .ok (.getfield 7, 3) := by decide +kernel
theorem dX12_covers_5 : decode cX12_covers 5 = .ok (.iconst 3, 1) := by decide +kernel
theorem dX12_covers_6 : decode cX12_covers 6 = .ok (.iaload, 1) := by decide +kernel
theorem dX12_covers_7 : decode cX12_covers 7 = .ok (.ishl, 1) := by decide +kernel
theorem dX12_covers_8 : decode cX12_covers 8 = .ok (.iconst 1, 1) := by decide +kernel
theorem dX12_covers_9 : decode cX12_covers 9 = .ok (.isub, 1) := by decide +kernel
theorem dX12_covers_10 : decode cX12_covers 10 = .ok (.istore_n 2, 1) := by decide +kernel
theorem dX12_covers_11 : decode cX12_covers 11 = .ok (.iload_n 2, 1) := by decide +kernel
theorem dX12_covers_12 : decode cX12_covers 12 = .ok (.ifCond .lt 68, 3) := by decide +kernel
theorem dX12_covers_15 : decode cX12_covers 15 = .ok (.iload_n 2, 1) := by decide +kernel
theorem dX12_covers_16 : decode cX12_covers 16 = .ok (.istore_n 3, 1) := by decide +kernel
theorem dX12_covers_17 : decode cX12_covers 17 = .ok (.iload_n 3, 1) := by decide +kernel
theorem dX12_covers_18 : decode cX12_covers 18 = .ok (.ifCond .le 56, 3) := by decide +kernel
theorem dX12_covers_21 : decode cX12_covers 21 = .ok (.aload_n 0, 1) := by decide +kernel
theorem dX12_covers_22 : decode cX12_covers 22 = .ok (.getfield 54, 3) := by decide +kernel
theorem dX12_covers_25 : decode cX12_covers 25 = .ok (.iload_n 2, 1) := by decide +kernel
theorem dX12_covers_26 : decode cX12_covers 26 = .ok (.baload, 1) := by decide +kernel
theorem dX12_covers_27 : decode cX12_covers 27 = .ok (.ifCond .ne 47, 3) := by decide +kernel
theorem dX12_covers_30 : decode cX12_covers 30 = .ok (.aload_n 0, 1) := by decide +kernel
theorem dX12_covers_31 : decode cX12_covers 31 = .ok (.getfield 54, 3) := by decide +kernel
theorem dX12_covers_34 : decode cX12_covers 34 = .ok (.iload_n 2, 1) := by decide +kernel
theorem dX12_covers_35 : decode cX12_covers 35 = .ok (.iload_n 3, 1) := by decide +kernel
theorem dX12_covers_36 : decode cX12_covers 36 = .ok (.iconst (-1), 1) := by decide +kernel
theorem dX12_covers_37 : decode cX12_covers 37 = .ok (.ixor, 1) := by decide +kernel
theorem dX12_covers_38 : decode cX12_covers 38 = .ok (.iand, 1) := by decide +kernel
theorem dX12_covers_39 : decode cX12_covers 39 = .ok (.baload, 1) := by decide +kernel
theorem dX12_covers_40 : decode cX12_covers 40 = .ok (.ifCond .eq 25, 3) := by decide +kernel
theorem dX12_covers_43 : decode cX12_covers 43 = .ok (.aload_n 0, 1) := by decide +kernel
theorem dX12_covers_44 : decode cX12_covers 44 = .ok (.getfield 50, 3) := by decide +kernel
theorem dX12_covers_47 : decode cX12_covers 47 = .ok (.sipush 256, 3) := by decide +kernel
theorem dX12_covers_50 : decode cX12_covers 50 = .ok (.iload_n 1, 1) := by decide +kernel
theorem dX12_covers_51 : decode cX12_covers 51 = .ok (.imul, 1) := by decide +kernel
theorem dX12_covers_52 : decode cX12_covers 52 = .ok (.iload_n 3, 1) := by decide +kernel
theorem dX12_covers_53 : decode cX12_covers 53 = .ok (.iadd, 1) := by decide +kernel
theorem dX12_covers_54 : decode cX12_covers 54 = .ok (.baload, 1) := by decide +kernel
theorem dX12_covers_55 : decode cX12_covers 55 = .ok (.ifCond .eq 10, 3) := by decide +kernel
theorem dX12_covers_58 : decode cX12_covers 58 = .ok (.aload_n 0, 1) := by decide +kernel
theorem dX12_covers_59 : decode cX12_covers 59 = .ok (.getfield 54, 3) := by decide +kernel
theorem dX12_covers_62 : decode cX12_covers 62 = .ok (.iload_n 2, 1) := by decide +kernel
theorem dX12_covers_63 : decode cX12_covers 63 = .ok (.iconst 1, 1) := by decide +kernel
theorem dX12_covers_64 : decode cX12_covers 64 = .ok (.bastore, 1) := by decide +kernel
theorem dX12_covers_65 : decode cX12_covers 65 = .ok (.iload_n 3, 1) := by decide +kernel
theorem dX12_covers_66 : decode cX12_covers 66 = .ok (.iconst 1, 1) := by decide +kernel
theorem dX12_covers_67 : decode cX12_covers 67 = .ok (.isub, 1) := by decide +kernel
theorem dX12_covers_68 : decode cX12_covers 68 = .ok (.iload_n 2, 1) := by decide +kernel
theorem dX12_covers_69 : decode cX12_covers 69 = .ok (.iand, 1) := by decide +kernel
theorem dX12_covers_70 : decode cX12_covers 70 = .ok (.istore_n 3, 1) := by decide +kernel
theorem dX12_covers_71 : decode cX12_covers 71 = .ok (.goto (-54), 3) := by decide +kernel
theorem dX12_covers_74 : decode cX12_covers 74 = .ok (.iinc 2 (-1), 3) := by decide +kernel
theorem dX12_covers_77 : decode cX12_covers 77 = .ok (.goto (-66), 3) := by decide +kernel
theorem dX12_covers_80 : decode cX12_covers 80 = .ok (.return_, 1) := by decide +kernel
theorem dX12_areEnough_0 : decode cX12_areEnough 0 = .ok (.iconst 0, 1) := by decide +kernel
theorem dX12_areEnough_1 : decode cX12_areEnough 1 = .ok (.istore_n 2, 1) := by decide +kernel
theorem dX12_areEnough_2 : decode cX12_areEnough 2 = .ok (.iload_n 2, 1) := by decide +kernel
theorem dX12_areEnough_3 : decode cX12_areEnough 3 = .ok (.sipush 256, 3) := by decide +kernel
theorem dX12_areEnough_6 : decode cX12_areEnough 6 = .ok (.if_icmp .ge 24, 3) := by decide +kernel
theorem dX12_areEnough_9 : decode cX12_areEnough 9 = .ok (.aload_n 0, 1) := by decide +kernel
theorem dX12_areEnough_10 : decode cX12_areEnough 10 = .ok (.getfield 54, 3) := by decide +kernel
theorem dX12_areEnough_13 : decode cX12_areEnough 13 = .ok (.iload_n 2, 1) := by decide +kernel
theorem dX12_areEnough_14 : decode cX12_areEnough 14 = .ok (.iload_n 2, 1) := by decide +kernel
theorem dX12_areEnough_15 : decode cX12_areEnough 15 = .ok (.ifCond .ne 7, 3) := by decide +kernel
theorem dX12_areEnough_18 : decode cX12_areEnough 18 = .ok (.iconst 1, 1) := by decide +kernel
theorem dX12_areEnough_19 : decode cX12_areEnough 19 = .ok (.goto 4, 3) := by decide +kernel
theorem dX12_areEnough_22 : decode cX12_areEnough 22 = .ok (.iconst 0, 1) := by decide +kernel
theorem dX12_areEnough_23 : decode cX12_areEnough 23 = .ok (.bastore, 1) := by decide +kernel
theorem dX12_areEnough_24 : decode cX12_areEnough 24 = .ok (.iinc 2 1, 3) := by decide +kernel
theorem dX12_areEnough_27 : decode cX12_areEnough 27 = .ok (.goto (-25), 3) := by decide +kernel
theorem dX12_areEnough_30 : decode cX12_areEnough 30 = .ok (.iconst 0, 1) := by decide +kernel
theorem dX12_areEnough_31 : decode cX12_areEnough 31 = .ok (.istore_n 2, 1) := by decide +kernel
theorem dX12_areEnough_32 : decode cX12_areEnough 32 = .ok (.iload_n 2, 1) := by decide +kernel
theorem dX12_areEnough_33 : decode cX12_areEnough 33 = .ok (.aload_n 0, 1) := by decide +kernel
theorem dX12_areEnough_34 : decode cX12_areEnough 34 = .ok (.getfield 7, 3) := by decide +kernel
theorem dX12_areEnough_37 : decode cX12_areEnough 37 = .ok (.iconst 2, 1) := by decide +kernel
theorem dX12_areEnough_38 : decode cX12_areEnough 38 = .ok (.iaload, 1) := by decide +kernel
theorem dX12_areEnough_39 : decode cX12_areEnough 39 = .ok (.if_icmp .ge 23, 3) := by decide +kernel
theorem dX12_areEnough_42 : decode cX12_areEnough 42 = .ok (.aload_n 0, 1) := by decide +kernel
theorem dX12_areEnough_43 : decode cX12_areEnough 43 = .ok (.iload_n 1, 1) := by decide +kernel
theorem dX12_areEnough_44 : decode cX12_areEnough 44 = .ok (.iload_n 2, 1) := by decide +kernel
theorem dX12_areEnough_45 : decode cX12_areEnough 45 = .ok (.invokevirtual 327, 3) := by decide +kernel
theorem dX12_areEnough_48 : decode cX12_areEnough 48 = .ok (.ifCond .eq 8, 3) := by decide +kernel
theorem dX12_areEnough_51 : decode cX12_areEnough 51 = .ok (.aload_n 0, 1) := by decide +kernel
theorem dX12_areEnough_52 : decode cX12_areEnough 52 = .ok (.iload_n 2, 1) := by decide +kernel
theorem dX12_areEnough_53 : decode cX12_areEnough 53 = .ok (.invokevirtual 411, 3) := by decide +kernel
theorem dX12_areEnough_56 : decode cX12_areEnough 56 = .ok (.iinc 2 1, 3) := by decide +kernel
theorem dX12_areEnough_59 : decode cX12_areEnough 59 = .ok (.goto (-27), 3) := by decide +kernel
theorem dX12_areEnough_62 : decode cX12_areEnough 62 = .ok (.aload_n 0, 1) := by decide +kernel
theorem dX12_areEnough_63 : decode cX12_areEnough 63 = .ok (.getfield 54, 3) := by decide +kernel
theorem dX12_areEnough_66 : decode cX12_areEnough 66 = .ok (.aload_n 0, 1) := by decide +kernel
theorem dX12_areEnough_67 : decode cX12_areEnough 67 = .ok (.invokevirtual 399, 3) := by decide +kernel
theorem dX12_areEnough_70 : decode cX12_areEnough 70 = .ok (.baload, 1) := by decide +kernel
theorem dX12_areEnough_71 : decode cX12_areEnough 71 = .ok (.ireturn, 1) := by decide +kernel
theorem dX12_fewestOf_0 : decode cX12_fewestOf 0 = .ok (.aload_n 0, 1) := by decide +kernel
theorem dX12_fewestOf_1 : decode cX12_fewestOf 1 = .ok (.invokevirtual 414, 3) := by decide +kernel
theorem dX12_fewestOf_4 : decode cX12_fewestOf 4 = .ok (.iconst (-1), 1) := by decide +kernel
theorem dX12_fewestOf_5 : decode cX12_fewestOf 5 = .ok (.istore_n 1, 1) := by decide +kernel
theorem dX12_fewestOf_6 : decode cX12_fewestOf 6 = .ok (.iconst 0, 1) := by decide +kernel
theorem dX12_fewestOf_7 : decode cX12_fewestOf 7 = .ok (.istore_n 2, 1) := by decide +kernel
theorem dX12_fewestOf_8 : decode cX12_fewestOf 8 = .ok (.iload_n 2, 1) := by decide +kernel
theorem dX12_fewestOf_9 : decode cX12_fewestOf 9 = .ok (.iconst 1, 1) := by decide +kernel
theorem dX12_fewestOf_10 : decode cX12_fewestOf 10 = .ok (.aload_n 0, 1) := by decide +kernel
theorem dX12_fewestOf_11 : decode cX12_fewestOf 11 = .ok (.getfield 7, 3) := by decide +kernel
theorem dX12_fewestOf_14 : decode cX12_fewestOf 14 = .ok (.iconst 2, 1) := by decide +kernel
theorem dX12_fewestOf_15 : decode cX12_fewestOf 15 = .ok (.iaload, 1) := by decide +kernel
theorem dX12_fewestOf_16 : decode cX12_fewestOf 16 = .ok (.ishl, 1) := by decide +kernel
theorem dX12_fewestOf_17 : decode cX12_fewestOf 17 = .ok (.if_icmp .ge 35, 3) := by decide +kernel
theorem dX12_fewestOf_20 : decode cX12_fewestOf 20 = .ok (.iload_n 1, 1) := by decide +kernel
theorem dX12_fewestOf_21 : decode cX12_fewestOf 21 = .ok (.iconst (-1), 1) := by decide +kernel
theorem dX12_fewestOf_22 : decode cX12_fewestOf 22 = .ok (.if_icmp .eq 14, 3) := by decide +kernel
theorem dX12_fewestOf_25 : decode cX12_fewestOf 25 = .ok (.iload_n 2, 1) := by decide +kernel
theorem dX12_fewestOf_26 : decode cX12_fewestOf 26 = .ok (.invokestatic 302, 3) := by decide +kernel
theorem dX12_fewestOf_29 : decode cX12_fewestOf 29 = .ok (.iload_n 1, 1) := by decide +kernel
theorem dX12_fewestOf_30 : decode cX12_fewestOf 30 = .ok (.invokestatic 302, 3) := by decide +kernel
theorem dX12_fewestOf_33 : decode cX12_fewestOf 33 = .ok (.if_icmp .ge 13, 3) := by decide +kernel
theorem dX12_fewestOf_36 : decode cX12_fewestOf 36 = .ok (.aload_n 0, 1) := by decide +kernel
theorem dX12_fewestOf_37 : decode cX12_fewestOf 37 = .ok (.iload_n 2, 1) := by decide +kernel
theorem dX12_fewestOf_38 : decode cX12_fewestOf 38 = .ok (.invokevirtual 417, 3) := by decide +kernel
theorem dX12_fewestOf_41 : decode cX12_fewestOf 41 = .ok (.ifCond .eq 5, 3) := by decide +kernel
theorem dX12_fewestOf_44 : decode cX12_fewestOf 44 = .ok (.iload_n 2, 1) := by decide +kernel
theorem dX12_fewestOf_45 : decode cX12_fewestOf 45 = .ok (.istore_n 1, 1) := by decide +kernel
theorem dX12_fewestOf_46 : decode cX12_fewestOf 46 = .ok (.iinc 2 1, 3) := by decide +kernel
theorem dX12_fewestOf_49 : decode cX12_fewestOf 49 = .ok (.goto (-41), 3) := by decide +kernel
theorem dX12_fewestOf_52 : decode cX12_fewestOf 52 = .ok (.iload_n 1, 1) := by decide +kernel
theorem dX12_fewestOf_53 : decode cX12_fewestOf 53 = .ok (.ireturn, 1) := by decide +kernel
theorem dX12_fewest_0 : decode cX12_fewest 0 = .ok (.aload_n 0, 1) := by decide +kernel
theorem dX12_fewest_1 : decode cX12_fewest 1 = .ok (.invokevirtual 420, 3) := by decide +kernel
theorem dX12_fewest_4 : decode cX12_fewest 4 = .ok (.istore_n 1, 1) := by decide +kernel
theorem dX12_fewest_5 : decode cX12_fewest 5 = .ok (.iload_n 1, 1) := by decide +kernel
theorem dX12_fewest_6 : decode cX12_fewest 6 = .ok (.iconst (-1), 1) := by decide +kernel
theorem dX12_fewest_7 : decode cX12_fewest 7 = .ok (.if_icmp .ne 12, 3) := by decide +kernel
theorem dX12_fewest_10 : decode cX12_fewest 10 = .ok (.aload_n 0, 1) := by decide +kernel
theorem dX12_fewest_11 : decode cX12_fewest 11 = .ok (.bipush 6, 2) := by decide +kernel
theorem dX12_fewest_13 : decode cX12_fewest 13 = .ok (.invokevirtual 85, 3) := by decide +kernel
theorem dX12_fewest_16 : decode cX12_fewest 16 = .ok (.goto 11, 3) := by decide +kernel
theorem dX12_fewest_19 : decode cX12_fewest 19 = .ok (.aload_n 0, 1) := by decide +kernel
theorem dX12_fewest_20 : decode cX12_fewest 20 = .ok (.iload_n 1, 1) := by decide +kernel
theorem dX12_fewest_21 : decode cX12_fewest 21 = .ok (.invokestatic 302, 3) := by decide +kernel
theorem dX12_fewest_24 : decode cX12_fewest 24 = .ok (.invokevirtual 89, 3) := by decide +kernel
theorem dX12_fewest_27 : decode cX12_fewest 27 = .ok (.ireturn, 1) := by decide +kernel
theorem dX12_fewestSet_0 : decode cX12_fewestSet 0 = .ok (.aload_n 0, 1) := by decide +kernel
theorem dX12_fewestSet_1 : decode cX12_fewestSet 1 = .ok (.aload_n 0, 1) := by decide +kernel
theorem dX12_fewestSet_2 : decode cX12_fewestSet 2 = .ok (.invokevirtual 420, 3) := by decide +kernel
theorem dX12_fewestSet_5 : decode cX12_fewestSet 5 = .ok (.invokevirtual 324, 3) := by decide +kernel
theorem dX12_fewestSet_8 : decode cX12_fewestSet 8 = .ok (.ireturn, 1) := by decide +kernel
theorem dX12_wrongStanding_0 : decode cX12_wrongStanding 0 = .ok (.iload_n 1, 1) := by decide +kernel
theorem dX12_wrongStanding_1 : decode cX12_wrongStanding 1 = .ok (.invokestatic 96, 3) := by decide +kernel
theorem dX12_wrongStanding_4 : decode cX12_wrongStanding 4 = .ok (.ifCond .ne 5, 3) := by decide +kernel
theorem dX12_wrongStanding_7 : decode cX12_wrongStanding 7 = .ok (.iconst 1, 1) := by decide +kernel
theorem dX12_wrongStanding_8 : decode cX12_wrongStanding 8 = .ok (.ireturn, 1) := by decide +kernel
theorem dX12_wrongStanding_9 : decode cX12_wrongStanding 9 = .ok (.aload_n 0, 1) := by decide +kernel
theorem dX12_wrongStanding_10 : decode cX12_wrongStanding 10 = .ok (.getfield 24, 3) := by decide +kernel
theorem dX12_wrongStanding_13 : decode cX12_wrongStanding 13 = .ok (.iload_n 1, 1) := by decide +kernel
theorem dX12_wrongStanding_14 : decode cX12_wrongStanding 14 = .ok (.iaload, 1) := by decide +kernel
theorem dX12_wrongStanding_15 : decode cX12_wrongStanding 15 = .ok (.iconst (-1), 1) := by decide +kernel
theorem dX12_wrongStanding_16 : decode cX12_wrongStanding 16 = .ok (.if_icmp .ne 5, 3) := by decide +kernel
theorem dX12_wrongStanding_19 : decode cX12_wrongStanding 19 = .ok (.iconst 2, 1) := by decide +kernel
theorem dX12_wrongStanding_20 : decode cX12_wrongStanding 20 = .ok (.ireturn, 1) := by decide +kernel
theorem dX12_wrongStanding_21 : decode cX12_wrongStanding 21 = .ok (.aload_n 0, 1) := by decide +kernel
theorem dX12_wrongStanding_22 : decode cX12_wrongStanding 22 = .ok (.getfield 24, 3) := by decide +kernel
theorem dX12_wrongStanding_25 : decode cX12_wrongStanding 25 = .ok (.iload_n 1, 1) := by decide +kernel
theorem dX12_wrongStanding_26 : decode cX12_wrongStanding 26 = .ok (.iaload, 1) := by decide +kernel
theorem dX12_wrongStanding_27 : decode cX12_wrongStanding 27 = .ok (.aload_n 0, 1) := by decide +kernel
theorem dX12_wrongStanding_28 : decode cX12_wrongStanding 28 = .ok (.getfield 7, 3) := by decide +kernel
theorem dX12_wrongStanding_31 : decode cX12_wrongStanding 31 = .ok (.iconst 0, 1) := by decide +kernel
theorem dX12_wrongStanding_32 : decode cX12_wrongStanding 32 = .ok (.iaload, 1) := by decide +kernel
theorem dX12_wrongStanding_33 : decode cX12_wrongStanding 33 = .ok (.if_icmp .ge 5, 3) := by decide +kernel
theorem dX12_wrongStanding_36 : decode cX12_wrongStanding 36 = .ok (.iconst 3, 1) := by decide +kernel
theorem dX12_wrongStanding_37 : decode cX12_wrongStanding 37 = .ok (.ireturn, 1) := by decide +kernel
theorem dX12_wrongStanding_38 : decode cX12_wrongStanding 38 = .ok (.iconst 0, 1) := by decide +kernel
theorem dX12_wrongStanding_39 : decode cX12_wrongStanding 39 = .ok (.istore_n 2, 1) := by decide +kernel
theorem dX12_wrongStanding_40 : decode cX12_wrongStanding 40 = .ok (.iload_n 2, 1) := by decide +kernel
theorem dX12_wrongStanding_41 : decode cX12_wrongStanding 41 = .ok (.aload_n 0, 1) := by decide +kernel
theorem dX12_wrongStanding_42 : decode cX12_wrongStanding 42 = .ok (.getfield 7, 3) := by decide +kernel
theorem dX12_wrongStanding_45 : decode cX12_wrongStanding 45 = .ok (.iconst 0, 1) := by decide +kernel
theorem dX12_wrongStanding_46 : decode cX12_wrongStanding 46 = .ok (.iaload, 1) := by decide +kernel
theorem dX12_wrongStanding_47 : decode cX12_wrongStanding 47 = .ok (.if_icmp .ge 32, 3) := by decide +kernel
theorem dX12_wrongStanding_50 : decode cX12_wrongStanding 50 = .ok (.aload_n 0, 1) := by decide +kernel
theorem dX12_wrongStanding_51 : decode cX12_wrongStanding 51 = .ok (.getfield 27, 3) := by decide +kernel
theorem dX12_wrongStanding_54 : decode cX12_wrongStanding 54 = .ok (.bipush 60, 2) := by decide +kernel
theorem dX12_wrongStanding_56 : decode cX12_wrongStanding 56 = .ok (.iload_n 1, 1) := by decide +kernel
theorem dX12_wrongStanding_57 : decode cX12_wrongStanding 57 = .ok (.imul, 1) := by decide +kernel
theorem dX12_wrongStanding_58 : decode cX12_wrongStanding 58 = .ok (.iload_n 2, 1) := by decide +kernel
theorem dX12_wrongStanding_59 : decode cX12_wrongStanding 59 = .ok (.iadd, 1) := by decide +kernel
theorem dX12_wrongStanding_60 : decode cX12_wrongStanding 60 = .ok (.laload, 1) := by decide +kernel
theorem dX12_wrongStanding_61 : decode cX12_wrongStanding 61 = .ok (.lconst 0, 1) := by decide +kernel
theorem dX12_wrongStanding_62 : decode cX12_wrongStanding 62 = .ok (.ldc2_w 357, 3) := by decide +kernel
theorem dX12_wrongStanding_65 : decode cX12_wrongStanding 65 = .ok (.invokestatic 359, 3) := by decide +kernel
theorem dX12_wrongStanding_68 : decode cX12_wrongStanding 68 = .ok (.ifCond .ne 5, 3) := by decide +kernel
theorem dX12_wrongStanding_71 : decode cX12_wrongStanding 71 = .ok (.iconst 5, 1) := by decide +kernel
theorem dX12_wrongStanding_72 : decode cX12_wrongStanding 72 = .ok (.ireturn, 1) := by decide +kernel
theorem dX12_wrongStanding_73 : decode cX12_wrongStanding 73 = .ok (.iinc 2 1, 3) := by decide +kernel
theorem dX12_wrongStanding_76 : decode cX12_wrongStanding 76 = .ok (.goto (-36), 3) := by decide +kernel
theorem dX12_wrongStanding_79 : decode cX12_wrongStanding 79 = .ok (.iconst 0, 1) := by decide +kernel
theorem dX12_wrongStanding_80 : decode cX12_wrongStanding 80 = .ok (.ireturn, 1) := by decide +kernel
theorem dX12_greatAt_0 : decode cX12_greatAt 0 = .ok (.iconst 0, 1) := by decide +kernel
theorem dX12_greatAt_1 : decode cX12_greatAt 1 = .ok (.istore_n 3, 1) := by decide +kernel
theorem dX12_greatAt_2 : decode cX12_greatAt 2 = .ok (.iconst 0, 1) := by decide +kernel
theorem dX12_greatAt_3 : decode cX12_greatAt 3 = .ok (.istore 4, 2) := by decide +kernel
theorem dX12_greatAt_5 : decode cX12_greatAt 5 = .ok (.iload 4, 2) := by decide +kernel
theorem dX12_greatAt_7 : decode cX12_greatAt 7 = .ok (.aload_n 0, 1) := by decide +kernel
theorem dX12_greatAt_8 : decode cX12_greatAt 8 = .ok (.getfield 7, 3) := by decide +kernel
theorem dX12_greatAt_11 : decode cX12_greatAt 11 = .ok (.iconst 3, 1) := by decide +kernel
theorem dX12_greatAt_12 : decode cX12_greatAt 12 = .ok (.iaload, 1) := by decide +kernel
theorem dX12_greatAt_13 : decode cX12_greatAt 13 = .ok (.if_icmp .ge 44, 3) := by decide +kernel
theorem dX12_greatAt_16 : decode cX12_greatAt 16 = .ok (.iload_n 3, 1) := by decide +kernel
theorem dX12_greatAt_17 : decode cX12_greatAt 17 = .ok (.aload_n 0, 1) := by decide +kernel
theorem dX12_greatAt_18 : decode cX12_greatAt 18 = .ok (.iload_n 1, 1) := by decide +kernel
theorem dX12_greatAt_19 : decode cX12_greatAt 19 = .ok (.iload 4, 2) := by decide +kernel
theorem dX12_greatAt_21 : decode cX12_greatAt 21 = .ok (.invokevirtual 327, 3) := by decide +kernel
theorem dX12_greatAt_24 : decode cX12_greatAt 24 = .ok (.ifCond .eq 24, 3) := by decide +kernel
theorem dX12_greatAt_27 : decode cX12_greatAt 27 = .ok (.aload_n 0, 1) := by decide +kernel
theorem dX12_greatAt_28 : decode cX12_greatAt 28 = .ok (.iload 4, 2) := by decide +kernel
theorem dX12_greatAt_30 : decode cX12_greatAt 30 = .ok (.iconst 0, 1) := by decide +kernel
theorem dX12_greatAt_31 : decode cX12_greatAt 31 = .ok (.invokevirtual 278, 3) := by decide +kernel
theorem dX12_greatAt_34 : decode cX12_greatAt 34 = .ok (.iload_n 2, 1) := by decide +kernel
theorem dX12_greatAt_35 : decode cX12_greatAt 35 = .ok (.if_icmp .ne 13, 3) := by decide +kernel
theorem dX12_greatAt_38 : decode cX12_greatAt 38 = .ok (.aload_n 0, 1) := by decide +kernel
theorem dX12_greatAt_39 : decode cX12_greatAt 39 = .ok (.iload 4, 2) := by decide +kernel
theorem dX12_greatAt_41 : decode cX12_greatAt 41 = .ok (.iconst 2, 1) := by decide +kernel
theorem dX12_greatAt_42 : decode cX12_greatAt 42 = .ok (.invokevirtual 278, 3) := by decide +kernel
theorem dX12_greatAt_45 : decode cX12_greatAt 45 = .ok (.goto 4, 3) := by decide +kernel
theorem dX12_greatAt_48 : decode cX12_greatAt 48 = .ok (.iconst 0, 1) := by decide +kernel
theorem dX12_greatAt_49 : decode cX12_greatAt 49 = .ok (.iadd, 1) := by decide +kernel
theorem dX12_greatAt_50 : decode cX12_greatAt 50 = .ok (.istore_n 3, 1) := by decide +kernel
theorem dX12_greatAt_51 : decode cX12_greatAt 51 = .ok (.iinc 4 1, 3) := by decide +kernel
theorem dX12_greatAt_54 : decode cX12_greatAt 54 = .ok (.goto (-49), 3) := by decide +kernel
theorem dX12_greatAt_57 : decode cX12_greatAt 57 = .ok (.iload_n 3, 1) := by decide +kernel
theorem dX12_greatAt_58 : decode cX12_greatAt 58 = .ok (.ireturn, 1) := by decide +kernel
theorem dX12_explains_0 : decode cX12_explains 0 = .ok (.iload_n 1, 1) := by decide +kernel
theorem dX12_explains_1 : decode cX12_explains 1 = .ok (.aload_n 0, 1) := by decide +kernel
theorem dX12_explains_2 : decode cX12_explains 2 = .ok (.iconst 0, 1) := by decide +kernel
theorem dX12_explains_3 : decode cX12_explains 3 = .ok (.invokevirtual 284, 3) := by decide +kernel
theorem dX12_explains_6 : decode cX12_explains 6 = .ok (.iconst (-1), 1) := by decide +kernel
theorem dX12_explains_7 : decode cX12_explains 7 = .ok (.ixor, 1) := by decide +kernel
theorem dX12_explains_8 : decode cX12_explains 8 = .ok (.iand, 1) := by decide +kernel
theorem dX12_explains_9 : decode cX12_explains 9 = .ok (.ifCond .eq 5, 3) := by decide +kernel
theorem dX12_explains_12 : decode cX12_explains 12 = .ok (.iconst 0, 1) := by decide +kernel
theorem dX12_explains_13 : decode cX12_explains 13 = .ok (.ireturn, 1) := by decide +kernel
theorem dX12_explains_14 : decode cX12_explains 14 = .ok (.iconst 0, 1) := by decide +kernel
theorem dX12_explains_15 : decode cX12_explains 15 = .ok (.istore_n 3, 1) := by decide +kernel
theorem dX12_explains_16 : decode cX12_explains 16 = .ok (.iload_n 3, 1) := by decide +kernel
theorem dX12_explains_17 : decode cX12_explains 17 = .ok (.aload_n 0, 1) := by decide +kernel
theorem dX12_explains_18 : decode cX12_explains 18 = .ok (.getfield 7, 3) := by decide +kernel
theorem dX12_explains_21 : decode cX12_explains 21 = .ok (.iconst 0, 1) := by decide +kernel
theorem dX12_explains_22 : decode cX12_explains 22 = .ok (.iaload, 1) := by decide +kernel
theorem dX12_explains_23 : decode cX12_explains 23 = .ok (.if_icmp .ge 33, 3) := by decide +kernel
theorem dX12_explains_26 : decode cX12_explains 26 = .ok (.aload_n 0, 1) := by decide +kernel
theorem dX12_explains_27 : decode cX12_explains 27 = .ok (.iload_n 1, 1) := by decide +kernel
theorem dX12_explains_28 : decode cX12_explains 28 = .ok (.iload_n 3, 1) := by decide +kernel
theorem dX12_explains_29 : decode cX12_explains 29 = .ok (.invokevirtual 423, 3) := by decide +kernel
theorem dX12_explains_32 : decode cX12_explains 32 = .ok (.i2l, 1) := by decide +kernel
theorem dX12_explains_33 : decode cX12_explains 33 = .ok (.aload_n 0, 1) := by decide +kernel
theorem dX12_explains_34 : decode cX12_explains 34 = .ok (.getfield 27, 3) := by decide +kernel
theorem dX12_explains_37 : decode cX12_explains 37 = .ok (.bipush 60, 2) := by decide +kernel
theorem dX12_explains_39 : decode cX12_explains 39 = .ok (.iload_n 2, 1) := by decide +kernel
theorem dX12_explains_40 : decode cX12_explains 40 = .ok (.imul, 1) := by decide +kernel
theorem dX12_explains_41 : decode cX12_explains 41 = .ok (.iload_n 3, 1) := by decide +kernel
theorem dX12_explains_42 : decode cX12_explains 42 = .ok (.iadd, 1) := by decide +kernel
theorem dX12_explains_43 : decode cX12_explains 43 = .ok (.laload, 1) := by decide +kernel
theorem dX12_explains_44 : decode cX12_explains 44 = .ok (.lcmp, 1) := by decide +kernel
theorem dX12_explains_45 : decode cX12_explains 45 = .ok (.ifCond .eq 5, 3) := by decide +kernel
theorem dX12_explains_48 : decode cX12_explains 48 = .ok (.iconst 0, 1) := by decide +kernel
theorem dX12_explains_49 : decode cX12_explains 49 = .ok (.ireturn, 1) := by decide +kernel
theorem dX12_explains_50 : decode cX12_explains 50 = .ok (.iinc 3 1, 3) := by decide +kernel
theorem dX12_explains_53 : decode cX12_explains 53 = .ok (.goto (-37), 3) := by decide +kernel
theorem dX12_explains_56 : decode cX12_explains 56 = .ok (.iconst 1, 1) := by decide +kernel
theorem dX12_explains_57 : decode cX12_explains 57 = .ok (.ireturn, 1) := by decide +kernel
theorem dX12_explained_0 : decode cX12_explained 0 = .ok (.aload_n 0, 1) := by decide +kernel
theorem dX12_explained_1 : decode cX12_explained 1 = .ok (.iload_n 1, 1) := by decide +kernel
theorem dX12_explained_2 : decode cX12_explained 2 = .ok (.invokevirtual 426, 3) := by decide +kernel
theorem dX12_explained_5 : decode cX12_explained 5 = .ok (.istore_n 2, 1) := by decide +kernel
theorem dX12_explained_6 : decode cX12_explained 6 = .ok (.iload_n 2, 1) := by decide +kernel
theorem dX12_explained_7 : decode cX12_explained 7 = .ok (.ifCond .le 9, 3) := by decide +kernel
theorem dX12_explained_10 : decode cX12_explained 10 = .ok (.aload_n 0, 1) := by decide +kernel
theorem dX12_explained_11 : decode cX12_explained 11 = .ok (.iload_n 2, 1) := by decide +kernel
theorem dX12_explained_12 : decode cX12_explained 12 = .ok (.invokevirtual 85, 3) := by decide +kernel
theorem dX12_explained_15 : decode cX12_explained 15 = .ok (.ireturn, 1) := by decide +kernel
theorem dX12_explained_16 : decode cX12_explained 16 = .ok (.iconst 0, 1) := by decide +kernel
theorem dX12_explained_17 : decode cX12_explained 17 = .ok (.istore_n 3, 1) := by decide +kernel
theorem dX12_explained_18 : decode cX12_explained 18 = .ok (.iconst 0, 1) := by decide +kernel
theorem dX12_explained_19 : decode cX12_explained 19 = .ok (.istore 4, 2) := by decide +kernel
theorem dX12_explained_21 : decode cX12_explained 21 = .ok (.iload 4, 2) := by decide +kernel
theorem dX12_explained_23 : decode cX12_explained 23 = .ok (.iconst 1, 1) := by decide +kernel
theorem dX12_explained_24 : decode cX12_explained 24 = .ok (.aload_n 0, 1) := by decide +kernel
theorem dX12_explained_25 : decode cX12_explained 25 = .ok (.getfield 7, 3) := by decide +kernel
theorem dX12_explained_28 : decode cX12_explained 28 = .ok (.iconst 3, 1) := by decide +kernel
theorem dX12_explained_29 : decode cX12_explained 29 = .ok (.iaload, 1) := by decide +kernel
theorem dX12_explained_30 : decode cX12_explained 30 = .ok (.ishl, 1) := by decide +kernel
theorem dX12_explained_31 : decode cX12_explained 31 = .ok (.if_icmp .ge 27, 3) := by decide +kernel
theorem dX12_explained_34 : decode cX12_explained 34 = .ok (.iload_n 3, 1) := by decide +kernel
theorem dX12_explained_35 : decode cX12_explained 35 = .ok (.aload_n 0, 1) := by decide +kernel
theorem dX12_explained_36 : decode cX12_explained 36 = .ok (.iload 4, 2) := by decide +kernel
theorem dX12_explained_38 : decode cX12_explained 38 = .ok (.iload_n 1, 1) := by decide +kernel
theorem dX12_explained_39 : decode cX12_explained 39 = .ok (.invokevirtual 429, 3) := by decide +kernel
theorem dX12_explained_42 : decode cX12_explained 42 = .ok (.ifCond .eq 7, 3) := by decide +kernel
theorem dX12_explained_45 : decode cX12_explained 45 = .ok (.iconst 1, 1) := by decide +kernel
theorem dX12_explained_46 : decode cX12_explained 46 = .ok (.goto 4, 3) := by decide +kernel
theorem dX12_explained_49 : decode cX12_explained 49 = .ok (.iconst 0, 1) := by decide +kernel
theorem dX12_explained_50 : decode cX12_explained 50 = .ok (.iadd, 1) := by decide +kernel
theorem dX12_explained_51 : decode cX12_explained 51 = .ok (.istore_n 3, 1) := by decide +kernel
theorem dX12_explained_52 : decode cX12_explained 52 = .ok (.iinc 4 1, 3) := by decide +kernel
theorem dX12_explained_55 : decode cX12_explained 55 = .ok (.goto (-34), 3) := by decide +kernel
theorem dX12_explained_58 : decode cX12_explained 58 = .ok (.aload_n 0, 1) := by decide +kernel
theorem dX12_explained_59 : decode cX12_explained 59 = .ok (.iload_n 3, 1) := by decide +kernel
theorem dX12_explained_60 : decode cX12_explained 60 = .ok (.invokevirtual 89, 3) := by decide +kernel
theorem dX12_explained_63 : decode cX12_explained 63 = .ok (.ireturn, 1) := by decide +kernel
theorem dX12_sure_0 : decode cX12_sure 0 = .ok (.aload_n 0, 1) := by decide +kernel
theorem dX12_sure_1 : decode cX12_sure 1 = .ok (.iload_n 1, 1) := by decide +kernel
theorem dX12_sure_2 : decode cX12_sure 2 = .ok (.invokevirtual 426, 3) := by decide +kernel
theorem dX12_sure_5 : decode cX12_sure 5 = .ok (.istore_n 2, 1) := by decide +kernel
theorem dX12_sure_6 : decode cX12_sure 6 = .ok (.iload_n 2, 1) := by decide +kernel
theorem dX12_sure_7 : decode cX12_sure 7 = .ok (.ifCond .le 9, 3) := by decide +kernel
theorem dX12_sure_10 : decode cX12_sure 10 = .ok (.aload_n 0, 1) := by decide +kernel
theorem dX12_sure_11 : decode cX12_sure 11 = .ok (.iload_n 2, 1) := by decide +kernel
theorem dX12_sure_12 : decode cX12_sure 12 = .ok (.invokevirtual 85, 3) := by decide +kernel
theorem dX12_sure_15 : decode cX12_sure 15 = .ok (.ireturn, 1) := by decide +kernel
theorem dX12_sure_16 : decode cX12_sure 16 = .ok (.iconst (-1), 1) := by decide +kernel
theorem dX12_sure_17 : decode cX12_sure 17 = .ok (.istore_n 3, 1) := by decide +kernel
theorem dX12_sure_18 : decode cX12_sure 18 = .ok (.iconst 0, 1) := by decide +kernel
theorem dX12_sure_19 : decode cX12_sure 19 = .ok (.istore 4, 2) := by decide +kernel
theorem dX12_sure_21 : decode cX12_sure 21 = .ok (.iload 4, 2) := by decide +kernel
theorem dX12_sure_23 : decode cX12_sure 23 = .ok (.iconst 1, 1) := by decide +kernel
theorem dX12_sure_24 : decode cX12_sure 24 = .ok (.aload_n 0, 1) := by decide +kernel
theorem dX12_sure_25 : decode cX12_sure 25 = .ok (.getfield 7, 3) := by decide +kernel
theorem dX12_sure_28 : decode cX12_sure 28 = .ok (.iconst 3, 1) := by decide +kernel
theorem dX12_sure_29 : decode cX12_sure 29 = .ok (.iaload, 1) := by decide +kernel
theorem dX12_sure_30 : decode cX12_sure 30 = .ok (.ishl, 1) := by decide +kernel
theorem dX12_sure_31 : decode cX12_sure 31 = .ok (.if_icmp .ge 34, 3) := by decide +kernel
theorem dX12_sure_34 : decode cX12_sure 34 = .ok (.aload_n 0, 1) := by decide +kernel
theorem dX12_sure_35 : decode cX12_sure 35 = .ok (.iload 4, 2) := by decide +kernel
theorem dX12_sure_37 : decode cX12_sure 37 = .ok (.iload_n 1, 1) := by decide +kernel
theorem dX12_sure_38 : decode cX12_sure 38 = .ok (.invokevirtual 429, 3) := by decide +kernel
theorem dX12_sure_41 : decode cX12_sure 41 = .ok (.ifCond .eq 18, 3) := by decide +kernel
theorem dX12_sure_44 : decode cX12_sure 44 = .ok (.iload_n 3, 1) := by decide +kernel
theorem dX12_sure_45 : decode cX12_sure 45 = .ok (.iconst (-1), 1) := by decide +kernel
theorem dX12_sure_46 : decode cX12_sure 46 = .ok (.if_icmp .ne 8, 3) := by decide +kernel
theorem dX12_sure_49 : decode cX12_sure 49 = .ok (.iload 4, 2) := by decide +kernel
theorem dX12_sure_51 : decode cX12_sure 51 = .ok (.goto 7, 3) := by decide +kernel
theorem dX12_sure_54 : decode cX12_sure 54 = .ok (.iload_n 3, 1) := by decide +kernel
theorem dX12_sure_55 : decode cX12_sure 55 = .ok (.iload 4, 2) := by decide +kernel
theorem dX12_sure_57 : decode cX12_sure 57 = .ok (.iand, 1) := by decide +kernel
theorem dX12_sure_58 : decode cX12_sure 58 = .ok (.istore_n 3, 1) := by decide +kernel
theorem dX12_sure_59 : decode cX12_sure 59 = .ok (.iinc 4 1, 3) := by decide +kernel
theorem dX12_sure_62 : decode cX12_sure 62 = .ok (.goto (-41), 3) := by decide +kernel
theorem dX12_sure_65 : decode cX12_sure 65 = .ok (.aload_n 0, 1) := by decide +kernel
theorem dX12_sure_66 : decode cX12_sure 66 = .ok (.iload_n 3, 1) := by decide +kernel
theorem dX12_sure_67 : decode cX12_sure 67 = .ok (.invokevirtual 324, 3) := by decide +kernel
theorem dX12_sure_70 : decode cX12_sure 70 = .ok (.ireturn, 1) := by decide +kernel
theorem dX12_wrongLaws_0 : decode cX12_wrongLaws 0 = .ok (.iload_n 1, 1) := by decide +kernel
theorem dX12_wrongLaws_1 : decode cX12_wrongLaws 1 = .ok (.invokestatic 96, 3) := by decide +kernel
theorem dX12_wrongLaws_4 : decode cX12_wrongLaws 4 = .ok (.ifCond .eq 15, 3) := by decide +kernel
theorem dX12_wrongLaws_7 : decode cX12_wrongLaws 7 = .ok (.iload_n 2, 1) := by decide +kernel
theorem dX12_wrongLaws_8 : decode cX12_wrongLaws 8 = .ok (.i2l, 1) := by decide +kernel
theorem dX12_wrongLaws_9 : decode cX12_wrongLaws 9 = .ok (.lconst 0, 1) := by decide +kernel
theorem dX12_wrongLaws_10 : decode cX12_wrongLaws 10 = .ok (.ldc2_w 432, 3) := by decide +kernel
theorem dX12_wrongLaws_13 : decode cX12_wrongLaws 13 = .ok (.invokestatic 359, 3) := by decide +kernel
theorem dX12_wrongLaws_16 : decode cX12_wrongLaws 16 = .ok (.ifCond .ne 5, 3) := by decide +kernel
theorem dX12_wrongLaws_19 : decode cX12_wrongLaws 19 = .ok (.iconst 1, 1) := by decide +kernel
theorem dX12_wrongLaws_20 : decode cX12_wrongLaws 20 = .ok (.ireturn, 1) := by decide +kernel
theorem dX12_wrongLaws_21 : decode cX12_wrongLaws 21 = .ok (.aload_n 0, 1) := by decide +kernel
theorem dX12_wrongLaws_22 : decode cX12_wrongLaws 22 = .ok (.getfield 24, 3) := by decide +kernel
theorem dX12_wrongLaws_25 : decode cX12_wrongLaws 25 = .ok (.iload_n 1, 1) := by decide +kernel
theorem dX12_wrongLaws_26 : decode cX12_wrongLaws 26 = .ok (.iaload, 1) := by decide +kernel
theorem dX12_wrongLaws_27 : decode cX12_wrongLaws 27 = .ok (.iconst (-1), 1) := by decide +kernel
theorem dX12_wrongLaws_28 : decode cX12_wrongLaws 28 = .ok (.if_icmp .ne 5, 3) := by decide +kernel
theorem dX12_wrongLaws_31 : decode cX12_wrongLaws 31 = .ok (.iconst 2, 1) := by decide +kernel
theorem dX12_wrongLaws_32 : decode cX12_wrongLaws 32 = .ok (.ireturn, 1) := by decide +kernel
theorem dX12_wrongLaws_33 : decode cX12_wrongLaws 33 = .ok (.aload_n 0, 1) := by decide +kernel
theorem dX12_wrongLaws_34 : decode cX12_wrongLaws 34 = .ok (.getfield 24, 3) := by decide +kernel
theorem dX12_wrongLaws_37 : decode cX12_wrongLaws 37 = .ok (.iload_n 1, 1) := by decide +kernel
theorem dX12_wrongLaws_38 : decode cX12_wrongLaws 38 = .ok (.iaload, 1) := by decide +kernel
theorem dX12_wrongLaws_39 : decode cX12_wrongLaws 39 = .ok (.iconst 3, 1) := by decide +kernel
theorem dX12_wrongLaws_40 : decode cX12_wrongLaws 40 = .ok (.iload_n 2, 1) := by decide +kernel
theorem dX12_wrongLaws_41 : decode cX12_wrongLaws 41 = .ok (.imul, 1) := by decide +kernel
theorem dX12_wrongLaws_42 : decode cX12_wrongLaws 42 = .ok (.if_icmp .ge 5, 3) := by decide +kernel
theorem dX12_wrongLaws_45 : decode cX12_wrongLaws 45 = .ok (.iconst 3, 1) := by decide +kernel
theorem dX12_wrongLaws_46 : decode cX12_wrongLaws 46 = .ok (.ireturn, 1) := by decide +kernel
theorem dX12_wrongLaws_47 : decode cX12_wrongLaws 47 = .ok (.iconst 0, 1) := by decide +kernel
theorem dX12_wrongLaws_48 : decode cX12_wrongLaws 48 = .ok (.istore_n 3, 1) := by decide +kernel
theorem dX12_wrongLaws_49 : decode cX12_wrongLaws 49 = .ok (.iload_n 3, 1) := by decide +kernel
theorem dX12_wrongLaws_50 : decode cX12_wrongLaws 50 = .ok (.iload_n 2, 1) := by decide +kernel
theorem dX12_wrongLaws_51 : decode cX12_wrongLaws 51 = .ok (.if_icmp .ge 74, 3) := by decide +kernel
theorem dX12_wrongLaws_54 : decode cX12_wrongLaws 54 = .ok (.bipush 60, 2) := by decide +kernel
theorem dX12_wrongLaws_56 : decode cX12_wrongLaws 56 = .ok (.iload_n 1, 1) := by decide +kernel
theorem dX12_wrongLaws_57 : decode cX12_wrongLaws 57 = .ok (.imul, 1) := by decide +kernel
theorem dX12_wrongLaws_58 : decode cX12_wrongLaws 58 = .ok (.iconst 3, 1) := by decide +kernel
theorem dX12_wrongLaws_59 : decode cX12_wrongLaws 59 = .ok (.iload_n 3, 1) := by decide +kernel
theorem dX12_wrongLaws_60 : decode cX12_wrongLaws 60 = .ok (.imul, 1) := by decide +kernel
theorem dX12_wrongLaws_61 : decode cX12_wrongLaws 61 = .ok (.iadd, 1) := by decide +kernel
theorem dX12_wrongLaws_62 : decode cX12_wrongLaws 62 = .ok (.istore 4, 2) := by decide +kernel
theorem dX12_wrongLaws_64 : decode cX12_wrongLaws 64 = .ok (.aload_n 0, 1) := by decide +kernel
theorem dX12_wrongLaws_65 : decode cX12_wrongLaws 65 = .ok (.getfield 27, 3) := by decide +kernel
theorem dX12_wrongLaws_68 : decode cX12_wrongLaws 68 = .ok (.iload 4, 2) := by decide +kernel
theorem dX12_wrongLaws_70 : decode cX12_wrongLaws 70 = .ok (.laload, 1) := by decide +kernel
theorem dX12_wrongLaws_71 : decode cX12_wrongLaws 71 = .ok (.lconst 1, 1) := by decide +kernel
theorem dX12_wrongLaws_72 : decode cX12_wrongLaws 72 = .ok (.ldc2_w 369, 3) := by decide +kernel
theorem dX12_wrongLaws_75 : decode cX12_wrongLaws 75 = .ok (.invokestatic 359, 3) := by decide +kernel
theorem dX12_wrongLaws_78 : decode cX12_wrongLaws 78 = .ok (.ifCond .eq 39, 3) := by decide +kernel
theorem dX12_wrongLaws_81 : decode cX12_wrongLaws 81 = .ok (.aload_n 0, 1) := by decide +kernel
theorem dX12_wrongLaws_82 : decode cX12_wrongLaws 82 = .ok (.getfield 27, 3) := by decide +kernel
theorem dX12_wrongLaws_85 : decode cX12_wrongLaws 85 = .ok (.iload 4, 2) := by decide +kernel
theorem dX12_wrongLaws_87 : decode cX12_wrongLaws 87 = .ok (.iconst 1, 1) := by decide +kernel
theorem dX12_wrongLaws_88 : decode cX12_wrongLaws 88 = .ok (.iadd, 1) := by decide +kernel
theorem dX12_wrongLaws_89 : decode cX12_wrongLaws 89 = .ok (.laload, 1) := by decide +kernel
theorem dX12_wrongLaws_90 : decode cX12_wrongLaws 90 = .ok (.lconst 0, 1) := by decide +kernel
theorem dX12_wrongLaws_91 : decode cX12_wrongLaws 91 = .ok (.ldc2_w 357, 3) := by decide +kernel
theorem dX12_wrongLaws_94 : decode cX12_wrongLaws 94 = .ok (.invokestatic 359, 3) := by decide +kernel
theorem dX12_wrongLaws_97 : decode cX12_wrongLaws 97 = .ok (.ifCond .eq 20, 3) := by decide +kernel
theorem dX12_wrongLaws_100 : decode cX12_wrongLaws 100 = .ok (.aload_n 0, 1) := by decide +kernel
theorem dX12_wrongLaws_101 : decode cX12_wrongLaws 101 = .ok (.getfield 27, 3) := by decide +kernel
theorem dX12_wrongLaws_104 : decode cX12_wrongLaws 104 = .ok (.iload 4, 2) := by decide +kernel
theorem dX12_wrongLaws_106 : decode cX12_wrongLaws 106 = .ok (.iconst 2, 1) := by decide +kernel
theorem dX12_wrongLaws_107 : decode cX12_wrongLaws 107 = .ok (.iadd, 1) := by decide +kernel
theorem dX12_wrongLaws_108 : decode cX12_wrongLaws 108 = .ok (.laload, 1) := by decide +kernel
theorem dX12_wrongLaws_109 : decode cX12_wrongLaws 109 = .ok (.lconst 0, 1) := by decide +kernel
theorem dX12_wrongLaws_110 : decode cX12_wrongLaws 110 = .ok (.lconst 1, 1) := by decide +kernel
theorem dX12_wrongLaws_111 : decode cX12_wrongLaws 111 = .ok (.invokestatic 359, 3) := by decide +kernel
theorem dX12_wrongLaws_114 : decode cX12_wrongLaws 114 = .ok (.ifCond .ne 5, 3) := by decide +kernel
theorem dX12_wrongLaws_117 : decode cX12_wrongLaws 117 = .ok (.iconst 5, 1) := by decide +kernel
theorem dX12_wrongLaws_118 : decode cX12_wrongLaws 118 = .ok (.ireturn, 1) := by decide +kernel
theorem dX12_wrongLaws_119 : decode cX12_wrongLaws 119 = .ok (.iinc 3 1, 3) := by decide +kernel
theorem dX12_wrongLaws_122 : decode cX12_wrongLaws 122 = .ok (.goto (-73), 3) := by decide +kernel
theorem dX12_wrongLaws_125 : decode cX12_wrongLaws 125 = .ok (.iconst 0, 1) := by decide +kernel
theorem dX12_wrongLaws_126 : decode cX12_wrongLaws 126 = .ok (.ireturn, 1) := by decide +kernel
theorem dX12_isLaw_0 : decode cX12_isLaw 0 = .ok (.iconst 0, 1) := by decide +kernel
theorem dX12_isLaw_1 : decode cX12_isLaw 1 = .ok (.istore 5, 2) := by decide +kernel
theorem dX12_isLaw_3 : decode cX12_isLaw 3 = .ok (.iload 5, 2) := by decide +kernel
theorem dX12_isLaw_5 : decode cX12_isLaw 5 = .ok (.iload 4, 2) := by decide +kernel
theorem dX12_isLaw_7 : decode cX12_isLaw 7 = .ok (.if_icmp .ge 79, 3) := by decide +kernel
theorem dX12_isLaw_10 : decode cX12_isLaw 10 = .ok (.bipush 60, 2) := by decide +kernel
theorem dX12_isLaw_12 : decode cX12_isLaw 12 = .ok (.iload_n 3, 1) := by decide +kernel
theorem dX12_isLaw_13 : decode cX12_isLaw 13 = .ok (.imul, 1) := by decide +kernel
theorem dX12_isLaw_14 : decode cX12_isLaw 14 = .ok (.iconst 3, 1) := by decide +kernel
theorem dX12_isLaw_15 : decode cX12_isLaw 15 = .ok (.iload 5, 2) := by decide +kernel
theorem dX12_isLaw_17 : decode cX12_isLaw 17 = .ok (.imul, 1) := by decide +kernel
theorem dX12_isLaw_18 : decode cX12_isLaw 18 = .ok (.iadd, 1) := by decide +kernel
theorem dX12_isLaw_19 : decode cX12_isLaw 19 = .ok (.istore 6, 2) := by decide +kernel
theorem dX12_isLaw_21 : decode cX12_isLaw 21 = .ok (.aload_n 0, 1) := by decide +kernel
theorem dX12_isLaw_22 : decode cX12_isLaw 22 = .ok (.getfield 27, 3) := by decide +kernel
theorem dX12_isLaw_25 : decode cX12_isLaw 25 = .ok (.iload 6, 2) := by decide +kernel
theorem dX12_isLaw_27 : decode cX12_isLaw 27 = .ok (.iconst 1, 1) := by decide +kernel
theorem dX12_isLaw_28 : decode cX12_isLaw 28 = .ok (.iadd, 1) := by decide +kernel
theorem dX12_isLaw_29 : decode cX12_isLaw 29 = .ok (.laload, 1) := by decide +kernel
theorem dX12_isLaw_30 : decode cX12_isLaw 30 = .ok (.iload_n 2, 1) := by decide +kernel
theorem dX12_isLaw_31 : decode cX12_isLaw 31 = .ok (.i2l, 1) := by decide +kernel
theorem dX12_isLaw_32 : decode cX12_isLaw 32 = .ok (.lmul, 1) := by decide +kernel
theorem dX12_isLaw_33 : decode cX12_isLaw 33 = .ok (.aload_n 0, 1) := by decide +kernel
theorem dX12_isLaw_34 : decode cX12_isLaw 34 = .ok (.getfield 27, 3) := by decide +kernel
theorem dX12_isLaw_37 : decode cX12_isLaw 37 = .ok (.iload 6, 2) := by decide +kernel
theorem dX12_isLaw_39 : decode cX12_isLaw 39 = .ok (.laload, 1) := by decide +kernel
theorem dX12_isLaw_40 : decode cX12_isLaw 40 = .ok (.iload_n 1, 1) := by decide +kernel
theorem dX12_isLaw_41 : decode cX12_isLaw 41 = .ok (.i2l, 1) := by decide +kernel
theorem dX12_isLaw_42 : decode cX12_isLaw 42 = .ok (.lmul, 1) := by decide +kernel
theorem dX12_isLaw_43 : decode cX12_isLaw 43 = .ok (.lcmp, 1) := by decide +kernel
theorem dX12_isLaw_44 : decode cX12_isLaw 44 = .ok (.ifCond .lt 7, 3) := by decide +kernel
theorem dX12_isLaw_47 : decode cX12_isLaw 47 = .ok (.iconst 1, 1) := by decide +kernel
theorem dX12_isLaw_48 : decode cX12_isLaw 48 = .ok (.goto 4, 3) := by decide +kernel
theorem dX12_isLaw_51 : decode cX12_isLaw 51 = .ok (.iconst 0, 1) := by decide +kernel
theorem dX12_isLaw_52 : decode cX12_isLaw 52 = .ok (.istore 7, 2) := by decide +kernel
theorem dX12_isLaw_54 : decode cX12_isLaw 54 = .ok (.iload 7, 2) := by decide +kernel
theorem dX12_isLaw_56 : decode cX12_isLaw 56 = .ok (.aload_n 0, 1) := by decide +kernel
theorem dX12_isLaw_57 : decode cX12_isLaw 57 = .ok (.getfield 27, 3) := by decide +kernel
theorem dX12_isLaw_60 : decode cX12_isLaw 60 = .ok (.iload 6, 2) := by decide +kernel
theorem dX12_isLaw_62 : decode cX12_isLaw 62 = .ok (.iconst 2, 1) := by decide +kernel
theorem dX12_isLaw_63 : decode cX12_isLaw 63 = .ok (.iadd, 1) := by decide +kernel
theorem dX12_isLaw_64 : decode cX12_isLaw 64 = .ok (.laload, 1) := by decide +kernel
theorem dX12_isLaw_65 : decode cX12_isLaw 65 = .ok (.lconst 1, 1) := by decide +kernel
theorem dX12_isLaw_66 : decode cX12_isLaw 66 = .ok (.lcmp, 1) := by decide +kernel
theorem dX12_isLaw_67 : decode cX12_isLaw 67 = .ok (.ifCond .ne 7, 3) := by decide +kernel
theorem dX12_isLaw_70 : decode cX12_isLaw 70 = .ok (.iconst 1, 1) := by decide +kernel
theorem dX12_isLaw_71 : decode cX12_isLaw 71 = .ok (.goto 4, 3) := by decide +kernel
theorem dX12_isLaw_74 : decode cX12_isLaw 74 = .ok (.iconst 0, 1) := by decide +kernel
theorem dX12_isLaw_75 : decode cX12_isLaw 75 = .ok (.if_icmp .eq 5, 3) := by decide +kernel
theorem dX12_isLaw_78 : decode cX12_isLaw 78 = .ok (.iconst 0, 1) := by decide +kernel
theorem dX12_isLaw_79 : decode cX12_isLaw 79 = .ok (.ireturn, 1) := by decide +kernel
theorem dX12_isLaw_80 : decode cX12_isLaw 80 = .ok (.iinc 5 1, 3) := by decide +kernel
theorem dX12_isLaw_83 : decode cX12_isLaw 83 = .ok (.goto (-80), 3) := by decide +kernel
theorem dX12_isLaw_86 : decode cX12_isLaw 86 = .ok (.iconst 1, 1) := by decide +kernel
theorem dX12_isLaw_87 : decode cX12_isLaw 87 = .ok (.ireturn, 1) := by decide +kernel
theorem dX12_laws_0 : decode cX12_laws 0 = .ok (.aload_n 0, 1) := by decide +kernel
theorem dX12_laws_1 : decode cX12_laws 1 = .ok (.iload_n 1, 1) := by decide +kernel
theorem dX12_laws_2 : decode cX12_laws 2 = .ok (.iload_n 2, 1) := by decide +kernel
theorem dX12_laws_3 : decode cX12_laws 3 = .ok (.invokevirtual 434, 3) := by decide +kernel
theorem dX12_laws_6 : decode cX12_laws 6 = .ok (.istore_n 3, 1) := by decide +kernel
theorem dX12_laws_7 : decode cX12_laws 7 = .ok (.iload_n 3, 1) := by decide +kernel
theorem dX12_laws_8 : decode cX12_laws 8 = .ok (.ifCond .le 9, 3) := by decide +kernel
theorem dX12_laws_11 : decode cX12_laws 11 = .ok (.aload_n 0, 1) := by decide +kernel
theorem dX12_laws_12 : decode cX12_laws 12 = .ok (.iload_n 3, 1) := by decide +kernel
theorem dX12_laws_13 : decode cX12_laws 13 = .ok (.invokevirtual 85, 3) := by decide +kernel
theorem dX12_laws_16 : decode cX12_laws 16 = .ok (.ireturn, 1) := by decide +kernel
theorem dX12_laws_17 : decode cX12_laws 17 = .ok (.iconst 0, 1) := by decide +kernel
theorem dX12_laws_18 : decode cX12_laws 18 = .ok (.istore 4, 2) := by decide +kernel
theorem dX12_laws_20 : decode cX12_laws 20 = .ok (.bipush 11, 2) := by decide +kernel
theorem dX12_laws_22 : decode cX12_laws 22 = .ok (.istore 5, 2) := by decide +kernel
theorem dX12_laws_24 : decode cX12_laws 24 = .ok (.iload 5, 2) := by decide +kernel
theorem dX12_laws_26 : decode cX12_laws 26 = .ok (.bipush 100, 2) := by decide +kernel
theorem dX12_laws_28 : decode cX12_laws 28 = .ok (.if_icmp .ge 46, 3) := by decide +kernel
theorem dX12_laws_31 : decode cX12_laws 31 = .ok (.iload 4, 2) := by decide +kernel
theorem dX12_laws_33 : decode cX12_laws 33 = .ok (.iload 5, 2) := by decide +kernel
theorem dX12_laws_35 : decode cX12_laws 35 = .ok (.bipush 10, 2) := by decide +kernel
theorem dX12_laws_37 : decode cX12_laws 37 = .ok (.irem, 1) := by decide +kernel
theorem dX12_laws_38 : decode cX12_laws 38 = .ok (.ifCond .le 26, 3) := by decide +kernel
theorem dX12_laws_41 : decode cX12_laws 41 = .ok (.aload_n 0, 1) := by decide +kernel
theorem dX12_laws_42 : decode cX12_laws 42 = .ok (.iload 5, 2) := by decide +kernel
theorem dX12_laws_44 : decode cX12_laws 44 = .ok (.bipush 10, 2) := by decide +kernel
theorem dX12_laws_46 : decode cX12_laws 46 = .ok (.idiv, 1) := by decide +kernel
theorem dX12_laws_47 : decode cX12_laws 47 = .ok (.iload 5, 2) := by decide +kernel
theorem dX12_laws_49 : decode cX12_laws 49 = .ok (.bipush 10, 2) := by decide +kernel
theorem dX12_laws_51 : decode cX12_laws 51 = .ok (.irem, 1) := by decide +kernel
theorem dX12_laws_52 : decode cX12_laws 52 = .ok (.iload_n 1, 1) := by decide +kernel
theorem dX12_laws_53 : decode cX12_laws 53 = .ok (.iload_n 2, 1) := by decide +kernel
theorem dX12_laws_54 : decode cX12_laws 54 = .ok (.invokevirtual 437, 3) := by decide +kernel
theorem dX12_laws_57 : decode cX12_laws 57 = .ok (.ifCond .eq 7, 3) := by decide +kernel
theorem dX12_laws_60 : decode cX12_laws 60 = .ok (.iconst 1, 1) := by decide +kernel
theorem dX12_laws_61 : decode cX12_laws 61 = .ok (.goto 4, 3) := by decide +kernel
theorem dX12_laws_64 : decode cX12_laws 64 = .ok (.iconst 0, 1) := by decide +kernel
theorem dX12_laws_65 : decode cX12_laws 65 = .ok (.iadd, 1) := by decide +kernel
theorem dX12_laws_66 : decode cX12_laws 66 = .ok (.istore 4, 2) := by decide +kernel
theorem dX12_laws_68 : decode cX12_laws 68 = .ok (.iinc 5 1, 3) := by decide +kernel
theorem dX12_laws_71 : decode cX12_laws 71 = .ok (.goto (-47), 3) := by decide +kernel
theorem dX12_laws_74 : decode cX12_laws 74 = .ok (.aload_n 0, 1) := by decide +kernel
theorem dX12_laws_75 : decode cX12_laws 75 = .ok (.iload 4, 2) := by decide +kernel
theorem dX12_laws_77 : decode cX12_laws 77 = .ok (.invokevirtual 89, 3) := by decide +kernel
theorem dX12_laws_80 : decode cX12_laws 80 = .ok (.ireturn, 1) := by decide +kernel
theorem dX12_lawFirst_0 : decode cX12_lawFirst 0 = .ok (.aload_n 0, 1) := by decide +kernel
theorem dX12_lawFirst_1 : decode cX12_lawFirst 1 = .ok (.iload_n 1, 1) := by decide +kernel
theorem dX12_lawFirst_2 : decode cX12_lawFirst 2 = .ok (.iload_n 2, 1) := by decide +kernel
theorem dX12_lawFirst_3 : decode cX12_lawFirst 3 = .ok (.invokevirtual 434, 3) := by decide +kernel
theorem dX12_lawFirst_6 : decode cX12_lawFirst 6 = .ok (.istore_n 3, 1) := by decide +kernel
theorem dX12_lawFirst_7 : decode cX12_lawFirst 7 = .ok (.iload_n 3, 1) := by decide +kernel
theorem dX12_lawFirst_8 : decode cX12_lawFirst 8 = .ok (.ifCond .le 9, 3) := by decide +kernel
theorem dX12_lawFirst_11 : decode cX12_lawFirst 11 = .ok (.aload_n 0, 1) := by decide +kernel
theorem dX12_lawFirst_12 : decode cX12_lawFirst 12 = .ok (.iload_n 3, 1) := by decide +kernel
theorem dX12_lawFirst_13 : decode cX12_lawFirst 13 = .ok (.invokevirtual 85, 3) := by decide +kernel
theorem dX12_lawFirst_16 : decode cX12_lawFirst 16 = .ok (.ireturn, 1) := by decide +kernel
theorem dX12_lawFirst_17 : decode cX12_lawFirst 17 = .ok (.bipush 11, 2) := by decide +kernel
theorem dX12_lawFirst_19 : decode cX12_lawFirst 19 = .ok (.istore 4, 2) := by decide +kernel
theorem dX12_lawFirst_21 : decode cX12_lawFirst 21 = .ok (.iload 4, 2) := by decide +kernel
theorem dX12_lawFirst_23 : decode cX12_lawFirst 23 = .ok (.bipush 100, 2) := by decide +kernel
theorem dX12_lawFirst_25 : decode cX12_lawFirst 25 = .ok (.if_icmp .ge 43, 3) := by decide +kernel
theorem dX12_lawFirst_28 : decode cX12_lawFirst 28 = .ok (.iload 4, 2) := by decide +kernel
theorem dX12_lawFirst_30 : decode cX12_lawFirst 30 = .ok (.bipush 10, 2) := by decide +kernel
theorem dX12_lawFirst_32 : decode cX12_lawFirst 32 = .ok (.irem, 1) := by decide +kernel
theorem dX12_lawFirst_33 : decode cX12_lawFirst 33 = .ok (.ifCond .le 29, 3) := by decide +kernel
theorem dX12_lawFirst_36 : decode cX12_lawFirst 36 = .ok (.aload_n 0, 1) := by decide +kernel
theorem dX12_lawFirst_37 : decode cX12_lawFirst 37 = .ok (.iload 4, 2) := by decide +kernel
theorem dX12_lawFirst_39 : decode cX12_lawFirst 39 = .ok (.bipush 10, 2) := by decide +kernel
theorem dX12_lawFirst_41 : decode cX12_lawFirst 41 = .ok (.idiv, 1) := by decide +kernel
theorem dX12_lawFirst_42 : decode cX12_lawFirst 42 = .ok (.iload 4, 2) := by decide +kernel
theorem dX12_lawFirst_44 : decode cX12_lawFirst 44 = .ok (.bipush 10, 2) := by decide +kernel
theorem dX12_lawFirst_46 : decode cX12_lawFirst 46 = .ok (.irem, 1) := by decide +kernel
theorem dX12_lawFirst_47 : decode cX12_lawFirst 47 = .ok (.iload_n 1, 1) := by decide +kernel
theorem dX12_lawFirst_48 : decode cX12_lawFirst 48 = .ok (.iload_n 2, 1) := by decide +kernel
theorem dX12_lawFirst_49 : decode cX12_lawFirst 49 = .ok (.invokevirtual 437, 3) := by decide +kernel
theorem dX12_lawFirst_52 : decode cX12_lawFirst 52 = .ok (.ifCond .eq 10, 3) := by decide +kernel
theorem dX12_lawFirst_55 : decode cX12_lawFirst 55 = .ok (.aload_n 0, 1) := by decide +kernel
theorem dX12_lawFirst_56 : decode cX12_lawFirst 56 = .ok (.iload 4, 2) := by decide +kernel
theorem dX12_lawFirst_58 : decode cX12_lawFirst 58 = .ok (.invokevirtual 89, 3) := by decide +kernel
theorem dX12_lawFirst_61 : decode cX12_lawFirst 61 = .ok (.ireturn, 1) := by decide +kernel
theorem dX12_lawFirst_62 : decode cX12_lawFirst 62 = .ok (.iinc 4 1, 3) := by decide +kernel
theorem dX12_lawFirst_65 : decode cX12_lawFirst 65 = .ok (.goto (-44), 3) := by decide +kernel
theorem dX12_lawFirst_68 : decode cX12_lawFirst 68 = .ok (.aload_n 0, 1) := by decide +kernel
theorem dX12_lawFirst_69 : decode cX12_lawFirst 69 = .ok (.bipush 6, 2) := by decide +kernel
theorem dX12_lawFirst_71 : decode cX12_lawFirst 71 = .ok (.invokevirtual 85, 3) := by decide +kernel
theorem dX12_lawFirst_74 : decode cX12_lawFirst 74 = .ok (.ireturn, 1) := by decide +kernel
theorem dX12_greatestBut_0 : decode cX12_greatestBut 0 = .ok (.iconst 0, 1) := by decide +kernel
theorem dX12_greatestBut_1 : decode cX12_greatestBut 1 = .ok (.istore_n 2, 1) := by decide +kernel
theorem dX12_greatestBut_2 : decode cX12_greatestBut 2 = .ok (.iconst 0, 1) := by decide +kernel
theorem dX12_greatestBut_3 : decode cX12_greatestBut 3 = .ok (.istore_n 3, 1) := by decide +kernel
theorem dX12_greatestBut_4 : decode cX12_greatestBut 4 = .ok (.iload_n 3, 1) := by decide +kernel
theorem dX12_greatestBut_5 : decode cX12_greatestBut 5 = .ok (.aload_n 0, 1) := by decide +kernel
theorem dX12_greatestBut_6 : decode cX12_greatestBut 6 = .ok (.getfield 7, 3) := by decide +kernel
theorem dX12_greatestBut_9 : decode cX12_greatestBut 9 = .ok (.iconst 3, 1) := by decide +kernel
theorem dX12_greatestBut_10 : decode cX12_greatestBut 10 = .ok (.iaload, 1) := by decide +kernel
theorem dX12_greatestBut_11 : decode cX12_greatestBut 11 = .ok (.if_icmp .ge 38, 3) := by decide +kernel
theorem dX12_greatestBut_14 : decode cX12_greatestBut 14 = .ok (.aload_n 0, 1) := by decide +kernel
theorem dX12_greatestBut_15 : decode cX12_greatestBut 15 = .ok (.iload_n 3, 1) := by decide +kernel
theorem dX12_greatestBut_16 : decode cX12_greatestBut 16 = .ok (.invokevirtual 333, 3) := by decide +kernel
theorem dX12_greatestBut_19 : decode cX12_greatestBut 19 = .ok (.ifCond .eq 24, 3) := by decide +kernel
theorem dX12_greatestBut_22 : decode cX12_greatestBut 22 = .ok (.aload_n 0, 1) := by decide +kernel
theorem dX12_greatestBut_23 : decode cX12_greatestBut 23 = .ok (.iload_n 3, 1) := by decide +kernel
theorem dX12_greatestBut_24 : decode cX12_greatestBut 24 = .ok (.iconst 0, 1) := by decide +kernel
theorem dX12_greatestBut_25 : decode cX12_greatestBut 25 = .ok (.invokevirtual 278, 3) := by decide +kernel
theorem dX12_greatestBut_28 : decode cX12_greatestBut 28 = .ok (.iload_n 1, 1) := by decide +kernel
theorem dX12_greatestBut_29 : decode cX12_greatestBut 29 = .ok (.if_icmp .eq 14, 3) := by decide +kernel
theorem dX12_greatestBut_32 : decode cX12_greatestBut 32 = .ok (.iload_n 2, 1) := by decide +kernel
theorem dX12_greatestBut_33 : decode cX12_greatestBut 33 = .ok (.aload_n 0, 1) := by decide +kernel
theorem dX12_greatestBut_34 : decode cX12_greatestBut 34 = .ok (.iload_n 3, 1) := by decide +kernel
theorem dX12_greatestBut_35 : decode cX12_greatestBut 35 = .ok (.iconst 2, 1) := by decide +kernel
theorem dX12_greatestBut_36 : decode cX12_greatestBut 36 = .ok (.invokevirtual 278, 3) := by decide +kernel
theorem dX12_greatestBut_39 : decode cX12_greatestBut 39 = .ok (.invokestatic 441, 3) := by decide +kernel
theorem dX12_greatestBut_42 : decode cX12_greatestBut 42 = .ok (.istore_n 2, 1) := by decide +kernel
theorem dX12_greatestBut_43 : decode cX12_greatestBut 43 = .ok (.iinc 3 1, 3) := by decide +kernel
theorem dX12_greatestBut_46 : decode cX12_greatestBut 46 = .ok (.goto (-42), 3) := by decide +kernel
theorem dX12_greatestBut_49 : decode cX12_greatestBut 49 = .ok (.iload_n 2, 1) := by decide +kernel
theorem dX12_greatestBut_50 : decode cX12_greatestBut 50 = .ok (.ireturn, 1) := by decide +kernel
theorem dX12_guardOf_0 : decode cX12_guardOf 0 = .ok (.iconst (-1), 1) := by decide +kernel
theorem dX12_guardOf_1 : decode cX12_guardOf 1 = .ok (.istore_n 1, 1) := by decide +kernel
theorem dX12_guardOf_2 : decode cX12_guardOf 2 = .ok (.iconst 0, 1) := by decide +kernel
theorem dX12_guardOf_3 : decode cX12_guardOf 3 = .ok (.istore_n 2, 1) := by decide +kernel
theorem dX12_guardOf_4 : decode cX12_guardOf 4 = .ok (.iload_n 2, 1) := by decide +kernel
theorem dX12_guardOf_5 : decode cX12_guardOf 5 = .ok (.aload_n 0, 1) := by decide +kernel
theorem dX12_guardOf_6 : decode cX12_guardOf 6 = .ok (.getfield 7, 3) := by decide +kernel
theorem dX12_guardOf_9 : decode cX12_guardOf 9 = .ok (.iconst 0, 1) := by decide +kernel
theorem dX12_guardOf_10 : decode cX12_guardOf 10 = .ok (.iaload, 1) := by decide +kernel
theorem dX12_guardOf_11 : decode cX12_guardOf 11 = .ok (.if_icmp .ge 29, 3) := by decide +kernel
theorem dX12_guardOf_14 : decode cX12_guardOf 14 = .ok (.iload_n 1, 1) := by decide +kernel
theorem dX12_guardOf_15 : decode cX12_guardOf 15 = .ok (.iconst (-1), 1) := by decide +kernel
theorem dX12_guardOf_16 : decode cX12_guardOf 16 = .ok (.if_icmp .eq 16, 3) := by decide +kernel
theorem dX12_guardOf_19 : decode cX12_guardOf 19 = .ok (.aload_n 0, 1) := by decide +kernel
theorem dX12_guardOf_20 : decode cX12_guardOf 20 = .ok (.iload_n 2, 1) := by decide +kernel
theorem dX12_guardOf_21 : decode cX12_guardOf 21 = .ok (.invokevirtual 444, 3) := by decide +kernel
theorem dX12_guardOf_24 : decode cX12_guardOf 24 = .ok (.aload_n 0, 1) := by decide +kernel
theorem dX12_guardOf_25 : decode cX12_guardOf 25 = .ok (.iload_n 1, 1) := by decide +kernel
theorem dX12_guardOf_26 : decode cX12_guardOf 26 = .ok (.invokevirtual 444, 3) := by decide +kernel
theorem dX12_guardOf_29 : decode cX12_guardOf 29 = .ok (.if_icmp .ge 5, 3) := by decide +kernel
theorem dX12_guardOf_32 : decode cX12_guardOf 32 = .ok (.iload_n 2, 1) := by decide +kernel
theorem dX12_guardOf_33 : decode cX12_guardOf 33 = .ok (.istore_n 1, 1) := by decide +kernel
theorem dX12_guardOf_34 : decode cX12_guardOf 34 = .ok (.iinc 2 1, 3) := by decide +kernel
theorem dX12_guardOf_37 : decode cX12_guardOf 37 = .ok (.goto (-33), 3) := by decide +kernel
theorem dX12_guardOf_40 : decode cX12_guardOf 40 = .ok (.iload_n 1, 1) := by decide +kernel
theorem dX12_guardOf_41 : decode cX12_guardOf 41 = .ok (.ireturn, 1) := by decide +kernel
theorem dX12_guard_0 : decode cX12_guard 0 = .ok (.aload_n 0, 1) := by decide +kernel
theorem dX12_guard_1 : decode cX12_guard 1 = .ok (.aload_n 0, 1) := by decide +kernel
theorem dX12_guard_2 : decode cX12_guard 2 = .ok (.invokevirtual 447, 3) := by decide +kernel
theorem dX12_guard_5 : decode cX12_guard 5 = .ok (.invokevirtual 324, 3) := by decide +kernel
theorem dX12_guard_8 : decode cX12_guard 8 = .ok (.ireturn, 1) := by decide +kernel
theorem dX12_guardLeft_0 : decode cX12_guardLeft 0 = .ok (.aload_n 0, 1) := by decide +kernel
theorem dX12_guardLeft_1 : decode cX12_guardLeft 1 = .ok (.invokevirtual 447, 3) := by decide +kernel
theorem dX12_guardLeft_4 : decode cX12_guardLeft 4 = .ok (.istore_n 1, 1) := by decide +kernel
theorem dX12_guardLeft_5 : decode cX12_guardLeft 5 = .ok (.iload_n 1, 1) := by decide +kernel
theorem dX12_guardLeft_6 : decode cX12_guardLeft 6 = .ok (.iconst (-1), 1) := by decide +kernel
theorem dX12_guardLeft_7 : decode cX12_guardLeft 7 = .ok (.if_icmp .ne 12, 3) := by decide +kernel
theorem dX12_guardLeft_10 : decode cX12_guardLeft 10 = .ok (.aload_n 0, 1) := by decide +kernel
theorem dX12_guardLeft_11 : decode cX12_guardLeft 11 = .ok (.bipush 6, 2) := by decide +kernel
theorem dX12_guardLeft_13 : decode cX12_guardLeft 13 = .ok (.invokevirtual 85, 3) := by decide +kernel
theorem dX12_guardLeft_16 : decode cX12_guardLeft 16 = .ok (.goto 12, 3) := by decide +kernel
theorem dX12_guardLeft_19 : decode cX12_guardLeft 19 = .ok (.aload_n 0, 1) := by decide +kernel
theorem dX12_guardLeft_20 : decode cX12_guardLeft 20 = .ok (.aload_n 0, 1) := by decide +kernel
theorem dX12_guardLeft_21 : decode cX12_guardLeft 21 = .ok (.iload_n 1, 1) := by decide +kernel
theorem dX12_guardLeft_22 : decode cX12_guardLeft 22 = .ok (.invokevirtual 444, 3) := by decide +kernel
theorem dX12_guardLeft_25 : decode cX12_guardLeft 25 = .ok (.invokevirtual 89, 3) := by decide +kernel
theorem dX12_guardLeft_28 : decode cX12_guardLeft 28 = .ok (.ireturn, 1) := by decide +kernel
theorem dX12_worstAt_0 : decode cX12_worstAt 0 = .ok (.aload_n 0, 1) := by decide +kernel
theorem dX12_worstAt_1 : decode cX12_worstAt 1 = .ok (.getfield 60, 3) := by decide +kernel
theorem dX12_worstAt_4 : decode cX12_worstAt 4 = .ok (.sipush 256, 3) := by decide +kernel
theorem dX12_worstAt_7 : decode cX12_worstAt 7 = .ok (.iload_n 1, 1) := by decide +kernel
theorem dX12_worstAt_8 : decode cX12_worstAt 8 = .ok (.imul, 1) := by decide +kernel
theorem dX12_worstAt_9 : decode cX12_worstAt 9 = .ok (.iload_n 2, 1) := by decide +kernel
theorem dX12_worstAt_10 : decode cX12_worstAt 10 = .ok (.iadd, 1) := by decide +kernel
theorem dX12_worstAt_11 : decode cX12_worstAt 11 = .ok (.iaload, 1) := by decide +kernel
theorem dX12_worstAt_12 : decode cX12_worstAt 12 = .ok (.istore_n 3, 1) := by decide +kernel
theorem dX12_worstAt_13 : decode cX12_worstAt 13 = .ok (.iconst 0, 1) := by decide +kernel
theorem dX12_worstAt_14 : decode cX12_worstAt 14 = .ok (.istore 4, 2) := by decide +kernel
theorem dX12_worstAt_16 : decode cX12_worstAt 16 = .ok (.iload 4, 2) := by decide +kernel
theorem dX12_worstAt_18 : decode cX12_worstAt 18 = .ok (.aload_n 0, 1) := by decide +kernel
theorem dX12_worstAt_19 : decode cX12_worstAt 19 = .ok (.getfield 7, 3) := by decide +kernel
theorem dX12_worstAt_22 : decode cX12_worstAt 22 = .ok (.iconst 3, 1) := by decide +kernel
theorem dX12_worstAt_23 : decode cX12_worstAt 23 = .ok (.iaload, 1) := by decide +kernel
theorem dX12_worstAt_24 : decode cX12_worstAt 24 = .ok (.if_icmp .ge 80, 3) := by decide +kernel
theorem dX12_worstAt_27 : decode cX12_worstAt 27 = .ok (.aload_n 0, 1) := by decide +kernel
theorem dX12_worstAt_28 : decode cX12_worstAt 28 = .ok (.iload_n 2, 1) := by decide +kernel
theorem dX12_worstAt_29 : decode cX12_worstAt 29 = .ok (.iload 4, 2) := by decide +kernel
theorem dX12_worstAt_31 : decode cX12_worstAt 31 = .ok (.invokevirtual 327, 3) := by decide +kernel
theorem dX12_worstAt_34 : decode cX12_worstAt 34 = .ok (.ifCond .ne 64, 3) := by decide +kernel
theorem dX12_worstAt_37 : decode cX12_worstAt 37 = .ok (.aload_n 0, 1) := by decide +kernel
theorem dX12_worstAt_38 : decode cX12_worstAt 38 = .ok (.iload 4, 2) := by decide +kernel
theorem dX12_worstAt_40 : decode cX12_worstAt 40 = .ok (.invokevirtual 333, 3) := by decide +kernel
theorem dX12_worstAt_43 : decode cX12_worstAt 43 = .ok (.ifCond .ne 6, 3) := by decide +kernel
theorem dX12_worstAt_46 : decode cX12_worstAt 46 = .ok (.goto 52, 3) := by decide +kernel
theorem dX12_worstAt_49 : decode cX12_worstAt 49 = .ok (.aload_n 0, 1) := by decide +kernel
theorem dX12_worstAt_50 : decode cX12_worstAt 50 = .ok (.getfield 60, 3) := by decide +kernel
theorem dX12_worstAt_53 : decode cX12_worstAt 53 = .ok (.sipush 256, 3) := by decide +kernel
theorem dX12_worstAt_56 : decode cX12_worstAt 56 = .ok (.iload_n 1, 1) := by decide +kernel
theorem dX12_worstAt_57 : decode cX12_worstAt 57 = .ok (.imul, 1) := by decide +kernel
theorem dX12_worstAt_58 : decode cX12_worstAt 58 = .ok (.iload_n 2, 1) := by decide +kernel
theorem dX12_worstAt_59 : decode cX12_worstAt 59 = .ok (.iconst 1, 1) := by decide +kernel
theorem dX12_worstAt_60 : decode cX12_worstAt 60 = .ok (.iload 4, 2) := by decide +kernel
theorem dX12_worstAt_62 : decode cX12_worstAt 62 = .ok (.ishl, 1) := by decide +kernel
theorem dX12_worstAt_63 : decode cX12_worstAt 63 = .ok (.ior, 1) := by decide +kernel
theorem dX12_worstAt_64 : decode cX12_worstAt 64 = .ok (.iadd, 1) := by decide +kernel
theorem dX12_worstAt_65 : decode cX12_worstAt 65 = .ok (.iaload, 1) := by decide +kernel
theorem dX12_worstAt_66 : decode cX12_worstAt 66 = .ok (.aload_n 0, 1) := by decide +kernel
theorem dX12_worstAt_67 : decode cX12_worstAt 67 = .ok (.iload 4, 2) := by decide +kernel
theorem dX12_worstAt_69 : decode cX12_worstAt 69 = .ok (.iconst 0, 1) := by decide +kernel
theorem dX12_worstAt_70 : decode cX12_worstAt 70 = .ok (.invokevirtual 278, 3) := by decide +kernel
theorem dX12_worstAt_73 : decode cX12_worstAt 73 = .ok (.iload_n 1, 1) := by decide +kernel
theorem dX12_worstAt_74 : decode cX12_worstAt 74 = .ok (.if_icmp .ne 7, 3) := by decide +kernel
theorem dX12_worstAt_77 : decode cX12_worstAt 77 = .ok (.iconst 0, 1) := by decide +kernel
theorem dX12_worstAt_78 : decode cX12_worstAt 78 = .ok (.goto 10, 3) := by decide +kernel
theorem dX12_worstAt_81 : decode cX12_worstAt 81 = .ok (.aload_n 0, 1) := by decide +kernel
theorem dX12_worstAt_82 : decode cX12_worstAt 82 = .ok (.iload 4, 2) := by decide +kernel
theorem dX12_worstAt_84 : decode cX12_worstAt 84 = .ok (.iconst 2, 1) := by decide +kernel
theorem dX12_worstAt_85 : decode cX12_worstAt 85 = .ok (.invokevirtual 278, 3) := by decide +kernel
theorem dX12_worstAt_88 : decode cX12_worstAt 88 = .ok (.iadd, 1) := by decide +kernel
theorem dX12_worstAt_89 : decode cX12_worstAt 89 = .ok (.istore 5, 2) := by decide +kernel
theorem dX12_worstAt_91 : decode cX12_worstAt 91 = .ok (.iload_n 3, 1) := by decide +kernel
theorem dX12_worstAt_92 : decode cX12_worstAt 92 = .ok (.iload 5, 2) := by decide +kernel
theorem dX12_worstAt_94 : decode cX12_worstAt 94 = .ok (.invokestatic 441, 3) := by decide +kernel
theorem dX12_worstAt_97 : decode cX12_worstAt 97 = .ok (.istore_n 3, 1) := by decide +kernel
theorem dX12_worstAt_98 : decode cX12_worstAt 98 = .ok (.iinc 4 1, 3) := by decide +kernel
theorem dX12_worstAt_101 : decode cX12_worstAt 101 = .ok (.goto (-85), 3) := by decide +kernel
theorem dX12_worstAt_104 : decode cX12_worstAt 104 = .ok (.iload_n 3, 1) := by decide +kernel
theorem dX12_worstAt_105 : decode cX12_worstAt 105 = .ok (.ireturn, 1) := by decide +kernel
theorem dX12_leastFrom_0 : decode cX12_leastFrom 0 = .ok (.ldc_w 314, 3) := by decide +kernel
theorem dX12_leastFrom_3 : decode cX12_leastFrom 3 = .ok (.istore_n 3, 1) := by decide +kernel
theorem dX12_leastFrom_4 : decode cX12_leastFrom 4 = .ok (.iconst 0, 1) := by decide +kernel
theorem dX12_leastFrom_5 : decode cX12_leastFrom 5 = .ok (.istore 4, 2) := by decide +kernel
theorem dX12_leastFrom_7 : decode cX12_leastFrom 7 = .ok (.iload 4, 2) := by decide +kernel
theorem dX12_leastFrom_9 : decode cX12_leastFrom 9 = .ok (.aload_n 0, 1) := by decide +kernel
theorem dX12_leastFrom_10 : decode cX12_leastFrom 10 = .ok (.getfield 7, 3) := by decide +kernel
theorem dX12_leastFrom_13 : decode cX12_leastFrom 13 = .ok (.iconst 0, 1) := by decide +kernel
theorem dX12_leastFrom_14 : decode cX12_leastFrom 14 = .ok (.iaload, 1) := by decide +kernel
theorem dX12_leastFrom_15 : decode cX12_leastFrom 15 = .ok (.if_icmp .ge 58, 3) := by decide +kernel
theorem dX12_leastFrom_18 : decode cX12_leastFrom 18 = .ok (.iload 4, 2) := by decide +kernel
theorem dX12_leastFrom_20 : decode cX12_leastFrom 20 = .ok (.iload_n 1, 1) := by decide +kernel
theorem dX12_leastFrom_21 : decode cX12_leastFrom 21 = .ok (.if_icmp .eq 19, 3) := by decide +kernel
theorem dX12_leastFrom_24 : decode cX12_leastFrom 24 = .ok (.aload_n 0, 1) := by decide +kernel
theorem dX12_leastFrom_25 : decode cX12_leastFrom 25 = .ok (.iload_n 1, 1) := by decide +kernel
theorem dX12_leastFrom_26 : decode cX12_leastFrom 26 = .ok (.iload 4, 2) := by decide +kernel
theorem dX12_leastFrom_28 : decode cX12_leastFrom 28 = .ok (.invokevirtual 315, 3) := by decide +kernel
theorem dX12_leastFrom_31 : decode cX12_leastFrom 31 = .ok (.ldc_w 314, 3) := by decide +kernel
theorem dX12_leastFrom_34 : decode cX12_leastFrom 34 = .ok (.if_icmp .lt 6, 3) := by decide +kernel
theorem dX12_leastFrom_37 : decode cX12_leastFrom 37 = .ok (.goto 30, 3) := by decide +kernel
theorem dX12_leastFrom_40 : decode cX12_leastFrom 40 = .ok (.aload_n 0, 1) := by decide +kernel
theorem dX12_leastFrom_41 : decode cX12_leastFrom 41 = .ok (.iload 4, 2) := by decide +kernel
theorem dX12_leastFrom_43 : decode cX12_leastFrom 43 = .ok (.iload_n 2, 1) := by decide +kernel
theorem dX12_leastFrom_44 : decode cX12_leastFrom 44 = .ok (.invokevirtual 450, 3) := by decide +kernel
theorem dX12_leastFrom_47 : decode cX12_leastFrom 47 = .ok (.istore 5, 2) := by decide +kernel
theorem dX12_leastFrom_49 : decode cX12_leastFrom 49 = .ok (.iload 5, 2) := by decide +kernel
theorem dX12_leastFrom_51 : decode cX12_leastFrom 51 = .ok (.iload_n 3, 1) := by decide +kernel
theorem dX12_leastFrom_52 : decode cX12_leastFrom 52 = .ok (.if_icmp .lt 6, 3) := by decide +kernel
theorem dX12_leastFrom_55 : decode cX12_leastFrom 55 = .ok (.goto 12, 3) := by decide +kernel
theorem dX12_leastFrom_58 : decode cX12_leastFrom 58 = .ok (.iload 5, 2) := by decide +kernel
theorem dX12_leastFrom_60 : decode cX12_leastFrom 60 = .ok (.istore_n 3, 1) := by decide +kernel
theorem dX12_leastFrom_61 : decode cX12_leastFrom 61 = .ok (.aload_n 0, 1) := by decide +kernel
theorem dX12_leastFrom_62 : decode cX12_leastFrom 62 = .ok (.iload 4, 2) := by decide +kernel
theorem dX12_leastFrom_64 : decode cX12_leastFrom 64 = .ok (.putfield 453, 3) := by decide +kernel
theorem dX12_leastFrom_67 : decode cX12_leastFrom 67 = .ok (.iinc 4 1, 3) := by decide +kernel
theorem dX12_leastFrom_70 : decode cX12_leastFrom 70 = .ok (.goto (-63), 3) := by decide +kernel
theorem dX12_leastFrom_73 : decode cX12_leastFrom 73 = .ok (.iload_n 3, 1) := by decide +kernel
theorem dX12_leastFrom_74 : decode cX12_leastFrom 74 = .ok (.ireturn, 1) := by decide +kernel
theorem dX12_playing_0 : decode cX12_playing 0 = .ok (.iconst 0, 1) := by decide +kernel
theorem dX12_playing_1 : decode cX12_playing 1 = .ok (.istore_n 3, 1) := by decide +kernel
theorem dX12_playing_2 : decode cX12_playing 2 = .ok (.iload_n 3, 1) := by decide +kernel
theorem dX12_playing_3 : decode cX12_playing 3 = .ok (.sipush 2048, 3) := by decide +kernel
theorem dX12_playing_6 : decode cX12_playing 6 = .ok (.if_icmp .ge 16, 3) := by decide +kernel
theorem dX12_playing_9 : decode cX12_playing 9 = .ok (.aload_n 0, 1) := by decide +kernel
theorem dX12_playing_10 : decode cX12_playing 10 = .ok (.getfield 60, 3) := by decide +kernel
theorem dX12_playing_13 : decode cX12_playing 13 = .ok (.iload_n 3, 1) := by decide +kernel
theorem dX12_playing_14 : decode cX12_playing 14 = .ok (.iconst 0, 1) := by decide +kernel
theorem dX12_playing_15 : decode cX12_playing 15 = .ok (.iastore, 1) := by decide +kernel
theorem dX12_playing_16 : decode cX12_playing 16 = .ok (.iinc 3 1, 3) := by decide +kernel
theorem dX12_playing_19 : decode cX12_playing 19 = .ok (.goto (-17), 3) := by decide +kernel
theorem dX12_playing_22 : decode cX12_playing 22 = .ok (.iconst 1, 1) := by decide +kernel
theorem dX12_playing_23 : decode cX12_playing 23 = .ok (.istore_n 3, 1) := by decide +kernel
theorem dX12_playing_24 : decode cX12_playing 24 = .ok (.iload_n 3, 1) := by decide +kernel
theorem dX12_playing_25 : decode cX12_playing 25 = .ok (.iload_n 2, 1) := by decide +kernel
theorem dX12_playing_26 : decode cX12_playing 26 = .ok (.if_icmp .ge 104, 3) := by decide +kernel
theorem dX12_playing_29 : decode cX12_playing 29 = .ok (.iconst 0, 1) := by decide +kernel
theorem dX12_playing_30 : decode cX12_playing 30 = .ok (.istore 4, 2) := by decide +kernel
theorem dX12_playing_32 : decode cX12_playing 32 = .ok (.iload 4, 2) := by decide +kernel
theorem dX12_playing_34 : decode cX12_playing 34 = .ok (.aload_n 0, 1) := by decide +kernel
theorem dX12_playing_35 : decode cX12_playing 35 = .ok (.getfield 7, 3) := by decide +kernel
theorem dX12_playing_38 : decode cX12_playing 38 = .ok (.iconst 0, 1) := by decide +kernel
theorem dX12_playing_39 : decode cX12_playing 39 = .ok (.iaload, 1) := by decide +kernel
theorem dX12_playing_40 : decode cX12_playing 40 = .ok (.if_icmp .ge 53, 3) := by decide +kernel
theorem dX12_playing_43 : decode cX12_playing 43 = .ok (.iconst 0, 1) := by decide +kernel
theorem dX12_playing_44 : decode cX12_playing 44 = .ok (.istore 5, 2) := by decide +kernel
theorem dX12_playing_46 : decode cX12_playing 46 = .ok (.iload 5, 2) := by decide +kernel
theorem dX12_playing_48 : decode cX12_playing 48 = .ok (.iconst 1, 1) := by decide +kernel
theorem dX12_playing_49 : decode cX12_playing 49 = .ok (.aload_n 0, 1) := by decide +kernel
theorem dX12_playing_50 : decode cX12_playing 50 = .ok (.getfield 7, 3) := by decide +kernel
theorem dX12_playing_53 : decode cX12_playing 53 = .ok (.iconst 3, 1) := by decide +kernel
theorem dX12_playing_54 : decode cX12_playing 54 = .ok (.iaload, 1) := by decide +kernel
theorem dX12_playing_55 : decode cX12_playing 55 = .ok (.ishl, 1) := by decide +kernel
theorem dX12_playing_56 : decode cX12_playing 56 = .ok (.if_icmp .ge 31, 3) := by decide +kernel
theorem dX12_playing_59 : decode cX12_playing 59 = .ok (.aload_n 0, 1) := by decide +kernel
theorem dX12_playing_60 : decode cX12_playing 60 = .ok (.getfield 57, 3) := by decide +kernel
theorem dX12_playing_63 : decode cX12_playing 63 = .ok (.sipush 256, 3) := by decide +kernel
theorem dX12_playing_66 : decode cX12_playing 66 = .ok (.iload 4, 2) := by decide +kernel
