theorem dX12_wayTo_58 : decode cX12_wayTo 58 = .ok (.bipush 8, 2) := by decide +kernel
theorem dX12_wayTo_60 : decode cX12_wayTo 60 = .ok (.iload_n 3, 1) := by decide +kernel
theorem dX12_wayTo_61 : decode cX12_wayTo 61 = .ok (.imul, 1) := by decide +kernel
theorem dX12_wayTo_62 : decode cX12_wayTo 62 = .ok (.iload_n 2, 1) := by decide +kernel
theorem dX12_wayTo_63 : decode cX12_wayTo 63 = .ok (.iadd, 1) := by decide +kernel
theorem dX12_wayTo_64 : decode cX12_wayTo 64 = .ok (.iaload, 1) := by decide +kernel
theorem dX12_wayTo_65 : decode cX12_wayTo 65 = .ok (.iadd, 1) := by decide +kernel
theorem dX12_wayTo_66 : decode cX12_wayTo 66 = .ok (.aload_n 0, 1) := by decide +kernel
theorem dX12_wayTo_67 : decode cX12_wayTo 67 = .ok (.getfield 47, 3) := by decide +kernel
theorem dX12_wayTo_70 : decode cX12_wayTo 70 = .ok (.bipush 8, 2) := by decide +kernel
theorem dX12_wayTo_72 : decode cX12_wayTo 72 = .ok (.iload_n 1, 1) := by decide +kernel
theorem dX12_wayTo_73 : decode cX12_wayTo 73 = .ok (.imul, 1) := by decide +kernel
theorem dX12_wayTo_74 : decode cX12_wayTo 74 = .ok (.iload_n 2, 1) := by decide +kernel
theorem dX12_wayTo_75 : decode cX12_wayTo 75 = .ok (.iadd, 1) := by decide +kernel
theorem dX12_wayTo_76 : decode cX12_wayTo 76 = .ok (.iaload, 1) := by decide +kernel
theorem dX12_wayTo_77 : decode cX12_wayTo 77 = .ok (.if_icmp .ne 5, 3) := by decide +kernel
theorem dX12_wayTo_80 : decode cX12_wayTo 80 = .ok (.iload_n 3, 1) := by decide +kernel
theorem dX12_wayTo_81 : decode cX12_wayTo 81 = .ok (.ireturn, 1) := by decide +kernel
theorem dX12_wayTo_82 : decode cX12_wayTo 82 = .ok (.iinc 3 1, 3) := by decide +kernel
theorem dX12_wayTo_85 : decode cX12_wayTo 85 = .ok (.goto (-64), 3) := by decide +kernel
theorem dX12_wayTo_88 : decode cX12_wayTo 88 = .ok (.iconst (-1), 1) := by decide +kernel
theorem dX12_wayTo_89 : decode cX12_wayTo 89 = .ok (.ireturn, 1) := by decide +kernel
theorem dX12_road_0 : decode cX12_road 0 = .ok (.aload_n 0, 1) := by decide +kernel
theorem dX12_road_1 : decode cX12_road 1 = .ok (.iload_n 1, 1) := by decide +kernel
theorem dX12_road_2 : decode cX12_road 2 = .ok (.invokevirtual 311, 3) := by decide +kernel
theorem dX12_road_5 : decode cX12_road 5 = .ok (.ifCond .eq 16, 3) := by decide +kernel
theorem dX12_road_8 : decode cX12_road 8 = .ok (.aload_n 0, 1) := by decide +kernel
theorem dX12_road_9 : decode cX12_road 9 = .ok (.iload_n 2, 1) := by decide +kernel
theorem dX12_road_10 : decode cX12_road 10 = .ok (.invokevirtual 311, 3) := by decide +kernel
theorem dX12_road_13 : decode cX12_road 13 = .ok (.ifCond .eq 8, 3) := by decide +kernel
theorem dX12_road_16 : decode cX12_road 16 = .ok (.iload_n 1, 1) := by decide +kernel
theorem dX12_road_17 : decode cX12_road 17 = .ok (.iload_n 2, 1) := by decide +kernel
theorem dX12_road_18 : decode cX12_road 18 = .ok (.if_icmp .ne 9, 3) := by decide +kernel
theorem dX12_road_21 : decode cX12_road 21 = .ok (.aload_n 0, 1) := by decide +kernel
theorem dX12_road_22 : decode cX12_road 22 = .ok (.iconst 1, 1) := by decide +kernel
theorem dX12_road_23 : decode cX12_road 23 = .ok (.invokevirtual 85, 3) := by decide +kernel
theorem dX12_road_26 : decode cX12_road 26 = .ok (.ireturn, 1) := by decide +kernel
theorem dX12_road_27 : decode cX12_road 27 = .ok (.aload_n 0, 1) := by decide +kernel
theorem dX12_road_28 : decode cX12_road 28 = .ok (.iload_n 1, 1) := by decide +kernel
theorem dX12_road_29 : decode cX12_road 29 = .ok (.iload_n 2, 1) := by decide +kernel
theorem dX12_road_30 : decode cX12_road 30 = .ok (.invokevirtual 315, 3) := by decide +kernel
theorem dX12_road_33 : decode cX12_road 33 = .ok (.istore_n 3, 1) := by decide +kernel
theorem dX12_road_34 : decode cX12_road 34 = .ok (.iload_n 3, 1) := by decide +kernel
theorem dX12_road_35 : decode cX12_road 35 = .ok (.ldc_w 314, 3) := by decide +kernel
theorem dX12_road_38 : decode cX12_road 38 = .ok (.if_icmp .lt 12, 3) := by decide +kernel
theorem dX12_road_41 : decode cX12_road 41 = .ok (.aload_n 0, 1) := by decide +kernel
theorem dX12_road_42 : decode cX12_road 42 = .ok (.bipush 6, 2) := by decide +kernel
theorem dX12_road_44 : decode cX12_road 44 = .ok (.invokevirtual 85, 3) := by decide +kernel
theorem dX12_road_47 : decode cX12_road 47 = .ok (.goto 8, 3) := by decide +kernel
theorem dX12_road_50 : decode cX12_road 50 = .ok (.aload_n 0, 1) := by decide +kernel
theorem dX12_road_51 : decode cX12_road 51 = .ok (.iload_n 3, 1) := by decide +kernel
theorem dX12_road_52 : decode cX12_road 52 = .ok (.invokevirtual 89, 3) := by decide +kernel
theorem dX12_road_55 : decode cX12_road 55 = .ok (.ireturn, 1) := by decide +kernel
theorem dX12_far_0 : decode cX12_far 0 = .ok (.aload_n 0, 1) := by decide +kernel
theorem dX12_far_1 : decode cX12_far 1 = .ok (.iload_n 1, 1) := by decide +kernel
theorem dX12_far_2 : decode cX12_far 2 = .ok (.invokevirtual 311, 3) := by decide +kernel
theorem dX12_far_5 : decode cX12_far 5 = .ok (.ifCond .eq 11, 3) := by decide +kernel
theorem dX12_far_8 : decode cX12_far 8 = .ok (.aload_n 0, 1) := by decide +kernel
theorem dX12_far_9 : decode cX12_far 9 = .ok (.iload_n 2, 1) := by decide +kernel
theorem dX12_far_10 : decode cX12_far 10 = .ok (.invokevirtual 311, 3) := by decide +kernel
theorem dX12_far_13 : decode cX12_far 13 = .ok (.ifCond .ne 9, 3) := by decide +kernel
theorem dX12_far_16 : decode cX12_far 16 = .ok (.aload_n 0, 1) := by decide +kernel
theorem dX12_far_17 : decode cX12_far 17 = .ok (.iconst 1, 1) := by decide +kernel
theorem dX12_far_18 : decode cX12_far 18 = .ok (.invokevirtual 85, 3) := by decide +kernel
theorem dX12_far_21 : decode cX12_far 21 = .ok (.ireturn, 1) := by decide +kernel
theorem dX12_far_22 : decode cX12_far 22 = .ok (.aload_n 0, 1) := by decide +kernel
theorem dX12_far_23 : decode cX12_far 23 = .ok (.invokevirtual 318, 3) := by decide +kernel
theorem dX12_far_26 : decode cX12_far 26 = .ok (.aload_n 0, 1) := by decide +kernel
theorem dX12_far_27 : decode cX12_far 27 = .ok (.getfield 47, 3) := by decide +kernel
theorem dX12_far_30 : decode cX12_far 30 = .ok (.bipush 8, 2) := by decide +kernel
theorem dX12_far_32 : decode cX12_far 32 = .ok (.iload_n 1, 1) := by decide +kernel
theorem dX12_far_33 : decode cX12_far 33 = .ok (.imul, 1) := by decide +kernel
theorem dX12_far_34 : decode cX12_far 34 = .ok (.iload_n 2, 1) := by decide +kernel
theorem dX12_far_35 : decode cX12_far 35 = .ok (.iadd, 1) := by decide +kernel
theorem dX12_far_36 : decode cX12_far 36 = .ok (.iaload, 1) := by decide +kernel
theorem dX12_far_37 : decode cX12_far 37 = .ok (.istore_n 3, 1) := by decide +kernel
theorem dX12_far_38 : decode cX12_far 38 = .ok (.iload_n 3, 1) := by decide +kernel
theorem dX12_far_39 : decode cX12_far 39 = .ok (.ldc_w 314, 3) := by decide +kernel
theorem dX12_far_42 : decode cX12_far 42 = .ok (.if_icmp .lt 12, 3) := by decide +kernel
theorem dX12_far_45 : decode cX12_far 45 = .ok (.aload_n 0, 1) := by decide +kernel
theorem dX12_far_46 : decode cX12_far 46 = .ok (.bipush 6, 2) := by decide +kernel
theorem dX12_far_48 : decode cX12_far 48 = .ok (.invokevirtual 85, 3) := by decide +kernel
theorem dX12_far_51 : decode cX12_far 51 = .ok (.goto 8, 3) := by decide +kernel
theorem dX12_far_54 : decode cX12_far 54 = .ok (.aload_n 0, 1) := by decide +kernel
theorem dX12_far_55 : decode cX12_far 55 = .ok (.iload_n 3, 1) := by decide +kernel
theorem dX12_far_56 : decode cX12_far 56 = .ok (.invokevirtual 89, 3) := by decide +kernel
theorem dX12_far_59 : decode cX12_far 59 = .ok (.ireturn, 1) := by decide +kernel
theorem dX12_way_0 : decode cX12_way 0 = .ok (.aload_n 0, 1) := by decide +kernel
theorem dX12_way_1 : decode cX12_way 1 = .ok (.iload_n 1, 1) := by decide +kernel
theorem dX12_way_2 : decode cX12_way 2 = .ok (.invokevirtual 311, 3) := by decide +kernel
theorem dX12_way_5 : decode cX12_way 5 = .ok (.ifCond .eq 11, 3) := by decide +kernel
theorem dX12_way_8 : decode cX12_way 8 = .ok (.aload_n 0, 1) := by decide +kernel
theorem dX12_way_9 : decode cX12_way 9 = .ok (.iload_n 2, 1) := by decide +kernel
theorem dX12_way_10 : decode cX12_way 10 = .ok (.invokevirtual 311, 3) := by decide +kernel
theorem dX12_way_13 : decode cX12_way 13 = .ok (.ifCond .ne 9, 3) := by decide +kernel
theorem dX12_way_16 : decode cX12_way 16 = .ok (.aload_n 0, 1) := by decide +kernel
theorem dX12_way_17 : decode cX12_way 17 = .ok (.iconst 1, 1) := by decide +kernel
theorem dX12_way_18 : decode cX12_way 18 = .ok (.invokevirtual 85, 3) := by decide +kernel
theorem dX12_way_21 : decode cX12_way 21 = .ok (.ireturn, 1) := by decide +kernel
theorem dX12_way_22 : decode cX12_way 22 = .ok (.iload_n 1, 1) := by decide +kernel
theorem dX12_way_23 : decode cX12_way 23 = .ok (.iload_n 2, 1) := by decide +kernel
theorem dX12_way_24 : decode cX12_way 24 = .ok (.if_icmp .ne 10, 3) := by decide +kernel
theorem dX12_way_27 : decode cX12_way 27 = .ok (.aload_n 0, 1) := by decide +kernel
theorem dX12_way_28 : decode cX12_way 28 = .ok (.bipush 7, 2) := by decide +kernel
theorem dX12_way_30 : decode cX12_way 30 = .ok (.invokevirtual 85, 3) := by decide +kernel
theorem dX12_way_33 : decode cX12_way 33 = .ok (.ireturn, 1) := by decide +kernel
theorem dX12_way_34 : decode cX12_way 34 = .ok (.aload_n 0, 1) := by decide +kernel
theorem dX12_way_35 : decode cX12_way 35 = .ok (.invokevirtual 318, 3) := by decide +kernel
theorem dX12_way_38 : decode cX12_way 38 = .ok (.aload_n 0, 1) := by decide +kernel
theorem dX12_way_39 : decode cX12_way 39 = .ok (.aload_n 0, 1) := by decide +kernel
theorem dX12_way_40 : decode cX12_way 40 = .ok (.iload_n 1, 1) := by decide +kernel
theorem dX12_way_41 : decode cX12_way 41 = .ok (.iload_n 2, 1) := by decide +kernel
theorem dX12_way_42 : decode cX12_way 42 = .ok (.invokevirtual 321, 3) := by decide +kernel
theorem dX12_way_45 : decode cX12_way 45 = .ok (.invokevirtual 324, 3) := by decide +kernel
theorem dX12_way_48 : decode cX12_way 48 = .ok (.ireturn, 1) := by decide +kernel
theorem dX12_centre_0 : decode cX12_centre 0 = .ok (.aload_n 0, 1) := by decide +kernel
theorem dX12_centre_1 : decode cX12_centre 1 = .ok (.invokevirtual 318, 3) := by decide +kernel
theorem dX12_centre_4 : decode cX12_centre 4 = .ok (.iconst (-1), 1) := by decide +kernel
theorem dX12_centre_5 : decode cX12_centre 5 = .ok (.istore_n 1, 1) := by decide +kernel
theorem dX12_centre_6 : decode cX12_centre 6 = .ok (.ldc_w 314, 3) := by decide +kernel
theorem dX12_centre_9 : decode cX12_centre 9 = .ok (.istore_n 2, 1) := by decide +kernel
theorem dX12_centre_10 : decode cX12_centre 10 = .ok (.iconst 0, 1) := by decide +kernel
theorem dX12_centre_11 : decode cX12_centre 11 = .ok (.istore_n 3, 1) := by decide +kernel
theorem dX12_centre_12 : decode cX12_centre 12 = .ok (.iload_n 3, 1) := by decide +kernel
theorem dX12_centre_13 : decode cX12_centre 13 = .ok (.aload_n 0, 1) := by decide +kernel
theorem dX12_centre_14 : decode cX12_centre 14 = .ok (.getfield 7, 3) := by decide +kernel
theorem dX12_centre_17 : decode cX12_centre 17 = .ok (.iconst 0, 1) := by decide +kernel
theorem dX12_centre_18 : decode cX12_centre 18 = .ok (.iaload, 1) := by decide +kernel
theorem dX12_centre_19 : decode cX12_centre 19 = .ok (.if_icmp .ge 69, 3) := by decide +kernel
theorem dX12_centre_22 : decode cX12_centre 22 = .ok (.iconst 0, 1) := by decide +kernel
theorem dX12_centre_23 : decode cX12_centre 23 = .ok (.istore 4, 2) := by decide +kernel
theorem dX12_centre_25 : decode cX12_centre 25 = .ok (.iconst 0, 1) := by decide +kernel
theorem dX12_centre_26 : decode cX12_centre 26 = .ok (.istore 5, 2) := by decide +kernel
theorem dX12_centre_28 : decode cX12_centre 28 = .ok (.iload 5, 2) := by decide +kernel
theorem dX12_centre_30 : decode cX12_centre 30 = .ok (.aload_n 0, 1) := by decide +kernel
theorem dX12_centre_31 : decode cX12_centre 31 = .ok (.getfield 7, 3) := by decide +kernel
theorem dX12_centre_34 : decode cX12_centre 34 = .ok (.iconst 0, 1) := by decide +kernel
theorem dX12_centre_35 : decode cX12_centre 35 = .ok (.iaload, 1) := by decide +kernel
theorem dX12_centre_36 : decode cX12_centre 36 = .ok (.if_icmp .ge 32, 3) := by decide +kernel
theorem dX12_centre_39 : decode cX12_centre 39 = .ok (.ldc_w 314, 3) := by decide +kernel
theorem dX12_centre_42 : decode cX12_centre 42 = .ok (.iload 4, 2) := by decide +kernel
theorem dX12_centre_44 : decode cX12_centre 44 = .ok (.aload_n 0, 1) := by decide +kernel
theorem dX12_centre_45 : decode cX12_centre 45 = .ok (.getfield 47, 3) := by decide +kernel
theorem dX12_centre_48 : decode cX12_centre 48 = .ok (.bipush 8, 2) := by decide +kernel
theorem dX12_centre_50 : decode cX12_centre 50 = .ok (.iload_n 3, 1) := by decide +kernel
theorem dX12_centre_51 : decode cX12_centre 51 = .ok (.imul, 1) := by decide +kernel
theorem dX12_centre_52 : decode cX12_centre 52 = .ok (.iload 5, 2) := by decide +kernel
theorem dX12_centre_54 : decode cX12_centre 54 = .ok (.iadd, 1) := by decide +kernel
theorem dX12_centre_55 : decode cX12_centre 55 = .ok (.iaload, 1) := by decide +kernel
theorem dX12_centre_56 : decode cX12_centre 56 = .ok (.iadd, 1) := by decide +kernel
theorem dX12_centre_57 : decode cX12_centre 57 = .ok (.invokestatic 140, 3) := by decide +kernel
theorem dX12_centre_60 : decode cX12_centre 60 = .ok (.istore 4, 2) := by decide +kernel
theorem dX12_centre_62 : decode cX12_centre 62 = .ok (.iinc 5 1, 3) := by decide +kernel
theorem dX12_centre_65 : decode cX12_centre 65 = .ok (.goto (-37), 3) := by decide +kernel
theorem dX12_centre_68 : decode cX12_centre 68 = .ok (.iload 4, 2) := by decide +kernel
theorem dX12_centre_70 : decode cX12_centre 70 = .ok (.iload_n 2, 1) := by decide +kernel
theorem dX12_centre_71 : decode cX12_centre 71 = .ok (.if_icmp .lt 6, 3) := by decide +kernel
theorem dX12_centre_74 : decode cX12_centre 74 = .ok (.goto 8, 3) := by decide +kernel
theorem dX12_centre_77 : decode cX12_centre 77 = .ok (.iload 4, 2) := by decide +kernel
theorem dX12_centre_79 : decode cX12_centre 79 = .ok (.istore_n 2, 1) := by decide +kernel
theorem dX12_centre_80 : decode cX12_centre 80 = .ok (.iload_n 3, 1) := by decide +kernel
theorem dX12_centre_81 : decode cX12_centre 81 = .ok (.istore_n 1, 1) := by decide +kernel
theorem dX12_centre_82 : decode cX12_centre 82 = .ok (.iinc 3 1, 3) := by decide +kernel
theorem dX12_centre_85 : decode cX12_centre 85 = .ok (.goto (-73), 3) := by decide +kernel
theorem dX12_centre_88 : decode cX12_centre 88 = .ok (.aload_n 0, 1) := by decide +kernel
theorem dX12_centre_89 : decode cX12_centre 89 = .ok (.iload_n 1, 1) := by decide +kernel
theorem dX12_centre_90 : decode cX12_centre 90 = .ok (.invokevirtual 324, 3) := by decide +kernel
theorem dX12_centre_93 : decode cX12_centre 93 = .ok (.ireturn, 1) := by decide +kernel
theorem dX12_isOpen_0 : decode cX12_isOpen 0 = .ok (.iconst 1, 1) := by decide +kernel
theorem dX12_isOpen_1 : decode cX12_isOpen 1 = .ok (.iload_n 1, 1) := by decide +kernel
theorem dX12_isOpen_2 : decode cX12_isOpen 2 = .ok (.ishl, 1) := by decide +kernel
theorem dX12_isOpen_3 : decode cX12_isOpen 3 = .ok (.istore 4, 2) := by decide +kernel
theorem dX12_isOpen_5 : decode cX12_isOpen 5 = .ok (.iconst 0, 1) := by decide +kernel
theorem dX12_isOpen_6 : decode cX12_isOpen 6 = .ok (.istore 5, 2) := by decide +kernel
theorem dX12_isOpen_8 : decode cX12_isOpen 8 = .ok (.iload 5, 2) := by decide +kernel
theorem dX12_isOpen_10 : decode cX12_isOpen 10 = .ok (.bipush 8, 2) := by decide +kernel
theorem dX12_isOpen_12 : decode cX12_isOpen 12 = .ok (.if_icmp .ge 83, 3) := by decide +kernel
theorem dX12_isOpen_15 : decode cX12_isOpen 15 = .ok (.iconst 0, 1) := by decide +kernel
theorem dX12_isOpen_16 : decode cX12_isOpen 16 = .ok (.istore 6, 2) := by decide +kernel
theorem dX12_isOpen_18 : decode cX12_isOpen 18 = .ok (.iload 6, 2) := by decide +kernel
theorem dX12_isOpen_20 : decode cX12_isOpen 20 = .ok (.aload_n 0, 1) := by decide +kernel
theorem dX12_isOpen_21 : decode cX12_isOpen 21 = .ok (.getfield 7, 3) := by decide +kernel
theorem dX12_isOpen_24 : decode cX12_isOpen 24 = .ok (.iconst 1, 1) := by decide +kernel
theorem dX12_isOpen_25 : decode cX12_isOpen 25 = .ok (.iaload, 1) := by decide +kernel
theorem dX12_isOpen_26 : decode cX12_isOpen 26 = .ok (.if_icmp .ge 63, 3) := by decide +kernel
theorem dX12_isOpen_29 : decode cX12_isOpen 29 = .ok (.iconst 1, 1) := by decide +kernel
theorem dX12_isOpen_30 : decode cX12_isOpen 30 = .ok (.aload_n 0, 1) := by decide +kernel
theorem dX12_isOpen_31 : decode cX12_isOpen 31 = .ok (.getfield 7, 3) := by decide +kernel
theorem dX12_isOpen_34 : decode cX12_isOpen 34 = .ok (.iload 6, 2) := by decide +kernel
theorem dX12_isOpen_36 : decode cX12_isOpen 36 = .ok (.invokestatic 198, 3) := by decide +kernel
theorem dX12_isOpen_39 : decode cX12_isOpen 39 = .ok (.iaload, 1) := by decide +kernel
theorem dX12_isOpen_40 : decode cX12_isOpen 40 = .ok (.ishl, 1) := by decide +kernel
theorem dX12_isOpen_41 : decode cX12_isOpen 41 = .ok (.iconst 1, 1) := by decide +kernel
theorem dX12_isOpen_42 : decode cX12_isOpen 42 = .ok (.aload_n 0, 1) := by decide +kernel
theorem dX12_isOpen_43 : decode cX12_isOpen 43 = .ok (.getfield 7, 3) := by decide +kernel
theorem dX12_isOpen_46 : decode cX12_isOpen 46 = .ok (.iload 6, 2) := by decide +kernel
theorem dX12_isOpen_48 : decode cX12_isOpen 48 = .ok (.invokestatic 198, 3) := by decide +kernel
theorem dX12_isOpen_51 : decode cX12_isOpen 51 = .ok (.iconst 1, 1) := by decide +kernel
theorem dX12_isOpen_52 : decode cX12_isOpen 52 = .ok (.iadd, 1) := by decide +kernel
theorem dX12_isOpen_53 : decode cX12_isOpen 53 = .ok (.iaload, 1) := by decide +kernel
theorem dX12_isOpen_54 : decode cX12_isOpen 54 = .ok (.ishl, 1) := by decide +kernel
theorem dX12_isOpen_55 : decode cX12_isOpen 55 = .ok (.ior, 1) := by decide +kernel
theorem dX12_isOpen_56 : decode cX12_isOpen 56 = .ok (.istore 7, 2) := by decide +kernel
theorem dX12_isOpen_58 : decode cX12_isOpen 58 = .ok (.aload_n 0, 1) := by decide +kernel
theorem dX12_isOpen_59 : decode cX12_isOpen 59 = .ok (.iload_n 3, 1) := by decide +kernel
theorem dX12_isOpen_60 : decode cX12_isOpen 60 = .ok (.iload 6, 2) := by decide +kernel
theorem dX12_isOpen_62 : decode cX12_isOpen 62 = .ok (.invokevirtual 327, 3) := by decide +kernel
theorem dX12_isOpen_65 : decode cX12_isOpen 65 = .ok (.ifCond .ne 18, 3) := by decide +kernel
theorem dX12_isOpen_68 : decode cX12_isOpen 68 = .ok (.iload 4, 2) := by decide +kernel
theorem dX12_isOpen_70 : decode cX12_isOpen 70 = .ok (.iload 7, 2) := by decide +kernel
theorem dX12_isOpen_72 : decode cX12_isOpen 72 = .ok (.iand, 1) := by decide +kernel
theorem dX12_isOpen_73 : decode cX12_isOpen 73 = .ok (.ifCond .eq 10, 3) := by decide +kernel
theorem dX12_isOpen_76 : decode cX12_isOpen 76 = .ok (.iload 4, 2) := by decide +kernel
theorem dX12_isOpen_78 : decode cX12_isOpen 78 = .ok (.iload 7, 2) := by decide +kernel
theorem dX12_isOpen_80 : decode cX12_isOpen 80 = .ok (.ior, 1) := by decide +kernel
theorem dX12_isOpen_81 : decode cX12_isOpen 81 = .ok (.istore 4, 2) := by decide +kernel
theorem dX12_isOpen_83 : decode cX12_isOpen 83 = .ok (.iinc 6 1, 3) := by decide +kernel
theorem dX12_isOpen_86 : decode cX12_isOpen 86 = .ok (.goto (-68), 3) := by decide +kernel
theorem dX12_isOpen_89 : decode cX12_isOpen 89 = .ok (.iinc 5 1, 3) := by decide +kernel
theorem dX12_isOpen_92 : decode cX12_isOpen 92 = .ok (.goto (-84), 3) := by decide +kernel
theorem dX12_isOpen_95 : decode cX12_isOpen 95 = .ok (.aload_n 0, 1) := by decide +kernel
theorem dX12_isOpen_96 : decode cX12_isOpen 96 = .ok (.iload 4, 2) := by decide +kernel
theorem dX12_isOpen_98 : decode cX12_isOpen 98 = .ok (.iload_n 2, 1) := by decide +kernel
theorem dX12_isOpen_99 : decode cX12_isOpen 99 = .ok (.invokevirtual 327, 3) := by decide +kernel
theorem dX12_isOpen_102 : decode cX12_isOpen 102 = .ok (.ireturn, 1) := by decide +kernel
theorem dX12_cut_0 : decode cX12_cut 0 = .ok (.aload_n 0, 1) := by decide +kernel
theorem dX12_cut_1 : decode cX12_cut 1 = .ok (.iload_n 1, 1) := by decide +kernel
theorem dX12_cut_2 : decode cX12_cut 2 = .ok (.invokevirtual 311, 3) := by decide +kernel
theorem dX12_cut_5 : decode cX12_cut 5 = .ok (.ifCond .eq 11, 3) := by decide +kernel
theorem dX12_cut_8 : decode cX12_cut 8 = .ok (.aload_n 0, 1) := by decide +kernel
theorem dX12_cut_9 : decode cX12_cut 9 = .ok (.iload_n 2, 1) := by decide +kernel
theorem dX12_cut_10 : decode cX12_cut 10 = .ok (.invokevirtual 311, 3) := by decide +kernel
theorem dX12_cut_13 : decode cX12_cut 13 = .ok (.ifCond .ne 9, 3) := by decide +kernel
theorem dX12_cut_16 : decode cX12_cut 16 = .ok (.aload_n 0, 1) := by decide +kernel
theorem dX12_cut_17 : decode cX12_cut 17 = .ok (.iconst 1, 1) := by decide +kernel
theorem dX12_cut_18 : decode cX12_cut 18 = .ok (.invokevirtual 85, 3) := by decide +kernel
theorem dX12_cut_21 : decode cX12_cut 21 = .ok (.ireturn, 1) := by decide +kernel
theorem dX12_cut_22 : decode cX12_cut 22 = .ok (.iload_n 1, 1) := by decide +kernel
theorem dX12_cut_23 : decode cX12_cut 23 = .ok (.iload_n 2, 1) := by decide +kernel
theorem dX12_cut_24 : decode cX12_cut 24 = .ok (.if_icmp .ne 10, 3) := by decide +kernel
theorem dX12_cut_27 : decode cX12_cut 27 = .ok (.aload_n 0, 1) := by decide +kernel
theorem dX12_cut_28 : decode cX12_cut 28 = .ok (.bipush 7, 2) := by decide +kernel
theorem dX12_cut_30 : decode cX12_cut 30 = .ok (.invokevirtual 85, 3) := by decide +kernel
theorem dX12_cut_33 : decode cX12_cut 33 = .ok (.ireturn, 1) := by decide +kernel
theorem dX12_cut_34 : decode cX12_cut 34 = .ok (.ldc_w 314, 3) := by decide +kernel
theorem dX12_cut_37 : decode cX12_cut 37 = .ok (.istore_n 3, 1) := by decide +kernel
theorem dX12_cut_38 : decode cX12_cut 38 = .ok (.iconst 0, 1) := by decide +kernel
theorem dX12_cut_39 : decode cX12_cut 39 = .ok (.istore 4, 2) := by decide +kernel
theorem dX12_cut_41 : decode cX12_cut 41 = .ok (.iload 4, 2) := by decide +kernel
theorem dX12_cut_43 : decode cX12_cut 43 = .ok (.iconst 1, 1) := by decide +kernel
theorem dX12_cut_44 : decode cX12_cut 44 = .ok (.aload_n 0, 1) := by decide +kernel
theorem dX12_cut_45 : decode cX12_cut 45 = .ok (.getfield 7, 3) := by decide +kernel
theorem dX12_cut_48 : decode cX12_cut 48 = .ok (.iconst 1, 1) := by decide +kernel
theorem dX12_cut_49 : decode cX12_cut 49 = .ok (.iaload, 1) := by decide +kernel
theorem dX12_cut_50 : decode cX12_cut 50 = .ok (.ishl, 1) := by decide +kernel
theorem dX12_cut_51 : decode cX12_cut 51 = .ok (.if_icmp .ge 35, 3) := by decide +kernel
theorem dX12_cut_54 : decode cX12_cut 54 = .ok (.iload 4, 2) := by decide +kernel
theorem dX12_cut_56 : decode cX12_cut 56 = .ok (.invokestatic 302, 3) := by decide +kernel
theorem dX12_cut_59 : decode cX12_cut 59 = .ok (.iload_n 3, 1) := by decide +kernel
theorem dX12_cut_60 : decode cX12_cut 60 = .ok (.if_icmp .ge 20, 3) := by decide +kernel
theorem dX12_cut_63 : decode cX12_cut 63 = .ok (.aload_n 0, 1) := by decide +kernel
theorem dX12_cut_64 : decode cX12_cut 64 = .ok (.iload_n 1, 1) := by decide +kernel
theorem dX12_cut_65 : decode cX12_cut 65 = .ok (.iload_n 2, 1) := by decide +kernel
theorem dX12_cut_66 : decode cX12_cut 66 = .ok (.iload 4, 2) := by decide +kernel
theorem dX12_cut_68 : decode cX12_cut 68 = .ok (.invokevirtual 330, 3) := by decide +kernel
theorem dX12_cut_71 : decode cX12_cut 71 = .ok (.ifCond .ne 9, 3) := by decide +kernel
theorem dX12_cut_74 : decode cX12_cut 74 = .ok (.iload 4, 2) := by decide +kernel
theorem dX12_cut_76 : decode cX12_cut 76 = .ok (.invokestatic 302, 3) := by decide +kernel
theorem dX12_cut_79 : decode cX12_cut 79 = .ok (.istore_n 3, 1) := by decide +kernel
theorem dX12_cut_80 : decode cX12_cut 80 = .ok (.iinc 4 1, 3) := by decide +kernel
theorem dX12_cut_83 : decode cX12_cut 83 = .ok (.goto (-42), 3) := by decide +kernel
theorem dX12_cut_86 : decode cX12_cut 86 = .ok (.aload_n 0, 1) := by decide +kernel
theorem dX12_cut_87 : decode cX12_cut 87 = .ok (.iload_n 3, 1) := by decide +kernel
theorem dX12_cut_88 : decode cX12_cut 88 = .ok (.invokevirtual 89, 3) := by decide +kernel
theorem dX12_cut_91 : decode cX12_cut 91 = .ok (.ireturn, 1) := by decide +kernel
theorem dX12_isToCome_0 : decode cX12_isToCome 0 = .ok (.aload_n 0, 1) := by decide +kernel
theorem dX12_isToCome_1 : decode cX12_isToCome 1 = .ok (.iload_n 1, 1) := by decide +kernel
theorem dX12_isToCome_2 : decode cX12_isToCome 2 = .ok (.iconst 3, 1) := by decide +kernel
theorem dX12_isToCome_3 : decode cX12_isToCome 3 = .ok (.invokevirtual 278, 3) := by decide +kernel
theorem dX12_isToCome_6 : decode cX12_isToCome 6 = .ok (.ifCond .ne 7, 3) := by decide +kernel
theorem dX12_isToCome_9 : decode cX12_isToCome 9 = .ok (.iconst 1, 1) := by decide +kernel
theorem dX12_isToCome_10 : decode cX12_isToCome 10 = .ok (.goto 4, 3) := by decide +kernel
theorem dX12_isToCome_13 : decode cX12_isToCome 13 = .ok (.iconst 0, 1) := by decide +kernel
theorem dX12_isToCome_14 : decode cX12_isToCome 14 = .ok (.ireturn, 1) := by decide +kernel
theorem dX12_soonestOf_0 : decode cX12_soonestOf 0 = .ok (.iconst (-1), 1) := by decide +kernel
theorem dX12_soonestOf_1 : decode cX12_soonestOf 1 = .ok (.istore_n 2, 1) := by decide +kernel
theorem dX12_soonestOf_2 : decode cX12_soonestOf 2 = .ok (.iconst 0, 1) := by decide +kernel
theorem dX12_soonestOf_3 : decode cX12_soonestOf 3 = .ok (.istore_n 3, 1) := by decide +kernel
theorem dX12_soonestOf_4 : decode cX12_soonestOf 4 = .ok (.iload_n 3, 1) := by decide +kernel
theorem dX12_soonestOf_5 : decode cX12_soonestOf 5 = .ok (.aload_n 0, 1) := by decide +kernel
theorem dX12_soonestOf_6 : decode cX12_soonestOf 6 = .ok (.getfield 7, 3) := by decide +kernel
theorem dX12_soonestOf_9 : decode cX12_soonestOf 9 = .ok (.iconst 3, 1) := by decide +kernel
theorem dX12_soonestOf_10 : decode cX12_soonestOf 10 = .ok (.iaload, 1) := by decide +kernel
theorem dX12_soonestOf_11 : decode cX12_soonestOf 11 = .ok (.if_icmp .ge 48, 3) := by decide +kernel
theorem dX12_soonestOf_14 : decode cX12_soonestOf 14 = .ok (.aload_n 0, 1) := by decide +kernel
theorem dX12_soonestOf_15 : decode cX12_soonestOf 15 = .ok (.iload_n 1, 1) := by decide +kernel
theorem dX12_soonestOf_16 : decode cX12_soonestOf 16 = .ok (.iload_n 3, 1) := by decide +kernel
theorem dX12_soonestOf_17 : decode cX12_soonestOf 17 = .ok (.invokevirtual 327, 3) := by decide +kernel
theorem dX12_soonestOf_20 : decode cX12_soonestOf 20 = .ok (.ifCond .eq 33, 3) := by decide +kernel
theorem dX12_soonestOf_23 : decode cX12_soonestOf 23 = .ok (.aload_n 0, 1) := by decide +kernel
theorem dX12_soonestOf_24 : decode cX12_soonestOf 24 = .ok (.iload_n 3, 1) := by decide +kernel
theorem dX12_soonestOf_25 : decode cX12_soonestOf 25 = .ok (.invokevirtual 333, 3) := by decide +kernel
theorem dX12_soonestOf_28 : decode cX12_soonestOf 28 = .ok (.ifCond .eq 25, 3) := by decide +kernel
theorem dX12_soonestOf_31 : decode cX12_soonestOf 31 = .ok (.iload_n 2, 1) := by decide +kernel
theorem dX12_soonestOf_32 : decode cX12_soonestOf 32 = .ok (.iconst (-1), 1) := by decide +kernel
theorem dX12_soonestOf_33 : decode cX12_soonestOf 33 = .ok (.if_icmp .eq 18, 3) := by decide +kernel
theorem dX12_soonestOf_36 : decode cX12_soonestOf 36 = .ok (.aload_n 0, 1) := by decide +kernel
theorem dX12_soonestOf_37 : decode cX12_soonestOf 37 = .ok (.iload_n 3, 1) := by decide +kernel
theorem dX12_soonestOf_38 : decode cX12_soonestOf 38 = .ok (.iconst 1, 1) := by decide +kernel
theorem dX12_soonestOf_39 : decode cX12_soonestOf 39 = .ok (.invokevirtual 278, 3) := by decide +kernel
theorem dX12_soonestOf_42 : decode cX12_soonestOf 42 = .ok (.aload_n 0, 1) := by decide +kernel
theorem dX12_soonestOf_43 : decode cX12_soonestOf 43 = .ok (.iload_n 2, 1) := by decide +kernel
theorem dX12_soonestOf_44 : decode cX12_soonestOf 44 = .ok (.iconst 1, 1) := by decide +kernel
theorem dX12_soonestOf_45 : decode cX12_soonestOf 45 = .ok (.invokevirtual 278, 3) := by decide +kernel
theorem dX12_soonestOf_48 : decode cX12_soonestOf 48 = .ok (.if_icmp .ge 5, 3) := by decide +kernel
theorem dX12_soonestOf_51 : decode cX12_soonestOf 51 = .ok (.iload_n 3, 1) := by decide +kernel
theorem dX12_soonestOf_52 : decode cX12_soonestOf 52 = .ok (.istore_n 2, 1) := by decide +kernel
theorem dX12_soonestOf_53 : decode cX12_soonestOf 53 = .ok (.iinc 3 1, 3) := by decide +kernel
theorem dX12_soonestOf_56 : decode cX12_soonestOf 56 = .ok (.goto (-52), 3) := by decide +kernel
theorem dX12_soonestOf_59 : decode cX12_soonestOf 59 = .ok (.iload_n 2, 1) := by decide +kernel
theorem dX12_soonestOf_60 : decode cX12_soonestOf 60 = .ok (.ireturn, 1) := by decide +kernel
theorem dX12_goalOf_0 : decode cX12_goalOf 0 = .ok (.aload_n 0, 1) := by decide +kernel
theorem dX12_goalOf_1 : decode cX12_goalOf 1 = .ok (.aload_n 0, 1) := by decide +kernel
theorem dX12_goalOf_2 : decode cX12_goalOf 2 = .ok (.iload_n 1, 1) := by decide +kernel
theorem dX12_goalOf_3 : decode cX12_goalOf 3 = .ok (.iconst 2, 1) := by decide +kernel
theorem dX12_goalOf_4 : decode cX12_goalOf 4 = .ok (.invokevirtual 275, 3) := by decide +kernel
theorem dX12_goalOf_7 : decode cX12_goalOf 7 = .ok (.invokevirtual 336, 3) := by decide +kernel
theorem dX12_goalOf_10 : decode cX12_goalOf 10 = .ok (.ireturn, 1) := by decide +kernel
theorem dX12_walks_0 : decode cX12_walks 0 = .ok (.iload_n 1, 1) := by decide +kernel
theorem dX12_walks_1 : decode cX12_walks 1 = .ok (.invokestatic 211, 3) := by decide +kernel
theorem dX12_walks_4 : decode cX12_walks 4 = .ok (.istore_n 2, 1) := by decide +kernel
theorem dX12_walks_5 : decode cX12_walks 5 = .ok (.aload_n 0, 1) := by decide +kernel
theorem dX12_walks_6 : decode cX12_walks 6 = .ok (.iload_n 1, 1) := by decide +kernel
theorem dX12_walks_7 : decode cX12_walks 7 = .ok (.invokevirtual 339, 3) := by decide +kernel
theorem dX12_walks_10 : decode cX12_walks 10 = .ok (.istore_n 3, 1) := by decide +kernel
theorem dX12_walks_11 : decode cX12_walks 11 = .ok (.aload_n 0, 1) := by decide +kernel
theorem dX12_walks_12 : decode cX12_walks 12 = .ok (.iload_n 1, 1) := by decide +kernel
theorem dX12_walks_13 : decode cX12_walks 13 = .ok (.invokevirtual 281, 3) := by decide +kernel
theorem dX12_walks_16 : decode cX12_walks 16 = .ok (.ifCond .ne 18, 3) := by decide +kernel
theorem dX12_walks_19 : decode cX12_walks 19 = .ok (.aload_n 0, 1) := by decide +kernel
theorem dX12_walks_20 : decode cX12_walks 20 = .ok (.getfield 7, 3) := by decide +kernel
theorem dX12_walks_23 : decode cX12_walks 23 = .ok (.iload_n 2, 1) := by decide +kernel
theorem dX12_walks_24 : decode cX12_walks 24 = .ok (.iconst 1, 1) := by decide +kernel
theorem dX12_walks_25 : decode cX12_walks 25 = .ok (.iadd, 1) := by decide +kernel
theorem dX12_walks_26 : decode cX12_walks 26 = .ok (.dup2, 1) := by decide +kernel
theorem dX12_walks_27 : decode cX12_walks 27 = .ok (.iaload, 1) := by decide +kernel
theorem dX12_walks_28 : decode cX12_walks 28 = .ok (.iconst 1, 1) := by decide +kernel
theorem dX12_walks_29 : decode cX12_walks 29 = .ok (.isub, 1) := by decide +kernel
theorem dX12_walks_30 : decode cX12_walks 30 = .ok (.iastore, 1) := by decide +kernel
theorem dX12_walks_31 : decode cX12_walks 31 = .ok (.goto 81, 3) := by decide +kernel
theorem dX12_walks_34 : decode cX12_walks 34 = .ok (.iload_n 3, 1) := by decide +kernel
theorem dX12_walks_35 : decode cX12_walks 35 = .ok (.iconst (-1), 1) := by decide +kernel
theorem dX12_walks_36 : decode cX12_walks 36 = .ok (.if_icmp .eq 76, 3) := by decide +kernel
theorem dX12_walks_39 : decode cX12_walks 39 = .ok (.aload_n 0, 1) := by decide +kernel
theorem dX12_walks_40 : decode cX12_walks 40 = .ok (.iload_n 3, 1) := by decide +kernel
theorem dX12_walks_41 : decode cX12_walks 41 = .ok (.iconst 0, 1) := by decide +kernel
theorem dX12_walks_42 : decode cX12_walks 42 = .ok (.invokevirtual 278, 3) := by decide +kernel
theorem dX12_walks_45 : decode cX12_walks 45 = .ok (.aload_n 0, 1) := by decide +kernel
theorem dX12_walks_46 : decode cX12_walks 46 = .ok (.getfield 7, 3) := by decide +kernel
theorem dX12_walks_49 : decode cX12_walks 49 = .ok (.iload_n 2, 1) := by decide +kernel
theorem dX12_walks_50 : decode cX12_walks 50 = .ok (.iaload, 1) := by decide +kernel
theorem dX12_walks_51 : decode cX12_walks 51 = .ok (.if_icmp .eq 61, 3) := by decide +kernel
theorem dX12_walks_54 : decode cX12_walks 54 = .ok (.aload_n 0, 1) := by decide +kernel
theorem dX12_walks_55 : decode cX12_walks 55 = .ok (.aload_n 0, 1) := by decide +kernel
theorem dX12_walks_56 : decode cX12_walks 56 = .ok (.getfield 7, 3) := by decide +kernel
theorem dX12_walks_59 : decode cX12_walks 59 = .ok (.iload_n 2, 1) := by decide +kernel
theorem dX12_walks_60 : decode cX12_walks 60 = .ok (.iaload, 1) := by decide +kernel
theorem dX12_walks_61 : decode cX12_walks 61 = .ok (.aload_n 0, 1) := by decide +kernel
theorem dX12_walks_62 : decode cX12_walks 62 = .ok (.iload_n 3, 1) := by decide +kernel
theorem dX12_walks_63 : decode cX12_walks 63 = .ok (.iconst 0, 1) := by decide +kernel
theorem dX12_walks_64 : decode cX12_walks 64 = .ok (.invokevirtual 278, 3) := by decide +kernel
theorem dX12_walks_67 : decode cX12_walks 67 = .ok (.invokevirtual 321, 3) := by decide +kernel
theorem dX12_walks_70 : decode cX12_walks 70 = .ok (.istore 4, 2) := by decide +kernel
theorem dX12_walks_72 : decode cX12_walks 72 = .ok (.iload 4, 2) := by decide +kernel
theorem dX12_walks_74 : decode cX12_walks 74 = .ok (.iconst (-1), 1) := by decide +kernel
theorem dX12_walks_75 : decode cX12_walks 75 = .ok (.if_icmp .ne 4, 3) := by decide +kernel
theorem dX12_walks_78 : decode cX12_walks 78 = .ok (.return_, 1) := by decide +kernel
theorem dX12_walks_79 : decode cX12_walks 79 = .ok (.aload_n 0, 1) := by decide +kernel
theorem dX12_walks_80 : decode cX12_walks 80 = .ok (.getfield 7, 3) := by decide +kernel
theorem dX12_walks_83 : decode cX12_walks 83 = .ok (.iload_n 2, 1) := by decide +kernel
theorem dX12_walks_84 : decode cX12_walks 84 = .ok (.iconst 1, 1) := by decide +kernel
theorem dX12_walks_85 : decode cX12_walks 85 = .ok (.iadd, 1) := by decide +kernel
theorem dX12_walks_86 : decode cX12_walks 86 = .ok (.aload_n 0, 1) := by decide +kernel
theorem dX12_walks_87 : decode cX12_walks 87 = .ok (.aload_n 0, 1) := by decide +kernel
theorem dX12_walks_88 : decode cX12_walks 88 = .ok (.getfield 7, 3) := by decide +kernel
theorem dX12_walks_91 : decode cX12_walks 91 = .ok (.iload_n 2, 1) := by decide +kernel
theorem dX12_walks_92 : decode cX12_walks 92 = .ok (.iaload, 1) := by decide +kernel
theorem dX12_walks_93 : decode cX12_walks 93 = .ok (.iload 4, 2) := by decide +kernel
theorem dX12_walks_95 : decode cX12_walks 95 = .ok (.invokevirtual 315, 3) := by decide +kernel
theorem dX12_walks_98 : decode cX12_walks 98 = .ok (.iconst 1, 1) := by decide +kernel
theorem dX12_walks_99 : decode cX12_walks 99 = .ok (.isub, 1) := by decide +kernel
theorem dX12_walks_100 : decode cX12_walks 100 = .ok (.iastore, 1) := by decide +kernel
theorem dX12_walks_101 : decode cX12_walks 101 = .ok (.aload_n 0, 1) := by decide +kernel
theorem dX12_walks_102 : decode cX12_walks 102 = .ok (.getfield 7, 3) := by decide +kernel
theorem dX12_walks_105 : decode cX12_walks 105 = .ok (.iload_n 2, 1) := by decide +kernel
theorem dX12_walks_106 : decode cX12_walks 106 = .ok (.bipush 10, 2) := by decide +kernel
theorem dX12_walks_108 : decode cX12_walks 108 = .ok (.iload 4, 2) := by decide +kernel
theorem dX12_walks_110 : decode cX12_walks 110 = .ok (.iadd, 1) := by decide +kernel
theorem dX12_walks_111 : decode cX12_walks 111 = .ok (.iastore, 1) := by decide +kernel
theorem dX12_walks_112 : decode cX12_walks 112 = .ok (.aload_n 0, 1) := by decide +kernel
theorem dX12_walks_113 : decode cX12_walks 113 = .ok (.iload_n 1, 1) := by decide +kernel
theorem dX12_walks_114 : decode cX12_walks 114 = .ok (.invokevirtual 281, 3) := by decide +kernel
theorem dX12_walks_117 : decode cX12_walks 117 = .ok (.ifCond .ne 25, 3) := by decide +kernel
theorem dX12_walks_120 : decode cX12_walks 120 = .ok (.aload_n 0, 1) := by decide +kernel
theorem dX12_walks_121 : decode cX12_walks 121 = .ok (.getfield 7, 3) := by decide +kernel
theorem dX12_walks_124 : decode cX12_walks 124 = .ok (.iload_n 2, 1) := by decide +kernel
theorem dX12_walks_125 : decode cX12_walks 125 = .ok (.iconst 1, 1) := by decide +kernel
theorem dX12_walks_126 : decode cX12_walks 126 = .ok (.iadd, 1) := by decide +kernel
theorem dX12_walks_127 : decode cX12_walks 127 = .ok (.iaload, 1) := by decide +kernel
theorem dX12_walks_128 : decode cX12_walks 128 = .ok (.ifCond .ne 14, 3) := by decide +kernel
theorem dX12_walks_131 : decode cX12_walks 131 = .ok (.aload_n 0, 1) := by decide +kernel
theorem dX12_walks_132 : decode cX12_walks 132 = .ok (.getfield 7, 3) := by decide +kernel
theorem dX12_walks_135 : decode cX12_walks 135 = .ok (.iload_n 2, 1) := by decide +kernel
theorem dX12_walks_136 : decode cX12_walks 136 = .ok (.dup2, 1) := by decide +kernel
theorem dX12_walks_137 : decode cX12_walks 137 = .ok (.iaload, 1) := by decide +kernel
theorem dX12_walks_138 : decode cX12_walks 138 = .ok (.bipush 10, 2) := by decide +kernel
theorem dX12_walks_140 : decode cX12_walks 140 = .ok (.isub, 1) := by decide +kernel
theorem dX12_walks_141 : decode cX12_walks 141 = .ok (.iastore, 1) := by decide +kernel
theorem dX12_walks_142 : decode cX12_walks 142 = .ok (.return_, 1) := by decide +kernel
theorem dX12_comesAbout_0 : decode cX12_comesAbout 0 = .ok (.aload_n 0, 1) := by decide +kernel
theorem dX12_comesAbout_1 : decode cX12_comesAbout 1 = .ok (.aload_n 0, 1) := by decide +kernel
theorem dX12_comesAbout_2 : decode cX12_comesAbout 2 = .ok (.iload_n 1, 1) := by decide +kernel
theorem dX12_comesAbout_3 : decode cX12_comesAbout 3 = .ok (.iconst 0, 1) := by decide +kernel
theorem dX12_comesAbout_4 : decode cX12_comesAbout 4 = .ok (.invokevirtual 278, 3) := by decide +kernel
theorem dX12_comesAbout_7 : decode cX12_comesAbout 7 = .ok (.invokevirtual 299, 3) := by decide +kernel
theorem dX12_comesAbout_10 : decode cX12_comesAbout 10 = .ok (.istore_n 2, 1) := by decide +kernel
theorem dX12_comesAbout_11 : decode cX12_comesAbout 11 = .ok (.iload_n 2, 1) := by decide +kernel
theorem dX12_comesAbout_12 : decode cX12_comesAbout 12 = .ok (.invokestatic 302, 3) := by decide +kernel
theorem dX12_comesAbout_15 : decode cX12_comesAbout 15 = .ok (.aload_n 0, 1) := by decide +kernel
theorem dX12_comesAbout_16 : decode cX12_comesAbout 16 = .ok (.iload_n 1, 1) := by decide +kernel
theorem dX12_comesAbout_17 : decode cX12_comesAbout 17 = .ok (.iconst 2, 1) := by decide +kernel
theorem dX12_comesAbout_18 : decode cX12_comesAbout 18 = .ok (.invokevirtual 278, 3) := by decide +kernel
theorem dX12_comesAbout_21 : decode cX12_comesAbout 21 = .ok (.if_icmp .lt 7, 3) := by decide +kernel
theorem dX12_comesAbout_24 : decode cX12_comesAbout 24 = .ok (.iconst 1, 1) := by decide +kernel
theorem dX12_comesAbout_25 : decode cX12_comesAbout 25 = .ok (.goto 4, 3) := by decide +kernel
theorem dX12_comesAbout_28 : decode cX12_comesAbout 28 = .ok (.iconst 0, 1) := by decide +kernel
theorem dX12_comesAbout_29 : decode cX12_comesAbout 29 = .ok (.istore_n 3, 1) := by decide +kernel
theorem dX12_comesAbout_30 : decode cX12_comesAbout 30 = .ok (.aload_n 0, 1) := by decide +kernel
theorem dX12_comesAbout_31 : decode cX12_comesAbout 31 = .ok (.getfield 7, 3) := by decide +kernel
theorem dX12_comesAbout_34 : decode cX12_comesAbout 34 = .ok (.iload_n 1, 1) := by decide +kernel
theorem dX12_comesAbout_35 : decode cX12_comesAbout 35 = .ok (.invokestatic 214, 3) := by decide +kernel
theorem dX12_comesAbout_38 : decode cX12_comesAbout 38 = .ok (.iconst 3, 1) := by decide +kernel
theorem dX12_comesAbout_39 : decode cX12_comesAbout 39 = .ok (.iadd, 1) := by decide +kernel
theorem dX12_comesAbout_40 : decode cX12_comesAbout 40 = .ok (.iload_n 3, 1) := by decide +kernel
theorem dX12_comesAbout_41 : decode cX12_comesAbout 41 = .ok (.ifCond .eq 7, 3) := by decide +kernel
theorem dX12_comesAbout_44 : decode cX12_comesAbout 44 = .ok (.iconst 1, 1) := by decide +kernel
theorem dX12_comesAbout_45 : decode cX12_comesAbout 45 = .ok (.goto 4, 3) := by decide +kernel
theorem dX12_comesAbout_48 : decode cX12_comesAbout 48 = .ok (.iconst 2, 1) := by decide +kernel
theorem dX12_comesAbout_49 : decode cX12_comesAbout 49 = .ok (.iastore, 1) := by decide +kernel
theorem dX12_comesAbout_50 : decode cX12_comesAbout 50 = .ok (.iconst 0, 1) := by decide +kernel
theorem dX12_comesAbout_51 : decode cX12_comesAbout 51 = .ok (.istore 4, 2) := by decide +kernel
theorem dX12_comesAbout_53 : decode cX12_comesAbout 53 = .ok (.iload 4, 2) := by decide +kernel
theorem dX12_comesAbout_55 : decode cX12_comesAbout 55 = .ok (.aload_n 0, 1) := by decide +kernel
theorem dX12_comesAbout_56 : decode cX12_comesAbout 56 = .ok (.getfield 7, 3) := by decide +kernel
theorem dX12_comesAbout_59 : decode cX12_comesAbout 59 = .ok (.iconst 2, 1) := by decide +kernel
theorem dX12_comesAbout_60 : decode cX12_comesAbout 60 = .ok (.iaload, 1) := by decide +kernel
theorem dX12_comesAbout_61 : decode cX12_comesAbout 61 = .ok (.if_icmp .ge 70, 3) := by decide +kernel
theorem dX12_comesAbout_64 : decode cX12_comesAbout 64 = .ok (.iload_n 3, 1) := by decide +kernel
theorem dX12_comesAbout_65 : decode cX12_comesAbout 65 = .ok (.ifCond .eq 66, 3) := by decide +kernel
theorem dX12_comesAbout_68 : decode cX12_comesAbout 68 = .ok (.aload_n 0, 1) := by decide +kernel
theorem dX12_comesAbout_69 : decode cX12_comesAbout 69 = .ok (.iload_n 2, 1) := by decide +kernel
theorem dX12_comesAbout_70 : decode cX12_comesAbout 70 = .ok (.iload 4, 2) := by decide +kernel
theorem dX12_comesAbout_72 : decode cX12_comesAbout 72 = .ok (.invokevirtual 327, 3) := by decide +kernel
theorem dX12_comesAbout_75 : decode cX12_comesAbout 75 = .ok (.ifCond .ne 6, 3) := by decide +kernel
theorem dX12_comesAbout_78 : decode cX12_comesAbout 78 = .ok (.goto 47, 3) := by decide +kernel
theorem dX12_comesAbout_81 : decode cX12_comesAbout 81 = .ok (.aload_n 0, 1) := by decide +kernel
theorem dX12_comesAbout_82 : decode cX12_comesAbout 82 = .ok (.getfield 7, 3) := by decide +kernel
theorem dX12_comesAbout_85 : decode cX12_comesAbout 85 = .ok (.iload 4, 2) := by decide +kernel
theorem dX12_comesAbout_87 : decode cX12_comesAbout 87 = .ok (.invokestatic 211, 3) := by decide +kernel
theorem dX12_comesAbout_90 : decode cX12_comesAbout 90 = .ok (.iconst 3, 1) := by decide +kernel
theorem dX12_comesAbout_91 : decode cX12_comesAbout 91 = .ok (.iadd, 1) := by decide +kernel
theorem dX12_comesAbout_92 : decode cX12_comesAbout 92 = .ok (.dup2, 1) := by decide +kernel
theorem dX12_comesAbout_93 : decode cX12_comesAbout 93 = .ok (.iaload, 1) := by decide +kernel
theorem dX12_comesAbout_94 : decode cX12_comesAbout 94 = .ok (.aload_n 0, 1) := by decide +kernel
theorem dX12_comesAbout_95 : decode cX12_comesAbout 95 = .ok (.getfield 7, 3) := by decide +kernel
theorem dX12_comesAbout_98 : decode cX12_comesAbout 98 = .ok (.iconst 5, 1) := by decide +kernel
theorem dX12_comesAbout_99 : decode cX12_comesAbout 99 = .ok (.iaload, 1) := by decide +kernel
theorem dX12_comesAbout_100 : decode cX12_comesAbout 100 = .ok (.aload_n 0, 1) := by decide +kernel
theorem dX12_comesAbout_101 : decode cX12_comesAbout 101 = .ok (.iload_n 1, 1) := by decide +kernel
theorem dX12_comesAbout_102 : decode cX12_comesAbout 102 = .ok (.iconst 2, 1) := by decide +kernel
theorem dX12_comesAbout_103 : decode cX12_comesAbout 103 = .ok (.invokevirtual 278, 3) := by decide +kernel
theorem dX12_comesAbout_106 : decode cX12_comesAbout 106 = .ok (.imul, 1) := by decide +kernel
theorem dX12_comesAbout_107 : decode cX12_comesAbout 107 = .ok (.iadd, 1) := by decide +kernel
theorem dX12_comesAbout_108 : decode cX12_comesAbout 108 = .ok (.iastore, 1) := by decide +kernel
theorem dX12_comesAbout_109 : decode cX12_comesAbout 109 = .ok (.aload_n 0, 1) := by decide +kernel
theorem dX12_comesAbout_110 : decode cX12_comesAbout 110 = .ok (.getfield 7, 3) := by decide +kernel
theorem dX12_comesAbout_113 : decode cX12_comesAbout 113 = .ok (.iload 4, 2) := by decide +kernel
theorem dX12_comesAbout_115 : decode cX12_comesAbout 115 = .ok (.invokestatic 211, 3) := by decide +kernel
theorem dX12_comesAbout_118 : decode cX12_comesAbout 118 = .ok (.iconst 4, 1) := by decide +kernel
theorem dX12_comesAbout_119 : decode cX12_comesAbout 119 = .ok (.iadd, 1) := by decide +kernel
theorem dX12_comesAbout_120 : decode cX12_comesAbout 120 = .ok (.dup2, 1) := by decide +kernel
theorem dX12_comesAbout_121 : decode cX12_comesAbout 121 = .ok (.iaload, 1) := by decide +kernel
theorem dX12_comesAbout_122 : decode cX12_comesAbout 122 = .ok (.iconst 1, 1) := by decide +kernel
theorem dX12_comesAbout_123 : decode cX12_comesAbout 123 = .ok (.iadd, 1) := by decide +kernel
theorem dX12_comesAbout_124 : decode cX12_comesAbout 124 = .ok (.iastore, 1) := by decide +kernel
theorem dX12_comesAbout_125 : decode cX12_comesAbout 125 = .ok (.iinc 4 1, 3) := by decide +kernel
theorem dX12_comesAbout_128 : decode cX12_comesAbout 128 = .ok (.goto (-75), 3) := by decide +kernel
theorem dX12_comesAbout_131 : decode cX12_comesAbout 131 = .ok (.iload_n 3, 1) := by decide +kernel
theorem dX12_comesAbout_132 : decode cX12_comesAbout 132 = .ok (.ireturn, 1) := by decide +kernel
theorem dX12_happeningsAt_0 : decode cX12_happeningsAt 0 = .ok (.iconst 0, 1) := by decide +kernel
theorem dX12_happeningsAt_1 : decode cX12_happeningsAt 1 = .ok (.istore_n 2, 1) := by decide +kernel
theorem dX12_happeningsAt_2 : decode cX12_happeningsAt 2 = .ok (.iconst 0, 1) := by decide +kernel
theorem dX12_happeningsAt_3 : decode cX12_happeningsAt 3 = .ok (.istore_n 3, 1) := by decide +kernel
theorem dX12_happeningsAt_4 : decode cX12_happeningsAt 4 = .ok (.iload_n 3, 1) := by decide +kernel
theorem dX12_happeningsAt_5 : decode cX12_happeningsAt 5 = .ok (.aload_n 0, 1) := by decide +kernel
theorem dX12_happeningsAt_6 : decode cX12_happeningsAt 6 = .ok (.getfield 7, 3) := by decide +kernel
theorem dX12_happeningsAt_9 : decode cX12_happeningsAt 9 = .ok (.iconst 3, 1) := by decide +kernel
theorem dX12_happeningsAt_10 : decode cX12_happeningsAt 10 = .ok (.iaload, 1) := by decide +kernel
theorem dX12_happeningsAt_11 : decode cX12_happeningsAt 11 = .ok (.if_icmp .ge 29, 3) := by decide +kernel
theorem dX12_happeningsAt_14 : decode cX12_happeningsAt 14 = .ok (.iload_n 2, 1) := by decide +kernel
theorem dX12_happeningsAt_15 : decode cX12_happeningsAt 15 = .ok (.aload_n 0, 1) := by decide +kernel
theorem dX12_happeningsAt_16 : decode cX12_happeningsAt 16 = .ok (.iload_n 3, 1) := by decide +kernel
theorem dX12_happeningsAt_17 : decode cX12_happeningsAt 17 = .ok (.iconst 0, 1) := by decide +kernel
theorem dX12_happeningsAt_18 : decode cX12_happeningsAt 18 = .ok (.invokevirtual 278, 3) := by decide +kernel
theorem dX12_happeningsAt_21 : decode cX12_happeningsAt 21 = .ok (.iload_n 1, 1) := by decide +kernel
theorem dX12_happeningsAt_22 : decode cX12_happeningsAt 22 = .ok (.if_icmp .ne 9, 3) := by decide +kernel
theorem dX12_happeningsAt_25 : decode cX12_happeningsAt 25 = .ok (.iconst 1, 1) := by decide +kernel
theorem dX12_happeningsAt_26 : decode cX12_happeningsAt 26 = .ok (.iload_n 3, 1) := by decide +kernel
theorem dX12_happeningsAt_27 : decode cX12_happeningsAt 27 = .ok (.ishl, 1) := by decide +kernel
theorem dX12_happeningsAt_28 : decode cX12_happeningsAt 28 = .ok (.goto 4, 3) := by decide +kernel
theorem dX12_happeningsAt_31 : decode cX12_happeningsAt 31 = .ok (.iconst 0, 1) := by decide +kernel
theorem dX12_happeningsAt_32 : decode cX12_happeningsAt 32 = .ok (.ior, 1) := by decide +kernel
theorem dX12_happeningsAt_33 : decode cX12_happeningsAt 33 = .ok (.istore_n 2, 1) := by decide +kernel
theorem dX12_happeningsAt_34 : decode cX12_happeningsAt 34 = .ok (.iinc 3 1, 3) := by decide +kernel
theorem dX12_happeningsAt_37 : decode cX12_happeningsAt 37 = .ok (.goto (-33), 3) := by decide +kernel
theorem dX12_happeningsAt_40 : decode cX12_happeningsAt 40 = .ok (.iload_n 2, 1) := by decide +kernel
theorem dX12_happeningsAt_41 : decode cX12_happeningsAt 41 = .ok (.ireturn, 1) := by decide +kernel
theorem dX12_warns_0 : decode cX12_warns 0 = .ok (.aload_n 0, 1) := by decide +kernel
theorem dX12_warns_1 : decode cX12_warns 1 = .ok (.getfield 7, 3) := by decide +kernel
theorem dX12_warns_4 : decode cX12_warns 4 = .ok (.iload_n 1, 1) := by decide +kernel
theorem dX12_warns_5 : decode cX12_warns 5 = .ok (.invokestatic 217, 3) := by decide +kernel
theorem dX12_warns_8 : decode cX12_warns 8 = .ok (.iconst 2, 1) := by decide +kernel
theorem dX12_warns_9 : decode cX12_warns 9 = .ok (.iadd, 1) := by decide +kernel
theorem dX12_warns_10 : decode cX12_warns 10 = .ok (.dup2, 1) := by decide +kernel
theorem dX12_warns_11 : decode cX12_warns 11 = .ok (.iaload, 1) := by decide +kernel
theorem dX12_warns_12 : decode cX12_warns 12 = .ok (.iconst 1, 1) := by decide +kernel
theorem dX12_warns_13 : decode cX12_warns 13 = .ok (.iadd, 1) := by decide +kernel
theorem dX12_warns_14 : decode cX12_warns 14 = .ok (.iastore, 1) := by decide +kernel
theorem dX12_warns_15 : decode cX12_warns 15 = .ok (.aload_n 0, 1) := by decide +kernel
theorem dX12_warns_16 : decode cX12_warns 16 = .ok (.aload_n 0, 1) := by decide +kernel
theorem dX12_warns_17 : decode cX12_warns 17 = .ok (.aload_n 0, 1) := by decide +kernel
theorem dX12_warns_18 : decode cX12_warns 18 = .ok (.iload_n 1, 1) := by decide +kernel
theorem dX12_warns_19 : decode cX12_warns 19 = .ok (.iconst 0, 1) := by decide +kernel
theorem dX12_warns_20 : decode cX12_warns 20 = .ok (.invokevirtual 308, 3) := by decide +kernel
theorem dX12_warns_23 : decode cX12_warns 23 = .ok (.invokevirtual 342, 3) := by decide +kernel
theorem dX12_warns_26 : decode cX12_warns 26 = .ok (.invokevirtual 336, 3) := by decide +kernel
theorem dX12_warns_29 : decode cX12_warns 29 = .ok (.istore_n 2, 1) := by decide +kernel
theorem dX12_warns_30 : decode cX12_warns 30 = .ok (.iload_n 2, 1) := by decide +kernel
theorem dX12_warns_31 : decode cX12_warns 31 = .ok (.iconst (-1), 1) := by decide +kernel
theorem dX12_warns_32 : decode cX12_warns 32 = .ok (.if_icmp .eq 39, 3) := by decide +kernel
theorem dX12_warns_35 : decode cX12_warns 35 = .ok (.aload_n 0, 1) := by decide +kernel
theorem dX12_warns_36 : decode cX12_warns 36 = .ok (.getfield 7, 3) := by decide +kernel
theorem dX12_warns_39 : decode cX12_warns 39 = .ok (.iload_n 2, 1) := by decide +kernel
theorem dX12_warns_40 : decode cX12_warns 40 = .ok (.invokestatic 214, 3) := by decide +kernel
theorem dX12_warns_43 : decode cX12_warns 43 = .ok (.iconst 1, 1) := by decide +kernel
theorem dX12_warns_44 : decode cX12_warns 44 = .ok (.iadd, 1) := by decide +kernel
theorem dX12_warns_45 : decode cX12_warns 45 = .ok (.sipush 9999, 3) := by decide +kernel
theorem dX12_warns_48 : decode cX12_warns 48 = .ok (.aload_n 0, 1) := by decide +kernel
theorem dX12_warns_49 : decode cX12_warns 49 = .ok (.getfield 7, 3) := by decide +kernel
theorem dX12_warns_52 : decode cX12_warns 52 = .ok (.iload_n 2, 1) := by decide +kernel
theorem dX12_warns_53 : decode cX12_warns 53 = .ok (.invokestatic 214, 3) := by decide +kernel
theorem dX12_warns_56 : decode cX12_warns 56 = .ok (.iconst 1, 1) := by decide +kernel
theorem dX12_warns_57 : decode cX12_warns 57 = .ok (.iadd, 1) := by decide +kernel
theorem dX12_warns_58 : decode cX12_warns 58 = .ok (.iaload, 1) := by decide +kernel
theorem dX12_warns_59 : decode cX12_warns 59 = .ok (.aload_n 0, 1) := by decide +kernel
theorem dX12_warns_60 : decode cX12_warns 60 = .ok (.getfield 7, 3) := by decide +kernel
theorem dX12_warns_63 : decode cX12_warns 63 = .ok (.bipush 6, 2) := by decide +kernel
theorem dX12_warns_65 : decode cX12_warns 65 = .ok (.iaload, 1) := by decide +kernel
theorem dX12_warns_66 : decode cX12_warns 66 = .ok (.iadd, 1) := by decide +kernel
theorem dX12_warns_67 : decode cX12_warns 67 = .ok (.invokestatic 140, 3) := by decide +kernel
theorem dX12_warns_70 : decode cX12_warns 70 = .ok (.iastore, 1) := by decide +kernel
theorem dX12_warns_71 : decode cX12_warns 71 = .ok (.return_, 1) := by decide +kernel
theorem dX12_hourGoes_0 : decode cX12_hourGoes 0 = .ok (.iconst 0, 1) := by decide +kernel
theorem dX12_hourGoes_1 : decode cX12_hourGoes 1 = .ok (.istore_n 1, 1) := by decide +kernel
theorem dX12_hourGoes_2 : decode cX12_hourGoes 2 = .ok (.iconst 0, 1) := by decide +kernel
theorem dX12_hourGoes_3 : decode cX12_hourGoes 3 = .ok (.istore_n 2, 1) := by decide +kernel
theorem dX12_hourGoes_4 : decode cX12_hourGoes 4 = .ok (.iload_n 2, 1) := by decide +kernel
theorem dX12_hourGoes_5 : decode cX12_hourGoes 5 = .ok (.aload_n 0, 1) := by decide +kernel
theorem dX12_hourGoes_6 : decode cX12_hourGoes 6 = .ok (.getfield 7, 3) := by decide +kernel
theorem dX12_hourGoes_9 : decode cX12_hourGoes 9 = .ok (.iconst 2, 1) := by decide +kernel
theorem dX12_hourGoes_10 : decode cX12_hourGoes 10 = .ok (.iaload, 1) := by decide +kernel
theorem dX12_hourGoes_11 : decode cX12_hourGoes 11 = .ok (.if_icmp .ge 14, 3) := by decide +kernel
theorem dX12_hourGoes_14 : decode cX12_hourGoes 14 = .ok (.aload_n 0, 1) := by decide +kernel
theorem dX12_hourGoes_15 : decode cX12_hourGoes 15 = .ok (.iload_n 2, 1) := by decide +kernel
theorem dX12_hourGoes_16 : decode cX12_hourGoes 16 = .ok (.invokevirtual 345, 3) := by decide +kernel
theorem dX12_hourGoes_19 : decode cX12_hourGoes 19 = .ok (.iinc 2 1, 3) := by decide +kernel
theorem dX12_hourGoes_22 : decode cX12_hourGoes 22 = .ok (.goto (-18), 3) := by decide +kernel
theorem dX12_hourGoes_25 : decode cX12_hourGoes 25 = .ok (.iconst 0, 1) := by decide +kernel
theorem dX12_hourGoes_26 : decode cX12_hourGoes 26 = .ok (.istore_n 2, 1) := by decide +kernel
theorem dX12_hourGoes_27 : decode cX12_hourGoes 27 = .ok (.iload_n 2, 1) := by decide +kernel
theorem dX12_hourGoes_28 : decode cX12_hourGoes 28 = .ok (.aload_n 0, 1) := by decide +kernel
theorem dX12_hourGoes_29 : decode cX12_hourGoes 29 = .ok (.getfield 7, 3) := by decide +kernel
theorem dX12_hourGoes_32 : decode cX12_hourGoes 32 = .ok (.iconst 3, 1) := by decide +kernel
theorem dX12_hourGoes_33 : decode cX12_hourGoes 33 = .ok (.iaload, 1) := by decide +kernel
theorem dX12_hourGoes_34 : decode cX12_hourGoes 34 = .ok (.if_icmp .ge 44, 3) := by decide +kernel
theorem dX12_hourGoes_37 : decode cX12_hourGoes 37 = .ok (.aload_n 0, 1) := by decide +kernel
theorem dX12_hourGoes_38 : decode cX12_hourGoes 38 = .ok (.iload_n 2, 1) := by decide +kernel
theorem dX12_hourGoes_39 : decode cX12_hourGoes 39 = .ok (.invokevirtual 333, 3) := by decide +kernel
theorem dX12_hourGoes_42 : decode cX12_hourGoes 42 = .ok (.ifCond .eq 30, 3) := by decide +kernel
theorem dX12_hourGoes_45 : decode cX12_hourGoes 45 = .ok (.aload_n 0, 1) := by decide +kernel
theorem dX12_hourGoes_46 : decode cX12_hourGoes 46 = .ok (.iload_n 2, 1) := by decide +kernel
theorem dX12_hourGoes_47 : decode cX12_hourGoes 47 = .ok (.iconst 1, 1) := by decide +kernel
theorem dX12_hourGoes_48 : decode cX12_hourGoes 48 = .ok (.invokevirtual 278, 3) := by decide +kernel
theorem dX12_hourGoes_51 : decode cX12_hourGoes 51 = .ok (.aload_n 0, 1) := by decide +kernel
theorem dX12_hourGoes_52 : decode cX12_hourGoes 52 = .ok (.getfield 7, 3) := by decide +kernel
theorem dX12_hourGoes_55 : decode cX12_hourGoes 55 = .ok (.bipush 8, 2) := by decide +kernel
theorem dX12_hourGoes_57 : decode cX12_hourGoes 57 = .ok (.iaload, 1) := by decide +kernel
theorem dX12_hourGoes_58 : decode cX12_hourGoes 58 = .ok (.if_icmp .ne 14, 3) := by decide +kernel
theorem dX12_hourGoes_61 : decode cX12_hourGoes 61 = .ok (.aload_n 0, 1) := by decide +kernel
theorem dX12_hourGoes_62 : decode cX12_hourGoes 62 = .ok (.iload_n 2, 1) := by decide +kernel
theorem dX12_hourGoes_63 : decode cX12_hourGoes 63 = .ok (.invokevirtual 348, 3) := by decide +kernel
theorem dX12_hourGoes_66 : decode cX12_hourGoes 66 = .ok (.ifCond .eq 6, 3) := by decide +kernel
theorem dX12_hourGoes_69 : decode cX12_hourGoes 69 = .ok (.iinc 1 1, 3) := by decide +kernel
theorem dX12_hourGoes_72 : decode cX12_hourGoes 72 = .ok (.iinc 2 1, 3) := by decide +kernel
theorem dX12_hourGoes_75 : decode cX12_hourGoes 75 = .ok (.goto (-48), 3) := by decide +kernel
theorem dX12_hourGoes_78 : decode cX12_hourGoes 78 = .ok (.iconst 0, 1) := by decide +kernel
theorem dX12_hourGoes_79 : decode cX12_hourGoes 79 = .ok (.istore_n 2, 1) := by decide +kernel
theorem dX12_hourGoes_80 : decode cX12_hourGoes 80 = .ok (.iload_n 2, 1) := by decide +kernel
theorem dX12_hourGoes_81 : decode cX12_hourGoes 81 = .ok (.aload_n 0, 1) := by decide +kernel
theorem dX12_hourGoes_82 : decode cX12_hourGoes 82 = .ok (.getfield 7, 3) := by decide +kernel
theorem dX12_hourGoes_85 : decode cX12_hourGoes 85 = .ok (.iconst 4, 1) := by decide +kernel
theorem dX12_hourGoes_86 : decode cX12_hourGoes 86 = .ok (.iaload, 1) := by decide +kernel
theorem dX12_hourGoes_87 : decode cX12_hourGoes 87 = .ok (.if_icmp .ge 36, 3) := by decide +kernel
theorem dX12_hourGoes_90 : decode cX12_hourGoes 90 = .ok (.aload_n 0, 1) := by decide +kernel
theorem dX12_hourGoes_91 : decode cX12_hourGoes 91 = .ok (.aload_n 0, 1) := by decide +kernel
theorem dX12_hourGoes_92 : decode cX12_hourGoes 92 = .ok (.iload_n 2, 1) := by decide +kernel
theorem dX12_hourGoes_93 : decode cX12_hourGoes 93 = .ok (.iconst 0, 1) := by decide +kernel
theorem dX12_hourGoes_94 : decode cX12_hourGoes 94 = .ok (.invokevirtual 308, 3) := by decide +kernel
theorem dX12_hourGoes_97 : decode cX12_hourGoes 97 = .ok (.invokevirtual 299, 3) := by decide +kernel
theorem dX12_hourGoes_100 : decode cX12_hourGoes 100 = .ok (.invokestatic 302, 3) := by decide +kernel
theorem dX12_hourGoes_103 : decode cX12_hourGoes 103 = .ok (.aload_n 0, 1) := by decide +kernel
theorem dX12_hourGoes_104 : decode cX12_hourGoes 104 = .ok (.iload_n 2, 1) := by decide +kernel
theorem dX12_hourGoes_105 : decode cX12_hourGoes 105 = .ok (.iconst 1, 1) := by decide +kernel
theorem dX12_hourGoes_106 : decode cX12_hourGoes 106 = .ok (.invokevirtual 308, 3) := by decide +kernel
theorem dX12_hourGoes_109 : decode cX12_hourGoes 109 = .ok (.if_icmp .lt 8, 3) := by decide +kernel
theorem dX12_hourGoes_112 : decode cX12_hourGoes 112 = .ok (.aload_n 0, 1) := by decide +kernel
theorem dX12_hourGoes_113 : decode cX12_hourGoes 113 = .ok (.iload_n 2, 1) := by decide +kernel
theorem dX12_hourGoes_114 : decode cX12_hourGoes 114 = .ok (.invokevirtual 351, 3) := by decide +kernel
theorem dX12_hourGoes_117 : decode cX12_hourGoes 117 = .ok (.iinc 2 1, 3) := by decide +kernel
theorem dX12_hourGoes_120 : decode cX12_hourGoes 120 = .ok (.goto (-40), 3) := by decide +kernel
theorem dX12_hourGoes_123 : decode cX12_hourGoes 123 = .ok (.aload_n 0, 1) := by decide +kernel
theorem dX12_hourGoes_124 : decode cX12_hourGoes 124 = .ok (.getfield 7, 3) := by decide +kernel
theorem dX12_hourGoes_127 : decode cX12_hourGoes 127 = .ok (.bipush 8, 2) := by decide +kernel
theorem dX12_hourGoes_129 : decode cX12_hourGoes 129 = .ok (.dup2, 1) := by decide +kernel
theorem dX12_hourGoes_130 : decode cX12_hourGoes 130 = .ok (.iaload, 1) := by decide +kernel
theorem dX12_hourGoes_131 : decode cX12_hourGoes 131 = .ok (.iconst 1, 1) := by decide +kernel
theorem dX12_hourGoes_132 : decode cX12_hourGoes 132 = .ok (.iadd, 1) := by decide +kernel
theorem dX12_hourGoes_133 : decode cX12_hourGoes 133 = .ok (.iastore, 1) := by decide +kernel
theorem dX12_hourGoes_134 : decode cX12_hourGoes 134 = .ok (.iload_n 1, 1) := by decide +kernel
theorem dX12_hourGoes_135 : decode cX12_hourGoes 135 = .ok (.ireturn, 1) := by decide +kernel
theorem dX12_hoursGo_0 : decode cX12_hoursGo 0 = .ok (.aload_n 0, 1) := by decide +kernel
theorem dX12_hoursGo_1 : decode cX12_hoursGo 1 = .ok (.invokevirtual 318, 3) := by decide +kernel
theorem dX12_hoursGo_4 : decode cX12_hoursGo 4 = .ok (.iconst 0, 1) := by decide +kernel
theorem dX12_hoursGo_5 : decode cX12_hoursGo 5 = .ok (.istore_n 2, 1) := by decide +kernel
theorem dX12_hoursGo_6 : decode cX12_hoursGo 6 = .ok (.iconst 0, 1) := by decide +kernel
theorem dX12_hoursGo_7 : decode cX12_hoursGo 7 = .ok (.istore_n 3, 1) := by decide +kernel
theorem dX12_hoursGo_8 : decode cX12_hoursGo 8 = .ok (.iload_n 3, 1) := by decide +kernel
theorem dX12_hoursGo_9 : decode cX12_hoursGo 9 = .ok (.iload_n 1, 1) := by decide +kernel
theorem dX12_hoursGo_10 : decode cX12_hoursGo 10 = .ok (.if_icmp .ge 16, 3) := by decide +kernel
theorem dX12_hoursGo_13 : decode cX12_hoursGo 13 = .ok (.iload_n 2, 1) := by decide +kernel
theorem dX12_hoursGo_14 : decode cX12_hoursGo 14 = .ok (.aload_n 0, 1) := by decide +kernel
theorem dX12_hoursGo_15 : decode cX12_hoursGo 15 = .ok (.invokevirtual 354, 3) := by decide +kernel
theorem dX12_hoursGo_18 : decode cX12_hoursGo 18 = .ok (.iadd, 1) := by decide +kernel
theorem dX12_hoursGo_19 : decode cX12_hoursGo 19 = .ok (.istore_n 2, 1) := by decide +kernel
theorem dX12_hoursGo_20 : decode cX12_hoursGo 20 = .ok (.iinc 3 1, 3) := by decide +kernel
theorem dX12_hoursGo_23 : decode cX12_hoursGo 23 = .ok (.goto (-15), 3) := by decide +kernel
theorem dX12_hoursGo_26 : decode cX12_hoursGo 26 = .ok (.iload_n 2, 1) := by decide +kernel
theorem dX12_hoursGo_27 : decode cX12_hoursGo 27 = .ok (.ireturn, 1) := by decide +kernel
theorem dX12_hour_0 : decode cX12_hour 0 = .ok (.iload_n 1, 1) := by decide +kernel
theorem dX12_hour_1 : decode cX12_hour 1 = .ok (.i2l, 1) := by decide +kernel
theorem dX12_hour_2 : decode cX12_hour 2 = .ok (.lconst 1, 1) := by decide +kernel
theorem dX12_hour_3 : decode cX12_hour 3 = .ok (.ldc2_w 357, 3) := by decide +kernel
theorem dX12_hour_6 : decode cX12_hour 6 = .ok (.invokestatic 359, 3) := by decide +kernel
theorem dX12_hour_9 : decode cX12_hour 9 = .ok (.ifCond .ne 9, 3) := by decide +kernel
theorem dX12_hour_12 : decode cX12_hour 12 = .ok (.aload_n 0, 1) := by decide +kernel
theorem dX12_hour_13 : decode cX12_hour 13 = .ok (.iconst 1, 1) := by decide +kernel
theorem dX12_hour_14 : decode cX12_hour 14 = .ok (.invokevirtual 85, 3) := by decide +kernel
theorem dX12_hour_17 : decode cX12_hour 17 = .ok (.ireturn, 1) := by decide +kernel
theorem dX12_hour_18 : decode cX12_hour 18 = .ok (.aload_n 0, 1) := by decide +kernel
theorem dX12_hour_19 : decode cX12_hour 19 = .ok (.getfield 7, 3) := by decide +kernel
theorem dX12_hour_22 : decode cX12_hour 22 = .ok (.bipush 8, 2) := by decide +kernel
theorem dX12_hour_24 : decode cX12_hour 24 = .ok (.iaload, 1) := by decide +kernel
theorem dX12_hour_25 : decode cX12_hour 25 = .ok (.iload_n 1, 1) := by decide +kernel
theorem dX12_hour_26 : decode cX12_hour 26 = .ok (.iadd, 1) := by decide +kernel
theorem dX12_hour_27 : decode cX12_hour 27 = .ok (.sipush 9999, 3) := by decide +kernel
theorem dX12_hour_30 : decode cX12_hour 30 = .ok (.if_icmp .le 11, 3) := by decide +kernel
theorem dX12_hour_33 : decode cX12_hour 33 = .ok (.aload_n 0, 1) := by decide +kernel
theorem dX12_hour_34 : decode cX12_hour 34 = .ok (.iconst 4, 1) := by decide +kernel
theorem dX12_hour_35 : decode cX12_hour 35 = .ok (.invokevirtual 85, 3) := by decide +kernel
theorem dX12_hour_38 : decode cX12_hour 38 = .ok (.goto 12, 3) := by decide +kernel
theorem dX12_hour_41 : decode cX12_hour 41 = .ok (.aload_n 0, 1) := by decide +kernel
theorem dX12_hour_42 : decode cX12_hour 42 = .ok (.aload_n 0, 1) := by decide +kernel
theorem dX12_hour_43 : decode cX12_hour 43 = .ok (.iload_n 1, 1) := by decide +kernel
theorem dX12_hour_44 : decode cX12_hour 44 = .ok (.invokevirtual 363, 3) := by decide +kernel
theorem dX12_hour_47 : decode cX12_hour 47 = .ok (.invokevirtual 89, 3) := by decide +kernel
theorem dX12_hour_50 : decode cX12_hour 50 = .ok (.ireturn, 1) := by decide +kernel
theorem dX12_order_0 : decode cX12_order 0 = .ok (.aload_n 0, 1) := by decide +kernel
theorem dX12_order_1 : decode cX12_order 1 = .ok (.iload_n 1, 1) := by decide +kernel
theorem dX12_order_2 : decode cX12_order 2 = .ok (.invokevirtual 293, 3) := by decide +kernel
theorem dX12_order_5 : decode cX12_order 5 = .ok (.ifCond .eq 11, 3) := by decide +kernel
theorem dX12_order_8 : decode cX12_order 8 = .ok (.aload_n 0, 1) := by decide +kernel
theorem dX12_order_9 : decode cX12_order 9 = .ok (.iload_n 2, 1) := by decide +kernel
theorem dX12_order_10 : decode cX12_order 10 = .ok (.invokevirtual 296, 3) := by decide +kernel
theorem dX12_order_13 : decode cX12_order 13 = .ok (.ifCond .ne 9, 3) := by decide +kernel
theorem dX12_order_16 : decode cX12_order 16 = .ok (.aload_n 0, 1) := by decide +kernel
theorem dX12_order_17 : decode cX12_order 17 = .ok (.iconst 1, 1) := by decide +kernel
theorem dX12_order_18 : decode cX12_order 18 = .ok (.invokevirtual 92, 3) := by decide +kernel
theorem dX12_order_21 : decode cX12_order 21 = .ok (.ireturn, 1) := by decide +kernel
theorem dX12_order_22 : decode cX12_order 22 = .ok (.aload_n 0, 1) := by decide +kernel
theorem dX12_order_23 : decode cX12_order 23 = .ok (.aload_n 0, 1) := by decide +kernel
theorem dX12_order_24 : decode cX12_order 24 = .ok (.iload_n 1, 1) := by decide +kernel
theorem dX12_order_25 : decode cX12_order 25 = .ok (.iconst 2, 1) := by decide +kernel
theorem dX12_order_26 : decode cX12_order 26 = .ok (.invokevirtual 275, 3) := by decide +kernel
theorem dX12_order_29 : decode cX12_order 29 = .ok (.iload_n 2, 1) := by decide +kernel
theorem dX12_order_30 : decode cX12_order 30 = .ok (.invokevirtual 327, 3) := by decide +kernel
theorem dX12_order_33 : decode cX12_order 33 = .ok (.iload_n 3, 1) := by decide +kernel
theorem dX12_order_34 : decode cX12_order 34 = .ok (.if_icmp .ne 10, 3) := by decide +kernel
theorem dX12_order_37 : decode cX12_order 37 = .ok (.aload_n 0, 1) := by decide +kernel
theorem dX12_order_38 : decode cX12_order 38 = .ok (.bipush 7, 2) := by decide +kernel
theorem dX12_order_40 : decode cX12_order 40 = .ok (.invokevirtual 92, 3) := by decide +kernel
theorem dX12_order_43 : decode cX12_order 43 = .ok (.ireturn, 1) := by decide +kernel
theorem dX12_order_44 : decode cX12_order 44 = .ok (.aload_n 0, 1) := by decide +kernel
theorem dX12_order_45 : decode cX12_order 45 = .ok (.getfield 7, 3) := by decide +kernel
theorem dX12_order_48 : decode cX12_order 48 = .ok (.iload_n 1, 1) := by decide +kernel
theorem dX12_order_49 : decode cX12_order 49 = .ok (.invokestatic 211, 3) := by decide +kernel
theorem dX12_order_52 : decode cX12_order 52 = .ok (.iconst 2, 1) := by decide +kernel
theorem dX12_order_53 : decode cX12_order 53 = .ok (.iadd, 1) := by decide +kernel
theorem dX12_order_54 : decode cX12_order 54 = .ok (.dup2, 1) := by decide +kernel
theorem dX12_order_55 : decode cX12_order 55 = .ok (.iaload, 1) := by decide +kernel
theorem dX12_order_56 : decode cX12_order 56 = .ok (.iconst 1, 1) := by decide +kernel
theorem dX12_order_57 : decode cX12_order 57 = .ok (.iload_n 2, 1) := by decide +kernel
theorem dX12_order_58 : decode cX12_order 58 = .ok (.ishl, 1) := by decide +kernel
theorem dX12_order_59 : decode cX12_order 59 = .ok (.ixor, 1) := by decide +kernel
theorem dX12_order_60 : decode cX12_order 60 = .ok (.iastore, 1) := by decide +kernel
theorem dX12_order_61 : decode cX12_order 61 = .ok (.aload_n 0, 1) := by decide +kernel
theorem dX12_order_62 : decode cX12_order 62 = .ok (.iconst 0, 1) := by decide +kernel
theorem dX12_order_63 : decode cX12_order 63 = .ok (.invokevirtual 92, 3) := by decide +kernel
theorem dX12_order_66 : decode cX12_order 66 = .ok (.ireturn, 1) := by decide +kernel
theorem dX12_puts_0 : decode cX12_puts 0 = .ok (.aload_n 0, 1) := by decide +kernel
theorem dX12_puts_1 : decode cX12_puts 1 = .ok (.iload_n 1, 1) := by decide +kernel
theorem dX12_puts_2 : decode cX12_puts 2 = .ok (.invokevirtual 333, 3) := by decide +kernel
theorem dX12_puts_5 : decode cX12_puts 5 = .ok (.ifCond .eq 17, 3) := by decide +kernel
theorem dX12_puts_8 : decode cX12_puts 8 = .ok (.aload_n 0, 1) := by decide +kernel
theorem dX12_puts_9 : decode cX12_puts 9 = .ok (.iload_n 1, 1) := by decide +kernel
theorem dX12_puts_10 : decode cX12_puts 10 = .ok (.iconst 1, 1) := by decide +kernel
theorem dX12_puts_11 : decode cX12_puts 11 = .ok (.invokevirtual 278, 3) := by decide +kernel
theorem dX12_puts_14 : decode cX12_puts 14 = .ok (.iload_n 2, 1) := by decide +kernel
theorem dX12_puts_15 : decode cX12_puts 15 = .ok (.iadd, 1) := by decide +kernel
theorem dX12_puts_16 : decode cX12_puts 16 = .ok (.sipush 9999, 3) := by decide +kernel
theorem dX12_puts_19 : decode cX12_puts 19 = .ok (.if_icmp .le 5, 3) := by decide +kernel
theorem dX12_puts_22 : decode cX12_puts 22 = .ok (.iconst 0, 1) := by decide +kernel
theorem dX12_puts_23 : decode cX12_puts 23 = .ok (.ireturn, 1) := by decide +kernel
theorem dX12_puts_24 : decode cX12_puts 24 = .ok (.aload_n 0, 1) := by decide +kernel
theorem dX12_puts_25 : decode cX12_puts 25 = .ok (.getfield 7, 3) := by decide +kernel
theorem dX12_puts_28 : decode cX12_puts 28 = .ok (.iload_n 1, 1) := by decide +kernel
theorem dX12_puts_29 : decode cX12_puts 29 = .ok (.invokestatic 214, 3) := by decide +kernel
theorem dX12_puts_32 : decode cX12_puts 32 = .ok (.iconst 1, 1) := by decide +kernel
theorem dX12_puts_33 : decode cX12_puts 33 = .ok (.iadd, 1) := by decide +kernel
theorem dX12_puts_34 : decode cX12_puts 34 = .ok (.dup2, 1) := by decide +kernel
theorem dX12_puts_35 : decode cX12_puts 35 = .ok (.iaload, 1) := by decide +kernel
theorem dX12_puts_36 : decode cX12_puts 36 = .ok (.iload_n 2, 1) := by decide +kernel
theorem dX12_puts_37 : decode cX12_puts 37 = .ok (.iadd, 1) := by decide +kernel
theorem dX12_puts_38 : decode cX12_puts 38 = .ok (.iastore, 1) := by decide +kernel
theorem dX12_puts_39 : decode cX12_puts 39 = .ok (.iconst 1, 1) := by decide +kernel
theorem dX12_puts_40 : decode cX12_puts 40 = .ok (.ireturn, 1) := by decide +kernel
theorem dX12_put_0 : decode cX12_put 0 = .ok (.aload_n 0, 1) := by decide +kernel
theorem dX12_put_1 : decode cX12_put 1 = .ok (.iload_n 1, 1) := by decide +kernel
theorem dX12_put_2 : decode cX12_put 2 = .ok (.invokevirtual 296, 3) := by decide +kernel
theorem dX12_put_5 : decode cX12_put 5 = .ok (.ifCond .eq 15, 3) := by decide +kernel
theorem dX12_put_8 : decode cX12_put 8 = .ok (.iload_n 2, 1) := by decide +kernel
theorem dX12_put_9 : decode cX12_put 9 = .ok (.i2l, 1) := by decide +kernel
theorem dX12_put_10 : decode cX12_put 10 = .ok (.lconst 1, 1) := by decide +kernel
theorem dX12_put_11 : decode cX12_put 11 = .ok (.ldc2_w 357, 3) := by decide +kernel
theorem dX12_put_14 : decode cX12_put 14 = .ok (.invokestatic 359, 3) := by decide +kernel
theorem dX12_put_17 : decode cX12_put 17 = .ok (.ifCond .ne 9, 3) := by decide +kernel
theorem dX12_put_20 : decode cX12_put 20 = .ok (.aload_n 0, 1) := by decide +kernel
theorem dX12_put_21 : decode cX12_put 21 = .ok (.iconst 1, 1) := by decide +kernel
theorem dX12_put_22 : decode cX12_put 22 = .ok (.invokevirtual 85, 3) := by decide +kernel
theorem dX12_put_25 : decode cX12_put 25 = .ok (.ireturn, 1) := by decide +kernel
theorem dX12_put_26 : decode cX12_put 26 = .ok (.aload_n 0, 1) := by decide +kernel
theorem dX12_put_27 : decode cX12_put 27 = .ok (.iload_n 1, 1) := by decide +kernel
theorem dX12_put_28 : decode cX12_put 28 = .ok (.iload_n 2, 1) := by decide +kernel
theorem dX12_put_29 : decode cX12_put 29 = .ok (.invokevirtual 366, 3) := by decide +kernel
theorem dX12_put_32 : decode cX12_put 32 = .ok (.ifCond .eq 16, 3) := by decide +kernel
theorem dX12_put_35 : decode cX12_put 35 = .ok (.aload_n 0, 1) := by decide +kernel
theorem dX12_put_36 : decode cX12_put 36 = .ok (.aload_n 0, 1) := by decide +kernel
theorem dX12_put_37 : decode cX12_put 37 = .ok (.iload_n 1, 1) := by decide +kernel
theorem dX12_put_38 : decode cX12_put 38 = .ok (.iconst 1, 1) := by decide +kernel
theorem dX12_put_39 : decode cX12_put 39 = .ok (.invokevirtual 278, 3) := by decide +kernel
theorem dX12_put_42 : decode cX12_put 42 = .ok (.invokevirtual 89, 3) := by decide +kernel
theorem dX12_put_45 : decode cX12_put 45 = .ok (.goto 9, 3) := by decide +kernel
theorem dX12_put_48 : decode cX12_put 48 = .ok (.aload_n 0, 1) := by decide +kernel
theorem dX12_put_49 : decode cX12_put 49 = .ok (.bipush 7, 2) := by decide +kernel
theorem dX12_put_51 : decode cX12_put 51 = .ok (.invokevirtual 85, 3) := by decide +kernel
theorem dX12_put_54 : decode cX12_put 54 = .ok (.ireturn, 1) := by decide +kernel
theorem dX12_raise_0 : decode cX12_raise 0 = .ok (.aload_n 0, 1) := by decide +kernel
theorem dX12_raise_1 : decode cX12_raise 1 = .ok (.iload_n 1, 1) := by decide +kernel
theorem dX12_raise_2 : decode cX12_raise 2 = .ok (.invokevirtual 296, 3) := by decide +kernel
theorem dX12_raise_5 : decode cX12_raise 5 = .ok (.ifCond .eq 15, 3) := by decide +kernel
theorem dX12_raise_8 : decode cX12_raise 8 = .ok (.iload_n 2, 1) := by decide +kernel
theorem dX12_raise_9 : decode cX12_raise 9 = .ok (.i2l, 1) := by decide +kernel
theorem dX12_raise_10 : decode cX12_raise 10 = .ok (.lconst 1, 1) := by decide +kernel
theorem dX12_raise_11 : decode cX12_raise 11 = .ok (.ldc2_w 369, 3) := by decide +kernel
theorem dX12_raise_14 : decode cX12_raise 14 = .ok (.invokestatic 359, 3) := by decide +kernel
theorem dX12_raise_17 : decode cX12_raise 17 = .ok (.ifCond .ne 9, 3) := by decide +kernel
theorem dX12_raise_20 : decode cX12_raise 20 = .ok (.aload_n 0, 1) := by decide +kernel
theorem dX12_raise_21 : decode cX12_raise 21 = .ok (.iconst 1, 1) := by decide +kernel
theorem dX12_raise_22 : decode cX12_raise 22 = .ok (.invokevirtual 92, 3) := by decide +kernel
theorem dX12_raise_25 : decode cX12_raise 25 = .ok (.ireturn, 1) := by decide +kernel
theorem dX12_raise_26 : decode cX12_raise 26 = .ok (.aload_n 0, 1) := by decide +kernel
theorem dX12_raise_27 : decode cX12_raise 27 = .ok (.iload_n 1, 1) := by decide +kernel
theorem dX12_raise_28 : decode cX12_raise 28 = .ok (.invokevirtual 333, 3) := by decide +kernel
theorem dX12_raise_31 : decode cX12_raise 31 = .ok (.ifCond .ne 10, 3) := by decide +kernel
theorem dX12_raise_34 : decode cX12_raise 34 = .ok (.aload_n 0, 1) := by decide +kernel
theorem dX12_raise_35 : decode cX12_raise 35 = .ok (.bipush 7, 2) := by decide +kernel
theorem dX12_raise_37 : decode cX12_raise 37 = .ok (.invokevirtual 92, 3) := by decide +kernel
theorem dX12_raise_40 : decode cX12_raise 40 = .ok (.ireturn, 1) := by decide +kernel
theorem dX12_raise_41 : decode cX12_raise 41 = .ok (.aload_n 0, 1) := by decide +kernel
theorem dX12_raise_42 : decode cX12_raise 42 = .ok (.getfield 7, 3) := by decide +kernel
theorem dX12_raise_45 : decode cX12_raise 45 = .ok (.iload_n 1, 1) := by decide +kernel
theorem dX12_raise_46 : decode cX12_raise 46 = .ok (.invokestatic 214, 3) := by decide +kernel
theorem dX12_raise_49 : decode cX12_raise 49 = .ok (.iconst 2, 1) := by decide +kernel
theorem dX12_raise_50 : decode cX12_raise 50 = .ok (.iadd, 1) := by decide +kernel
theorem dX12_raise_51 : decode cX12_raise 51 = .ok (.iload_n 2, 1) := by decide +kernel
theorem dX12_raise_52 : decode cX12_raise 52 = .ok (.iastore, 1) := by decide +kernel
theorem dX12_raise_53 : decode cX12_raise 53 = .ok (.aload_n 0, 1) := by decide +kernel
theorem dX12_raise_54 : decode cX12_raise 54 = .ok (.iconst 0, 1) := by decide +kernel
theorem dX12_raise_55 : decode cX12_raise 55 = .ok (.invokevirtual 92, 3) := by decide +kernel
theorem dX12_raise_58 : decode cX12_raise 58 = .ok (.ireturn, 1) := by decide +kernel
theorem dX12_plan_0 : decode cX12_plan 0 = .ok (.aload_n 0, 1) := by decide +kernel
theorem dX12_plan_1 : decode cX12_plan 1 = .ok (.iload_n 1, 1) := by decide +kernel
theorem dX12_plan_2 : decode cX12_plan 2 = .ok (.invokevirtual 311, 3) := by decide +kernel
theorem dX12_plan_5 : decode cX12_plan 5 = .ok (.ifCond .eq 27, 3) := by decide +kernel
theorem dX12_plan_8 : decode cX12_plan 8 = .ok (.iload_n 2, 1) := by decide +kernel
theorem dX12_plan_9 : decode cX12_plan 9 = .ok (.i2l, 1) := by decide +kernel
theorem dX12_plan_10 : decode cX12_plan 10 = .ok (.lconst 0, 1) := by decide +kernel
theorem dX12_plan_11 : decode cX12_plan 11 = .ok (.ldc2_w 371, 3) := by decide +kernel
theorem dX12_plan_14 : decode cX12_plan 14 = .ok (.invokestatic 359, 3) := by decide +kernel
theorem dX12_plan_17 : decode cX12_plan 17 = .ok (.ifCond .eq 15, 3) := by decide +kernel
theorem dX12_plan_20 : decode cX12_plan 20 = .ok (.iload_n 3, 1) := by decide +kernel
theorem dX12_plan_21 : decode cX12_plan 21 = .ok (.i2l, 1) := by decide +kernel
theorem dX12_plan_22 : decode cX12_plan 22 = .ok (.lconst 1, 1) := by decide +kernel
theorem dX12_plan_23 : decode cX12_plan 23 = .ok (.ldc2_w 369, 3) := by decide +kernel
theorem dX12_plan_26 : decode cX12_plan 26 = .ok (.invokestatic 359, 3) := by decide +kernel
theorem dX12_plan_29 : decode cX12_plan 29 = .ok (.ifCond .ne 9, 3) := by decide +kernel
theorem dX12_plan_32 : decode cX12_plan 32 = .ok (.aload_n 0, 1) := by decide +kernel
theorem dX12_plan_33 : decode cX12_plan 33 = .ok (.iconst 1, 1) := by decide +kernel
theorem dX12_plan_34 : decode cX12_plan 34 = .ok (.invokevirtual 85, 3) := by decide +kernel
theorem dX12_plan_37 : decode cX12_plan 37 = .ok (.ireturn, 1) := by decide +kernel
theorem dX12_plan_38 : decode cX12_plan 38 = .ok (.aload_n 0, 1) := by decide +kernel
theorem dX12_plan_39 : decode cX12_plan 39 = .ok (.getfield 7, 3) := by decide +kernel
theorem dX12_plan_42 : decode cX12_plan 42 = .ok (.iconst 3, 1) := by decide +kernel
theorem dX12_plan_43 : decode cX12_plan 43 = .ok (.iaload, 1) := by decide +kernel
theorem dX12_plan_44 : decode cX12_plan 44 = .ok (.istore 4, 2) := by decide +kernel
theorem dX12_plan_46 : decode cX12_plan 46 = .ok (.iload 4, 2) := by decide +kernel
theorem dX12_plan_48 : decode cX12_plan 48 = .ok (.bipush 8, 2) := by decide +kernel
theorem dX12_plan_50 : decode cX12_plan 50 = .ok (.if_icmp .ne 9, 3) := by decide +kernel
theorem dX12_plan_53 : decode cX12_plan 53 = .ok (.aload_n 0, 1) := by decide +kernel
theorem dX12_plan_54 : decode cX12_plan 54 = .ok (.iconst 4, 1) := by decide +kernel
theorem dX12_plan_55 : decode cX12_plan 55 = .ok (.invokevirtual 85, 3) := by decide +kernel
theorem dX12_plan_58 : decode cX12_plan 58 = .ok (.ireturn, 1) := by decide +kernel
theorem dX12_plan_59 : decode cX12_plan 59 = .ok (.aload_n 0, 1) := by decide +kernel
theorem dX12_plan_60 : decode cX12_plan 60 = .ok (.getfield 7, 3) := by decide +kernel
theorem dX12_plan_63 : decode cX12_plan 63 = .ok (.iconst 3, 1) := by decide +kernel
theorem dX12_plan_64 : decode cX12_plan 64 = .ok (.dup2, 1) := by decide +kernel
theorem dX12_plan_65 : decode cX12_plan 65 = .ok (.iaload, 1) := by decide +kernel
theorem dX12_plan_66 : decode cX12_plan 66 = .ok (.iconst 1, 1) := by decide +kernel
theorem dX12_plan_67 : decode cX12_plan 67 = .ok (.iadd, 1) := by decide +kernel
theorem dX12_plan_68 : decode cX12_plan 68 = .ok (.iastore, 1) := by decide +kernel
theorem dX12_plan_69 : decode cX12_plan 69 = .ok (.aload_n 0, 1) := by decide +kernel
theorem dX12_plan_70 : decode cX12_plan 70 = .ok (.getfield 7, 3) := by decide +kernel
theorem dX12_plan_73 : decode cX12_plan 73 = .ok (.iload 4, 2) := by decide +kernel
theorem dX12_plan_75 : decode cX12_plan 75 = .ok (.invokestatic 214, 3) := by decide +kernel
theorem dX12_plan_78 : decode cX12_plan 78 = .ok (.iload_n 1, 1) := by decide +kernel
theorem dX12_plan_79 : decode cX12_plan 79 = .ok (.iastore, 1) := by decide +kernel
theorem dX12_plan_80 : decode cX12_plan 80 = .ok (.aload_n 0, 1) := by decide +kernel
theorem dX12_plan_81 : decode cX12_plan 81 = .ok (.getfield 7, 3) := by decide +kernel
theorem dX12_plan_84 : decode cX12_plan 84 = .ok (.iload 4, 2) := by decide +kernel
theorem dX12_plan_86 : decode cX12_plan 86 = .ok (.invokestatic 214, 3) := by decide +kernel
theorem dX12_plan_89 : decode cX12_plan 89 = .ok (.iconst 1, 1) := by decide +kernel
theorem dX12_plan_90 : decode cX12_plan 90 = .ok (.iadd, 1) := by decide +kernel
theorem dX12_plan_91 : decode cX12_plan 91 = .ok (.iload_n 2, 1) := by decide +kernel
theorem dX12_plan_92 : decode cX12_plan 92 = .ok (.iastore, 1) := by decide +kernel
theorem dX12_plan_93 : decode cX12_plan 93 = .ok (.aload_n 0, 1) := by decide +kernel
theorem dX12_plan_94 : decode cX12_plan 94 = .ok (.getfield 7, 3) := by decide +kernel
theorem dX12_plan_97 : decode cX12_plan 97 = .ok (.iload 4, 2) := by decide +kernel
theorem dX12_plan_99 : decode cX12_plan 99 = .ok (.invokestatic 214, 3) := by decide +kernel
theorem dX12_plan_102 : decode cX12_plan 102 = .ok (.iconst 2, 1) := by decide +kernel
theorem dX12_plan_103 : decode cX12_plan 103 = .ok (.iadd, 1) := by decide +kernel
theorem dX12_plan_104 : decode cX12_plan 104 = .ok (.iload_n 3, 1) := by decide +kernel
theorem dX12_plan_105 : decode cX12_plan 105 = .ok (.iastore, 1) := by decide +kernel
theorem dX12_plan_106 : decode cX12_plan 106 = .ok (.aload_n 0, 1) := by decide +kernel
theorem dX12_plan_107 : decode cX12_plan 107 = .ok (.getfield 7, 3) := by decide +kernel
theorem dX12_plan_110 : decode cX12_plan 110 = .ok (.iload 4, 2) := by decide +kernel
theorem dX12_plan_112 : decode cX12_plan 112 = .ok (.invokestatic 214, 3) := by decide +kernel
theorem dX12_plan_115 : decode cX12_plan 115 = .ok (.iconst 3, 1) := by decide +kernel
theorem dX12_plan_116 : decode cX12_plan 116 = .ok (.iadd, 1) := by decide +kernel
theorem dX12_plan_117 : decode cX12_plan 117 = .ok (.iconst 0, 1) := by decide +kernel
theorem dX12_plan_118 : decode cX12_plan 118 = .ok (.iastore, 1) := by decide +kernel
theorem dX12_plan_119 : decode cX12_plan 119 = .ok (.aload_n 0, 1) := by decide +kernel
theorem dX12_plan_120 : decode cX12_plan 120 = .ok (.getfield 13, 3) := by decide +kernel
theorem dX12_plan_123 : decode cX12_plan 123 = .ok (.bipush 15, 2) := by decide +kernel
theorem dX12_plan_125 : decode cX12_plan 125 = .ok (.iload 4, 2) := by decide +kernel
theorem dX12_plan_127 : decode cX12_plan 127 = .ok (.iadd, 1) := by decide +kernel
theorem dX12_plan_128 : decode cX12_plan 128 = .ok (.lconst 0, 1) := by decide +kernel
theorem dX12_plan_129 : decode cX12_plan 129 = .ok (.lastore, 1) := by decide +kernel
theorem dX12_plan_130 : decode cX12_plan 130 = .ok (.aload_n 0, 1) := by decide +kernel
theorem dX12_plan_131 : decode cX12_plan 131 = .ok (.iload 4, 2) := by decide +kernel
theorem dX12_plan_133 : decode cX12_plan 133 = .ok (.invokevirtual 89, 3) := by decide +kernel
theorem dX12_plan_136 : decode cX12_plan 136 = .ok (.ireturn, 1) := by decide +kernel
theorem dX12_bear_0 : decode cX12_bear 0 = .ok (.aload_n 0, 1) := by decide +kernel
theorem dX12_bear_1 : decode cX12_bear 1 = .ok (.iload_n 1, 1) := by decide +kernel
theorem dX12_bear_2 : decode cX12_bear 2 = .ok (.invokevirtual 311, 3) := by decide +kernel
theorem dX12_bear_5 : decode cX12_bear 5 = .ok (.ifCond .ne 9, 3) := by decide +kernel
theorem dX12_bear_8 : decode cX12_bear 8 = .ok (.aload_n 0, 1) := by decide +kernel
theorem dX12_bear_9 : decode cX12_bear 9 = .ok (.iconst 1, 1) := by decide +kernel
theorem dX12_bear_10 : decode cX12_bear 10 = .ok (.invokevirtual 85, 3) := by decide +kernel
theorem dX12_bear_13 : decode cX12_bear 13 = .ok (.ireturn, 1) := by decide +kernel
theorem dX12_bear_14 : decode cX12_bear 14 = .ok (.aload_n 0, 1) := by decide +kernel
theorem dX12_bear_15 : decode cX12_bear 15 = .ok (.getfield 7, 3) := by decide +kernel
theorem dX12_bear_18 : decode cX12_bear 18 = .ok (.iconst 2, 1) := by decide +kernel
theorem dX12_bear_19 : decode cX12_bear 19 = .ok (.iaload, 1) := by decide +kernel
theorem dX12_bear_20 : decode cX12_bear 20 = .ok (.istore_n 2, 1) := by decide +kernel
theorem dX12_bear_21 : decode cX12_bear 21 = .ok (.iload_n 2, 1) := by decide +kernel
theorem dX12_bear_22 : decode cX12_bear 22 = .ok (.bipush 7, 2) := by decide +kernel
theorem dX12_bear_24 : decode cX12_bear 24 = .ok (.if_icmp .ne 9, 3) := by decide +kernel
theorem dX12_bear_27 : decode cX12_bear 27 = .ok (.aload_n 0, 1) := by decide +kernel
theorem dX12_bear_28 : decode cX12_bear 28 = .ok (.iconst 4, 1) := by decide +kernel
theorem dX12_bear_29 : decode cX12_bear 29 = .ok (.invokevirtual 85, 3) := by decide +kernel
theorem dX12_bear_32 : decode cX12_bear 32 = .ok (.ireturn, 1) := by decide +kernel
theorem dX12_bear_33 : decode cX12_bear 33 = .ok (.aload_n 0, 1) := by decide +kernel
theorem dX12_bear_34 : decode cX12_bear 34 = .ok (.getfield 7, 3) := by decide +kernel
theorem dX12_bear_37 : decode cX12_bear 37 = .ok (.iconst 2, 1) := by decide +kernel
theorem dX12_bear_38 : decode cX12_bear 38 = .ok (.dup2, 1) := by decide +kernel
theorem dX12_bear_39 : decode cX12_bear 39 = .ok (.iaload, 1) := by decide +kernel
theorem dX12_bear_40 : decode cX12_bear 40 = .ok (.iconst 1, 1) := by decide +kernel
theorem dX12_bear_41 : decode cX12_bear 41 = .ok (.iadd, 1) := by decide +kernel
theorem dX12_bear_42 : decode cX12_bear 42 = .ok (.iastore, 1) := by decide +kernel
theorem dX12_bear_43 : decode cX12_bear 43 = .ok (.iconst 0, 1) := by decide +kernel
theorem dX12_bear_44 : decode cX12_bear 44 = .ok (.istore_n 3, 1) := by decide +kernel
theorem dX12_bear_45 : decode cX12_bear 45 = .ok (.iload_n 3, 1) := by decide +kernel
theorem dX12_bear_46 : decode cX12_bear 46 = .ok (.iconst 5, 1) := by decide +kernel
theorem dX12_bear_47 : decode cX12_bear 47 = .ok (.if_icmp .ge 29, 3) := by decide +kernel
theorem dX12_bear_50 : decode cX12_bear 50 = .ok (.aload_n 0, 1) := by decide +kernel
theorem dX12_bear_51 : decode cX12_bear 51 = .ok (.getfield 7, 3) := by decide +kernel
theorem dX12_bear_54 : decode cX12_bear 54 = .ok (.iload_n 2, 1) := by decide +kernel
theorem dX12_bear_55 : decode cX12_bear 55 = .ok (.invokestatic 211, 3) := by decide +kernel
theorem dX12_bear_58 : decode cX12_bear 58 = .ok (.iload_n 3, 1) := by decide +kernel
theorem dX12_bear_59 : decode cX12_bear 59 = .ok (.iadd, 1) := by decide +kernel
theorem dX12_bear_60 : decode cX12_bear 60 = .ok (.iload_n 3, 1) := by decide +kernel
theorem dX12_bear_61 : decode cX12_bear 61 = .ok (.ifCond .ne 7, 3) := by decide +kernel
theorem dX12_bear_64 : decode cX12_bear 64 = .ok (.iload_n 1, 1) := by decide +kernel
theorem dX12_bear_65 : decode cX12_bear 65 = .ok (.goto 4, 3) := by decide +kernel
theorem dX12_bear_68 : decode cX12_bear 68 = .ok (.iconst 0, 1) := by decide +kernel
theorem dX12_bear_69 : decode cX12_bear 69 = .ok (.iastore, 1) := by decide +kernel
theorem dX12_bear_70 : decode cX12_bear 70 = .ok (.iinc 3 1, 3) := by decide +kernel
theorem dX12_bear_73 : decode cX12_bear 73 = .ok (.goto (-28), 3) := by decide +kernel
theorem dX12_bear_76 : decode cX12_bear 76 = .ok (.aload_n 0, 1) := by decide +kernel
theorem dX12_bear_77 : decode cX12_bear 77 = .ok (.getfield 13, 3) := by decide +kernel
theorem dX12_bear_80 : decode cX12_bear 80 = .ok (.bipush 8, 2) := by decide +kernel
theorem dX12_bear_82 : decode cX12_bear 82 = .ok (.iload_n 2, 1) := by decide +kernel
theorem dX12_bear_83 : decode cX12_bear 83 = .ok (.iadd, 1) := by decide +kernel
theorem dX12_bear_84 : decode cX12_bear 84 = .ok (.lconst 0, 1) := by decide +kernel
theorem dX12_bear_85 : decode cX12_bear 85 = .ok (.lastore, 1) := by decide +kernel
theorem dX12_bear_86 : decode cX12_bear 86 = .ok (.aload_n 0, 1) := by decide +kernel
theorem dX12_bear_87 : decode cX12_bear 87 = .ok (.iload_n 2, 1) := by decide +kernel
theorem dX12_bear_88 : decode cX12_bear 88 = .ok (.invokevirtual 89, 3) := by decide +kernel
theorem dX12_bear_91 : decode cX12_bear 91 = .ok (.ireturn, 1) := by decide +kernel
theorem dX12_post_0 : decode cX12_post 0 = .ok (.aload_n 0, 1) := by decide +kernel
theorem dX12_post_1 : decode cX12_post 1 = .ok (.iload_n 1, 1) := by decide +kernel
theorem dX12_post_2 : decode cX12_post 2 = .ok (.invokevirtual 305, 3) := by decide +kernel
theorem dX12_post_5 : decode cX12_post 5 = .ok (.ifCond .eq 11, 3) := by decide +kernel
theorem dX12_post_8 : decode cX12_post 8 = .ok (.aload_n 0, 1) := by decide +kernel
theorem dX12_post_9 : decode cX12_post 9 = .ok (.iload_n 2, 1) := by decide +kernel
theorem dX12_post_10 : decode cX12_post 10 = .ok (.invokevirtual 311, 3) := by decide +kernel
theorem dX12_post_13 : decode cX12_post 13 = .ok (.ifCond .ne 9, 3) := by decide +kernel
theorem dX12_post_16 : decode cX12_post 16 = .ok (.aload_n 0, 1) := by decide +kernel
theorem dX12_post_17 : decode cX12_post 17 = .ok (.iconst 1, 1) := by decide +kernel
theorem dX12_post_18 : decode cX12_post 18 = .ok (.invokevirtual 92, 3) := by decide +kernel
theorem dX12_post_21 : decode cX12_post 21 = .ok (.ireturn, 1) := by decide +kernel
theorem dX12_post_22 : decode cX12_post 22 = .ok (.aload_n 0, 1) := by decide +kernel
theorem dX12_post_23 : decode cX12_post 23 = .ok (.iload_n 1, 1) := by decide +kernel
theorem dX12_post_24 : decode cX12_post 24 = .ok (.iconst 0, 1) := by decide +kernel
theorem dX12_post_25 : decode cX12_post 25 = .ok (.invokevirtual 308, 3) := by decide +kernel
theorem dX12_post_28 : decode cX12_post 28 = .ok (.iload_n 2, 1) := by decide +kernel
theorem dX12_post_29 : decode cX12_post 29 = .ok (.if_icmp .ne 10, 3) := by decide +kernel
theorem dX12_post_32 : decode cX12_post 32 = .ok (.aload_n 0, 1) := by decide +kernel
theorem dX12_post_33 : decode cX12_post 33 = .ok (.bipush 7, 2) := by decide +kernel
theorem dX12_post_35 : decode cX12_post 35 = .ok (.invokevirtual 92, 3) := by decide +kernel
theorem dX12_post_38 : decode cX12_post 38 = .ok (.ireturn, 1) := by decide +kernel
theorem dX12_post_39 : decode cX12_post 39 = .ok (.aload_n 0, 1) := by decide +kernel
theorem dX12_post_40 : decode cX12_post 40 = .ok (.getfield 7, 3) := by decide +kernel
theorem dX12_post_43 : decode cX12_post 43 = .ok (.iload_n 1, 1) := by decide +kernel
theorem dX12_post_44 : decode cX12_post 44 = .ok (.invokestatic 217, 3) := by decide +kernel
theorem dX12_post_47 : decode cX12_post 47 = .ok (.iload_n 2, 1) := by decide +kernel
theorem dX12_post_48 : decode cX12_post 48 = .ok (.iastore, 1) := by decide +kernel
theorem dX12_post_49 : decode cX12_post 49 = .ok (.aload_n 0, 1) := by decide +kernel
theorem dX12_post_50 : decode cX12_post 50 = .ok (.iconst 0, 1) := by decide +kernel
theorem dX12_post_51 : decode cX12_post 51 = .ok (.invokevirtual 92, 3) := by decide +kernel
theorem dX12_post_54 : decode cX12_post 54 = .ok (.ireturn, 1) := by decide +kernel
theorem dX12_scare_0 : decode cX12_scare 0 = .ok (.aload_n 0, 1) := by decide +kernel
theorem dX12_scare_1 : decode cX12_scare 1 = .ok (.iload_n 1, 1) := by decide +kernel
theorem dX12_scare_2 : decode cX12_scare 2 = .ok (.invokevirtual 305, 3) := by decide +kernel
theorem dX12_scare_5 : decode cX12_scare 5 = .ok (.ifCond .eq 15, 3) := by decide +kernel
theorem dX12_scare_8 : decode cX12_scare 8 = .ok (.iload_n 2, 1) := by decide +kernel
theorem dX12_scare_9 : decode cX12_scare 9 = .ok (.i2l, 1) := by decide +kernel
theorem dX12_scare_10 : decode cX12_scare 10 = .ok (.lconst 1, 1) := by decide +kernel
theorem dX12_scare_11 : decode cX12_scare 11 = .ok (.ldc2_w 373, 3) := by decide +kernel
theorem dX12_scare_14 : decode cX12_scare 14 = .ok (.invokestatic 359, 3) := by decide +kernel
theorem dX12_scare_17 : decode cX12_scare 17 = .ok (.ifCond .ne 9, 3) := by decide +kernel
theorem dX12_scare_20 : decode cX12_scare 20 = .ok (.aload_n 0, 1) := by decide +kernel
theorem dX12_scare_21 : decode cX12_scare 21 = .ok (.iconst 1, 1) := by decide +kernel
theorem dX12_scare_22 : decode cX12_scare 22 = .ok (.invokevirtual 92, 3) := by decide +kernel
theorem dX12_scare_25 : decode cX12_scare 25 = .ok (.ireturn, 1) := by decide +kernel
theorem dX12_scare_26 : decode cX12_scare 26 = .ok (.aload_n 0, 1) := by decide +kernel
theorem dX12_scare_27 : decode cX12_scare 27 = .ok (.getfield 7, 3) := by decide +kernel
theorem dX12_scare_30 : decode cX12_scare 30 = .ok (.iload_n 1, 1) := by decide +kernel
theorem dX12_scare_31 : decode cX12_scare 31 = .ok (.invokestatic 217, 3) := by decide +kernel
theorem dX12_scare_34 : decode cX12_scare 34 = .ok (.iconst 1, 1) := by decide +kernel
theorem dX12_scare_35 : decode cX12_scare 35 = .ok (.iadd, 1) := by decide +kernel
theorem dX12_scare_36 : decode cX12_scare 36 = .ok (.iload_n 2, 1) := by decide +kernel
theorem dX12_scare_37 : decode cX12_scare 37 = .ok (.iastore, 1) := by decide +kernel
theorem dX12_scare_38 : decode cX12_scare 38 = .ok (.aload_n 0, 1) := by decide +kernel
theorem dX12_scare_39 : decode cX12_scare 39 = .ok (.iconst 0, 1) := by decide +kernel
theorem dX12_scare_40 : decode cX12_scare 40 = .ok (.invokevirtual 92, 3) := by decide +kernel
theorem dX12_scare_43 : decode cX12_scare 43 = .ok (.ireturn, 1) := by decide +kernel
theorem dX12_rule_0 : decode cX12_rule 0 = .ok (.iload_n 1, 1) := by decide +kernel
theorem dX12_rule_1 : decode cX12_rule 1 = .ok (.iconst 5, 1) := by decide +kernel
theorem dX12_rule_2 : decode cX12_rule 2 = .ok (.if_icmp .lt 54, 3) := by decide +kernel
theorem dX12_rule_5 : decode cX12_rule 5 = .ok (.iload_n 1, 1) := by decide +kernel
theorem dX12_rule_6 : decode cX12_rule 6 = .ok (.bipush 7, 2) := by decide +kernel
theorem dX12_rule_8 : decode cX12_rule 8 = .ok (.if_icmp .gt 48, 3) := by decide +kernel
theorem dX12_rule_11 : decode cX12_rule 11 = .ok (.iload_n 2, 1) := by decide +kernel
theorem dX12_rule_12 : decode cX12_rule 12 = .ok (.i2l, 1) := by decide +kernel
theorem dX12_rule_13 : decode cX12_rule 13 = .ok (.iload_n 1, 1) := by decide +kernel
theorem dX12_rule_14 : decode cX12_rule 14 = .ok (.bipush 6, 2) := by decide +kernel
theorem dX12_rule_16 : decode cX12_rule 16 = .ok (.if_icmp .ne 7, 3) := by decide +kernel
theorem dX12_rule_19 : decode cX12_rule 19 = .ok (.lconst 1, 1) := by decide +kernel
theorem dX12_rule_20 : decode cX12_rule 20 = .ok (.goto 4, 3) := by decide +kernel
theorem dX12_rule_23 : decode cX12_rule 23 = .ok (.lconst 0, 1) := by decide +kernel
theorem dX12_rule_24 : decode cX12_rule 24 = .ok (.iload_n 1, 1) := by decide +kernel
theorem dX12_rule_25 : decode cX12_rule 25 = .ok (.iconst 5, 1) := by decide +kernel
theorem dX12_rule_26 : decode cX12_rule 26 = .ok (.if_icmp .ne 9, 3) := by decide +kernel
theorem dX12_rule_29 : decode cX12_rule 29 = .ok (.ldc2_w 357, 3) := by decide +kernel
theorem dX12_rule_32 : decode cX12_rule 32 = .ok (.goto 18, 3) := by decide +kernel
theorem dX12_rule_35 : decode cX12_rule 35 = .ok (.iload_n 1, 1) := by decide +kernel
theorem dX12_rule_36 : decode cX12_rule 36 = .ok (.bipush 6, 2) := by decide +kernel
theorem dX12_rule_38 : decode cX12_rule 38 = .ok (.if_icmp .ne 9, 3) := by decide +kernel
theorem dX12_rule_41 : decode cX12_rule 41 = .ok (.ldc2_w 375, 3) := by decide +kernel
theorem dX12_rule_44 : decode cX12_rule 44 = .ok (.goto 6, 3) := by decide +kernel
theorem dX12_rule_47 : decode cX12_rule 47 = .ok (.ldc2_w 377, 3) := by decide +kernel
theorem dX12_rule_50 : decode cX12_rule 50 = .ok (.invokestatic 359, 3) := by decide +kernel
theorem dX12_rule_53 : decode cX12_rule 53 = .ok (.ifCond .ne 9, 3) := by decide +kernel
theorem dX12_rule_56 : decode cX12_rule 56 = .ok (.aload_n 0, 1) := by decide +kernel
theorem dX12_rule_57 : decode cX12_rule 57 = .ok (.iconst 1, 1) := by decide +kernel
theorem dX12_rule_58 : decode cX12_rule 58 = .ok (.invokevirtual 92, 3) := by decide +kernel
theorem dX12_rule_61 : decode cX12_rule 61 = .ok (.ireturn, 1) := by decide +kernel
theorem dX12_rule_62 : decode cX12_rule 62 = .ok (.aload_n 0, 1) := by decide +kernel
theorem dX12_rule_63 : decode cX12_rule 63 = .ok (.getfield 7, 3) := by decide +kernel
theorem dX12_rule_66 : decode cX12_rule 66 = .ok (.iload_n 1, 1) := by decide +kernel
theorem dX12_rule_67 : decode cX12_rule 67 = .ok (.iload_n 2, 1) := by decide +kernel
theorem dX12_rule_68 : decode cX12_rule 68 = .ok (.iastore, 1) := by decide +kernel
theorem dX12_rule_69 : decode cX12_rule 69 = .ok (.aload_n 0, 1) := by decide +kernel
theorem dX12_rule_70 : decode cX12_rule 70 = .ok (.iconst 0, 1) := by decide +kernel
theorem dX12_rule_71 : decode cX12_rule 71 = .ok (.invokevirtual 92, 3) := by decide +kernel
theorem dX12_rule_74 : decode cX12_rule 74 = .ok (.ireturn, 1) := by decide +kernel
theorem dX12_keeps_0 : decode cX12_keeps 0 = .ok (.iconst 0, 1) := by decide +kernel
theorem dX12_keeps_1 : decode cX12_keeps 1 = .ok (.istore_n 2, 1) := by decide +kernel
theorem dX12_keeps_2 : decode cX12_keeps 2 = .ok (.iload_n 2, 1) := by decide +kernel
theorem dX12_keeps_3 : decode cX12_keeps 3 = .ok (.bipush 127, 2) := by decide +kernel
theorem dX12_keeps_5 : decode cX12_keeps 5 = .ok (.if_icmp .ge 23, 3) := by decide +kernel
theorem dX12_keeps_8 : decode cX12_keeps 8 = .ok (.aload_n 0, 1) := by decide +kernel
theorem dX12_keeps_9 : decode cX12_keeps 9 = .ok (.getfield 7, 3) := by decide +kernel
theorem dX12_keeps_12 : decode cX12_keeps 12 = .ok (.iload_n 1, 1) := by decide +kernel
theorem dX12_keeps_13 : decode cX12_keeps 13 = .ok (.iload_n 2, 1) := by decide +kernel
theorem dX12_keeps_14 : decode cX12_keeps 14 = .ok (.iadd, 1) := by decide +kernel
theorem dX12_keeps_15 : decode cX12_keeps 15 = .ok (.aload_n 0, 1) := by decide +kernel
theorem dX12_keeps_16 : decode cX12_keeps 16 = .ok (.getfield 7, 3) := by decide +kernel
theorem dX12_keeps_19 : decode cX12_keeps 19 = .ok (.iload_n 2, 1) := by decide +kernel
theorem dX12_keeps_20 : decode cX12_keeps 20 = .ok (.iaload, 1) := by decide +kernel
theorem dX12_keeps_21 : decode cX12_keeps 21 = .ok (.iastore, 1) := by decide +kernel
theorem dX12_keeps_22 : decode cX12_keeps 22 = .ok (.iinc 2 1, 3) := by decide +kernel
theorem dX12_keeps_25 : decode cX12_keeps 25 = .ok (.goto (-23), 3) := by decide +kernel
theorem dX12_keeps_28 : decode cX12_keeps 28 = .ok (.return_, 1) := by decide +kernel
theorem dX12_restores_0 : decode cX12_restores 0 = .ok (.iconst 0, 1) := by decide +kernel
theorem dX12_restores_1 : decode cX12_restores 1 = .ok (.istore_n 2, 1) := by decide +kernel
theorem dX12_restores_2 : decode cX12_restores 2 = .ok (.iload_n 2, 1) := by decide +kernel
theorem dX12_restores_3 : decode cX12_restores 3 = .ok (.bipush 127, 2) := by decide +kernel
theorem dX12_restores_5 : decode cX12_restores 5 = .ok (.if_icmp .ge 23, 3) := by decide +kernel
theorem dX12_restores_8 : decode cX12_restores 8 = .ok (.aload_n 0, 1) := by decide +kernel
theorem dX12_restores_9 : decode cX12_restores 9 = .ok (.getfield 7, 3) := by decide +kernel
theorem dX12_restores_12 : decode cX12_restores 12 = .ok (.iload_n 2, 1) := by decide +kernel
theorem dX12_restores_13 : decode cX12_restores 13 = .ok (.aload_n 0, 1) := by decide +kernel
theorem dX12_restores_14 : decode cX12_restores 14 = .ok (.getfield 7, 3) := by decide +kernel
theorem dX12_restores_17 : decode cX12_restores 17 = .ok (.iload_n 1, 1) := by decide +kernel
theorem dX12_restores_18 : decode cX12_restores 18 = .ok (.iload_n 2, 1) := by decide +kernel
theorem dX12_restores_19 : decode cX12_restores 19 = .ok (.iadd, 1) := by decide +kernel
theorem dX12_restores_20 : decode cX12_restores 20 = .ok (.iaload, 1) := by decide +kernel
theorem dX12_restores_21 : decode cX12_restores 21 = .ok (.iastore, 1) := by decide +kernel
theorem dX12_restores_22 : decode cX12_restores 22 = .ok (.iinc 2 1, 3) := by decide +kernel
theorem dX12_restores_25 : decode cX12_restores 25 = .ok (.goto (-23), 3) := by decide +kernel
theorem dX12_restores_28 : decode cX12_restores 28 = .ok (.return_, 1) := by decide +kernel
theorem dX12_isSpan_0 : decode cX12_isSpan 0 = .ok (.iload_n 0, 1) := by decide +kernel
theorem dX12_isSpan_1 : decode cX12_isSpan 1 = .ok (.i2l, 1) := by decide +kernel
theorem dX12_isSpan_2 : decode cX12_isSpan 2 = .ok (.lconst 0, 1) := by decide +kernel
theorem dX12_isSpan_3 : decode cX12_isSpan 3 = .ok (.ldc2_w 379, 3) := by decide +kernel
theorem dX12_isSpan_6 : decode cX12_isSpan 6 = .ok (.invokestatic 359, 3) := by decide +kernel
theorem dX12_isSpan_9 : decode cX12_isSpan 9 = .ok (.ireturn, 1) := by decide +kernel
theorem dX12_isIn0_0 : decode cX12_isIn0 0 = .ok (.aload_n 0, 1) := by decide +kernel
theorem dX12_isIn0_1 : decode cX12_isIn0 1 = .ok (.sipush 2970, 3) := by decide +kernel
theorem dX12_isIn0_4 : decode cX12_isIn0 4 = .ok (.invokevirtual 381, 3) := by decide +kernel
theorem dX12_isIn0_7 : decode cX12_isIn0 7 = .ok (.aload_n 0, 1) := by decide +kernel
theorem dX12_isIn0_8 : decode cX12_isIn0 8 = .ok (.iload_n 2, 1) := by decide +kernel
theorem dX12_isIn0_9 : decode cX12_isIn0 9 = .ok (.invokevirtual 363, 3) := by decide +kernel
theorem dX12_isIn0_12 : decode cX12_isIn0 12 = .ok (.pop, 1) := by decide +kernel
theorem dX12_isIn0_13 : decode cX12_isIn0 13 = .ok (.aload_n 0, 1) := by decide +kernel
theorem dX12_isIn0_14 : decode cX12_isIn0 14 = .ok (.getfield 7, 3) := by decide +kernel
theorem dX12_isIn0_17 : decode cX12_isIn0 17 = .ok (.iload_n 1, 1) := by decide +kernel
theorem dX12_isIn0_18 : decode cX12_isIn0 18 = .ok (.iaload, 1) := by decide +kernel
theorem dX12_isIn0_19 : decode cX12_isIn0 19 = .ok (.istore_n 3, 1) := by decide +kernel
theorem dX12_isIn0_20 : decode cX12_isIn0 20 = .ok (.aload_n 0, 1) := by decide +kernel
theorem dX12_isIn0_21 : decode cX12_isIn0 21 = .ok (.sipush 2970, 3) := by decide +kernel
theorem dX12_isIn0_24 : decode cX12_isIn0 24 = .ok (.invokevirtual 384, 3) := by decide +kernel
theorem dX12_isIn0_27 : decode cX12_isIn0 27 = .ok (.iload_n 3, 1) := by decide +kernel
theorem dX12_isIn0_28 : decode cX12_isIn0 28 = .ok (.ireturn, 1) := by decide +kernel
theorem dX12_goal_0 : decode cX12_goal 0 = .ok (.aload_n 0, 1) := by decide +kernel
theorem dX12_goal_1 : decode cX12_goal 1 = .ok (.iload_n 1, 1) := by decide +kernel
theorem dX12_goal_2 : decode cX12_goal 2 = .ok (.invokevirtual 293, 3) := by decide +kernel
theorem dX12_goal_5 : decode cX12_goal 5 = .ok (.ifCond .eq 15, 3) := by decide +kernel
theorem dX12_goal_8 : decode cX12_goal 8 = .ok (.aload_n 0, 1) := by decide +kernel
theorem dX12_goal_9 : decode cX12_goal 9 = .ok (.aload_n 0, 1) := by decide +kernel
theorem dX12_goal_10 : decode cX12_goal 10 = .ok (.iload_n 1, 1) := by decide +kernel
theorem dX12_goal_11 : decode cX12_goal 11 = .ok (.invokevirtual 339, 3) := by decide +kernel
theorem dX12_goal_14 : decode cX12_goal 14 = .ok (.invokevirtual 324, 3) := by decide +kernel
theorem dX12_goal_17 : decode cX12_goal 17 = .ok (.goto 8, 3) := by decide +kernel
theorem dX12_goal_20 : decode cX12_goal 20 = .ok (.aload_n 0, 1) := by decide +kernel
theorem dX12_goal_21 : decode cX12_goal 21 = .ok (.iconst 1, 1) := by decide +kernel
theorem dX12_goal_22 : decode cX12_goal 22 = .ok (.invokevirtual 85, 3) := by decide +kernel
theorem dX12_goal_25 : decode cX12_goal 25 = .ok (.ireturn, 1) := by decide +kernel
theorem dX12_whereIn_0 : decode cX12_whereIn 0 = .ok (.aload_n 0, 1) := by decide +kernel
theorem dX12_whereIn_1 : decode cX12_whereIn 1 = .ok (.iload_n 1, 1) := by decide +kernel
theorem dX12_whereIn_2 : decode cX12_whereIn 2 = .ok (.invokevirtual 293, 3) := by decide +kernel
theorem dX12_whereIn_5 : decode cX12_whereIn 5 = .ok (.ifCond .eq 26, 3) := by decide +kernel
theorem dX12_whereIn_8 : decode cX12_whereIn 8 = .ok (.iload_n 2, 1) := by decide +kernel
theorem dX12_whereIn_9 : decode cX12_whereIn 9 = .ok (.invokestatic 387, 3) := by decide +kernel
theorem dX12_whereIn_12 : decode cX12_whereIn 12 = .ok (.ifCond .eq 19, 3) := by decide +kernel
theorem dX12_whereIn_15 : decode cX12_whereIn 15 = .ok (.aload_n 0, 1) := by decide +kernel
theorem dX12_whereIn_16 : decode cX12_whereIn 16 = .ok (.aload_n 0, 1) := by decide +kernel
theorem dX12_whereIn_17 : decode cX12_whereIn 17 = .ok (.iload_n 1, 1) := by decide +kernel
theorem dX12_whereIn_18 : decode cX12_whereIn 18 = .ok (.invokestatic 211, 3) := by decide +kernel
theorem dX12_whereIn_21 : decode cX12_whereIn 21 = .ok (.iload_n 2, 1) := by decide +kernel
theorem dX12_whereIn_22 : decode cX12_whereIn 22 = .ok (.invokevirtual 390, 3) := by decide +kernel
theorem dX12_whereIn_25 : decode cX12_whereIn 25 = .ok (.invokevirtual 89, 3) := by decide +kernel
theorem dX12_whereIn_28 : decode cX12_whereIn 28 = .ok (.goto 8, 3) := by decide +kernel
theorem dX12_whereIn_31 : decode cX12_whereIn 31 = .ok (.aload_n 0, 1) := by decide +kernel
theorem dX12_whereIn_32 : decode cX12_whereIn 32 = .ok (.iconst 1, 1) := by decide +kernel
theorem dX12_whereIn_33 : decode cX12_whereIn 33 = .ok (.invokevirtual 85, 3) := by decide +kernel
theorem dX12_whereIn_36 : decode cX12_whereIn 36 = .ok (.ireturn, 1) := by decide +kernel
theorem dX12_standingIn_0 : decode cX12_standingIn 0 = .ok (.aload_n 0, 1) := by decide +kernel
theorem dX12_standingIn_1 : decode cX12_standingIn 1 = .ok (.iload_n 1, 1) := by decide +kernel
theorem dX12_standingIn_2 : decode cX12_standingIn 2 = .ok (.invokevirtual 311, 3) := by decide +kernel
theorem dX12_standingIn_5 : decode cX12_standingIn 5 = .ok (.ifCond .eq 10, 3) := by decide +kernel
theorem dX12_standingIn_8 : decode cX12_standingIn 8 = .ok (.iload_n 2, 1) := by decide +kernel
theorem dX12_standingIn_9 : decode cX12_standingIn 9 = .ok (.invokestatic 387, 3) := by decide +kernel
theorem dX12_standingIn_12 : decode cX12_standingIn 12 = .ok (.ifCond .ne 9, 3) := by decide +kernel
theorem dX12_standingIn_15 : decode cX12_standingIn 15 = .ok (.aload_n 0, 1) := by decide +kernel
theorem dX12_standingIn_16 : decode cX12_standingIn 16 = .ok (.iconst 1, 1) := by decide +kernel
theorem dX12_standingIn_17 : decode cX12_standingIn 17 = .ok (.invokevirtual 85, 3) := by decide +kernel
theorem dX12_standingIn_20 : decode cX12_standingIn 20 = .ok (.ireturn, 1) := by decide +kernel
theorem dX12_standingIn_21 : decode cX12_standingIn 21 = .ok (.aload_n 0, 1) := by decide +kernel
theorem dX12_standingIn_22 : decode cX12_standingIn 22 = .ok (.sipush 2970, 3) := by decide +kernel
theorem dX12_standingIn_25 : decode cX12_standingIn 25 = .ok (.invokevirtual 381, 3) := by decide +kernel
theorem dX12_standingIn_28 : decode cX12_standingIn 28 = .ok (.aload_n 0, 1) := by decide +kernel
theorem dX12_standingIn_29 : decode cX12_standingIn 29 = .ok (.iload_n 2, 1) := by decide +kernel
theorem dX12_standingIn_30 : decode cX12_standingIn 30 = .ok (.invokevirtual 363, 3) := by decide +kernel
theorem dX12_standingIn_33 : decode cX12_standingIn 33 = .ok (.pop, 1) := by decide +kernel
theorem dX12_standingIn_34 : decode cX12_standingIn 34 = .ok (.aload_n 0, 1) := by decide +kernel
theorem dX12_standingIn_35 : decode cX12_standingIn 35 = .ok (.iload_n 1, 1) := by decide +kernel
theorem dX12_standingIn_36 : decode cX12_standingIn 36 = .ok (.invokevirtual 299, 3) := by decide +kernel
theorem dX12_standingIn_39 : decode cX12_standingIn 39 = .ok (.istore_n 3, 1) := by decide +kernel
theorem dX12_standingIn_40 : decode cX12_standingIn 40 = .ok (.aload_n 0, 1) := by decide +kernel
theorem dX12_standingIn_41 : decode cX12_standingIn 41 = .ok (.sipush 2970, 3) := by decide +kernel
theorem dX12_standingIn_44 : decode cX12_standingIn 44 = .ok (.invokevirtual 384, 3) := by decide +kernel
theorem dX12_standingIn_47 : decode cX12_standingIn 47 = .ok (.aload_n 0, 1) := by decide +kernel
theorem dX12_standingIn_48 : decode cX12_standingIn 48 = .ok (.iload_n 3, 1) := by decide +kernel
theorem dX12_standingIn_49 : decode cX12_standingIn 49 = .ok (.invokevirtual 89, 3) := by decide +kernel
theorem dX12_standingIn_52 : decode cX12_standingIn 52 = .ok (.ireturn, 1) := by decide +kernel
theorem dX12_overOf_0 : decode cX12_overOf 0 = .ok (.aload_n 0, 1) := by decide +kernel
theorem dX12_overOf_1 : decode cX12_overOf 1 = .ok (.sipush 2970, 3) := by decide +kernel
theorem dX12_overOf_4 : decode cX12_overOf 4 = .ok (.invokevirtual 381, 3) := by decide +kernel
theorem dX12_overOf_7 : decode cX12_overOf 7 = .ok (.aload_n 0, 1) := by decide +kernel
theorem dX12_overOf_8 : decode cX12_overOf 8 = .ok (.invokevirtual 318, 3) := by decide +kernel
theorem dX12_overOf_11 : decode cX12_overOf 11 = .ok (.aload_n 0, 1) := by decide +kernel
theorem dX12_overOf_12 : decode cX12_overOf 12 = .ok (.iload_n 1, 1) := by decide +kernel
theorem dX12_overOf_13 : decode cX12_overOf 13 = .ok (.invokevirtual 333, 3) := by decide +kernel
theorem dX12_overOf_16 : decode cX12_overOf 16 = .ok (.ifCond .eq 7, 3) := by decide +kernel
theorem dX12_overOf_19 : decode cX12_overOf 19 = .ok (.iconst (-1), 1) := by decide +kernel
theorem dX12_overOf_20 : decode cX12_overOf 20 = .ok (.goto 4, 3) := by decide +kernel
theorem dX12_overOf_23 : decode cX12_overOf 23 = .ok (.iconst 0, 1) := by decide +kernel
theorem dX12_overOf_24 : decode cX12_overOf 24 = .ok (.istore_n 2, 1) := by decide +kernel
