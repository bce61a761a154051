theorem dX11_tray_20 : decode cX11_tray 20 = .ok (.iload_n 3, 1) := by decide +kernel
theorem dX11_tray_21 : decode cX11_tray 21 = .ok (.iconst 0, 1) := by decide +kernel
theorem dX11_tray_22 : decode cX11_tray 22 = .ok (.bipush 60, 2) := by decide +kernel
theorem dX11_tray_24 : decode cX11_tray 24 = .ok (.invokestatic 96, 3) := by decide +kernel
theorem dX11_tray_27 : decode cX11_tray 27 = .ok (.ifCond .ne 9, 3) := by decide +kernel
theorem dX11_tray_30 : decode cX11_tray 30 = .ok (.aload_n 0, 1) := by decide +kernel
theorem dX11_tray_31 : decode cX11_tray 31 = .ok (.iconst 1, 1) := by decide +kernel
theorem dX11_tray_32 : decode cX11_tray 32 = .ok (.invokevirtual 100, 3) := by decide +kernel
theorem dX11_tray_35 : decode cX11_tray 35 = .ok (.ireturn, 1) := by decide +kernel
theorem dX11_tray_36 : decode cX11_tray 36 = .ok (.aload_n 0, 1) := by decide +kernel
theorem dX11_tray_37 : decode cX11_tray 37 = .ok (.getfield 49, 3) := by decide +kernel
theorem dX11_tray_40 : decode cX11_tray 40 = .ok (.iload_n 1, 1) := by decide +kernel
theorem dX11_tray_41 : decode cX11_tray 41 = .ok (.iload_n 2, 1) := by decide +kernel
theorem dX11_tray_42 : decode cX11_tray 42 = .ok (.iload_n 3, 1) := by decide +kernel
theorem dX11_tray_43 : decode cX11_tray 43 = .ok (.invokevirtual 103, 3) := by decide +kernel
theorem dX11_tray_46 : decode cX11_tray 46 = .ok (.aload_n 0, 1) := by decide +kernel
theorem dX11_tray_47 : decode cX11_tray 47 = .ok (.invokevirtual 107, 3) := by decide +kernel
theorem dX11_tray_50 : decode cX11_tray 50 = .ok (.ireturn, 1) := by decide +kernel
theorem dX11_write_0 : decode cX11_write 0 = .ok (.aload_n 0, 1) := by decide +kernel
theorem dX11_write_1 : decode cX11_write 1 = .ok (.iload_n 1, 1) := by decide +kernel
theorem dX11_write_2 : decode cX11_write 2 = .ok (.iload_n 2, 1) := by decide +kernel
theorem dX11_write_3 : decode cX11_write 3 = .ok (.invokevirtual 111, 3) := by decide +kernel
theorem dX11_write_6 : decode cX11_write 6 = .ok (.istore 5, 2) := by decide +kernel
theorem dX11_write_8 : decode cX11_write 8 = .ok (.iload 5, 2) := by decide +kernel
theorem dX11_write_10 : decode cX11_write 10 = .ok (.ifCond .eq 10, 3) := by decide +kernel
theorem dX11_write_13 : decode cX11_write 13 = .ok (.aload_n 0, 1) := by decide +kernel
theorem dX11_write_14 : decode cX11_write 14 = .ok (.iload 5, 2) := by decide +kernel
theorem dX11_write_16 : decode cX11_write 16 = .ok (.invokevirtual 100, 3) := by decide +kernel
theorem dX11_write_19 : decode cX11_write 19 = .ok (.ireturn, 1) := by decide +kernel
theorem dX11_write_20 : decode cX11_write 20 = .ok (.aload_n 0, 1) := by decide +kernel
theorem dX11_write_21 : decode cX11_write 21 = .ok (.getfield 49, 3) := by decide +kernel
theorem dX11_write_24 : decode cX11_write 24 = .ok (.iload_n 1, 1) := by decide +kernel
theorem dX11_write_25 : decode cX11_write 25 = .ok (.iload_n 2, 1) := by decide +kernel
theorem dX11_write_26 : decode cX11_write 26 = .ok (.lload_n 3, 1) := by decide +kernel
theorem dX11_write_27 : decode cX11_write 27 = .ok (.invokevirtual 115, 3) := by decide +kernel
theorem dX11_write_30 : decode cX11_write 30 = .ok (.aload_n 0, 1) := by decide +kernel
theorem dX11_write_31 : decode cX11_write 31 = .ok (.invokevirtual 107, 3) := by decide +kernel
theorem dX11_write_34 : decode cX11_write 34 = .ok (.ireturn, 1) := by decide +kernel
theorem dX11_read_0 : decode cX11_read 0 = .ok (.aload_n 0, 1) := by decide +kernel
theorem dX11_read_1 : decode cX11_read 1 = .ok (.iload_n 1, 1) := by decide +kernel
theorem dX11_read_2 : decode cX11_read 2 = .ok (.iload_n 2, 1) := by decide +kernel
theorem dX11_read_3 : decode cX11_read 3 = .ok (.invokevirtual 111, 3) := by decide +kernel
theorem dX11_read_6 : decode cX11_read 6 = .ok (.istore_n 3, 1) := by decide +kernel
theorem dX11_read_7 : decode cX11_read 7 = .ok (.iload_n 3, 1) := by decide +kernel
theorem dX11_read_8 : decode cX11_read 8 = .ok (.ifCond .eq 10, 3) := by decide +kernel
theorem dX11_read_11 : decode cX11_read 11 = .ok (.aload_n 0, 1) := by decide +kernel
theorem dX11_read_12 : decode cX11_read 12 = .ok (.iload_n 3, 1) := by decide +kernel
theorem dX11_read_13 : decode cX11_read 13 = .ok (.invokevirtual 119, 3) := by decide +kernel
theorem dX11_read_16 : decode cX11_read 16 = .ok (.i2l, 1) := by decide +kernel
theorem dX11_read_17 : decode cX11_read 17 = .ok (.lreturn, 1) := by decide +kernel
theorem dX11_read_18 : decode cX11_read 18 = .ok (.aload_n 0, 1) := by decide +kernel
theorem dX11_read_19 : decode cX11_read 19 = .ok (.iconst 0, 1) := by decide +kernel
theorem dX11_read_20 : decode cX11_read 20 = .ok (.putfield 86, 3) := by decide +kernel
theorem dX11_read_23 : decode cX11_read 23 = .ok (.aload_n 0, 1) := by decide +kernel
theorem dX11_read_24 : decode cX11_read 24 = .ok (.getfield 49, 3) := by decide +kernel
theorem dX11_read_27 : decode cX11_read 27 = .ok (.iload_n 1, 1) := by decide +kernel
theorem dX11_read_28 : decode cX11_read 28 = .ok (.iload_n 2, 1) := by decide +kernel
theorem dX11_read_29 : decode cX11_read 29 = .ok (.invokevirtual 123, 3) := by decide +kernel
theorem dX11_read_32 : decode cX11_read 32 = .ok (.lreturn, 1) := by decide +kernel
theorem dX11_pour_0 : decode cX11_pour 0 = .ok (.aload_n 0, 1) := by decide +kernel
theorem dX11_pour_1 : decode cX11_pour 1 = .ok (.getfield 49, 3) := by decide +kernel
theorem dX11_pour_4 : decode cX11_pour 4 = .ok (.iload_n 1, 1) := by decide +kernel
theorem dX11_pour_5 : decode cX11_pour 5 = .ok (.invokevirtual 92, 3) := by decide +kernel
theorem dX11_pour_8 : decode cX11_pour 8 = .ok (.ifCond .eq 28, 3) := by decide +kernel
theorem dX11_pour_11 : decode cX11_pour 11 = .ok (.aload_n 0, 1) := by decide +kernel
theorem dX11_pour_12 : decode cX11_pour 12 = .ok (.getfield 49, 3) := by decide +kernel
theorem dX11_pour_15 : decode cX11_pour 15 = .ok (.iload_n 3, 1) := by decide +kernel
theorem dX11_pour_16 : decode cX11_pour 16 = .ok (.invokevirtual 92, 3) := by decide +kernel
theorem dX11_pour_19 : decode cX11_pour 19 = .ok (.ifCond .eq 17, 3) := by decide +kernel
theorem dX11_pour_22 : decode cX11_pour 22 = .ok (.iload_n 2, 1) := by decide +kernel
theorem dX11_pour_23 : decode cX11_pour 23 = .ok (.ifCond .lt 13, 3) := by decide +kernel
theorem dX11_pour_26 : decode cX11_pour 26 = .ok (.iload 4, 2) := by decide +kernel
theorem dX11_pour_28 : decode cX11_pour 28 = .ok (.ifCond .lt 8, 3) := by decide +kernel
theorem dX11_pour_31 : decode cX11_pour 31 = .ok (.iload 5, 2) := by decide +kernel
theorem dX11_pour_33 : decode cX11_pour 33 = .ok (.ifCond .ge 9, 3) := by decide +kernel
theorem dX11_pour_36 : decode cX11_pour 36 = .ok (.aload_n 0, 1) := by decide +kernel
theorem dX11_pour_37 : decode cX11_pour 37 = .ok (.iconst 1, 1) := by decide +kernel
theorem dX11_pour_38 : decode cX11_pour 38 = .ok (.invokevirtual 100, 3) := by decide +kernel
theorem dX11_pour_41 : decode cX11_pour 41 = .ok (.ireturn, 1) := by decide +kernel
theorem dX11_pour_42 : decode cX11_pour 42 = .ok (.aload_n 0, 1) := by decide +kernel
theorem dX11_pour_43 : decode cX11_pour 43 = .ok (.getfield 49, 3) := by decide +kernel
theorem dX11_pour_46 : decode cX11_pour 46 = .ok (.iload_n 1, 1) := by decide +kernel
theorem dX11_pour_47 : decode cX11_pour 47 = .ok (.invokevirtual 127, 3) := by decide +kernel
theorem dX11_pour_50 : decode cX11_pour 50 = .ok (.ifCond .ne 14, 3) := by decide +kernel
theorem dX11_pour_53 : decode cX11_pour 53 = .ok (.aload_n 0, 1) := by decide +kernel
theorem dX11_pour_54 : decode cX11_pour 54 = .ok (.getfield 49, 3) := by decide +kernel
theorem dX11_pour_57 : decode cX11_pour 57 = .ok (.iload_n 3, 1) := by decide +kernel
theorem dX11_pour_58 : decode cX11_pour 58 = .ok (.invokevirtual 127, 3) := by decide +kernel
theorem dX11_pour_61 : decode cX11_pour 61 = .ok (.ifCond .eq 9, 3) := by decide +kernel
theorem dX11_pour_64 : decode cX11_pour 64 = .ok (.aload_n 0, 1) := by decide +kernel
theorem dX11_pour_65 : decode cX11_pour 65 = .ok (.iconst 2, 1) := by decide +kernel
theorem dX11_pour_66 : decode cX11_pour 66 = .ok (.invokevirtual 100, 3) := by decide +kernel
theorem dX11_pour_69 : decode cX11_pour 69 = .ok (.ireturn, 1) := by decide +kernel
theorem dX11_pour_70 : decode cX11_pour 70 = .ok (.aload_n 0, 1) := by decide +kernel
theorem dX11_pour_71 : decode cX11_pour 71 = .ok (.getfield 49, 3) := by decide +kernel
theorem dX11_pour_74 : decode cX11_pour 74 = .ok (.iload_n 1, 1) := by decide +kernel
theorem dX11_pour_75 : decode cX11_pour 75 = .ok (.invokevirtual 130, 3) := by decide +kernel
theorem dX11_pour_78 : decode cX11_pour 78 = .ok (.aload_n 0, 1) := by decide +kernel
theorem dX11_pour_79 : decode cX11_pour 79 = .ok (.getfield 49, 3) := by decide +kernel
theorem dX11_pour_82 : decode cX11_pour 82 = .ok (.iload_n 3, 1) := by decide +kernel
theorem dX11_pour_83 : decode cX11_pour 83 = .ok (.invokevirtual 130, 3) := by decide +kernel
theorem dX11_pour_86 : decode cX11_pour 86 = .ok (.if_icmp .eq 10, 3) := by decide +kernel
theorem dX11_pour_89 : decode cX11_pour 89 = .ok (.aload_n 0, 1) := by decide +kernel
theorem dX11_pour_90 : decode cX11_pour 90 = .ok (.bipush 8, 2) := by decide +kernel
theorem dX11_pour_92 : decode cX11_pour 92 = .ok (.invokevirtual 100, 3) := by decide +kernel
theorem dX11_pour_95 : decode cX11_pour 95 = .ok (.ireturn, 1) := by decide +kernel
theorem dX11_pour_96 : decode cX11_pour 96 = .ok (.aload_n 0, 1) := by decide +kernel
theorem dX11_pour_97 : decode cX11_pour 97 = .ok (.getfield 49, 3) := by decide +kernel
theorem dX11_pour_100 : decode cX11_pour 100 = .ok (.iload_n 1, 1) := by decide +kernel
theorem dX11_pour_101 : decode cX11_pour 101 = .ok (.iload_n 2, 1) := by decide +kernel
theorem dX11_pour_102 : decode cX11_pour 102 = .ok (.iload 5, 2) := by decide +kernel
theorem dX11_pour_104 : decode cX11_pour 104 = .ok (.invokevirtual 133, 3) := by decide +kernel
theorem dX11_pour_107 : decode cX11_pour 107 = .ok (.ifCond .eq 18, 3) := by decide +kernel
theorem dX11_pour_110 : decode cX11_pour 110 = .ok (.aload_n 0, 1) := by decide +kernel
theorem dX11_pour_111 : decode cX11_pour 111 = .ok (.getfield 49, 3) := by decide +kernel
theorem dX11_pour_114 : decode cX11_pour 114 = .ok (.iload_n 3, 1) := by decide +kernel
theorem dX11_pour_115 : decode cX11_pour 115 = .ok (.iload 4, 2) := by decide +kernel
theorem dX11_pour_117 : decode cX11_pour 117 = .ok (.iload 5, 2) := by decide +kernel
theorem dX11_pour_119 : decode cX11_pour 119 = .ok (.invokevirtual 133, 3) := by decide +kernel
theorem dX11_pour_122 : decode cX11_pour 122 = .ok (.ifCond .ne 9, 3) := by decide +kernel
theorem dX11_pour_125 : decode cX11_pour 125 = .ok (.aload_n 0, 1) := by decide +kernel
theorem dX11_pour_126 : decode cX11_pour 126 = .ok (.iconst 3, 1) := by decide +kernel
theorem dX11_pour_127 : decode cX11_pour 127 = .ok (.invokevirtual 100, 3) := by decide +kernel
theorem dX11_pour_130 : decode cX11_pour 130 = .ok (.ireturn, 1) := by decide +kernel
theorem dX11_pour_131 : decode cX11_pour 131 = .ok (.aload_n 0, 1) := by decide +kernel
theorem dX11_pour_132 : decode cX11_pour 132 = .ok (.getfield 49, 3) := by decide +kernel
theorem dX11_pour_135 : decode cX11_pour 135 = .ok (.iload_n 1, 1) := by decide +kernel
theorem dX11_pour_136 : decode cX11_pour 136 = .ok (.iload_n 2, 1) := by decide +kernel
theorem dX11_pour_137 : decode cX11_pour 137 = .ok (.iload_n 3, 1) := by decide +kernel
theorem dX11_pour_138 : decode cX11_pour 138 = .ok (.iload 4, 2) := by decide +kernel
theorem dX11_pour_140 : decode cX11_pour 140 = .ok (.iload 5, 2) := by decide +kernel
theorem dX11_pour_142 : decode cX11_pour 142 = .ok (.invokevirtual 136, 3) := by decide +kernel
theorem dX11_pour_145 : decode cX11_pour 145 = .ok (.aload_n 0, 1) := by decide +kernel
theorem dX11_pour_146 : decode cX11_pour 146 = .ok (.invokevirtual 107, 3) := by decide +kernel
theorem dX11_pour_149 : decode cX11_pour 149 = .ok (.ireturn, 1) := by decide +kernel
theorem dX11_feed_0 : decode cX11_feed 0 = .ok (.aload_n 0, 1) := by decide +kernel
theorem dX11_feed_1 : decode cX11_feed 1 = .ok (.getfield 26, 3) := by decide +kernel
theorem dX11_feed_4 : decode cX11_feed 4 = .ok (.bipush 20, 2) := by decide +kernel
theorem dX11_feed_6 : decode cX11_feed 6 = .ok (.invokevirtual 140, 3) := by decide +kernel
theorem dX11_feed_9 : decode cX11_feed 9 = .ok (.ifCond .ne 5, 3) := by decide +kernel
theorem dX11_feed_12 : decode cX11_feed 12 = .ok (.iconst (-1), 1) := by decide +kernel
theorem dX11_feed_13 : decode cX11_feed 13 = .ok (.ireturn, 1) := by decide +kernel
theorem dX11_feed_14 : decode cX11_feed 14 = .ok (.aload_n 0, 1) := by decide +kernel
theorem dX11_feed_15 : decode cX11_feed 15 = .ok (.getfield 26, 3) := by decide +kernel
theorem dX11_feed_18 : decode cX11_feed 18 = .ok (.iload_n 1, 1) := by decide +kernel
theorem dX11_feed_19 : decode cX11_feed 19 = .ok (.invokevirtual 143, 3) := by decide +kernel
theorem dX11_feed_22 : decode cX11_feed 22 = .ok (.aload_n 0, 1) := by decide +kernel
theorem dX11_feed_23 : decode cX11_feed 23 = .ok (.getfield 26, 3) := by decide +kernel
theorem dX11_feed_26 : decode cX11_feed 26 = .ok (.iload_n 2, 1) := by decide +kernel
theorem dX11_feed_27 : decode cX11_feed 27 = .ok (.invokevirtual 143, 3) := by decide +kernel
theorem dX11_feed_30 : decode cX11_feed 30 = .ok (.aload_n 0, 1) := by decide +kernel
theorem dX11_feed_31 : decode cX11_feed 31 = .ok (.getfield 26, 3) := by decide +kernel
theorem dX11_feed_34 : decode cX11_feed 34 = .ok (.iload_n 3, 1) := by decide +kernel
theorem dX11_feed_35 : decode cX11_feed 35 = .ok (.invokevirtual 143, 3) := by decide +kernel
theorem dX11_feed_38 : decode cX11_feed 38 = .ok (.aload_n 0, 1) := by decide +kernel
theorem dX11_feed_39 : decode cX11_feed 39 = .ok (.getfield 26, 3) := by decide +kernel
theorem dX11_feed_42 : decode cX11_feed 42 = .ok (.iload 4, 2) := by decide +kernel
theorem dX11_feed_44 : decode cX11_feed 44 = .ok (.invokevirtual 143, 3) := by decide +kernel
theorem dX11_feed_47 : decode cX11_feed 47 = .ok (.aload_n 0, 1) := by decide +kernel
theorem dX11_feed_48 : decode cX11_feed 48 = .ok (.getfield 26, 3) := by decide +kernel
theorem dX11_feed_51 : decode cX11_feed 51 = .ok (.iload 5, 2) := by decide +kernel
theorem dX11_feed_53 : decode cX11_feed 53 = .ok (.invokevirtual 143, 3) := by decide +kernel
theorem dX11_feed_56 : decode cX11_feed 56 = .ok (.aload_n 0, 1) := by decide +kernel
theorem dX11_feed_57 : decode cX11_feed 57 = .ok (.getfield 26, 3) := by decide +kernel
theorem dX11_feed_60 : decode cX11_feed 60 = .ok (.getfield 147, 3) := by decide +kernel
theorem dX11_feed_63 : decode cX11_feed 63 = .ok (.ireturn, 1) := by decide +kernel
theorem dX11_city_0 : decode cX11_city 0 = .ok (.iload_n 1, 1) := by decide +kernel
theorem dX11_city_1 : decode cX11_city 1 = .ok (.iconst 0, 1) := by decide +kernel
theorem dX11_city_2 : decode cX11_city 2 = .ok (.aload_n 0, 1) := by decide +kernel
theorem dX11_city_3 : decode cX11_city 3 = .ok (.getfield 26, 3) := by decide +kernel
theorem dX11_city_6 : decode cX11_city 6 = .ok (.getfield 147, 3) := by decide +kernel
theorem dX11_city_9 : decode cX11_city 9 = .ok (.invokestatic 96, 3) := by decide +kernel
theorem dX11_city_12 : decode cX11_city 12 = .ok (.ifCond .ne 9, 3) := by decide +kernel
theorem dX11_city_15 : decode cX11_city 15 = .ok (.aload_n 0, 1) := by decide +kernel
theorem dX11_city_16 : decode cX11_city 16 = .ok (.iconst 1, 1) := by decide +kernel
theorem dX11_city_17 : decode cX11_city 17 = .ok (.invokevirtual 119, 3) := by decide +kernel
theorem dX11_city_20 : decode cX11_city 20 = .ok (.ireturn, 1) := by decide +kernel
theorem dX11_city_21 : decode cX11_city 21 = .ok (.aload_n 0, 1) := by decide +kernel
theorem dX11_city_22 : decode cX11_city 22 = .ok (.getfield 35, 3) := by decide +kernel
theorem dX11_city_25 : decode cX11_city 25 = .ok (.iload_n 1, 1) := by decide +kernel
theorem dX11_city_26 : decode cX11_city 26 = .ok (.invokevirtual 150, 3) := by decide +kernel
theorem dX11_city_29 : decode cX11_city 29 = .ok (.istore_n 2, 1) := by decide +kernel
theorem dX11_city_30 : decode cX11_city 30 = .ok (.aload_n 0, 1) := by decide +kernel
theorem dX11_city_31 : decode cX11_city 31 = .ok (.invokevirtual 153, 3) := by decide +kernel
theorem dX11_city_34 : decode cX11_city 34 = .ok (.iload_n 2, 1) := by decide +kernel
theorem dX11_city_35 : decode cX11_city 35 = .ok (.ifCond .ne 10, 3) := by decide +kernel
theorem dX11_city_38 : decode cX11_city 38 = .ok (.aload_n 0, 1) := by decide +kernel
theorem dX11_city_39 : decode cX11_city 39 = .ok (.bipush 9, 2) := by decide +kernel
theorem dX11_city_41 : decode cX11_city 41 = .ok (.invokevirtual 119, 3) := by decide +kernel
theorem dX11_city_44 : decode cX11_city 44 = .ok (.ireturn, 1) := by decide +kernel
theorem dX11_city_45 : decode cX11_city 45 = .ok (.aload_n 0, 1) := by decide +kernel
theorem dX11_city_46 : decode cX11_city 46 = .ok (.getfield 10, 3) := by decide +kernel
theorem dX11_city_49 : decode cX11_city 49 = .ok (.aload_n 0, 1) := by decide +kernel
theorem dX11_city_50 : decode cX11_city 50 = .ok (.getfield 35, 3) := by decide +kernel
theorem dX11_city_53 : decode cX11_city 53 = .ok (.getfield 156, 3) := by decide +kernel
theorem dX11_city_56 : decode cX11_city 56 = .ok (.invokevirtual 159, 3) := by decide +kernel
theorem dX11_city_59 : decode cX11_city 59 = .ok (.aload_n 0, 1) := by decide +kernel
theorem dX11_city_60 : decode cX11_city 60 = .ok (.aload_n 0, 1) := by decide +kernel
theorem dX11_city_61 : decode cX11_city 61 = .ok (.getfield 10, 3) := by decide +kernel
theorem dX11_city_64 : decode cX11_city 64 = .ok (.getfield 163, 3) := by decide +kernel
theorem dX11_city_67 : decode cX11_city 67 = .ok (.getfield 167, 3) := by decide +kernel
theorem dX11_city_70 : decode cX11_city 70 = .ok (.invokevirtual 172, 3) := by decide +kernel
theorem dX11_city_73 : decode cX11_city 73 = .ok (.ireturn, 1) := by decide +kernel
theorem dX11_weeks_0 : decode cX11_weeks 0 = .ok (.iload_n 1, 1) := by decide +kernel
theorem dX11_weeks_1 : decode cX11_weeks 1 = .ok (.iconst 0, 1) := by decide +kernel
theorem dX11_weeks_2 : decode cX11_weeks 2 = .ok (.aload_n 0, 1) := by decide +kernel
theorem dX11_weeks_3 : decode cX11_weeks 3 = .ok (.getfield 26, 3) := by decide +kernel
theorem dX11_weeks_6 : decode cX11_weeks 6 = .ok (.getfield 147, 3) := by decide +kernel
theorem dX11_weeks_9 : decode cX11_weeks 9 = .ok (.invokestatic 96, 3) := by decide +kernel
theorem dX11_weeks_12 : decode cX11_weeks 12 = .ok (.ifCond .eq 10, 3) := by decide +kernel
theorem dX11_weeks_15 : decode cX11_weeks 15 = .ok (.iload_n 1, 1) := by decide +kernel
theorem dX11_weeks_16 : decode cX11_weeks 16 = .ok (.sipush 300, 3) := by decide +kernel
theorem dX11_weeks_19 : decode cX11_weeks 19 = .ok (.if_icmp .le 9, 3) := by decide +kernel
theorem dX11_weeks_22 : decode cX11_weeks 22 = .ok (.aload_n 0, 1) := by decide +kernel
theorem dX11_weeks_23 : decode cX11_weeks 23 = .ok (.iconst 1, 1) := by decide +kernel
theorem dX11_weeks_24 : decode cX11_weeks 24 = .ok (.invokevirtual 119, 3) := by decide +kernel
theorem dX11_weeks_27 : decode cX11_weeks 27 = .ok (.ireturn, 1) := by decide +kernel
theorem dX11_weeks_28 : decode cX11_weeks 28 = .ok (.aload_n 0, 1) := by decide +kernel
theorem dX11_weeks_29 : decode cX11_weeks 29 = .ok (.getfield 42, 3) := by decide +kernel
theorem dX11_weeks_32 : decode cX11_weeks 32 = .ok (.iload_n 1, 1) := by decide +kernel
theorem dX11_weeks_33 : decode cX11_weeks 33 = .ok (.aload_n 0, 1) := by decide +kernel
theorem dX11_weeks_34 : decode cX11_weeks 34 = .ok (.getfield 10, 3) := by decide +kernel
theorem dX11_weeks_37 : decode cX11_weeks 37 = .ok (.getfield 175, 3) := by decide +kernel
theorem dX11_weeks_40 : decode cX11_weeks 40 = .ok (.invokevirtual 179, 3) := by decide +kernel
theorem dX11_weeks_43 : decode cX11_weeks 43 = .ok (.istore_n 2, 1) := by decide +kernel
theorem dX11_weeks_44 : decode cX11_weeks 44 = .ok (.aload_n 0, 1) := by decide +kernel
theorem dX11_weeks_45 : decode cX11_weeks 45 = .ok (.invokevirtual 153, 3) := by decide +kernel
theorem dX11_weeks_48 : decode cX11_weeks 48 = .ok (.iload_n 2, 1) := by decide +kernel
theorem dX11_weeks_49 : decode cX11_weeks 49 = .ok (.ifCond .ne 10, 3) := by decide +kernel
theorem dX11_weeks_52 : decode cX11_weeks 52 = .ok (.aload_n 0, 1) := by decide +kernel
theorem dX11_weeks_53 : decode cX11_weeks 53 = .ok (.bipush 9, 2) := by decide +kernel
theorem dX11_weeks_55 : decode cX11_weeks 55 = .ok (.invokevirtual 119, 3) := by decide +kernel
theorem dX11_weeks_58 : decode cX11_weeks 58 = .ok (.ireturn, 1) := by decide +kernel
theorem dX11_weeks_59 : decode cX11_weeks 59 = .ok (.aload_n 0, 1) := by decide +kernel
theorem dX11_weeks_60 : decode cX11_weeks 60 = .ok (.getfield 10, 3) := by decide +kernel
theorem dX11_weeks_63 : decode cX11_weeks 63 = .ok (.getfield 182, 3) := by decide +kernel
theorem dX11_weeks_66 : decode cX11_weeks 66 = .ok (.aload_n 0, 1) := by decide +kernel
theorem dX11_weeks_67 : decode cX11_weeks 67 = .ok (.getfield 42, 3) := by decide +kernel
theorem dX11_weeks_70 : decode cX11_weeks 70 = .ok (.getfield 186, 3) := by decide +kernel
theorem dX11_weeks_73 : decode cX11_weeks 73 = .ok (.invokevirtual 189, 3) := by decide +kernel
theorem dX11_weeks_76 : decode cX11_weeks 76 = .ok (.aload_n 0, 1) := by decide +kernel
theorem dX11_weeks_77 : decode cX11_weeks 77 = .ok (.getfield 10, 3) := by decide +kernel
theorem dX11_weeks_80 : decode cX11_weeks 80 = .ok (.iconst 1, 1) := by decide +kernel
theorem dX11_weeks_81 : decode cX11_weeks 81 = .ok (.putfield 194, 3) := by decide +kernel
theorem dX11_weeks_84 : decode cX11_weeks 84 = .ok (.aload_n 0, 1) := by decide +kernel
theorem dX11_weeks_85 : decode cX11_weeks 85 = .ok (.aload_n 0, 1) := by decide +kernel
theorem dX11_weeks_86 : decode cX11_weeks 86 = .ok (.getfield 10, 3) := by decide +kernel
theorem dX11_weeks_89 : decode cX11_weeks 89 = .ok (.getfield 182, 3) := by decide +kernel
theorem dX11_weeks_92 : decode cX11_weeks 92 = .ok (.getfield 198, 3) := by decide +kernel
theorem dX11_weeks_95 : decode cX11_weeks 95 = .ok (.invokevirtual 172, 3) := by decide +kernel
theorem dX11_weeks_98 : decode cX11_weeks 98 = .ok (.ireturn, 1) := by decide +kernel
theorem dX11_fault_0 : decode cX11_fault 0 = .ok (.aload_n 0, 1) := by decide +kernel
theorem dX11_fault_1 : decode cX11_fault 1 = .ok (.getfield 201, 3) := by decide +kernel
theorem dX11_fault_4 : decode cX11_fault 4 = .ok (.ifCond .ne 5, 3) := by decide +kernel
theorem dX11_fault_7 : decode cX11_fault 7 = .ok (.iconst (-1), 1) := by decide +kernel
theorem dX11_fault_8 : decode cX11_fault 8 = .ok (.ireturn, 1) := by decide +kernel
theorem dX11_fault_9 : decode cX11_fault 9 = .ok (.iload_n 1, 1) := by decide +kernel
theorem dX11_fault_10 : decode cX11_fault 10 = .ok (.ifCond .ne 8, 3) := by decide +kernel
theorem dX11_fault_13 : decode cX11_fault 13 = .ok (.aload_n 0, 1) := by decide +kernel
theorem dX11_fault_14 : decode cX11_fault 14 = .ok (.getfield 204, 3) := by decide +kernel
theorem dX11_fault_17 : decode cX11_fault 17 = .ok (.ireturn, 1) := by decide +kernel
theorem dX11_fault_18 : decode cX11_fault 18 = .ok (.iload_n 1, 1) := by decide +kernel
theorem dX11_fault_19 : decode cX11_fault 19 = .ok (.iconst 1, 1) := by decide +kernel
theorem dX11_fault_20 : decode cX11_fault 20 = .ok (.if_icmp .ne 10, 3) := by decide +kernel
theorem dX11_fault_23 : decode cX11_fault 23 = .ok (.aload_n 0, 1) := by decide +kernel
theorem dX11_fault_24 : decode cX11_fault 24 = .ok (.getfield 78, 3) := by decide +kernel
theorem dX11_fault_27 : decode cX11_fault 27 = .ok (.goto 4, 3) := by decide +kernel
theorem dX11_fault_30 : decode cX11_fault 30 = .ok (.iconst (-1), 1) := by decide +kernel
theorem dX11_fault_31 : decode cX11_fault 31 = .ok (.ireturn, 1) := by decide +kernel
theorem dX11_told_0 : decode cX11_told 0 = .ok (.iload_n 1, 1) := by decide +kernel
theorem dX11_told_1 : decode cX11_told 1 = .ok (.tableswitch 264 0 13 #[71, 86, 104, 119, 134, 149, 161, 173, 185, 197, 210, 223, 236, 248], 71) := by decide +kernel
theorem dX11_told_72 : decode cX11_told 72 = .ok (.aload_n 0, 1) := by decide +kernel
theorem dX11_told_73 : decode cX11_told 73 = .ok (.aload_n 0, 1) := by decide +kernel
theorem dX11_told_74 : decode cX11_told 74 = .ok (.getfield 10, 3) := by decide +kernel
theorem dX11_told_77 : decode cX11_told 77 = .ok (.getfield 163, 3) := by decide +kernel
theorem dX11_told_80 : decode cX11_told 80 = .ok (.getfield 167, 3) := by decide +kernel
theorem dX11_told_83 : decode cX11_told 83 = .ok (.invokevirtual 172, 3) := by decide +kernel
theorem dX11_told_86 : decode cX11_told 86 = .ok (.ireturn, 1) := by decide +kernel
theorem dX11_told_87 : decode cX11_told 87 = .ok (.aload_n 0, 1) := by decide +kernel
theorem dX11_told_88 : decode cX11_told 88 = .ok (.aload_n 0, 1) := by decide +kernel
theorem dX11_told_89 : decode cX11_told 89 = .ok (.getfield 10, 3) := by decide +kernel
theorem dX11_told_92 : decode cX11_told 92 = .ok (.getfield 163, 3) := by decide +kernel
theorem dX11_told_95 : decode cX11_told 95 = .ok (.getfield 207, 3) := by decide +kernel
theorem dX11_told_98 : decode cX11_told 98 = .ok (.getfield 198, 3) := by decide +kernel
theorem dX11_told_101 : decode cX11_told 101 = .ok (.invokevirtual 172, 3) := by decide +kernel
theorem dX11_told_104 : decode cX11_told 104 = .ok (.ireturn, 1) := by decide +kernel
theorem dX11_told_105 : decode cX11_told 105 = .ok (.aload_n 0, 1) := by decide +kernel
theorem dX11_told_106 : decode cX11_told 106 = .ok (.aload_n 0, 1) := by decide +kernel
theorem dX11_told_107 : decode cX11_told 107 = .ok (.getfield 10, 3) := by decide +kernel
theorem dX11_told_110 : decode cX11_told 110 = .ok (.getfield 210, 3) := by decide +kernel
theorem dX11_told_113 : decode cX11_told 113 = .ok (.getfield 198, 3) := by decide +kernel
theorem dX11_told_116 : decode cX11_told 116 = .ok (.invokevirtual 172, 3) := by decide +kernel
theorem dX11_told_119 : decode cX11_told 119 = .ok (.ireturn, 1) := by decide +kernel
theorem dX11_told_120 : decode cX11_told 120 = .ok (.aload_n 0, 1) := by decide +kernel
theorem dX11_told_121 : decode cX11_told 121 = .ok (.aload_n 0, 1) := by decide +kernel
theorem dX11_told_122 : decode cX11_told 122 = .ok (.getfield 10, 3) := by decide +kernel
theorem dX11_told_125 : decode cX11_told 125 = .ok (.getfield 213, 3) := by decide +kernel
theorem dX11_told_128 : decode cX11_told 128 = .ok (.getfield 198, 3) := by decide +kernel
theorem dX11_told_131 : decode cX11_told 131 = .ok (.invokevirtual 172, 3) := by decide +kernel
theorem dX11_told_134 : decode cX11_told 134 = .ok (.ireturn, 1) := by decide +kernel
theorem dX11_told_135 : decode cX11_told 135 = .ok (.aload_n 0, 1) := by decide +kernel
theorem dX11_told_136 : decode cX11_told 136 = .ok (.aload_n 0, 1) := by decide +kernel
theorem dX11_told_137 : decode cX11_told 137 = .ok (.getfield 10, 3) := by decide +kernel
theorem dX11_told_140 : decode cX11_told 140 = .ok (.getfield 216, 3) := by decide +kernel
theorem dX11_told_143 : decode cX11_told 143 = .ok (.getfield 198, 3) := by decide +kernel
theorem dX11_told_146 : decode cX11_told 146 = .ok (.invokevirtual 172, 3) := by decide +kernel
theorem dX11_told_149 : decode cX11_told 149 = .ok (.ireturn, 1) := by decide +kernel
theorem dX11_told_150 : decode cX11_told 150 = .ok (.aload_n 0, 1) := by decide +kernel
theorem dX11_told_151 : decode cX11_told 151 = .ok (.aload_n 0, 1) := by decide +kernel
theorem dX11_told_152 : decode cX11_told 152 = .ok (.getfield 10, 3) := by decide +kernel
theorem dX11_told_155 : decode cX11_told 155 = .ok (.getfield 219, 3) := by decide +kernel
theorem dX11_told_158 : decode cX11_told 158 = .ok (.invokevirtual 172, 3) := by decide +kernel
theorem dX11_told_161 : decode cX11_told 161 = .ok (.ireturn, 1) := by decide +kernel
theorem dX11_told_162 : decode cX11_told 162 = .ok (.aload_n 0, 1) := by decide +kernel
theorem dX11_told_163 : decode cX11_told 163 = .ok (.aload_n 0, 1) := by decide +kernel
theorem dX11_told_164 : decode cX11_told 164 = .ok (.getfield 10, 3) := by decide +kernel
theorem dX11_told_167 : decode cX11_told 167 = .ok (.getfield 222, 3) := by decide +kernel
theorem dX11_told_170 : decode cX11_told 170 = .ok (.invokevirtual 172, 3) := by decide +kernel
theorem dX11_told_173 : decode cX11_told 173 = .ok (.ireturn, 1) := by decide +kernel
theorem dX11_told_174 : decode cX11_told 174 = .ok (.aload_n 0, 1) := by decide +kernel
theorem dX11_told_175 : decode cX11_told 175 = .ok (.aload_n 0, 1) := by decide +kernel
theorem dX11_told_176 : decode cX11_told 176 = .ok (.getfield 10, 3) := by decide +kernel
theorem dX11_told_179 : decode cX11_told 179 = .ok (.getfield 225, 3) := by decide +kernel
theorem dX11_told_182 : decode cX11_told 182 = .ok (.invokevirtual 172, 3) := by decide +kernel
theorem dX11_told_185 : decode cX11_told 185 = .ok (.ireturn, 1) := by decide +kernel
theorem dX11_told_186 : decode cX11_told 186 = .ok (.aload_n 0, 1) := by decide +kernel
theorem dX11_told_187 : decode cX11_told 187 = .ok (.aload_n 0, 1) := by decide +kernel
theorem dX11_told_188 : decode cX11_told 188 = .ok (.getfield 10, 3) := by decide +kernel
theorem dX11_told_191 : decode cX11_told 191 = .ok (.getfield 228, 3) := by decide +kernel
theorem dX11_told_194 : decode cX11_told 194 = .ok (.invokevirtual 172, 3) := by decide +kernel
theorem dX11_told_197 : decode cX11_told 197 = .ok (.ireturn, 1) := by decide +kernel
theorem dX11_told_198 : decode cX11_told 198 = .ok (.aload_n 0, 1) := by decide +kernel
theorem dX11_told_199 : decode cX11_told 199 = .ok (.aload_n 0, 1) := by decide +kernel
theorem dX11_told_200 : decode cX11_told 200 = .ok (.getfield 10, 3) := by decide +kernel
theorem dX11_told_203 : decode cX11_told 203 = .ok (.iconst 0, 1) := by decide +kernel
theorem dX11_told_204 : decode cX11_told 204 = .ok (.invokevirtual 231, 3) := by decide +kernel
theorem dX11_told_207 : decode cX11_told 207 = .ok (.invokevirtual 172, 3) := by decide +kernel
theorem dX11_told_210 : decode cX11_told 210 = .ok (.ireturn, 1) := by decide +kernel
theorem dX11_told_211 : decode cX11_told 211 = .ok (.aload_n 0, 1) := by decide +kernel
theorem dX11_told_212 : decode cX11_told 212 = .ok (.aload_n 0, 1) := by decide +kernel
theorem dX11_told_213 : decode cX11_told 213 = .ok (.getfield 10, 3) := by decide +kernel
theorem dX11_told_216 : decode cX11_told 216 = .ok (.iconst 1, 1) := by decide +kernel
theorem dX11_told_217 : decode cX11_told 217 = .ok (.invokevirtual 231, 3) := by decide +kernel
theorem dX11_told_220 : decode cX11_told 220 = .ok (.invokevirtual 172, 3) := by decide +kernel
theorem dX11_told_223 : decode cX11_told 223 = .ok (.ireturn, 1) := by decide +kernel
theorem dX11_told_224 : decode cX11_told 224 = .ok (.aload_n 0, 1) := by decide +kernel
theorem dX11_told_225 : decode cX11_told 225 = .ok (.aload_n 0, 1) := by decide +kernel
theorem dX11_told_226 : decode cX11_told 226 = .ok (.getfield 10, 3) := by decide +kernel
theorem dX11_told_229 : decode cX11_told 229 = .ok (.iconst 2, 1) := by decide +kernel
theorem dX11_told_230 : decode cX11_told 230 = .ok (.invokevirtual 231, 3) := by decide +kernel
theorem dX11_told_233 : decode cX11_told 233 = .ok (.invokevirtual 172, 3) := by decide +kernel
theorem dX11_told_236 : decode cX11_told 236 = .ok (.ireturn, 1) := by decide +kernel
theorem dX11_told_237 : decode cX11_told 237 = .ok (.aload_n 0, 1) := by decide +kernel
theorem dX11_told_238 : decode cX11_told 238 = .ok (.aload_n 0, 1) := by decide +kernel
theorem dX11_told_239 : decode cX11_told 239 = .ok (.getfield 10, 3) := by decide +kernel
theorem dX11_told_242 : decode cX11_told 242 = .ok (.invokevirtual 234, 3) := by decide +kernel
theorem dX11_told_245 : decode cX11_told 245 = .ok (.invokevirtual 172, 3) := by decide +kernel
theorem dX11_told_248 : decode cX11_told 248 = .ok (.ireturn, 1) := by decide +kernel
theorem dX11_told_249 : decode cX11_told 249 = .ok (.aload_n 0, 1) := by decide +kernel
theorem dX11_told_250 : decode cX11_told 250 = .ok (.aload_n 0, 1) := by decide +kernel
theorem dX11_told_251 : decode cX11_told 251 = .ok (.getfield 10, 3) := by decide +kernel
theorem dX11_told_254 : decode cX11_told 254 = .ok (.getfield 210, 3) := by decide +kernel
theorem dX11_told_257 : decode cX11_told 257 = .ok (.iconst 3, 1) := by decide +kernel
theorem dX11_told_258 : decode cX11_told 258 = .ok (.invokevirtual 238, 3) := by decide +kernel
theorem dX11_told_261 : decode cX11_told 261 = .ok (.invokevirtual 172, 3) := by decide +kernel
theorem dX11_told_264 : decode cX11_told 264 = .ok (.ireturn, 1) := by decide +kernel
theorem dX11_told_265 : decode cX11_told 265 = .ok (.aload_n 0, 1) := by decide +kernel
theorem dX11_told_266 : decode cX11_told 266 = .ok (.iconst 1, 1) := by decide +kernel
theorem dX11_told_267 : decode cX11_told 267 = .ok (.invokevirtual 119, 3) := by decide +kernel
theorem dX11_told_270 : decode cX11_told 270 = .ok (.ireturn, 1) := by decide +kernel
theorem dX11_extra_0 : decode cX11_extra 0 = .ok (.aload_n 0, 1) := by decide +kernel
theorem dX11_extra_1 : decode cX11_extra 1 = .ok (.iload_n 1, 1) := by decide +kernel
theorem dX11_extra_2 : decode cX11_extra 2 = .ok (.invokevirtual 241, 3) := by decide +kernel
theorem dX11_extra_5 : decode cX11_extra 5 = .ok (.ifCond .eq 12, 3) := by decide +kernel
theorem dX11_extra_8 : decode cX11_extra 8 = .ok (.iload_n 2, 1) := by decide +kernel
theorem dX11_extra_9 : decode cX11_extra 9 = .ok (.iconst 0, 1) := by decide +kernel
theorem dX11_extra_10 : decode cX11_extra 10 = .ok (.iconst 4, 1) := by decide +kernel
theorem dX11_extra_11 : decode cX11_extra 11 = .ok (.invokestatic 96, 3) := by decide +kernel
theorem dX11_extra_14 : decode cX11_extra 14 = .ok (.ifCond .ne 9, 3) := by decide +kernel
theorem dX11_extra_17 : decode cX11_extra 17 = .ok (.aload_n 0, 1) := by decide +kernel
theorem dX11_extra_18 : decode cX11_extra 18 = .ok (.iconst 1, 1) := by decide +kernel
theorem dX11_extra_19 : decode cX11_extra 19 = .ok (.invokevirtual 119, 3) := by decide +kernel
theorem dX11_extra_22 : decode cX11_extra 22 = .ok (.ireturn, 1) := by decide +kernel
theorem dX11_extra_23 : decode cX11_extra 23 = .ok (.aload_n 0, 1) := by decide +kernel
theorem dX11_extra_24 : decode cX11_extra 24 = .ok (.iload_n 2, 1) := by decide +kernel
theorem dX11_extra_25 : decode cX11_extra 25 = .ok (.ifCond .ne 14, 3) := by decide +kernel
theorem dX11_extra_28 : decode cX11_extra 28 = .ok (.aload_n 0, 1) := by decide +kernel
theorem dX11_extra_29 : decode cX11_extra 29 = .ok (.getfield 10, 3) := by decide +kernel
theorem dX11_extra_32 : decode cX11_extra 32 = .ok (.iload_n 1, 1) := by decide +kernel
theorem dX11_extra_33 : decode cX11_extra 33 = .ok (.invokevirtual 244, 3) := by decide +kernel
theorem dX11_extra_36 : decode cX11_extra 36 = .ok (.goto 15, 3) := by decide +kernel
theorem dX11_extra_39 : decode cX11_extra 39 = .ok (.aload_n 0, 1) := by decide +kernel
theorem dX11_extra_40 : decode cX11_extra 40 = .ok (.getfield 10, 3) := by decide +kernel
theorem dX11_extra_43 : decode cX11_extra 43 = .ok (.getfield 210, 3) := by decide +kernel
theorem dX11_extra_46 : decode cX11_extra 46 = .ok (.iload_n 1, 1) := by decide +kernel
theorem dX11_extra_47 : decode cX11_extra 47 = .ok (.iload_n 2, 1) := by decide +kernel
theorem dX11_extra_48 : decode cX11_extra 48 = .ok (.invokevirtual 247, 3) := by decide +kernel
theorem dX11_extra_51 : decode cX11_extra 51 = .ok (.invokevirtual 172, 3) := by decide +kernel
theorem dX11_extra_54 : decode cX11_extra 54 = .ok (.ireturn, 1) := by decide +kernel
theorem dX11_happening_0 : decode cX11_happening 0 = .ok (.aload_n 0, 1) := by decide +kernel
theorem dX11_happening_1 : decode cX11_happening 1 = .ok (.iload_n 1, 1) := by decide +kernel
theorem dX11_happening_2 : decode cX11_happening 2 = .ok (.invokevirtual 249, 3) := by decide +kernel
theorem dX11_happening_5 : decode cX11_happening 5 = .ok (.ifCond .eq 12, 3) := by decide +kernel
theorem dX11_happening_8 : decode cX11_happening 8 = .ok (.iload_n 2, 1) := by decide +kernel
theorem dX11_happening_9 : decode cX11_happening 9 = .ok (.iconst 0, 1) := by decide +kernel
theorem dX11_happening_10 : decode cX11_happening 10 = .ok (.iconst 4, 1) := by decide +kernel
theorem dX11_happening_11 : decode cX11_happening 11 = .ok (.invokestatic 96, 3) := by decide +kernel
theorem dX11_happening_14 : decode cX11_happening 14 = .ok (.ifCond .ne 9, 3) := by decide +kernel
theorem dX11_happening_17 : decode cX11_happening 17 = .ok (.aload_n 0, 1) := by decide +kernel
theorem dX11_happening_18 : decode cX11_happening 18 = .ok (.iconst 1, 1) := by decide +kernel
theorem dX11_happening_19 : decode cX11_happening 19 = .ok (.invokevirtual 119, 3) := by decide +kernel
theorem dX11_happening_22 : decode cX11_happening 22 = .ok (.ireturn, 1) := by decide +kernel
theorem dX11_happening_23 : decode cX11_happening 23 = .ok (.iload_n 2, 1) := by decide +kernel
theorem dX11_happening_24 : decode cX11_happening 24 = .ok (.iconst 4, 1) := by decide +kernel
theorem dX11_happening_25 : decode cX11_happening 25 = .ok (.if_icmp .ne 30, 3) := by decide +kernel
theorem dX11_happening_28 : decode cX11_happening 28 = .ok (.aload_n 0, 1) := by decide +kernel
theorem dX11_happening_29 : decode cX11_happening 29 = .ok (.aload_n 0, 1) := by decide +kernel
theorem dX11_happening_30 : decode cX11_happening 30 = .ok (.getfield 10, 3) := by decide +kernel
theorem dX11_happening_33 : decode cX11_happening 33 = .ok (.aload_n 0, 1) := by decide +kernel
theorem dX11_happening_34 : decode cX11_happening 34 = .ok (.getfield 10, 3) := by decide +kernel
theorem dX11_happening_37 : decode cX11_happening 37 = .ok (.getfield 213, 3) := by decide +kernel
theorem dX11_happening_40 : decode cX11_happening 40 = .ok (.iload_n 1, 1) := by decide +kernel
theorem dX11_happening_41 : decode cX11_happening 41 = .ok (.iconst 0, 1) := by decide +kernel
theorem dX11_happening_42 : decode cX11_happening 42 = .ok (.invokevirtual 247, 3) := by decide +kernel
theorem dX11_happening_45 : decode cX11_happening 45 = .ok (.invokevirtual 252, 3) := by decide +kernel
theorem dX11_happening_48 : decode cX11_happening 48 = .ok (.invokestatic 255, 3) := by decide +kernel
theorem dX11_happening_51 : decode cX11_happening 51 = .ok (.invokevirtual 172, 3) := by decide +kernel
theorem dX11_happening_54 : decode cX11_happening 54 = .ok (.ireturn, 1) := by decide +kernel
theorem dX11_happening_55 : decode cX11_happening 55 = .ok (.aload_n 0, 1) := by decide +kernel
theorem dX11_happening_56 : decode cX11_happening 56 = .ok (.aload_n 0, 1) := by decide +kernel
theorem dX11_happening_57 : decode cX11_happening 57 = .ok (.getfield 10, 3) := by decide +kernel
theorem dX11_happening_60 : decode cX11_happening 60 = .ok (.getfield 213, 3) := by decide +kernel
theorem dX11_happening_63 : decode cX11_happening 63 = .ok (.iload_n 1, 1) := by decide +kernel
theorem dX11_happening_64 : decode cX11_happening 64 = .ok (.iload_n 2, 1) := by decide +kernel
theorem dX11_happening_65 : decode cX11_happening 65 = .ok (.invokevirtual 247, 3) := by decide +kernel
theorem dX11_happening_68 : decode cX11_happening 68 = .ok (.invokevirtual 172, 3) := by decide +kernel
theorem dX11_happening_71 : decode cX11_happening 71 = .ok (.ireturn, 1) := by decide +kernel
theorem dX11_watcher_0 : decode cX11_watcher 0 = .ok (.aload_n 0, 1) := by decide +kernel
theorem dX11_watcher_1 : decode cX11_watcher 1 = .ok (.iload_n 1, 1) := by decide +kernel
theorem dX11_watcher_2 : decode cX11_watcher 2 = .ok (.invokevirtual 260, 3) := by decide +kernel
theorem dX11_watcher_5 : decode cX11_watcher 5 = .ok (.ifCond .eq 12, 3) := by decide +kernel
theorem dX11_watcher_8 : decode cX11_watcher 8 = .ok (.iload_n 2, 1) := by decide +kernel
theorem dX11_watcher_9 : decode cX11_watcher 9 = .ok (.iconst 0, 1) := by decide +kernel
theorem dX11_watcher_10 : decode cX11_watcher 10 = .ok (.iconst 2, 1) := by decide +kernel
theorem dX11_watcher_11 : decode cX11_watcher 11 = .ok (.invokestatic 96, 3) := by decide +kernel
theorem dX11_watcher_14 : decode cX11_watcher 14 = .ok (.ifCond .ne 9, 3) := by decide +kernel
theorem dX11_watcher_17 : decode cX11_watcher 17 = .ok (.aload_n 0, 1) := by decide +kernel
theorem dX11_watcher_18 : decode cX11_watcher 18 = .ok (.iconst 1, 1) := by decide +kernel
theorem dX11_watcher_19 : decode cX11_watcher 19 = .ok (.invokevirtual 119, 3) := by decide +kernel
theorem dX11_watcher_22 : decode cX11_watcher 22 = .ok (.ireturn, 1) := by decide +kernel
theorem dX11_watcher_23 : decode cX11_watcher 23 = .ok (.aload_n 0, 1) := by decide +kernel
theorem dX11_watcher_24 : decode cX11_watcher 24 = .ok (.aload_n 0, 1) := by decide +kernel
theorem dX11_watcher_25 : decode cX11_watcher 25 = .ok (.getfield 10, 3) := by decide +kernel
theorem dX11_watcher_28 : decode cX11_watcher 28 = .ok (.getfield 216, 3) := by decide +kernel
theorem dX11_watcher_31 : decode cX11_watcher 31 = .ok (.iload_n 1, 1) := by decide +kernel
theorem dX11_watcher_32 : decode cX11_watcher 32 = .ok (.iload_n 2, 1) := by decide +kernel
theorem dX11_watcher_33 : decode cX11_watcher 33 = .ok (.invokevirtual 247, 3) := by decide +kernel
theorem dX11_watcher_36 : decode cX11_watcher 36 = .ok (.invokevirtual 172, 3) := by decide +kernel
theorem dX11_watcher_39 : decode cX11_watcher 39 = .ok (.ireturn, 1) := by decide +kernel
theorem dX11_standing_0 : decode cX11_standing 0 = .ok (.aload_n 0, 1) := by decide +kernel
theorem dX11_standing_1 : decode cX11_standing 1 = .ok (.iload_n 1, 1) := by decide +kernel
theorem dX11_standing_2 : decode cX11_standing 2 = .ok (.invokevirtual 263, 3) := by decide +kernel
theorem dX11_standing_5 : decode cX11_standing 5 = .ok (.ifCond .ne 9, 3) := by decide +kernel
theorem dX11_standing_8 : decode cX11_standing 8 = .ok (.aload_n 0, 1) := by decide +kernel
theorem dX11_standing_9 : decode cX11_standing 9 = .ok (.iconst 1, 1) := by decide +kernel
theorem dX11_standing_10 : decode cX11_standing 10 = .ok (.invokevirtual 119, 3) := by decide +kernel
theorem dX11_standing_13 : decode cX11_standing 13 = .ok (.ireturn, 1) := by decide +kernel
theorem dX11_standing_14 : decode cX11_standing 14 = .ok (.aload_n 0, 1) := by decide +kernel
theorem dX11_standing_15 : decode cX11_standing 15 = .ok (.aload_n 0, 1) := by decide +kernel
theorem dX11_standing_16 : decode cX11_standing 16 = .ok (.getfield 10, 3) := by decide +kernel
theorem dX11_standing_19 : decode cX11_standing 19 = .ok (.iload_n 1, 1) := by decide +kernel
theorem dX11_standing_20 : decode cX11_standing 20 = .ok (.invokevirtual 252, 3) := by decide +kernel
theorem dX11_standing_23 : decode cX11_standing 23 = .ok (.invokevirtual 172, 3) := by decide +kernel
theorem dX11_standing_26 : decode cX11_standing 26 = .ok (.ireturn, 1) := by decide +kernel
theorem dX11_road_0 : decode cX11_road 0 = .ok (.aload_n 0, 1) := by decide +kernel
theorem dX11_road_1 : decode cX11_road 1 = .ok (.iload_n 1, 1) := by decide +kernel
theorem dX11_road_2 : decode cX11_road 2 = .ok (.invokevirtual 263, 3) := by decide +kernel
theorem dX11_road_5 : decode cX11_road 5 = .ok (.ifCond .eq 16, 3) := by decide +kernel
theorem dX11_road_8 : decode cX11_road 8 = .ok (.aload_n 0, 1) := by decide +kernel
theorem dX11_road_9 : decode cX11_road 9 = .ok (.iload_n 2, 1) := by decide +kernel
theorem dX11_road_10 : decode cX11_road 10 = .ok (.invokevirtual 263, 3) := by decide +kernel
theorem dX11_road_13 : decode cX11_road 13 = .ok (.ifCond .eq 8, 3) := by decide +kernel
theorem dX11_road_16 : decode cX11_road 16 = .ok (.iload_n 1, 1) := by decide +kernel
theorem dX11_road_17 : decode cX11_road 17 = .ok (.iload_n 2, 1) := by decide +kernel
theorem dX11_road_18 : decode cX11_road 18 = .ok (.if_icmp .ne 9, 3) := by decide +kernel
theorem dX11_road_21 : decode cX11_road 21 = .ok (.aload_n 0, 1) := by decide +kernel
theorem dX11_road_22 : decode cX11_road 22 = .ok (.iconst 1, 1) := by decide +kernel
theorem dX11_road_23 : decode cX11_road 23 = .ok (.invokevirtual 119, 3) := by decide +kernel
theorem dX11_road_26 : decode cX11_road 26 = .ok (.ireturn, 1) := by decide +kernel
theorem dX11_road_27 : decode cX11_road 27 = .ok (.aload_n 0, 1) := by decide +kernel
theorem dX11_road_28 : decode cX11_road 28 = .ok (.getfield 10, 3) := by decide +kernel
theorem dX11_road_31 : decode cX11_road 31 = .ok (.getfield 163, 3) := by decide +kernel
theorem dX11_road_34 : decode cX11_road 34 = .ok (.iload_n 1, 1) := by decide +kernel
theorem dX11_road_35 : decode cX11_road 35 = .ok (.iload_n 2, 1) := by decide +kernel
theorem dX11_road_36 : decode cX11_road 36 = .ok (.invokevirtual 266, 3) := by decide +kernel
theorem dX11_road_39 : decode cX11_road 39 = .ok (.istore_n 3, 1) := by decide +kernel
theorem dX11_road_40 : decode cX11_road 40 = .ok (.iload_n 3, 1) := by decide +kernel
theorem dX11_road_41 : decode cX11_road 41 = .ok (.ifCond .ne 12, 3) := by decide +kernel
theorem dX11_road_44 : decode cX11_road 44 = .ok (.aload_n 0, 1) := by decide +kernel
theorem dX11_road_45 : decode cX11_road 45 = .ok (.bipush 6, 2) := by decide +kernel
theorem dX11_road_47 : decode cX11_road 47 = .ok (.invokevirtual 119, 3) := by decide +kernel
theorem dX11_road_50 : decode cX11_road 50 = .ok (.goto 8, 3) := by decide +kernel
theorem dX11_road_53 : decode cX11_road 53 = .ok (.aload_n 0, 1) := by decide +kernel
theorem dX11_road_54 : decode cX11_road 54 = .ok (.iload_n 3, 1) := by decide +kernel
theorem dX11_road_55 : decode cX11_road 55 = .ok (.invokevirtual 172, 3) := by decide +kernel
theorem dX11_road_58 : decode cX11_road 58 = .ok (.ireturn, 1) := by decide +kernel
theorem dX11_hour_0 : decode cX11_hour 0 = .ok (.iload_n 1, 1) := by decide +kernel
theorem dX11_hour_1 : decode cX11_hour 1 = .ok (.iconst 1, 1) := by decide +kernel
theorem dX11_hour_2 : decode cX11_hour 2 = .ok (.bipush 99, 2) := by decide +kernel
theorem dX11_hour_4 : decode cX11_hour 4 = .ok (.invokestatic 96, 3) := by decide +kernel
theorem dX11_hour_7 : decode cX11_hour 7 = .ok (.ifCond .ne 9, 3) := by decide +kernel
theorem dX11_hour_10 : decode cX11_hour 10 = .ok (.aload_n 0, 1) := by decide +kernel
theorem dX11_hour_11 : decode cX11_hour 11 = .ok (.iconst 1, 1) := by decide +kernel
theorem dX11_hour_12 : decode cX11_hour 12 = .ok (.invokevirtual 119, 3) := by decide +kernel
theorem dX11_hour_15 : decode cX11_hour 15 = .ok (.ireturn, 1) := by decide +kernel
theorem dX11_hour_16 : decode cX11_hour 16 = .ok (.aload_n 0, 1) := by decide +kernel
theorem dX11_hour_17 : decode cX11_hour 17 = .ok (.getfield 10, 3) := by decide +kernel
theorem dX11_hour_20 : decode cX11_hour 20 = .ok (.iload_n 1, 1) := by decide +kernel
theorem dX11_hour_21 : decode cX11_hour 21 = .ok (.invokevirtual 269, 3) := by decide +kernel
theorem dX11_hour_24 : decode cX11_hour 24 = .ok (.ifCond .ne 9, 3) := by decide +kernel
theorem dX11_hour_27 : decode cX11_hour 27 = .ok (.aload_n 0, 1) := by decide +kernel
theorem dX11_hour_28 : decode cX11_hour 28 = .ok (.iconst 4, 1) := by decide +kernel
theorem dX11_hour_29 : decode cX11_hour 29 = .ok (.invokevirtual 119, 3) := by decide +kernel
theorem dX11_hour_32 : decode cX11_hour 32 = .ok (.ireturn, 1) := by decide +kernel
theorem dX11_hour_33 : decode cX11_hour 33 = .ok (.aload_n 0, 1) := by decide +kernel
theorem dX11_hour_34 : decode cX11_hour 34 = .ok (.getfield 10, 3) := by decide +kernel
theorem dX11_hour_37 : decode cX11_hour 37 = .ok (.iconst 1, 1) := by decide +kernel
theorem dX11_hour_38 : decode cX11_hour 38 = .ok (.invokevirtual 231, 3) := by decide +kernel
theorem dX11_hour_41 : decode cX11_hour 41 = .ok (.invokestatic 255, 3) := by decide +kernel
theorem dX11_hour_44 : decode cX11_hour 44 = .ok (.istore_n 2, 1) := by decide +kernel
theorem dX11_hour_45 : decode cX11_hour 45 = .ok (.aload_n 0, 1) := by decide +kernel
theorem dX11_hour_46 : decode cX11_hour 46 = .ok (.getfield 10, 3) := by decide +kernel
theorem dX11_hour_49 : decode cX11_hour 49 = .ok (.iload_n 1, 1) := by decide +kernel
theorem dX11_hour_50 : decode cX11_hour 50 = .ok (.invokevirtual 272, 3) := by decide +kernel
theorem dX11_hour_53 : decode cX11_hour 53 = .ok (.aload_n 0, 1) := by decide +kernel
theorem dX11_hour_54 : decode cX11_hour 54 = .ok (.aload_n 0, 1) := by decide +kernel
theorem dX11_hour_55 : decode cX11_hour 55 = .ok (.getfield 10, 3) := by decide +kernel
theorem dX11_hour_58 : decode cX11_hour 58 = .ok (.iconst 1, 1) := by decide +kernel
theorem dX11_hour_59 : decode cX11_hour 59 = .ok (.invokevirtual 231, 3) := by decide +kernel
theorem dX11_hour_62 : decode cX11_hour 62 = .ok (.invokestatic 255, 3) := by decide +kernel
theorem dX11_hour_65 : decode cX11_hour 65 = .ok (.iload_n 2, 1) := by decide +kernel
theorem dX11_hour_66 : decode cX11_hour 66 = .ok (.isub, 1) := by decide +kernel
theorem dX11_hour_67 : decode cX11_hour 67 = .ok (.invokevirtual 172, 3) := by decide +kernel
theorem dX11_hour_70 : decode cX11_hour 70 = .ok (.ireturn, 1) := by decide +kernel
theorem dX11_order_0 : decode cX11_order 0 = .ok (.aload_n 0, 1) := by decide +kernel
theorem dX11_order_1 : decode cX11_order 1 = .ok (.iload_n 1, 1) := by decide +kernel
theorem dX11_order_2 : decode cX11_order 2 = .ok (.invokevirtual 241, 3) := by decide +kernel
theorem dX11_order_5 : decode cX11_order 5 = .ok (.ifCond .eq 11, 3) := by decide +kernel
theorem dX11_order_8 : decode cX11_order 8 = .ok (.aload_n 0, 1) := by decide +kernel
theorem dX11_order_9 : decode cX11_order 9 = .ok (.iload_n 2, 1) := by decide +kernel
theorem dX11_order_10 : decode cX11_order 10 = .ok (.invokevirtual 249, 3) := by decide +kernel
theorem dX11_order_13 : decode cX11_order 13 = .ok (.ifCond .ne 9, 3) := by decide +kernel
theorem dX11_order_16 : decode cX11_order 16 = .ok (.aload_n 0, 1) := by decide +kernel
theorem dX11_order_17 : decode cX11_order 17 = .ok (.iconst 1, 1) := by decide +kernel
theorem dX11_order_18 : decode cX11_order 18 = .ok (.invokevirtual 100, 3) := by decide +kernel
theorem dX11_order_21 : decode cX11_order 21 = .ok (.ireturn, 1) := by decide +kernel
theorem dX11_order_22 : decode cX11_order 22 = .ok (.iload_n 3, 1) := by decide +kernel
theorem dX11_order_23 : decode cX11_order 23 = .ok (.aload_n 0, 1) := by decide +kernel
theorem dX11_order_24 : decode cX11_order 24 = .ok (.getfield 10, 3) := by decide +kernel
theorem dX11_order_27 : decode cX11_order 27 = .ok (.iload_n 1, 1) := by decide +kernel
theorem dX11_order_28 : decode cX11_order 28 = .ok (.iload_n 2, 1) := by decide +kernel
theorem dX11_order_29 : decode cX11_order 29 = .ok (.invokevirtual 275, 3) := by decide +kernel
theorem dX11_order_32 : decode cX11_order 32 = .ok (.if_icmp .ne 10, 3) := by decide +kernel
theorem dX11_order_35 : decode cX11_order 35 = .ok (.aload_n 0, 1) := by decide +kernel
theorem dX11_order_36 : decode cX11_order 36 = .ok (.bipush 7, 2) := by decide +kernel
theorem dX11_order_38 : decode cX11_order 38 = .ok (.invokevirtual 100, 3) := by decide +kernel
theorem dX11_order_41 : decode cX11_order 41 = .ok (.ireturn, 1) := by decide +kernel
theorem dX11_order_42 : decode cX11_order 42 = .ok (.aload_n 0, 1) := by decide +kernel
theorem dX11_order_43 : decode cX11_order 43 = .ok (.getfield 10, 3) := by decide +kernel
theorem dX11_order_46 : decode cX11_order 46 = .ok (.iload_n 1, 1) := by decide +kernel
theorem dX11_order_47 : decode cX11_order 47 = .ok (.iload_n 2, 1) := by decide +kernel
theorem dX11_order_48 : decode cX11_order 48 = .ok (.invokevirtual 279, 3) := by decide +kernel
theorem dX11_order_51 : decode cX11_order 51 = .ok (.aload_n 0, 1) := by decide +kernel
theorem dX11_order_52 : decode cX11_order 52 = .ok (.invokevirtual 107, 3) := by decide +kernel
theorem dX11_order_55 : decode cX11_order 55 = .ok (.ireturn, 1) := by decide +kernel
theorem dX11_put_0 : decode cX11_put 0 = .ok (.aload_n 0, 1) := by decide +kernel
theorem dX11_put_1 : decode cX11_put 1 = .ok (.iload_n 1, 1) := by decide +kernel
theorem dX11_put_2 : decode cX11_put 2 = .ok (.invokevirtual 249, 3) := by decide +kernel
theorem dX11_put_5 : decode cX11_put 5 = .ok (.ifCond .eq 13, 3) := by decide +kernel
theorem dX11_put_8 : decode cX11_put 8 = .ok (.iload_n 2, 1) := by decide +kernel
theorem dX11_put_9 : decode cX11_put 9 = .ok (.iconst 1, 1) := by decide +kernel
theorem dX11_put_10 : decode cX11_put 10 = .ok (.bipush 99, 2) := by decide +kernel
theorem dX11_put_12 : decode cX11_put 12 = .ok (.invokestatic 96, 3) := by decide +kernel
theorem dX11_put_15 : decode cX11_put 15 = .ok (.ifCond .ne 9, 3) := by decide +kernel
theorem dX11_put_18 : decode cX11_put 18 = .ok (.aload_n 0, 1) := by decide +kernel
theorem dX11_put_19 : decode cX11_put 19 = .ok (.iconst 1, 1) := by decide +kernel
theorem dX11_put_20 : decode cX11_put 20 = .ok (.invokevirtual 119, 3) := by decide +kernel
theorem dX11_put_23 : decode cX11_put 23 = .ok (.ireturn, 1) := by decide +kernel
theorem dX11_put_24 : decode cX11_put 24 = .ok (.aload_n 0, 1) := by decide +kernel
theorem dX11_put_25 : decode cX11_put 25 = .ok (.getfield 10, 3) := by decide +kernel
theorem dX11_put_28 : decode cX11_put 28 = .ok (.iload_n 1, 1) := by decide +kernel
theorem dX11_put_29 : decode cX11_put 29 = .ok (.iload_n 2, 1) := by decide +kernel
theorem dX11_put_30 : decode cX11_put 30 = .ok (.invokevirtual 283, 3) := by decide +kernel
theorem dX11_put_33 : decode cX11_put 33 = .ok (.ifCond .ne 10, 3) := by decide +kernel
theorem dX11_put_36 : decode cX11_put 36 = .ok (.aload_n 0, 1) := by decide +kernel
theorem dX11_put_37 : decode cX11_put 37 = .ok (.bipush 7, 2) := by decide +kernel
theorem dX11_put_39 : decode cX11_put 39 = .ok (.invokevirtual 119, 3) := by decide +kernel
theorem dX11_put_42 : decode cX11_put 42 = .ok (.ireturn, 1) := by decide +kernel
theorem dX11_put_43 : decode cX11_put 43 = .ok (.aload_n 0, 1) := by decide +kernel
theorem dX11_put_44 : decode cX11_put 44 = .ok (.aload_n 0, 1) := by decide +kernel
theorem dX11_put_45 : decode cX11_put 45 = .ok (.getfield 10, 3) := by decide +kernel
theorem dX11_put_48 : decode cX11_put 48 = .ok (.getfield 213, 3) := by decide +kernel
theorem dX11_put_51 : decode cX11_put 51 = .ok (.iload_n 1, 1) := by decide +kernel
theorem dX11_put_52 : decode cX11_put 52 = .ok (.iconst 1, 1) := by decide +kernel
theorem dX11_put_53 : decode cX11_put 53 = .ok (.invokevirtual 247, 3) := by decide +kernel
theorem dX11_put_56 : decode cX11_put 56 = .ok (.invokevirtual 172, 3) := by decide +kernel
theorem dX11_put_59 : decode cX11_put 59 = .ok (.ireturn, 1) := by decide +kernel
theorem dX11_raise_0 : decode cX11_raise 0 = .ok (.aload_n 0, 1) := by decide +kernel
theorem dX11_raise_1 : decode cX11_raise 1 = .ok (.iload_n 1, 1) := by decide +kernel
theorem dX11_raise_2 : decode cX11_raise 2 = .ok (.invokevirtual 249, 3) := by decide +kernel
theorem dX11_raise_5 : decode cX11_raise 5 = .ok (.ifCond .eq 12, 3) := by decide +kernel
theorem dX11_raise_8 : decode cX11_raise 8 = .ok (.iload_n 2, 1) := by decide +kernel
theorem dX11_raise_9 : decode cX11_raise 9 = .ok (.iconst 1, 1) := by decide +kernel
theorem dX11_raise_10 : decode cX11_raise 10 = .ok (.iconst 4, 1) := by decide +kernel
theorem dX11_raise_11 : decode cX11_raise 11 = .ok (.invokestatic 96, 3) := by decide +kernel
theorem dX11_raise_14 : decode cX11_raise 14 = .ok (.ifCond .ne 9, 3) := by decide +kernel
theorem dX11_raise_17 : decode cX11_raise 17 = .ok (.aload_n 0, 1) := by decide +kernel
theorem dX11_raise_18 : decode cX11_raise 18 = .ok (.iconst 1, 1) := by decide +kernel
theorem dX11_raise_19 : decode cX11_raise 19 = .ok (.invokevirtual 100, 3) := by decide +kernel
theorem dX11_raise_22 : decode cX11_raise 22 = .ok (.ireturn, 1) := by decide +kernel
theorem dX11_raise_23 : decode cX11_raise 23 = .ok (.aload_n 0, 1) := by decide +kernel
theorem dX11_raise_24 : decode cX11_raise 24 = .ok (.getfield 10, 3) := by decide +kernel
theorem dX11_raise_27 : decode cX11_raise 27 = .ok (.iload_n 1, 1) := by decide +kernel
theorem dX11_raise_28 : decode cX11_raise 28 = .ok (.invokevirtual 286, 3) := by decide +kernel
theorem dX11_raise_31 : decode cX11_raise 31 = .ok (.ifCond .ne 10, 3) := by decide +kernel
theorem dX11_raise_34 : decode cX11_raise 34 = .ok (.aload_n 0, 1) := by decide +kernel
theorem dX11_raise_35 : decode cX11_raise 35 = .ok (.bipush 7, 2) := by decide +kernel
theorem dX11_raise_37 : decode cX11_raise 37 = .ok (.invokevirtual 100, 3) := by decide +kernel
theorem dX11_raise_40 : decode cX11_raise 40 = .ok (.ireturn, 1) := by decide +kernel
theorem dX11_raise_41 : decode cX11_raise 41 = .ok (.aload_n 0, 1) := by decide +kernel
theorem dX11_raise_42 : decode cX11_raise 42 = .ok (.getfield 10, 3) := by decide +kernel
theorem dX11_raise_45 : decode cX11_raise 45 = .ok (.getfield 213, 3) := by decide +kernel
theorem dX11_raise_48 : decode cX11_raise 48 = .ok (.iload_n 1, 1) := by decide +kernel
theorem dX11_raise_49 : decode cX11_raise 49 = .ok (.iconst 2, 1) := by decide +kernel
theorem dX11_raise_50 : decode cX11_raise 50 = .ok (.iload_n 2, 1) := by decide +kernel
theorem dX11_raise_51 : decode cX11_raise 51 = .ok (.invokevirtual 289, 3) := by decide +kernel
theorem dX11_raise_54 : decode cX11_raise 54 = .ok (.aload_n 0, 1) := by decide +kernel
theorem dX11_raise_55 : decode cX11_raise 55 = .ok (.invokevirtual 107, 3) := by decide +kernel
theorem dX11_raise_58 : decode cX11_raise 58 = .ok (.ireturn, 1) := by decide +kernel
theorem dX11_plan_0 : decode cX11_plan 0 = .ok (.aload_n 0, 1) := by decide +kernel
theorem dX11_plan_1 : decode cX11_plan 1 = .ok (.iload_n 1, 1) := by decide +kernel
theorem dX11_plan_2 : decode cX11_plan 2 = .ok (.invokevirtual 263, 3) := by decide +kernel
theorem dX11_plan_5 : decode cX11_plan 5 = .ok (.ifCond .eq 23, 3) := by decide +kernel
theorem dX11_plan_8 : decode cX11_plan 8 = .ok (.iload_n 2, 1) := by decide +kernel
theorem dX11_plan_9 : decode cX11_plan 9 = .ok (.iconst 0, 1) := by decide +kernel
theorem dX11_plan_10 : decode cX11_plan 10 = .ok (.sipush 999, 3) := by decide +kernel
theorem dX11_plan_13 : decode cX11_plan 13 = .ok (.invokestatic 96, 3) := by decide +kernel
theorem dX11_plan_16 : decode cX11_plan 16 = .ok (.ifCond .eq 12, 3) := by decide +kernel
theorem dX11_plan_19 : decode cX11_plan 19 = .ok (.iload_n 3, 1) := by decide +kernel
theorem dX11_plan_20 : decode cX11_plan 20 = .ok (.iconst 1, 1) := by decide +kernel
theorem dX11_plan_21 : decode cX11_plan 21 = .ok (.iconst 4, 1) := by decide +kernel
theorem dX11_plan_22 : decode cX11_plan 22 = .ok (.invokestatic 96, 3) := by decide +kernel
theorem dX11_plan_25 : decode cX11_plan 25 = .ok (.ifCond .ne 9, 3) := by decide +kernel
theorem dX11_plan_28 : decode cX11_plan 28 = .ok (.aload_n 0, 1) := by decide +kernel
theorem dX11_plan_29 : decode cX11_plan 29 = .ok (.iconst 1, 1) := by decide +kernel
theorem dX11_plan_30 : decode cX11_plan 30 = .ok (.invokevirtual 119, 3) := by decide +kernel
theorem dX11_plan_33 : decode cX11_plan 33 = .ok (.ireturn, 1) := by decide +kernel
theorem dX11_plan_34 : decode cX11_plan 34 = .ok (.aload_n 0, 1) := by decide +kernel
theorem dX11_plan_35 : decode cX11_plan 35 = .ok (.getfield 10, 3) := by decide +kernel
theorem dX11_plan_38 : decode cX11_plan 38 = .ok (.getfield 213, 3) := by decide +kernel
theorem dX11_plan_41 : decode cX11_plan 41 = .ok (.invokevirtual 291, 3) := by decide +kernel
theorem dX11_plan_44 : decode cX11_plan 44 = .ok (.ifCond .eq 9, 3) := by decide +kernel
theorem dX11_plan_47 : decode cX11_plan 47 = .ok (.aload_n 0, 1) := by decide +kernel
theorem dX11_plan_48 : decode cX11_plan 48 = .ok (.iconst 4, 1) := by decide +kernel
theorem dX11_plan_49 : decode cX11_plan 49 = .ok (.invokevirtual 119, 3) := by decide +kernel
theorem dX11_plan_52 : decode cX11_plan 52 = .ok (.ireturn, 1) := by decide +kernel
theorem dX11_plan_53 : decode cX11_plan 53 = .ok (.aload_n 0, 1) := by decide +kernel
theorem dX11_plan_54 : decode cX11_plan 54 = .ok (.aload_n 0, 1) := by decide +kernel
theorem dX11_plan_55 : decode cX11_plan 55 = .ok (.getfield 10, 3) := by decide +kernel
theorem dX11_plan_58 : decode cX11_plan 58 = .ok (.iload_n 1, 1) := by decide +kernel
theorem dX11_plan_59 : decode cX11_plan 59 = .ok (.iload_n 2, 1) := by decide +kernel
theorem dX11_plan_60 : decode cX11_plan 60 = .ok (.iload_n 3, 1) := by decide +kernel
theorem dX11_plan_61 : decode cX11_plan 61 = .ok (.invokevirtual 294, 3) := by decide +kernel
theorem dX11_plan_64 : decode cX11_plan 64 = .ok (.invokevirtual 172, 3) := by decide +kernel
theorem dX11_plan_67 : decode cX11_plan 67 = .ok (.ireturn, 1) := by decide +kernel
theorem dX11_bear_0 : decode cX11_bear 0 = .ok (.aload_n 0, 1) := by decide +kernel
theorem dX11_bear_1 : decode cX11_bear 1 = .ok (.iload_n 1, 1) := by decide +kernel
theorem dX11_bear_2 : decode cX11_bear 2 = .ok (.invokevirtual 263, 3) := by decide +kernel
theorem dX11_bear_5 : decode cX11_bear 5 = .ok (.ifCond .ne 9, 3) := by decide +kernel
theorem dX11_bear_8 : decode cX11_bear 8 = .ok (.aload_n 0, 1) := by decide +kernel
theorem dX11_bear_9 : decode cX11_bear 9 = .ok (.iconst 1, 1) := by decide +kernel
theorem dX11_bear_10 : decode cX11_bear 10 = .ok (.invokevirtual 119, 3) := by decide +kernel
theorem dX11_bear_13 : decode cX11_bear 13 = .ok (.ireturn, 1) := by decide +kernel
theorem dX11_bear_14 : decode cX11_bear 14 = .ok (.aload_n 0, 1) := by decide +kernel
theorem dX11_bear_15 : decode cX11_bear 15 = .ok (.getfield 10, 3) := by decide +kernel
theorem dX11_bear_18 : decode cX11_bear 18 = .ok (.getfield 210, 3) := by decide +kernel
theorem dX11_bear_21 : decode cX11_bear 21 = .ok (.invokevirtual 291, 3) := by decide +kernel
theorem dX11_bear_24 : decode cX11_bear 24 = .ok (.ifCond .eq 9, 3) := by decide +kernel
theorem dX11_bear_27 : decode cX11_bear 27 = .ok (.aload_n 0, 1) := by decide +kernel
theorem dX11_bear_28 : decode cX11_bear 28 = .ok (.iconst 4, 1) := by decide +kernel
theorem dX11_bear_29 : decode cX11_bear 29 = .ok (.invokevirtual 119, 3) := by decide +kernel
theorem dX11_bear_32 : decode cX11_bear 32 = .ok (.ireturn, 1) := by decide +kernel
theorem dX11_bear_33 : decode cX11_bear 33 = .ok (.aload_n 0, 1) := by decide +kernel
theorem dX11_bear_34 : decode cX11_bear 34 = .ok (.aload_n 0, 1) := by decide +kernel
theorem dX11_bear_35 : decode cX11_bear 35 = .ok (.getfield 10, 3) := by decide +kernel
theorem dX11_bear_38 : decode cX11_bear 38 = .ok (.iload_n 1, 1) := by decide +kernel
theorem dX11_bear_39 : decode cX11_bear 39 = .ok (.invokevirtual 298, 3) := by decide +kernel
theorem dX11_bear_42 : decode cX11_bear 42 = .ok (.invokevirtual 172, 3) := by decide +kernel
theorem dX11_bear_45 : decode cX11_bear 45 = .ok (.ireturn, 1) := by decide +kernel
theorem dX11_post_0 : decode cX11_post 0 = .ok (.aload_n 0, 1) := by decide +kernel
theorem dX11_post_1 : decode cX11_post 1 = .ok (.iload_n 1, 1) := by decide +kernel
theorem dX11_post_2 : decode cX11_post 2 = .ok (.invokevirtual 260, 3) := by decide +kernel
theorem dX11_post_5 : decode cX11_post 5 = .ok (.ifCond .eq 11, 3) := by decide +kernel
theorem dX11_post_8 : decode cX11_post 8 = .ok (.aload_n 0, 1) := by decide +kernel
theorem dX11_post_9 : decode cX11_post 9 = .ok (.iload_n 2, 1) := by decide +kernel
theorem dX11_post_10 : decode cX11_post 10 = .ok (.invokevirtual 263, 3) := by decide +kernel
theorem dX11_post_13 : decode cX11_post 13 = .ok (.ifCond .ne 9, 3) := by decide +kernel
theorem dX11_post_16 : decode cX11_post 16 = .ok (.aload_n 0, 1) := by decide +kernel
theorem dX11_post_17 : decode cX11_post 17 = .ok (.iconst 1, 1) := by decide +kernel
theorem dX11_post_18 : decode cX11_post 18 = .ok (.invokevirtual 100, 3) := by decide +kernel
theorem dX11_post_21 : decode cX11_post 21 = .ok (.ireturn, 1) := by decide +kernel
theorem dX11_post_22 : decode cX11_post 22 = .ok (.aload_n 0, 1) := by decide +kernel
theorem dX11_post_23 : decode cX11_post 23 = .ok (.getfield 10, 3) := by decide +kernel
theorem dX11_post_26 : decode cX11_post 26 = .ok (.getfield 216, 3) := by decide +kernel
theorem dX11_post_29 : decode cX11_post 29 = .ok (.iload_n 1, 1) := by decide +kernel
theorem dX11_post_30 : decode cX11_post 30 = .ok (.iconst 0, 1) := by decide +kernel
theorem dX11_post_31 : decode cX11_post 31 = .ok (.invokevirtual 247, 3) := by decide +kernel
theorem dX11_post_34 : decode cX11_post 34 = .ok (.iload_n 2, 1) := by decide +kernel
theorem dX11_post_35 : decode cX11_post 35 = .ok (.if_icmp .ne 10, 3) := by decide +kernel
theorem dX11_post_38 : decode cX11_post 38 = .ok (.aload_n 0, 1) := by decide +kernel
theorem dX11_post_39 : decode cX11_post 39 = .ok (.bipush 7, 2) := by decide +kernel
theorem dX11_post_41 : decode cX11_post 41 = .ok (.invokevirtual 100, 3) := by decide +kernel
theorem dX11_post_44 : decode cX11_post 44 = .ok (.ireturn, 1) := by decide +kernel
theorem dX11_post_45 : decode cX11_post 45 = .ok (.aload_n 0, 1) := by decide +kernel
theorem dX11_post_46 : decode cX11_post 46 = .ok (.getfield 10, 3) := by decide +kernel
theorem dX11_post_49 : decode cX11_post 49 = .ok (.getfield 216, 3) := by decide +kernel
theorem dX11_post_52 : decode cX11_post 52 = .ok (.iload_n 1, 1) := by decide +kernel
theorem dX11_post_53 : decode cX11_post 53 = .ok (.iconst 0, 1) := by decide +kernel
theorem dX11_post_54 : decode cX11_post 54 = .ok (.iload_n 2, 1) := by decide +kernel
theorem dX11_post_55 : decode cX11_post 55 = .ok (.invokevirtual 289, 3) := by decide +kernel
theorem dX11_post_58 : decode cX11_post 58 = .ok (.aload_n 0, 1) := by decide +kernel
theorem dX11_post_59 : decode cX11_post 59 = .ok (.invokevirtual 107, 3) := by decide +kernel
theorem dX11_post_62 : decode cX11_post 62 = .ok (.ireturn, 1) := by decide +kernel
theorem dX11_scare_0 : decode cX11_scare 0 = .ok (.aload_n 0, 1) := by decide +kernel
theorem dX11_scare_1 : decode cX11_scare 1 = .ok (.iload_n 1, 1) := by decide +kernel
theorem dX11_scare_2 : decode cX11_scare 2 = .ok (.invokevirtual 260, 3) := by decide +kernel
theorem dX11_scare_5 : decode cX11_scare 5 = .ok (.ifCond .eq 13, 3) := by decide +kernel
theorem dX11_scare_8 : decode cX11_scare 8 = .ok (.iload_n 2, 1) := by decide +kernel
theorem dX11_scare_9 : decode cX11_scare 9 = .ok (.iconst 1, 1) := by decide +kernel
theorem dX11_scare_10 : decode cX11_scare 10 = .ok (.bipush 7, 2) := by decide +kernel
theorem dX11_scare_12 : decode cX11_scare 12 = .ok (.invokestatic 96, 3) := by decide +kernel
theorem dX11_scare_15 : decode cX11_scare 15 = .ok (.ifCond .ne 9, 3) := by decide +kernel
theorem dX11_scare_18 : decode cX11_scare 18 = .ok (.aload_n 0, 1) := by decide +kernel
theorem dX11_scare_19 : decode cX11_scare 19 = .ok (.iconst 1, 1) := by decide +kernel
theorem dX11_scare_20 : decode cX11_scare 20 = .ok (.invokevirtual 100, 3) := by decide +kernel
theorem dX11_scare_23 : decode cX11_scare 23 = .ok (.ireturn, 1) := by decide +kernel
theorem dX11_scare_24 : decode cX11_scare 24 = .ok (.aload_n 0, 1) := by decide +kernel
theorem dX11_scare_25 : decode cX11_scare 25 = .ok (.getfield 10, 3) := by decide +kernel
theorem dX11_scare_28 : decode cX11_scare 28 = .ok (.getfield 216, 3) := by decide +kernel
theorem dX11_scare_31 : decode cX11_scare 31 = .ok (.iload_n 1, 1) := by decide +kernel
theorem dX11_scare_32 : decode cX11_scare 32 = .ok (.iconst 1, 1) := by decide +kernel
theorem dX11_scare_33 : decode cX11_scare 33 = .ok (.iload_n 2, 1) := by decide +kernel
theorem dX11_scare_34 : decode cX11_scare 34 = .ok (.invokevirtual 289, 3) := by decide +kernel
theorem dX11_scare_37 : decode cX11_scare 37 = .ok (.aload_n 0, 1) := by decide +kernel
theorem dX11_scare_38 : decode cX11_scare 38 = .ok (.invokevirtual 107, 3) := by decide +kernel
theorem dX11_scare_41 : decode cX11_scare 41 = .ok (.ireturn, 1) := by decide +kernel
theorem dX11_rule_0 : decode cX11_rule 0 = .ok (.iload_n 1, 1) := by decide +kernel
theorem dX11_rule_1 : decode cX11_rule 1 = .ok (.iconst 5, 1) := by decide +kernel
theorem dX11_rule_2 : decode cX11_rule 2 = .ok (.if_icmp .ne 26, 3) := by decide +kernel
theorem dX11_rule_5 : decode cX11_rule 5 = .ok (.iload_n 2, 1) := by decide +kernel
theorem dX11_rule_6 : decode cX11_rule 6 = .ok (.iconst 0, 1) := by decide +kernel
theorem dX11_rule_7 : decode cX11_rule 7 = .ok (.bipush 99, 2) := by decide +kernel
theorem dX11_rule_9 : decode cX11_rule 9 = .ok (.invokestatic 96, 3) := by decide +kernel
theorem dX11_rule_12 : decode cX11_rule 12 = .ok (.ifCond .eq 16, 3) := by decide +kernel
theorem dX11_rule_15 : decode cX11_rule 15 = .ok (.aload_n 0, 1) := by decide +kernel
theorem dX11_rule_16 : decode cX11_rule 16 = .ok (.getfield 10, 3) := by decide +kernel
theorem dX11_rule_19 : decode cX11_rule 19 = .ok (.iload_n 2, 1) := by decide +kernel
theorem dX11_rule_20 : decode cX11_rule 20 = .ok (.putfield 219, 3) := by decide +kernel
theorem dX11_rule_23 : decode cX11_rule 23 = .ok (.aload_n 0, 1) := by decide +kernel
theorem dX11_rule_24 : decode cX11_rule 24 = .ok (.invokevirtual 107, 3) := by decide +kernel
theorem dX11_rule_27 : decode cX11_rule 27 = .ok (.ireturn, 1) := by decide +kernel
theorem dX11_rule_28 : decode cX11_rule 28 = .ok (.iload_n 1, 1) := by decide +kernel
theorem dX11_rule_29 : decode cX11_rule 29 = .ok (.bipush 6, 2) := by decide +kernel
theorem dX11_rule_31 : decode cX11_rule 31 = .ok (.if_icmp .ne 26, 3) := by decide +kernel
theorem dX11_rule_34 : decode cX11_rule 34 = .ok (.iload_n 2, 1) := by decide +kernel
theorem dX11_rule_35 : decode cX11_rule 35 = .ok (.iconst 1, 1) := by decide +kernel
theorem dX11_rule_36 : decode cX11_rule 36 = .ok (.bipush 24, 2) := by decide +kernel
theorem dX11_rule_38 : decode cX11_rule 38 = .ok (.invokestatic 96, 3) := by decide +kernel
theorem dX11_rule_41 : decode cX11_rule 41 = .ok (.ifCond .eq 16, 3) := by decide +kernel
theorem dX11_rule_44 : decode cX11_rule 44 = .ok (.aload_n 0, 1) := by decide +kernel
theorem dX11_rule_45 : decode cX11_rule 45 = .ok (.getfield 10, 3) := by decide +kernel
theorem dX11_rule_48 : decode cX11_rule 48 = .ok (.iload_n 2, 1) := by decide +kernel
theorem dX11_rule_49 : decode cX11_rule 49 = .ok (.putfield 222, 3) := by decide +kernel
theorem dX11_rule_52 : decode cX11_rule 52 = .ok (.aload_n 0, 1) := by decide +kernel
theorem dX11_rule_53 : decode cX11_rule 53 = .ok (.invokevirtual 107, 3) := by decide +kernel
theorem dX11_rule_56 : decode cX11_rule 56 = .ok (.ireturn, 1) := by decide +kernel
theorem dX11_rule_57 : decode cX11_rule 57 = .ok (.iload_n 1, 1) := by decide +kernel
theorem dX11_rule_58 : decode cX11_rule 58 = .ok (.bipush 7, 2) := by decide +kernel
theorem dX11_rule_60 : decode cX11_rule 60 = .ok (.if_icmp .ne 26, 3) := by decide +kernel
theorem dX11_rule_63 : decode cX11_rule 63 = .ok (.iload_n 2, 1) := by decide +kernel
theorem dX11_rule_64 : decode cX11_rule 64 = .ok (.iconst 0, 1) := by decide +kernel
theorem dX11_rule_65 : decode cX11_rule 65 = .ok (.bipush 16, 2) := by decide +kernel
theorem dX11_rule_67 : decode cX11_rule 67 = .ok (.invokestatic 96, 3) := by decide +kernel
theorem dX11_rule_70 : decode cX11_rule 70 = .ok (.ifCond .eq 16, 3) := by decide +kernel
theorem dX11_rule_73 : decode cX11_rule 73 = .ok (.aload_n 0, 1) := by decide +kernel
theorem dX11_rule_74 : decode cX11_rule 74 = .ok (.getfield 10, 3) := by decide +kernel
theorem dX11_rule_77 : decode cX11_rule 77 = .ok (.iload_n 2, 1) := by decide +kernel
theorem dX11_rule_78 : decode cX11_rule 78 = .ok (.putfield 225, 3) := by decide +kernel
theorem dX11_rule_81 : decode cX11_rule 81 = .ok (.aload_n 0, 1) := by decide +kernel
theorem dX11_rule_82 : decode cX11_rule 82 = .ok (.invokevirtual 107, 3) := by decide +kernel
theorem dX11_rule_85 : decode cX11_rule 85 = .ok (.ireturn, 1) := by decide +kernel
theorem dX11_rule_86 : decode cX11_rule 86 = .ok (.aload_n 0, 1) := by decide +kernel
theorem dX11_rule_87 : decode cX11_rule 87 = .ok (.iconst 1, 1) := by decide +kernel
theorem dX11_rule_88 : decode cX11_rule 88 = .ok (.invokevirtual 100, 3) := by decide +kernel
theorem dX11_rule_91 : decode cX11_rule 91 = .ok (.ireturn, 1) := by decide +kernel
theorem dX11_far_0 : decode cX11_far 0 = .ok (.aload_n 0, 1) := by decide +kernel
theorem dX11_far_1 : decode cX11_far 1 = .ok (.iload_n 1, 1) := by decide +kernel
theorem dX11_far_2 : decode cX11_far 2 = .ok (.invokevirtual 263, 3) := by decide +kernel
theorem dX11_far_5 : decode cX11_far 5 = .ok (.ifCond .eq 11, 3) := by decide +kernel
theorem dX11_far_8 : decode cX11_far 8 = .ok (.aload_n 0, 1) := by decide +kernel
theorem dX11_far_9 : decode cX11_far 9 = .ok (.iload_n 2, 1) := by decide +kernel
theorem dX11_far_10 : decode cX11_far 10 = .ok (.invokevirtual 263, 3) := by decide +kernel
theorem dX11_far_13 : decode cX11_far 13 = .ok (.ifCond .ne 9, 3) := by decide +kernel
theorem dX11_far_16 : decode cX11_far 16 = .ok (.aload_n 0, 1) := by decide +kernel
theorem dX11_far_17 : decode cX11_far 17 = .ok (.iconst 1, 1) := by decide +kernel
theorem dX11_far_18 : decode cX11_far 18 = .ok (.invokevirtual 119, 3) := by decide +kernel
theorem dX11_far_21 : decode cX11_far 21 = .ok (.ireturn, 1) := by decide +kernel
theorem dX11_far_22 : decode cX11_far 22 = .ok (.aload_n 0, 1) := by decide +kernel
theorem dX11_far_23 : decode cX11_far 23 = .ok (.getfield 10, 3) := by decide +kernel
theorem dX11_far_26 : decode cX11_far 26 = .ok (.getfield 163, 3) := by decide +kernel
theorem dX11_far_29 : decode cX11_far 29 = .ok (.iload_n 1, 1) := by decide +kernel
theorem dX11_far_30 : decode cX11_far 30 = .ok (.iload_n 2, 1) := by decide +kernel
theorem dX11_far_31 : decode cX11_far 31 = .ok (.invokevirtual 301, 3) := by decide +kernel
theorem dX11_far_34 : decode cX11_far 34 = .ok (.istore_n 3, 1) := by decide +kernel
theorem dX11_far_35 : decode cX11_far 35 = .ok (.iload_n 3, 1) := by decide +kernel
theorem dX11_far_36 : decode cX11_far 36 = .ok (.iconst (-1), 1) := by decide +kernel
theorem dX11_far_37 : decode cX11_far 37 = .ok (.if_icmp .ne 12, 3) := by decide +kernel
theorem dX11_far_40 : decode cX11_far 40 = .ok (.aload_n 0, 1) := by decide +kernel
theorem dX11_far_41 : decode cX11_far 41 = .ok (.bipush 6, 2) := by decide +kernel
theorem dX11_far_43 : decode cX11_far 43 = .ok (.invokevirtual 119, 3) := by decide +kernel
theorem dX11_far_46 : decode cX11_far 46 = .ok (.goto 8, 3) := by decide +kernel
theorem dX11_far_49 : decode cX11_far 49 = .ok (.aload_n 0, 1) := by decide +kernel
theorem dX11_far_50 : decode cX11_far 50 = .ok (.iload_n 3, 1) := by decide +kernel
theorem dX11_far_51 : decode cX11_far 51 = .ok (.invokevirtual 172, 3) := by decide +kernel
theorem dX11_far_54 : decode cX11_far 54 = .ok (.ireturn, 1) := by decide +kernel
theorem dX11_way_0 : decode cX11_way 0 = .ok (.aload_n 0, 1) := by decide +kernel
theorem dX11_way_1 : decode cX11_way 1 = .ok (.iload_n 1, 1) := by decide +kernel
theorem dX11_way_2 : decode cX11_way 2 = .ok (.invokevirtual 263, 3) := by decide +kernel
theorem dX11_way_5 : decode cX11_way 5 = .ok (.ifCond .eq 11, 3) := by decide +kernel
theorem dX11_way_8 : decode cX11_way 8 = .ok (.aload_n 0, 1) := by decide +kernel
theorem dX11_way_9 : decode cX11_way 9 = .ok (.iload_n 2, 1) := by decide +kernel
theorem dX11_way_10 : decode cX11_way 10 = .ok (.invokevirtual 263, 3) := by decide +kernel
theorem dX11_way_13 : decode cX11_way 13 = .ok (.ifCond .ne 9, 3) := by decide +kernel
theorem dX11_way_16 : decode cX11_way 16 = .ok (.aload_n 0, 1) := by decide +kernel
theorem dX11_way_17 : decode cX11_way 17 = .ok (.iconst 1, 1) := by decide +kernel
theorem dX11_way_18 : decode cX11_way 18 = .ok (.invokevirtual 119, 3) := by decide +kernel
theorem dX11_way_21 : decode cX11_way 21 = .ok (.ireturn, 1) := by decide +kernel
theorem dX11_way_22 : decode cX11_way 22 = .ok (.iload_n 1, 1) := by decide +kernel
theorem dX11_way_23 : decode cX11_way 23 = .ok (.iload_n 2, 1) := by decide +kernel
theorem dX11_way_24 : decode cX11_way 24 = .ok (.if_icmp .ne 10, 3) := by decide +kernel
theorem dX11_way_27 : decode cX11_way 27 = .ok (.aload_n 0, 1) := by decide +kernel
theorem dX11_way_28 : decode cX11_way 28 = .ok (.bipush 7, 2) := by decide +kernel
theorem dX11_way_30 : decode cX11_way 30 = .ok (.invokevirtual 119, 3) := by decide +kernel
theorem dX11_way_33 : decode cX11_way 33 = .ok (.ireturn, 1) := by decide +kernel
theorem dX11_way_34 : decode cX11_way 34 = .ok (.aload_n 0, 1) := by decide +kernel
theorem dX11_way_35 : decode cX11_way 35 = .ok (.getfield 10, 3) := by decide +kernel
theorem dX11_way_38 : decode cX11_way 38 = .ok (.getfield 163, 3) := by decide +kernel
theorem dX11_way_41 : decode cX11_way 41 = .ok (.iload_n 1, 1) := by decide +kernel
theorem dX11_way_42 : decode cX11_way 42 = .ok (.iload_n 2, 1) := by decide +kernel
theorem dX11_way_43 : decode cX11_way 43 = .ok (.invokevirtual 304, 3) := by decide +kernel
theorem dX11_way_46 : decode cX11_way 46 = .ok (.istore_n 3, 1) := by decide +kernel
theorem dX11_way_47 : decode cX11_way 47 = .ok (.iload_n 3, 1) := by decide +kernel
theorem dX11_way_48 : decode cX11_way 48 = .ok (.iconst (-1), 1) := by decide +kernel
theorem dX11_way_49 : decode cX11_way 49 = .ok (.if_icmp .ne 12, 3) := by decide +kernel
theorem dX11_way_52 : decode cX11_way 52 = .ok (.aload_n 0, 1) := by decide +kernel
theorem dX11_way_53 : decode cX11_way 53 = .ok (.bipush 6, 2) := by decide +kernel
theorem dX11_way_55 : decode cX11_way 55 = .ok (.invokevirtual 119, 3) := by decide +kernel
theorem dX11_way_58 : decode cX11_way 58 = .ok (.goto 8, 3) := by decide +kernel
theorem dX11_way_61 : decode cX11_way 61 = .ok (.aload_n 0, 1) := by decide +kernel
theorem dX11_way_62 : decode cX11_way 62 = .ok (.iload_n 3, 1) := by decide +kernel
theorem dX11_way_63 : decode cX11_way 63 = .ok (.invokevirtual 172, 3) := by decide +kernel
theorem dX11_way_66 : decode cX11_way 66 = .ok (.ireturn, 1) := by decide +kernel
theorem dX11_centre_0 : decode cX11_centre 0 = .ok (.aload_n 0, 1) := by decide +kernel
theorem dX11_centre_1 : decode cX11_centre 1 = .ok (.getfield 10, 3) := by decide +kernel
theorem dX11_centre_4 : decode cX11_centre 4 = .ok (.getfield 163, 3) := by decide +kernel
theorem dX11_centre_7 : decode cX11_centre 7 = .ok (.invokevirtual 307, 3) := by decide +kernel
theorem dX11_centre_10 : decode cX11_centre 10 = .ok (.istore_n 1, 1) := by decide +kernel
theorem dX11_centre_11 : decode cX11_centre 11 = .ok (.iload_n 1, 1) := by decide +kernel
theorem dX11_centre_12 : decode cX11_centre 12 = .ok (.iconst (-1), 1) := by decide +kernel
theorem dX11_centre_13 : decode cX11_centre 13 = .ok (.if_icmp .ne 12, 3) := by decide +kernel
theorem dX11_centre_16 : decode cX11_centre 16 = .ok (.aload_n 0, 1) := by decide +kernel
theorem dX11_centre_17 : decode cX11_centre 17 = .ok (.bipush 6, 2) := by decide +kernel
theorem dX11_centre_19 : decode cX11_centre 19 = .ok (.invokevirtual 119, 3) := by decide +kernel
theorem dX11_centre_22 : decode cX11_centre 22 = .ok (.goto 8, 3) := by decide +kernel
theorem dX11_centre_25 : decode cX11_centre 25 = .ok (.aload_n 0, 1) := by decide +kernel
theorem dX11_centre_26 : decode cX11_centre 26 = .ok (.iload_n 1, 1) := by decide +kernel
theorem dX11_centre_27 : decode cX11_centre 27 = .ok (.invokevirtual 172, 3) := by decide +kernel
theorem dX11_centre_30 : decode cX11_centre 30 = .ok (.ireturn, 1) := by decide +kernel
theorem dX11_cut_0 : decode cX11_cut 0 = .ok (.aload_n 0, 1) := by decide +kernel
theorem dX11_cut_1 : decode cX11_cut 1 = .ok (.iload_n 1, 1) := by decide +kernel
theorem dX11_cut_2 : decode cX11_cut 2 = .ok (.invokevirtual 263, 3) := by decide +kernel
theorem dX11_cut_5 : decode cX11_cut 5 = .ok (.ifCond .eq 11, 3) := by decide +kernel
theorem dX11_cut_8 : decode cX11_cut 8 = .ok (.aload_n 0, 1) := by decide +kernel
theorem dX11_cut_9 : decode cX11_cut 9 = .ok (.iload_n 2, 1) := by decide +kernel
theorem dX11_cut_10 : decode cX11_cut 10 = .ok (.invokevirtual 263, 3) := by decide +kernel
theorem dX11_cut_13 : decode cX11_cut 13 = .ok (.ifCond .ne 9, 3) := by decide +kernel
theorem dX11_cut_16 : decode cX11_cut 16 = .ok (.aload_n 0, 1) := by decide +kernel
theorem dX11_cut_17 : decode cX11_cut 17 = .ok (.iconst 1, 1) := by decide +kernel
theorem dX11_cut_18 : decode cX11_cut 18 = .ok (.invokevirtual 119, 3) := by decide +kernel
theorem dX11_cut_21 : decode cX11_cut 21 = .ok (.ireturn, 1) := by decide +kernel
theorem dX11_cut_22 : decode cX11_cut 22 = .ok (.iload_n 1, 1) := by decide +kernel
theorem dX11_cut_23 : decode cX11_cut 23 = .ok (.iload_n 2, 1) := by decide +kernel
theorem dX11_cut_24 : decode cX11_cut 24 = .ok (.if_icmp .ne 10, 3) := by decide +kernel
theorem dX11_cut_27 : decode cX11_cut 27 = .ok (.aload_n 0, 1) := by decide +kernel
theorem dX11_cut_28 : decode cX11_cut 28 = .ok (.bipush 7, 2) := by decide +kernel
theorem dX11_cut_30 : decode cX11_cut 30 = .ok (.invokevirtual 119, 3) := by decide +kernel
theorem dX11_cut_33 : decode cX11_cut 33 = .ok (.ireturn, 1) := by decide +kernel
theorem dX11_cut_34 : decode cX11_cut 34 = .ok (.aload_n 0, 1) := by decide +kernel
theorem dX11_cut_35 : decode cX11_cut 35 = .ok (.aload_n 0, 1) := by decide +kernel
theorem dX11_cut_36 : decode cX11_cut 36 = .ok (.getfield 10, 3) := by decide +kernel
theorem dX11_cut_39 : decode cX11_cut 39 = .ok (.getfield 163, 3) := by decide +kernel
theorem dX11_cut_42 : decode cX11_cut 42 = .ok (.iload_n 1, 1) := by decide +kernel
theorem dX11_cut_43 : decode cX11_cut 43 = .ok (.iload_n 2, 1) := by decide +kernel
theorem dX11_cut_44 : decode cX11_cut 44 = .ok (.invokevirtual 310, 3) := by decide +kernel
theorem dX11_cut_47 : decode cX11_cut 47 = .ok (.invokevirtual 172, 3) := by decide +kernel
theorem dX11_cut_50 : decode cX11_cut 50 = .ok (.ireturn, 1) := by decide +kernel
theorem dX11_goal_0 : decode cX11_goal 0 = .ok (.aload_n 0, 1) := by decide +kernel
theorem dX11_goal_1 : decode cX11_goal 1 = .ok (.iload_n 1, 1) := by decide +kernel
theorem dX11_goal_2 : decode cX11_goal 2 = .ok (.invokevirtual 241, 3) := by decide +kernel
theorem dX11_goal_5 : decode cX11_goal 5 = .ok (.ifCond .ne 9, 3) := by decide +kernel
theorem dX11_goal_8 : decode cX11_goal 8 = .ok (.aload_n 0, 1) := by decide +kernel
theorem dX11_goal_9 : decode cX11_goal 9 = .ok (.iconst 1, 1) := by decide +kernel
theorem dX11_goal_10 : decode cX11_goal 10 = .ok (.invokevirtual 119, 3) := by decide +kernel
theorem dX11_goal_13 : decode cX11_goal 13 = .ok (.ireturn, 1) := by decide +kernel
theorem dX11_goal_14 : decode cX11_goal 14 = .ok (.aload_n 0, 1) := by decide +kernel
theorem dX11_goal_15 : decode cX11_goal 15 = .ok (.getfield 10, 3) := by decide +kernel
theorem dX11_goal_18 : decode cX11_goal 18 = .ok (.iload_n 1, 1) := by decide +kernel
theorem dX11_goal_19 : decode cX11_goal 19 = .ok (.invokevirtual 313, 3) := by decide +kernel
theorem dX11_goal_22 : decode cX11_goal 22 = .ok (.istore_n 2, 1) := by decide +kernel
theorem dX11_goal_23 : decode cX11_goal 23 = .ok (.iload_n 2, 1) := by decide +kernel
theorem dX11_goal_24 : decode cX11_goal 24 = .ok (.iconst (-1), 1) := by decide +kernel
theorem dX11_goal_25 : decode cX11_goal 25 = .ok (.if_icmp .ne 12, 3) := by decide +kernel
theorem dX11_goal_28 : decode cX11_goal 28 = .ok (.aload_n 0, 1) := by decide +kernel
theorem dX11_goal_29 : decode cX11_goal 29 = .ok (.bipush 6, 2) := by decide +kernel
theorem dX11_goal_31 : decode cX11_goal 31 = .ok (.invokevirtual 119, 3) := by decide +kernel
theorem dX11_goal_34 : decode cX11_goal 34 = .ok (.goto 8, 3) := by decide +kernel
theorem dX11_goal_37 : decode cX11_goal 37 = .ok (.aload_n 0, 1) := by decide +kernel
theorem dX11_goal_38 : decode cX11_goal 38 = .ok (.iload_n 2, 1) := by decide +kernel
theorem dX11_goal_39 : decode cX11_goal 39 = .ok (.invokevirtual 172, 3) := by decide +kernel
theorem dX11_goal_42 : decode cX11_goal 42 = .ok (.ireturn, 1) := by decide +kernel
theorem dX11_whereIn_0 : decode cX11_whereIn 0 = .ok (.aload_n 0, 1) := by decide +kernel
theorem dX11_whereIn_1 : decode cX11_whereIn 1 = .ok (.iload_n 1, 1) := by decide +kernel
theorem dX11_whereIn_2 : decode cX11_whereIn 2 = .ok (.invokevirtual 241, 3) := by decide +kernel
theorem dX11_whereIn_5 : decode cX11_whereIn 5 = .ok (.ifCond .eq 10, 3) := by decide +kernel
theorem dX11_whereIn_8 : decode cX11_whereIn 8 = .ok (.iload_n 2, 1) := by decide +kernel
theorem dX11_whereIn_9 : decode cX11_whereIn 9 = .ok (.invokestatic 316, 3) := by decide +kernel
theorem dX11_whereIn_12 : decode cX11_whereIn 12 = .ok (.ifCond .ne 9, 3) := by decide +kernel
theorem dX11_whereIn_15 : decode cX11_whereIn 15 = .ok (.aload_n 0, 1) := by decide +kernel
theorem dX11_whereIn_16 : decode cX11_whereIn 16 = .ok (.iconst 1, 1) := by decide +kernel
theorem dX11_whereIn_17 : decode cX11_whereIn 17 = .ok (.invokevirtual 119, 3) := by decide +kernel
theorem dX11_whereIn_20 : decode cX11_whereIn 20 = .ok (.ireturn, 1) := by decide +kernel
theorem dX11_whereIn_21 : decode cX11_whereIn 21 = .ok (.aload_n 0, 1) := by decide +kernel
theorem dX11_whereIn_22 : decode cX11_whereIn 22 = .ok (.iload_n 2, 1) := by decide +kernel
theorem dX11_whereIn_23 : decode cX11_whereIn 23 = .ok (.invokevirtual 319, 3) := by decide +kernel
theorem dX11_whereIn_26 : decode cX11_whereIn 26 = .ok (.aload_n 0, 1) := by decide +kernel
theorem dX11_whereIn_27 : decode cX11_whereIn 27 = .ok (.aload_n 0, 1) := by decide +kernel
theorem dX11_whereIn_28 : decode cX11_whereIn 28 = .ok (.getfield 16, 3) := by decide +kernel
theorem dX11_whereIn_31 : decode cX11_whereIn 31 = .ok (.iload_n 1, 1) := by decide +kernel
theorem dX11_whereIn_32 : decode cX11_whereIn 32 = .ok (.invokevirtual 244, 3) := by decide +kernel
theorem dX11_whereIn_35 : decode cX11_whereIn 35 = .ok (.invokevirtual 172, 3) := by decide +kernel
theorem dX11_whereIn_38 : decode cX11_whereIn 38 = .ok (.ireturn, 1) := by decide +kernel
theorem dX11_standingIn_0 : decode cX11_standingIn 0 = .ok (.aload_n 0, 1) := by decide +kernel
theorem dX11_standingIn_1 : decode cX11_standingIn 1 = .ok (.iload_n 1, 1) := by decide +kernel
theorem dX11_standingIn_2 : decode cX11_standingIn 2 = .ok (.invokevirtual 263, 3) := by decide +kernel
theorem dX11_standingIn_5 : decode cX11_standingIn 5 = .ok (.ifCond .eq 10, 3) := by decide +kernel
theorem dX11_standingIn_8 : decode cX11_standingIn 8 = .ok (.iload_n 2, 1) := by decide +kernel
theorem dX11_standingIn_9 : decode cX11_standingIn 9 = .ok (.invokestatic 316, 3) := by decide +kernel
theorem dX11_standingIn_12 : decode cX11_standingIn 12 = .ok (.ifCond .ne 9, 3) := by decide +kernel
theorem dX11_standingIn_15 : decode cX11_standingIn 15 = .ok (.aload_n 0, 1) := by decide +kernel
theorem dX11_standingIn_16 : decode cX11_standingIn 16 = .ok (.iconst 1, 1) := by decide +kernel
theorem dX11_standingIn_17 : decode cX11_standingIn 17 = .ok (.invokevirtual 119, 3) := by decide +kernel
theorem dX11_standingIn_20 : decode cX11_standingIn 20 = .ok (.ireturn, 1) := by decide +kernel
theorem dX11_standingIn_21 : decode cX11_standingIn 21 = .ok (.aload_n 0, 1) := by decide +kernel
theorem dX11_standingIn_22 : decode cX11_standingIn 22 = .ok (.iload_n 2, 1) := by decide +kernel
theorem dX11_standingIn_23 : decode cX11_standingIn 23 = .ok (.invokevirtual 319, 3) := by decide +kernel
theorem dX11_standingIn_26 : decode cX11_standingIn 26 = .ok (.aload_n 0, 1) := by decide +kernel
theorem dX11_standingIn_27 : decode cX11_standingIn 27 = .ok (.aload_n 0, 1) := by decide +kernel
theorem dX11_standingIn_28 : decode cX11_standingIn 28 = .ok (.getfield 16, 3) := by decide +kernel
theorem dX11_standingIn_31 : decode cX11_standingIn 31 = .ok (.iload_n 1, 1) := by decide +kernel
theorem dX11_standingIn_32 : decode cX11_standingIn 32 = .ok (.invokevirtual 252, 3) := by decide +kernel
theorem dX11_standingIn_35 : decode cX11_standingIn 35 = .ok (.invokevirtual 172, 3) := by decide +kernel
theorem dX11_standingIn_38 : decode cX11_standingIn 38 = .ok (.ireturn, 1) := by decide +kernel
theorem dX11_overIn_0 : decode cX11_overIn 0 = .ok (.aload_n 0, 1) := by decide +kernel
theorem dX11_overIn_1 : decode cX11_overIn 1 = .ok (.iload_n 1, 1) := by decide +kernel
theorem dX11_overIn_2 : decode cX11_overIn 2 = .ok (.invokevirtual 249, 3) := by decide +kernel
theorem dX11_overIn_5 : decode cX11_overIn 5 = .ok (.ifCond .ne 9, 3) := by decide +kernel
theorem dX11_overIn_8 : decode cX11_overIn 8 = .ok (.aload_n 0, 1) := by decide +kernel
theorem dX11_overIn_9 : decode cX11_overIn 9 = .ok (.iconst 1, 1) := by decide +kernel
theorem dX11_overIn_10 : decode cX11_overIn 10 = .ok (.invokevirtual 119, 3) := by decide +kernel
theorem dX11_overIn_13 : decode cX11_overIn 13 = .ok (.ireturn, 1) := by decide +kernel
theorem dX11_overIn_14 : decode cX11_overIn 14 = .ok (.aload_n 0, 1) := by decide +kernel
theorem dX11_overIn_15 : decode cX11_overIn 15 = .ok (.getfield 10, 3) := by decide +kernel
theorem dX11_overIn_18 : decode cX11_overIn 18 = .ok (.iload_n 1, 1) := by decide +kernel
theorem dX11_overIn_19 : decode cX11_overIn 19 = .ok (.invokevirtual 286, 3) := by decide +kernel
theorem dX11_overIn_22 : decode cX11_overIn 22 = .ok (.ifCond .ne 9, 3) := by decide +kernel
theorem dX11_overIn_25 : decode cX11_overIn 25 = .ok (.aload_n 0, 1) := by decide +kernel
theorem dX11_overIn_26 : decode cX11_overIn 26 = .ok (.iconst 0, 1) := by decide +kernel
theorem dX11_overIn_27 : decode cX11_overIn 27 = .ok (.invokevirtual 172, 3) := by decide +kernel
theorem dX11_overIn_30 : decode cX11_overIn 30 = .ok (.ireturn, 1) := by decide +kernel
theorem dX11_overIn_31 : decode cX11_overIn 31 = .ok (.aload_n 0, 1) := by decide +kernel
theorem dX11_overIn_32 : decode cX11_overIn 32 = .ok (.sipush 300, 3) := by decide +kernel
theorem dX11_overIn_35 : decode cX11_overIn 35 = .ok (.invokevirtual 319, 3) := by decide +kernel
theorem dX11_overIn_38 : decode cX11_overIn 38 = .ok (.aload_n 0, 1) := by decide +kernel
theorem dX11_overIn_39 : decode cX11_overIn 39 = .ok (.getfield 16, 3) := by decide +kernel
theorem dX11_overIn_42 : decode cX11_overIn 42 = .ok (.iload_n 1, 1) := by decide +kernel
theorem dX11_overIn_43 : decode cX11_overIn 43 = .ok (.invokevirtual 286, 3) := by decide +kernel
theorem dX11_overIn_46 : decode cX11_overIn 46 = .ok (.ifCond .eq 10, 3) := by decide +kernel
theorem dX11_overIn_49 : decode cX11_overIn 49 = .ok (.aload_n 0, 1) := by decide +kernel
theorem dX11_overIn_50 : decode cX11_overIn 50 = .ok (.bipush 6, 2) := by decide +kernel
theorem dX11_overIn_52 : decode cX11_overIn 52 = .ok (.invokevirtual 119, 3) := by decide +kernel
theorem dX11_overIn_55 : decode cX11_overIn 55 = .ok (.ireturn, 1) := by decide +kernel
theorem dX11_overIn_56 : decode cX11_overIn 56 = .ok (.aload_n 0, 1) := by decide +kernel
theorem dX11_overIn_57 : decode cX11_overIn 57 = .ok (.aload_n 0, 1) := by decide +kernel
theorem dX11_overIn_58 : decode cX11_overIn 58 = .ok (.getfield 16, 3) := by decide +kernel
theorem dX11_overIn_61 : decode cX11_overIn 61 = .ok (.getfield 213, 3) := by decide +kernel
theorem dX11_overIn_64 : decode cX11_overIn 64 = .ok (.iload_n 1, 1) := by decide +kernel
theorem dX11_overIn_65 : decode cX11_overIn 65 = .ok (.iconst 4, 1) := by decide +kernel
theorem dX11_overIn_66 : decode cX11_overIn 66 = .ok (.invokevirtual 247, 3) := by decide +kernel
theorem dX11_overIn_69 : decode cX11_overIn 69 = .ok (.iconst 1, 1) := by decide +kernel
theorem dX11_overIn_70 : decode cX11_overIn 70 = .ok (.iadd, 1) := by decide +kernel
theorem dX11_overIn_71 : decode cX11_overIn 71 = .ok (.aload_n 0, 1) := by decide +kernel
theorem dX11_overIn_72 : decode cX11_overIn 72 = .ok (.getfield 10, 3) := by decide +kernel
theorem dX11_overIn_75 : decode cX11_overIn 75 = .ok (.getfield 228, 3) := by decide +kernel
theorem dX11_overIn_78 : decode cX11_overIn 78 = .ok (.isub, 1) := by decide +kernel
theorem dX11_overIn_79 : decode cX11_overIn 79 = .ok (.invokevirtual 172, 3) := by decide +kernel
theorem dX11_overIn_82 : decode cX11_overIn 82 = .ok (.ireturn, 1) := by decide +kernel
theorem dX11_becomes_0 : decode cX11_becomes 0 = .ok (.aload_n 0, 1) := by decide +kernel
theorem dX11_becomes_1 : decode cX11_becomes 1 = .ok (.iload_n 1, 1) := by decide +kernel
theorem dX11_becomes_2 : decode cX11_becomes 2 = .ok (.invokevirtual 249, 3) := by decide +kernel
theorem dX11_becomes_5 : decode cX11_becomes 5 = .ok (.ifCond .ne 9, 3) := by decide +kernel
theorem dX11_becomes_8 : decode cX11_becomes 8 = .ok (.aload_n 0, 1) := by decide +kernel
theorem dX11_becomes_9 : decode cX11_becomes 9 = .ok (.iconst 1, 1) := by decide +kernel
theorem dX11_becomes_10 : decode cX11_becomes 10 = .ok (.invokevirtual 119, 3) := by decide +kernel
theorem dX11_becomes_13 : decode cX11_becomes 13 = .ok (.ireturn, 1) := by decide +kernel
theorem dX11_becomes_14 : decode cX11_becomes 14 = .ok (.aload_n 0, 1) := by decide +kernel
theorem dX11_becomes_15 : decode cX11_becomes 15 = .ok (.sipush 300, 3) := by decide +kernel
theorem dX11_becomes_18 : decode cX11_becomes 18 = .ok (.invokevirtual 319, 3) := by decide +kernel
theorem dX11_becomes_21 : decode cX11_becomes 21 = .ok (.aload_n 0, 1) := by decide +kernel
theorem dX11_becomes_22 : decode cX11_becomes 22 = .ok (.getfield 16, 3) := by decide +kernel
theorem dX11_becomes_25 : decode cX11_becomes 25 = .ok (.iload_n 1, 1) := by decide +kernel
theorem dX11_becomes_26 : decode cX11_becomes 26 = .ok (.invokevirtual 286, 3) := by decide +kernel
theorem dX11_becomes_29 : decode cX11_becomes 29 = .ok (.ifCond .eq 10, 3) := by decide +kernel
theorem dX11_becomes_32 : decode cX11_becomes 32 = .ok (.aload_n 0, 1) := by decide +kernel
theorem dX11_becomes_33 : decode cX11_becomes 33 = .ok (.bipush 6, 2) := by decide +kernel
theorem dX11_becomes_35 : decode cX11_becomes 35 = .ok (.invokevirtual 119, 3) := by decide +kernel
theorem dX11_becomes_38 : decode cX11_becomes 38 = .ok (.ireturn, 1) := by decide +kernel
theorem dX11_becomes_39 : decode cX11_becomes 39 = .ok (.aload_n 0, 1) := by decide +kernel
theorem dX11_becomes_40 : decode cX11_becomes 40 = .ok (.aload_n 0, 1) := by decide +kernel
theorem dX11_becomes_41 : decode cX11_becomes 41 = .ok (.getfield 16, 3) := by decide +kernel
theorem dX11_becomes_44 : decode cX11_becomes 44 = .ok (.getfield 213, 3) := by decide +kernel
theorem dX11_becomes_47 : decode cX11_becomes 47 = .ok (.iload_n 1, 1) := by decide +kernel
theorem dX11_becomes_48 : decode cX11_becomes 48 = .ok (.iconst 3, 1) := by decide +kernel
theorem dX11_becomes_49 : decode cX11_becomes 49 = .ok (.invokevirtual 247, 3) := by decide +kernel
theorem dX11_becomes_52 : decode cX11_becomes 52 = .ok (.invokevirtual 172, 3) := by decide +kernel
theorem dX11_becomes_55 : decode cX11_becomes 55 = .ok (.ireturn, 1) := by decide +kernel
theorem dX11_wagesIn_0 : decode cX11_wagesIn 0 = .ok (.aload_n 0, 1) := by decide +kernel
theorem dX11_wagesIn_1 : decode cX11_wagesIn 1 = .ok (.iload_n 1, 1) := by decide +kernel
theorem dX11_wagesIn_2 : decode cX11_wagesIn 2 = .ok (.invokevirtual 241, 3) := by decide +kernel
theorem dX11_wagesIn_5 : decode cX11_wagesIn 5 = .ok (.ifCond .eq 10, 3) := by decide +kernel
theorem dX11_wagesIn_8 : decode cX11_wagesIn 8 = .ok (.iload_n 2, 1) := by decide +kernel
theorem dX11_wagesIn_9 : decode cX11_wagesIn 9 = .ok (.invokestatic 316, 3) := by decide +kernel
theorem dX11_wagesIn_12 : decode cX11_wagesIn 12 = .ok (.ifCond .ne 9, 3) := by decide +kernel
theorem dX11_wagesIn_15 : decode cX11_wagesIn 15 = .ok (.aload_n 0, 1) := by decide +kernel
theorem dX11_wagesIn_16 : decode cX11_wagesIn 16 = .ok (.iconst 1, 1) := by decide +kernel
theorem dX11_wagesIn_17 : decode cX11_wagesIn 17 = .ok (.invokevirtual 119, 3) := by decide +kernel
theorem dX11_wagesIn_20 : decode cX11_wagesIn 20 = .ok (.ireturn, 1) := by decide +kernel
theorem dX11_wagesIn_21 : decode cX11_wagesIn 21 = .ok (.aload_n 0, 1) := by decide +kernel
theorem dX11_wagesIn_22 : decode cX11_wagesIn 22 = .ok (.iload_n 2, 1) := by decide +kernel
theorem dX11_wagesIn_23 : decode cX11_wagesIn 23 = .ok (.invokevirtual 319, 3) := by decide +kernel
theorem dX11_wagesIn_26 : decode cX11_wagesIn 26 = .ok (.aload_n 0, 1) := by decide +kernel
theorem dX11_wagesIn_27 : decode cX11_wagesIn 27 = .ok (.aload_n 0, 1) := by decide +kernel
theorem dX11_wagesIn_28 : decode cX11_wagesIn 28 = .ok (.getfield 16, 3) := by decide +kernel
theorem dX11_wagesIn_31 : decode cX11_wagesIn 31 = .ok (.getfield 210, 3) := by decide +kernel
theorem dX11_wagesIn_34 : decode cX11_wagesIn 34 = .ok (.iload_n 1, 1) := by decide +kernel
theorem dX11_wagesIn_35 : decode cX11_wagesIn 35 = .ok (.iconst 3, 1) := by decide +kernel
theorem dX11_wagesIn_36 : decode cX11_wagesIn 36 = .ok (.invokevirtual 247, 3) := by decide +kernel
theorem dX11_wagesIn_39 : decode cX11_wagesIn 39 = .ok (.invokevirtual 172, 3) := by decide +kernel
theorem dX11_wagesIn_42 : decode cX11_wagesIn 42 = .ok (.ireturn, 1) := by decide +kernel
theorem dX11_warnedIn_0 : decode cX11_warnedIn 0 = .ok (.aload_n 0, 1) := by decide +kernel
theorem dX11_warnedIn_1 : decode cX11_warnedIn 1 = .ok (.iload_n 1, 1) := by decide +kernel
theorem dX11_warnedIn_2 : decode cX11_warnedIn 2 = .ok (.invokevirtual 260, 3) := by decide +kernel
theorem dX11_warnedIn_5 : decode cX11_warnedIn 5 = .ok (.ifCond .eq 10, 3) := by decide +kernel
theorem dX11_warnedIn_8 : decode cX11_warnedIn 8 = .ok (.iload_n 2, 1) := by decide +kernel
theorem dX11_warnedIn_9 : decode cX11_warnedIn 9 = .ok (.invokestatic 316, 3) := by decide +kernel
theorem dX11_warnedIn_12 : decode cX11_warnedIn 12 = .ok (.ifCond .ne 9, 3) := by decide +kernel
theorem dX11_warnedIn_15 : decode cX11_warnedIn 15 = .ok (.aload_n 0, 1) := by decide +kernel
theorem dX11_warnedIn_16 : decode cX11_warnedIn 16 = .ok (.iconst 1, 1) := by decide +kernel
theorem dX11_warnedIn_17 : decode cX11_warnedIn 17 = .ok (.invokevirtual 119, 3) := by decide +kernel
theorem dX11_warnedIn_20 : decode cX11_warnedIn 20 = .ok (.ireturn, 1) := by decide +kernel
theorem dX11_warnedIn_21 : decode cX11_warnedIn 21 = .ok (.aload_n 0, 1) := by decide +kernel
theorem dX11_warnedIn_22 : decode cX11_warnedIn 22 = .ok (.iload_n 2, 1) := by decide +kernel
theorem dX11_warnedIn_23 : decode cX11_warnedIn 23 = .ok (.invokevirtual 319, 3) := by decide +kernel
theorem dX11_warnedIn_26 : decode cX11_warnedIn 26 = .ok (.aload_n 0, 1) := by decide +kernel
theorem dX11_warnedIn_27 : decode cX11_warnedIn 27 = .ok (.aload_n 0, 1) := by decide +kernel
theorem dX11_warnedIn_28 : decode cX11_warnedIn 28 = .ok (.getfield 16, 3) := by decide +kernel
theorem dX11_warnedIn_31 : decode cX11_warnedIn 31 = .ok (.getfield 216, 3) := by decide +kernel
theorem dX11_warnedIn_34 : decode cX11_warnedIn 34 = .ok (.iload_n 1, 1) := by decide +kernel
theorem dX11_warnedIn_35 : decode cX11_warnedIn 35 = .ok (.iconst 2, 1) := by decide +kernel
theorem dX11_warnedIn_36 : decode cX11_warnedIn 36 = .ok (.invokevirtual 247, 3) := by decide +kernel
theorem dX11_warnedIn_39 : decode cX11_warnedIn 39 = .ok (.invokevirtual 172, 3) := by decide +kernel
theorem dX11_warnedIn_42 : decode cX11_warnedIn 42 = .ok (.ireturn, 1) := by decide +kernel
theorem dX11_attends_0 : decode cX11_attends 0 = .ok (.aload_n 0, 1) := by decide +kernel
theorem dX11_attends_1 : decode cX11_attends 1 = .ok (.iload_n 1, 1) := by decide +kernel
theorem dX11_attends_2 : decode cX11_attends 2 = .ok (.invokevirtual 241, 3) := by decide +kernel
theorem dX11_attends_5 : decode cX11_attends 5 = .ok (.ifCond .eq 23, 3) := by decide +kernel
theorem dX11_attends_8 : decode cX11_attends 8 = .ok (.iload_n 2, 1) := by decide +kernel
theorem dX11_attends_9 : decode cX11_attends 9 = .ok (.ifCond .lt 19, 3) := by decide +kernel
theorem dX11_attends_12 : decode cX11_attends 12 = .ok (.iload_n 2, 1) := by decide +kernel
theorem dX11_attends_13 : decode cX11_attends 13 = .ok (.iconst 1, 1) := by decide +kernel
theorem dX11_attends_14 : decode cX11_attends 14 = .ok (.aload_n 0, 1) := by decide +kernel
theorem dX11_attends_15 : decode cX11_attends 15 = .ok (.getfield 10, 3) := by decide +kernel
theorem dX11_attends_18 : decode cX11_attends 18 = .ok (.getfield 213, 3) := by decide +kernel
theorem dX11_attends_21 : decode cX11_attends 21 = .ok (.getfield 198, 3) := by decide +kernel
theorem dX11_attends_24 : decode cX11_attends 24 = .ok (.ishl, 1) := by decide +kernel
theorem dX11_attends_25 : decode cX11_attends 25 = .ok (.if_icmp .lt 9, 3) := by decide +kernel
theorem dX11_attends_28 : decode cX11_attends 28 = .ok (.aload_n 0, 1) := by decide +kernel
theorem dX11_attends_29 : decode cX11_attends 29 = .ok (.iconst 1, 1) := by decide +kernel
theorem dX11_attends_30 : decode cX11_attends 30 = .ok (.invokevirtual 119, 3) := by decide +kernel
theorem dX11_attends_33 : decode cX11_attends 33 = .ok (.ireturn, 1) := by decide +kernel
theorem dX11_attends_34 : decode cX11_attends 34 = .ok (.aload_n 0, 1) := by decide +kernel
theorem dX11_attends_35 : decode cX11_attends 35 = .ok (.getfield 56, 3) := by decide +kernel
theorem dX11_attends_38 : decode cX11_attends 38 = .ok (.aload_n 0, 1) := by decide +kernel
theorem dX11_attends_39 : decode cX11_attends 39 = .ok (.getfield 10, 3) := by decide +kernel
theorem dX11_attends_42 : decode cX11_attends 42 = .ok (.invokevirtual 322, 3) := by decide +kernel
theorem dX11_attends_45 : decode cX11_attends 45 = .ok (.iload_n 2, 1) := by decide +kernel
theorem dX11_attends_46 : decode cX11_attends 46 = .ok (.aload_n 0, 1) := by decide +kernel
theorem dX11_attends_47 : decode cX11_attends 47 = .ok (.getfield 56, 3) := by decide +kernel
theorem dX11_attends_50 : decode cX11_attends 50 = .ok (.getfield 325, 3) := by decide +kernel
theorem dX11_attends_53 : decode cX11_attends 53 = .ok (.iconst (-1), 1) := by decide +kernel
theorem dX11_attends_54 : decode cX11_attends 54 = .ok (.ixor, 1) := by decide +kernel
theorem dX11_attends_55 : decode cX11_attends 55 = .ok (.iand, 1) := by decide +kernel
theorem dX11_attends_56 : decode cX11_attends 56 = .ok (.ifCond .eq 10, 3) := by decide +kernel
theorem dX11_attends_59 : decode cX11_attends 59 = .ok (.aload_n 0, 1) := by decide +kernel
theorem dX11_attends_60 : decode cX11_attends 60 = .ok (.bipush 7, 2) := by decide +kernel
theorem dX11_attends_62 : decode cX11_attends 62 = .ok (.invokevirtual 119, 3) := by decide +kernel
theorem dX11_attends_65 : decode cX11_attends 65 = .ok (.ireturn, 1) := by decide +kernel
theorem dX11_attends_66 : decode cX11_attends 66 = .ok (.aload_n 0, 1) := by decide +kernel
theorem dX11_attends_67 : decode cX11_attends 67 = .ok (.aload_n 0, 1) := by decide +kernel
theorem dX11_attends_68 : decode cX11_attends 68 = .ok (.getfield 56, 3) := by decide +kernel
theorem dX11_attends_71 : decode cX11_attends 71 = .ok (.aload_n 0, 1) := by decide +kernel
theorem dX11_attends_72 : decode cX11_attends 72 = .ok (.getfield 10, 3) := by decide +kernel
theorem dX11_attends_75 : decode cX11_attends 75 = .ok (.iload_n 1, 1) := by decide +kernel
theorem dX11_attends_76 : decode cX11_attends 76 = .ok (.iload_n 2, 1) := by decide +kernel
theorem dX11_attends_77 : decode cX11_attends 77 = .ok (.invokevirtual 328, 3) := by decide +kernel
theorem dX11_attends_80 : decode cX11_attends 80 = .ok (.ifCond .eq 7, 3) := by decide +kernel
theorem dX11_attends_83 : decode cX11_attends 83 = .ok (.iconst 1, 1) := by decide +kernel
theorem dX11_attends_84 : decode cX11_attends 84 = .ok (.goto 4, 3) := by decide +kernel
theorem dX11_attends_87 : decode cX11_attends 87 = .ok (.iconst 0, 1) := by decide +kernel
theorem dX11_attends_88 : decode cX11_attends 88 = .ok (.invokevirtual 172, 3) := by decide +kernel
theorem dX11_attends_91 : decode cX11_attends 91 = .ok (.ireturn, 1) := by decide +kernel
theorem dX11_best_0 : decode cX11_best 0 = .ok (.aload_n 0, 1) := by decide +kernel
theorem dX11_best_1 : decode cX11_best 1 = .ok (.iload_n 1, 1) := by decide +kernel
theorem dX11_best_2 : decode cX11_best 2 = .ok (.invokevirtual 241, 3) := by decide +kernel
theorem dX11_best_5 : decode cX11_best 5 = .ok (.ifCond .ne 9, 3) := by decide +kernel
theorem dX11_best_8 : decode cX11_best 8 = .ok (.aload_n 0, 1) := by decide +kernel
theorem dX11_best_9 : decode cX11_best 9 = .ok (.iconst 1, 1) := by decide +kernel
theorem dX11_best_10 : decode cX11_best 10 = .ok (.invokevirtual 119, 3) := by decide +kernel
theorem dX11_best_13 : decode cX11_best 13 = .ok (.ireturn, 1) := by decide +kernel
theorem dX11_best_14 : decode cX11_best 14 = .ok (.aload_n 0, 1) := by decide +kernel
theorem dX11_best_15 : decode cX11_best 15 = .ok (.getfield 56, 3) := by decide +kernel
theorem dX11_best_18 : decode cX11_best 18 = .ok (.aload_n 0, 1) := by decide +kernel
theorem dX11_best_19 : decode cX11_best 19 = .ok (.getfield 10, 3) := by decide +kernel
theorem dX11_best_22 : decode cX11_best 22 = .ok (.invokevirtual 322, 3) := by decide +kernel
theorem dX11_best_25 : decode cX11_best 25 = .ok (.aload_n 0, 1) := by decide +kernel
theorem dX11_best_26 : decode cX11_best 26 = .ok (.aload_n 0, 1) := by decide +kernel
theorem dX11_best_27 : decode cX11_best 27 = .ok (.getfield 56, 3) := by decide +kernel
theorem dX11_best_30 : decode cX11_best 30 = .ok (.aload_n 0, 1) := by decide +kernel
theorem dX11_best_31 : decode cX11_best 31 = .ok (.getfield 10, 3) := by decide +kernel
theorem dX11_best_34 : decode cX11_best 34 = .ok (.iload_n 1, 1) := by decide +kernel
theorem dX11_best_35 : decode cX11_best 35 = .ok (.invokevirtual 332, 3) := by decide +kernel
theorem dX11_best_38 : decode cX11_best 38 = .ok (.invokevirtual 172, 3) := by decide +kernel
theorem dX11_best_41 : decode cX11_best 41 = .ok (.ireturn, 1) := by decide +kernel
theorem dX11_bestWages_0 : decode cX11_bestWages 0 = .ok (.aload_n 0, 1) := by decide +kernel
theorem dX11_bestWages_1 : decode cX11_bestWages 1 = .ok (.iload_n 1, 1) := by decide +kernel
theorem dX11_bestWages_2 : decode cX11_bestWages 2 = .ok (.invokevirtual 241, 3) := by decide +kernel
theorem dX11_bestWages_5 : decode cX11_bestWages 5 = .ok (.ifCond .ne 9, 3) := by decide +kernel
theorem dX11_bestWages_8 : decode cX11_bestWages 8 = .ok (.aload_n 0, 1) := by decide +kernel
theorem dX11_bestWages_9 : decode cX11_bestWages 9 = .ok (.iconst 1, 1) := by decide +kernel
theorem dX11_bestWages_10 : decode cX11_bestWages 10 = .ok (.invokevirtual 119, 3) := by decide +kernel
theorem dX11_bestWages_13 : decode cX11_bestWages 13 = .ok (.ireturn, 1) := by decide +kernel
theorem dX11_bestWages_14 : decode cX11_bestWages 14 = .ok (.aload_n 0, 1) := by decide +kernel
theorem dX11_bestWages_15 : decode cX11_bestWages 15 = .ok (.getfield 56, 3) := by decide +kernel
theorem dX11_bestWages_18 : decode cX11_bestWages 18 = .ok (.aload_n 0, 1) := by decide +kernel
theorem dX11_bestWages_19 : decode cX11_bestWages 19 = .ok (.getfield 10, 3) := by decide +kernel
theorem dX11_bestWages_22 : decode cX11_bestWages 22 = .ok (.invokevirtual 322, 3) := by decide +kernel
theorem dX11_bestWages_25 : decode cX11_bestWages 25 = .ok (.aload_n 0, 1) := by decide +kernel
theorem dX11_bestWages_26 : decode cX11_bestWages 26 = .ok (.aload_n 0, 1) := by decide +kernel
theorem dX11_bestWages_27 : decode cX11_bestWages 27 = .ok (.getfield 10, 3) := by decide +kernel
theorem dX11_bestWages_30 : decode cX11_bestWages 30 = .ok (.aload_n 0, 1) := by decide +kernel
theorem dX11_bestWages_31 : decode cX11_bestWages 31 = .ok (.getfield 56, 3) := by decide +kernel
theorem dX11_bestWages_34 : decode cX11_bestWages 34 = .ok (.aload_n 0, 1) := by decide +kernel
theorem dX11_bestWages_35 : decode cX11_bestWages 35 = .ok (.getfield 10, 3) := by decide +kernel
theorem dX11_bestWages_38 : decode cX11_bestWages 38 = .ok (.iload_n 1, 1) := by decide +kernel
theorem dX11_bestWages_39 : decode cX11_bestWages 39 = .ok (.invokevirtual 332, 3) := by decide +kernel
theorem dX11_bestWages_42 : decode cX11_bestWages 42 = .ok (.invokevirtual 336, 3) := by decide +kernel
theorem dX11_bestWages_45 : decode cX11_bestWages 45 = .ok (.invokevirtual 172, 3) := by decide +kernel
theorem dX11_bestWages_48 : decode cX11_bestWages 48 = .ok (.ireturn, 1) := by decide +kernel
theorem dX11_fewest_0 : decode cX11_fewest 0 = .ok (.aload_n 0, 1) := by decide +kernel
theorem dX11_fewest_1 : decode cX11_fewest 1 = .ok (.getfield 56, 3) := by decide +kernel
theorem dX11_fewest_4 : decode cX11_fewest 4 = .ok (.aload_n 0, 1) := by decide +kernel
