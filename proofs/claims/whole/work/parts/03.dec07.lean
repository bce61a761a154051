theorem dX12_refuse_1 : decode cX12_refuse 1 = .ok (.iload_n 1, 1) := by decide +kernel
theorem dX12_refuse_2 : decode cX12_refuse 2 = .ok (.putfield 79, 3) := by decide +kernel
theorem dX12_refuse_5 : decode cX12_refuse 5 = .ok (.iconst (-1), 1) := by decide +kernel
theorem dX12_refuse_6 : decode cX12_refuse 6 = .ok (.ireturn, 1) := by decide +kernel
theorem dX12_gives_0 : decode cX12_gives 0 = .ok (.aload_n 0, 1) := by decide +kernel
theorem dX12_gives_1 : decode cX12_gives 1 = .ok (.iconst 0, 1) := by decide +kernel
theorem dX12_gives_2 : decode cX12_gives 2 = .ok (.putfield 79, 3) := by decide +kernel
theorem dX12_gives_5 : decode cX12_gives 5 = .ok (.iload_n 1, 1) := by decide +kernel
theorem dX12_gives_6 : decode cX12_gives 6 = .ok (.ireturn, 1) := by decide +kernel
theorem dX12_orNone_0 : decode cX12_orNone 0 = .ok (.iload_n 1, 1) := by decide +kernel
theorem dX12_orNone_1 : decode cX12_orNone 1 = .ok (.iconst (-1), 1) := by decide +kernel
theorem dX12_orNone_2 : decode cX12_orNone 2 = .ok (.if_icmp .ne 12, 3) := by decide +kernel
theorem dX12_orNone_5 : decode cX12_orNone 5 = .ok (.aload_n 0, 1) := by decide +kernel
theorem dX12_orNone_6 : decode cX12_orNone 6 = .ok (.bipush 6, 2) := by decide +kernel
theorem dX12_orNone_8 : decode cX12_orNone 8 = .ok (.invokevirtual 85, 3) := by decide +kernel
theorem dX12_orNone_11 : decode cX12_orNone 11 = .ok (.goto 8, 3) := by decide +kernel
theorem dX12_orNone_14 : decode cX12_orNone 14 = .ok (.aload_n 0, 1) := by decide +kernel
theorem dX12_orNone_15 : decode cX12_orNone 15 = .ok (.iload_n 1, 1) := by decide +kernel
theorem dX12_orNone_16 : decode cX12_orNone 16 = .ok (.invokevirtual 89, 3) := by decide +kernel
theorem dX12_orNone_19 : decode cX12_orNone 19 = .ok (.ireturn, 1) := by decide +kernel
theorem dX12_tellsBy_0 : decode cX12_tellsBy 0 = .ok (.lload_n 1, 1) := by decide +kernel
theorem dX12_tellsBy_1 : decode cX12_tellsBy 1 = .ok (.lstore 5, 2) := by decide +kernel
theorem dX12_tellsBy_3 : decode cX12_tellsBy 3 = .ok (.lload_n 3, 1) := by decide +kernel
theorem dX12_tellsBy_4 : decode cX12_tellsBy 4 = .ok (.lstore 7, 2) := by decide +kernel
theorem dX12_tellsBy_6 : decode cX12_tellsBy 6 = .ok (.lload 7, 2) := by decide +kernel
theorem dX12_tellsBy_8 : decode cX12_tellsBy 8 = .ok (.lconst 0, 1) := by decide +kernel
theorem dX12_tellsBy_9 : decode cX12_tellsBy 9 = .ok (.lcmp, 1) := by decide +kernel
theorem dX12_tellsBy_10 : decode cX12_tellsBy 10 = .ok (.ifCond .eq 21, 3) := by decide +kernel
theorem dX12_tellsBy_13 : decode cX12_tellsBy 13 = .ok (.lload 5, 2) := by decide +kernel
theorem dX12_tellsBy_15 : decode cX12_tellsBy 15 = .ok (.lload 7, 2) := by decide +kernel
theorem dX12_tellsBy_17 : decode cX12_tellsBy 17 = .ok (.lrem, 1) := by decide +kernel
theorem dX12_tellsBy_18 : decode cX12_tellsBy 18 = .ok (.lstore 9, 2) := by decide +kernel
theorem dX12_tellsBy_20 : decode cX12_tellsBy 20 = .ok (.lload 7, 2) := by decide +kernel
theorem dX12_tellsBy_22 : decode cX12_tellsBy 22 = .ok (.lstore 5, 2) := by decide +kernel
theorem dX12_tellsBy_24 : decode cX12_tellsBy 24 = .ok (.lload 9, 2) := by decide +kernel
theorem dX12_tellsBy_26 : decode cX12_tellsBy 26 = .ok (.lstore 7, 2) := by decide +kernel
theorem dX12_tellsBy_28 : decode cX12_tellsBy 28 = .ok (.goto (-22), 3) := by decide +kernel
theorem dX12_tellsBy_31 : decode cX12_tellsBy 31 = .ok (.aload_n 0, 1) := by decide +kernel
theorem dX12_tellsBy_32 : decode cX12_tellsBy 32 = .ok (.lload_n 1, 1) := by decide +kernel
theorem dX12_tellsBy_33 : decode cX12_tellsBy 33 = .ok (.lload 5, 2) := by decide +kernel
theorem dX12_tellsBy_35 : decode cX12_tellsBy 35 = .ok (.ldiv, 1) := by decide +kernel
theorem dX12_tellsBy_36 : decode cX12_tellsBy 36 = .ok (.putfield 82, 3) := by decide +kernel
theorem dX12_tellsBy_39 : decode cX12_tellsBy 39 = .ok (.aload_n 0, 1) := by decide +kernel
theorem dX12_tellsBy_40 : decode cX12_tellsBy 40 = .ok (.lload_n 3, 1) := by decide +kernel
theorem dX12_tellsBy_41 : decode cX12_tellsBy 41 = .ok (.lload 5, 2) := by decide +kernel
theorem dX12_tellsBy_43 : decode cX12_tellsBy 43 = .ok (.ldiv, 1) := by decide +kernel
theorem dX12_tellsBy_44 : decode cX12_tellsBy 44 = .ok (.putfield 17, 3) := by decide +kernel
theorem dX12_tellsBy_47 : decode cX12_tellsBy 47 = .ok (.aload_n 0, 1) := by decide +kernel
theorem dX12_tellsBy_48 : decode cX12_tellsBy 48 = .ok (.iconst 0, 1) := by decide +kernel
theorem dX12_tellsBy_49 : decode cX12_tellsBy 49 = .ok (.invokevirtual 92, 3) := by decide +kernel
theorem dX12_tellsBy_52 : decode cX12_tellsBy 52 = .ok (.ireturn, 1) := by decide +kernel
theorem dX12_isTray_0 : decode cX12_isTray 0 = .ok (.iload_n 0, 1) := by decide +kernel
theorem dX12_isTray_1 : decode cX12_isTray 1 = .ok (.ifCond .lt 12, 3) := by decide +kernel
theorem dX12_isTray_4 : decode cX12_isTray 4 = .ok (.iload_n 0, 1) := by decide +kernel
theorem dX12_isTray_5 : decode cX12_isTray 5 = .ok (.iconst 4, 1) := by decide +kernel
theorem dX12_isTray_6 : decode cX12_isTray 6 = .ok (.if_icmp .ge 7, 3) := by decide +kernel
theorem dX12_isTray_9 : decode cX12_isTray 9 = .ok (.iconst 1, 1) := by decide +kernel
theorem dX12_isTray_10 : decode cX12_isTray 10 = .ok (.goto 4, 3) := by decide +kernel
theorem dX12_isTray_13 : decode cX12_isTray 13 = .ok (.iconst 0, 1) := by decide +kernel
theorem dX12_isTray_14 : decode cX12_isTray 14 = .ok (.ireturn, 1) := by decide +kernel
theorem dX12_shrunk_0 : decode cX12_shrunk 0 = .ok (.iload_n 2, 1) := by decide +kernel
theorem dX12_shrunk_1 : decode cX12_shrunk 1 = .ok (.ifCond .ne 10, 3) := by decide +kernel
theorem dX12_shrunk_4 : decode cX12_shrunk 4 = .ok (.lload_n 0, 1) := by decide +kernel
theorem dX12_shrunk_5 : decode cX12_shrunk 5 = .ok (.l2i, 1) := by decide +kernel
theorem dX12_shrunk_6 : decode cX12_shrunk 6 = .ok (.i2b, 1) := by decide +kernel
theorem dX12_shrunk_7 : decode cX12_shrunk 7 = .ok (.i2l, 1) := by decide +kernel
theorem dX12_shrunk_8 : decode cX12_shrunk 8 = .ok (.goto 27, 3) := by decide +kernel
theorem dX12_shrunk_11 : decode cX12_shrunk 11 = .ok (.iload_n 2, 1) := by decide +kernel
theorem dX12_shrunk_12 : decode cX12_shrunk 12 = .ok (.iconst 1, 1) := by decide +kernel
theorem dX12_shrunk_13 : decode cX12_shrunk 13 = .ok (.if_icmp .ne 10, 3) := by decide +kernel
theorem dX12_shrunk_16 : decode cX12_shrunk 16 = .ok (.lload_n 0, 1) := by decide +kernel
theorem dX12_shrunk_17 : decode cX12_shrunk 17 = .ok (.l2i, 1) := by decide +kernel
theorem dX12_shrunk_18 : decode cX12_shrunk 18 = .ok (.i2s, 1) := by decide +kernel
theorem dX12_shrunk_19 : decode cX12_shrunk 19 = .ok (.i2l, 1) := by decide +kernel
theorem dX12_shrunk_20 : decode cX12_shrunk 20 = .ok (.goto 15, 3) := by decide +kernel
theorem dX12_shrunk_23 : decode cX12_shrunk 23 = .ok (.iload_n 2, 1) := by decide +kernel
theorem dX12_shrunk_24 : decode cX12_shrunk 24 = .ok (.iconst 2, 1) := by decide +kernel
theorem dX12_shrunk_25 : decode cX12_shrunk 25 = .ok (.if_icmp .ne 9, 3) := by decide +kernel
theorem dX12_shrunk_28 : decode cX12_shrunk 28 = .ok (.lload_n 0, 1) := by decide +kernel
theorem dX12_shrunk_29 : decode cX12_shrunk 29 = .ok (.l2i, 1) := by decide +kernel
theorem dX12_shrunk_30 : decode cX12_shrunk 30 = .ok (.i2l, 1) := by decide +kernel
theorem dX12_shrunk_31 : decode cX12_shrunk 31 = .ok (.goto 4, 3) := by decide +kernel
theorem dX12_shrunk_34 : decode cX12_shrunk 34 = .ok (.lload_n 0, 1) := by decide +kernel
theorem dX12_shrunk_35 : decode cX12_shrunk 35 = .ok (.lreturn, 1) := by decide +kernel
theorem dX12_tray_0 : decode cX12_tray 0 = .ok (.iload_n 1, 1) := by decide +kernel
theorem dX12_tray_1 : decode cX12_tray 1 = .ok (.invokestatic 96, 3) := by decide +kernel
theorem dX12_tray_4 : decode cX12_tray 4 = .ok (.ifCond .eq 22, 3) := by decide +kernel
theorem dX12_tray_7 : decode cX12_tray 7 = .ok (.iload_n 2, 1) := by decide +kernel
theorem dX12_tray_8 : decode cX12_tray 8 = .ok (.ifCond .lt 18, 3) := by decide +kernel
theorem dX12_tray_11 : decode cX12_tray 11 = .ok (.iload_n 2, 1) := by decide +kernel
theorem dX12_tray_12 : decode cX12_tray 12 = .ok (.iconst 3, 1) := by decide +kernel
theorem dX12_tray_13 : decode cX12_tray 13 = .ok (.if_icmp .gt 13, 3) := by decide +kernel
theorem dX12_tray_16 : decode cX12_tray 16 = .ok (.iload_n 3, 1) := by decide +kernel
theorem dX12_tray_17 : decode cX12_tray 17 = .ok (.ifCond .lt 9, 3) := by decide +kernel
theorem dX12_tray_20 : decode cX12_tray 20 = .ok (.iload_n 3, 1) := by decide +kernel
theorem dX12_tray_21 : decode cX12_tray 21 = .ok (.bipush 60, 2) := by decide +kernel
theorem dX12_tray_23 : decode cX12_tray 23 = .ok (.if_icmp .le 9, 3) := by decide +kernel
theorem dX12_tray_26 : decode cX12_tray 26 = .ok (.aload_n 0, 1) := by decide +kernel
theorem dX12_tray_27 : decode cX12_tray 27 = .ok (.iconst 1, 1) := by decide +kernel
theorem dX12_tray_28 : decode cX12_tray 28 = .ok (.invokevirtual 92, 3) := by decide +kernel
theorem dX12_tray_31 : decode cX12_tray 31 = .ok (.ireturn, 1) := by decide +kernel
theorem dX12_tray_32 : decode cX12_tray 32 = .ok (.aload_n 0, 1) := by decide +kernel
theorem dX12_tray_33 : decode cX12_tray 33 = .ok (.getfield 21, 3) := by decide +kernel
theorem dX12_tray_36 : decode cX12_tray 36 = .ok (.iload_n 1, 1) := by decide +kernel
theorem dX12_tray_37 : decode cX12_tray 37 = .ok (.iload_n 2, 1) := by decide +kernel
theorem dX12_tray_38 : decode cX12_tray 38 = .ok (.iastore, 1) := by decide +kernel
theorem dX12_tray_39 : decode cX12_tray 39 = .ok (.aload_n 0, 1) := by decide +kernel
theorem dX12_tray_40 : decode cX12_tray 40 = .ok (.getfield 24, 3) := by decide +kernel
theorem dX12_tray_43 : decode cX12_tray 43 = .ok (.iload_n 1, 1) := by decide +kernel
theorem dX12_tray_44 : decode cX12_tray 44 = .ok (.iload_n 3, 1) := by decide +kernel
theorem dX12_tray_45 : decode cX12_tray 45 = .ok (.iastore, 1) := by decide +kernel
theorem dX12_tray_46 : decode cX12_tray 46 = .ok (.iconst 0, 1) := by decide +kernel
theorem dX12_tray_47 : decode cX12_tray 47 = .ok (.istore 4, 2) := by decide +kernel
theorem dX12_tray_49 : decode cX12_tray 49 = .ok (.iload 4, 2) := by decide +kernel
theorem dX12_tray_51 : decode cX12_tray 51 = .ok (.iload_n 3, 1) := by decide +kernel
theorem dX12_tray_52 : decode cX12_tray 52 = .ok (.if_icmp .ge 22, 3) := by decide +kernel
theorem dX12_tray_55 : decode cX12_tray 55 = .ok (.aload_n 0, 1) := by decide +kernel
theorem dX12_tray_56 : decode cX12_tray 56 = .ok (.getfield 27, 3) := by decide +kernel
theorem dX12_tray_59 : decode cX12_tray 59 = .ok (.bipush 60, 2) := by decide +kernel
theorem dX12_tray_61 : decode cX12_tray 61 = .ok (.iload_n 1, 1) := by decide +kernel
theorem dX12_tray_62 : decode cX12_tray 62 = .ok (.imul, 1) := by decide +kernel
theorem dX12_tray_63 : decode cX12_tray 63 = .ok (.iload 4, 2) := by decide +kernel
theorem dX12_tray_65 : decode cX12_tray 65 = .ok (.iadd, 1) := by decide +kernel
theorem dX12_tray_66 : decode cX12_tray 66 = .ok (.lconst 0, 1) := by decide +kernel
theorem dX12_tray_67 : decode cX12_tray 67 = .ok (.lastore, 1) := by decide +kernel
theorem dX12_tray_68 : decode cX12_tray 68 = .ok (.iinc 4 1, 3) := by decide +kernel
theorem dX12_tray_71 : decode cX12_tray 71 = .ok (.goto (-22), 3) := by decide +kernel
theorem dX12_tray_74 : decode cX12_tray 74 = .ok (.aload_n 0, 1) := by decide +kernel
theorem dX12_tray_75 : decode cX12_tray 75 = .ok (.iconst 0, 1) := by decide +kernel
theorem dX12_tray_76 : decode cX12_tray 76 = .ok (.invokevirtual 92, 3) := by decide +kernel
theorem dX12_tray_79 : decode cX12_tray 79 = .ok (.ireturn, 1) := by decide +kernel
theorem dX12_wrongPlace_0 : decode cX12_wrongPlace 0 = .ok (.iload_n 1, 1) := by decide +kernel
theorem dX12_wrongPlace_1 : decode cX12_wrongPlace 1 = .ok (.invokestatic 96, 3) := by decide +kernel
theorem dX12_wrongPlace_4 : decode cX12_wrongPlace 4 = .ok (.ifCond .ne 7, 3) := by decide +kernel
theorem dX12_wrongPlace_7 : decode cX12_wrongPlace 7 = .ok (.iconst 1, 1) := by decide +kernel
theorem dX12_wrongPlace_8 : decode cX12_wrongPlace 8 = .ok (.goto 36, 3) := by decide +kernel
theorem dX12_wrongPlace_11 : decode cX12_wrongPlace 11 = .ok (.aload_n 0, 1) := by decide +kernel
theorem dX12_wrongPlace_12 : decode cX12_wrongPlace 12 = .ok (.getfield 24, 3) := by decide +kernel
theorem dX12_wrongPlace_15 : decode cX12_wrongPlace 15 = .ok (.iload_n 1, 1) := by decide +kernel
theorem dX12_wrongPlace_16 : decode cX12_wrongPlace 16 = .ok (.iaload, 1) := by decide +kernel
theorem dX12_wrongPlace_17 : decode cX12_wrongPlace 17 = .ok (.iconst (-1), 1) := by decide +kernel
theorem dX12_wrongPlace_18 : decode cX12_wrongPlace 18 = .ok (.if_icmp .ne 7, 3) := by decide +kernel
theorem dX12_wrongPlace_21 : decode cX12_wrongPlace 21 = .ok (.iconst 2, 1) := by decide +kernel
theorem dX12_wrongPlace_22 : decode cX12_wrongPlace 22 = .ok (.goto 22, 3) := by decide +kernel
theorem dX12_wrongPlace_25 : decode cX12_wrongPlace 25 = .ok (.iload_n 2, 1) := by decide +kernel
theorem dX12_wrongPlace_26 : decode cX12_wrongPlace 26 = .ok (.ifCond .lt 13, 3) := by decide +kernel
theorem dX12_wrongPlace_29 : decode cX12_wrongPlace 29 = .ok (.iload_n 2, 1) := by decide +kernel
theorem dX12_wrongPlace_30 : decode cX12_wrongPlace 30 = .ok (.aload_n 0, 1) := by decide +kernel
theorem dX12_wrongPlace_31 : decode cX12_wrongPlace 31 = .ok (.getfield 24, 3) := by decide +kernel
theorem dX12_wrongPlace_34 : decode cX12_wrongPlace 34 = .ok (.iload_n 1, 1) := by decide +kernel
theorem dX12_wrongPlace_35 : decode cX12_wrongPlace 35 = .ok (.iaload, 1) := by decide +kernel
theorem dX12_wrongPlace_36 : decode cX12_wrongPlace 36 = .ok (.if_icmp .lt 7, 3) := by decide +kernel
theorem dX12_wrongPlace_39 : decode cX12_wrongPlace 39 = .ok (.iconst 3, 1) := by decide +kernel
theorem dX12_wrongPlace_40 : decode cX12_wrongPlace 40 = .ok (.goto 4, 3) := by decide +kernel
theorem dX12_wrongPlace_43 : decode cX12_wrongPlace 43 = .ok (.iconst 0, 1) := by decide +kernel
theorem dX12_wrongPlace_44 : decode cX12_wrongPlace 44 = .ok (.ireturn, 1) := by decide +kernel
theorem dX12_write_0 : decode cX12_write 0 = .ok (.aload_n 0, 1) := by decide +kernel
theorem dX12_write_1 : decode cX12_write 1 = .ok (.iload_n 1, 1) := by decide +kernel
theorem dX12_write_2 : decode cX12_write 2 = .ok (.iload_n 2, 1) := by decide +kernel
theorem dX12_write_3 : decode cX12_write 3 = .ok (.invokevirtual 99, 3) := by decide +kernel
theorem dX12_write_6 : decode cX12_write 6 = .ok (.istore 5, 2) := by decide +kernel
theorem dX12_write_8 : decode cX12_write 8 = .ok (.iload 5, 2) := by decide +kernel
theorem dX12_write_10 : decode cX12_write 10 = .ok (.ifCond .ne 24, 3) := by decide +kernel
theorem dX12_write_13 : decode cX12_write 13 = .ok (.aload_n 0, 1) := by decide +kernel
theorem dX12_write_14 : decode cX12_write 14 = .ok (.getfield 27, 3) := by decide +kernel
theorem dX12_write_17 : decode cX12_write 17 = .ok (.bipush 60, 2) := by decide +kernel
theorem dX12_write_19 : decode cX12_write 19 = .ok (.iload_n 1, 1) := by decide +kernel
theorem dX12_write_20 : decode cX12_write 20 = .ok (.imul, 1) := by decide +kernel
theorem dX12_write_21 : decode cX12_write 21 = .ok (.iload_n 2, 1) := by decide +kernel
theorem dX12_write_22 : decode cX12_write 22 = .ok (.iadd, 1) := by decide +kernel
theorem dX12_write_23 : decode cX12_write 23 = .ok (.lload_n 3, 1) := by decide +kernel
theorem dX12_write_24 : decode cX12_write 24 = .ok (.aload_n 0, 1) := by decide +kernel
theorem dX12_write_25 : decode cX12_write 25 = .ok (.getfield 21, 3) := by decide +kernel
theorem dX12_write_28 : decode cX12_write 28 = .ok (.iload_n 1, 1) := by decide +kernel
theorem dX12_write_29 : decode cX12_write 29 = .ok (.iaload, 1) := by decide +kernel
theorem dX12_write_30 : decode cX12_write 30 = .ok (.invokestatic 103, 3) := by decide +kernel
theorem dX12_write_33 : decode cX12_write 33 = .ok (.lastore, 1) := by decide +kernel
theorem dX12_write_34 : decode cX12_write 34 = .ok (.aload_n 0, 1) := by decide +kernel
theorem dX12_write_35 : decode cX12_write 35 = .ok (.iload 5, 2) := by decide +kernel
theorem dX12_write_37 : decode cX12_write 37 = .ok (.invokevirtual 92, 3) := by decide +kernel
theorem dX12_write_40 : decode cX12_write 40 = .ok (.ireturn, 1) := by decide +kernel
theorem dX12_read_0 : decode cX12_read 0 = .ok (.aload_n 0, 1) := by decide +kernel
theorem dX12_read_1 : decode cX12_read 1 = .ok (.aload_n 0, 1) := by decide +kernel
theorem dX12_read_2 : decode cX12_read 2 = .ok (.iload_n 1, 1) := by decide +kernel
theorem dX12_read_3 : decode cX12_read 3 = .ok (.iload_n 2, 1) := by decide +kernel
theorem dX12_read_4 : decode cX12_read 4 = .ok (.invokevirtual 99, 3) := by decide +kernel
theorem dX12_read_7 : decode cX12_read 7 = .ok (.putfield 79, 3) := by decide +kernel
theorem dX12_read_10 : decode cX12_read 10 = .ok (.aload_n 0, 1) := by decide +kernel
theorem dX12_read_11 : decode cX12_read 11 = .ok (.getfield 79, 3) := by decide +kernel
theorem dX12_read_14 : decode cX12_read 14 = .ok (.ifCond .le 9, 3) := by decide +kernel
theorem dX12_read_17 : decode cX12_read 17 = .ok (.ldc2_w 107, 3) := by decide +kernel
theorem dX12_read_20 : decode cX12_read 20 = .ok (.goto 14, 3) := by decide +kernel
theorem dX12_read_23 : decode cX12_read 23 = .ok (.aload_n 0, 1) := by decide +kernel
theorem dX12_read_24 : decode cX12_read 24 = .ok (.getfield 27, 3) := by decide +kernel
theorem dX12_read_27 : decode cX12_read 27 = .ok (.bipush 60, 2) := by decide +kernel
theorem dX12_read_29 : decode cX12_read 29 = .ok (.iload_n 1, 1) := by decide +kernel
theorem dX12_read_30 : decode cX12_read 30 = .ok (.imul, 1) := by decide +kernel
theorem dX12_read_31 : decode cX12_read 31 = .ok (.iload_n 2, 1) := by decide +kernel
theorem dX12_read_32 : decode cX12_read 32 = .ok (.iadd, 1) := by decide +kernel
theorem dX12_read_33 : decode cX12_read 33 = .ok (.laload, 1) := by decide +kernel
theorem dX12_read_34 : decode cX12_read 34 = .ok (.lreturn, 1) := by decide +kernel
theorem dX12_pour_0 : decode cX12_pour 0 = .ok (.iload_n 1, 1) := by decide +kernel
theorem dX12_pour_1 : decode cX12_pour 1 = .ok (.invokestatic 96, 3) := by decide +kernel
theorem dX12_pour_4 : decode cX12_pour 4 = .ok (.ifCond .eq 24, 3) := by decide +kernel
theorem dX12_pour_7 : decode cX12_pour 7 = .ok (.iload_n 3, 1) := by decide +kernel
theorem dX12_pour_8 : decode cX12_pour 8 = .ok (.invokestatic 96, 3) := by decide +kernel
theorem dX12_pour_11 : decode cX12_pour 11 = .ok (.ifCond .eq 17, 3) := by decide +kernel
theorem dX12_pour_14 : decode cX12_pour 14 = .ok (.iload_n 2, 1) := by decide +kernel
theorem dX12_pour_15 : decode cX12_pour 15 = .ok (.ifCond .lt 13, 3) := by decide +kernel
theorem dX12_pour_18 : decode cX12_pour 18 = .ok (.iload 4, 2) := by decide +kernel
theorem dX12_pour_20 : decode cX12_pour 20 = .ok (.ifCond .lt 8, 3) := by decide +kernel
theorem dX12_pour_23 : decode cX12_pour 23 = .ok (.iload 5, 2) := by decide +kernel
theorem dX12_pour_25 : decode cX12_pour 25 = .ok (.ifCond .ge 9, 3) := by decide +kernel
theorem dX12_pour_28 : decode cX12_pour 28 = .ok (.aload_n 0, 1) := by decide +kernel
theorem dX12_pour_29 : decode cX12_pour 29 = .ok (.iconst 1, 1) := by decide +kernel
theorem dX12_pour_30 : decode cX12_pour 30 = .ok (.invokevirtual 92, 3) := by decide +kernel
theorem dX12_pour_33 : decode cX12_pour 33 = .ok (.ireturn, 1) := by decide +kernel
theorem dX12_pour_34 : decode cX12_pour 34 = .ok (.aload_n 0, 1) := by decide +kernel
theorem dX12_pour_35 : decode cX12_pour 35 = .ok (.getfield 24, 3) := by decide +kernel
theorem dX12_pour_38 : decode cX12_pour 38 = .ok (.iload_n 1, 1) := by decide +kernel
theorem dX12_pour_39 : decode cX12_pour 39 = .ok (.iaload, 1) := by decide +kernel
theorem dX12_pour_40 : decode cX12_pour 40 = .ok (.iconst (-1), 1) := by decide +kernel
theorem dX12_pour_41 : decode cX12_pour 41 = .ok (.if_icmp .eq 13, 3) := by decide +kernel
theorem dX12_pour_44 : decode cX12_pour 44 = .ok (.aload_n 0, 1) := by decide +kernel
theorem dX12_pour_45 : decode cX12_pour 45 = .ok (.getfield 24, 3) := by decide +kernel
theorem dX12_pour_48 : decode cX12_pour 48 = .ok (.iload_n 3, 1) := by decide +kernel
theorem dX12_pour_49 : decode cX12_pour 49 = .ok (.iaload, 1) := by decide +kernel
theorem dX12_pour_50 : decode cX12_pour 50 = .ok (.iconst (-1), 1) := by decide +kernel
theorem dX12_pour_51 : decode cX12_pour 51 = .ok (.if_icmp .ne 9, 3) := by decide +kernel
theorem dX12_pour_54 : decode cX12_pour 54 = .ok (.aload_n 0, 1) := by decide +kernel
theorem dX12_pour_55 : decode cX12_pour 55 = .ok (.iconst 2, 1) := by decide +kernel
theorem dX12_pour_56 : decode cX12_pour 56 = .ok (.invokevirtual 92, 3) := by decide +kernel
theorem dX12_pour_59 : decode cX12_pour 59 = .ok (.ireturn, 1) := by decide +kernel
theorem dX12_pour_60 : decode cX12_pour 60 = .ok (.aload_n 0, 1) := by decide +kernel
theorem dX12_pour_61 : decode cX12_pour 61 = .ok (.getfield 21, 3) := by decide +kernel
theorem dX12_pour_64 : decode cX12_pour 64 = .ok (.iload_n 1, 1) := by decide +kernel
theorem dX12_pour_65 : decode cX12_pour 65 = .ok (.iaload, 1) := by decide +kernel
theorem dX12_pour_66 : decode cX12_pour 66 = .ok (.aload_n 0, 1) := by decide +kernel
theorem dX12_pour_67 : decode cX12_pour 67 = .ok (.getfield 21, 3) := by decide +kernel
theorem dX12_pour_70 : decode cX12_pour 70 = .ok (.iload_n 3, 1) := by decide +kernel
theorem dX12_pour_71 : decode cX12_pour 71 = .ok (.iaload, 1) := by decide +kernel
theorem dX12_pour_72 : decode cX12_pour 72 = .ok (.if_icmp .eq 10, 3) := by decide +kernel
theorem dX12_pour_75 : decode cX12_pour 75 = .ok (.aload_n 0, 1) := by decide +kernel
theorem dX12_pour_76 : decode cX12_pour 76 = .ok (.bipush 8, 2) := by decide +kernel
theorem dX12_pour_78 : decode cX12_pour 78 = .ok (.invokevirtual 92, 3) := by decide +kernel
theorem dX12_pour_81 : decode cX12_pour 81 = .ok (.ireturn, 1) := by decide +kernel
theorem dX12_pour_82 : decode cX12_pour 82 = .ok (.iload 5, 2) := by decide +kernel
theorem dX12_pour_84 : decode cX12_pour 84 = .ok (.aload_n 0, 1) := by decide +kernel
theorem dX12_pour_85 : decode cX12_pour 85 = .ok (.getfield 24, 3) := by decide +kernel
theorem dX12_pour_88 : decode cX12_pour 88 = .ok (.iload_n 1, 1) := by decide +kernel
theorem dX12_pour_89 : decode cX12_pour 89 = .ok (.iaload, 1) := by decide +kernel
theorem dX12_pour_90 : decode cX12_pour 90 = .ok (.iload_n 2, 1) := by decide +kernel
theorem dX12_pour_91 : decode cX12_pour 91 = .ok (.isub, 1) := by decide +kernel
theorem dX12_pour_92 : decode cX12_pour 92 = .ok (.if_icmp .gt 17, 3) := by decide +kernel
theorem dX12_pour_95 : decode cX12_pour 95 = .ok (.iload 5, 2) := by decide +kernel
theorem dX12_pour_97 : decode cX12_pour 97 = .ok (.aload_n 0, 1) := by decide +kernel
theorem dX12_pour_98 : decode cX12_pour 98 = .ok (.getfield 24, 3) := by decide +kernel
theorem dX12_pour_101 : decode cX12_pour 101 = .ok (.iload_n 3, 1) := by decide +kernel
theorem dX12_pour_102 : decode cX12_pour 102 = .ok (.iaload, 1) := by decide +kernel
theorem dX12_pour_103 : decode cX12_pour 103 = .ok (.iload 4, 2) := by decide +kernel
theorem dX12_pour_105 : decode cX12_pour 105 = .ok (.isub, 1) := by decide +kernel
theorem dX12_pour_106 : decode cX12_pour 106 = .ok (.if_icmp .le 9, 3) := by decide +kernel
theorem dX12_pour_109 : decode cX12_pour 109 = .ok (.aload_n 0, 1) := by decide +kernel
theorem dX12_pour_110 : decode cX12_pour 110 = .ok (.iconst 3, 1) := by decide +kernel
theorem dX12_pour_111 : decode cX12_pour 111 = .ok (.invokevirtual 92, 3) := by decide +kernel
theorem dX12_pour_114 : decode cX12_pour 114 = .ok (.ireturn, 1) := by decide +kernel
theorem dX12_pour_115 : decode cX12_pour 115 = .ok (.iconst 0, 1) := by decide +kernel
theorem dX12_pour_116 : decode cX12_pour 116 = .ok (.istore 6, 2) := by decide +kernel
theorem dX12_pour_118 : decode cX12_pour 118 = .ok (.iload 6, 2) := by decide +kernel
theorem dX12_pour_120 : decode cX12_pour 120 = .ok (.iload 5, 2) := by decide +kernel
theorem dX12_pour_122 : decode cX12_pour 122 = .ok (.if_icmp .ge 58, 3) := by decide +kernel
theorem dX12_pour_125 : decode cX12_pour 125 = .ok (.iload_n 2, 1) := by decide +kernel
theorem dX12_pour_126 : decode cX12_pour 126 = .ok (.iload 4, 2) := by decide +kernel
theorem dX12_pour_128 : decode cX12_pour 128 = .ok (.if_icmp .ge 13, 3) := by decide +kernel
theorem dX12_pour_131 : decode cX12_pour 131 = .ok (.iload 5, 2) := by decide +kernel
theorem dX12_pour_133 : decode cX12_pour 133 = .ok (.iconst 1, 1) := by decide +kernel
theorem dX12_pour_134 : decode cX12_pour 134 = .ok (.isub, 1) := by decide +kernel
theorem dX12_pour_135 : decode cX12_pour 135 = .ok (.iload 6, 2) := by decide +kernel
theorem dX12_pour_137 : decode cX12_pour 137 = .ok (.isub, 1) := by decide +kernel
theorem dX12_pour_138 : decode cX12_pour 138 = .ok (.goto 5, 3) := by decide +kernel
theorem dX12_pour_141 : decode cX12_pour 141 = .ok (.iload 6, 2) := by decide +kernel
theorem dX12_pour_143 : decode cX12_pour 143 = .ok (.istore 7, 2) := by decide +kernel
theorem dX12_pour_145 : decode cX12_pour 145 = .ok (.aload_n 0, 1) := by decide +kernel
theorem dX12_pour_146 : decode cX12_pour 146 = .ok (.getfield 27, 3) := by decide +kernel
theorem dX12_pour_149 : decode cX12_pour 149 = .ok (.bipush 60, 2) := by decide +kernel
theorem dX12_pour_151 : decode cX12_pour 151 = .ok (.iload_n 3, 1) := by decide +kernel
theorem dX12_pour_152 : decode cX12_pour 152 = .ok (.imul, 1) := by decide +kernel
theorem dX12_pour_153 : decode cX12_pour 153 = .ok (.iload 4, 2) := by decide +kernel
theorem dX12_pour_155 : decode cX12_pour 155 = .ok (.iadd, 1) := by decide +kernel
theorem dX12_pour_156 : decode cX12_pour 156 = .ok (.iload 7, 2) := by decide +kernel
theorem dX12_pour_158 : decode cX12_pour 158 = .ok (.iadd, 1) := by decide +kernel
theorem dX12_pour_159 : decode cX12_pour 159 = .ok (.aload_n 0, 1) := by decide +kernel
theorem dX12_pour_160 : decode cX12_pour 160 = .ok (.getfield 27, 3) := by decide +kernel
theorem dX12_pour_163 : decode cX12_pour 163 = .ok (.bipush 60, 2) := by decide +kernel
theorem dX12_pour_165 : decode cX12_pour 165 = .ok (.iload_n 1, 1) := by decide +kernel
theorem dX12_pour_166 : decode cX12_pour 166 = .ok (.imul, 1) := by decide +kernel
theorem dX12_pour_167 : decode cX12_pour 167 = .ok (.iload_n 2, 1) := by decide +kernel
theorem dX12_pour_168 : decode cX12_pour 168 = .ok (.iadd, 1) := by decide +kernel
theorem dX12_pour_169 : decode cX12_pour 169 = .ok (.iload 7, 2) := by decide +kernel
theorem dX12_pour_171 : decode cX12_pour 171 = .ok (.iadd, 1) := by decide +kernel
theorem dX12_pour_172 : decode cX12_pour 172 = .ok (.laload, 1) := by decide +kernel
theorem dX12_pour_173 : decode cX12_pour 173 = .ok (.lastore, 1) := by decide +kernel
theorem dX12_pour_174 : decode cX12_pour 174 = .ok (.iinc 6 1, 3) := by decide +kernel
theorem dX12_pour_177 : decode cX12_pour 177 = .ok (.goto (-59), 3) := by decide +kernel
theorem dX12_pour_180 : decode cX12_pour 180 = .ok (.aload_n 0, 1) := by decide +kernel
theorem dX12_pour_181 : decode cX12_pour 181 = .ok (.iconst 0, 1) := by decide +kernel
theorem dX12_pour_182 : decode cX12_pour 182 = .ok (.invokevirtual 92, 3) := by decide +kernel
theorem dX12_pour_185 : decode cX12_pour 185 = .ok (.ireturn, 1) := by decide +kernel
theorem dX12_isFrom_0 : decode cX12_isFrom 0 = .ok (.lload_n 0, 1) := by decide +kernel
theorem dX12_isFrom_1 : decode cX12_isFrom 1 = .ok (.lload_n 2, 1) := by decide +kernel
theorem dX12_isFrom_2 : decode cX12_isFrom 2 = .ok (.lcmp, 1) := by decide +kernel
theorem dX12_isFrom_3 : decode cX12_isFrom 3 = .ok (.ifCond .lt 14, 3) := by decide +kernel
theorem dX12_isFrom_6 : decode cX12_isFrom 6 = .ok (.lload_n 0, 1) := by decide +kernel
theorem dX12_isFrom_7 : decode cX12_isFrom 7 = .ok (.lload 4, 2) := by decide +kernel
theorem dX12_isFrom_9 : decode cX12_isFrom 9 = .ok (.lcmp, 1) := by decide +kernel
theorem dX12_isFrom_10 : decode cX12_isFrom 10 = .ok (.ifCond .gt 7, 3) := by decide +kernel
theorem dX12_isFrom_13 : decode cX12_isFrom 13 = .ok (.iconst 1, 1) := by decide +kernel
theorem dX12_isFrom_14 : decode cX12_isFrom 14 = .ok (.goto 4, 3) := by decide +kernel
theorem dX12_isFrom_17 : decode cX12_isFrom 17 = .ok (.iconst 0, 1) := by decide +kernel
theorem dX12_isFrom_18 : decode cX12_isFrom 18 = .ok (.ireturn, 1) := by decide +kernel
theorem dX12_feed_0 : decode cX12_feed 0 = .ok (.aload_n 0, 1) := by decide +kernel
theorem dX12_feed_1 : decode cX12_feed 1 = .ok (.getfield 109, 3) := by decide +kernel
theorem dX12_feed_4 : decode cX12_feed 4 = .ok (.bipush 20, 2) := by decide +kernel
theorem dX12_feed_6 : decode cX12_feed 6 = .ok (.iadd, 1) := by decide +kernel
theorem dX12_feed_7 : decode cX12_feed 7 = .ok (.sipush 900, 3) := by decide +kernel
theorem dX12_feed_10 : decode cX12_feed 10 = .ok (.if_icmp .le 5, 3) := by decide +kernel
theorem dX12_feed_13 : decode cX12_feed 13 = .ok (.iconst (-1), 1) := by decide +kernel
theorem dX12_feed_14 : decode cX12_feed 14 = .ok (.ireturn, 1) := by decide +kernel
theorem dX12_feed_15 : decode cX12_feed 15 = .ok (.aload_n 0, 1) := by decide +kernel
theorem dX12_feed_16 : decode cX12_feed 16 = .ok (.iload_n 1, 1) := by decide +kernel
theorem dX12_feed_17 : decode cX12_feed 17 = .ok (.invokevirtual 112, 3) := by decide +kernel
theorem dX12_feed_20 : decode cX12_feed 20 = .ok (.aload_n 0, 1) := by decide +kernel
theorem dX12_feed_21 : decode cX12_feed 21 = .ok (.iload_n 2, 1) := by decide +kernel
theorem dX12_feed_22 : decode cX12_feed 22 = .ok (.invokevirtual 112, 3) := by decide +kernel
theorem dX12_feed_25 : decode cX12_feed 25 = .ok (.aload_n 0, 1) := by decide +kernel
theorem dX12_feed_26 : decode cX12_feed 26 = .ok (.iload_n 3, 1) := by decide +kernel
theorem dX12_feed_27 : decode cX12_feed 27 = .ok (.invokevirtual 112, 3) := by decide +kernel
theorem dX12_feed_30 : decode cX12_feed 30 = .ok (.aload_n 0, 1) := by decide +kernel
theorem dX12_feed_31 : decode cX12_feed 31 = .ok (.iload 4, 2) := by decide +kernel
theorem dX12_feed_33 : decode cX12_feed 33 = .ok (.invokevirtual 112, 3) := by decide +kernel
theorem dX12_feed_36 : decode cX12_feed 36 = .ok (.aload_n 0, 1) := by decide +kernel
theorem dX12_feed_37 : decode cX12_feed 37 = .ok (.iload 5, 2) := by decide +kernel
theorem dX12_feed_39 : decode cX12_feed 39 = .ok (.invokevirtual 112, 3) := by decide +kernel
theorem dX12_feed_42 : decode cX12_feed 42 = .ok (.aload_n 0, 1) := by decide +kernel
theorem dX12_feed_43 : decode cX12_feed 43 = .ok (.getfield 109, 3) := by decide +kernel
theorem dX12_feed_46 : decode cX12_feed 46 = .ok (.ireturn, 1) := by decide +kernel
theorem dX12_four_0 : decode cX12_four 0 = .ok (.bipush 24, 2) := by decide +kernel
theorem dX12_four_2 : decode cX12_four 2 = .ok (.istore_n 2, 1) := by decide +kernel
theorem dX12_four_3 : decode cX12_four 3 = .ok (.iload_n 2, 1) := by decide +kernel
theorem dX12_four_4 : decode cX12_four 4 = .ok (.ifCond .lt 32, 3) := by decide +kernel
theorem dX12_four_7 : decode cX12_four 7 = .ok (.aload_n 0, 1) := by decide +kernel
theorem dX12_four_8 : decode cX12_four 8 = .ok (.getfield 30, 3) := by decide +kernel
theorem dX12_four_11 : decode cX12_four 11 = .ok (.aload_n 0, 1) := by decide +kernel
theorem dX12_four_12 : decode cX12_four 12 = .ok (.getfield 109, 3) := by decide +kernel
theorem dX12_four_15 : decode cX12_four 15 = .ok (.iload_n 1, 1) := by decide +kernel
theorem dX12_four_16 : decode cX12_four 16 = .ok (.iload_n 2, 1) := by decide +kernel
theorem dX12_four_17 : decode cX12_four 17 = .ok (.ishr, 1) := by decide +kernel
theorem dX12_four_18 : decode cX12_four 18 = .ok (.i2b, 1) := by decide +kernel
theorem dX12_four_19 : decode cX12_four 19 = .ok (.bastore, 1) := by decide +kernel
theorem dX12_four_20 : decode cX12_four 20 = .ok (.aload_n 0, 1) := by decide +kernel
theorem dX12_four_21 : decode cX12_four 21 = .ok (.dup, 1) := by decide +kernel
theorem dX12_four_22 : decode cX12_four 22 = .ok (.getfield 109, 3) := by decide +kernel
theorem dX12_four_25 : decode cX12_four 25 = .ok (.iconst 1, 1) := by decide +kernel
theorem dX12_four_26 : decode cX12_four 26 = .ok (.iadd, 1) := by decide +kernel
theorem dX12_four_27 : decode cX12_four 27 = .ok (.putfield 109, 3) := by decide +kernel
theorem dX12_four_30 : decode cX12_four 30 = .ok (.iinc 2 (-8), 3) := by decide +kernel
theorem dX12_four_33 : decode cX12_four 33 = .ok (.goto (-30), 3) := by decide +kernel
theorem dX12_four_36 : decode cX12_four 36 = .ok (.return_, 1) := by decide +kernel
theorem dX12_byteAt_0 : decode cX12_byteAt 0 = .ok (.iload_n 1, 1) := by decide +kernel
theorem dX12_byteAt_1 : decode cX12_byteAt 1 = .ok (.aload_n 0, 1) := by decide +kernel
theorem dX12_byteAt_2 : decode cX12_byteAt 2 = .ok (.getfield 115, 3) := by decide +kernel
theorem dX12_byteAt_5 : decode cX12_byteAt 5 = .ok (.if_icmp .ge 16, 3) := by decide +kernel
theorem dX12_byteAt_8 : decode cX12_byteAt 8 = .ok (.aload_n 0, 1) := by decide +kernel
theorem dX12_byteAt_9 : decode cX12_byteAt 9 = .ok (.getfield 34, 3) := by decide +kernel
theorem dX12_byteAt_12 : decode cX12_byteAt 12 = .ok (.iload_n 1, 1) := by decide +kernel
theorem dX12_byteAt_13 : decode cX12_byteAt 13 = .ok (.baload, 1) := by decide +kernel
theorem dX12_byteAt_14 : decode cX12_byteAt 14 = .ok (.sipush 255, 3) := by decide +kernel
theorem dX12_byteAt_17 : decode cX12_byteAt 17 = .ok (.iand, 1) := by decide +kernel
theorem dX12_byteAt_18 : decode cX12_byteAt 18 = .ok (.goto 4, 3) := by decide +kernel
theorem dX12_byteAt_21 : decode cX12_byteAt 21 = .ok (.iconst (-1), 1) := by decide +kernel
theorem dX12_byteAt_22 : decode cX12_byteAt 22 = .ok (.ireturn, 1) := by decide +kernel
theorem dX12_isSmall_0 : decode cX12_isSmall 0 = .ok (.iload_n 0, 1) := by decide +kernel
theorem dX12_isSmall_1 : decode cX12_isSmall 1 = .ok (.bipush 97, 2) := by decide +kernel
theorem dX12_isSmall_3 : decode cX12_isSmall 3 = .ok (.if_icmp .lt 13, 3) := by decide +kernel
theorem dX12_isSmall_6 : decode cX12_isSmall 6 = .ok (.iload_n 0, 1) := by decide +kernel
theorem dX12_isSmall_7 : decode cX12_isSmall 7 = .ok (.bipush 122, 2) := by decide +kernel
theorem dX12_isSmall_9 : decode cX12_isSmall 9 = .ok (.if_icmp .gt 7, 3) := by decide +kernel
theorem dX12_isSmall_12 : decode cX12_isSmall 12 = .ok (.iconst 1, 1) := by decide +kernel
theorem dX12_isSmall_13 : decode cX12_isSmall 13 = .ok (.goto 4, 3) := by decide +kernel
theorem dX12_isSmall_16 : decode cX12_isSmall 16 = .ok (.iconst 0, 1) := by decide +kernel
theorem dX12_isSmall_17 : decode cX12_isSmall 17 = .ok (.ireturn, 1) := by decide +kernel
theorem dX12_isDigit_0 : decode cX12_isDigit 0 = .ok (.iload_n 0, 1) := by decide +kernel
theorem dX12_isDigit_1 : decode cX12_isDigit 1 = .ok (.bipush 48, 2) := by decide +kernel
theorem dX12_isDigit_3 : decode cX12_isDigit 3 = .ok (.if_icmp .lt 13, 3) := by decide +kernel
theorem dX12_isDigit_6 : decode cX12_isDigit 6 = .ok (.iload_n 0, 1) := by decide +kernel
theorem dX12_isDigit_7 : decode cX12_isDigit 7 = .ok (.bipush 57, 2) := by decide +kernel
theorem dX12_isDigit_9 : decode cX12_isDigit 9 = .ok (.if_icmp .gt 7, 3) := by decide +kernel
theorem dX12_isDigit_12 : decode cX12_isDigit 12 = .ok (.iconst 1, 1) := by decide +kernel
theorem dX12_isDigit_13 : decode cX12_isDigit 13 = .ok (.goto 4, 3) := by decide +kernel
theorem dX12_isDigit_16 : decode cX12_isDigit 16 = .ok (.iconst 0, 1) := by decide +kernel
theorem dX12_isDigit_17 : decode cX12_isDigit 17 = .ok (.ireturn, 1) := by decide +kernel
theorem dX12_ahead_0 : decode cX12_ahead 0 = .ok (.aload_n 0, 1) := by decide +kernel
theorem dX12_ahead_1 : decode cX12_ahead 1 = .ok (.aload_n 0, 1) := by decide +kernel
theorem dX12_ahead_2 : decode cX12_ahead 2 = .ok (.getfield 118, 3) := by decide +kernel
theorem dX12_ahead_5 : decode cX12_ahead 5 = .ok (.invokevirtual 121, 3) := by decide +kernel
theorem dX12_ahead_8 : decode cX12_ahead 8 = .ok (.bipush 32, 2) := by decide +kernel
theorem dX12_ahead_10 : decode cX12_ahead 10 = .ok (.if_icmp .eq 16, 3) := by decide +kernel
theorem dX12_ahead_13 : decode cX12_ahead 13 = .ok (.aload_n 0, 1) := by decide +kernel
theorem dX12_ahead_14 : decode cX12_ahead 14 = .ok (.aload_n 0, 1) := by decide +kernel
theorem dX12_ahead_15 : decode cX12_ahead 15 = .ok (.getfield 118, 3) := by decide +kernel
theorem dX12_ahead_18 : decode cX12_ahead 18 = .ok (.invokevirtual 121, 3) := by decide +kernel
theorem dX12_ahead_21 : decode cX12_ahead 21 = .ok (.bipush 10, 2) := by decide +kernel
theorem dX12_ahead_23 : decode cX12_ahead 23 = .ok (.if_icmp .ne 16, 3) := by decide +kernel
theorem dX12_ahead_26 : decode cX12_ahead 26 = .ok (.aload_n 0, 1) := by decide +kernel
theorem dX12_ahead_27 : decode cX12_ahead 27 = .ok (.dup, 1) := by decide +kernel
theorem dX12_ahead_28 : decode cX12_ahead 28 = .ok (.getfield 118, 3) := by decide +kernel
theorem dX12_ahead_31 : decode cX12_ahead 31 = .ok (.iconst 1, 1) := by decide +kernel
theorem dX12_ahead_32 : decode cX12_ahead 32 = .ok (.iadd, 1) := by decide +kernel
theorem dX12_ahead_33 : decode cX12_ahead 33 = .ok (.putfield 118, 3) := by decide +kernel
theorem dX12_ahead_36 : decode cX12_ahead 36 = .ok (.goto (-36), 3) := by decide +kernel
theorem dX12_ahead_39 : decode cX12_ahead 39 = .ok (.aload_n 0, 1) := by decide +kernel
theorem dX12_ahead_40 : decode cX12_ahead 40 = .ok (.aload_n 0, 1) := by decide +kernel
theorem dX12_ahead_41 : decode cX12_ahead 41 = .ok (.getfield 118, 3) := by decide +kernel
theorem dX12_ahead_44 : decode cX12_ahead 44 = .ok (.putfield 124, 3) := by decide +kernel
theorem dX12_ahead_47 : decode cX12_ahead 47 = .ok (.aload_n 0, 1) := by decide +kernel
theorem dX12_ahead_48 : decode cX12_ahead 48 = .ok (.aload_n 0, 1) := by decide +kernel
theorem dX12_ahead_49 : decode cX12_ahead 49 = .ok (.getfield 118, 3) := by decide +kernel
theorem dX12_ahead_52 : decode cX12_ahead 52 = .ok (.invokevirtual 121, 3) := by decide +kernel
theorem dX12_ahead_55 : decode cX12_ahead 55 = .ok (.istore_n 1, 1) := by decide +kernel
theorem dX12_ahead_56 : decode cX12_ahead 56 = .ok (.aload_n 0, 1) := by decide +kernel
theorem dX12_ahead_57 : decode cX12_ahead 57 = .ok (.iload_n 1, 1) := by decide +kernel
theorem dX12_ahead_58 : decode cX12_ahead 58 = .ok (.putfield 127, 3) := by decide +kernel
theorem dX12_ahead_61 : decode cX12_ahead 61 = .ok (.iload_n 1, 1) := by decide +kernel
theorem dX12_ahead_62 : decode cX12_ahead 62 = .ok (.iconst (-1), 1) := by decide +kernel
theorem dX12_ahead_63 : decode cX12_ahead 63 = .ok (.if_icmp .ne 11, 3) := by decide +kernel
theorem dX12_ahead_66 : decode cX12_ahead 66 = .ok (.aload_n 0, 1) := by decide +kernel
theorem dX12_ahead_67 : decode cX12_ahead 67 = .ok (.iconst 0, 1) := by decide +kernel
theorem dX12_ahead_68 : decode cX12_ahead 68 = .ok (.putfield 130, 3) := by decide +kernel
theorem dX12_ahead_71 : decode cX12_ahead 71 = .ok (.goto 180, 3) := by decide +kernel
theorem dX12_ahead_74 : decode cX12_ahead 74 = .ok (.iload_n 1, 1) := by decide +kernel
theorem dX12_ahead_75 : decode cX12_ahead 75 = .ok (.invokestatic 133, 3) := by decide +kernel
theorem dX12_ahead_78 : decode cX12_ahead 78 = .ok (.ifCond .eq 38, 3) := by decide +kernel
theorem dX12_ahead_81 : decode cX12_ahead 81 = .ok (.aload_n 0, 1) := by decide +kernel
theorem dX12_ahead_82 : decode cX12_ahead 82 = .ok (.aload_n 0, 1) := by decide +kernel
theorem dX12_ahead_83 : decode cX12_ahead 83 = .ok (.getfield 118, 3) := by decide +kernel
theorem dX12_ahead_86 : decode cX12_ahead 86 = .ok (.invokevirtual 121, 3) := by decide +kernel
theorem dX12_ahead_89 : decode cX12_ahead 89 = .ok (.invokestatic 133, 3) := by decide +kernel
theorem dX12_ahead_92 : decode cX12_ahead 92 = .ok (.ifCond .eq 16, 3) := by decide +kernel
theorem dX12_ahead_95 : decode cX12_ahead 95 = .ok (.aload_n 0, 1) := by decide +kernel
theorem dX12_ahead_96 : decode cX12_ahead 96 = .ok (.dup, 1) := by decide +kernel
theorem dX12_ahead_97 : decode cX12_ahead 97 = .ok (.getfield 118, 3) := by decide +kernel
theorem dX12_ahead_100 : decode cX12_ahead 100 = .ok (.iconst 1, 1) := by decide +kernel
theorem dX12_ahead_101 : decode cX12_ahead 101 = .ok (.iadd, 1) := by decide +kernel
theorem dX12_ahead_102 : decode cX12_ahead 102 = .ok (.putfield 118, 3) := by decide +kernel
theorem dX12_ahead_105 : decode cX12_ahead 105 = .ok (.goto (-24), 3) := by decide +kernel
theorem dX12_ahead_108 : decode cX12_ahead 108 = .ok (.aload_n 0, 1) := by decide +kernel
theorem dX12_ahead_109 : decode cX12_ahead 109 = .ok (.iconst 2, 1) := by decide +kernel
theorem dX12_ahead_110 : decode cX12_ahead 110 = .ok (.putfield 130, 3) := by decide +kernel
theorem dX12_ahead_113 : decode cX12_ahead 113 = .ok (.goto 138, 3) := by decide +kernel
theorem dX12_ahead_116 : decode cX12_ahead 116 = .ok (.iload_n 1, 1) := by decide +kernel
theorem dX12_ahead_117 : decode cX12_ahead 117 = .ok (.invokestatic 136, 3) := by decide +kernel
theorem dX12_ahead_120 : decode cX12_ahead 120 = .ok (.ifCond .eq 88, 3) := by decide +kernel
theorem dX12_ahead_123 : decode cX12_ahead 123 = .ok (.aload_n 0, 1) := by decide +kernel
theorem dX12_ahead_124 : decode cX12_ahead 124 = .ok (.iconst 0, 1) := by decide +kernel
theorem dX12_ahead_125 : decode cX12_ahead 125 = .ok (.putfield 127, 3) := by decide +kernel
theorem dX12_ahead_128 : decode cX12_ahead 128 = .ok (.aload_n 0, 1) := by decide +kernel
theorem dX12_ahead_129 : decode cX12_ahead 129 = .ok (.aload_n 0, 1) := by decide +kernel
theorem dX12_ahead_130 : decode cX12_ahead 130 = .ok (.getfield 118, 3) := by decide +kernel
theorem dX12_ahead_133 : decode cX12_ahead 133 = .ok (.invokevirtual 121, 3) := by decide +kernel
theorem dX12_ahead_136 : decode cX12_ahead 136 = .ok (.invokestatic 136, 3) := by decide +kernel
theorem dX12_ahead_139 : decode cX12_ahead 139 = .ok (.ifCond .eq 44, 3) := by decide +kernel
theorem dX12_ahead_142 : decode cX12_ahead 142 = .ok (.aload_n 0, 1) := by decide +kernel
theorem dX12_ahead_143 : decode cX12_ahead 143 = .ok (.ldc 139, 2) := by decide +kernel
theorem dX12_ahead_145 : decode cX12_ahead 145 = .ok (.bipush 10, 2) := by decide +kernel
theorem dX12_ahead_147 : decode cX12_ahead 147 = .ok (.aload_n 0, 1) := by decide +kernel
theorem dX12_ahead_148 : decode cX12_ahead 148 = .ok (.getfield 127, 3) := by decide +kernel
theorem dX12_ahead_151 : decode cX12_ahead 151 = .ok (.imul, 1) := by decide +kernel
theorem dX12_ahead_152 : decode cX12_ahead 152 = .ok (.aload_n 0, 1) := by decide +kernel
theorem dX12_ahead_153 : decode cX12_ahead 153 = .ok (.aload_n 0, 1) := by decide +kernel
theorem dX12_ahead_154 : decode cX12_ahead 154 = .ok (.getfield 118, 3) := by decide +kernel
theorem dX12_ahead_157 : decode cX12_ahead 157 = .ok (.invokevirtual 121, 3) := by decide +kernel
theorem dX12_ahead_160 : decode cX12_ahead 160 = .ok (.iadd, 1) := by decide +kernel
theorem dX12_ahead_161 : decode cX12_ahead 161 = .ok (.bipush 48, 2) := by decide +kernel
theorem dX12_ahead_163 : decode cX12_ahead 163 = .ok (.isub, 1) := by decide +kernel
theorem dX12_ahead_164 : decode cX12_ahead 164 = .ok (.invokestatic 140, 3) := by decide +kernel
theorem dX12_ahead_167 : decode cX12_ahead 167 = .ok (.putfield 127, 3) := by decide +kernel
theorem dX12_ahead_170 : decode cX12_ahead 170 = .ok (.aload_n 0, 1) := by decide +kernel
theorem dX12_ahead_171 : decode cX12_ahead 171 = .ok (.dup, 1) := by decide +kernel
theorem dX12_ahead_172 : decode cX12_ahead 172 = .ok (.getfield 118, 3) := by decide +kernel
theorem dX12_ahead_175 : decode cX12_ahead 175 = .ok (.iconst 1, 1) := by decide +kernel
theorem dX12_ahead_176 : decode cX12_ahead 176 = .ok (.iadd, 1) := by decide +kernel
theorem dX12_ahead_177 : decode cX12_ahead 177 = .ok (.putfield 118, 3) := by decide +kernel
theorem dX12_ahead_180 : decode cX12_ahead 180 = .ok (.goto (-52), 3) := by decide +kernel
theorem dX12_ahead_183 : decode cX12_ahead 183 = .ok (.aload_n 0, 1) := by decide +kernel
theorem dX12_ahead_184 : decode cX12_ahead 184 = .ok (.aload_n 0, 1) := by decide +kernel
theorem dX12_ahead_185 : decode cX12_ahead 185 = .ok (.getfield 118, 3) := by decide +kernel
theorem dX12_ahead_188 : decode cX12_ahead 188 = .ok (.aload_n 0, 1) := by decide +kernel
theorem dX12_ahead_189 : decode cX12_ahead 189 = .ok (.getfield 124, 3) := by decide +kernel
theorem dX12_ahead_192 : decode cX12_ahead 192 = .ok (.isub, 1) := by decide +kernel
theorem dX12_ahead_193 : decode cX12_ahead 193 = .ok (.iconst 4, 1) := by decide +kernel
theorem dX12_ahead_194 : decode cX12_ahead 194 = .ok (.if_icmp .le 7, 3) := by decide +kernel
theorem dX12_ahead_197 : decode cX12_ahead 197 = .ok (.iconst 1, 1) := by decide +kernel
theorem dX12_ahead_198 : decode cX12_ahead 198 = .ok (.goto 4, 3) := by decide +kernel
theorem dX12_ahead_201 : decode cX12_ahead 201 = .ok (.iconst 3, 1) := by decide +kernel
theorem dX12_ahead_202 : decode cX12_ahead 202 = .ok (.putfield 130, 3) := by decide +kernel
theorem dX12_ahead_205 : decode cX12_ahead 205 = .ok (.goto 46, 3) := by decide +kernel
theorem dX12_ahead_208 : decode cX12_ahead 208 = .ok (.aload_n 0, 1) := by decide +kernel
theorem dX12_ahead_209 : decode cX12_ahead 209 = .ok (.dup, 1) := by decide +kernel
theorem dX12_ahead_210 : decode cX12_ahead 210 = .ok (.getfield 118, 3) := by decide +kernel
theorem dX12_ahead_213 : decode cX12_ahead 213 = .ok (.iconst 1, 1) := by decide +kernel
theorem dX12_ahead_214 : decode cX12_ahead 214 = .ok (.iadd, 1) := by decide +kernel
theorem dX12_ahead_215 : decode cX12_ahead 215 = .ok (.putfield 118, 3) := by decide +kernel
theorem dX12_ahead_218 : decode cX12_ahead 218 = .ok (.aload_n 0, 1) := by decide +kernel
theorem dX12_ahead_219 : decode cX12_ahead 219 = .ok (.iload_n 1, 1) := by decide +kernel
theorem dX12_ahead_220 : decode cX12_ahead 220 = .ok (.bipush 59, 2) := by decide +kernel
theorem dX12_ahead_222 : decode cX12_ahead 222 = .ok (.if_icmp .eq 21, 3) := by decide +kernel
theorem dX12_ahead_225 : decode cX12_ahead 225 = .ok (.iload_n 1, 1) := by decide +kernel
theorem dX12_ahead_226 : decode cX12_ahead 226 = .ok (.bipush 60, 2) := by decide +kernel
theorem dX12_ahead_228 : decode cX12_ahead 228 = .ok (.if_icmp .eq 15, 3) := by decide +kernel
theorem dX12_ahead_231 : decode cX12_ahead 231 = .ok (.iload_n 1, 1) := by decide +kernel
theorem dX12_ahead_232 : decode cX12_ahead 232 = .ok (.bipush 62, 2) := by decide +kernel
theorem dX12_ahead_234 : decode cX12_ahead 234 = .ok (.if_icmp .eq 9, 3) := by decide +kernel
theorem dX12_ahead_237 : decode cX12_ahead 237 = .ok (.iload_n 1, 1) := by decide +kernel
theorem dX12_ahead_238 : decode cX12_ahead 238 = .ok (.bipush 61, 2) := by decide +kernel
theorem dX12_ahead_240 : decode cX12_ahead 240 = .ok (.if_icmp .ne 7, 3) := by decide +kernel
theorem dX12_ahead_243 : decode cX12_ahead 243 = .ok (.iconst 4, 1) := by decide +kernel
theorem dX12_ahead_244 : decode cX12_ahead 244 = .ok (.goto 4, 3) := by decide +kernel
theorem dX12_ahead_247 : decode cX12_ahead 247 = .ok (.iconst 1, 1) := by decide +kernel
theorem dX12_ahead_248 : decode cX12_ahead 248 = .ok (.putfield 130, 3) := by decide +kernel
theorem dX12_ahead_251 : decode cX12_ahead 251 = .ok (.return_, 1) := by decide +kernel
theorem dX12_isSign_0 : decode cX12_isSign 0 = .ok (.aload_n 0, 1) := by decide +kernel
theorem dX12_isSign_1 : decode cX12_isSign 1 = .ok (.getfield 130, 3) := by decide +kernel
theorem dX12_isSign_4 : decode cX12_isSign 4 = .ok (.iconst 4, 1) := by decide +kernel
theorem dX12_isSign_5 : decode cX12_isSign 5 = .ok (.if_icmp .ne 15, 3) := by decide +kernel
theorem dX12_isSign_8 : decode cX12_isSign 8 = .ok (.aload_n 0, 1) := by decide +kernel
theorem dX12_isSign_9 : decode cX12_isSign 9 = .ok (.getfield 127, 3) := by decide +kernel
theorem dX12_isSign_12 : decode cX12_isSign 12 = .ok (.iload_n 1, 1) := by decide +kernel
theorem dX12_isSign_13 : decode cX12_isSign 13 = .ok (.if_icmp .ne 7, 3) := by decide +kernel
theorem dX12_isSign_16 : decode cX12_isSign 16 = .ok (.iconst 1, 1) := by decide +kernel
theorem dX12_isSign_17 : decode cX12_isSign 17 = .ok (.goto 4, 3) := by decide +kernel
theorem dX12_isSign_20 : decode cX12_isSign 20 = .ok (.iconst 0, 1) := by decide +kernel
theorem dX12_isSign_21 : decode cX12_isSign 21 = .ok (.ireturn, 1) := by decide +kernel
theorem dX12_inWords_0 : decode cX12_inWords 0 = .ok (.aload_n 0, 1) := by decide +kernel
theorem dX12_inWords_1 : decode cX12_inWords 1 = .ok (.getfield 130, 3) := by decide +kernel
theorem dX12_inWords_4 : decode cX12_inWords 4 = .ok (.iconst 2, 1) := by decide +kernel
theorem dX12_inWords_5 : decode cX12_inWords 5 = .ok (.if_icmp .eq 5, 3) := by decide +kernel
theorem dX12_inWords_8 : decode cX12_inWords 8 = .ok (.iconst (-1), 1) := by decide +kernel
theorem dX12_inWords_9 : decode cX12_inWords 9 = .ok (.ireturn, 1) := by decide +kernel
theorem dX12_inWords_10 : decode cX12_inWords 10 = .ok (.iconst 0, 1) := by decide +kernel
theorem dX12_inWords_11 : decode cX12_inWords 11 = .ok (.istore_n 2, 1) := by decide +kernel
theorem dX12_inWords_12 : decode cX12_inWords 12 = .ok (.iconst 1, 1) := by decide +kernel
theorem dX12_inWords_13 : decode cX12_inWords 13 = .ok (.istore_n 3, 1) := by decide +kernel
theorem dX12_inWords_14 : decode cX12_inWords 14 = .ok (.iload_n 3, 1) := by decide +kernel
theorem dX12_inWords_15 : decode cX12_inWords 15 = .ok (.aload_n 1, 1) := by decide +kernel
theorem dX12_inWords_16 : decode cX12_inWords 16 = .ok (.invokevirtual 145, 3) := by decide +kernel
theorem dX12_inWords_19 : decode cX12_inWords 19 = .ok (.if_icmp .ge 114, 3) := by decide +kernel
theorem dX12_inWords_22 : decode cX12_inWords 22 = .ok (.iload_n 3, 1) := by decide +kernel
theorem dX12_inWords_23 : decode cX12_inWords 23 = .ok (.istore 4, 2) := by decide +kernel
theorem dX12_inWords_25 : decode cX12_inWords 25 = .ok (.aload_n 1, 1) := by decide +kernel
theorem dX12_inWords_26 : decode cX12_inWords 26 = .ok (.iload 4, 2) := by decide +kernel
theorem dX12_inWords_28 : decode cX12_inWords 28 = .ok (.invokevirtual 151, 3) := by decide +kernel
theorem dX12_inWords_31 : decode cX12_inWords 31 = .ok (.bipush 32, 2) := by decide +kernel
theorem dX12_inWords_33 : decode cX12_inWords 33 = .ok (.if_icmp .eq 9, 3) := by decide +kernel
theorem dX12_inWords_36 : decode cX12_inWords 36 = .ok (.iinc 4 1, 3) := by decide +kernel
theorem dX12_inWords_39 : decode cX12_inWords 39 = .ok (.goto (-14), 3) := by decide +kernel
theorem dX12_inWords_42 : decode cX12_inWords 42 = .ok (.iload 4, 2) := by decide +kernel
theorem dX12_inWords_44 : decode cX12_inWords 44 = .ok (.iload_n 3, 1) := by decide +kernel
theorem dX12_inWords_45 : decode cX12_inWords 45 = .ok (.isub, 1) := by decide +kernel
theorem dX12_inWords_46 : decode cX12_inWords 46 = .ok (.aload_n 0, 1) := by decide +kernel
theorem dX12_inWords_47 : decode cX12_inWords 47 = .ok (.getfield 118, 3) := by decide +kernel
theorem dX12_inWords_50 : decode cX12_inWords 50 = .ok (.aload_n 0, 1) := by decide +kernel
theorem dX12_inWords_51 : decode cX12_inWords 51 = .ok (.getfield 124, 3) := by decide +kernel
theorem dX12_inWords_54 : decode cX12_inWords 54 = .ok (.isub, 1) := by decide +kernel
theorem dX12_inWords_55 : decode cX12_inWords 55 = .ok (.if_icmp .ne 7, 3) := by decide +kernel
theorem dX12_inWords_58 : decode cX12_inWords 58 = .ok (.iconst 1, 1) := by decide +kernel
theorem dX12_inWords_59 : decode cX12_inWords 59 = .ok (.goto 4, 3) := by decide +kernel
theorem dX12_inWords_62 : decode cX12_inWords 62 = .ok (.iconst 0, 1) := by decide +kernel
theorem dX12_inWords_63 : decode cX12_inWords 63 = .ok (.istore 5, 2) := by decide +kernel
theorem dX12_inWords_65 : decode cX12_inWords 65 = .ok (.iload_n 3, 1) := by decide +kernel
theorem dX12_inWords_66 : decode cX12_inWords 66 = .ok (.istore 6, 2) := by decide +kernel
theorem dX12_inWords_68 : decode cX12_inWords 68 = .ok (.iload 6, 2) := by decide +kernel
theorem dX12_inWords_70 : decode cX12_inWords 70 = .ok (.iload 4, 2) := by decide +kernel
theorem dX12_inWords_72 : decode cX12_inWords 72 = .ok (.if_icmp .ge 43, 3) := by decide +kernel
theorem dX12_inWords_75 : decode cX12_inWords 75 = .ok (.iload 5, 2) := by decide +kernel
theorem dX12_inWords_77 : decode cX12_inWords 77 = .ok (.ifCond .eq 38, 3) := by decide +kernel
theorem dX12_inWords_80 : decode cX12_inWords 80 = .ok (.aload_n 1, 1) := by decide +kernel
theorem dX12_inWords_81 : decode cX12_inWords 81 = .ok (.iload 6, 2) := by decide +kernel
theorem dX12_inWords_83 : decode cX12_inWords 83 = .ok (.invokevirtual 151, 3) := by decide +kernel
theorem dX12_inWords_86 : decode cX12_inWords 86 = .ok (.aload_n 0, 1) := by decide +kernel
theorem dX12_inWords_87 : decode cX12_inWords 87 = .ok (.aload_n 0, 1) := by decide +kernel
theorem dX12_inWords_88 : decode cX12_inWords 88 = .ok (.getfield 124, 3) := by decide +kernel
theorem dX12_inWords_91 : decode cX12_inWords 91 = .ok (.iload 6, 2) := by decide +kernel
theorem dX12_inWords_93 : decode cX12_inWords 93 = .ok (.iadd, 1) := by decide +kernel
theorem dX12_inWords_94 : decode cX12_inWords 94 = .ok (.iload_n 3, 1) := by decide +kernel
theorem dX12_inWords_95 : decode cX12_inWords 95 = .ok (.isub, 1) := by decide +kernel
theorem dX12_inWords_96 : decode cX12_inWords 96 = .ok (.invokevirtual 121, 3) := by decide +kernel
theorem dX12_inWords_99 : decode cX12_inWords 99 = .ok (.if_icmp .ne 7, 3) := by decide +kernel
theorem dX12_inWords_102 : decode cX12_inWords 102 = .ok (.iconst 1, 1) := by decide +kernel
theorem dX12_inWords_103 : decode cX12_inWords 103 = .ok (.goto 4, 3) := by decide +kernel
theorem dX12_inWords_106 : decode cX12_inWords 106 = .ok (.iconst 0, 1) := by decide +kernel
theorem dX12_inWords_107 : decode cX12_inWords 107 = .ok (.istore 5, 2) := by decide +kernel
theorem dX12_inWords_109 : decode cX12_inWords 109 = .ok (.iinc 6 1, 3) := by decide +kernel
theorem dX12_inWords_112 : decode cX12_inWords 112 = .ok (.goto (-44), 3) := by decide +kernel
theorem dX12_inWords_115 : decode cX12_inWords 115 = .ok (.iload 5, 2) := by decide +kernel
theorem dX12_inWords_117 : decode cX12_inWords 117 = .ok (.ifCond .eq 5, 3) := by decide +kernel
theorem dX12_inWords_120 : decode cX12_inWords 120 = .ok (.iload_n 2, 1) := by decide +kernel
theorem dX12_inWords_121 : decode cX12_inWords 121 = .ok (.ireturn, 1) := by decide +kernel
theorem dX12_inWords_122 : decode cX12_inWords 122 = .ok (.iinc 2 1, 3) := by decide +kernel
theorem dX12_inWords_125 : decode cX12_inWords 125 = .ok (.iload 4, 2) := by decide +kernel
theorem dX12_inWords_127 : decode cX12_inWords 127 = .ok (.iconst 1, 1) := by decide +kernel
theorem dX12_inWords_128 : decode cX12_inWords 128 = .ok (.iadd, 1) := by decide +kernel
theorem dX12_inWords_129 : decode cX12_inWords 129 = .ok (.istore_n 3, 1) := by decide +kernel
theorem dX12_inWords_130 : decode cX12_inWords 130 = .ok (.goto (-116), 3) := by decide +kernel
theorem dX12_inWords_133 : decode cX12_inWords 133 = .ok (.iconst (-1), 1) := by decide +kernel
theorem dX12_inWords_134 : decode cX12_inWords 134 = .ok (.ireturn, 1) := by decide +kernel
theorem dX12_fails_0 : decode cX12_fails 0 = .ok (.aload_n 0, 1) := by decide +kernel
theorem dX12_fails_1 : decode cX12_fails 1 = .ok (.getfield 155, 3) := by decide +kernel
theorem dX12_fails_4 : decode cX12_fails 4 = .ok (.ifCond .ne 28, 3) := by decide +kernel
theorem dX12_fails_7 : decode cX12_fails 7 = .ok (.aload_n 0, 1) := by decide +kernel
theorem dX12_fails_8 : decode cX12_fails 8 = .ok (.aload_n 0, 1) := by decide +kernel
theorem dX12_fails_9 : decode cX12_fails 9 = .ok (.getfield 130, 3) := by decide +kernel
theorem dX12_fails_12 : decode cX12_fails 12 = .ok (.iconst 1, 1) := by decide +kernel
theorem dX12_fails_13 : decode cX12_fails 13 = .ok (.if_icmp .ne 7, 3) := by decide +kernel
theorem dX12_fails_16 : decode cX12_fails 16 = .ok (.iconst 1, 1) := by decide +kernel
theorem dX12_fails_17 : decode cX12_fails 17 = .ok (.goto 4, 3) := by decide +kernel
theorem dX12_fails_20 : decode cX12_fails 20 = .ok (.iload_n 1, 1) := by decide +kernel
theorem dX12_fails_21 : decode cX12_fails 21 = .ok (.putfield 155, 3) := by decide +kernel
theorem dX12_fails_24 : decode cX12_fails 24 = .ok (.aload_n 0, 1) := by decide +kernel
theorem dX12_fails_25 : decode cX12_fails 25 = .ok (.aload_n 0, 1) := by decide +kernel
theorem dX12_fails_26 : decode cX12_fails 26 = .ok (.getfield 124, 3) := by decide +kernel
theorem dX12_fails_29 : decode cX12_fails 29 = .ok (.putfield 41, 3) := by decide +kernel
theorem dX12_fails_32 : decode cX12_fails 32 = .ok (.iconst 0, 1) := by decide +kernel
theorem dX12_fails_33 : decode cX12_fails 33 = .ok (.ireturn, 1) := by decide +kernel
theorem dX12_begins_0 : decode cX12_begins 0 = .ok (.iload_n 1, 1) := by decide +kernel
theorem dX12_begins_1 : decode cX12_begins 1 = .ok (.ifCond .lt 16, 3) := by decide +kernel
theorem dX12_begins_4 : decode cX12_begins 4 = .ok (.iload_n 1, 1) := by decide +kernel
theorem dX12_begins_5 : decode cX12_begins 5 = .ok (.aload_n 0, 1) := by decide +kernel
theorem dX12_begins_6 : decode cX12_begins 6 = .ok (.getfield 109, 3) := by decide +kernel
theorem dX12_begins_9 : decode cX12_begins 9 = .ok (.if_icmp .gt 8, 3) := by decide +kernel
theorem dX12_begins_12 : decode cX12_begins 12 = .ok (.iload_n 1, 1) := by decide +kernel
theorem dX12_begins_13 : decode cX12_begins 13 = .ok (.iload_n 2, 1) := by decide +kernel
theorem dX12_begins_14 : decode cX12_begins 14 = .ok (.if_icmp .le 5, 3) := by decide +kernel
theorem dX12_begins_17 : decode cX12_begins 17 = .ok (.iconst 0, 1) := by decide +kernel
theorem dX12_begins_18 : decode cX12_begins 18 = .ok (.ireturn, 1) := by decide +kernel
theorem dX12_begins_19 : decode cX12_begins 19 = .ok (.aload_n 0, 1) := by decide +kernel
theorem dX12_begins_20 : decode cX12_begins 20 = .ok (.iload_n 1, 1) := by decide +kernel
theorem dX12_begins_21 : decode cX12_begins 21 = .ok (.putfield 115, 3) := by decide +kernel
theorem dX12_begins_24 : decode cX12_begins 24 = .ok (.iconst 0, 1) := by decide +kernel
theorem dX12_begins_25 : decode cX12_begins 25 = .ok (.istore_n 3, 1) := by decide +kernel
theorem dX12_begins_26 : decode cX12_begins 26 = .ok (.iload_n 3, 1) := by decide +kernel
theorem dX12_begins_27 : decode cX12_begins 27 = .ok (.iload_n 1, 1) := by decide +kernel
theorem dX12_begins_28 : decode cX12_begins 28 = .ok (.if_icmp .ge 21, 3) := by decide +kernel
theorem dX12_begins_31 : decode cX12_begins 31 = .ok (.aload_n 0, 1) := by decide +kernel
theorem dX12_begins_32 : decode cX12_begins 32 = .ok (.getfield 34, 3) := by decide +kernel
theorem dX12_begins_35 : decode cX12_begins 35 = .ok (.iload_n 3, 1) := by decide +kernel
theorem dX12_begins_36 : decode cX12_begins 36 = .ok (.aload_n 0, 1) := by decide +kernel
theorem dX12_begins_37 : decode cX12_begins 37 = .ok (.getfield 30, 3) := by decide +kernel
theorem dX12_begins_40 : decode cX12_begins 40 = .ok (.iload_n 3, 1) := by decide +kernel
theorem dX12_begins_41 : decode cX12_begins 41 = .ok (.baload, 1) := by decide +kernel
theorem dX12_begins_42 : decode cX12_begins 42 = .ok (.bastore, 1) := by decide +kernel
theorem dX12_begins_43 : decode cX12_begins 43 = .ok (.iinc 3 1, 3) := by decide +kernel
theorem dX12_begins_46 : decode cX12_begins 46 = .ok (.goto (-20), 3) := by decide +kernel
theorem dX12_begins_49 : decode cX12_begins 49 = .ok (.aload_n 0, 1) := by decide +kernel
theorem dX12_begins_50 : decode cX12_begins 50 = .ok (.iconst 0, 1) := by decide +kernel
theorem dX12_begins_51 : decode cX12_begins 51 = .ok (.putfield 109, 3) := by decide +kernel
theorem dX12_begins_54 : decode cX12_begins 54 = .ok (.aload_n 0, 1) := by decide +kernel
theorem dX12_begins_55 : decode cX12_begins 55 = .ok (.iconst 0, 1) := by decide +kernel
theorem dX12_begins_56 : decode cX12_begins 56 = .ok (.putfield 155, 3) := by decide +kernel
theorem dX12_begins_59 : decode cX12_begins 59 = .ok (.aload_n 0, 1) := by decide +kernel
theorem dX12_begins_60 : decode cX12_begins 60 = .ok (.iconst (-1), 1) := by decide +kernel
theorem dX12_begins_61 : decode cX12_begins 61 = .ok (.putfield 41, 3) := by decide +kernel
theorem dX12_begins_64 : decode cX12_begins 64 = .ok (.aload_n 0, 1) := by decide +kernel
theorem dX12_begins_65 : decode cX12_begins 65 = .ok (.iconst 0, 1) := by decide +kernel
theorem dX12_begins_66 : decode cX12_begins 66 = .ok (.putfield 118, 3) := by decide +kernel
theorem dX12_begins_69 : decode cX12_begins 69 = .ok (.aload_n 0, 1) := by decide +kernel
theorem dX12_begins_70 : decode cX12_begins 70 = .ok (.iconst 0, 1) := by decide +kernel
theorem dX12_begins_71 : decode cX12_begins 71 = .ok (.putfield 158, 3) := by decide +kernel
theorem dX12_begins_74 : decode cX12_begins 74 = .ok (.aload_n 0, 1) := by decide +kernel
theorem dX12_begins_75 : decode cX12_begins 75 = .ok (.invokevirtual 161, 3) := by decide +kernel
theorem dX12_begins_78 : decode cX12_begins 78 = .ok (.iconst 1, 1) := by decide +kernel
theorem dX12_begins_79 : decode cX12_begins 79 = .ok (.ireturn, 1) := by decide +kernel
theorem dX12_wantSign_0 : decode cX12_wantSign 0 = .ok (.aload_n 0, 1) := by decide +kernel
theorem dX12_wantSign_1 : decode cX12_wantSign 1 = .ok (.iload_n 1, 1) := by decide +kernel
theorem dX12_wantSign_2 : decode cX12_wantSign 2 = .ok (.invokevirtual 164, 3) := by decide +kernel
theorem dX12_wantSign_5 : decode cX12_wantSign 5 = .ok (.ifCond .ne 9, 3) := by decide +kernel
theorem dX12_wantSign_8 : decode cX12_wantSign 8 = .ok (.aload_n 0, 1) := by decide +kernel
theorem dX12_wantSign_9 : decode cX12_wantSign 9 = .ok (.iconst 2, 1) := by decide +kernel
theorem dX12_wantSign_10 : decode cX12_wantSign 10 = .ok (.invokevirtual 167, 3) := by decide +kernel
theorem dX12_wantSign_13 : decode cX12_wantSign 13 = .ok (.ireturn, 1) := by decide +kernel
theorem dX12_wantSign_14 : decode cX12_wantSign 14 = .ok (.aload_n 0, 1) := by decide +kernel
theorem dX12_wantSign_15 : decode cX12_wantSign 15 = .ok (.invokevirtual 161, 3) := by decide +kernel
theorem dX12_wantSign_18 : decode cX12_wantSign 18 = .ok (.iconst 1, 1) := by decide +kernel
theorem dX12_wantSign_19 : decode cX12_wantSign 19 = .ok (.ireturn, 1) := by decide +kernel
theorem dX12_wantWord_0 : decode cX12_wantWord 0 = .ok (.aload_n 0, 1) := by decide +kernel
theorem dX12_wantWord_1 : decode cX12_wantWord 1 = .ok (.aload_n 1, 1) := by decide +kernel
theorem dX12_wantWord_2 : decode cX12_wantWord 2 = .ok (.invokevirtual 170, 3) := by decide +kernel
theorem dX12_wantWord_5 : decode cX12_wantWord 5 = .ok (.iload_n 2, 1) := by decide +kernel
theorem dX12_wantWord_6 : decode cX12_wantWord 6 = .ok (.if_icmp .eq 9, 3) := by decide +kernel
theorem dX12_wantWord_9 : decode cX12_wantWord 9 = .ok (.aload_n 0, 1) := by decide +kernel
theorem dX12_wantWord_10 : decode cX12_wantWord 10 = .ok (.iconst 2, 1) := by decide +kernel
theorem dX12_wantWord_11 : decode cX12_wantWord 11 = .ok (.invokevirtual 167, 3) := by decide +kernel
theorem dX12_wantWord_14 : decode cX12_wantWord 14 = .ok (.ireturn, 1) := by decide +kernel
theorem dX12_wantWord_15 : decode cX12_wantWord 15 = .ok (.aload_n 0, 1) := by decide +kernel
theorem dX12_wantWord_16 : decode cX12_wantWord 16 = .ok (.invokevirtual 161, 3) := by decide +kernel
theorem dX12_wantWord_19 : decode cX12_wantWord 19 = .ok (.iconst 1, 1) := by decide +kernel
theorem dX12_wantWord_20 : decode cX12_wantWord 20 = .ok (.ireturn, 1) := by decide +kernel
theorem dX12_number_0 : decode cX12_number 0 = .ok (.aload_n 0, 1) := by decide +kernel
theorem dX12_number_1 : decode cX12_number 1 = .ok (.getfield 130, 3) := by decide +kernel
theorem dX12_number_4 : decode cX12_number 4 = .ok (.iconst 3, 1) := by decide +kernel
theorem dX12_number_5 : decode cX12_number 5 = .ok (.if_icmp .eq 9, 3) := by decide +kernel
theorem dX12_number_8 : decode cX12_number 8 = .ok (.aload_n 0, 1) := by decide +kernel
theorem dX12_number_9 : decode cX12_number 9 = .ok (.iconst 2, 1) := by decide +kernel
theorem dX12_number_10 : decode cX12_number 10 = .ok (.invokevirtual 167, 3) := by decide +kernel
theorem dX12_number_13 : decode cX12_number 13 = .ok (.ireturn, 1) := by decide +kernel
theorem dX12_number_14 : decode cX12_number 14 = .ok (.aload_n 0, 1) := by decide +kernel
theorem dX12_number_15 : decode cX12_number 15 = .ok (.getfield 127, 3) := by decide +kernel
theorem dX12_number_18 : decode cX12_number 18 = .ok (.iload_n 2, 1) := by decide +kernel
theorem dX12_number_19 : decode cX12_number 19 = .ok (.if_icmp .lt 11, 3) := by decide +kernel
theorem dX12_number_22 : decode cX12_number 22 = .ok (.aload_n 0, 1) := by decide +kernel
theorem dX12_number_23 : decode cX12_number 23 = .ok (.getfield 127, 3) := by decide +kernel
theorem dX12_number_26 : decode cX12_number 26 = .ok (.iload_n 3, 1) := by decide +kernel
theorem dX12_number_27 : decode cX12_number 27 = .ok (.if_icmp .le 9, 3) := by decide +kernel
theorem dX12_number_30 : decode cX12_number 30 = .ok (.aload_n 0, 1) := by decide +kernel
theorem dX12_number_31 : decode cX12_number 31 = .ok (.iconst 4, 1) := by decide +kernel
theorem dX12_number_32 : decode cX12_number 32 = .ok (.invokevirtual 167, 3) := by decide +kernel
theorem dX12_number_35 : decode cX12_number 35 = .ok (.ireturn, 1) := by decide +kernel
theorem dX12_number_36 : decode cX12_number 36 = .ok (.aload_n 0, 1) := by decide +kernel
theorem dX12_number_37 : decode cX12_number 37 = .ok (.getfield 7, 3) := by decide +kernel
theorem dX12_number_40 : decode cX12_number 40 = .ok (.iload_n 1, 1) := by decide +kernel
theorem dX12_number_41 : decode cX12_number 41 = .ok (.aload_n 0, 1) := by decide +kernel
theorem dX12_number_42 : decode cX12_number 42 = .ok (.getfield 127, 3) := by decide +kernel
theorem dX12_number_45 : decode cX12_number 45 = .ok (.iastore, 1) := by decide +kernel
theorem dX12_number_46 : decode cX12_number 46 = .ok (.aload_n 0, 1) := by decide +kernel
theorem dX12_number_47 : decode cX12_number 47 = .ok (.invokevirtual 161, 3) := by decide +kernel
theorem dX12_number_50 : decode cX12_number 50 = .ok (.iconst 1, 1) := by decide +kernel
theorem dX12_number_51 : decode cX12_number 51 = .ok (.ireturn, 1) := by decide +kernel
theorem dX12_isName_0 : decode cX12_isName 0 = .ok (.aload_n 0, 1) := by decide +kernel
theorem dX12_isName_1 : decode cX12_isName 1 = .ok (.getfield 130, 3) := by decide +kernel
theorem dX12_isName_4 : decode cX12_isName 4 = .ok (.iconst 2, 1) := by decide +kernel
theorem dX12_isName_5 : decode cX12_isName 5 = .ok (.if_icmp .ne 30, 3) := by decide +kernel
theorem dX12_isName_8 : decode cX12_isName 8 = .ok (.aload_n 0, 1) := by decide +kernel
theorem dX12_isName_9 : decode cX12_isName 9 = .ok (.getfield 118, 3) := by decide +kernel
theorem dX12_isName_12 : decode cX12_isName 12 = .ok (.aload_n 0, 1) := by decide +kernel
theorem dX12_isName_13 : decode cX12_isName 13 = .ok (.getfield 124, 3) := by decide +kernel
theorem dX12_isName_16 : decode cX12_isName 16 = .ok (.isub, 1) := by decide +kernel
theorem dX12_isName_17 : decode cX12_isName 17 = .ok (.bipush 8, 2) := by decide +kernel
theorem dX12_isName_19 : decode cX12_isName 19 = .ok (.if_icmp .gt 16, 3) := by decide +kernel
theorem dX12_isName_22 : decode cX12_isName 22 = .ok (.aload_n 0, 1) := by decide +kernel
theorem dX12_isName_23 : decode cX12_isName 23 = .ok (.aload_n 1, 1) := by decide +kernel
theorem dX12_isName_24 : decode cX12_isName 24 = .ok (.invokevirtual 170, 3) := by decide +kernel
theorem dX12_isName_27 : decode cX12_isName 27 = .ok (.iconst (-1), 1) := by decide +kernel
theorem dX12_isName_28 : decode cX12_isName 28 = .ok (.if_icmp .ne 7, 3) := by decide +kernel
theorem dX12_isName_31 : decode cX12_isName 31 = .ok (.iconst 1, 1) := by decide +kernel
theorem dX12_isName_32 : decode cX12_isName 32 = .ok (.goto 4, 3) := by decide +kernel
theorem dX12_isName_35 : decode cX12_isName 35 = .ok (.iconst 0, 1) := by decide +kernel
theorem dX12_isName_36 : decode cX12_isName 36 = .ok (.ireturn, 1) := by decide +kernel
theorem dX12_nameHere_0 : decode cX12_nameHere 0 = .ok (.lconst 0, 1) := by decide +kernel
theorem dX12_nameHere_1 : decode cX12_nameHere 1 = .ok (.lstore_n 1, 1) := by decide +kernel
theorem dX12_nameHere_2 : decode cX12_nameHere 2 = .ok (.aload_n 0, 1) := by decide +kernel
theorem dX12_nameHere_3 : decode cX12_nameHere 3 = .ok (.getfield 124, 3) := by decide +kernel
theorem dX12_nameHere_6 : decode cX12_nameHere 6 = .ok (.istore_n 3, 1) := by decide +kernel
theorem dX12_nameHere_7 : decode cX12_nameHere 7 = .ok (.iload_n 3, 1) := by decide +kernel
theorem dX12_nameHere_8 : decode cX12_nameHere 8 = .ok (.aload_n 0, 1) := by decide +kernel
theorem dX12_nameHere_9 : decode cX12_nameHere 9 = .ok (.getfield 118, 3) := by decide +kernel
theorem dX12_nameHere_12 : decode cX12_nameHere 12 = .ok (.if_icmp .ge 21, 3) := by decide +kernel
theorem dX12_nameHere_15 : decode cX12_nameHere 15 = .ok (.lload_n 1, 1) := by decide +kernel
theorem dX12_nameHere_16 : decode cX12_nameHere 16 = .ok (.bipush 8, 2) := by decide +kernel
theorem dX12_nameHere_18 : decode cX12_nameHere 18 = .ok (.lshl, 1) := by decide +kernel
theorem dX12_nameHere_19 : decode cX12_nameHere 19 = .ok (.aload_n 0, 1) := by decide +kernel
theorem dX12_nameHere_20 : decode cX12_nameHere 20 = .ok (.iload_n 3, 1) := by decide +kernel
theorem dX12_nameHere_21 : decode cX12_nameHere 21 = .ok (.invokevirtual 121, 3) := by decide +kernel
theorem dX12_nameHere_24 : decode cX12_nameHere 24 = .ok (.i2l, 1) := by decide +kernel
theorem dX12_nameHere_25 : decode cX12_nameHere 25 = .ok (.lor, 1) := by decide +kernel
theorem dX12_nameHere_26 : decode cX12_nameHere 26 = .ok (.lstore_n 1, 1) := by decide +kernel
theorem dX12_nameHere_27 : decode cX12_nameHere 27 = .ok (.iinc 3 1, 3) := by decide +kernel
theorem dX12_nameHere_30 : decode cX12_nameHere 30 = .ok (.goto (-23), 3) := by decide +kernel
theorem dX12_nameHere_33 : decode cX12_nameHere 33 = .ok (.lload_n 1, 1) := by decide +kernel
theorem dX12_nameHere_34 : decode cX12_nameHere 34 = .ok (.lreturn, 1) := by decide +kernel
theorem dX12_findHere_0 : decode cX12_findHere 0 = .ok (.iconst 0, 1) := by decide +kernel
theorem dX12_findHere_1 : decode cX12_findHere 1 = .ok (.istore_n 3, 1) := by decide +kernel
theorem dX12_findHere_2 : decode cX12_findHere 2 = .ok (.iload_n 3, 1) := by decide +kernel
theorem dX12_findHere_3 : decode cX12_findHere 3 = .ok (.iload_n 2, 1) := by decide +kernel
theorem dX12_findHere_4 : decode cX12_findHere 4 = .ok (.if_icmp .ge 27, 3) := by decide +kernel
theorem dX12_findHere_7 : decode cX12_findHere 7 = .ok (.aload_n 0, 1) := by decide +kernel
theorem dX12_findHere_8 : decode cX12_findHere 8 = .ok (.getfield 13, 3) := by decide +kernel
theorem dX12_findHere_11 : decode cX12_findHere 11 = .ok (.iload_n 1, 1) := by decide +kernel
theorem dX12_findHere_12 : decode cX12_findHere 12 = .ok (.iload_n 3, 1) := by decide +kernel
theorem dX12_findHere_13 : decode cX12_findHere 13 = .ok (.iadd, 1) := by decide +kernel
theorem dX12_findHere_14 : decode cX12_findHere 14 = .ok (.laload, 1) := by decide +kernel
theorem dX12_findHere_15 : decode cX12_findHere 15 = .ok (.aload_n 0, 1) := by decide +kernel
theorem dX12_findHere_16 : decode cX12_findHere 16 = .ok (.invokevirtual 174, 3) := by decide +kernel
theorem dX12_findHere_19 : decode cX12_findHere 19 = .ok (.lcmp, 1) := by decide +kernel
theorem dX12_findHere_20 : decode cX12_findHere 20 = .ok (.ifCond .ne 5, 3) := by decide +kernel
theorem dX12_findHere_23 : decode cX12_findHere 23 = .ok (.iload_n 3, 1) := by decide +kernel
theorem dX12_findHere_24 : decode cX12_findHere 24 = .ok (.ireturn, 1) := by decide +kernel
theorem dX12_findHere_25 : decode cX12_findHere 25 = .ok (.iinc 3 1, 3) := by decide +kernel
theorem dX12_findHere_28 : decode cX12_findHere 28 = .ok (.goto (-26), 3) := by decide +kernel
theorem dX12_findHere_31 : decode cX12_findHere 31 = .ok (.iconst (-1), 1) := by decide +kernel
theorem dX12_findHere_32 : decode cX12_findHere 32 = .ok (.ireturn, 1) := by decide +kernel
theorem dX12_fault_0 : decode cX12_fault 0 = .ok (.iload_n 1, 1) := by decide +kernel
theorem dX12_fault_1 : decode cX12_fault 1 = .ok (.ifCond .ne 10, 3) := by decide +kernel
theorem dX12_fault_4 : decode cX12_fault 4 = .ok (.aload_n 0, 1) := by decide +kernel
theorem dX12_fault_5 : decode cX12_fault 5 = .ok (.getfield 37, 3) := by decide +kernel
theorem dX12_fault_8 : decode cX12_fault 8 = .ok (.goto 16, 3) := by decide +kernel
theorem dX12_fault_11 : decode cX12_fault 11 = .ok (.iload_n 1, 1) := by decide +kernel
theorem dX12_fault_12 : decode cX12_fault 12 = .ok (.iconst 1, 1) := by decide +kernel
theorem dX12_fault_13 : decode cX12_fault 13 = .ok (.if_icmp .ne 10, 3) := by decide +kernel
theorem dX12_fault_16 : decode cX12_fault 16 = .ok (.aload_n 0, 1) := by decide +kernel
theorem dX12_fault_17 : decode cX12_fault 17 = .ok (.getfield 41, 3) := by decide +kernel
theorem dX12_fault_20 : decode cX12_fault 20 = .ok (.goto 4, 3) := by decide +kernel
theorem dX12_fault_23 : decode cX12_fault 23 = .ok (.iconst (-1), 1) := by decide +kernel
theorem dX12_fault_24 : decode cX12_fault 24 = .ok (.ireturn, 1) := by decide +kernel
theorem dX12_taken_0 : decode cX12_taken 0 = .ok (.aload_n 0, 1) := by decide +kernel
theorem dX12_taken_1 : decode cX12_taken 1 = .ok (.aload_n 0, 1) := by decide +kernel
theorem dX12_taken_2 : decode cX12_taken 2 = .ok (.getfield 155, 3) := by decide +kernel
theorem dX12_taken_5 : decode cX12_taken 5 = .ok (.putfield 37, 3) := by decide +kernel
theorem dX12_taken_8 : decode cX12_taken 8 = .ok (.aload_n 0, 1) := by decide +kernel
theorem dX12_taken_9 : decode cX12_taken 9 = .ok (.getfield 155, 3) := by decide +kernel
theorem dX12_taken_12 : decode cX12_taken 12 = .ok (.ifCond .le 12, 3) := by decide +kernel
theorem dX12_taken_15 : decode cX12_taken 15 = .ok (.aload_n 0, 1) := by decide +kernel
theorem dX12_taken_16 : decode cX12_taken 16 = .ok (.bipush 9, 2) := by decide +kernel
theorem dX12_taken_18 : decode cX12_taken 18 = .ok (.invokevirtual 85, 3) := by decide +kernel
theorem dX12_taken_21 : decode cX12_taken 21 = .ok (.goto 8, 3) := by decide +kernel
theorem dX12_taken_24 : decode cX12_taken 24 = .ok (.aload_n 0, 1) := by decide +kernel
theorem dX12_taken_25 : decode cX12_taken 25 = .ok (.iload_n 1, 1) := by decide +kernel
theorem dX12_taken_26 : decode cX12_taken 26 = .ok (.invokevirtual 89, 3) := by decide +kernel
theorem dX12_taken_29 : decode cX12_taken 29 = .ok (.ireturn, 1) := by decide +kernel
theorem dX12_isTaken_0 : decode cX12_isTaken 0 = .ok (.aload_n 0, 1) := by decide +kernel
theorem dX12_isTaken_1 : decode cX12_isTaken 1 = .ok (.bipush 108, 2) := by decide +kernel
theorem dX12_isTaken_3 : decode cX12_isTaken 3 = .ok (.aload_n 0, 1) := by decide +kernel
theorem dX12_isTaken_4 : decode cX12_isTaken 4 = .ok (.getfield 7, 3) := by decide +kernel
theorem dX12_isTaken_7 : decode cX12_isTaken 7 = .ok (.sipush 1980, 3) := by decide +kernel
theorem dX12_isTaken_10 : decode cX12_isTaken 10 = .ok (.iaload, 1) := by decide +kernel
theorem dX12_isTaken_11 : decode cX12_isTaken 11 = .ok (.invokevirtual 178, 3) := by decide +kernel
theorem dX12_isTaken_14 : decode cX12_isTaken 14 = .ok (.iconst (-1), 1) := by decide +kernel
theorem dX12_isTaken_15 : decode cX12_isTaken 15 = .ok (.if_icmp .ne 21, 3) := by decide +kernel
theorem dX12_isTaken_18 : decode cX12_isTaken 18 = .ok (.aload_n 0, 1) := by decide +kernel
theorem dX12_isTaken_19 : decode cX12_isTaken 19 = .ok (.bipush 116, 2) := by decide +kernel
theorem dX12_isTaken_21 : decode cX12_isTaken 21 = .ok (.aload_n 0, 1) := by decide +kernel
theorem dX12_isTaken_22 : decode cX12_isTaken 22 = .ok (.getfield 7, 3) := by decide +kernel
theorem dX12_isTaken_25 : decode cX12_isTaken 25 = .ok (.sipush 1982, 3) := by decide +kernel
theorem dX12_isTaken_28 : decode cX12_isTaken 28 = .ok (.iaload, 1) := by decide +kernel
theorem dX12_isTaken_29 : decode cX12_isTaken 29 = .ok (.invokevirtual 178, 3) := by decide +kernel
theorem dX12_isTaken_32 : decode cX12_isTaken 32 = .ok (.iconst (-1), 1) := by decide +kernel
theorem dX12_isTaken_33 : decode cX12_isTaken 33 = .ok (.if_icmp .eq 5, 3) := by decide +kernel
theorem dX12_isTaken_36 : decode cX12_isTaken 36 = .ok (.iconst 1, 1) := by decide +kernel
theorem dX12_isTaken_37 : decode cX12_isTaken 37 = .ok (.ireturn, 1) := by decide +kernel
theorem dX12_isTaken_38 : decode cX12_isTaken 38 = .ok (.aload_n 0, 1) := by decide +kernel
theorem dX12_isTaken_39 : decode cX12_isTaken 39 = .ok (.bipush 123, 2) := by decide +kernel
theorem dX12_isTaken_41 : decode cX12_isTaken 41 = .ok (.aload_n 0, 1) := by decide +kernel
theorem dX12_isTaken_42 : decode cX12_isTaken 42 = .ok (.getfield 7, 3) := by decide +kernel
theorem dX12_isTaken_45 : decode cX12_isTaken 45 = .ok (.sipush 1983, 3) := by decide +kernel
theorem dX12_isTaken_48 : decode cX12_isTaken 48 = .ok (.iaload, 1) := by decide +kernel
theorem dX12_isTaken_49 : decode cX12_isTaken 49 = .ok (.invokevirtual 178, 3) := by decide +kernel
theorem dX12_isTaken_52 : decode cX12_isTaken 52 = .ok (.iconst (-1), 1) := by decide +kernel
theorem dX12_isTaken_53 : decode cX12_isTaken 53 = .ok (.if_icmp .ne 22, 3) := by decide +kernel
theorem dX12_isTaken_56 : decode cX12_isTaken 56 = .ok (.aload_n 0, 1) := by decide +kernel
theorem dX12_isTaken_57 : decode cX12_isTaken 57 = .ok (.sipush 131, 3) := by decide +kernel
theorem dX12_isTaken_60 : decode cX12_isTaken 60 = .ok (.aload_n 0, 1) := by decide +kernel
theorem dX12_isTaken_61 : decode cX12_isTaken 61 = .ok (.getfield 7, 3) := by decide +kernel
theorem dX12_isTaken_64 : decode cX12_isTaken 64 = .ok (.sipush 1984, 3) := by decide +kernel
theorem dX12_isTaken_67 : decode cX12_isTaken 67 = .ok (.iaload, 1) := by decide +kernel
theorem dX12_isTaken_68 : decode cX12_isTaken 68 = .ok (.invokevirtual 178, 3) := by decide +kernel
theorem dX12_isTaken_71 : decode cX12_isTaken 71 = .ok (.iconst (-1), 1) := by decide +kernel
theorem dX12_isTaken_72 : decode cX12_isTaken 72 = .ok (.if_icmp .eq 7, 3) := by decide +kernel
theorem dX12_isTaken_75 : decode cX12_isTaken 75 = .ok (.iconst 1, 1) := by decide +kernel
theorem dX12_isTaken_76 : decode cX12_isTaken 76 = .ok (.goto 4, 3) := by decide +kernel
theorem dX12_isTaken_79 : decode cX12_isTaken 79 = .ok (.iconst 0, 1) := by decide +kernel
theorem dX12_isTaken_80 : decode cX12_isTaken 80 = .ok (.ireturn, 1) := by decide +kernel
theorem dX12_newOne_0 : decode cX12_newOne 0 = .ok (.aload_n 0, 1) := by decide +kernel
theorem dX12_newOne_1 : decode cX12_newOne 1 = .ok (.getfield 7, 3) := by decide +kernel
theorem dX12_newOne_4 : decode cX12_newOne 4 = .ok (.sipush 1980, 3) := by decide +kernel
theorem dX12_newOne_7 : decode cX12_newOne 7 = .ok (.iload_n 1, 1) := by decide +kernel
theorem dX12_newOne_8 : decode cX12_newOne 8 = .ok (.iadd, 1) := by decide +kernel
theorem dX12_newOne_9 : decode cX12_newOne 9 = .ok (.iaload, 1) := by decide +kernel
theorem dX12_newOne_10 : decode cX12_newOne 10 = .ok (.iload_n 2, 1) := by decide +kernel
theorem dX12_newOne_11 : decode cX12_newOne 11 = .ok (.if_icmp .ne 10, 3) := by decide +kernel
theorem dX12_newOne_14 : decode cX12_newOne 14 = .ok (.aload_n 0, 1) := by decide +kernel
theorem dX12_newOne_15 : decode cX12_newOne 15 = .ok (.bipush 6, 2) := by decide +kernel
theorem dX12_newOne_17 : decode cX12_newOne 17 = .ok (.invokevirtual 167, 3) := by decide +kernel
theorem dX12_newOne_20 : decode cX12_newOne 20 = .ok (.ireturn, 1) := by decide +kernel
theorem dX12_newOne_21 : decode cX12_newOne 21 = .ok (.aload_n 0, 1) := by decide +kernel
theorem dX12_newOne_22 : decode cX12_newOne 22 = .ok (.invokevirtual 161, 3) := by decide +kernel
theorem dX12_newOne_25 : decode cX12_newOne 25 = .ok (.aload_n 0, 1) := by decide +kernel
theorem dX12_newOne_26 : decode cX12_newOne 26 = .ok (.ldc 181, 2) := by decide +kernel
theorem dX12_newOne_28 : decode cX12_newOne 28 = .ok (.invokevirtual 183, 3) := by decide +kernel
theorem dX12_newOne_31 : decode cX12_newOne 31 = .ok (.ifCond .ne 9, 3) := by decide +kernel
theorem dX12_newOne_34 : decode cX12_newOne 34 = .ok (.aload_n 0, 1) := by decide +kernel
theorem dX12_newOne_35 : decode cX12_newOne 35 = .ok (.iconst 2, 1) := by decide +kernel
theorem dX12_newOne_36 : decode cX12_newOne 36 = .ok (.invokevirtual 167, 3) := by decide +kernel
theorem dX12_newOne_39 : decode cX12_newOne 39 = .ok (.ireturn, 1) := by decide +kernel
theorem dX12_newOne_40 : decode cX12_newOne 40 = .ok (.aload_n 0, 1) := by decide +kernel
theorem dX12_newOne_41 : decode cX12_newOne 41 = .ok (.invokevirtual 187, 3) := by decide +kernel
theorem dX12_newOne_44 : decode cX12_newOne 44 = .ok (.ifCond .eq 9, 3) := by decide +kernel
theorem dX12_newOne_47 : decode cX12_newOne 47 = .ok (.aload_n 0, 1) := by decide +kernel
theorem dX12_newOne_48 : decode cX12_newOne 48 = .ok (.iconst 3, 1) := by decide +kernel
theorem dX12_newOne_49 : decode cX12_newOne 49 = .ok (.invokevirtual 167, 3) := by decide +kernel
theorem dX12_newOne_52 : decode cX12_newOne 52 = .ok (.ireturn, 1) := by decide +kernel
theorem dX12_newOne_53 : decode cX12_newOne 53 = .ok (.aload_n 0, 1) := by decide +kernel
theorem dX12_newOne_54 : decode cX12_newOne 54 = .ok (.getfield 13, 3) := by decide +kernel
theorem dX12_newOne_57 : decode cX12_newOne 57 = .ok (.bipush 108, 2) := by decide +kernel
theorem dX12_newOne_59 : decode cX12_newOne 59 = .ok (.iload_n 3, 1) := by decide +kernel
theorem dX12_newOne_60 : decode cX12_newOne 60 = .ok (.iadd, 1) := by decide +kernel
theorem dX12_newOne_61 : decode cX12_newOne 61 = .ok (.aload_n 0, 1) := by decide +kernel
theorem dX12_newOne_62 : decode cX12_newOne 62 = .ok (.getfield 7, 3) := by decide +kernel
theorem dX12_newOne_65 : decode cX12_newOne 65 = .ok (.sipush 1980, 3) := by decide +kernel
theorem dX12_newOne_68 : decode cX12_newOne 68 = .ok (.iload_n 1, 1) := by decide +kernel
theorem dX12_newOne_69 : decode cX12_newOne 69 = .ok (.iadd, 1) := by decide +kernel
theorem dX12_newOne_70 : decode cX12_newOne 70 = .ok (.iaload, 1) := by decide +kernel
theorem dX12_newOne_71 : decode cX12_newOne 71 = .ok (.iadd, 1) := by decide +kernel
theorem dX12_newOne_72 : decode cX12_newOne 72 = .ok (.aload_n 0, 1) := by decide +kernel
theorem dX12_newOne_73 : decode cX12_newOne 73 = .ok (.invokevirtual 174, 3) := by decide +kernel
theorem dX12_newOne_76 : decode cX12_newOne 76 = .ok (.lastore, 1) := by decide +kernel
theorem dX12_newOne_77 : decode cX12_newOne 77 = .ok (.aload_n 0, 1) := by decide +kernel
theorem dX12_newOne_78 : decode cX12_newOne 78 = .ok (.invokevirtual 161, 3) := by decide +kernel
theorem dX12_newOne_81 : decode cX12_newOne 81 = .ok (.iconst 1, 1) := by decide +kernel
theorem dX12_newOne_82 : decode cX12_newOne 82 = .ok (.ireturn, 1) := by decide +kernel
theorem dX12_oldOne_0 : decode cX12_oldOne 0 = .ok (.aload_n 0, 1) := by decide +kernel
theorem dX12_oldOne_1 : decode cX12_oldOne 1 = .ok (.ldc 181, 2) := by decide +kernel
theorem dX12_oldOne_3 : decode cX12_oldOne 3 = .ok (.invokevirtual 183, 3) := by decide +kernel
theorem dX12_oldOne_6 : decode cX12_oldOne 6 = .ok (.ifCond .ne 9, 3) := by decide +kernel
theorem dX12_oldOne_9 : decode cX12_oldOne 9 = .ok (.aload_n 0, 1) := by decide +kernel
theorem dX12_oldOne_10 : decode cX12_oldOne 10 = .ok (.iconst 2, 1) := by decide +kernel
theorem dX12_oldOne_11 : decode cX12_oldOne 11 = .ok (.invokevirtual 167, 3) := by decide +kernel
theorem dX12_oldOne_14 : decode cX12_oldOne 14 = .ok (.ireturn, 1) := by decide +kernel
theorem dX12_oldOne_15 : decode cX12_oldOne 15 = .ok (.aload_n 0, 1) := by decide +kernel
theorem dX12_oldOne_16 : decode cX12_oldOne 16 = .ok (.getfield 7, 3) := by decide +kernel
theorem dX12_oldOne_19 : decode cX12_oldOne 19 = .ok (.iload_n 3, 1) := by decide +kernel
theorem dX12_oldOne_20 : decode cX12_oldOne 20 = .ok (.aload_n 0, 1) := by decide +kernel
theorem dX12_oldOne_21 : decode cX12_oldOne 21 = .ok (.iload_n 1, 1) := by decide +kernel
theorem dX12_oldOne_22 : decode cX12_oldOne 22 = .ok (.iload_n 2, 1) := by decide +kernel
theorem dX12_oldOne_23 : decode cX12_oldOne 23 = .ok (.invokevirtual 178, 3) := by decide +kernel
theorem dX12_oldOne_26 : decode cX12_oldOne 26 = .ok (.iastore, 1) := by decide +kernel
theorem dX12_oldOne_27 : decode cX12_oldOne 27 = .ok (.aload_n 0, 1) := by decide +kernel
theorem dX12_oldOne_28 : decode cX12_oldOne 28 = .ok (.getfield 7, 3) := by decide +kernel
theorem dX12_oldOne_31 : decode cX12_oldOne 31 = .ok (.iload_n 3, 1) := by decide +kernel
theorem dX12_oldOne_32 : decode cX12_oldOne 32 = .ok (.iaload, 1) := by decide +kernel
theorem dX12_oldOne_33 : decode cX12_oldOne 33 = .ok (.iconst (-1), 1) := by decide +kernel
theorem dX12_oldOne_34 : decode cX12_oldOne 34 = .ok (.if_icmp .ne 9, 3) := by decide +kernel
theorem dX12_oldOne_37 : decode cX12_oldOne 37 = .ok (.aload_n 0, 1) := by decide +kernel
theorem dX12_oldOne_38 : decode cX12_oldOne 38 = .ok (.iconst 3, 1) := by decide +kernel
theorem dX12_oldOne_39 : decode cX12_oldOne 39 = .ok (.invokevirtual 167, 3) := by decide +kernel
theorem dX12_oldOne_42 : decode cX12_oldOne 42 = .ok (.ireturn, 1) := by decide +kernel
theorem dX12_oldOne_43 : decode cX12_oldOne 43 = .ok (.aload_n 0, 1) := by decide +kernel
theorem dX12_oldOne_44 : decode cX12_oldOne 44 = .ok (.invokevirtual 161, 3) := by decide +kernel
theorem dX12_oldOne_47 : decode cX12_oldOne 47 = .ok (.iconst 1, 1) := by decide +kernel
theorem dX12_oldOne_48 : decode cX12_oldOne 48 = .ok (.ireturn, 1) := by decide +kernel
theorem dX12_newCornerTo_0 : decode cX12_newCornerTo 0 = .ok (.aload_n 0, 1) := by decide +kernel
theorem dX12_newCornerTo_1 : decode cX12_newCornerTo 1 = .ok (.bipush 108, 2) := by decide +kernel
theorem dX12_newCornerTo_3 : decode cX12_newCornerTo 3 = .ok (.aload_n 0, 1) := by decide +kernel
theorem dX12_newCornerTo_4 : decode cX12_newCornerTo 4 = .ok (.getfield 7, 3) := by decide +kernel
theorem dX12_newCornerTo_7 : decode cX12_newCornerTo 7 = .ok (.sipush 1980, 3) := by decide +kernel
theorem dX12_newCornerTo_10 : decode cX12_newCornerTo 10 = .ok (.iaload, 1) := by decide +kernel
theorem dX12_newCornerTo_11 : decode cX12_newCornerTo 11 = .ok (.iload_n 1, 1) := by decide +kernel
theorem dX12_newCornerTo_12 : decode cX12_newCornerTo 12 = .ok (.invokevirtual 191, 3) := by decide +kernel
theorem dX12_newCornerTo_15 : decode cX12_newCornerTo 15 = .ok (.ireturn, 1) := by decide +kernel
theorem dX12_aCorner_0 : decode cX12_aCorner 0 = .ok (.aload_n 0, 1) := by decide +kernel
theorem dX12_aCorner_1 : decode cX12_aCorner 1 = .ok (.iconst 0, 1) := by decide +kernel
theorem dX12_aCorner_2 : decode cX12_aCorner 2 = .ok (.bipush 8, 2) := by decide +kernel
theorem dX12_aCorner_4 : decode cX12_aCorner 4 = .ok (.iconst 0, 1) := by decide +kernel
theorem dX12_aCorner_5 : decode cX12_aCorner 5 = .ok (.invokevirtual 195, 3) := by decide +kernel
theorem dX12_aCorner_8 : decode cX12_aCorner 8 = .ok (.ifCond .ne 5, 3) := by decide +kernel
theorem dX12_aCorner_11 : decode cX12_aCorner 11 = .ok (.iconst 0, 1) := by decide +kernel
theorem dX12_aCorner_12 : decode cX12_aCorner 12 = .ok (.ireturn, 1) := by decide +kernel
theorem dX12_aCorner_13 : decode cX12_aCorner 13 = .ok (.aload_n 0, 1) := by decide +kernel
theorem dX12_aCorner_14 : decode cX12_aCorner 14 = .ok (.getfield 7, 3) := by decide +kernel
theorem dX12_aCorner_17 : decode cX12_aCorner 17 = .ok (.sipush 1980, 3) := by decide +kernel
theorem dX12_aCorner_20 : decode cX12_aCorner 20 = .ok (.dup2, 1) := by decide +kernel
theorem dX12_aCorner_21 : decode cX12_aCorner 21 = .ok (.iaload, 1) := by decide +kernel
theorem dX12_aCorner_22 : decode cX12_aCorner 22 = .ok (.iconst 1, 1) := by decide +kernel
theorem dX12_aCorner_23 : decode cX12_aCorner 23 = .ok (.iadd, 1) := by decide +kernel
theorem dX12_aCorner_24 : decode cX12_aCorner 24 = .ok (.iastore, 1) := by decide +kernel
theorem dX12_aCorner_25 : decode cX12_aCorner 25 = .ok (.iconst 1, 1) := by decide +kernel
theorem dX12_aCorner_26 : decode cX12_aCorner 26 = .ok (.ireturn, 1) := by decide +kernel
theorem dX12_aRoad_0 : decode cX12_aRoad 0 = .ok (.aload_n 0, 1) := by decide +kernel
theorem dX12_aRoad_1 : decode cX12_aRoad 1 = .ok (.getfield 7, 3) := by decide +kernel
theorem dX12_aRoad_4 : decode cX12_aRoad 4 = .ok (.sipush 1981, 3) := by decide +kernel
theorem dX12_aRoad_7 : decode cX12_aRoad 7 = .ok (.iaload, 1) := by decide +kernel
theorem dX12_aRoad_8 : decode cX12_aRoad 8 = .ok (.bipush 12, 2) := by decide +kernel
theorem dX12_aRoad_10 : decode cX12_aRoad 10 = .ok (.if_icmp .ne 10, 3) := by decide +kernel
theorem dX12_aRoad_13 : decode cX12_aRoad 13 = .ok (.aload_n 0, 1) := by decide +kernel
theorem dX12_aRoad_14 : decode cX12_aRoad 14 = .ok (.bipush 6, 2) := by decide +kernel
theorem dX12_aRoad_16 : decode cX12_aRoad 16 = .ok (.invokevirtual 167, 3) := by decide +kernel
theorem dX12_aRoad_19 : decode cX12_aRoad 19 = .ok (.ireturn, 1) := by decide +kernel
theorem dX12_aRoad_20 : decode cX12_aRoad 20 = .ok (.sipush 1980, 3) := by decide +kernel
theorem dX12_aRoad_23 : decode cX12_aRoad 23 = .ok (.aload_n 0, 1) := by decide +kernel
theorem dX12_aRoad_24 : decode cX12_aRoad 24 = .ok (.getfield 7, 3) := by decide +kernel
theorem dX12_aRoad_27 : decode cX12_aRoad 27 = .ok (.sipush 1981, 3) := by decide +kernel
theorem dX12_aRoad_30 : decode cX12_aRoad 30 = .ok (.iaload, 1) := by decide +kernel
theorem dX12_aRoad_31 : decode cX12_aRoad 31 = .ok (.invokestatic 198, 3) := by decide +kernel
theorem dX12_aRoad_34 : decode cX12_aRoad 34 = .ok (.iadd, 1) := by decide +kernel
theorem dX12_aRoad_35 : decode cX12_aRoad 35 = .ok (.istore_n 1, 1) := by decide +kernel
theorem dX12_aRoad_36 : decode cX12_aRoad 36 = .ok (.aload_n 0, 1) := by decide +kernel
theorem dX12_aRoad_37 : decode cX12_aRoad 37 = .ok (.invokevirtual 161, 3) := by decide +kernel
theorem dX12_aRoad_40 : decode cX12_aRoad 40 = .ok (.aload_n 0, 1) := by decide +kernel
theorem dX12_aRoad_41 : decode cX12_aRoad 41 = .ok (.iload_n 1, 1) := by decide +kernel
theorem dX12_aRoad_42 : decode cX12_aRoad 42 = .ok (.invokevirtual 201, 3) := by decide +kernel
theorem dX12_aRoad_45 : decode cX12_aRoad 45 = .ok (.ifCond .ne 5, 3) := by decide +kernel
theorem dX12_aRoad_48 : decode cX12_aRoad 48 = .ok (.iconst 0, 1) := by decide +kernel
theorem dX12_aRoad_49 : decode cX12_aRoad 49 = .ok (.ireturn, 1) := by decide +kernel
theorem dX12_aRoad_50 : decode cX12_aRoad 50 = .ok (.aload_n 0, 1) := by decide +kernel
theorem dX12_aRoad_51 : decode cX12_aRoad 51 = .ok (.ldc 181, 2) := by decide +kernel
theorem dX12_aRoad_53 : decode cX12_aRoad 53 = .ok (.invokevirtual 183, 3) := by decide +kernel
theorem dX12_aRoad_56 : decode cX12_aRoad 56 = .ok (.ifCond .eq 32, 3) := by decide +kernel
theorem dX12_aRoad_59 : decode cX12_aRoad 59 = .ok (.aload_n 0, 1) := by decide +kernel
theorem dX12_aRoad_60 : decode cX12_aRoad 60 = .ok (.bipush 108, 2) := by decide +kernel
theorem dX12_aRoad_62 : decode cX12_aRoad 62 = .ok (.aload_n 0, 1) := by decide +kernel
theorem dX12_aRoad_63 : decode cX12_aRoad 63 = .ok (.getfield 7, 3) := by decide +kernel
theorem dX12_aRoad_66 : decode cX12_aRoad 66 = .ok (.sipush 1980, 3) := by decide +kernel
theorem dX12_aRoad_69 : decode cX12_aRoad 69 = .ok (.iaload, 1) := by decide +kernel
theorem dX12_aRoad_70 : decode cX12_aRoad 70 = .ok (.invokevirtual 178, 3) := by decide +kernel
theorem dX12_aRoad_73 : decode cX12_aRoad 73 = .ok (.aload_n 0, 1) := by decide +kernel
theorem dX12_aRoad_74 : decode cX12_aRoad 74 = .ok (.getfield 7, 3) := by decide +kernel
theorem dX12_aRoad_77 : decode cX12_aRoad 77 = .ok (.iload_n 1, 1) := by decide +kernel
theorem dX12_aRoad_78 : decode cX12_aRoad 78 = .ok (.iaload, 1) := by decide +kernel
theorem dX12_aRoad_79 : decode cX12_aRoad 79 = .ok (.if_icmp .ne 9, 3) := by decide +kernel
theorem dX12_aRoad_82 : decode cX12_aRoad 82 = .ok (.aload_n 0, 1) := by decide +kernel
theorem dX12_aRoad_83 : decode cX12_aRoad 83 = .ok (.iconst 5, 1) := by decide +kernel
theorem dX12_aRoad_84 : decode cX12_aRoad 84 = .ok (.invokevirtual 167, 3) := by decide +kernel
theorem dX12_aRoad_87 : decode cX12_aRoad 87 = .ok (.ireturn, 1) := by decide +kernel
theorem dX12_aRoad_88 : decode cX12_aRoad 88 = .ok (.aload_n 0, 1) := by decide +kernel
theorem dX12_aRoad_89 : decode cX12_aRoad 89 = .ok (.iload_n 1, 1) := by decide +kernel
theorem dX12_aRoad_90 : decode cX12_aRoad 90 = .ok (.iconst 1, 1) := by decide +kernel
theorem dX12_aRoad_91 : decode cX12_aRoad 91 = .ok (.iadd, 1) := by decide +kernel
theorem dX12_aRoad_92 : decode cX12_aRoad 92 = .ok (.invokevirtual 201, 3) := by decide +kernel
theorem dX12_aRoad_95 : decode cX12_aRoad 95 = .ok (.ifCond .eq 27, 3) := by decide +kernel
theorem dX12_aRoad_98 : decode cX12_aRoad 98 = .ok (.aload_n 0, 1) := by decide +kernel
theorem dX12_aRoad_99 : decode cX12_aRoad 99 = .ok (.ldc 181, 2) := by decide +kernel
theorem dX12_aRoad_101 : decode cX12_aRoad 101 = .ok (.bipush 9, 2) := by decide +kernel
theorem dX12_aRoad_103 : decode cX12_aRoad 103 = .ok (.invokevirtual 204, 3) := by decide +kernel
theorem dX12_aRoad_106 : decode cX12_aRoad 106 = .ok (.ifCond .eq 16, 3) := by decide +kernel
theorem dX12_aRoad_109 : decode cX12_aRoad 109 = .ok (.aload_n 0, 1) := by decide +kernel
theorem dX12_aRoad_110 : decode cX12_aRoad 110 = .ok (.iload_n 1, 1) := by decide +kernel
theorem dX12_aRoad_111 : decode cX12_aRoad 111 = .ok (.iconst 2, 1) := by decide +kernel
theorem dX12_aRoad_112 : decode cX12_aRoad 112 = .ok (.iadd, 1) := by decide +kernel
theorem dX12_aRoad_113 : decode cX12_aRoad 113 = .ok (.iconst 1, 1) := by decide +kernel
theorem dX12_aRoad_114 : decode cX12_aRoad 114 = .ok (.bipush 9, 2) := by decide +kernel
theorem dX12_aRoad_116 : decode cX12_aRoad 116 = .ok (.invokevirtual 208, 3) := by decide +kernel
theorem dX12_aRoad_119 : decode cX12_aRoad 119 = .ok (.ifCond .ne 5, 3) := by decide +kernel
theorem dX12_aRoad_122 : decode cX12_aRoad 122 = .ok (.iconst 0, 1) := by decide +kernel
theorem dX12_aRoad_123 : decode cX12_aRoad 123 = .ok (.ireturn, 1) := by decide +kernel
theorem dX12_aRoad_124 : decode cX12_aRoad 124 = .ok (.aload_n 0, 1) := by decide +kernel
theorem dX12_aRoad_125 : decode cX12_aRoad 125 = .ok (.getfield 7, 3) := by decide +kernel
theorem dX12_aRoad_128 : decode cX12_aRoad 128 = .ok (.sipush 1981, 3) := by decide +kernel
theorem dX12_aRoad_131 : decode cX12_aRoad 131 = .ok (.dup2, 1) := by decide +kernel
theorem dX12_aRoad_132 : decode cX12_aRoad 132 = .ok (.iaload, 1) := by decide +kernel
theorem dX12_aRoad_133 : decode cX12_aRoad 133 = .ok (.iconst 1, 1) := by decide +kernel
theorem dX12_aRoad_134 : decode cX12_aRoad 134 = .ok (.iadd, 1) := by decide +kernel
theorem dX12_aRoad_135 : decode cX12_aRoad 135 = .ok (.iastore, 1) := by decide +kernel
theorem dX12_aRoad_136 : decode cX12_aRoad 136 = .ok (.iconst 1, 1) := by decide +kernel
theorem dX12_aRoad_137 : decode cX12_aRoad 137 = .ok (.ireturn, 1) := by decide +kernel
theorem dX12_anExtra_0 : decode cX12_anExtra 0 = .ok (.sipush 1980, 3) := by decide +kernel
theorem dX12_anExtra_3 : decode cX12_anExtra 3 = .ok (.aload_n 0, 1) := by decide +kernel
theorem dX12_anExtra_4 : decode cX12_anExtra 4 = .ok (.getfield 7, 3) := by decide +kernel
theorem dX12_anExtra_7 : decode cX12_anExtra 7 = .ok (.sipush 1982, 3) := by decide +kernel
theorem dX12_anExtra_10 : decode cX12_anExtra 10 = .ok (.iaload, 1) := by decide +kernel
theorem dX12_anExtra_11 : decode cX12_anExtra 11 = .ok (.invokestatic 211, 3) := by decide +kernel
theorem dX12_anExtra_14 : decode cX12_anExtra 14 = .ok (.iadd, 1) := by decide +kernel
theorem dX12_anExtra_15 : decode cX12_anExtra 15 = .ok (.istore_n 1, 1) := by decide +kernel
theorem dX12_anExtra_16 : decode cX12_anExtra 16 = .ok (.aload_n 0, 1) := by decide +kernel
theorem dX12_anExtra_17 : decode cX12_anExtra 17 = .ok (.iconst 2, 1) := by decide +kernel
theorem dX12_anExtra_18 : decode cX12_anExtra 18 = .ok (.bipush 7, 2) := by decide +kernel
theorem dX12_anExtra_20 : decode cX12_anExtra 20 = .ok (.bipush 8, 2) := by decide +kernel
theorem dX12_anExtra_22 : decode cX12_anExtra 22 = .ok (.invokevirtual 195, 3) := by decide +kernel
theorem dX12_anExtra_25 : decode cX12_anExtra 25 = .ok (.ifCond .eq 22, 3) := by decide +kernel
theorem dX12_anExtra_28 : decode cX12_anExtra 28 = .ok (.aload_n 0, 1) := by decide +kernel
theorem dX12_anExtra_29 : decode cX12_anExtra 29 = .ok (.ldc 181, 2) := by decide +kernel
theorem dX12_anExtra_31 : decode cX12_anExtra 31 = .ok (.bipush 10, 2) := by decide +kernel
theorem dX12_anExtra_33 : decode cX12_anExtra 33 = .ok (.invokevirtual 204, 3) := by decide +kernel
theorem dX12_anExtra_36 : decode cX12_anExtra 36 = .ok (.ifCond .eq 11, 3) := by decide +kernel
theorem dX12_anExtra_39 : decode cX12_anExtra 39 = .ok (.aload_n 0, 1) := by decide +kernel
theorem dX12_anExtra_40 : decode cX12_anExtra 40 = .ok (.iload_n 1, 1) := by decide +kernel
theorem dX12_anExtra_41 : decode cX12_anExtra 41 = .ok (.invokevirtual 201, 3) := by decide +kernel
theorem dX12_anExtra_44 : decode cX12_anExtra 44 = .ok (.ifCond .ne 5, 3) := by decide +kernel
theorem dX12_anExtra_47 : decode cX12_anExtra 47 = .ok (.iconst 0, 1) := by decide +kernel
theorem dX12_anExtra_48 : decode cX12_anExtra 48 = .ok (.ireturn, 1) := by decide +kernel
theorem dX12_anExtra_49 : decode cX12_anExtra 49 = .ok (.aload_n 0, 1) := by decide +kernel
theorem dX12_anExtra_50 : decode cX12_anExtra 50 = .ok (.getfield 7, 3) := by decide +kernel
theorem dX12_anExtra_53 : decode cX12_anExtra 53 = .ok (.sipush 1982, 3) := by decide +kernel
theorem dX12_anExtra_56 : decode cX12_anExtra 56 = .ok (.dup2, 1) := by decide +kernel
theorem dX12_anExtra_57 : decode cX12_anExtra 57 = .ok (.iaload, 1) := by decide +kernel
theorem dX12_anExtra_58 : decode cX12_anExtra 58 = .ok (.iconst 1, 1) := by decide +kernel
theorem dX12_anExtra_59 : decode cX12_anExtra 59 = .ok (.iadd, 1) := by decide +kernel
theorem dX12_anExtra_60 : decode cX12_anExtra 60 = .ok (.iastore, 1) := by decide +kernel
theorem dX12_anExtra_61 : decode cX12_anExtra 61 = .ok (.iconst 1, 1) := by decide +kernel
theorem dX12_anExtra_62 : decode cX12_anExtra 62 = .ok (.ireturn, 1) := by decide +kernel
theorem dX12_aHappening_0 : decode cX12_aHappening 0 = .ok (.sipush 1980, 3) := by decide +kernel
theorem dX12_aHappening_3 : decode cX12_aHappening 3 = .ok (.aload_n 0, 1) := by decide +kernel
theorem dX12_aHappening_4 : decode cX12_aHappening 4 = .ok (.getfield 7, 3) := by decide +kernel
theorem dX12_aHappening_7 : decode cX12_aHappening 7 = .ok (.sipush 1983, 3) := by decide +kernel
theorem dX12_aHappening_10 : decode cX12_aHappening 10 = .ok (.iaload, 1) := by decide +kernel
theorem dX12_aHappening_11 : decode cX12_aHappening 11 = .ok (.invokestatic 214, 3) := by decide +kernel
theorem dX12_aHappening_14 : decode cX12_aHappening 14 = .ok (.iadd, 1) := by decide +kernel
theorem dX12_aHappening_15 : decode cX12_aHappening 15 = .ok (.istore_n 1, 1) := by decide +kernel
theorem dX12_aHappening_16 : decode cX12_aHappening 16 = .ok (.aload_n 0, 1) := by decide +kernel
theorem dX12_aHappening_17 : decode cX12_aHappening 17 = .ok (.iconst 3, 1) := by decide +kernel
theorem dX12_aHappening_18 : decode cX12_aHappening 18 = .ok (.bipush 8, 2) := by decide +kernel
theorem dX12_aHappening_20 : decode cX12_aHappening 20 = .ok (.bipush 15, 2) := by decide +kernel
theorem dX12_aHappening_22 : decode cX12_aHappening 22 = .ok (.invokevirtual 195, 3) := by decide +kernel
theorem dX12_aHappening_25 : decode cX12_aHappening 25 = .ok (.ifCond .eq 22, 3) := by decide +kernel
theorem dX12_aHappening_28 : decode cX12_aHappening 28 = .ok (.aload_n 0, 1) := by decide +kernel
theorem dX12_aHappening_29 : decode cX12_aHappening 29 = .ok (.ldc 181, 2) := by decide +kernel
theorem dX12_aHappening_31 : decode cX12_aHappening 31 = .ok (.bipush 10, 2) := by decide +kernel
theorem dX12_aHappening_33 : decode cX12_aHappening 33 = .ok (.invokevirtual 204, 3) := by decide +kernel
theorem dX12_aHappening_36 : decode cX12_aHappening 36 = .ok (.ifCond .eq 11, 3) := by decide +kernel
theorem dX12_aHappening_39 : decode cX12_aHappening 39 = .ok (.aload_n 0, 1) := by decide +kernel
theorem dX12_aHappening_40 : decode cX12_aHappening 40 = .ok (.iload_n 1, 1) := by decide +kernel
theorem dX12_aHappening_41 : decode cX12_aHappening 41 = .ok (.invokevirtual 201, 3) := by decide +kernel
theorem dX12_aHappening_44 : decode cX12_aHappening 44 = .ok (.ifCond .ne 5, 3) := by decide +kernel
theorem dX12_aHappening_47 : decode cX12_aHappening 47 = .ok (.iconst 0, 1) := by decide +kernel
theorem dX12_aHappening_48 : decode cX12_aHappening 48 = .ok (.ireturn, 1) := by decide +kernel
theorem dX12_aHappening_49 : decode cX12_aHappening 49 = .ok (.aload_n 0, 1) := by decide +kernel
theorem dX12_aHappening_50 : decode cX12_aHappening 50 = .ok (.ldc 181, 2) := by decide +kernel
theorem dX12_aHappening_52 : decode cX12_aHappening 52 = .ok (.bipush 11, 2) := by decide +kernel
theorem dX12_aHappening_54 : decode cX12_aHappening 54 = .ok (.invokevirtual 204, 3) := by decide +kernel
theorem dX12_aHappening_57 : decode cX12_aHappening 57 = .ok (.ifCond .eq 40, 3) := by decide +kernel
theorem dX12_aHappening_60 : decode cX12_aHappening 60 = .ok (.aload_n 0, 1) := by decide +kernel
theorem dX12_aHappening_61 : decode cX12_aHappening 61 = .ok (.iload_n 1, 1) := by decide +kernel
theorem dX12_aHappening_62 : decode cX12_aHappening 62 = .ok (.iconst 1, 1) := by decide +kernel
theorem dX12_aHappening_63 : decode cX12_aHappening 63 = .ok (.iadd, 1) := by decide +kernel
theorem dX12_aHappening_64 : decode cX12_aHappening 64 = .ok (.iconst 0, 1) := by decide +kernel
theorem dX12_aHappening_65 : decode cX12_aHappening 65 = .ok (.sipush 999, 3) := by decide +kernel
theorem dX12_aHappening_68 : decode cX12_aHappening 68 = .ok (.invokevirtual 208, 3) := by decide +kernel
theorem dX12_aHappening_71 : decode cX12_aHappening 71 = .ok (.ifCond .eq 26, 3) := by decide +kernel
theorem dX12_aHappening_74 : decode cX12_aHappening 74 = .ok (.aload_n 0, 1) := by decide +kernel
theorem dX12_aHappening_75 : decode cX12_aHappening 75 = .ok (.ldc 181, 2) := by decide +kernel
theorem dX12_aHappening_77 : decode cX12_aHappening 77 = .ok (.bipush 12, 2) := by decide +kernel
theorem dX12_aHappening_79 : decode cX12_aHappening 79 = .ok (.invokevirtual 204, 3) := by decide +kernel
theorem dX12_aHappening_82 : decode cX12_aHappening 82 = .ok (.ifCond .eq 15, 3) := by decide +kernel
theorem dX12_aHappening_85 : decode cX12_aHappening 85 = .ok (.aload_n 0, 1) := by decide +kernel
theorem dX12_aHappening_86 : decode cX12_aHappening 86 = .ok (.iload_n 1, 1) := by decide +kernel
theorem dX12_aHappening_87 : decode cX12_aHappening 87 = .ok (.iconst 2, 1) := by decide +kernel
theorem dX12_aHappening_88 : decode cX12_aHappening 88 = .ok (.iadd, 1) := by decide +kernel
theorem dX12_aHappening_89 : decode cX12_aHappening 89 = .ok (.iconst 1, 1) := by decide +kernel
theorem dX12_aHappening_90 : decode cX12_aHappening 90 = .ok (.iconst 4, 1) := by decide +kernel
theorem dX12_aHappening_91 : decode cX12_aHappening 91 = .ok (.invokevirtual 208, 3) := by decide +kernel
theorem dX12_aHappening_94 : decode cX12_aHappening 94 = .ok (.ifCond .ne 5, 3) := by decide +kernel
theorem dX12_aHappening_97 : decode cX12_aHappening 97 = .ok (.iconst 0, 1) := by decide +kernel
theorem dX12_aHappening_98 : decode cX12_aHappening 98 = .ok (.ireturn, 1) := by decide +kernel
theorem dX12_aHappening_99 : decode cX12_aHappening 99 = .ok (.aload_n 0, 1) := by decide +kernel
theorem dX12_aHappening_100 : decode cX12_aHappening 100 = .ok (.getfield 7, 3) := by decide +kernel
theorem dX12_aHappening_103 : decode cX12_aHappening 103 = .ok (.sipush 1983, 3) := by decide +kernel
theorem dX12_aHappening_106 : decode cX12_aHappening 106 = .ok (.dup2, 1) := by decide +kernel
theorem dX12_aHappening_107 : decode cX12_aHappening 107 = .ok (.iaload, 1) := by decide +kernel
theorem dX12_aHappening_108 : decode cX12_aHappening 108 = .ok (.iconst 1, 1) := by decide +kernel
theorem dX12_aHappening_109 : decode cX12_aHappening 109 = .ok (.iadd, 1) := by decide +kernel
theorem dX12_aHappening_110 : decode cX12_aHappening 110 = .ok (.iastore, 1) := by decide +kernel
theorem dX12_aHappening_111 : decode cX12_aHappening 111 = .ok (.iconst 1, 1) := by decide +kernel
theorem dX12_aHappening_112 : decode cX12_aHappening 112 = .ok (.ireturn, 1) := by decide +kernel
theorem dX12_aWatcher_0 : decode cX12_aWatcher 0 = .ok (.sipush 1980, 3) := by decide +kernel
theorem dX12_aWatcher_3 : decode cX12_aWatcher 3 = .ok (.aload_n 0, 1) := by decide +kernel
theorem dX12_aWatcher_4 : decode cX12_aWatcher 4 = .ok (.getfield 7, 3) := by decide +kernel
theorem dX12_aWatcher_7 : decode cX12_aWatcher 7 = .ok (.sipush 1984, 3) := by decide +kernel
theorem dX12_aWatcher_10 : decode cX12_aWatcher 10 = .ok (.iaload, 1) := by decide +kernel
theorem dX12_aWatcher_11 : decode cX12_aWatcher 11 = .ok (.invokestatic 217, 3) := by decide +kernel
theorem dX12_aWatcher_14 : decode cX12_aWatcher 14 = .ok (.iadd, 1) := by decide +kernel
theorem dX12_aWatcher_15 : decode cX12_aWatcher 15 = .ok (.istore_n 1, 1) := by decide +kernel
theorem dX12_aWatcher_16 : decode cX12_aWatcher 16 = .ok (.aload_n 0, 1) := by decide +kernel
theorem dX12_aWatcher_17 : decode cX12_aWatcher 17 = .ok (.iconst 4, 1) := by decide +kernel
theorem dX12_aWatcher_18 : decode cX12_aWatcher 18 = .ok (.iconst 4, 1) := by decide +kernel
theorem dX12_aWatcher_19 : decode cX12_aWatcher 19 = .ok (.bipush 23, 2) := by decide +kernel
theorem dX12_aWatcher_21 : decode cX12_aWatcher 21 = .ok (.invokevirtual 195, 3) := by decide +kernel
theorem dX12_aWatcher_24 : decode cX12_aWatcher 24 = .ok (.ifCond .eq 46, 3) := by decide +kernel
theorem dX12_aWatcher_27 : decode cX12_aWatcher 27 = .ok (.aload_n 0, 1) := by decide +kernel
theorem dX12_aWatcher_28 : decode cX12_aWatcher 28 = .ok (.ldc 181, 2) := by decide +kernel
theorem dX12_aWatcher_30 : decode cX12_aWatcher 30 = .ok (.bipush 10, 2) := by decide +kernel
theorem dX12_aWatcher_32 : decode cX12_aWatcher 32 = .ok (.invokevirtual 204, 3) := by decide +kernel
theorem dX12_aWatcher_35 : decode cX12_aWatcher 35 = .ok (.ifCond .eq 35, 3) := by decide +kernel
theorem dX12_aWatcher_38 : decode cX12_aWatcher 38 = .ok (.aload_n 0, 1) := by decide +kernel
theorem dX12_aWatcher_39 : decode cX12_aWatcher 39 = .ok (.iload_n 1, 1) := by decide +kernel
theorem dX12_aWatcher_40 : decode cX12_aWatcher 40 = .ok (.invokevirtual 201, 3) := by decide +kernel
theorem dX12_aWatcher_43 : decode cX12_aWatcher 43 = .ok (.ifCond .eq 27, 3) := by decide +kernel
theorem dX12_aWatcher_46 : decode cX12_aWatcher 46 = .ok (.aload_n 0, 1) := by decide +kernel
theorem dX12_aWatcher_47 : decode cX12_aWatcher 47 = .ok (.ldc 181, 2) := by decide +kernel
theorem dX12_aWatcher_49 : decode cX12_aWatcher 49 = .ok (.bipush 13, 2) := by decide +kernel
theorem dX12_aWatcher_51 : decode cX12_aWatcher 51 = .ok (.invokevirtual 204, 3) := by decide +kernel
theorem dX12_aWatcher_54 : decode cX12_aWatcher 54 = .ok (.ifCond .eq 16, 3) := by decide +kernel
theorem dX12_aWatcher_57 : decode cX12_aWatcher 57 = .ok (.aload_n 0, 1) := by decide +kernel
theorem dX12_aWatcher_58 : decode cX12_aWatcher 58 = .ok (.iload_n 1, 1) := by decide +kernel
theorem dX12_aWatcher_59 : decode cX12_aWatcher 59 = .ok (.iconst 1, 1) := by decide +kernel
theorem dX12_aWatcher_60 : decode cX12_aWatcher 60 = .ok (.iadd, 1) := by decide +kernel
theorem dX12_aWatcher_61 : decode cX12_aWatcher 61 = .ok (.iconst 1, 1) := by decide +kernel
theorem dX12_aWatcher_62 : decode cX12_aWatcher 62 = .ok (.bipush 7, 2) := by decide +kernel
theorem dX12_aWatcher_64 : decode cX12_aWatcher 64 = .ok (.invokevirtual 208, 3) := by decide +kernel
theorem dX12_aWatcher_67 : decode cX12_aWatcher 67 = .ok (.ifCond .ne 5, 3) := by decide +kernel
theorem dX12_aWatcher_70 : decode cX12_aWatcher 70 = .ok (.iconst 0, 1) := by decide +kernel
theorem dX12_aWatcher_71 : decode cX12_aWatcher 71 = .ok (.ireturn, 1) := by decide +kernel
theorem dX12_aWatcher_72 : decode cX12_aWatcher 72 = .ok (.aload_n 0, 1) := by decide +kernel
theorem dX12_aWatcher_73 : decode cX12_aWatcher 73 = .ok (.getfield 7, 3) := by decide +kernel
theorem dX12_aWatcher_76 : decode cX12_aWatcher 76 = .ok (.sipush 1984, 3) := by decide +kernel
theorem dX12_aWatcher_79 : decode cX12_aWatcher 79 = .ok (.dup2, 1) := by decide +kernel
theorem dX12_aWatcher_80 : decode cX12_aWatcher 80 = .ok (.iaload, 1) := by decide +kernel
theorem dX12_aWatcher_81 : decode cX12_aWatcher 81 = .ok (.iconst 1, 1) := by decide +kernel
theorem dX12_aWatcher_82 : decode cX12_aWatcher 82 = .ok (.iadd, 1) := by decide +kernel
theorem dX12_aWatcher_83 : decode cX12_aWatcher 83 = .ok (.iastore, 1) := by decide +kernel
theorem dX12_aWatcher_84 : decode cX12_aWatcher 84 = .ok (.iconst 1, 1) := by decide +kernel
theorem dX12_aWatcher_85 : decode cX12_aWatcher 85 = .ok (.ireturn, 1) := by decide +kernel
theorem dX12_aRoster_0 : decode cX12_aRoster 0 = .ok (.sipush 2467, 3) := by decide +kernel
theorem dX12_aRoster_3 : decode cX12_aRoster 3 = .ok (.istore_n 1, 1) := by decide +kernel
theorem dX12_aRoster_4 : decode cX12_aRoster 4 = .ok (.aload_n 0, 1) := by decide +kernel
