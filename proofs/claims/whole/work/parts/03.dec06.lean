theorem dX11_fewest_5 : decode cX11_fewest 5 = .ok (.getfield 10, 3) := by decide +kernel
theorem dX11_fewest_8 : decode cX11_fewest 8 = .ok (.invokevirtual 322, 3) := by decide +kernel
theorem dX11_fewest_11 : decode cX11_fewest 11 = .ok (.aload_n 0, 1) := by decide +kernel
theorem dX11_fewest_12 : decode cX11_fewest 12 = .ok (.getfield 56, 3) := by decide +kernel
theorem dX11_fewest_15 : decode cX11_fewest 15 = .ok (.aload_n 0, 1) := by decide +kernel
theorem dX11_fewest_16 : decode cX11_fewest 16 = .ok (.getfield 10, 3) := by decide +kernel
theorem dX11_fewest_19 : decode cX11_fewest 19 = .ok (.invokevirtual 339, 3) := by decide +kernel
theorem dX11_fewest_22 : decode cX11_fewest 22 = .ok (.istore_n 1, 1) := by decide +kernel
theorem dX11_fewest_23 : decode cX11_fewest 23 = .ok (.iload_n 1, 1) := by decide +kernel
theorem dX11_fewest_24 : decode cX11_fewest 24 = .ok (.iconst (-1), 1) := by decide +kernel
theorem dX11_fewest_25 : decode cX11_fewest 25 = .ok (.if_icmp .ne 12, 3) := by decide +kernel
theorem dX11_fewest_28 : decode cX11_fewest 28 = .ok (.aload_n 0, 1) := by decide +kernel
theorem dX11_fewest_29 : decode cX11_fewest 29 = .ok (.bipush 6, 2) := by decide +kernel
theorem dX11_fewest_31 : decode cX11_fewest 31 = .ok (.invokevirtual 119, 3) := by decide +kernel
theorem dX11_fewest_34 : decode cX11_fewest 34 = .ok (.goto 11, 3) := by decide +kernel
theorem dX11_fewest_37 : decode cX11_fewest 37 = .ok (.aload_n 0, 1) := by decide +kernel
theorem dX11_fewest_38 : decode cX11_fewest 38 = .ok (.iload_n 1, 1) := by decide +kernel
theorem dX11_fewest_39 : decode cX11_fewest 39 = .ok (.invokestatic 255, 3) := by decide +kernel
theorem dX11_fewest_42 : decode cX11_fewest 42 = .ok (.invokevirtual 172, 3) := by decide +kernel
theorem dX11_fewest_45 : decode cX11_fewest 45 = .ok (.ireturn, 1) := by decide +kernel
theorem dX11_fewestSet_0 : decode cX11_fewestSet 0 = .ok (.aload_n 0, 1) := by decide +kernel
theorem dX11_fewestSet_1 : decode cX11_fewestSet 1 = .ok (.getfield 56, 3) := by decide +kernel
theorem dX11_fewestSet_4 : decode cX11_fewestSet 4 = .ok (.aload_n 0, 1) := by decide +kernel
theorem dX11_fewestSet_5 : decode cX11_fewestSet 5 = .ok (.getfield 10, 3) := by decide +kernel
theorem dX11_fewestSet_8 : decode cX11_fewestSet 8 = .ok (.invokevirtual 322, 3) := by decide +kernel
theorem dX11_fewestSet_11 : decode cX11_fewestSet 11 = .ok (.aload_n 0, 1) := by decide +kernel
theorem dX11_fewestSet_12 : decode cX11_fewestSet 12 = .ok (.getfield 56, 3) := by decide +kernel
theorem dX11_fewestSet_15 : decode cX11_fewestSet 15 = .ok (.aload_n 0, 1) := by decide +kernel
theorem dX11_fewestSet_16 : decode cX11_fewestSet 16 = .ok (.getfield 10, 3) := by decide +kernel
theorem dX11_fewestSet_19 : decode cX11_fewestSet 19 = .ok (.invokevirtual 339, 3) := by decide +kernel
theorem dX11_fewestSet_22 : decode cX11_fewestSet 22 = .ok (.istore_n 1, 1) := by decide +kernel
theorem dX11_fewestSet_23 : decode cX11_fewestSet 23 = .ok (.iload_n 1, 1) := by decide +kernel
theorem dX11_fewestSet_24 : decode cX11_fewestSet 24 = .ok (.iconst (-1), 1) := by decide +kernel
theorem dX11_fewestSet_25 : decode cX11_fewestSet 25 = .ok (.if_icmp .ne 12, 3) := by decide +kernel
theorem dX11_fewestSet_28 : decode cX11_fewestSet 28 = .ok (.aload_n 0, 1) := by decide +kernel
theorem dX11_fewestSet_29 : decode cX11_fewestSet 29 = .ok (.bipush 6, 2) := by decide +kernel
theorem dX11_fewestSet_31 : decode cX11_fewestSet 31 = .ok (.invokevirtual 119, 3) := by decide +kernel
theorem dX11_fewestSet_34 : decode cX11_fewestSet 34 = .ok (.goto 8, 3) := by decide +kernel
theorem dX11_fewestSet_37 : decode cX11_fewestSet 37 = .ok (.aload_n 0, 1) := by decide +kernel
theorem dX11_fewestSet_38 : decode cX11_fewestSet 38 = .ok (.iload_n 1, 1) := by decide +kernel
theorem dX11_fewestSet_39 : decode cX11_fewestSet 39 = .ok (.invokevirtual 172, 3) := by decide +kernel
theorem dX11_fewestSet_42 : decode cX11_fewestSet 42 = .ok (.ireturn, 1) := by decide +kernel
theorem dX11_explained_0 : decode cX11_explained 0 = .ok (.aload_n 0, 1) := by decide +kernel
theorem dX11_explained_1 : decode cX11_explained 1 = .ok (.iload_n 1, 1) := by decide +kernel
theorem dX11_explained_2 : decode cX11_explained 2 = .ok (.invokevirtual 343, 3) := by decide +kernel
theorem dX11_explained_5 : decode cX11_explained 5 = .ok (.istore_n 2, 1) := by decide +kernel
theorem dX11_explained_6 : decode cX11_explained 6 = .ok (.iload_n 2, 1) := by decide +kernel
theorem dX11_explained_7 : decode cX11_explained 7 = .ok (.ifCond .eq 9, 3) := by decide +kernel
theorem dX11_explained_10 : decode cX11_explained 10 = .ok (.aload_n 0, 1) := by decide +kernel
theorem dX11_explained_11 : decode cX11_explained 11 = .ok (.iload_n 2, 1) := by decide +kernel
theorem dX11_explained_12 : decode cX11_explained 12 = .ok (.invokevirtual 119, 3) := by decide +kernel
theorem dX11_explained_15 : decode cX11_explained 15 = .ok (.ireturn, 1) := by decide +kernel
theorem dX11_explained_16 : decode cX11_explained 16 = .ok (.aload_n 0, 1) := by decide +kernel
theorem dX11_explained_17 : decode cX11_explained 17 = .ok (.getfield 10, 3) := by decide +kernel
theorem dX11_explained_20 : decode cX11_explained 20 = .ok (.iconst 0, 1) := by decide +kernel
theorem dX11_explained_21 : decode cX11_explained 21 = .ok (.invokevirtual 231, 3) := by decide +kernel
theorem dX11_explained_24 : decode cX11_explained 24 = .ok (.istore_n 3, 1) := by decide +kernel
theorem dX11_explained_25 : decode cX11_explained 25 = .ok (.iconst 0, 1) := by decide +kernel
theorem dX11_explained_26 : decode cX11_explained 26 = .ok (.istore 4, 2) := by decide +kernel
theorem dX11_explained_28 : decode cX11_explained 28 = .ok (.iconst 0, 1) := by decide +kernel
theorem dX11_explained_29 : decode cX11_explained 29 = .ok (.istore 5, 2) := by decide +kernel
theorem dX11_explained_31 : decode cX11_explained 31 = .ok (.iload 5, 2) := by decide +kernel
theorem dX11_explained_33 : decode cX11_explained 33 = .ok (.iload_n 3, 1) := by decide +kernel
theorem dX11_explained_34 : decode cX11_explained 34 = .ok (.if_icmp .gt 31, 3) := by decide +kernel
theorem dX11_explained_37 : decode cX11_explained 37 = .ok (.iload 5, 2) := by decide +kernel
theorem dX11_explained_39 : decode cX11_explained 39 = .ok (.iload_n 3, 1) := by decide +kernel
theorem dX11_explained_40 : decode cX11_explained 40 = .ok (.iconst (-1), 1) := by decide +kernel
theorem dX11_explained_41 : decode cX11_explained 41 = .ok (.ixor, 1) := by decide +kernel
theorem dX11_explained_42 : decode cX11_explained 42 = .ok (.iand, 1) := by decide +kernel
theorem dX11_explained_43 : decode cX11_explained 43 = .ok (.ifCond .ne 16, 3) := by decide +kernel
theorem dX11_explained_46 : decode cX11_explained 46 = .ok (.aload_n 0, 1) := by decide +kernel
theorem dX11_explained_47 : decode cX11_explained 47 = .ok (.iload 5, 2) := by decide +kernel
theorem dX11_explained_49 : decode cX11_explained 49 = .ok (.iload_n 1, 1) := by decide +kernel
theorem dX11_explained_50 : decode cX11_explained 50 = .ok (.invokevirtual 346, 3) := by decide +kernel
theorem dX11_explained_53 : decode cX11_explained 53 = .ok (.ifCond .eq 6, 3) := by decide +kernel
theorem dX11_explained_56 : decode cX11_explained 56 = .ok (.iinc 4 1, 3) := by decide +kernel
theorem dX11_explained_59 : decode cX11_explained 59 = .ok (.iinc 5 1, 3) := by decide +kernel
theorem dX11_explained_62 : decode cX11_explained 62 = .ok (.goto (-31), 3) := by decide +kernel
theorem dX11_explained_65 : decode cX11_explained 65 = .ok (.aload_n 0, 1) := by decide +kernel
theorem dX11_explained_66 : decode cX11_explained 66 = .ok (.iload 4, 2) := by decide +kernel
theorem dX11_explained_68 : decode cX11_explained 68 = .ok (.invokevirtual 172, 3) := by decide +kernel
theorem dX11_explained_71 : decode cX11_explained 71 = .ok (.ireturn, 1) := by decide +kernel
theorem dX11_sure_0 : decode cX11_sure 0 = .ok (.aload_n 0, 1) := by decide +kernel
theorem dX11_sure_1 : decode cX11_sure 1 = .ok (.iload_n 1, 1) := by decide +kernel
theorem dX11_sure_2 : decode cX11_sure 2 = .ok (.invokevirtual 343, 3) := by decide +kernel
theorem dX11_sure_5 : decode cX11_sure 5 = .ok (.istore_n 2, 1) := by decide +kernel
theorem dX11_sure_6 : decode cX11_sure 6 = .ok (.iload_n 2, 1) := by decide +kernel
theorem dX11_sure_7 : decode cX11_sure 7 = .ok (.ifCond .eq 9, 3) := by decide +kernel
theorem dX11_sure_10 : decode cX11_sure 10 = .ok (.aload_n 0, 1) := by decide +kernel
theorem dX11_sure_11 : decode cX11_sure 11 = .ok (.iload_n 2, 1) := by decide +kernel
theorem dX11_sure_12 : decode cX11_sure 12 = .ok (.invokevirtual 119, 3) := by decide +kernel
theorem dX11_sure_15 : decode cX11_sure 15 = .ok (.ireturn, 1) := by decide +kernel
theorem dX11_sure_16 : decode cX11_sure 16 = .ok (.aload_n 0, 1) := by decide +kernel
theorem dX11_sure_17 : decode cX11_sure 17 = .ok (.getfield 10, 3) := by decide +kernel
theorem dX11_sure_20 : decode cX11_sure 20 = .ok (.iconst 0, 1) := by decide +kernel
theorem dX11_sure_21 : decode cX11_sure 21 = .ok (.invokevirtual 231, 3) := by decide +kernel
theorem dX11_sure_24 : decode cX11_sure 24 = .ok (.istore_n 3, 1) := by decide +kernel
theorem dX11_sure_25 : decode cX11_sure 25 = .ok (.iconst (-1), 1) := by decide +kernel
theorem dX11_sure_26 : decode cX11_sure 26 = .ok (.istore 4, 2) := by decide +kernel
theorem dX11_sure_28 : decode cX11_sure 28 = .ok (.iconst 0, 1) := by decide +kernel
theorem dX11_sure_29 : decode cX11_sure 29 = .ok (.istore 5, 2) := by decide +kernel
theorem dX11_sure_31 : decode cX11_sure 31 = .ok (.iload 5, 2) := by decide +kernel
theorem dX11_sure_33 : decode cX11_sure 33 = .ok (.iload_n 3, 1) := by decide +kernel
theorem dX11_sure_34 : decode cX11_sure 34 = .ok (.if_icmp .gt 35, 3) := by decide +kernel
theorem dX11_sure_37 : decode cX11_sure 37 = .ok (.iload 5, 2) := by decide +kernel
theorem dX11_sure_39 : decode cX11_sure 39 = .ok (.iload_n 3, 1) := by decide +kernel
theorem dX11_sure_40 : decode cX11_sure 40 = .ok (.iconst (-1), 1) := by decide +kernel
theorem dX11_sure_41 : decode cX11_sure 41 = .ok (.ixor, 1) := by decide +kernel
theorem dX11_sure_42 : decode cX11_sure 42 = .ok (.iand, 1) := by decide +kernel
theorem dX11_sure_43 : decode cX11_sure 43 = .ok (.ifCond .ne 20, 3) := by decide +kernel
theorem dX11_sure_46 : decode cX11_sure 46 = .ok (.aload_n 0, 1) := by decide +kernel
theorem dX11_sure_47 : decode cX11_sure 47 = .ok (.iload 5, 2) := by decide +kernel
theorem dX11_sure_49 : decode cX11_sure 49 = .ok (.iload_n 1, 1) := by decide +kernel
theorem dX11_sure_50 : decode cX11_sure 50 = .ok (.invokevirtual 346, 3) := by decide +kernel
theorem dX11_sure_53 : decode cX11_sure 53 = .ok (.ifCond .eq 10, 3) := by decide +kernel
theorem dX11_sure_56 : decode cX11_sure 56 = .ok (.iload 4, 2) := by decide +kernel
theorem dX11_sure_58 : decode cX11_sure 58 = .ok (.iload 5, 2) := by decide +kernel
theorem dX11_sure_60 : decode cX11_sure 60 = .ok (.iand, 1) := by decide +kernel
theorem dX11_sure_61 : decode cX11_sure 61 = .ok (.istore 4, 2) := by decide +kernel
theorem dX11_sure_63 : decode cX11_sure 63 = .ok (.iinc 5 1, 3) := by decide +kernel
theorem dX11_sure_66 : decode cX11_sure 66 = .ok (.goto (-35), 3) := by decide +kernel
theorem dX11_sure_69 : decode cX11_sure 69 = .ok (.iload 4, 2) := by decide +kernel
theorem dX11_sure_71 : decode cX11_sure 71 = .ok (.iconst (-1), 1) := by decide +kernel
theorem dX11_sure_72 : decode cX11_sure 72 = .ok (.if_icmp .ne 12, 3) := by decide +kernel
theorem dX11_sure_75 : decode cX11_sure 75 = .ok (.aload_n 0, 1) := by decide +kernel
theorem dX11_sure_76 : decode cX11_sure 76 = .ok (.bipush 6, 2) := by decide +kernel
theorem dX11_sure_78 : decode cX11_sure 78 = .ok (.invokevirtual 119, 3) := by decide +kernel
theorem dX11_sure_81 : decode cX11_sure 81 = .ok (.goto 9, 3) := by decide +kernel
theorem dX11_sure_84 : decode cX11_sure 84 = .ok (.aload_n 0, 1) := by decide +kernel
theorem dX11_sure_85 : decode cX11_sure 85 = .ok (.iload 4, 2) := by decide +kernel
theorem dX11_sure_87 : decode cX11_sure 87 = .ok (.invokevirtual 172, 3) := by decide +kernel
theorem dX11_sure_90 : decode cX11_sure 90 = .ok (.ireturn, 1) := by decide +kernel
theorem dX11_laws_0 : decode cX11_laws 0 = .ok (.aload_n 0, 1) := by decide +kernel
theorem dX11_laws_1 : decode cX11_laws 1 = .ok (.iload_n 1, 1) := by decide +kernel
theorem dX11_laws_2 : decode cX11_laws 2 = .ok (.iload_n 2, 1) := by decide +kernel
theorem dX11_laws_3 : decode cX11_laws 3 = .ok (.invokevirtual 349, 3) := by decide +kernel
theorem dX11_laws_6 : decode cX11_laws 6 = .ok (.istore_n 3, 1) := by decide +kernel
theorem dX11_laws_7 : decode cX11_laws 7 = .ok (.iload_n 3, 1) := by decide +kernel
theorem dX11_laws_8 : decode cX11_laws 8 = .ok (.ifCond .eq 9, 3) := by decide +kernel
theorem dX11_laws_11 : decode cX11_laws 11 = .ok (.aload_n 0, 1) := by decide +kernel
theorem dX11_laws_12 : decode cX11_laws 12 = .ok (.iload_n 3, 1) := by decide +kernel
theorem dX11_laws_13 : decode cX11_laws 13 = .ok (.invokevirtual 119, 3) := by decide +kernel
theorem dX11_laws_16 : decode cX11_laws 16 = .ok (.ireturn, 1) := by decide +kernel
theorem dX11_laws_17 : decode cX11_laws 17 = .ok (.iconst 0, 1) := by decide +kernel
theorem dX11_laws_18 : decode cX11_laws 18 = .ok (.istore 4, 2) := by decide +kernel
theorem dX11_laws_20 : decode cX11_laws 20 = .ok (.iconst 1, 1) := by decide +kernel
theorem dX11_laws_21 : decode cX11_laws 21 = .ok (.istore 5, 2) := by decide +kernel
theorem dX11_laws_23 : decode cX11_laws 23 = .ok (.iload 5, 2) := by decide +kernel
theorem dX11_laws_25 : decode cX11_laws 25 = .ok (.bipush 9, 2) := by decide +kernel
theorem dX11_laws_27 : decode cX11_laws 27 = .ok (.if_icmp .gt 41, 3) := by decide +kernel
theorem dX11_laws_30 : decode cX11_laws 30 = .ok (.iconst 1, 1) := by decide +kernel
theorem dX11_laws_31 : decode cX11_laws 31 = .ok (.istore 6, 2) := by decide +kernel
theorem dX11_laws_33 : decode cX11_laws 33 = .ok (.iload 6, 2) := by decide +kernel
theorem dX11_laws_35 : decode cX11_laws 35 = .ok (.bipush 9, 2) := by decide +kernel
theorem dX11_laws_37 : decode cX11_laws 37 = .ok (.if_icmp .gt 25, 3) := by decide +kernel
theorem dX11_laws_40 : decode cX11_laws 40 = .ok (.aload_n 0, 1) := by decide +kernel
theorem dX11_laws_41 : decode cX11_laws 41 = .ok (.iload 5, 2) := by decide +kernel
theorem dX11_laws_43 : decode cX11_laws 43 = .ok (.iload 6, 2) := by decide +kernel
theorem dX11_laws_45 : decode cX11_laws 45 = .ok (.iload_n 1, 1) := by decide +kernel
theorem dX11_laws_46 : decode cX11_laws 46 = .ok (.iload_n 2, 1) := by decide +kernel
theorem dX11_laws_47 : decode cX11_laws 47 = .ok (.invokevirtual 352, 3) := by decide +kernel
theorem dX11_laws_50 : decode cX11_laws 50 = .ok (.ifCond .eq 6, 3) := by decide +kernel
theorem dX11_laws_53 : decode cX11_laws 53 = .ok (.iinc 4 1, 3) := by decide +kernel
theorem dX11_laws_56 : decode cX11_laws 56 = .ok (.iinc 6 1, 3) := by decide +kernel
theorem dX11_laws_59 : decode cX11_laws 59 = .ok (.goto (-26), 3) := by decide +kernel
theorem dX11_laws_62 : decode cX11_laws 62 = .ok (.iinc 5 1, 3) := by decide +kernel
theorem dX11_laws_65 : decode cX11_laws 65 = .ok (.goto (-42), 3) := by decide +kernel
theorem dX11_laws_68 : decode cX11_laws 68 = .ok (.aload_n 0, 1) := by decide +kernel
theorem dX11_laws_69 : decode cX11_laws 69 = .ok (.iload 4, 2) := by decide +kernel
theorem dX11_laws_71 : decode cX11_laws 71 = .ok (.invokevirtual 172, 3) := by decide +kernel
theorem dX11_laws_74 : decode cX11_laws 74 = .ok (.ireturn, 1) := by decide +kernel
theorem dX11_lawFirst_0 : decode cX11_lawFirst 0 = .ok (.aload_n 0, 1) := by decide +kernel
theorem dX11_lawFirst_1 : decode cX11_lawFirst 1 = .ok (.iload_n 1, 1) := by decide +kernel
theorem dX11_lawFirst_2 : decode cX11_lawFirst 2 = .ok (.iload_n 2, 1) := by decide +kernel
theorem dX11_lawFirst_3 : decode cX11_lawFirst 3 = .ok (.invokevirtual 349, 3) := by decide +kernel
theorem dX11_lawFirst_6 : decode cX11_lawFirst 6 = .ok (.istore_n 3, 1) := by decide +kernel
theorem dX11_lawFirst_7 : decode cX11_lawFirst 7 = .ok (.iload_n 3, 1) := by decide +kernel
theorem dX11_lawFirst_8 : decode cX11_lawFirst 8 = .ok (.ifCond .eq 9, 3) := by decide +kernel
theorem dX11_lawFirst_11 : decode cX11_lawFirst 11 = .ok (.aload_n 0, 1) := by decide +kernel
theorem dX11_lawFirst_12 : decode cX11_lawFirst 12 = .ok (.iload_n 3, 1) := by decide +kernel
theorem dX11_lawFirst_13 : decode cX11_lawFirst 13 = .ok (.invokevirtual 119, 3) := by decide +kernel
theorem dX11_lawFirst_16 : decode cX11_lawFirst 16 = .ok (.ireturn, 1) := by decide +kernel
theorem dX11_lawFirst_17 : decode cX11_lawFirst 17 = .ok (.iconst 1, 1) := by decide +kernel
theorem dX11_lawFirst_18 : decode cX11_lawFirst 18 = .ok (.istore 4, 2) := by decide +kernel
theorem dX11_lawFirst_20 : decode cX11_lawFirst 20 = .ok (.iload 4, 2) := by decide +kernel
theorem dX11_lawFirst_22 : decode cX11_lawFirst 22 = .ok (.bipush 9, 2) := by decide +kernel
theorem dX11_lawFirst_24 : decode cX11_lawFirst 24 = .ok (.if_icmp .gt 51, 3) := by decide +kernel
theorem dX11_lawFirst_27 : decode cX11_lawFirst 27 = .ok (.iconst 1, 1) := by decide +kernel
theorem dX11_lawFirst_28 : decode cX11_lawFirst 28 = .ok (.istore 5, 2) := by decide +kernel
theorem dX11_lawFirst_30 : decode cX11_lawFirst 30 = .ok (.iload 5, 2) := by decide +kernel
theorem dX11_lawFirst_32 : decode cX11_lawFirst 32 = .ok (.bipush 9, 2) := by decide +kernel
theorem dX11_lawFirst_34 : decode cX11_lawFirst 34 = .ok (.if_icmp .gt 35, 3) := by decide +kernel
theorem dX11_lawFirst_37 : decode cX11_lawFirst 37 = .ok (.aload_n 0, 1) := by decide +kernel
theorem dX11_lawFirst_38 : decode cX11_lawFirst 38 = .ok (.iload 4, 2) := by decide +kernel
theorem dX11_lawFirst_40 : decode cX11_lawFirst 40 = .ok (.iload 5, 2) := by decide +kernel
theorem dX11_lawFirst_42 : decode cX11_lawFirst 42 = .ok (.iload_n 1, 1) := by decide +kernel
theorem dX11_lawFirst_43 : decode cX11_lawFirst 43 = .ok (.iload_n 2, 1) := by decide +kernel
theorem dX11_lawFirst_44 : decode cX11_lawFirst 44 = .ok (.invokevirtual 352, 3) := by decide +kernel
theorem dX11_lawFirst_47 : decode cX11_lawFirst 47 = .ok (.ifCond .eq 16, 3) := by decide +kernel
theorem dX11_lawFirst_50 : decode cX11_lawFirst 50 = .ok (.aload_n 0, 1) := by decide +kernel
theorem dX11_lawFirst_51 : decode cX11_lawFirst 51 = .ok (.bipush 10, 2) := by decide +kernel
theorem dX11_lawFirst_53 : decode cX11_lawFirst 53 = .ok (.iload 4, 2) := by decide +kernel
theorem dX11_lawFirst_55 : decode cX11_lawFirst 55 = .ok (.imul, 1) := by decide +kernel
theorem dX11_lawFirst_56 : decode cX11_lawFirst 56 = .ok (.iload 5, 2) := by decide +kernel
theorem dX11_lawFirst_58 : decode cX11_lawFirst 58 = .ok (.iadd, 1) := by decide +kernel
theorem dX11_lawFirst_59 : decode cX11_lawFirst 59 = .ok (.invokevirtual 172, 3) := by decide +kernel
theorem dX11_lawFirst_62 : decode cX11_lawFirst 62 = .ok (.ireturn, 1) := by decide +kernel
theorem dX11_lawFirst_63 : decode cX11_lawFirst 63 = .ok (.iinc 5 1, 3) := by decide +kernel
theorem dX11_lawFirst_66 : decode cX11_lawFirst 66 = .ok (.goto (-36), 3) := by decide +kernel
theorem dX11_lawFirst_69 : decode cX11_lawFirst 69 = .ok (.iinc 4 1, 3) := by decide +kernel
theorem dX11_lawFirst_72 : decode cX11_lawFirst 72 = .ok (.goto (-52), 3) := by decide +kernel
theorem dX11_lawFirst_75 : decode cX11_lawFirst 75 = .ok (.aload_n 0, 1) := by decide +kernel
theorem dX11_lawFirst_76 : decode cX11_lawFirst 76 = .ok (.bipush 6, 2) := by decide +kernel
theorem dX11_lawFirst_78 : decode cX11_lawFirst 78 = .ok (.invokevirtual 119, 3) := by decide +kernel
theorem dX11_lawFirst_81 : decode cX11_lawFirst 81 = .ok (.ireturn, 1) := by decide +kernel
theorem dX11_guard_0 : decode cX11_guard 0 = .ok (.aload_n 0, 1) := by decide +kernel
theorem dX11_guard_1 : decode cX11_guard 1 = .ok (.getfield 63, 3) := by decide +kernel
theorem dX11_guard_4 : decode cX11_guard 4 = .ok (.aload_n 0, 1) := by decide +kernel
theorem dX11_guard_5 : decode cX11_guard 5 = .ok (.getfield 10, 3) := by decide +kernel
theorem dX11_guard_8 : decode cX11_guard 8 = .ok (.invokevirtual 356, 3) := by decide +kernel
theorem dX11_guard_11 : decode cX11_guard 11 = .ok (.istore_n 1, 1) := by decide +kernel
theorem dX11_guard_12 : decode cX11_guard 12 = .ok (.iload_n 1, 1) := by decide +kernel
theorem dX11_guard_13 : decode cX11_guard 13 = .ok (.iconst (-1), 1) := by decide +kernel
theorem dX11_guard_14 : decode cX11_guard 14 = .ok (.if_icmp .ne 12, 3) := by decide +kernel
theorem dX11_guard_17 : decode cX11_guard 17 = .ok (.aload_n 0, 1) := by decide +kernel
theorem dX11_guard_18 : decode cX11_guard 18 = .ok (.bipush 6, 2) := by decide +kernel
theorem dX11_guard_20 : decode cX11_guard 20 = .ok (.invokevirtual 119, 3) := by decide +kernel
theorem dX11_guard_23 : decode cX11_guard 23 = .ok (.goto 8, 3) := by decide +kernel
theorem dX11_guard_26 : decode cX11_guard 26 = .ok (.aload_n 0, 1) := by decide +kernel
theorem dX11_guard_27 : decode cX11_guard 27 = .ok (.iload_n 1, 1) := by decide +kernel
theorem dX11_guard_28 : decode cX11_guard 28 = .ok (.invokevirtual 172, 3) := by decide +kernel
theorem dX11_guard_31 : decode cX11_guard 31 = .ok (.ireturn, 1) := by decide +kernel
theorem dX11_guardLeft_0 : decode cX11_guardLeft 0 = .ok (.aload_n 0, 1) := by decide +kernel
theorem dX11_guardLeft_1 : decode cX11_guardLeft 1 = .ok (.getfield 63, 3) := by decide +kernel
theorem dX11_guardLeft_4 : decode cX11_guardLeft 4 = .ok (.aload_n 0, 1) := by decide +kernel
theorem dX11_guardLeft_5 : decode cX11_guardLeft 5 = .ok (.getfield 10, 3) := by decide +kernel
theorem dX11_guardLeft_8 : decode cX11_guardLeft 8 = .ok (.invokevirtual 356, 3) := by decide +kernel
theorem dX11_guardLeft_11 : decode cX11_guardLeft 11 = .ok (.istore_n 1, 1) := by decide +kernel
theorem dX11_guardLeft_12 : decode cX11_guardLeft 12 = .ok (.iload_n 1, 1) := by decide +kernel
theorem dX11_guardLeft_13 : decode cX11_guardLeft 13 = .ok (.iconst (-1), 1) := by decide +kernel
theorem dX11_guardLeft_14 : decode cX11_guardLeft 14 = .ok (.if_icmp .ne 12, 3) := by decide +kernel
theorem dX11_guardLeft_17 : decode cX11_guardLeft 17 = .ok (.aload_n 0, 1) := by decide +kernel
theorem dX11_guardLeft_18 : decode cX11_guardLeft 18 = .ok (.bipush 6, 2) := by decide +kernel
theorem dX11_guardLeft_20 : decode cX11_guardLeft 20 = .ok (.invokevirtual 119, 3) := by decide +kernel
theorem dX11_guardLeft_23 : decode cX11_guardLeft 23 = .ok (.goto 19, 3) := by decide +kernel
theorem dX11_guardLeft_26 : decode cX11_guardLeft 26 = .ok (.aload_n 0, 1) := by decide +kernel
theorem dX11_guardLeft_27 : decode cX11_guardLeft 27 = .ok (.aload_n 0, 1) := by decide +kernel
theorem dX11_guardLeft_28 : decode cX11_guardLeft 28 = .ok (.getfield 63, 3) := by decide +kernel
theorem dX11_guardLeft_31 : decode cX11_guardLeft 31 = .ok (.aload_n 0, 1) := by decide +kernel
theorem dX11_guardLeft_32 : decode cX11_guardLeft 32 = .ok (.getfield 10, 3) := by decide +kernel
theorem dX11_guardLeft_35 : decode cX11_guardLeft 35 = .ok (.iload_n 1, 1) := by decide +kernel
theorem dX11_guardLeft_36 : decode cX11_guardLeft 36 = .ok (.invokevirtual 359, 3) := by decide +kernel
theorem dX11_guardLeft_39 : decode cX11_guardLeft 39 = .ok (.invokevirtual 172, 3) := by decide +kernel
theorem dX11_guardLeft_42 : decode cX11_guardLeft 42 = .ok (.ireturn, 1) := by decide +kernel
theorem dX11_game_0 : decode cX11_game 0 = .ok (.aload_n 0, 1) := by decide +kernel
theorem dX11_game_1 : decode cX11_game 1 = .ok (.iload_n 1, 1) := by decide +kernel
theorem dX11_game_2 : decode cX11_game 2 = .ok (.invokevirtual 263, 3) := by decide +kernel
theorem dX11_game_5 : decode cX11_game 5 = .ok (.ifCond .eq 12, 3) := by decide +kernel
theorem dX11_game_8 : decode cX11_game 8 = .ok (.iload_n 2, 1) := by decide +kernel
theorem dX11_game_9 : decode cX11_game 9 = .ok (.iconst 0, 1) := by decide +kernel
theorem dX11_game_10 : decode cX11_game 10 = .ok (.iconst 3, 1) := by decide +kernel
theorem dX11_game_11 : decode cX11_game 11 = .ok (.invokestatic 96, 3) := by decide +kernel
theorem dX11_game_14 : decode cX11_game 14 = .ok (.ifCond .ne 9, 3) := by decide +kernel
theorem dX11_game_17 : decode cX11_game 17 = .ok (.aload_n 0, 1) := by decide +kernel
theorem dX11_game_18 : decode cX11_game 18 = .ok (.iconst 1, 1) := by decide +kernel
theorem dX11_game_19 : decode cX11_game 19 = .ok (.invokevirtual 119, 3) := by decide +kernel
theorem dX11_game_22 : decode cX11_game 22 = .ok (.ireturn, 1) := by decide +kernel
theorem dX11_game_23 : decode cX11_game 23 = .ok (.aload_n 0, 1) := by decide +kernel
theorem dX11_game_24 : decode cX11_game 24 = .ok (.aload_n 0, 1) := by decide +kernel
theorem dX11_game_25 : decode cX11_game 25 = .ok (.getfield 63, 3) := by decide +kernel
theorem dX11_game_28 : decode cX11_game 28 = .ok (.aload_n 0, 1) := by decide +kernel
theorem dX11_game_29 : decode cX11_game 29 = .ok (.getfield 10, 3) := by decide +kernel
theorem dX11_game_32 : decode cX11_game 32 = .ok (.iload_n 1, 1) := by decide +kernel
theorem dX11_game_33 : decode cX11_game 33 = .ok (.iload_n 2, 1) := by decide +kernel
theorem dX11_game_34 : decode cX11_game 34 = .ok (.invokevirtual 362, 3) := by decide +kernel
theorem dX11_game_37 : decode cX11_game 37 = .ok (.invokevirtual 172, 3) := by decide +kernel
theorem dX11_game_40 : decode cX11_game 40 = .ok (.ireturn, 1) := by decide +kernel
theorem dX11_moveOf_0 : decode cX11_moveOf 0 = .ok (.aload_n 0, 1) := by decide +kernel
theorem dX11_moveOf_1 : decode cX11_moveOf 1 = .ok (.iload_n 1, 1) := by decide +kernel
theorem dX11_moveOf_2 : decode cX11_moveOf 2 = .ok (.invokevirtual 263, 3) := by decide +kernel
theorem dX11_moveOf_5 : decode cX11_moveOf 5 = .ok (.ifCond .eq 12, 3) := by decide +kernel
theorem dX11_moveOf_8 : decode cX11_moveOf 8 = .ok (.iload_n 2, 1) := by decide +kernel
theorem dX11_moveOf_9 : decode cX11_moveOf 9 = .ok (.iconst 1, 1) := by decide +kernel
theorem dX11_moveOf_10 : decode cX11_moveOf 10 = .ok (.iconst 3, 1) := by decide +kernel
theorem dX11_moveOf_11 : decode cX11_moveOf 11 = .ok (.invokestatic 96, 3) := by decide +kernel
theorem dX11_moveOf_14 : decode cX11_moveOf 14 = .ok (.ifCond .ne 9, 3) := by decide +kernel
theorem dX11_moveOf_17 : decode cX11_moveOf 17 = .ok (.aload_n 0, 1) := by decide +kernel
theorem dX11_moveOf_18 : decode cX11_moveOf 18 = .ok (.iconst 1, 1) := by decide +kernel
theorem dX11_moveOf_19 : decode cX11_moveOf 19 = .ok (.invokevirtual 119, 3) := by decide +kernel
theorem dX11_moveOf_22 : decode cX11_moveOf 22 = .ok (.ireturn, 1) := by decide +kernel
theorem dX11_moveOf_23 : decode cX11_moveOf 23 = .ok (.aload_n 0, 1) := by decide +kernel
theorem dX11_moveOf_24 : decode cX11_moveOf 24 = .ok (.aload_n 0, 1) := by decide +kernel
theorem dX11_moveOf_25 : decode cX11_moveOf 25 = .ok (.getfield 63, 3) := by decide +kernel
theorem dX11_moveOf_28 : decode cX11_moveOf 28 = .ok (.aload_n 0, 1) := by decide +kernel
theorem dX11_moveOf_29 : decode cX11_moveOf 29 = .ok (.getfield 10, 3) := by decide +kernel
theorem dX11_moveOf_32 : decode cX11_moveOf 32 = .ok (.iload_n 1, 1) := by decide +kernel
theorem dX11_moveOf_33 : decode cX11_moveOf 33 = .ok (.iload_n 2, 1) := by decide +kernel
theorem dX11_moveOf_34 : decode cX11_moveOf 34 = .ok (.invokevirtual 366, 3) := by decide +kernel
theorem dX11_moveOf_37 : decode cX11_moveOf 37 = .ok (.invokevirtual 172, 3) := by decide +kernel
theorem dX11_moveOf_40 : decode cX11_moveOf 40 = .ok (.ireturn, 1) := by decide +kernel
theorem dX11_falls_0 : decode cX11_falls 0 = .ok (.iload_n 1, 1) := by decide +kernel
theorem dX11_falls_1 : decode cX11_falls 1 = .ok (.iconst 0, 1) := by decide +kernel
theorem dX11_falls_2 : decode cX11_falls 2 = .ok (.bipush 7, 2) := by decide +kernel
theorem dX11_falls_4 : decode cX11_falls 4 = .ok (.invokestatic 96, 3) := by decide +kernel
theorem dX11_falls_7 : decode cX11_falls 7 = .ok (.ifCond .ne 9, 3) := by decide +kernel
theorem dX11_falls_10 : decode cX11_falls 10 = .ok (.aload_n 0, 1) := by decide +kernel
theorem dX11_falls_11 : decode cX11_falls 11 = .ok (.iconst 1, 1) := by decide +kernel
theorem dX11_falls_12 : decode cX11_falls 12 = .ok (.invokevirtual 100, 3) := by decide +kernel
theorem dX11_falls_15 : decode cX11_falls 15 = .ok (.ireturn, 1) := by decide +kernel
theorem dX11_falls_16 : decode cX11_falls 16 = .ok (.aload_n 0, 1) := by decide +kernel
theorem dX11_falls_17 : decode cX11_falls 17 = .ok (.getfield 10, 3) := by decide +kernel
theorem dX11_falls_20 : decode cX11_falls 20 = .ok (.getfield 210, 3) := by decide +kernel
theorem dX11_falls_23 : decode cX11_falls 23 = .ok (.getfield 198, 3) := by decide +kernel
theorem dX11_falls_26 : decode cX11_falls 26 = .ok (.aload_n 0, 1) := by decide +kernel
theorem dX11_falls_27 : decode cX11_falls 27 = .ok (.getfield 10, 3) := by decide +kernel
theorem dX11_falls_30 : decode cX11_falls 30 = .ok (.invokevirtual 234, 3) := by decide +kernel
theorem dX11_falls_33 : decode cX11_falls 33 = .ok (.invokestatic 255, 3) := by decide +kernel
theorem dX11_falls_36 : decode cX11_falls 36 = .ok (.isub, 1) := by decide +kernel
theorem dX11_falls_37 : decode cX11_falls 37 = .ok (.istore_n 2, 1) := by decide +kernel
theorem dX11_falls_38 : decode cX11_falls 38 = .ok (.lconst 0, 1) := by decide +kernel
theorem dX11_falls_39 : decode cX11_falls 39 = .ok (.lstore_n 3, 1) := by decide +kernel
theorem dX11_falls_40 : decode cX11_falls 40 = .ok (.iload_n 1, 1) := by decide +kernel
theorem dX11_falls_41 : decode cX11_falls 41 = .ok (.istore 5, 2) := by decide +kernel
theorem dX11_falls_43 : decode cX11_falls 43 = .ok (.iload 5, 2) := by decide +kernel
theorem dX11_falls_45 : decode cX11_falls 45 = .ok (.iload_n 2, 1) := by decide +kernel
theorem dX11_falls_46 : decode cX11_falls 46 = .ok (.if_icmp .gt 51, 3) := by decide +kernel
theorem dX11_falls_49 : decode cX11_falls 49 = .ok (.lload_n 3, 1) := by decide +kernel
theorem dX11_falls_50 : decode cX11_falls 50 = .ok (.iload_n 2, 1) := by decide +kernel
theorem dX11_falls_51 : decode cX11_falls 51 = .ok (.iload 5, 2) := by decide +kernel
theorem dX11_falls_53 : decode cX11_falls 53 = .ok (.invokestatic 369, 3) := by decide +kernel
theorem dX11_falls_56 : decode cX11_falls 56 = .ok (.aload_n 0, 1) := by decide +kernel
theorem dX11_falls_57 : decode cX11_falls 57 = .ok (.getfield 10, 3) := by decide +kernel
theorem dX11_falls_60 : decode cX11_falls 60 = .ok (.getfield 225, 3) := by decide +kernel
theorem dX11_falls_63 : decode cX11_falls 63 = .ok (.i2l, 1) := by decide +kernel
theorem dX11_falls_64 : decode cX11_falls 64 = .ok (.iload 5, 2) := by decide +kernel
theorem dX11_falls_66 : decode cX11_falls 66 = .ok (.invokestatic 372, 3) := by decide +kernel
theorem dX11_falls_69 : decode cX11_falls 69 = .ok (.lmul, 1) := by decide +kernel
theorem dX11_falls_70 : decode cX11_falls 70 = .ok (.bipush 16, 2) := by decide +kernel
theorem dX11_falls_72 : decode cX11_falls 72 = .ok (.aload_n 0, 1) := by decide +kernel
theorem dX11_falls_73 : decode cX11_falls 73 = .ok (.getfield 10, 3) := by decide +kernel
theorem dX11_falls_76 : decode cX11_falls 76 = .ok (.getfield 225, 3) := by decide +kernel
theorem dX11_falls_79 : decode cX11_falls 79 = .ok (.isub, 1) := by decide +kernel
theorem dX11_falls_80 : decode cX11_falls 80 = .ok (.i2l, 1) := by decide +kernel
theorem dX11_falls_81 : decode cX11_falls 81 = .ok (.iload_n 2, 1) := by decide +kernel
theorem dX11_falls_82 : decode cX11_falls 82 = .ok (.iload 5, 2) := by decide +kernel
theorem dX11_falls_84 : decode cX11_falls 84 = .ok (.isub, 1) := by decide +kernel
theorem dX11_falls_85 : decode cX11_falls 85 = .ok (.invokestatic 372, 3) := by decide +kernel
theorem dX11_falls_88 : decode cX11_falls 88 = .ok (.lmul, 1) := by decide +kernel
theorem dX11_falls_89 : decode cX11_falls 89 = .ok (.ladd, 1) := by decide +kernel
theorem dX11_falls_90 : decode cX11_falls 90 = .ok (.lstore_n 3, 1) := by decide +kernel
theorem dX11_falls_91 : decode cX11_falls 91 = .ok (.iinc 5 1, 3) := by decide +kernel
theorem dX11_falls_94 : decode cX11_falls 94 = .ok (.goto (-51), 3) := by decide +kernel
theorem dX11_falls_97 : decode cX11_falls 97 = .ok (.aload_n 0, 1) := by decide +kernel
theorem dX11_falls_98 : decode cX11_falls 98 = .ok (.lload_n 3, 1) := by decide +kernel
theorem dX11_falls_99 : decode cX11_falls 99 = .ok (.ldc2_w 376, 3) := by decide +kernel
theorem dX11_falls_102 : decode cX11_falls 102 = .ok (.iload_n 2, 1) := by decide +kernel
theorem dX11_falls_103 : decode cX11_falls 103 = .ok (.invokestatic 372, 3) := by decide +kernel
theorem dX11_falls_106 : decode cX11_falls 106 = .ok (.invokevirtual 378, 3) := by decide +kernel
theorem dX11_falls_109 : decode cX11_falls 109 = .ok (.aload_n 0, 1) := by decide +kernel
theorem dX11_falls_110 : decode cX11_falls 110 = .ok (.invokevirtual 107, 3) := by decide +kernel
theorem dX11_falls_113 : decode cX11_falls 113 = .ok (.ireturn, 1) := by decide +kernel
theorem dX11_copyStanding_0 : decode cX11_copyStanding 0 = .ok (.aload_n 0, 1) := by decide +kernel
theorem dX11_copyStanding_1 : decode cX11_copyStanding 1 = .ok (.getfield 10, 3) := by decide +kernel
theorem dX11_copyStanding_4 : decode cX11_copyStanding 4 = .ok (.getfield 163, 3) := by decide +kernel
theorem dX11_copyStanding_7 : decode cX11_copyStanding 7 = .ok (.getfield 167, 3) := by decide +kernel
theorem dX11_copyStanding_10 : decode cX11_copyStanding 10 = .ok (.istore_n 2, 1) := by decide +kernel
theorem dX11_copyStanding_11 : decode cX11_copyStanding 11 = .ok (.aload_n 0, 1) := by decide +kernel
theorem dX11_copyStanding_12 : decode cX11_copyStanding 12 = .ok (.iload_n 1, 1) := by decide +kernel
theorem dX11_copyStanding_13 : decode cX11_copyStanding 13 = .ok (.iload_n 2, 1) := by decide +kernel
theorem dX11_copyStanding_14 : decode cX11_copyStanding 14 = .ok (.invokevirtual 382, 3) := by decide +kernel
theorem dX11_copyStanding_17 : decode cX11_copyStanding 17 = .ok (.istore_n 3, 1) := by decide +kernel
theorem dX11_copyStanding_18 : decode cX11_copyStanding 18 = .ok (.iload_n 3, 1) := by decide +kernel
theorem dX11_copyStanding_19 : decode cX11_copyStanding 19 = .ok (.ifCond .eq 9, 3) := by decide +kernel
theorem dX11_copyStanding_22 : decode cX11_copyStanding 22 = .ok (.aload_n 0, 1) := by decide +kernel
theorem dX11_copyStanding_23 : decode cX11_copyStanding 23 = .ok (.iload_n 3, 1) := by decide +kernel
theorem dX11_copyStanding_24 : decode cX11_copyStanding 24 = .ok (.invokevirtual 119, 3) := by decide +kernel
theorem dX11_copyStanding_27 : decode cX11_copyStanding 27 = .ok (.ireturn, 1) := by decide +kernel
theorem dX11_copyStanding_28 : decode cX11_copyStanding 28 = .ok (.iconst 0, 1) := by decide +kernel
theorem dX11_copyStanding_29 : decode cX11_copyStanding 29 = .ok (.istore 4, 2) := by decide +kernel
theorem dX11_copyStanding_31 : decode cX11_copyStanding 31 = .ok (.iload 4, 2) := by decide +kernel
theorem dX11_copyStanding_33 : decode cX11_copyStanding 33 = .ok (.iload_n 2, 1) := by decide +kernel
theorem dX11_copyStanding_34 : decode cX11_copyStanding 34 = .ok (.if_icmp .ge 32, 3) := by decide +kernel
theorem dX11_copyStanding_37 : decode cX11_copyStanding 37 = .ok (.aload_n 0, 1) := by decide +kernel
theorem dX11_copyStanding_38 : decode cX11_copyStanding 38 = .ok (.getfield 49, 3) := by decide +kernel
theorem dX11_copyStanding_41 : decode cX11_copyStanding 41 = .ok (.iload_n 1, 1) := by decide +kernel
theorem dX11_copyStanding_42 : decode cX11_copyStanding 42 = .ok (.iload 4, 2) := by decide +kernel
theorem dX11_copyStanding_44 : decode cX11_copyStanding 44 = .ok (.aload_n 0, 1) := by decide +kernel
theorem dX11_copyStanding_45 : decode cX11_copyStanding 45 = .ok (.getfield 10, 3) := by decide +kernel
theorem dX11_copyStanding_48 : decode cX11_copyStanding 48 = .ok (.iload 4, 2) := by decide +kernel
theorem dX11_copyStanding_50 : decode cX11_copyStanding 50 = .ok (.invokevirtual 252, 3) := by decide +kernel
theorem dX11_copyStanding_53 : decode cX11_copyStanding 53 = .ok (.invokestatic 255, 3) := by decide +kernel
theorem dX11_copyStanding_56 : decode cX11_copyStanding 56 = .ok (.i2l, 1) := by decide +kernel
theorem dX11_copyStanding_57 : decode cX11_copyStanding 57 = .ok (.invokevirtual 115, 3) := by decide +kernel
theorem dX11_copyStanding_60 : decode cX11_copyStanding 60 = .ok (.iinc 4 1, 3) := by decide +kernel
theorem dX11_copyStanding_63 : decode cX11_copyStanding 63 = .ok (.goto (-32), 3) := by decide +kernel
theorem dX11_copyStanding_66 : decode cX11_copyStanding 66 = .ok (.aload_n 0, 1) := by decide +kernel
theorem dX11_copyStanding_67 : decode cX11_copyStanding 67 = .ok (.iload_n 2, 1) := by decide +kernel
theorem dX11_copyStanding_68 : decode cX11_copyStanding 68 = .ok (.invokevirtual 172, 3) := by decide +kernel
theorem dX11_copyStanding_71 : decode cX11_copyStanding 71 = .ok (.ireturn, 1) := by decide +kernel
theorem dX11_live_0 : decode cX11_live 0 = .ok (.iload_n 1, 1) := by decide +kernel
theorem dX11_live_1 : decode cX11_live 1 = .ok (.iconst 0, 1) := by decide +kernel
theorem dX11_live_2 : decode cX11_live 2 = .ok (.sipush 9999, 3) := by decide +kernel
theorem dX11_live_5 : decode cX11_live 5 = .ok (.invokestatic 96, 3) := by decide +kernel
theorem dX11_live_8 : decode cX11_live 8 = .ok (.ifCond .ne 9, 3) := by decide +kernel
theorem dX11_live_11 : decode cX11_live 11 = .ok (.aload_n 0, 1) := by decide +kernel
theorem dX11_live_12 : decode cX11_live 12 = .ok (.iconst 1, 1) := by decide +kernel
theorem dX11_live_13 : decode cX11_live 13 = .ok (.invokevirtual 119, 3) := by decide +kernel
theorem dX11_live_16 : decode cX11_live 16 = .ok (.ireturn, 1) := by decide +kernel
theorem dX11_live_17 : decode cX11_live 17 = .ok (.aload_n 0, 1) := by decide +kernel
theorem dX11_live_18 : decode cX11_live 18 = .ok (.getfield 10, 3) := by decide +kernel
theorem dX11_live_21 : decode cX11_live 21 = .ok (.getfield 194, 3) := by decide +kernel
theorem dX11_live_24 : decode cX11_live 24 = .ok (.ifCond .ne 10, 3) := by decide +kernel
theorem dX11_live_27 : decode cX11_live 27 = .ok (.aload_n 0, 1) := by decide +kernel
theorem dX11_live_28 : decode cX11_live 28 = .ok (.bipush 6, 2) := by decide +kernel
theorem dX11_live_30 : decode cX11_live 30 = .ok (.invokevirtual 119, 3) := by decide +kernel
theorem dX11_live_33 : decode cX11_live 33 = .ok (.ireturn, 1) := by decide +kernel
theorem dX11_live_34 : decode cX11_live 34 = .ok (.aload_n 0, 1) := by decide +kernel
theorem dX11_live_35 : decode cX11_live 35 = .ok (.getfield 70, 3) := by decide +kernel
theorem dX11_live_38 : decode cX11_live 38 = .ok (.aload_n 0, 1) := by decide +kernel
theorem dX11_live_39 : decode cX11_live 39 = .ok (.getfield 10, 3) := by decide +kernel
theorem dX11_live_42 : decode cX11_live 42 = .ok (.iload_n 1, 1) := by decide +kernel
theorem dX11_live_43 : decode cX11_live 43 = .ok (.invokevirtual 385, 3) := by decide +kernel
theorem dX11_live_46 : decode cX11_live 46 = .ok (.istore_n 2, 1) := by decide +kernel
theorem dX11_live_47 : decode cX11_live 47 = .ok (.iconst 0, 1) := by decide +kernel
theorem dX11_live_48 : decode cX11_live 48 = .ok (.istore_n 3, 1) := by decide +kernel
theorem dX11_live_49 : decode cX11_live 49 = .ok (.iload_n 3, 1) := by decide +kernel
theorem dX11_live_50 : decode cX11_live 50 = .ok (.aload_n 0, 1) := by decide +kernel
theorem dX11_live_51 : decode cX11_live 51 = .ok (.getfield 74, 3) := by decide +kernel
theorem dX11_live_54 : decode cX11_live 54 = .ok (.arraylength, 1) := by decide +kernel
theorem dX11_live_55 : decode cX11_live 55 = .ok (.if_icmp .ge 23, 3) := by decide +kernel
theorem dX11_live_58 : decode cX11_live 58 = .ok (.aload_n 0, 1) := by decide +kernel
theorem dX11_live_59 : decode cX11_live 59 = .ok (.getfield 74, 3) := by decide +kernel
theorem dX11_live_62 : decode cX11_live 62 = .ok (.iload_n 3, 1) := by decide +kernel
theorem dX11_live_63 : decode cX11_live 63 = .ok (.aload_n 0, 1) := by decide +kernel
theorem dX11_live_64 : decode cX11_live 64 = .ok (.getfield 70, 3) := by decide +kernel
theorem dX11_live_67 : decode cX11_live 67 = .ok (.iload_n 3, 1) := by decide +kernel
theorem dX11_live_68 : decode cX11_live 68 = .ok (.invokevirtual 388, 3) := by decide +kernel
theorem dX11_live_71 : decode cX11_live 71 = .ok (.iastore, 1) := by decide +kernel
theorem dX11_live_72 : decode cX11_live 72 = .ok (.iinc 3 1, 3) := by decide +kernel
theorem dX11_live_75 : decode cX11_live 75 = .ok (.goto (-26), 3) := by decide +kernel
theorem dX11_live_78 : decode cX11_live 78 = .ok (.aload_n 0, 1) := by decide +kernel
theorem dX11_live_79 : decode cX11_live 79 = .ok (.iconst 1, 1) := by decide +kernel
theorem dX11_live_80 : decode cX11_live 80 = .ok (.putfield 391, 3) := by decide +kernel
theorem dX11_live_83 : decode cX11_live 83 = .ok (.aload_n 0, 1) := by decide +kernel
theorem dX11_live_84 : decode cX11_live 84 = .ok (.iload_n 2, 1) := by decide +kernel
theorem dX11_live_85 : decode cX11_live 85 = .ok (.invokevirtual 172, 3) := by decide +kernel
theorem dX11_live_88 : decode cX11_live 88 = .ok (.ireturn, 1) := by decide +kernel
theorem dX11_lived_0 : decode cX11_lived 0 = .ok (.iload_n 1, 1) := by decide +kernel
theorem dX11_lived_1 : decode cX11_lived 1 = .ok (.iconst 0, 1) := by decide +kernel
theorem dX11_lived_2 : decode cX11_lived 2 = .ok (.aload_n 0, 1) := by decide +kernel
theorem dX11_lived_3 : decode cX11_lived 3 = .ok (.getfield 74, 3) := by decide +kernel
theorem dX11_lived_6 : decode cX11_lived 6 = .ok (.arraylength, 1) := by decide +kernel
theorem dX11_lived_7 : decode cX11_lived 7 = .ok (.iconst 1, 1) := by decide +kernel
theorem dX11_lived_8 : decode cX11_lived 8 = .ok (.isub, 1) := by decide +kernel
theorem dX11_lived_9 : decode cX11_lived 9 = .ok (.invokestatic 96, 3) := by decide +kernel
theorem dX11_lived_12 : decode cX11_lived 12 = .ok (.ifCond .ne 9, 3) := by decide +kernel
theorem dX11_lived_15 : decode cX11_lived 15 = .ok (.aload_n 0, 1) := by decide +kernel
theorem dX11_lived_16 : decode cX11_lived 16 = .ok (.iconst 1, 1) := by decide +kernel
theorem dX11_lived_17 : decode cX11_lived 17 = .ok (.invokevirtual 119, 3) := by decide +kernel
theorem dX11_lived_20 : decode cX11_lived 20 = .ok (.ireturn, 1) := by decide +kernel
theorem dX11_lived_21 : decode cX11_lived 21 = .ok (.aload_n 0, 1) := by decide +kernel
theorem dX11_lived_22 : decode cX11_lived 22 = .ok (.getfield 391, 3) := by decide +kernel
theorem dX11_lived_25 : decode cX11_lived 25 = .ok (.ifCond .eq 16, 3) := by decide +kernel
theorem dX11_lived_28 : decode cX11_lived 28 = .ok (.aload_n 0, 1) := by decide +kernel
theorem dX11_lived_29 : decode cX11_lived 29 = .ok (.aload_n 0, 1) := by decide +kernel
theorem dX11_lived_30 : decode cX11_lived 30 = .ok (.getfield 74, 3) := by decide +kernel
theorem dX11_lived_33 : decode cX11_lived 33 = .ok (.iload_n 1, 1) := by decide +kernel
theorem dX11_lived_34 : decode cX11_lived 34 = .ok (.iaload, 1) := by decide +kernel
theorem dX11_lived_35 : decode cX11_lived 35 = .ok (.invokevirtual 172, 3) := by decide +kernel
theorem dX11_lived_38 : decode cX11_lived 38 = .ok (.goto 9, 3) := by decide +kernel
theorem dX11_lived_41 : decode cX11_lived 41 = .ok (.aload_n 0, 1) := by decide +kernel
theorem dX11_lived_42 : decode cX11_lived 42 = .ok (.bipush 6, 2) := by decide +kernel
theorem dX11_lived_44 : decode cX11_lived 44 = .ok (.invokevirtual 119, 3) := by decide +kernel
theorem dX11_lived_47 : decode cX11_lived 47 = .ok (.ireturn, 1) := by decide +kernel
theorem dX11_mean_0 : decode cX11_mean 0 = .ok (.iload_n 1, 1) := by decide +kernel
theorem dX11_mean_1 : decode cX11_mean 1 = .ok (.iconst 0, 1) := by decide +kernel
theorem dX11_mean_2 : decode cX11_mean 2 = .ok (.sipush 9999, 3) := by decide +kernel
theorem dX11_mean_5 : decode cX11_mean 5 = .ok (.invokestatic 96, 3) := by decide +kernel
theorem dX11_mean_8 : decode cX11_mean 8 = .ok (.ifCond .eq 24, 3) := by decide +kernel
theorem dX11_mean_11 : decode cX11_mean 11 = .ok (.iload_n 2, 1) := by decide +kernel
theorem dX11_mean_12 : decode cX11_mean 12 = .ok (.iconst 1, 1) := by decide +kernel
theorem dX11_mean_13 : decode cX11_mean 13 = .ok (.bipush 20, 2) := by decide +kernel
theorem dX11_mean_15 : decode cX11_mean 15 = .ok (.invokestatic 96, 3) := by decide +kernel
theorem dX11_mean_18 : decode cX11_mean 18 = .ok (.ifCond .eq 14, 3) := by decide +kernel
theorem dX11_mean_21 : decode cX11_mean 21 = .ok (.iload_n 1, 1) := by decide +kernel
theorem dX11_mean_22 : decode cX11_mean 22 = .ok (.iload_n 2, 1) := by decide +kernel
theorem dX11_mean_23 : decode cX11_mean 23 = .ok (.iadd, 1) := by decide +kernel
theorem dX11_mean_24 : decode cX11_mean 24 = .ok (.iconst 1, 1) := by decide +kernel
theorem dX11_mean_25 : decode cX11_mean 25 = .ok (.isub, 1) := by decide +kernel
theorem dX11_mean_26 : decode cX11_mean 26 = .ok (.sipush 9999, 3) := by decide +kernel
theorem dX11_mean_29 : decode cX11_mean 29 = .ok (.if_icmp .le 9, 3) := by decide +kernel
theorem dX11_mean_32 : decode cX11_mean 32 = .ok (.aload_n 0, 1) := by decide +kernel
theorem dX11_mean_33 : decode cX11_mean 33 = .ok (.iconst 1, 1) := by decide +kernel
theorem dX11_mean_34 : decode cX11_mean 34 = .ok (.invokevirtual 100, 3) := by decide +kernel
theorem dX11_mean_37 : decode cX11_mean 37 = .ok (.ireturn, 1) := by decide +kernel
theorem dX11_mean_38 : decode cX11_mean 38 = .ok (.aload_n 0, 1) := by decide +kernel
theorem dX11_mean_39 : decode cX11_mean 39 = .ok (.getfield 10, 3) := by decide +kernel
theorem dX11_mean_42 : decode cX11_mean 42 = .ok (.getfield 194, 3) := by decide +kernel
theorem dX11_mean_45 : decode cX11_mean 45 = .ok (.ifCond .ne 10, 3) := by decide +kernel
theorem dX11_mean_48 : decode cX11_mean 48 = .ok (.aload_n 0, 1) := by decide +kernel
theorem dX11_mean_49 : decode cX11_mean 49 = .ok (.bipush 6, 2) := by decide +kernel
theorem dX11_mean_51 : decode cX11_mean 51 = .ok (.invokevirtual 100, 3) := by decide +kernel
theorem dX11_mean_54 : decode cX11_mean 54 = .ok (.ireturn, 1) := by decide +kernel
theorem dX11_mean_55 : decode cX11_mean 55 = .ok (.lconst 0, 1) := by decide +kernel
theorem dX11_mean_56 : decode cX11_mean 56 = .ok (.lstore_n 3, 1) := by decide +kernel
theorem dX11_mean_57 : decode cX11_mean 57 = .ok (.iconst 0, 1) := by decide +kernel
theorem dX11_mean_58 : decode cX11_mean 58 = .ok (.istore 5, 2) := by decide +kernel
theorem dX11_mean_60 : decode cX11_mean 60 = .ok (.iload 5, 2) := by decide +kernel
theorem dX11_mean_62 : decode cX11_mean 62 = .ok (.iload_n 2, 1) := by decide +kernel
theorem dX11_mean_63 : decode cX11_mean 63 = .ok (.if_icmp .ge 51, 3) := by decide +kernel
theorem dX11_mean_66 : decode cX11_mean 66 = .ok (.aload_n 0, 1) := by decide +kernel
theorem dX11_mean_67 : decode cX11_mean 67 = .ok (.getfield 16, 3) := by decide +kernel
theorem dX11_mean_70 : decode cX11_mean 70 = .ok (.aload_n 0, 1) := by decide +kernel
theorem dX11_mean_71 : decode cX11_mean 71 = .ok (.getfield 10, 3) := by decide +kernel
theorem dX11_mean_74 : decode cX11_mean 74 = .ok (.invokevirtual 159, 3) := by decide +kernel
theorem dX11_mean_77 : decode cX11_mean 77 = .ok (.aload_n 0, 1) := by decide +kernel
theorem dX11_mean_78 : decode cX11_mean 78 = .ok (.getfield 70, 3) := by decide +kernel
theorem dX11_mean_81 : decode cX11_mean 81 = .ok (.aload_n 0, 1) := by decide +kernel
theorem dX11_mean_82 : decode cX11_mean 82 = .ok (.getfield 16, 3) := by decide +kernel
theorem dX11_mean_85 : decode cX11_mean 85 = .ok (.iload_n 1, 1) := by decide +kernel
theorem dX11_mean_86 : decode cX11_mean 86 = .ok (.iload 5, 2) := by decide +kernel
theorem dX11_mean_88 : decode cX11_mean 88 = .ok (.iadd, 1) := by decide +kernel
theorem dX11_mean_89 : decode cX11_mean 89 = .ok (.invokevirtual 385, 3) := by decide +kernel
theorem dX11_mean_92 : decode cX11_mean 92 = .ok (.pop, 1) := by decide +kernel
theorem dX11_mean_93 : decode cX11_mean 93 = .ok (.lload_n 3, 1) := by decide +kernel
theorem dX11_mean_94 : decode cX11_mean 94 = .ok (.aload_n 0, 1) := by decide +kernel
theorem dX11_mean_95 : decode cX11_mean 95 = .ok (.getfield 16, 3) := by decide +kernel
theorem dX11_mean_98 : decode cX11_mean 98 = .ok (.getfield 210, 3) := by decide +kernel
theorem dX11_mean_101 : decode cX11_mean 101 = .ok (.iconst 3, 1) := by decide +kernel
theorem dX11_mean_102 : decode cX11_mean 102 = .ok (.invokevirtual 238, 3) := by decide +kernel
theorem dX11_mean_105 : decode cX11_mean 105 = .ok (.i2l, 1) := by decide +kernel
theorem dX11_mean_106 : decode cX11_mean 106 = .ok (.ladd, 1) := by decide +kernel
theorem dX11_mean_107 : decode cX11_mean 107 = .ok (.lstore_n 3, 1) := by decide +kernel
theorem dX11_mean_108 : decode cX11_mean 108 = .ok (.iinc 5 1, 3) := by decide +kernel
theorem dX11_mean_111 : decode cX11_mean 111 = .ok (.goto (-51), 3) := by decide +kernel
theorem dX11_mean_114 : decode cX11_mean 114 = .ok (.aload_n 0, 1) := by decide +kernel
theorem dX11_mean_115 : decode cX11_mean 115 = .ok (.lload_n 3, 1) := by decide +kernel
theorem dX11_mean_116 : decode cX11_mean 116 = .ok (.iload_n 2, 1) := by decide +kernel
theorem dX11_mean_117 : decode cX11_mean 117 = .ok (.i2l, 1) := by decide +kernel
theorem dX11_mean_118 : decode cX11_mean 118 = .ok (.invokevirtual 378, 3) := by decide +kernel
theorem dX11_mean_121 : decode cX11_mean 121 = .ok (.aload_n 0, 1) := by decide +kernel
theorem dX11_mean_122 : decode cX11_mean 122 = .ok (.invokevirtual 107, 3) := by decide +kernel
theorem dX11_mean_125 : decode cX11_mean 125 = .ok (.ireturn, 1) := by decide +kernel
theorem dX11_mark_0 : decode cX11_mark 0 = .ok (.aload_n 0, 1) := by decide +kernel
theorem dX11_mark_1 : decode cX11_mark 1 = .ok (.getfield 394, 3) := by decide +kernel
theorem dX11_mark_4 : decode cX11_mark 4 = .ok (.aload_n 0, 1) := by decide +kernel
theorem dX11_mark_5 : decode cX11_mark 5 = .ok (.getfield 19, 3) := by decide +kernel
theorem dX11_mark_8 : decode cX11_mark 8 = .ok (.arraylength, 1) := by decide +kernel
theorem dX11_mark_9 : decode cX11_mark 9 = .ok (.if_icmp .lt 9, 3) := by decide +kernel
theorem dX11_mark_12 : decode cX11_mark 12 = .ok (.aload_n 0, 1) := by decide +kernel
theorem dX11_mark_13 : decode cX11_mark 13 = .ok (.iconst 4, 1) := by decide +kernel
theorem dX11_mark_14 : decode cX11_mark 14 = .ok (.invokevirtual 119, 3) := by decide +kernel
theorem dX11_mark_17 : decode cX11_mark 17 = .ok (.ireturn, 1) := by decide +kernel
theorem dX11_mark_18 : decode cX11_mark 18 = .ok (.aload_n 0, 1) := by decide +kernel
theorem dX11_mark_19 : decode cX11_mark 19 = .ok (.getfield 19, 3) := by decide +kernel
theorem dX11_mark_22 : decode cX11_mark 22 = .ok (.aload_n 0, 1) := by decide +kernel
theorem dX11_mark_23 : decode cX11_mark 23 = .ok (.getfield 394, 3) := by decide +kernel
theorem dX11_mark_26 : decode cX11_mark 26 = .ok (.aaload, 1) := by decide +kernel
theorem dX11_mark_27 : decode cX11_mark 27 = .ok (.astore_n 1, 1) := by decide +kernel
theorem dX11_mark_28 : decode cX11_mark 28 = .ok (.aload_n 1, 1) := by decide +kernel
theorem dX11_mark_29 : decode cX11_mark 29 = .ok (.ifnonnull 9, 3) := by decide +kernel
theorem dX11_mark_32 : decode cX11_mark 32 = .ok (.aload_n 0, 1) := by decide +kernel
theorem dX11_mark_33 : decode cX11_mark 33 = .ok (.iconst 4, 1) := by decide +kernel
theorem dX11_mark_34 : decode cX11_mark 34 = .ok (.invokevirtual 119, 3) := by decide +kernel
theorem dX11_mark_37 : decode cX11_mark 37 = .ok (.ireturn, 1) := by decide +kernel
theorem dX11_mark_38 : decode cX11_mark 38 = .ok (.aload_n 1, 1) := by decide +kernel
theorem dX11_mark_39 : decode cX11_mark 39 = .ok (.aload_n 0, 1) := by decide +kernel
theorem dX11_mark_40 : decode cX11_mark 40 = .ok (.getfield 10, 3) := by decide +kernel
theorem dX11_mark_43 : decode cX11_mark 43 = .ok (.invokevirtual 159, 3) := by decide +kernel
theorem dX11_mark_46 : decode cX11_mark 46 = .ok (.aload_n 0, 1) := by decide +kernel
theorem dX11_mark_47 : decode cX11_mark 47 = .ok (.dup, 1) := by decide +kernel
theorem dX11_mark_48 : decode cX11_mark 48 = .ok (.getfield 394, 3) := by decide +kernel
theorem dX11_mark_51 : decode cX11_mark 51 = .ok (.iconst 1, 1) := by decide +kernel
theorem dX11_mark_52 : decode cX11_mark 52 = .ok (.iadd, 1) := by decide +kernel
theorem dX11_mark_53 : decode cX11_mark 53 = .ok (.putfield 394, 3) := by decide +kernel
theorem dX11_mark_56 : decode cX11_mark 56 = .ok (.aload_n 0, 1) := by decide +kernel
theorem dX11_mark_57 : decode cX11_mark 57 = .ok (.aload_n 0, 1) := by decide +kernel
theorem dX11_mark_58 : decode cX11_mark 58 = .ok (.getfield 394, 3) := by decide +kernel
theorem dX11_mark_61 : decode cX11_mark 61 = .ok (.invokevirtual 172, 3) := by decide +kernel
theorem dX11_mark_64 : decode cX11_mark 64 = .ok (.ireturn, 1) := by decide +kernel
theorem dX11_undo_0 : decode cX11_undo 0 = .ok (.aload_n 0, 1) := by decide +kernel
theorem dX11_undo_1 : decode cX11_undo 1 = .ok (.getfield 394, 3) := by decide +kernel
theorem dX11_undo_4 : decode cX11_undo 4 = .ok (.iconst 1, 1) := by decide +kernel
theorem dX11_undo_5 : decode cX11_undo 5 = .ok (.if_icmp .lt 15, 3) := by decide +kernel
theorem dX11_undo_8 : decode cX11_undo 8 = .ok (.aload_n 0, 1) := by decide +kernel
theorem dX11_undo_9 : decode cX11_undo 9 = .ok (.getfield 394, 3) := by decide +kernel
theorem dX11_undo_12 : decode cX11_undo 12 = .ok (.aload_n 0, 1) := by decide +kernel
theorem dX11_undo_13 : decode cX11_undo 13 = .ok (.getfield 19, 3) := by decide +kernel
theorem dX11_undo_16 : decode cX11_undo 16 = .ok (.arraylength, 1) := by decide +kernel
theorem dX11_undo_17 : decode cX11_undo 17 = .ok (.if_icmp .le 10, 3) := by decide +kernel
theorem dX11_undo_20 : decode cX11_undo 20 = .ok (.aload_n 0, 1) := by decide +kernel
theorem dX11_undo_21 : decode cX11_undo 21 = .ok (.bipush 6, 2) := by decide +kernel
theorem dX11_undo_23 : decode cX11_undo 23 = .ok (.invokevirtual 119, 3) := by decide +kernel
theorem dX11_undo_26 : decode cX11_undo 26 = .ok (.ireturn, 1) := by decide +kernel
theorem dX11_undo_27 : decode cX11_undo 27 = .ok (.aload_n 0, 1) := by decide +kernel
theorem dX11_undo_28 : decode cX11_undo 28 = .ok (.getfield 19, 3) := by decide +kernel
theorem dX11_undo_31 : decode cX11_undo 31 = .ok (.aload_n 0, 1) := by decide +kernel
theorem dX11_undo_32 : decode cX11_undo 32 = .ok (.getfield 394, 3) := by decide +kernel
theorem dX11_undo_35 : decode cX11_undo 35 = .ok (.iconst 1, 1) := by decide +kernel
theorem dX11_undo_36 : decode cX11_undo 36 = .ok (.isub, 1) := by decide +kernel
theorem dX11_undo_37 : decode cX11_undo 37 = .ok (.aaload, 1) := by decide +kernel
theorem dX11_undo_38 : decode cX11_undo 38 = .ok (.astore_n 1, 1) := by decide +kernel
theorem dX11_undo_39 : decode cX11_undo 39 = .ok (.aload_n 1, 1) := by decide +kernel
theorem dX11_undo_40 : decode cX11_undo 40 = .ok (.ifnonnull 10, 3) := by decide +kernel
theorem dX11_undo_43 : decode cX11_undo 43 = .ok (.aload_n 0, 1) := by decide +kernel
theorem dX11_undo_44 : decode cX11_undo 44 = .ok (.bipush 6, 2) := by decide +kernel
theorem dX11_undo_46 : decode cX11_undo 46 = .ok (.invokevirtual 119, 3) := by decide +kernel
theorem dX11_undo_49 : decode cX11_undo 49 = .ok (.ireturn, 1) := by decide +kernel
theorem dX11_undo_50 : decode cX11_undo 50 = .ok (.aload_n 0, 1) := by decide +kernel
theorem dX11_undo_51 : decode cX11_undo 51 = .ok (.dup, 1) := by decide +kernel
theorem dX11_undo_52 : decode cX11_undo 52 = .ok (.getfield 394, 3) := by decide +kernel
theorem dX11_undo_55 : decode cX11_undo 55 = .ok (.iconst 1, 1) := by decide +kernel
theorem dX11_undo_56 : decode cX11_undo 56 = .ok (.isub, 1) := by decide +kernel
theorem dX11_undo_57 : decode cX11_undo 57 = .ok (.putfield 394, 3) := by decide +kernel
theorem dX11_undo_60 : decode cX11_undo 60 = .ok (.aload_n 0, 1) := by decide +kernel
theorem dX11_undo_61 : decode cX11_undo 61 = .ok (.getfield 10, 3) := by decide +kernel
theorem dX11_undo_64 : decode cX11_undo 64 = .ok (.aload_n 1, 1) := by decide +kernel
theorem dX11_undo_65 : decode cX11_undo 65 = .ok (.invokevirtual 159, 3) := by decide +kernel
theorem dX11_undo_68 : decode cX11_undo 68 = .ok (.aload_n 0, 1) := by decide +kernel
theorem dX11_undo_69 : decode cX11_undo 69 = .ok (.aload_n 0, 1) := by decide +kernel
theorem dX11_undo_70 : decode cX11_undo 70 = .ok (.getfield 394, 3) := by decide +kernel
theorem dX11_undo_73 : decode cX11_undo 73 = .ok (.invokevirtual 172, 3) := by decide +kernel
theorem dX11_undo_76 : decode cX11_undo 76 = .ok (.ireturn, 1) := by decide +kernel
theorem dX11_answer_0 : decode cX11_answer 0 = .ok (.aload_n 0, 1) := by decide +kernel
theorem dX11_answer_1 : decode cX11_answer 1 = .ok (.iconst 0, 1) := by decide +kernel
theorem dX11_answer_2 : decode cX11_answer 2 = .ok (.putfield 86, 3) := by decide +kernel
theorem dX11_answer_5 : decode cX11_answer 5 = .ok (.iload_n 1, 1) := by decide +kernel
theorem dX11_answer_6 : decode cX11_answer 6 = .ok (.ireturn, 1) := by decide +kernel
theorem dX11_none_0 : decode cX11_none 0 = .ok (.aload_n 0, 1) := by decide +kernel
theorem dX11_none_1 : decode cX11_none 1 = .ok (.iload_n 1, 1) := by decide +kernel
theorem dX11_none_2 : decode cX11_none 2 = .ok (.putfield 86, 3) := by decide +kernel
theorem dX11_none_5 : decode cX11_none 5 = .ok (.iconst (-1), 1) := by decide +kernel
theorem dX11_none_6 : decode cX11_none 6 = .ok (.ireturn, 1) := by decide +kernel
theorem dX11_accepted_0 : decode cX11_accepted 0 = .ok (.aload_n 0, 1) := by decide +kernel
theorem dX11_accepted_1 : decode cX11_accepted 1 = .ok (.iconst 0, 1) := by decide +kernel
theorem dX11_accepted_2 : decode cX11_accepted 2 = .ok (.putfield 86, 3) := by decide +kernel
theorem dX11_accepted_5 : decode cX11_accepted 5 = .ok (.iconst 1, 1) := by decide +kernel
theorem dX11_accepted_6 : decode cX11_accepted 6 = .ok (.ireturn, 1) := by decide +kernel
theorem dX11_refused_0 : decode cX11_refused 0 = .ok (.aload_n 0, 1) := by decide +kernel
theorem dX11_refused_1 : decode cX11_refused 1 = .ok (.iload_n 1, 1) := by decide +kernel
theorem dX11_refused_2 : decode cX11_refused 2 = .ok (.putfield 86, 3) := by decide +kernel
theorem dX11_refused_5 : decode cX11_refused 5 = .ok (.iconst 0, 1) := by decide +kernel
theorem dX11_refused_6 : decode cX11_refused 6 = .ok (.ireturn, 1) := by decide +kernel
theorem dX11_within_0 : decode cX11_within 0 = .ok (.iload_n 0, 1) := by decide +kernel
theorem dX11_within_1 : decode cX11_within 1 = .ok (.iload_n 1, 1) := by decide +kernel
theorem dX11_within_2 : decode cX11_within 2 = .ok (.if_icmp .lt 12, 3) := by decide +kernel
theorem dX11_within_5 : decode cX11_within 5 = .ok (.iload_n 0, 1) := by decide +kernel
theorem dX11_within_6 : decode cX11_within 6 = .ok (.iload_n 2, 1) := by decide +kernel
theorem dX11_within_7 : decode cX11_within 7 = .ok (.if_icmp .gt 7, 3) := by decide +kernel
theorem dX11_within_10 : decode cX11_within 10 = .ok (.iconst 1, 1) := by decide +kernel
theorem dX11_within_11 : decode cX11_within 11 = .ok (.goto 4, 3) := by decide +kernel
theorem dX11_within_14 : decode cX11_within 14 = .ok (.iconst 0, 1) := by decide +kernel
theorem dX11_within_15 : decode cX11_within 15 = .ok (.ireturn, 1) := by decide +kernel
theorem dX11_isCorner_0 : decode cX11_isCorner 0 = .ok (.iload_n 1, 1) := by decide +kernel
theorem dX11_isCorner_1 : decode cX11_isCorner 1 = .ok (.iconst 0, 1) := by decide +kernel
theorem dX11_isCorner_2 : decode cX11_isCorner 2 = .ok (.aload_n 0, 1) := by decide +kernel
theorem dX11_isCorner_3 : decode cX11_isCorner 3 = .ok (.getfield 10, 3) := by decide +kernel
theorem dX11_isCorner_6 : decode cX11_isCorner 6 = .ok (.getfield 163, 3) := by decide +kernel
theorem dX11_isCorner_9 : decode cX11_isCorner 9 = .ok (.getfield 167, 3) := by decide +kernel
theorem dX11_isCorner_12 : decode cX11_isCorner 12 = .ok (.iconst 1, 1) := by decide +kernel
theorem dX11_isCorner_13 : decode cX11_isCorner 13 = .ok (.isub, 1) := by decide +kernel
theorem dX11_isCorner_14 : decode cX11_isCorner 14 = .ok (.invokestatic 96, 3) := by decide +kernel
theorem dX11_isCorner_17 : decode cX11_isCorner 17 = .ok (.ireturn, 1) := by decide +kernel
theorem dX11_isExtra_0 : decode cX11_isExtra 0 = .ok (.iload_n 1, 1) := by decide +kernel
theorem dX11_isExtra_1 : decode cX11_isExtra 1 = .ok (.iconst 0, 1) := by decide +kernel
theorem dX11_isExtra_2 : decode cX11_isExtra 2 = .ok (.aload_n 0, 1) := by decide +kernel
theorem dX11_isExtra_3 : decode cX11_isExtra 3 = .ok (.getfield 10, 3) := by decide +kernel
theorem dX11_isExtra_6 : decode cX11_isExtra 6 = .ok (.getfield 210, 3) := by decide +kernel
theorem dX11_isExtra_9 : decode cX11_isExtra 9 = .ok (.getfield 198, 3) := by decide +kernel
theorem dX11_isExtra_12 : decode cX11_isExtra 12 = .ok (.iconst 1, 1) := by decide +kernel
theorem dX11_isExtra_13 : decode cX11_isExtra 13 = .ok (.isub, 1) := by decide +kernel
theorem dX11_isExtra_14 : decode cX11_isExtra 14 = .ok (.invokestatic 96, 3) := by decide +kernel
theorem dX11_isExtra_17 : decode cX11_isExtra 17 = .ok (.ireturn, 1) := by decide +kernel
theorem dX11_isHappening_0 : decode cX11_isHappening 0 = .ok (.iload_n 1, 1) := by decide +kernel
theorem dX11_isHappening_1 : decode cX11_isHappening 1 = .ok (.iconst 0, 1) := by decide +kernel
theorem dX11_isHappening_2 : decode cX11_isHappening 2 = .ok (.aload_n 0, 1) := by decide +kernel
theorem dX11_isHappening_3 : decode cX11_isHappening 3 = .ok (.getfield 10, 3) := by decide +kernel
theorem dX11_isHappening_6 : decode cX11_isHappening 6 = .ok (.getfield 213, 3) := by decide +kernel
theorem dX11_isHappening_9 : decode cX11_isHappening 9 = .ok (.getfield 198, 3) := by decide +kernel
theorem dX11_isHappening_12 : decode cX11_isHappening 12 = .ok (.iconst 1, 1) := by decide +kernel
theorem dX11_isHappening_13 : decode cX11_isHappening 13 = .ok (.isub, 1) := by decide +kernel
theorem dX11_isHappening_14 : decode cX11_isHappening 14 = .ok (.invokestatic 96, 3) := by decide +kernel
theorem dX11_isHappening_17 : decode cX11_isHappening 17 = .ok (.ireturn, 1) := by decide +kernel
theorem dX11_isWatcher_0 : decode cX11_isWatcher 0 = .ok (.iload_n 1, 1) := by decide +kernel
theorem dX11_isWatcher_1 : decode cX11_isWatcher 1 = .ok (.iconst 0, 1) := by decide +kernel
theorem dX11_isWatcher_2 : decode cX11_isWatcher 2 = .ok (.aload_n 0, 1) := by decide +kernel
theorem dX11_isWatcher_3 : decode cX11_isWatcher 3 = .ok (.getfield 10, 3) := by decide +kernel
theorem dX11_isWatcher_6 : decode cX11_isWatcher 6 = .ok (.getfield 216, 3) := by decide +kernel
theorem dX11_isWatcher_9 : decode cX11_isWatcher 9 = .ok (.getfield 198, 3) := by decide +kernel
theorem dX11_isWatcher_12 : decode cX11_isWatcher 12 = .ok (.iconst 1, 1) := by decide +kernel
theorem dX11_isWatcher_13 : decode cX11_isWatcher 13 = .ok (.isub, 1) := by decide +kernel
theorem dX11_isWatcher_14 : decode cX11_isWatcher 14 = .ok (.invokestatic 96, 3) := by decide +kernel
theorem dX11_isWatcher_17 : decode cX11_isWatcher 17 = .ok (.ireturn, 1) := by decide +kernel
theorem dX11_isAhead_0 : decode cX11_isAhead 0 = .ok (.iload_n 0, 1) := by decide +kernel
theorem dX11_isAhead_1 : decode cX11_isAhead 1 = .ok (.iconst 0, 1) := by decide +kernel
theorem dX11_isAhead_2 : decode cX11_isAhead 2 = .ok (.sipush 300, 3) := by decide +kernel
theorem dX11_isAhead_5 : decode cX11_isAhead 5 = .ok (.invokestatic 96, 3) := by decide +kernel
theorem dX11_isAhead_8 : decode cX11_isAhead 8 = .ok (.ireturn, 1) := by decide +kernel
theorem dX11_lookAhead_0 : decode cX11_lookAhead 0 = .ok (.aload_n 0, 1) := by decide +kernel
theorem dX11_lookAhead_1 : decode cX11_lookAhead 1 = .ok (.getfield 16, 3) := by decide +kernel
theorem dX11_lookAhead_4 : decode cX11_lookAhead 4 = .ok (.aload_n 0, 1) := by decide +kernel
theorem dX11_lookAhead_5 : decode cX11_lookAhead 5 = .ok (.getfield 10, 3) := by decide +kernel
theorem dX11_lookAhead_8 : decode cX11_lookAhead 8 = .ok (.invokevirtual 159, 3) := by decide +kernel
theorem dX11_lookAhead_11 : decode cX11_lookAhead 11 = .ok (.aload_n 0, 1) := by decide +kernel
theorem dX11_lookAhead_12 : decode cX11_lookAhead 12 = .ok (.getfield 16, 3) := by decide +kernel
theorem dX11_lookAhead_15 : decode cX11_lookAhead 15 = .ok (.iload_n 1, 1) := by decide +kernel
theorem dX11_lookAhead_16 : decode cX11_lookAhead 16 = .ok (.invokevirtual 272, 3) := by decide +kernel
theorem dX11_lookAhead_19 : decode cX11_lookAhead 19 = .ok (.return_, 1) := by decide +kernel
theorem dX11_keepFault_0 : decode cX11_keepFault 0 = .ok (.aload_n 0, 1) := by decide +kernel
theorem dX11_keepFault_1 : decode cX11_keepFault 1 = .ok (.iconst 1, 1) := by decide +kernel
theorem dX11_keepFault_2 : decode cX11_keepFault 2 = .ok (.putfield 201, 3) := by decide +kernel
theorem dX11_keepFault_5 : decode cX11_keepFault 5 = .ok (.aload_n 0, 1) := by decide +kernel
theorem dX11_keepFault_6 : decode cX11_keepFault 6 = .ok (.aload_n 0, 1) := by decide +kernel
theorem dX11_keepFault_7 : decode cX11_keepFault 7 = .ok (.getfield 26, 3) := by decide +kernel
theorem dX11_keepFault_10 : decode cX11_keepFault 10 = .ok (.getfield 397, 3) := by decide +kernel
theorem dX11_keepFault_13 : decode cX11_keepFault 13 = .ok (.putfield 204, 3) := by decide +kernel
theorem dX11_keepFault_16 : decode cX11_keepFault 16 = .ok (.aload_n 0, 1) := by decide +kernel
theorem dX11_keepFault_17 : decode cX11_keepFault 17 = .ok (.aload_n 0, 1) := by decide +kernel
theorem dX11_keepFault_18 : decode cX11_keepFault 18 = .ok (.getfield 26, 3) := by decide +kernel
theorem dX11_keepFault_21 : decode cX11_keepFault 21 = .ok (.getfield 400, 3) := by decide +kernel
theorem dX11_keepFault_24 : decode cX11_keepFault 24 = .ok (.putfield 78, 3) := by decide +kernel
theorem dX11_keepFault_27 : decode cX11_keepFault 27 = .ok (.return_, 1) := by decide +kernel
theorem dX11_keepFraction_0 : decode cX11_keepFraction 0 = .ok (.lload_n 1, 1) := by decide +kernel
theorem dX11_keepFraction_1 : decode cX11_keepFraction 1 = .ok (.lstore 5, 2) := by decide +kernel
theorem dX11_keepFraction_3 : decode cX11_keepFraction 3 = .ok (.lload_n 3, 1) := by decide +kernel
theorem dX11_keepFraction_4 : decode cX11_keepFraction 4 = .ok (.lstore 7, 2) := by decide +kernel
theorem dX11_keepFraction_6 : decode cX11_keepFraction 6 = .ok (.iconst 0, 1) := by decide +kernel
theorem dX11_keepFraction_7 : decode cX11_keepFraction 7 = .ok (.istore 9, 2) := by decide +kernel
theorem dX11_keepFraction_9 : decode cX11_keepFraction 9 = .ok (.iload 9, 2) := by decide +kernel
theorem dX11_keepFraction_11 : decode cX11_keepFraction 11 = .ok (.sipush 200, 3) := by decide +kernel
theorem dX11_keepFraction_14 : decode cX11_keepFraction 14 = .ok (.if_icmp .ge 31, 3) := by decide +kernel
theorem dX11_keepFraction_17 : decode cX11_keepFraction 17 = .ok (.lload 7, 2) := by decide +kernel
theorem dX11_keepFraction_19 : decode cX11_keepFraction 19 = .ok (.lconst 0, 1) := by decide +kernel
theorem dX11_keepFraction_20 : decode cX11_keepFraction 20 = .ok (.lcmp, 1) := by decide +kernel
theorem dX11_keepFraction_21 : decode cX11_keepFraction 21 = .ok (.ifCond .le 24, 3) := by decide +kernel
theorem dX11_keepFraction_24 : decode cX11_keepFraction 24 = .ok (.lload 5, 2) := by decide +kernel
theorem dX11_keepFraction_26 : decode cX11_keepFraction 26 = .ok (.lload 7, 2) := by decide +kernel
theorem dX11_keepFraction_28 : decode cX11_keepFraction 28 = .ok (.lrem, 1) := by decide +kernel
theorem dX11_keepFraction_29 : decode cX11_keepFraction 29 = .ok (.lstore 10, 2) := by decide +kernel
theorem dX11_keepFraction_31 : decode cX11_keepFraction 31 = .ok (.lload 7, 2) := by decide +kernel
theorem dX11_keepFraction_33 : decode cX11_keepFraction 33 = .ok (.lstore 5, 2) := by decide +kernel
theorem dX11_keepFraction_35 : decode cX11_keepFraction 35 = .ok (.lload 10, 2) := by decide +kernel
theorem dX11_keepFraction_37 : decode cX11_keepFraction 37 = .ok (.lstore 7, 2) := by decide +kernel
theorem dX11_keepFraction_39 : decode cX11_keepFraction 39 = .ok (.iinc 9 1, 3) := by decide +kernel
theorem dX11_keepFraction_42 : decode cX11_keepFraction 42 = .ok (.goto (-33), 3) := by decide +kernel
theorem dX11_keepFraction_45 : decode cX11_keepFraction 45 = .ok (.lload 5, 2) := by decide +kernel
theorem dX11_keepFraction_47 : decode cX11_keepFraction 47 = .ok (.lconst 0, 1) := by decide +kernel
theorem dX11_keepFraction_48 : decode cX11_keepFraction 48 = .ok (.lcmp, 1) := by decide +kernel
theorem dX11_keepFraction_49 : decode cX11_keepFraction 49 = .ok (.ifCond .le 19, 3) := by decide +kernel
theorem dX11_keepFraction_52 : decode cX11_keepFraction 52 = .ok (.aload_n 0, 1) := by decide +kernel
theorem dX11_keepFraction_53 : decode cX11_keepFraction 53 = .ok (.lload_n 1, 1) := by decide +kernel
theorem dX11_keepFraction_54 : decode cX11_keepFraction 54 = .ok (.lload 5, 2) := by decide +kernel
theorem dX11_keepFraction_56 : decode cX11_keepFraction 56 = .ok (.ldiv, 1) := by decide +kernel
theorem dX11_keepFraction_57 : decode cX11_keepFraction 57 = .ok (.putfield 89, 3) := by decide +kernel
theorem dX11_keepFraction_60 : decode cX11_keepFraction 60 = .ok (.aload_n 0, 1) := by decide +kernel
theorem dX11_keepFraction_61 : decode cX11_keepFraction 61 = .ok (.lload_n 3, 1) := by decide +kernel
theorem dX11_keepFraction_62 : decode cX11_keepFraction 62 = .ok (.lload 5, 2) := by decide +kernel
theorem dX11_keepFraction_64 : decode cX11_keepFraction 64 = .ok (.ldiv, 1) := by decide +kernel
theorem dX11_keepFraction_65 : decode cX11_keepFraction 65 = .ok (.putfield 82, 3) := by decide +kernel
theorem dX11_keepFraction_68 : decode cX11_keepFraction 68 = .ok (.return_, 1) := by decide +kernel
theorem dX11_power_0 : decode cX11_power 0 = .ok (.lconst 1, 1) := by decide +kernel
theorem dX11_power_1 : decode cX11_power 1 = .ok (.lstore_n 3, 1) := by decide +kernel
theorem dX11_power_2 : decode cX11_power 2 = .ok (.iconst 0, 1) := by decide +kernel
theorem dX11_power_3 : decode cX11_power 3 = .ok (.istore 5, 2) := by decide +kernel
theorem dX11_power_5 : decode cX11_power 5 = .ok (.iload 5, 2) := by decide +kernel
theorem dX11_power_7 : decode cX11_power 7 = .ok (.iload_n 2, 1) := by decide +kernel
theorem dX11_power_8 : decode cX11_power 8 = .ok (.if_icmp .ge 13, 3) := by decide +kernel
theorem dX11_power_11 : decode cX11_power 11 = .ok (.lload_n 3, 1) := by decide +kernel
theorem dX11_power_12 : decode cX11_power 12 = .ok (.lload_n 0, 1) := by decide +kernel
theorem dX11_power_13 : decode cX11_power 13 = .ok (.lmul, 1) := by decide +kernel
theorem dX11_power_14 : decode cX11_power 14 = .ok (.lstore_n 3, 1) := by decide +kernel
theorem dX11_power_15 : decode cX11_power 15 = .ok (.iinc 5 1, 3) := by decide +kernel
theorem dX11_power_18 : decode cX11_power 18 = .ok (.goto (-13), 3) := by decide +kernel
theorem dX11_power_21 : decode cX11_power 21 = .ok (.lload_n 3, 1) := by decide +kernel
theorem dX11_power_22 : decode cX11_power 22 = .ok (.lreturn, 1) := by decide +kernel
theorem dX11_choices_0 : decode cX11_choices 0 = .ok (.lconst 1, 1) := by decide +kernel
theorem dX11_choices_1 : decode cX11_choices 1 = .ok (.lstore_n 2, 1) := by decide +kernel
theorem dX11_choices_2 : decode cX11_choices 2 = .ok (.iconst 1, 1) := by decide +kernel
theorem dX11_choices_3 : decode cX11_choices 3 = .ok (.istore 4, 2) := by decide +kernel
theorem dX11_choices_5 : decode cX11_choices 5 = .ok (.iload 4, 2) := by decide +kernel
theorem dX11_choices_7 : decode cX11_choices 7 = .ok (.iload_n 1, 1) := by decide +kernel
theorem dX11_choices_8 : decode cX11_choices 8 = .ok (.if_icmp .gt 23, 3) := by decide +kernel
theorem dX11_choices_11 : decode cX11_choices 11 = .ok (.lload_n 2, 1) := by decide +kernel
theorem dX11_choices_12 : decode cX11_choices 12 = .ok (.iload_n 0, 1) := by decide +kernel
theorem dX11_choices_13 : decode cX11_choices 13 = .ok (.iload_n 1, 1) := by decide +kernel
theorem dX11_choices_14 : decode cX11_choices 14 = .ok (.isub, 1) := by decide +kernel
theorem dX11_choices_15 : decode cX11_choices 15 = .ok (.iload 4, 2) := by decide +kernel
theorem dX11_choices_17 : decode cX11_choices 17 = .ok (.iadd, 1) := by decide +kernel
theorem dX11_choices_18 : decode cX11_choices 18 = .ok (.i2l, 1) := by decide +kernel
theorem dX11_choices_19 : decode cX11_choices 19 = .ok (.lmul, 1) := by decide +kernel
theorem dX11_choices_20 : decode cX11_choices 20 = .ok (.iload 4, 2) := by decide +kernel
theorem dX11_choices_22 : decode cX11_choices 22 = .ok (.i2l, 1) := by decide +kernel
theorem dX11_choices_23 : decode cX11_choices 23 = .ok (.ldiv, 1) := by decide +kernel
theorem dX11_choices_24 : decode cX11_choices 24 = .ok (.lstore_n 2, 1) := by decide +kernel
theorem dX11_choices_25 : decode cX11_choices 25 = .ok (.iinc 4 1, 3) := by decide +kernel
theorem dX11_choices_28 : decode cX11_choices 28 = .ok (.goto (-23), 3) := by decide +kernel
theorem dX11_choices_31 : decode cX11_choices 31 = .ok (.lload_n 2, 1) := by decide +kernel
theorem dX11_choices_32 : decode cX11_choices 32 = .ok (.lreturn, 1) := by decide +kernel
theorem dX11_placeStatus_0 : decode cX11_placeStatus 0 = .ok (.aload_n 0, 1) := by decide +kernel
theorem dX11_placeStatus_1 : decode cX11_placeStatus 1 = .ok (.getfield 49, 3) := by decide +kernel
theorem dX11_placeStatus_4 : decode cX11_placeStatus 4 = .ok (.iload_n 1, 1) := by decide +kernel
theorem dX11_placeStatus_5 : decode cX11_placeStatus 5 = .ok (.invokevirtual 92, 3) := by decide +kernel
theorem dX11_placeStatus_8 : decode cX11_placeStatus 8 = .ok (.ifCond .ne 5, 3) := by decide +kernel
theorem dX11_placeStatus_11 : decode cX11_placeStatus 11 = .ok (.iconst 1, 1) := by decide +kernel
theorem dX11_placeStatus_12 : decode cX11_placeStatus 12 = .ok (.ireturn, 1) := by decide +kernel
theorem dX11_placeStatus_13 : decode cX11_placeStatus 13 = .ok (.aload_n 0, 1) := by decide +kernel
theorem dX11_placeStatus_14 : decode cX11_placeStatus 14 = .ok (.getfield 49, 3) := by decide +kernel
theorem dX11_placeStatus_17 : decode cX11_placeStatus 17 = .ok (.iload_n 1, 1) := by decide +kernel
theorem dX11_placeStatus_18 : decode cX11_placeStatus 18 = .ok (.invokevirtual 127, 3) := by decide +kernel
theorem dX11_placeStatus_21 : decode cX11_placeStatus 21 = .ok (.ifCond .eq 5, 3) := by decide +kernel
theorem dX11_placeStatus_24 : decode cX11_placeStatus 24 = .ok (.iconst 2, 1) := by decide +kernel
theorem dX11_placeStatus_25 : decode cX11_placeStatus 25 = .ok (.ireturn, 1) := by decide +kernel
theorem dX11_placeStatus_26 : decode cX11_placeStatus 26 = .ok (.iload_n 2, 1) := by decide +kernel
theorem dX11_placeStatus_27 : decode cX11_placeStatus 27 = .ok (.ifCond .lt 16, 3) := by decide +kernel
theorem dX11_placeStatus_30 : decode cX11_placeStatus 30 = .ok (.aload_n 0, 1) := by decide +kernel
theorem dX11_placeStatus_31 : decode cX11_placeStatus 31 = .ok (.getfield 49, 3) := by decide +kernel
theorem dX11_placeStatus_34 : decode cX11_placeStatus 34 = .ok (.iload_n 1, 1) := by decide +kernel
theorem dX11_placeStatus_35 : decode cX11_placeStatus 35 = .ok (.iload_n 2, 1) := by decide +kernel
theorem dX11_placeStatus_36 : decode cX11_placeStatus 36 = .ok (.iconst 1, 1) := by decide +kernel
theorem dX11_placeStatus_37 : decode cX11_placeStatus 37 = .ok (.invokevirtual 133, 3) := by decide +kernel
theorem dX11_placeStatus_40 : decode cX11_placeStatus 40 = .ok (.ifCond .ne 7, 3) := by decide +kernel
theorem dX11_placeStatus_43 : decode cX11_placeStatus 43 = .ok (.iconst 3, 1) := by decide +kernel
theorem dX11_placeStatus_44 : decode cX11_placeStatus 44 = .ok (.goto 4, 3) := by decide +kernel
theorem dX11_placeStatus_47 : decode cX11_placeStatus 47 = .ok (.iconst 0, 1) := by decide +kernel
theorem dX11_placeStatus_48 : decode cX11_placeStatus 48 = .ok (.ireturn, 1) := by decide +kernel
theorem dX11_rangeStatus_0 : decode cX11_rangeStatus 0 = .ok (.aload_n 0, 1) := by decide +kernel
theorem dX11_rangeStatus_1 : decode cX11_rangeStatus 1 = .ok (.getfield 49, 3) := by decide +kernel
theorem dX11_rangeStatus_4 : decode cX11_rangeStatus 4 = .ok (.iload_n 1, 1) := by decide +kernel
theorem dX11_rangeStatus_5 : decode cX11_rangeStatus 5 = .ok (.invokevirtual 92, 3) := by decide +kernel
theorem dX11_rangeStatus_8 : decode cX11_rangeStatus 8 = .ok (.ifCond .ne 5, 3) := by decide +kernel
theorem dX11_rangeStatus_11 : decode cX11_rangeStatus 11 = .ok (.iconst 1, 1) := by decide +kernel
theorem dX11_rangeStatus_12 : decode cX11_rangeStatus 12 = .ok (.ireturn, 1) := by decide +kernel
theorem dX11_rangeStatus_13 : decode cX11_rangeStatus 13 = .ok (.aload_n 0, 1) := by decide +kernel
theorem dX11_rangeStatus_14 : decode cX11_rangeStatus 14 = .ok (.getfield 49, 3) := by decide +kernel
theorem dX11_rangeStatus_17 : decode cX11_rangeStatus 17 = .ok (.iload_n 1, 1) := by decide +kernel
theorem dX11_rangeStatus_18 : decode cX11_rangeStatus 18 = .ok (.invokevirtual 127, 3) := by decide +kernel
theorem dX11_rangeStatus_21 : decode cX11_rangeStatus 21 = .ok (.ifCond .eq 5, 3) := by decide +kernel
theorem dX11_rangeStatus_24 : decode cX11_rangeStatus 24 = .ok (.iconst 2, 1) := by decide +kernel
theorem dX11_rangeStatus_25 : decode cX11_rangeStatus 25 = .ok (.ireturn, 1) := by decide +kernel
theorem dX11_rangeStatus_26 : decode cX11_rangeStatus 26 = .ok (.aload_n 0, 1) := by decide +kernel
theorem dX11_rangeStatus_27 : decode cX11_rangeStatus 27 = .ok (.getfield 49, 3) := by decide +kernel
theorem dX11_rangeStatus_30 : decode cX11_rangeStatus 30 = .ok (.iload_n 1, 1) := by decide +kernel
theorem dX11_rangeStatus_31 : decode cX11_rangeStatus 31 = .ok (.iconst 0, 1) := by decide +kernel
theorem dX11_rangeStatus_32 : decode cX11_rangeStatus 32 = .ok (.iload_n 2, 1) := by decide +kernel
theorem dX11_rangeStatus_33 : decode cX11_rangeStatus 33 = .ok (.invokevirtual 133, 3) := by decide +kernel
theorem dX11_rangeStatus_36 : decode cX11_rangeStatus 36 = .ok (.ifCond .eq 7, 3) := by decide +kernel
theorem dX11_rangeStatus_39 : decode cX11_rangeStatus 39 = .ok (.iconst 0, 1) := by decide +kernel
theorem dX11_rangeStatus_40 : decode cX11_rangeStatus 40 = .ok (.goto 4, 3) := by decide +kernel
theorem dX11_rangeStatus_43 : decode cX11_rangeStatus 43 = .ok (.iconst 3, 1) := by decide +kernel
theorem dX11_rangeStatus_44 : decode cX11_rangeStatus 44 = .ok (.ireturn, 1) := by decide +kernel
theorem dX11_seenStatus_0 : decode cX11_seenStatus 0 = .ok (.aload_n 0, 1) := by decide +kernel
theorem dX11_seenStatus_1 : decode cX11_seenStatus 1 = .ok (.getfield 10, 3) := by decide +kernel
theorem dX11_seenStatus_4 : decode cX11_seenStatus 4 = .ok (.getfield 163, 3) := by decide +kernel
theorem dX11_seenStatus_7 : decode cX11_seenStatus 7 = .ok (.getfield 167, 3) := by decide +kernel
theorem dX11_seenStatus_10 : decode cX11_seenStatus 10 = .ok (.istore_n 2, 1) := by decide +kernel
theorem dX11_seenStatus_11 : decode cX11_seenStatus 11 = .ok (.aload_n 0, 1) := by decide +kernel
theorem dX11_seenStatus_12 : decode cX11_seenStatus 12 = .ok (.iload_n 1, 1) := by decide +kernel
theorem dX11_seenStatus_13 : decode cX11_seenStatus 13 = .ok (.iload_n 2, 1) := by decide +kernel
theorem dX11_seenStatus_14 : decode cX11_seenStatus 14 = .ok (.invokevirtual 382, 3) := by decide +kernel
theorem dX11_seenStatus_17 : decode cX11_seenStatus 17 = .ok (.istore_n 3, 1) := by decide +kernel
theorem dX11_seenStatus_18 : decode cX11_seenStatus 18 = .ok (.iload_n 3, 1) := by decide +kernel
theorem dX11_seenStatus_19 : decode cX11_seenStatus 19 = .ok (.ifCond .eq 5, 3) := by decide +kernel
theorem dX11_seenStatus_22 : decode cX11_seenStatus 22 = .ok (.iload_n 3, 1) := by decide +kernel
theorem dX11_seenStatus_23 : decode cX11_seenStatus 23 = .ok (.ireturn, 1) := by decide +kernel
theorem dX11_seenStatus_24 : decode cX11_seenStatus 24 = .ok (.iconst 0, 1) := by decide +kernel
theorem dX11_seenStatus_25 : decode cX11_seenStatus 25 = .ok (.istore 4, 2) := by decide +kernel
theorem dX11_seenStatus_27 : decode cX11_seenStatus 27 = .ok (.iload 4, 2) := by decide +kernel
theorem dX11_seenStatus_29 : decode cX11_seenStatus 29 = .ok (.iload_n 2, 1) := by decide +kernel
theorem dX11_seenStatus_30 : decode cX11_seenStatus 30 = .ok (.if_icmp .ge 27, 3) := by decide +kernel
theorem dX11_seenStatus_33 : decode cX11_seenStatus 33 = .ok (.aload_n 0, 1) := by decide +kernel
theorem dX11_seenStatus_34 : decode cX11_seenStatus 34 = .ok (.getfield 49, 3) := by decide +kernel
theorem dX11_seenStatus_37 : decode cX11_seenStatus 37 = .ok (.iload_n 1, 1) := by decide +kernel
theorem dX11_seenStatus_38 : decode cX11_seenStatus 38 = .ok (.iload 4, 2) := by decide +kernel
theorem dX11_seenStatus_40 : decode cX11_seenStatus 40 = .ok (.iconst 0, 1) := by decide +kernel
theorem dX11_seenStatus_41 : decode cX11_seenStatus 41 = .ok (.bipush 99, 2) := by decide +kernel
theorem dX11_seenStatus_43 : decode cX11_seenStatus 43 = .ok (.invokevirtual 401, 3) := by decide +kernel
theorem dX11_seenStatus_46 : decode cX11_seenStatus 46 = .ok (.ifCond .ne 5, 3) := by decide +kernel
theorem dX11_seenStatus_49 : decode cX11_seenStatus 49 = .ok (.iconst 5, 1) := by decide +kernel
theorem dX11_seenStatus_50 : decode cX11_seenStatus 50 = .ok (.ireturn, 1) := by decide +kernel
theorem dX11_seenStatus_51 : decode cX11_seenStatus 51 = .ok (.iinc 4 1, 3) := by decide +kernel
theorem dX11_seenStatus_54 : decode cX11_seenStatus 54 = .ok (.goto (-27), 3) := by decide +kernel
theorem dX11_seenStatus_57 : decode cX11_seenStatus 57 = .ok (.iconst 0, 1) := by decide +kernel
theorem dX11_seenStatus_58 : decode cX11_seenStatus 58 = .ok (.ireturn, 1) := by decide +kernel
theorem dX11_explains_0 : decode cX11_explains 0 = .ok (.iconst 0, 1) := by decide +kernel
theorem dX11_explains_1 : decode cX11_explains 1 = .ok (.istore_n 3, 1) := by decide +kernel
theorem dX11_explains_2 : decode cX11_explains 2 = .ok (.iload_n 3, 1) := by decide +kernel
theorem dX11_explains_3 : decode cX11_explains 3 = .ok (.aload_n 0, 1) := by decide +kernel
theorem dX11_explains_4 : decode cX11_explains 4 = .ok (.getfield 10, 3) := by decide +kernel
theorem dX11_explains_7 : decode cX11_explains 7 = .ok (.getfield 163, 3) := by decide +kernel
theorem dX11_explains_10 : decode cX11_explains 10 = .ok (.getfield 167, 3) := by decide +kernel
theorem dX11_explains_13 : decode cX11_explains 13 = .ok (.if_icmp .ge 50, 3) := by decide +kernel
theorem dX11_explains_16 : decode cX11_explains 16 = .ok (.iload_n 1, 1) := by decide +kernel
theorem dX11_explains_17 : decode cX11_explains 17 = .ok (.aload_n 0, 1) := by decide +kernel
theorem dX11_explains_18 : decode cX11_explains 18 = .ok (.getfield 10, 3) := by decide +kernel
theorem dX11_explains_21 : decode cX11_explains 21 = .ok (.getfield 213, 3) := by decide +kernel
theorem dX11_explains_24 : decode cX11_explains 24 = .ok (.iconst 0, 1) := by decide +kernel
theorem dX11_explains_25 : decode cX11_explains 25 = .ok (.iload_n 3, 1) := by decide +kernel
theorem dX11_explains_26 : decode cX11_explains 26 = .ok (.invokevirtual 404, 3) := by decide +kernel
theorem dX11_explains_29 : decode cX11_explains 29 = .ok (.iand, 1) := by decide +kernel
theorem dX11_explains_30 : decode cX11_explains 30 = .ok (.istore 4, 2) := by decide +kernel
theorem dX11_explains_32 : decode cX11_explains 32 = .ok (.aload_n 0, 1) := by decide +kernel
theorem dX11_explains_33 : decode cX11_explains 33 = .ok (.getfield 10, 3) := by decide +kernel
theorem dX11_explains_36 : decode cX11_explains 36 = .ok (.iload 4, 2) := by decide +kernel
theorem dX11_explains_38 : decode cX11_explains 38 = .ok (.invokevirtual 407, 3) := by decide +kernel
theorem dX11_explains_41 : decode cX11_explains 41 = .ok (.i2l, 1) := by decide +kernel
theorem dX11_explains_42 : decode cX11_explains 42 = .ok (.aload_n 0, 1) := by decide +kernel
theorem dX11_explains_43 : decode cX11_explains 43 = .ok (.getfield 49, 3) := by decide +kernel
theorem dX11_explains_46 : decode cX11_explains 46 = .ok (.iload_n 2, 1) := by decide +kernel
theorem dX11_explains_47 : decode cX11_explains 47 = .ok (.iload_n 3, 1) := by decide +kernel
theorem dX11_explains_48 : decode cX11_explains 48 = .ok (.invokevirtual 123, 3) := by decide +kernel
theorem dX11_explains_51 : decode cX11_explains 51 = .ok (.lcmp, 1) := by decide +kernel
theorem dX11_explains_52 : decode cX11_explains 52 = .ok (.ifCond .eq 5, 3) := by decide +kernel
theorem dX11_explains_55 : decode cX11_explains 55 = .ok (.iconst 0, 1) := by decide +kernel
theorem dX11_explains_56 : decode cX11_explains 56 = .ok (.ireturn, 1) := by decide +kernel
theorem dX11_explains_57 : decode cX11_explains 57 = .ok (.iinc 3 1, 3) := by decide +kernel
theorem dX11_explains_60 : decode cX11_explains 60 = .ok (.goto (-58), 3) := by decide +kernel
theorem dX11_explains_63 : decode cX11_explains 63 = .ok (.iconst 1, 1) := by decide +kernel
theorem dX11_explains_64 : decode cX11_explains 64 = .ok (.ireturn, 1) := by decide +kernel
theorem dX11_lawStatus_0 : decode cX11_lawStatus 0 = .ok (.iload_n 2, 1) := by decide +kernel
theorem dX11_lawStatus_1 : decode cX11_lawStatus 1 = .ok (.iconst 0, 1) := by decide +kernel
theorem dX11_lawStatus_2 : decode cX11_lawStatus 2 = .ok (.bipush 20, 2) := by decide +kernel
theorem dX11_lawStatus_4 : decode cX11_lawStatus 4 = .ok (.invokestatic 96, 3) := by decide +kernel
theorem dX11_lawStatus_7 : decode cX11_lawStatus 7 = .ok (.ifCond .ne 5, 3) := by decide +kernel
theorem dX11_lawStatus_10 : decode cX11_lawStatus 10 = .ok (.iconst 1, 1) := by decide +kernel
theorem dX11_lawStatus_11 : decode cX11_lawStatus 11 = .ok (.ireturn, 1) := by decide +kernel
theorem dX11_lawStatus_12 : decode cX11_lawStatus 12 = .ok (.aload_n 0, 1) := by decide +kernel
theorem dX11_lawStatus_13 : decode cX11_lawStatus 13 = .ok (.iload_n 1, 1) := by decide +kernel
theorem dX11_lawStatus_14 : decode cX11_lawStatus 14 = .ok (.iconst 3, 1) := by decide +kernel
theorem dX11_lawStatus_15 : decode cX11_lawStatus 15 = .ok (.iload_n 2, 1) := by decide +kernel
theorem dX11_lawStatus_16 : decode cX11_lawStatus 16 = .ok (.imul, 1) := by decide +kernel
theorem dX11_lawStatus_17 : decode cX11_lawStatus 17 = .ok (.invokevirtual 382, 3) := by decide +kernel
theorem dX11_lawStatus_20 : decode cX11_lawStatus 20 = .ok (.istore_n 3, 1) := by decide +kernel
theorem dX11_lawStatus_21 : decode cX11_lawStatus 21 = .ok (.iload_n 3, 1) := by decide +kernel
theorem dX11_lawStatus_22 : decode cX11_lawStatus 22 = .ok (.ifCond .eq 5, 3) := by decide +kernel
theorem dX11_lawStatus_25 : decode cX11_lawStatus 25 = .ok (.iload_n 3, 1) := by decide +kernel
theorem dX11_lawStatus_26 : decode cX11_lawStatus 26 = .ok (.ireturn, 1) := by decide +kernel
theorem dX11_lawStatus_27 : decode cX11_lawStatus 27 = .ok (.iconst 0, 1) := by decide +kernel
theorem dX11_lawStatus_28 : decode cX11_lawStatus 28 = .ok (.istore 4, 2) := by decide +kernel
theorem dX11_lawStatus_30 : decode cX11_lawStatus 30 = .ok (.iload 4, 2) := by decide +kernel
theorem dX11_lawStatus_32 : decode cX11_lawStatus 32 = .ok (.iload_n 2, 1) := by decide +kernel
theorem dX11_lawStatus_33 : decode cX11_lawStatus 33 = .ok (.if_icmp .ge 67, 3) := by decide +kernel
theorem dX11_lawStatus_36 : decode cX11_lawStatus 36 = .ok (.aload_n 0, 1) := by decide +kernel
theorem dX11_lawStatus_37 : decode cX11_lawStatus 37 = .ok (.getfield 49, 3) := by decide +kernel
theorem dX11_lawStatus_40 : decode cX11_lawStatus 40 = .ok (.iload_n 1, 1) := by decide +kernel
theorem dX11_lawStatus_41 : decode cX11_lawStatus 41 = .ok (.iconst 3, 1) := by decide +kernel
theorem dX11_lawStatus_42 : decode cX11_lawStatus 42 = .ok (.iload 4, 2) := by decide +kernel
theorem dX11_lawStatus_44 : decode cX11_lawStatus 44 = .ok (.imul, 1) := by decide +kernel
theorem dX11_lawStatus_45 : decode cX11_lawStatus 45 = .ok (.iconst 1, 1) := by decide +kernel
theorem dX11_lawStatus_46 : decode cX11_lawStatus 46 = .ok (.iconst 4, 1) := by decide +kernel
theorem dX11_lawStatus_47 : decode cX11_lawStatus 47 = .ok (.invokevirtual 401, 3) := by decide +kernel
theorem dX11_lawStatus_50 : decode cX11_lawStatus 50 = .ok (.ifCond .eq 42, 3) := by decide +kernel
theorem dX11_lawStatus_53 : decode cX11_lawStatus 53 = .ok (.aload_n 0, 1) := by decide +kernel
theorem dX11_lawStatus_54 : decode cX11_lawStatus 54 = .ok (.getfield 49, 3) := by decide +kernel
theorem dX11_lawStatus_57 : decode cX11_lawStatus 57 = .ok (.iload_n 1, 1) := by decide +kernel
theorem dX11_lawStatus_58 : decode cX11_lawStatus 58 = .ok (.iconst 3, 1) := by decide +kernel
theorem dX11_lawStatus_59 : decode cX11_lawStatus 59 = .ok (.iload 4, 2) := by decide +kernel
theorem dX11_lawStatus_61 : decode cX11_lawStatus 61 = .ok (.imul, 1) := by decide +kernel
theorem dX11_lawStatus_62 : decode cX11_lawStatus 62 = .ok (.iconst 1, 1) := by decide +kernel
theorem dX11_lawStatus_63 : decode cX11_lawStatus 63 = .ok (.iadd, 1) := by decide +kernel
theorem dX11_lawStatus_64 : decode cX11_lawStatus 64 = .ok (.iconst 0, 1) := by decide +kernel
theorem dX11_lawStatus_65 : decode cX11_lawStatus 65 = .ok (.bipush 99, 2) := by decide +kernel
theorem dX11_lawStatus_67 : decode cX11_lawStatus 67 = .ok (.invokevirtual 401, 3) := by decide +kernel
theorem dX11_lawStatus_70 : decode cX11_lawStatus 70 = .ok (.ifCond .eq 22, 3) := by decide +kernel
theorem dX11_lawStatus_73 : decode cX11_lawStatus 73 = .ok (.aload_n 0, 1) := by decide +kernel
theorem dX11_lawStatus_74 : decode cX11_lawStatus 74 = .ok (.getfield 49, 3) := by decide +kernel
theorem dX11_lawStatus_77 : decode cX11_lawStatus 77 = .ok (.iload_n 1, 1) := by decide +kernel
theorem dX11_lawStatus_78 : decode cX11_lawStatus 78 = .ok (.iconst 3, 1) := by decide +kernel
theorem dX11_lawStatus_79 : decode cX11_lawStatus 79 = .ok (.iload 4, 2) := by decide +kernel
theorem dX11_lawStatus_81 : decode cX11_lawStatus 81 = .ok (.imul, 1) := by decide +kernel
theorem dX11_lawStatus_82 : decode cX11_lawStatus 82 = .ok (.iconst 2, 1) := by decide +kernel
theorem dX11_lawStatus_83 : decode cX11_lawStatus 83 = .ok (.iadd, 1) := by decide +kernel
theorem dX11_lawStatus_84 : decode cX11_lawStatus 84 = .ok (.iconst 0, 1) := by decide +kernel
theorem dX11_lawStatus_85 : decode cX11_lawStatus 85 = .ok (.iconst 1, 1) := by decide +kernel
theorem dX11_lawStatus_86 : decode cX11_lawStatus 86 = .ok (.invokevirtual 401, 3) := by decide +kernel
theorem dX11_lawStatus_89 : decode cX11_lawStatus 89 = .ok (.ifCond .ne 5, 3) := by decide +kernel
theorem dX11_lawStatus_92 : decode cX11_lawStatus 92 = .ok (.iconst 5, 1) := by decide +kernel
theorem dX11_lawStatus_93 : decode cX11_lawStatus 93 = .ok (.ireturn, 1) := by decide +kernel
theorem dX11_lawStatus_94 : decode cX11_lawStatus 94 = .ok (.iinc 4 1, 3) := by decide +kernel
theorem dX11_lawStatus_97 : decode cX11_lawStatus 97 = .ok (.goto (-67), 3) := by decide +kernel
theorem dX11_lawStatus_100 : decode cX11_lawStatus 100 = .ok (.iconst 0, 1) := by decide +kernel
theorem dX11_lawStatus_101 : decode cX11_lawStatus 101 = .ok (.ireturn, 1) := by decide +kernel
theorem dX11_fits_0 : decode cX11_fits 0 = .ok (.iconst 0, 1) := by decide +kernel
theorem dX11_fits_1 : decode cX11_fits 1 = .ok (.istore 5, 2) := by decide +kernel
theorem dX11_fits_3 : decode cX11_fits 3 = .ok (.iload 5, 2) := by decide +kernel
theorem dX11_fits_5 : decode cX11_fits 5 = .ok (.iload 4, 2) := by decide +kernel
theorem dX11_fits_7 : decode cX11_fits 7 = .ok (.if_icmp .ge 87, 3) := by decide +kernel
theorem dX11_fits_10 : decode cX11_fits 10 = .ok (.aload_n 0, 1) := by decide +kernel
theorem dX11_fits_11 : decode cX11_fits 11 = .ok (.getfield 49, 3) := by decide +kernel
theorem dX11_fits_14 : decode cX11_fits 14 = .ok (.iload_n 3, 1) := by decide +kernel
theorem dX11_fits_15 : decode cX11_fits 15 = .ok (.iconst 3, 1) := by decide +kernel
theorem dX11_fits_16 : decode cX11_fits 16 = .ok (.iload 5, 2) := by decide +kernel
theorem dX11_fits_18 : decode cX11_fits 18 = .ok (.imul, 1) := by decide +kernel
theorem dX11_fits_19 : decode cX11_fits 19 = .ok (.invokevirtual 123, 3) := by decide +kernel
theorem dX11_fits_22 : decode cX11_fits 22 = .ok (.iload_n 1, 1) := by decide +kernel
theorem dX11_fits_23 : decode cX11_fits 23 = .ok (.i2l, 1) := by decide +kernel
theorem dX11_fits_24 : decode cX11_fits 24 = .ok (.lmul, 1) := by decide +kernel
theorem dX11_fits_25 : decode cX11_fits 25 = .ok (.lstore 6, 2) := by decide +kernel
theorem dX11_fits_27 : decode cX11_fits 27 = .ok (.aload_n 0, 1) := by decide +kernel
theorem dX11_fits_28 : decode cX11_fits 28 = .ok (.getfield 49, 3) := by decide +kernel
theorem dX11_fits_31 : decode cX11_fits 31 = .ok (.iload_n 3, 1) := by decide +kernel
theorem dX11_fits_32 : decode cX11_fits 32 = .ok (.iconst 3, 1) := by decide +kernel
theorem dX11_fits_33 : decode cX11_fits 33 = .ok (.iload 5, 2) := by decide +kernel
theorem dX11_fits_35 : decode cX11_fits 35 = .ok (.imul, 1) := by decide +kernel
theorem dX11_fits_36 : decode cX11_fits 36 = .ok (.iconst 1, 1) := by decide +kernel
theorem dX11_fits_37 : decode cX11_fits 37 = .ok (.iadd, 1) := by decide +kernel
theorem dX11_fits_38 : decode cX11_fits 38 = .ok (.invokevirtual 123, 3) := by decide +kernel
theorem dX11_fits_41 : decode cX11_fits 41 = .ok (.iload_n 2, 1) := by decide +kernel
theorem dX11_fits_42 : decode cX11_fits 42 = .ok (.i2l, 1) := by decide +kernel
theorem dX11_fits_43 : decode cX11_fits 43 = .ok (.lmul, 1) := by decide +kernel
theorem dX11_fits_44 : decode cX11_fits 44 = .ok (.lload 6, 2) := by decide +kernel
theorem dX11_fits_46 : decode cX11_fits 46 = .ok (.lcmp, 1) := by decide +kernel
theorem dX11_fits_47 : decode cX11_fits 47 = .ok (.ifCond .lt 7, 3) := by decide +kernel
theorem dX11_fits_50 : decode cX11_fits 50 = .ok (.iconst 1, 1) := by decide +kernel
theorem dX11_fits_51 : decode cX11_fits 51 = .ok (.goto 4, 3) := by decide +kernel
theorem dX11_fits_54 : decode cX11_fits 54 = .ok (.iconst 0, 1) := by decide +kernel
theorem dX11_fits_55 : decode cX11_fits 55 = .ok (.istore 8, 2) := by decide +kernel
theorem dX11_fits_57 : decode cX11_fits 57 = .ok (.iload 8, 2) := by decide +kernel
theorem dX11_fits_59 : decode cX11_fits 59 = .ok (.aload_n 0, 1) := by decide +kernel
theorem dX11_fits_60 : decode cX11_fits 60 = .ok (.getfield 49, 3) := by decide +kernel
theorem dX11_fits_63 : decode cX11_fits 63 = .ok (.iload_n 3, 1) := by decide +kernel
theorem dX11_fits_64 : decode cX11_fits 64 = .ok (.iconst 3, 1) := by decide +kernel
theorem dX11_fits_65 : decode cX11_fits 65 = .ok (.iload 5, 2) := by decide +kernel
theorem dX11_fits_67 : decode cX11_fits 67 = .ok (.imul, 1) := by decide +kernel
theorem dX11_fits_68 : decode cX11_fits 68 = .ok (.iconst 2, 1) := by decide +kernel
theorem dX11_fits_69 : decode cX11_fits 69 = .ok (.iadd, 1) := by decide +kernel
theorem dX11_fits_70 : decode cX11_fits 70 = .ok (.invokevirtual 123, 3) := by decide +kernel
theorem dX11_fits_73 : decode cX11_fits 73 = .ok (.lconst 1, 1) := by decide +kernel
theorem dX11_fits_74 : decode cX11_fits 74 = .ok (.lcmp, 1) := by decide +kernel
theorem dX11_fits_75 : decode cX11_fits 75 = .ok (.ifCond .ne 7, 3) := by decide +kernel
theorem dX11_fits_78 : decode cX11_fits 78 = .ok (.iconst 1, 1) := by decide +kernel
theorem dX11_fits_79 : decode cX11_fits 79 = .ok (.goto 4, 3) := by decide +kernel
theorem dX11_fits_82 : decode cX11_fits 82 = .ok (.iconst 0, 1) := by decide +kernel
theorem dX11_fits_83 : decode cX11_fits 83 = .ok (.if_icmp .eq 5, 3) := by decide +kernel
theorem dX11_fits_86 : decode cX11_fits 86 = .ok (.iconst 0, 1) := by decide +kernel
theorem dX11_fits_87 : decode cX11_fits 87 = .ok (.ireturn, 1) := by decide +kernel
theorem dX11_fits_88 : decode cX11_fits 88 = .ok (.iinc 5 1, 3) := by decide +kernel
theorem dX11_fits_91 : decode cX11_fits 91 = .ok (.goto (-88), 3) := by decide +kernel
theorem dX11_fits_94 : decode cX11_fits 94 = .ok (.iconst 1, 1) := by decide +kernel
theorem dX11_fits_95 : decode cX11_fits 95 = .ok (.ireturn, 1) := by decide +kernel
theorem dX12_init_0 : decode cX12_init 0 = .ok (.aload_n 0, 1) := by decide +kernel
theorem dX12_init_1 : decode cX12_init 1 = .ok (.invokespecial 1, 3) := by decide +kernel
theorem dX12_init_4 : decode cX12_init 4 = .ok (.aload_n 0, 1) := by decide +kernel
theorem dX12_init_5 : decode cX12_init 5 = .ok (.sipush 3097, 3) := by decide +kernel
theorem dX12_init_8 : decode cX12_init 8 = .ok (.newarray .int, 2) := by decide +kernel
theorem dX12_init_10 : decode cX12_init 10 = .ok (.putfield 7, 3) := by decide +kernel
theorem dX12_init_13 : decode cX12_init 13 = .ok (.aload_n 0, 1) := by decide +kernel
theorem dX12_init_14 : decode cX12_init 14 = .ok (.sipush 162, 3) := by decide +kernel
theorem dX12_init_17 : decode cX12_init 17 = .ok (.newarray .long, 2) := by decide +kernel
theorem dX12_init_19 : decode cX12_init 19 = .ok (.putfield 13, 3) := by decide +kernel
theorem dX12_init_22 : decode cX12_init 22 = .ok (.aload_n 0, 1) := by decide +kernel
theorem dX12_init_23 : decode cX12_init 23 = .ok (.lconst 1, 1) := by decide +kernel
theorem dX12_init_24 : decode cX12_init 24 = .ok (.putfield 17, 3) := by decide +kernel
theorem dX12_init_27 : decode cX12_init 27 = .ok (.aload_n 0, 1) := by decide +kernel
theorem dX12_init_28 : decode cX12_init 28 = .ok (.iconst 4, 1) := by decide +kernel
theorem dX12_init_29 : decode cX12_init 29 = .ok (.newarray .int, 2) := by decide +kernel
theorem dX12_init_31 : decode cX12_init 31 = .ok (.putfield 21, 3) := by decide +kernel
theorem dX12_init_34 : decode cX12_init 34 = .ok (.aload_n 0, 1) := by decide +kernel
theorem dX12_init_35 : decode cX12_init 35 = .ok (.iconst 4, 1) := by decide +kernel
theorem dX12_init_36 : decode cX12_init 36 = .ok (.newarray .int, 2) := by decide +kernel
theorem dX12_init_38 : decode cX12_init 38 = .ok (.dup, 1) := by decide +kernel
theorem dX12_init_39 : decode cX12_init 39 = .ok (.iconst 0, 1) := by decide +kernel
theorem dX12_init_40 : decode cX12_init 40 = .ok (.iconst (-1), 1) := by decide +kernel
theorem dX12_init_41 : decode cX12_init 41 = .ok (.iastore, 1) := by decide +kernel
theorem dX12_init_42 : decode cX12_init 42 = .ok (.dup, 1) := by decide +kernel
theorem dX12_init_43 : decode cX12_init 43 = .ok (.iconst 1, 1) := by decide +kernel
theorem dX12_init_44 : decode cX12_init 44 = .ok (.iconst (-1), 1) := by decide +kernel
theorem dX12_init_45 : decode cX12_init 45 = .ok (.iastore, 1) := by decide +kernel
theorem dX12_init_46 : decode cX12_init 46 = .ok (.dup, 1) := by decide +kernel
theorem dX12_init_47 : decode cX12_init 47 = .ok (.iconst 2, 1) := by decide +kernel
theorem dX12_init_48 : decode cX12_init 48 = .ok (.iconst (-1), 1) := by decide +kernel
theorem dX12_init_49 : decode cX12_init 49 = .ok (.iastore, 1) := by decide +kernel
theorem dX12_init_50 : decode cX12_init 50 = .ok (.dup, 1) := by decide +kernel
theorem dX12_init_51 : decode cX12_init 51 = .ok (.iconst 3, 1) := by decide +kernel
theorem dX12_init_52 : decode cX12_init 52 = .ok (.iconst (-1), 1) := by decide +kernel
theorem dX12_init_53 : decode cX12_init 53 = .ok (.iastore, 1) := by decide +kernel
theorem dX12_init_54 : decode cX12_init 54 = .ok (.putfield 24, 3) := by decide +kernel
theorem dX12_init_57 : decode cX12_init 57 = .ok (.aload_n 0, 1) := by decide +kernel
theorem dX12_init_58 : decode cX12_init 58 = .ok (.sipush 240, 3) := by decide +kernel
theorem dX12_init_61 : decode cX12_init 61 = .ok (.newarray .long, 2) := by decide +kernel
theorem dX12_init_63 : decode cX12_init 63 = .ok (.putfield 27, 3) := by decide +kernel
theorem dX12_init_66 : decode cX12_init 66 = .ok (.aload_n 0, 1) := by decide +kernel
theorem dX12_init_67 : decode cX12_init 67 = .ok (.sipush 900, 3) := by decide +kernel
theorem dX12_init_70 : decode cX12_init 70 = .ok (.newarray .byte, 2) := by decide +kernel
theorem dX12_init_72 : decode cX12_init 72 = .ok (.putfield 30, 3) := by decide +kernel
theorem dX12_init_75 : decode cX12_init 75 = .ok (.aload_n 0, 1) := by decide +kernel
theorem dX12_init_76 : decode cX12_init 76 = .ok (.sipush 900, 3) := by decide +kernel
theorem dX12_init_79 : decode cX12_init 79 = .ok (.newarray .byte, 2) := by decide +kernel
theorem dX12_init_81 : decode cX12_init 81 = .ok (.putfield 34, 3) := by decide +kernel
theorem dX12_init_84 : decode cX12_init 84 = .ok (.aload_n 0, 1) := by decide +kernel
theorem dX12_init_85 : decode cX12_init 85 = .ok (.iconst (-1), 1) := by decide +kernel
theorem dX12_init_86 : decode cX12_init 86 = .ok (.putfield 37, 3) := by decide +kernel
theorem dX12_init_89 : decode cX12_init 89 = .ok (.aload_n 0, 1) := by decide +kernel
theorem dX12_init_90 : decode cX12_init 90 = .ok (.iconst (-1), 1) := by decide +kernel
theorem dX12_init_91 : decode cX12_init 91 = .ok (.putfield 41, 3) := by decide +kernel
theorem dX12_init_94 : decode cX12_init 94 = .ok (.aload_n 0, 1) := by decide +kernel
theorem dX12_init_95 : decode cX12_init 95 = .ok (.iconst 3, 1) := by decide +kernel
theorem dX12_init_96 : decode cX12_init 96 = .ok (.newarray .int, 2) := by decide +kernel
theorem dX12_init_98 : decode cX12_init 98 = .ok (.putfield 44, 3) := by decide +kernel
theorem dX12_init_101 : decode cX12_init 101 = .ok (.aload_n 0, 1) := by decide +kernel
theorem dX12_init_102 : decode cX12_init 102 = .ok (.bipush 64, 2) := by decide +kernel
theorem dX12_init_104 : decode cX12_init 104 = .ok (.newarray .int, 2) := by decide +kernel
theorem dX12_init_106 : decode cX12_init 106 = .ok (.putfield 47, 3) := by decide +kernel
theorem dX12_init_109 : decode cX12_init 109 = .ok (.aload_n 0, 1) := by decide +kernel
theorem dX12_init_110 : decode cX12_init 110 = .ok (.sipush 1792, 3) := by decide +kernel
theorem dX12_init_113 : decode cX12_init 113 = .ok (.newarray .boolean, 2) := by decide +kernel
theorem dX12_init_115 : decode cX12_init 115 = .ok (.putfield 50, 3) := by decide +kernel
theorem dX12_init_118 : decode cX12_init 118 = .ok (.aload_n 0, 1) := by decide +kernel
theorem dX12_init_119 : decode cX12_init 119 = .ok (.sipush 256, 3) := by decide +kernel
theorem dX12_init_122 : decode cX12_init 122 = .ok (.newarray .boolean, 2) := by decide +kernel
theorem dX12_init_124 : decode cX12_init 124 = .ok (.putfield 54, 3) := by decide +kernel
theorem dX12_init_127 : decode cX12_init 127 = .ok (.aload_n 0, 1) := by decide +kernel
theorem dX12_init_128 : decode cX12_init 128 = .ok (.sipush 2048, 3) := by decide +kernel
theorem dX12_init_131 : decode cX12_init 131 = .ok (.newarray .int, 2) := by decide +kernel
theorem dX12_init_133 : decode cX12_init 133 = .ok (.putfield 57, 3) := by decide +kernel
theorem dX12_init_136 : decode cX12_init 136 = .ok (.aload_n 0, 1) := by decide +kernel
theorem dX12_init_137 : decode cX12_init 137 = .ok (.sipush 2048, 3) := by decide +kernel
theorem dX12_init_140 : decode cX12_init 140 = .ok (.newarray .int, 2) := by decide +kernel
theorem dX12_init_142 : decode cX12_init 142 = .ok (.putfield 60, 3) := by decide +kernel
theorem dX12_init_145 : decode cX12_init 145 = .ok (.aload_n 0, 1) := by decide +kernel
theorem dX12_init_146 : decode cX12_init 146 = .ok (.bipush 8, 2) := by decide +kernel
theorem dX12_init_148 : decode cX12_init 148 = .ok (.newarray .long, 2) := by decide +kernel
theorem dX12_init_150 : decode cX12_init 150 = .ok (.putfield 63, 3) := by decide +kernel
theorem dX12_init_153 : decode cX12_init 153 = .ok (.aload_n 0, 1) := by decide +kernel
theorem dX12_init_154 : decode cX12_init 154 = .ok (.bipush 80, 2) := by decide +kernel
theorem dX12_init_156 : decode cX12_init 156 = .ok (.newarray .int, 2) := by decide +kernel
theorem dX12_init_158 : decode cX12_init 158 = .ok (.putfield 66, 3) := by decide +kernel
theorem dX12_init_161 : decode cX12_init 161 = .ok (.aload_n 0, 1) := by decide +kernel
theorem dX12_init_162 : decode cX12_init 162 = .ok (.iconst 5, 1) := by decide +kernel
theorem dX12_init_163 : decode cX12_init 163 = .ok (.newarray .int, 2) := by decide +kernel
theorem dX12_init_165 : decode cX12_init 165 = .ok (.putfield 69, 3) := by decide +kernel
theorem dX12_init_168 : decode cX12_init 168 = .ok (.aload_n 0, 1) := by decide +kernel
theorem dX12_init_169 : decode cX12_init 169 = .ok (.iconst 5, 1) := by decide +kernel
theorem dX12_init_170 : decode cX12_init 170 = .ok (.newarray .int, 2) := by decide +kernel
theorem dX12_init_172 : decode cX12_init 172 = .ok (.putfield 72, 3) := by decide +kernel
theorem dX12_init_175 : decode cX12_init 175 = .ok (.aload_n 0, 1) := by decide +kernel
theorem dX12_init_176 : decode cX12_init 176 = .ok (.iconst 0, 1) := by decide +kernel
theorem dX12_init_177 : decode cX12_init 177 = .ok (.invokevirtual 75, 3) := by decide +kernel
theorem dX12_init_180 : decode cX12_init 180 = .ok (.return_, 1) := by decide +kernel
theorem dX12_plain_0 : decode cX12_plain 0 = .ok (.iconst 0, 1) := by decide +kernel
theorem dX12_plain_1 : decode cX12_plain 1 = .ok (.istore_n 2, 1) := by decide +kernel
theorem dX12_plain_2 : decode cX12_plain 2 = .ok (.iload_n 2, 1) := by decide +kernel
theorem dX12_plain_3 : decode cX12_plain 3 = .ok (.sipush 495, 3) := by decide +kernel
theorem dX12_plain_6 : decode cX12_plain 6 = .ok (.if_icmp .ge 18, 3) := by decide +kernel
theorem dX12_plain_9 : decode cX12_plain 9 = .ok (.aload_n 0, 1) := by decide +kernel
theorem dX12_plain_10 : decode cX12_plain 10 = .ok (.getfield 7, 3) := by decide +kernel
theorem dX12_plain_13 : decode cX12_plain 13 = .ok (.iload_n 1, 1) := by decide +kernel
theorem dX12_plain_14 : decode cX12_plain 14 = .ok (.iload_n 2, 1) := by decide +kernel
theorem dX12_plain_15 : decode cX12_plain 15 = .ok (.iadd, 1) := by decide +kernel
theorem dX12_plain_16 : decode cX12_plain 16 = .ok (.iconst 0, 1) := by decide +kernel
theorem dX12_plain_17 : decode cX12_plain 17 = .ok (.iastore, 1) := by decide +kernel
theorem dX12_plain_18 : decode cX12_plain 18 = .ok (.iinc 2 1, 3) := by decide +kernel
theorem dX12_plain_21 : decode cX12_plain 21 = .ok (.goto (-19), 3) := by decide +kernel
theorem dX12_plain_24 : decode cX12_plain 24 = .ok (.aload_n 0, 1) := by decide +kernel
theorem dX12_plain_25 : decode cX12_plain 25 = .ok (.getfield 7, 3) := by decide +kernel
theorem dX12_plain_28 : decode cX12_plain 28 = .ok (.iload_n 1, 1) := by decide +kernel
theorem dX12_plain_29 : decode cX12_plain 29 = .ok (.iconst 5, 1) := by decide +kernel
theorem dX12_plain_30 : decode cX12_plain 30 = .ok (.iadd, 1) := by decide +kernel
theorem dX12_plain_31 : decode cX12_plain 31 = .ok (.iconst 1, 1) := by decide +kernel
theorem dX12_plain_32 : decode cX12_plain 32 = .ok (.iastore, 1) := by decide +kernel
theorem dX12_plain_33 : decode cX12_plain 33 = .ok (.aload_n 0, 1) := by decide +kernel
theorem dX12_plain_34 : decode cX12_plain 34 = .ok (.getfield 7, 3) := by decide +kernel
theorem dX12_plain_37 : decode cX12_plain 37 = .ok (.iload_n 1, 1) := by decide +kernel
theorem dX12_plain_38 : decode cX12_plain 38 = .ok (.bipush 6, 2) := by decide +kernel
theorem dX12_plain_40 : decode cX12_plain 40 = .ok (.iadd, 1) := by decide +kernel
theorem dX12_plain_41 : decode cX12_plain 41 = .ok (.iconst 2, 1) := by decide +kernel
theorem dX12_plain_42 : decode cX12_plain 42 = .ok (.iastore, 1) := by decide +kernel
theorem dX12_plain_43 : decode cX12_plain 43 = .ok (.aload_n 0, 1) := by decide +kernel
theorem dX12_plain_44 : decode cX12_plain 44 = .ok (.getfield 7, 3) := by decide +kernel
theorem dX12_plain_47 : decode cX12_plain 47 = .ok (.iload_n 1, 1) := by decide +kernel
theorem dX12_plain_48 : decode cX12_plain 48 = .ok (.bipush 7, 2) := by decide +kernel
theorem dX12_plain_50 : decode cX12_plain 50 = .ok (.iadd, 1) := by decide +kernel
theorem dX12_plain_51 : decode cX12_plain 51 = .ok (.iconst 1, 1) := by decide +kernel
theorem dX12_plain_52 : decode cX12_plain 52 = .ok (.iastore, 1) := by decide +kernel
theorem dX12_plain_53 : decode cX12_plain 53 = .ok (.aload_n 0, 1) := by decide +kernel
theorem dX12_plain_54 : decode cX12_plain 54 = .ok (.getfield 7, 3) := by decide +kernel
theorem dX12_plain_57 : decode cX12_plain 57 = .ok (.iload_n 1, 1) := by decide +kernel
theorem dX12_plain_58 : decode cX12_plain 58 = .ok (.bipush 9, 2) := by decide +kernel
theorem dX12_plain_60 : decode cX12_plain 60 = .ok (.iadd, 1) := by decide +kernel
theorem dX12_plain_61 : decode cX12_plain 61 = .ok (.iconst (-1), 1) := by decide +kernel
theorem dX12_plain_62 : decode cX12_plain 62 = .ok (.iastore, 1) := by decide +kernel
theorem dX12_plain_63 : decode cX12_plain 63 = .ok (.return_, 1) := by decide +kernel
theorem dX12_status_0 : decode cX12_status 0 = .ok (.aload_n 0, 1) := by decide +kernel
theorem dX12_status_1 : decode cX12_status 1 = .ok (.getfield 79, 3) := by decide +kernel
theorem dX12_status_4 : decode cX12_status 4 = .ok (.ireturn, 1) := by decide +kernel
theorem dX12_top_0 : decode cX12_top 0 = .ok (.aload_n 0, 1) := by decide +kernel
theorem dX12_top_1 : decode cX12_top 1 = .ok (.getfield 82, 3) := by decide +kernel
theorem dX12_top_4 : decode cX12_top 4 = .ok (.lreturn, 1) := by decide +kernel
theorem dX12_bottom_0 : decode cX12_bottom 0 = .ok (.aload_n 0, 1) := by decide +kernel
theorem dX12_bottom_1 : decode cX12_bottom 1 = .ok (.getfield 17, 3) := by decide +kernel
theorem dX12_bottom_4 : decode cX12_bottom 4 = .ok (.lreturn, 1) := by decide +kernel
theorem dX12_is_0 : decode cX12_is 0 = .ok (.aload_n 0, 1) := by decide +kernel
theorem dX12_is_1 : decode cX12_is 1 = .ok (.iload_n 1, 1) := by decide +kernel
theorem dX12_is_2 : decode cX12_is 2 = .ok (.putfield 79, 3) := by decide +kernel
theorem dX12_is_5 : decode cX12_is 5 = .ok (.iload_n 1, 1) := by decide +kernel
theorem dX12_is_6 : decode cX12_is 6 = .ok (.ifCond .ne 7, 3) := by decide +kernel
theorem dX12_is_9 : decode cX12_is 9 = .ok (.iconst 1, 1) := by decide +kernel
theorem dX12_is_10 : decode cX12_is 10 = .ok (.goto 4, 3) := by decide +kernel
theorem dX12_is_13 : decode cX12_is 13 = .ok (.iconst 0, 1) := by decide +kernel
theorem dX12_is_14 : decode cX12_is 14 = .ok (.ireturn, 1) := by decide +kernel
theorem dX12_refuse_0 : decode cX12_refuse 0 = .ok (.aload_n 0, 1) := by decide +kernel
