theorem dX1_takeRule_28 : decode cX1_takeRule 28 = .ok (.iload_n 1, 1) := by decide +kernel
theorem dX1_takeRule_29 : decode cX1_takeRule 29 = .ok (.ishl, 1) := by decide +kernel
theorem dX1_takeRule_30 : decode cX1_takeRule 30 = .ok (.ior, 1) := by decide +kernel
theorem dX1_takeRule_31 : decode cX1_takeRule 31 = .ok (.putfield 23, 3) := by decide +kernel
theorem dX1_takeRule_34 : decode cX1_takeRule 34 = .ok (.aload_n 0, 1) := by decide +kernel
theorem dX1_takeRule_35 : decode cX1_takeRule 35 = .ok (.getfield 16, 3) := by decide +kernel
theorem dX1_takeRule_38 : decode cX1_takeRule 38 = .ok (.invokevirtual 95, 3) := by decide +kernel
theorem dX1_takeRule_41 : decode cX1_takeRule 41 = .ok (.aload_n 0, 1) := by decide +kernel
theorem dX1_takeRule_42 : decode cX1_takeRule 42 = .ok (.getfield 16, 3) := by decide +kernel
theorem dX1_takeRule_45 : decode cX1_takeRule 45 = .ok (.iload_n 2, 1) := by decide +kernel
theorem dX1_takeRule_46 : decode cX1_takeRule 46 = .ok (.iload_n 3, 1) := by decide +kernel
theorem dX1_takeRule_47 : decode cX1_takeRule 47 = .ok (.invokevirtual 98, 3) := by decide +kernel
theorem dX1_takeRule_50 : decode cX1_takeRule 50 = .ok (.istore 4, 2) := by decide +kernel
theorem dX1_takeRule_52 : decode cX1_takeRule 52 = .ok (.aload_n 0, 1) := by decide +kernel
theorem dX1_takeRule_53 : decode cX1_takeRule 53 = .ok (.getfield 16, 3) := by decide +kernel
theorem dX1_takeRule_56 : decode cX1_takeRule 56 = .ok (.invokevirtual 102, 3) := by decide +kernel
theorem dX1_takeRule_59 : decode cX1_takeRule 59 = .ok (.iload 4, 2) := by decide +kernel
theorem dX1_takeRule_61 : decode cX1_takeRule 61 = .ok (.ireturn, 1) := by decide +kernel
theorem dX1_takeFirstWord_0 : decode cX1_takeFirstWord 0 = .ok (.iload_n 1, 1) := by decide +kernel
theorem dX1_takeFirstWord_1 : decode cX1_takeFirstWord 1 = .ok (.ifCond .eq 13, 3) := by decide +kernel
theorem dX1_takeFirstWord_4 : decode cX1_takeFirstWord 4 = .ok (.aload_n 0, 1) := by decide +kernel
theorem dX1_takeFirstWord_5 : decode cX1_takeFirstWord 5 = .ok (.getfield 16, 3) := by decide +kernel
theorem dX1_takeFirstWord_8 : decode cX1_takeFirstWord 8 = .ok (.bipush 6, 2) := by decide +kernel
theorem dX1_takeFirstWord_10 : decode cX1_takeFirstWord 10 = .ok (.invokevirtual 92, 3) := by decide +kernel
theorem dX1_takeFirstWord_13 : decode cX1_takeFirstWord 13 = .ok (.return_, 1) := by decide +kernel
theorem dX1_takeFirstWord_14 : decode cX1_takeFirstWord 14 = .ok (.aload_n 0, 1) := by decide +kernel
theorem dX1_takeFirstWord_15 : decode cX1_takeFirstWord 15 = .ok (.getfield 16, 3) := by decide +kernel
theorem dX1_takeFirstWord_18 : decode cX1_takeFirstWord 18 = .ok (.invokevirtual 95, 3) := by decide +kernel
theorem dX1_takeFirstWord_21 : decode cX1_takeFirstWord 21 = .ok (.return_, 1) := by decide +kernel
theorem dX1_takeCorner_0 : decode cX1_takeCorner 0 = .ok (.aload_n 0, 1) := by decide +kernel
theorem dX1_takeCorner_1 : decode cX1_takeCorner 1 = .ok (.aload_n 0, 1) := by decide +kernel
theorem dX1_takeCorner_2 : decode cX1_takeCorner 2 = .ok (.getfield 10, 3) := by decide +kernel
theorem dX1_takeCorner_5 : decode cX1_takeCorner 5 = .ok (.getfield 40, 3) := by decide +kernel
theorem dX1_takeCorner_8 : decode cX1_takeCorner 8 = .ok (.getfield 105, 3) := by decide +kernel
theorem dX1_takeCorner_11 : decode cX1_takeCorner 11 = .ok (.bipush 8, 2) := by decide +kernel
theorem dX1_takeCorner_13 : decode cX1_takeCorner 13 = .ok (.if_icmp .lt 7, 3) := by decide +kernel
theorem dX1_takeCorner_16 : decode cX1_takeCorner 16 = .ok (.iconst 1, 1) := by decide +kernel
theorem dX1_takeCorner_17 : decode cX1_takeCorner 17 = .ok (.goto 4, 3) := by decide +kernel
theorem dX1_takeCorner_20 : decode cX1_takeCorner 20 = .ok (.iconst 0, 1) := by decide +kernel
theorem dX1_takeCorner_21 : decode cX1_takeCorner 21 = .ok (.invokevirtual 108, 3) := by decide +kernel
theorem dX1_takeCorner_24 : decode cX1_takeCorner 24 = .ok (.aload_n 0, 1) := by decide +kernel
theorem dX1_takeCorner_25 : decode cX1_takeCorner 25 = .ok (.getfield 16, 3) := by decide +kernel
theorem dX1_takeCorner_28 : decode cX1_takeCorner 28 = .ok (.aload_n 0, 1) := by decide +kernel
theorem dX1_takeCorner_29 : decode cX1_takeCorner 29 = .ok (.getfield 10, 3) := by decide +kernel
theorem dX1_takeCorner_32 : decode cX1_takeCorner 32 = .ok (.getfield 112, 3) := by decide +kernel
theorem dX1_takeCorner_35 : decode cX1_takeCorner 35 = .ok (.invokevirtual 116, 3) := by decide +kernel
theorem dX1_takeCorner_38 : decode cX1_takeCorner 38 = .ok (.lstore_n 1, 1) := by decide +kernel
theorem dX1_takeCorner_39 : decode cX1_takeCorner 39 = .ok (.aload_n 0, 1) := by decide +kernel
theorem dX1_takeCorner_40 : decode cX1_takeCorner 40 = .ok (.getfield 16, 3) := by decide +kernel
theorem dX1_takeCorner_43 : decode cX1_takeCorner 43 = .ok (.invokevirtual 102, 3) := by decide +kernel
theorem dX1_takeCorner_46 : decode cX1_takeCorner 46 = .ok (.aload_n 0, 1) := by decide +kernel
theorem dX1_takeCorner_47 : decode cX1_takeCorner 47 = .ok (.getfield 16, 3) := by decide +kernel
theorem dX1_takeCorner_50 : decode cX1_takeCorner 50 = .ok (.getfield 49, 3) := by decide +kernel
theorem dX1_takeCorner_53 : decode cX1_takeCorner 53 = .ok (.ifCond .ne 41, 3) := by decide +kernel
theorem dX1_takeCorner_56 : decode cX1_takeCorner 56 = .ok (.aload_n 0, 1) := by decide +kernel
theorem dX1_takeCorner_57 : decode cX1_takeCorner 57 = .ok (.getfield 10, 3) := by decide +kernel
theorem dX1_takeCorner_60 : decode cX1_takeCorner 60 = .ok (.getfield 112, 3) := by decide +kernel
theorem dX1_takeCorner_63 : decode cX1_takeCorner 63 = .ok (.lload_n 1, 1) := by decide +kernel
theorem dX1_takeCorner_64 : decode cX1_takeCorner 64 = .ok (.iconst 1, 1) := by decide +kernel
theorem dX1_takeCorner_65 : decode cX1_takeCorner 65 = .ok (.aload_n 0, 1) := by decide +kernel
theorem dX1_takeCorner_66 : decode cX1_takeCorner 66 = .ok (.getfield 10, 3) := by decide +kernel
theorem dX1_takeCorner_69 : decode cX1_takeCorner 69 = .ok (.getfield 40, 3) := by decide +kernel
theorem dX1_takeCorner_72 : decode cX1_takeCorner 72 = .ok (.getfield 105, 3) := by decide +kernel
theorem dX1_takeCorner_75 : decode cX1_takeCorner 75 = .ok (.invokevirtual 122, 3) := by decide +kernel
theorem dX1_takeCorner_78 : decode cX1_takeCorner 78 = .ok (.aload_n 0, 1) := by decide +kernel
theorem dX1_takeCorner_79 : decode cX1_takeCorner 79 = .ok (.getfield 10, 3) := by decide +kernel
theorem dX1_takeCorner_82 : decode cX1_takeCorner 82 = .ok (.getfield 40, 3) := by decide +kernel
theorem dX1_takeCorner_85 : decode cX1_takeCorner 85 = .ok (.dup, 1) := by decide +kernel
theorem dX1_takeCorner_86 : decode cX1_takeCorner 86 = .ok (.getfield 105, 3) := by decide +kernel
theorem dX1_takeCorner_89 : decode cX1_takeCorner 89 = .ok (.iconst 1, 1) := by decide +kernel
theorem dX1_takeCorner_90 : decode cX1_takeCorner 90 = .ok (.iadd, 1) := by decide +kernel
theorem dX1_takeCorner_91 : decode cX1_takeCorner 91 = .ok (.putfield 105, 3) := by decide +kernel
theorem dX1_takeCorner_94 : decode cX1_takeCorner 94 = .ok (.return_, 1) := by decide +kernel
theorem dX1_takeRoad_0 : decode cX1_takeRoad 0 = .ok (.aload_n 0, 1) := by decide +kernel
theorem dX1_takeRoad_1 : decode cX1_takeRoad 1 = .ok (.aload_n 0, 1) := by decide +kernel
theorem dX1_takeRoad_2 : decode cX1_takeRoad 2 = .ok (.getfield 10, 3) := by decide +kernel
theorem dX1_takeRoad_5 : decode cX1_takeRoad 5 = .ok (.getfield 40, 3) := by decide +kernel
theorem dX1_takeRoad_8 : decode cX1_takeRoad 8 = .ok (.getfield 126, 3) := by decide +kernel
theorem dX1_takeRoad_11 : decode cX1_takeRoad 11 = .ok (.invokevirtual 130, 3) := by decide +kernel
theorem dX1_takeRoad_14 : decode cX1_takeRoad 14 = .ok (.invokevirtual 108, 3) := by decide +kernel
theorem dX1_takeRoad_17 : decode cX1_takeRoad 17 = .ok (.aload_n 0, 1) := by decide +kernel
theorem dX1_takeRoad_18 : decode cX1_takeRoad 18 = .ok (.getfield 16, 3) := by decide +kernel
theorem dX1_takeRoad_21 : decode cX1_takeRoad 21 = .ok (.aload_n 0, 1) := by decide +kernel
theorem dX1_takeRoad_22 : decode cX1_takeRoad 22 = .ok (.getfield 10, 3) := by decide +kernel
theorem dX1_takeRoad_25 : decode cX1_takeRoad 25 = .ok (.getfield 112, 3) := by decide +kernel
theorem dX1_takeRoad_28 : decode cX1_takeRoad 28 = .ok (.iconst 1, 1) := by decide +kernel
theorem dX1_takeRoad_29 : decode cX1_takeRoad 29 = .ok (.invokevirtual 135, 3) := by decide +kernel
theorem dX1_takeRoad_32 : decode cX1_takeRoad 32 = .ok (.istore_n 1, 1) := by decide +kernel
theorem dX1_takeRoad_33 : decode cX1_takeRoad 33 = .ok (.aload_n 0, 1) := by decide +kernel
theorem dX1_takeRoad_34 : decode cX1_takeRoad 34 = .ok (.getfield 16, 3) := by decide +kernel
theorem dX1_takeRoad_37 : decode cX1_takeRoad 37 = .ok (.aload_n 0, 1) := by decide +kernel
theorem dX1_takeRoad_38 : decode cX1_takeRoad 38 = .ok (.getfield 10, 3) := by decide +kernel
theorem dX1_takeRoad_41 : decode cX1_takeRoad 41 = .ok (.getfield 112, 3) := by decide +kernel
theorem dX1_takeRoad_44 : decode cX1_takeRoad 44 = .ok (.iconst 1, 1) := by decide +kernel
theorem dX1_takeRoad_45 : decode cX1_takeRoad 45 = .ok (.invokevirtual 139, 3) := by decide +kernel
theorem dX1_takeRoad_48 : decode cX1_takeRoad 48 = .ok (.istore_n 2, 1) := by decide +kernel
theorem dX1_takeRoad_49 : decode cX1_takeRoad 49 = .ok (.aload_n 0, 1) := by decide +kernel
theorem dX1_takeRoad_50 : decode cX1_takeRoad 50 = .ok (.getfield 16, 3) := by decide +kernel
theorem dX1_takeRoad_53 : decode cX1_takeRoad 53 = .ok (.getfield 49, 3) := by decide +kernel
theorem dX1_takeRoad_56 : decode cX1_takeRoad 56 = .ok (.ifCond .ne 16, 3) := by decide +kernel
theorem dX1_takeRoad_59 : decode cX1_takeRoad 59 = .ok (.iload_n 1, 1) := by decide +kernel
theorem dX1_takeRoad_60 : decode cX1_takeRoad 60 = .ok (.iload_n 2, 1) := by decide +kernel
theorem dX1_takeRoad_61 : decode cX1_takeRoad 61 = .ok (.if_icmp .ne 11, 3) := by decide +kernel
theorem dX1_takeRoad_64 : decode cX1_takeRoad 64 = .ok (.aload_n 0, 1) := by decide +kernel
theorem dX1_takeRoad_65 : decode cX1_takeRoad 65 = .ok (.getfield 16, 3) := by decide +kernel
theorem dX1_takeRoad_68 : decode cX1_takeRoad 68 = .ok (.iconst 5, 1) := by decide +kernel
theorem dX1_takeRoad_69 : decode cX1_takeRoad 69 = .ok (.invokevirtual 92, 3) := by decide +kernel
theorem dX1_takeRoad_72 : decode cX1_takeRoad 72 = .ok (.aload_n 0, 1) := by decide +kernel
theorem dX1_takeRoad_73 : decode cX1_takeRoad 73 = .ok (.getfield 16, 3) := by decide +kernel
theorem dX1_takeRoad_76 : decode cX1_takeRoad 76 = .ok (.getfield 49, 3) := by decide +kernel
theorem dX1_takeRoad_79 : decode cX1_takeRoad 79 = .ok (.ifCond .ne 10, 3) := by decide +kernel
theorem dX1_takeRoad_82 : decode cX1_takeRoad 82 = .ok (.aload_n 0, 1) := by decide +kernel
theorem dX1_takeRoad_83 : decode cX1_takeRoad 83 = .ok (.getfield 16, 3) := by decide +kernel
theorem dX1_takeRoad_86 : decode cX1_takeRoad 86 = .ok (.invokevirtual 95, 3) := by decide +kernel
theorem dX1_takeRoad_89 : decode cX1_takeRoad 89 = .ok (.aload_n 0, 1) := by decide +kernel
theorem dX1_takeRoad_90 : decode cX1_takeRoad 90 = .ok (.getfield 16, 3) := by decide +kernel
theorem dX1_takeRoad_93 : decode cX1_takeRoad 93 = .ok (.bipush 6, 2) := by decide +kernel
theorem dX1_takeRoad_95 : decode cX1_takeRoad 95 = .ok (.invokevirtual 142, 3) := by decide +kernel
theorem dX1_takeRoad_98 : decode cX1_takeRoad 98 = .ok (.aload_n 0, 1) := by decide +kernel
theorem dX1_takeRoad_99 : decode cX1_takeRoad 99 = .ok (.getfield 16, 3) := by decide +kernel
theorem dX1_takeRoad_102 : decode cX1_takeRoad 102 = .ok (.iconst 1, 1) := by decide +kernel
theorem dX1_takeRoad_103 : decode cX1_takeRoad 103 = .ok (.bipush 9, 2) := by decide +kernel
theorem dX1_takeRoad_105 : decode cX1_takeRoad 105 = .ok (.invokevirtual 98, 3) := by decide +kernel
theorem dX1_takeRoad_108 : decode cX1_takeRoad 108 = .ok (.istore_n 3, 1) := by decide +kernel
theorem dX1_takeRoad_109 : decode cX1_takeRoad 109 = .ok (.aload_n 0, 1) := by decide +kernel
theorem dX1_takeRoad_110 : decode cX1_takeRoad 110 = .ok (.getfield 16, 3) := by decide +kernel
theorem dX1_takeRoad_113 : decode cX1_takeRoad 113 = .ok (.invokevirtual 102, 3) := by decide +kernel
theorem dX1_takeRoad_116 : decode cX1_takeRoad 116 = .ok (.aload_n 0, 1) := by decide +kernel
theorem dX1_takeRoad_117 : decode cX1_takeRoad 117 = .ok (.getfield 16, 3) := by decide +kernel
theorem dX1_takeRoad_120 : decode cX1_takeRoad 120 = .ok (.getfield 49, 3) := by decide +kernel
theorem dX1_takeRoad_123 : decode cX1_takeRoad 123 = .ok (.ifCond .ne 16, 3) := by decide +kernel
theorem dX1_takeRoad_126 : decode cX1_takeRoad 126 = .ok (.aload_n 0, 1) := by decide +kernel
theorem dX1_takeRoad_127 : decode cX1_takeRoad 127 = .ok (.getfield 10, 3) := by decide +kernel
theorem dX1_takeRoad_130 : decode cX1_takeRoad 130 = .ok (.getfield 40, 3) := by decide +kernel
theorem dX1_takeRoad_133 : decode cX1_takeRoad 133 = .ok (.iload_n 1, 1) := by decide +kernel
theorem dX1_takeRoad_134 : decode cX1_takeRoad 134 = .ok (.iload_n 2, 1) := by decide +kernel
theorem dX1_takeRoad_135 : decode cX1_takeRoad 135 = .ok (.iload_n 3, 1) := by decide +kernel
theorem dX1_takeRoad_136 : decode cX1_takeRoad 136 = .ok (.invokevirtual 145, 3) := by decide +kernel
theorem dX1_takeRoad_139 : decode cX1_takeRoad 139 = .ok (.return_, 1) := by decide +kernel
theorem dX1_takeExtra_0 : decode cX1_takeExtra 0 = .ok (.aload_n 0, 1) := by decide +kernel
theorem dX1_takeExtra_1 : decode cX1_takeExtra 1 = .ok (.aload_n 0, 1) := by decide +kernel
theorem dX1_takeExtra_2 : decode cX1_takeExtra 2 = .ok (.getfield 10, 3) := by decide +kernel
theorem dX1_takeExtra_5 : decode cX1_takeExtra 5 = .ok (.getfield 149, 3) := by decide +kernel
theorem dX1_takeExtra_8 : decode cX1_takeExtra 8 = .ok (.invokevirtual 130, 3) := by decide +kernel
theorem dX1_takeExtra_11 : decode cX1_takeExtra 11 = .ok (.invokevirtual 108, 3) := by decide +kernel
theorem dX1_takeExtra_14 : decode cX1_takeExtra 14 = .ok (.aload_n 0, 1) := by decide +kernel
theorem dX1_takeExtra_15 : decode cX1_takeExtra 15 = .ok (.getfield 16, 3) := by decide +kernel
theorem dX1_takeExtra_18 : decode cX1_takeExtra 18 = .ok (.aload_n 0, 1) := by decide +kernel
theorem dX1_takeExtra_19 : decode cX1_takeExtra 19 = .ok (.getfield 10, 3) := by decide +kernel
theorem dX1_takeExtra_22 : decode cX1_takeExtra 22 = .ok (.getfield 112, 3) := by decide +kernel
theorem dX1_takeExtra_25 : decode cX1_takeExtra 25 = .ok (.invokevirtual 116, 3) := by decide +kernel
theorem dX1_takeExtra_28 : decode cX1_takeExtra 28 = .ok (.lstore_n 1, 1) := by decide +kernel
theorem dX1_takeExtra_29 : decode cX1_takeExtra 29 = .ok (.aload_n 0, 1) := by decide +kernel
theorem dX1_takeExtra_30 : decode cX1_takeExtra 30 = .ok (.getfield 16, 3) := by decide +kernel
theorem dX1_takeExtra_33 : decode cX1_takeExtra 33 = .ok (.bipush 8, 2) := by decide +kernel
theorem dX1_takeExtra_35 : decode cX1_takeExtra 35 = .ok (.invokevirtual 142, 3) := by decide +kernel
theorem dX1_takeExtra_38 : decode cX1_takeExtra 38 = .ok (.aload_n 0, 1) := by decide +kernel
theorem dX1_takeExtra_39 : decode cX1_takeExtra 39 = .ok (.getfield 16, 3) := by decide +kernel
theorem dX1_takeExtra_42 : decode cX1_takeExtra 42 = .ok (.aload_n 0, 1) := by decide +kernel
theorem dX1_takeExtra_43 : decode cX1_takeExtra 43 = .ok (.getfield 10, 3) := by decide +kernel
theorem dX1_takeExtra_46 : decode cX1_takeExtra 46 = .ok (.getfield 112, 3) := by decide +kernel
theorem dX1_takeExtra_49 : decode cX1_takeExtra 49 = .ok (.iconst 1, 1) := by decide +kernel
theorem dX1_takeExtra_50 : decode cX1_takeExtra 50 = .ok (.invokevirtual 135, 3) := by decide +kernel
theorem dX1_takeExtra_53 : decode cX1_takeExtra 53 = .ok (.istore_n 3, 1) := by decide +kernel
theorem dX1_takeExtra_54 : decode cX1_takeExtra 54 = .ok (.aload_n 0, 1) := by decide +kernel
theorem dX1_takeExtra_55 : decode cX1_takeExtra 55 = .ok (.getfield 16, 3) := by decide +kernel
theorem dX1_takeExtra_58 : decode cX1_takeExtra 58 = .ok (.invokevirtual 102, 3) := by decide +kernel
theorem dX1_takeExtra_61 : decode cX1_takeExtra 61 = .ok (.aload_n 0, 1) := by decide +kernel
theorem dX1_takeExtra_62 : decode cX1_takeExtra 62 = .ok (.getfield 16, 3) := by decide +kernel
theorem dX1_takeExtra_65 : decode cX1_takeExtra 65 = .ok (.getfield 49, 3) := by decide +kernel
theorem dX1_takeExtra_68 : decode cX1_takeExtra 68 = .ok (.ifCond .ne 23, 3) := by decide +kernel
theorem dX1_takeExtra_71 : decode cX1_takeExtra 71 = .ok (.aload_n 0, 1) := by decide +kernel
theorem dX1_takeExtra_72 : decode cX1_takeExtra 72 = .ok (.getfield 10, 3) := by decide +kernel
theorem dX1_takeExtra_75 : decode cX1_takeExtra 75 = .ok (.getfield 112, 3) := by decide +kernel
theorem dX1_takeExtra_78 : decode cX1_takeExtra 78 = .ok (.lload_n 1, 1) := by decide +kernel
theorem dX1_takeExtra_79 : decode cX1_takeExtra 79 = .ok (.iconst 2, 1) := by decide +kernel
theorem dX1_takeExtra_80 : decode cX1_takeExtra 80 = .ok (.aload_n 0, 1) := by decide +kernel
theorem dX1_takeExtra_81 : decode cX1_takeExtra 81 = .ok (.getfield 10, 3) := by decide +kernel
theorem dX1_takeExtra_84 : decode cX1_takeExtra 84 = .ok (.iload_n 3, 1) := by decide +kernel
theorem dX1_takeExtra_85 : decode cX1_takeExtra 85 = .ok (.invokevirtual 152, 3) := by decide +kernel
theorem dX1_takeExtra_88 : decode cX1_takeExtra 88 = .ok (.invokevirtual 122, 3) := by decide +kernel
theorem dX1_takeExtra_91 : decode cX1_takeExtra 91 = .ok (.return_, 1) := by decide +kernel
theorem dX1_takeHappening_0 : decode cX1_takeHappening 0 = .ok (.aload_n 0, 1) := by decide +kernel
theorem dX1_takeHappening_1 : decode cX1_takeHappening 1 = .ok (.aload_n 0, 1) := by decide +kernel
theorem dX1_takeHappening_2 : decode cX1_takeHappening 2 = .ok (.getfield 10, 3) := by decide +kernel
theorem dX1_takeHappening_5 : decode cX1_takeHappening 5 = .ok (.getfield 156, 3) := by decide +kernel
theorem dX1_takeHappening_8 : decode cX1_takeHappening 8 = .ok (.invokevirtual 130, 3) := by decide +kernel
theorem dX1_takeHappening_11 : decode cX1_takeHappening 11 = .ok (.invokevirtual 108, 3) := by decide +kernel
theorem dX1_takeHappening_14 : decode cX1_takeHappening 14 = .ok (.aload_n 0, 1) := by decide +kernel
theorem dX1_takeHappening_15 : decode cX1_takeHappening 15 = .ok (.getfield 16, 3) := by decide +kernel
theorem dX1_takeHappening_18 : decode cX1_takeHappening 18 = .ok (.aload_n 0, 1) := by decide +kernel
theorem dX1_takeHappening_19 : decode cX1_takeHappening 19 = .ok (.getfield 10, 3) := by decide +kernel
theorem dX1_takeHappening_22 : decode cX1_takeHappening 22 = .ok (.getfield 112, 3) := by decide +kernel
theorem dX1_takeHappening_25 : decode cX1_takeHappening 25 = .ok (.invokevirtual 116, 3) := by decide +kernel
theorem dX1_takeHappening_28 : decode cX1_takeHappening 28 = .ok (.lstore_n 1, 1) := by decide +kernel
theorem dX1_takeHappening_29 : decode cX1_takeHappening 29 = .ok (.aload_n 0, 1) := by decide +kernel
theorem dX1_takeHappening_30 : decode cX1_takeHappening 30 = .ok (.getfield 16, 3) := by decide +kernel
theorem dX1_takeHappening_33 : decode cX1_takeHappening 33 = .ok (.bipush 8, 2) := by decide +kernel
theorem dX1_takeHappening_35 : decode cX1_takeHappening 35 = .ok (.invokevirtual 142, 3) := by decide +kernel
theorem dX1_takeHappening_38 : decode cX1_takeHappening 38 = .ok (.aload_n 0, 1) := by decide +kernel
theorem dX1_takeHappening_39 : decode cX1_takeHappening 39 = .ok (.getfield 16, 3) := by decide +kernel
theorem dX1_takeHappening_42 : decode cX1_takeHappening 42 = .ok (.aload_n 0, 1) := by decide +kernel
theorem dX1_takeHappening_43 : decode cX1_takeHappening 43 = .ok (.getfield 10, 3) := by decide +kernel
theorem dX1_takeHappening_46 : decode cX1_takeHappening 46 = .ok (.getfield 112, 3) := by decide +kernel
theorem dX1_takeHappening_49 : decode cX1_takeHappening 49 = .ok (.iconst 1, 1) := by decide +kernel
theorem dX1_takeHappening_50 : decode cX1_takeHappening 50 = .ok (.invokevirtual 135, 3) := by decide +kernel
theorem dX1_takeHappening_53 : decode cX1_takeHappening 53 = .ok (.istore_n 3, 1) := by decide +kernel
theorem dX1_takeHappening_54 : decode cX1_takeHappening 54 = .ok (.aload_n 0, 1) := by decide +kernel
theorem dX1_takeHappening_55 : decode cX1_takeHappening 55 = .ok (.getfield 16, 3) := by decide +kernel
theorem dX1_takeHappening_58 : decode cX1_takeHappening 58 = .ok (.bipush 10, 2) := by decide +kernel
theorem dX1_takeHappening_60 : decode cX1_takeHappening 60 = .ok (.invokevirtual 142, 3) := by decide +kernel
theorem dX1_takeHappening_63 : decode cX1_takeHappening 63 = .ok (.aload_n 0, 1) := by decide +kernel
theorem dX1_takeHappening_64 : decode cX1_takeHappening 64 = .ok (.getfield 16, 3) := by decide +kernel
theorem dX1_takeHappening_67 : decode cX1_takeHappening 67 = .ok (.iconst 0, 1) := by decide +kernel
theorem dX1_takeHappening_68 : decode cX1_takeHappening 68 = .ok (.sipush 999, 3) := by decide +kernel
theorem dX1_takeHappening_71 : decode cX1_takeHappening 71 = .ok (.invokevirtual 98, 3) := by decide +kernel
theorem dX1_takeHappening_74 : decode cX1_takeHappening 74 = .ok (.istore 4, 2) := by decide +kernel
theorem dX1_takeHappening_76 : decode cX1_takeHappening 76 = .ok (.aload_n 0, 1) := by decide +kernel
theorem dX1_takeHappening_77 : decode cX1_takeHappening 77 = .ok (.getfield 16, 3) := by decide +kernel
theorem dX1_takeHappening_80 : decode cX1_takeHappening 80 = .ok (.bipush 11, 2) := by decide +kernel
theorem dX1_takeHappening_82 : decode cX1_takeHappening 82 = .ok (.invokevirtual 142, 3) := by decide +kernel
theorem dX1_takeHappening_85 : decode cX1_takeHappening 85 = .ok (.aload_n 0, 1) := by decide +kernel
theorem dX1_takeHappening_86 : decode cX1_takeHappening 86 = .ok (.getfield 16, 3) := by decide +kernel
theorem dX1_takeHappening_89 : decode cX1_takeHappening 89 = .ok (.iconst 1, 1) := by decide +kernel
theorem dX1_takeHappening_90 : decode cX1_takeHappening 90 = .ok (.iconst 4, 1) := by decide +kernel
theorem dX1_takeHappening_91 : decode cX1_takeHappening 91 = .ok (.invokevirtual 98, 3) := by decide +kernel
theorem dX1_takeHappening_94 : decode cX1_takeHappening 94 = .ok (.istore 5, 2) := by decide +kernel
theorem dX1_takeHappening_96 : decode cX1_takeHappening 96 = .ok (.aload_n 0, 1) := by decide +kernel
theorem dX1_takeHappening_97 : decode cX1_takeHappening 97 = .ok (.getfield 16, 3) := by decide +kernel
theorem dX1_takeHappening_100 : decode cX1_takeHappening 100 = .ok (.invokevirtual 102, 3) := by decide +kernel
theorem dX1_takeHappening_103 : decode cX1_takeHappening 103 = .ok (.aload_n 0, 1) := by decide +kernel
theorem dX1_takeHappening_104 : decode cX1_takeHappening 104 = .ok (.getfield 16, 3) := by decide +kernel
theorem dX1_takeHappening_107 : decode cX1_takeHappening 107 = .ok (.getfield 49, 3) := by decide +kernel
theorem dX1_takeHappening_110 : decode cX1_takeHappening 110 = .ok (.ifCond .ne 27, 3) := by decide +kernel
theorem dX1_takeHappening_113 : decode cX1_takeHappening 113 = .ok (.aload_n 0, 1) := by decide +kernel
theorem dX1_takeHappening_114 : decode cX1_takeHappening 114 = .ok (.getfield 10, 3) := by decide +kernel
theorem dX1_takeHappening_117 : decode cX1_takeHappening 117 = .ok (.getfield 112, 3) := by decide +kernel
theorem dX1_takeHappening_120 : decode cX1_takeHappening 120 = .ok (.lload_n 1, 1) := by decide +kernel
theorem dX1_takeHappening_121 : decode cX1_takeHappening 121 = .ok (.iconst 3, 1) := by decide +kernel
theorem dX1_takeHappening_122 : decode cX1_takeHappening 122 = .ok (.aload_n 0, 1) := by decide +kernel
theorem dX1_takeHappening_123 : decode cX1_takeHappening 123 = .ok (.getfield 10, 3) := by decide +kernel
theorem dX1_takeHappening_126 : decode cX1_takeHappening 126 = .ok (.iload_n 3, 1) := by decide +kernel
theorem dX1_takeHappening_127 : decode cX1_takeHappening 127 = .ok (.iload 4, 2) := by decide +kernel
theorem dX1_takeHappening_129 : decode cX1_takeHappening 129 = .ok (.iload 5, 2) := by decide +kernel
theorem dX1_takeHappening_131 : decode cX1_takeHappening 131 = .ok (.invokevirtual 159, 3) := by decide +kernel
theorem dX1_takeHappening_134 : decode cX1_takeHappening 134 = .ok (.invokevirtual 122, 3) := by decide +kernel
theorem dX1_takeHappening_137 : decode cX1_takeHappening 137 = .ok (.return_, 1) := by decide +kernel
theorem dX1_takeWatcher_0 : decode cX1_takeWatcher 0 = .ok (.aload_n 0, 1) := by decide +kernel
theorem dX1_takeWatcher_1 : decode cX1_takeWatcher 1 = .ok (.aload_n 0, 1) := by decide +kernel
theorem dX1_takeWatcher_2 : decode cX1_takeWatcher 2 = .ok (.getfield 10, 3) := by decide +kernel
theorem dX1_takeWatcher_5 : decode cX1_takeWatcher 5 = .ok (.getfield 162, 3) := by decide +kernel
theorem dX1_takeWatcher_8 : decode cX1_takeWatcher 8 = .ok (.invokevirtual 130, 3) := by decide +kernel
theorem dX1_takeWatcher_11 : decode cX1_takeWatcher 11 = .ok (.invokevirtual 108, 3) := by decide +kernel
theorem dX1_takeWatcher_14 : decode cX1_takeWatcher 14 = .ok (.aload_n 0, 1) := by decide +kernel
theorem dX1_takeWatcher_15 : decode cX1_takeWatcher 15 = .ok (.getfield 16, 3) := by decide +kernel
theorem dX1_takeWatcher_18 : decode cX1_takeWatcher 18 = .ok (.aload_n 0, 1) := by decide +kernel
theorem dX1_takeWatcher_19 : decode cX1_takeWatcher 19 = .ok (.getfield 10, 3) := by decide +kernel
theorem dX1_takeWatcher_22 : decode cX1_takeWatcher 22 = .ok (.getfield 112, 3) := by decide +kernel
theorem dX1_takeWatcher_25 : decode cX1_takeWatcher 25 = .ok (.invokevirtual 116, 3) := by decide +kernel
theorem dX1_takeWatcher_28 : decode cX1_takeWatcher 28 = .ok (.lstore_n 1, 1) := by decide +kernel
theorem dX1_takeWatcher_29 : decode cX1_takeWatcher 29 = .ok (.aload_n 0, 1) := by decide +kernel
theorem dX1_takeWatcher_30 : decode cX1_takeWatcher 30 = .ok (.getfield 16, 3) := by decide +kernel
theorem dX1_takeWatcher_33 : decode cX1_takeWatcher 33 = .ok (.bipush 8, 2) := by decide +kernel
theorem dX1_takeWatcher_35 : decode cX1_takeWatcher 35 = .ok (.invokevirtual 142, 3) := by decide +kernel
theorem dX1_takeWatcher_38 : decode cX1_takeWatcher 38 = .ok (.aload_n 0, 1) := by decide +kernel
theorem dX1_takeWatcher_39 : decode cX1_takeWatcher 39 = .ok (.getfield 16, 3) := by decide +kernel
theorem dX1_takeWatcher_42 : decode cX1_takeWatcher 42 = .ok (.aload_n 0, 1) := by decide +kernel
theorem dX1_takeWatcher_43 : decode cX1_takeWatcher 43 = .ok (.getfield 10, 3) := by decide +kernel
theorem dX1_takeWatcher_46 : decode cX1_takeWatcher 46 = .ok (.getfield 112, 3) := by decide +kernel
theorem dX1_takeWatcher_49 : decode cX1_takeWatcher 49 = .ok (.iconst 1, 1) := by decide +kernel
theorem dX1_takeWatcher_50 : decode cX1_takeWatcher 50 = .ok (.invokevirtual 135, 3) := by decide +kernel
theorem dX1_takeWatcher_53 : decode cX1_takeWatcher 53 = .ok (.istore_n 3, 1) := by decide +kernel
theorem dX1_takeWatcher_54 : decode cX1_takeWatcher 54 = .ok (.aload_n 0, 1) := by decide +kernel
theorem dX1_takeWatcher_55 : decode cX1_takeWatcher 55 = .ok (.getfield 16, 3) := by decide +kernel
theorem dX1_takeWatcher_58 : decode cX1_takeWatcher 58 = .ok (.bipush 13, 2) := by decide +kernel
theorem dX1_takeWatcher_60 : decode cX1_takeWatcher 60 = .ok (.invokevirtual 142, 3) := by decide +kernel
theorem dX1_takeWatcher_63 : decode cX1_takeWatcher 63 = .ok (.aload_n 0, 1) := by decide +kernel
theorem dX1_takeWatcher_64 : decode cX1_takeWatcher 64 = .ok (.getfield 16, 3) := by decide +kernel
theorem dX1_takeWatcher_67 : decode cX1_takeWatcher 67 = .ok (.iconst 1, 1) := by decide +kernel
theorem dX1_takeWatcher_68 : decode cX1_takeWatcher 68 = .ok (.bipush 7, 2) := by decide +kernel
theorem dX1_takeWatcher_70 : decode cX1_takeWatcher 70 = .ok (.invokevirtual 98, 3) := by decide +kernel
theorem dX1_takeWatcher_73 : decode cX1_takeWatcher 73 = .ok (.istore 4, 2) := by decide +kernel
theorem dX1_takeWatcher_75 : decode cX1_takeWatcher 75 = .ok (.aload_n 0, 1) := by decide +kernel
theorem dX1_takeWatcher_76 : decode cX1_takeWatcher 76 = .ok (.getfield 16, 3) := by decide +kernel
theorem dX1_takeWatcher_79 : decode cX1_takeWatcher 79 = .ok (.invokevirtual 102, 3) := by decide +kernel
theorem dX1_takeWatcher_82 : decode cX1_takeWatcher 82 = .ok (.aload_n 0, 1) := by decide +kernel
theorem dX1_takeWatcher_83 : decode cX1_takeWatcher 83 = .ok (.getfield 16, 3) := by decide +kernel
theorem dX1_takeWatcher_86 : decode cX1_takeWatcher 86 = .ok (.getfield 49, 3) := by decide +kernel
theorem dX1_takeWatcher_89 : decode cX1_takeWatcher 89 = .ok (.ifCond .ne 25, 3) := by decide +kernel
theorem dX1_takeWatcher_92 : decode cX1_takeWatcher 92 = .ok (.aload_n 0, 1) := by decide +kernel
theorem dX1_takeWatcher_93 : decode cX1_takeWatcher 93 = .ok (.getfield 10, 3) := by decide +kernel
theorem dX1_takeWatcher_96 : decode cX1_takeWatcher 96 = .ok (.getfield 112, 3) := by decide +kernel
theorem dX1_takeWatcher_99 : decode cX1_takeWatcher 99 = .ok (.lload_n 1, 1) := by decide +kernel
theorem dX1_takeWatcher_100 : decode cX1_takeWatcher 100 = .ok (.iconst 4, 1) := by decide +kernel
theorem dX1_takeWatcher_101 : decode cX1_takeWatcher 101 = .ok (.aload_n 0, 1) := by decide +kernel
theorem dX1_takeWatcher_102 : decode cX1_takeWatcher 102 = .ok (.getfield 10, 3) := by decide +kernel
theorem dX1_takeWatcher_105 : decode cX1_takeWatcher 105 = .ok (.iload_n 3, 1) := by decide +kernel
theorem dX1_takeWatcher_106 : decode cX1_takeWatcher 106 = .ok (.iload 4, 2) := by decide +kernel
theorem dX1_takeWatcher_108 : decode cX1_takeWatcher 108 = .ok (.invokevirtual 165, 3) := by decide +kernel
theorem dX1_takeWatcher_111 : decode cX1_takeWatcher 111 = .ok (.invokevirtual 122, 3) := by decide +kernel
theorem dX1_takeWatcher_114 : decode cX1_takeWatcher 114 = .ok (.return_, 1) := by decide +kernel
theorem dX1_takeRoster_0 : decode cX1_takeRoster 0 = .ok (.aload_n 0, 1) := by decide +kernel
theorem dX1_takeRoster_1 : decode cX1_takeRoster 1 = .ok (.getfield 16, 3) := by decide +kernel
theorem dX1_takeRoster_4 : decode cX1_takeRoster 4 = .ok (.invokevirtual 95, 3) := by decide +kernel
theorem dX1_takeRoster_7 : decode cX1_takeRoster 7 = .ok (.aload_n 0, 1) := by decide +kernel
theorem dX1_takeRoster_8 : decode cX1_takeRoster 8 = .ok (.getfield 16, 3) := by decide +kernel
theorem dX1_takeRoster_11 : decode cX1_takeRoster 11 = .ok (.aload_n 0, 1) := by decide +kernel
theorem dX1_takeRoster_12 : decode cX1_takeRoster 12 = .ok (.getfield 10, 3) := by decide +kernel
theorem dX1_takeRoster_15 : decode cX1_takeRoster 15 = .ok (.getfield 112, 3) := by decide +kernel
theorem dX1_takeRoster_18 : decode cX1_takeRoster 18 = .ok (.iconst 2, 1) := by decide +kernel
theorem dX1_takeRoster_19 : decode cX1_takeRoster 19 = .ok (.invokevirtual 135, 3) := by decide +kernel
theorem dX1_takeRoster_22 : decode cX1_takeRoster 22 = .ok (.istore_n 1, 1) := by decide +kernel
theorem dX1_takeRoster_23 : decode cX1_takeRoster 23 = .ok (.iconst 0, 1) := by decide +kernel
theorem dX1_takeRoster_24 : decode cX1_takeRoster 24 = .ok (.istore_n 2, 1) := by decide +kernel
theorem dX1_takeRoster_25 : decode cX1_takeRoster 25 = .ok (.iconst 0, 1) := by decide +kernel
theorem dX1_takeRoster_26 : decode cX1_takeRoster 26 = .ok (.istore_n 3, 1) := by decide +kernel
theorem dX1_takeRoster_27 : decode cX1_takeRoster 27 = .ok (.iload_n 3, 1) := by decide +kernel
theorem dX1_takeRoster_28 : decode cX1_takeRoster 28 = .ok (.aload_n 0, 1) := by decide +kernel
theorem dX1_takeRoster_29 : decode cX1_takeRoster 29 = .ok (.getfield 10, 3) := by decide +kernel
theorem dX1_takeRoster_32 : decode cX1_takeRoster 32 = .ok (.getfield 156, 3) := by decide +kernel
theorem dX1_takeRoster_35 : decode cX1_takeRoster 35 = .ok (.getfield 168, 3) := by decide +kernel
theorem dX1_takeRoster_38 : decode cX1_takeRoster 38 = .ok (.if_icmp .gt 99, 3) := by decide +kernel
theorem dX1_takeRoster_41 : decode cX1_takeRoster 41 = .ok (.aload_n 0, 1) := by decide +kernel
theorem dX1_takeRoster_42 : decode cX1_takeRoster 42 = .ok (.getfield 16, 3) := by decide +kernel
theorem dX1_takeRoster_45 : decode cX1_takeRoster 45 = .ok (.invokevirtual 33, 3) := by decide +kernel
theorem dX1_takeRoster_48 : decode cX1_takeRoster 48 = .ok (.ifCond .eq 89, 3) := by decide +kernel
theorem dX1_takeRoster_51 : decode cX1_takeRoster 51 = .ok (.aload_n 0, 1) := by decide +kernel
theorem dX1_takeRoster_52 : decode cX1_takeRoster 52 = .ok (.getfield 16, 3) := by decide +kernel
theorem dX1_takeRoster_55 : decode cX1_takeRoster 55 = .ok (.getfield 52, 3) := by decide +kernel
theorem dX1_takeRoster_58 : decode cX1_takeRoster 58 = .ok (.iconst 3, 1) := by decide +kernel
theorem dX1_takeRoster_59 : decode cX1_takeRoster 59 = .ok (.if_icmp .eq 78, 3) := by decide +kernel
theorem dX1_takeRoster_62 : decode cX1_takeRoster 62 = .ok (.aload_n 0, 1) := by decide +kernel
theorem dX1_takeRoster_63 : decode cX1_takeRoster 63 = .ok (.getfield 16, 3) := by decide +kernel
theorem dX1_takeRoster_66 : decode cX1_takeRoster 66 = .ok (.aload_n 0, 1) := by decide +kernel
theorem dX1_takeRoster_67 : decode cX1_takeRoster 67 = .ok (.getfield 10, 3) := by decide +kernel
theorem dX1_takeRoster_70 : decode cX1_takeRoster 70 = .ok (.getfield 112, 3) := by decide +kernel
theorem dX1_takeRoster_73 : decode cX1_takeRoster 73 = .ok (.iconst 3, 1) := by decide +kernel
theorem dX1_takeRoster_74 : decode cX1_takeRoster 74 = .ok (.invokevirtual 139, 3) := by decide +kernel
theorem dX1_takeRoster_77 : decode cX1_takeRoster 77 = .ok (.istore 4, 2) := by decide +kernel
theorem dX1_takeRoster_79 : decode cX1_takeRoster 79 = .ok (.aload_n 0, 1) := by decide +kernel
theorem dX1_takeRoster_80 : decode cX1_takeRoster 80 = .ok (.getfield 16, 3) := by decide +kernel
theorem dX1_takeRoster_83 : decode cX1_takeRoster 83 = .ok (.getfield 49, 3) := by decide +kernel
theorem dX1_takeRoster_86 : decode cX1_takeRoster 86 = .ok (.ifCond .ne 21, 3) := by decide +kernel
theorem dX1_takeRoster_89 : decode cX1_takeRoster 89 = .ok (.iload_n 2, 1) := by decide +kernel
theorem dX1_takeRoster_90 : decode cX1_takeRoster 90 = .ok (.iload 4, 2) := by decide +kernel
theorem dX1_takeRoster_92 : decode cX1_takeRoster 92 = .ok (.ishr, 1) := by decide +kernel
theorem dX1_takeRoster_93 : decode cX1_takeRoster 93 = .ok (.iconst 1, 1) := by decide +kernel
theorem dX1_takeRoster_94 : decode cX1_takeRoster 94 = .ok (.iand, 1) := by decide +kernel
theorem dX1_takeRoster_95 : decode cX1_takeRoster 95 = .ok (.iconst 1, 1) := by decide +kernel
theorem dX1_takeRoster_96 : decode cX1_takeRoster 96 = .ok (.if_icmp .ne 11, 3) := by decide +kernel
theorem dX1_takeRoster_99 : decode cX1_takeRoster 99 = .ok (.aload_n 0, 1) := by decide +kernel
theorem dX1_takeRoster_100 : decode cX1_takeRoster 100 = .ok (.getfield 16, 3) := by decide +kernel
theorem dX1_takeRoster_103 : decode cX1_takeRoster 103 = .ok (.iconst 5, 1) := by decide +kernel
theorem dX1_takeRoster_104 : decode cX1_takeRoster 104 = .ok (.invokevirtual 92, 3) := by decide +kernel
theorem dX1_takeRoster_107 : decode cX1_takeRoster 107 = .ok (.aload_n 0, 1) := by decide +kernel
theorem dX1_takeRoster_108 : decode cX1_takeRoster 108 = .ok (.getfield 16, 3) := by decide +kernel
theorem dX1_takeRoster_111 : decode cX1_takeRoster 111 = .ok (.getfield 49, 3) := by decide +kernel
theorem dX1_takeRoster_114 : decode cX1_takeRoster 114 = .ok (.ifCond .ne 17, 3) := by decide +kernel
theorem dX1_takeRoster_117 : decode cX1_takeRoster 117 = .ok (.iload_n 2, 1) := by decide +kernel
theorem dX1_takeRoster_118 : decode cX1_takeRoster 118 = .ok (.iconst 1, 1) := by decide +kernel
theorem dX1_takeRoster_119 : decode cX1_takeRoster 119 = .ok (.iload 4, 2) := by decide +kernel
theorem dX1_takeRoster_121 : decode cX1_takeRoster 121 = .ok (.ishl, 1) := by decide +kernel
theorem dX1_takeRoster_122 : decode cX1_takeRoster 122 = .ok (.ior, 1) := by decide +kernel
theorem dX1_takeRoster_123 : decode cX1_takeRoster 123 = .ok (.istore_n 2, 1) := by decide +kernel
theorem dX1_takeRoster_124 : decode cX1_takeRoster 124 = .ok (.aload_n 0, 1) := by decide +kernel
theorem dX1_takeRoster_125 : decode cX1_takeRoster 125 = .ok (.getfield 16, 3) := by decide +kernel
theorem dX1_takeRoster_128 : decode cX1_takeRoster 128 = .ok (.invokevirtual 95, 3) := by decide +kernel
theorem dX1_takeRoster_131 : decode cX1_takeRoster 131 = .ok (.iinc 3 1, 3) := by decide +kernel
theorem dX1_takeRoster_134 : decode cX1_takeRoster 134 = .ok (.goto (-107), 3) := by decide +kernel
theorem dX1_takeRoster_137 : decode cX1_takeRoster 137 = .ok (.aload_n 0, 1) := by decide +kernel
theorem dX1_takeRoster_138 : decode cX1_takeRoster 138 = .ok (.getfield 16, 3) := by decide +kernel
theorem dX1_takeRoster_141 : decode cX1_takeRoster 141 = .ok (.invokevirtual 102, 3) := by decide +kernel
theorem dX1_takeRoster_144 : decode cX1_takeRoster 144 = .ok (.aload_n 0, 1) := by decide +kernel
theorem dX1_takeRoster_145 : decode cX1_takeRoster 145 = .ok (.getfield 16, 3) := by decide +kernel
theorem dX1_takeRoster_148 : decode cX1_takeRoster 148 = .ok (.getfield 49, 3) := by decide +kernel
theorem dX1_takeRoster_151 : decode cX1_takeRoster 151 = .ok (.ifCond .ne 16, 3) := by decide +kernel
theorem dX1_takeRoster_154 : decode cX1_takeRoster 154 = .ok (.aload_n 0, 1) := by decide +kernel
theorem dX1_takeRoster_155 : decode cX1_takeRoster 155 = .ok (.getfield 10, 3) := by decide +kernel
theorem dX1_takeRoster_158 : decode cX1_takeRoster 158 = .ok (.getfield 149, 3) := by decide +kernel
theorem dX1_takeRoster_161 : decode cX1_takeRoster 161 = .ok (.iload_n 1, 1) := by decide +kernel
theorem dX1_takeRoster_162 : decode cX1_takeRoster 162 = .ok (.iconst 2, 1) := by decide +kernel
theorem dX1_takeRoster_163 : decode cX1_takeRoster 163 = .ok (.iload_n 2, 1) := by decide +kernel
theorem dX1_takeRoster_164 : decode cX1_takeRoster 164 = .ok (.invokevirtual 171, 3) := by decide +kernel
theorem dX1_takeRoster_167 : decode cX1_takeRoster 167 = .ok (.return_, 1) := by decide +kernel
theorem dX2_init_0 : decode cX2_init 0 = .ok (.aload_n 0, 1) := by decide +kernel
theorem dX2_init_1 : decode cX2_init 1 = .ok (.invokespecial 1, 3) := by decide +kernel
theorem dX2_init_4 : decode cX2_init 4 = .ok (.aload_n 0, 1) := by decide +kernel
theorem dX2_init_5 : decode cX2_init 5 = .ok (.iconst 3, 1) := by decide +kernel
theorem dX2_init_6 : decode cX2_init 6 = .ok (.newarray .int, 2) := by decide +kernel
theorem dX2_init_8 : decode cX2_init 8 = .ok (.putfield 9, 3) := by decide +kernel
theorem dX2_init_11 : decode cX2_init 11 = .ok (.aload_n 0, 1) := by decide +kernel
theorem dX2_init_12 : decode cX2_init 12 = .ok (.iconst 3, 1) := by decide +kernel
theorem dX2_init_13 : decode cX2_init 13 = .ok (.newarray .int, 2) := by decide +kernel
theorem dX2_init_15 : decode cX2_init 15 = .ok (.putfield 15, 3) := by decide +kernel
theorem dX2_init_18 : decode cX2_init 18 = .ok (.aload_n 0, 1) := by decide +kernel
theorem dX2_init_19 : decode cX2_init 19 = .ok (.iconst 3, 1) := by decide +kernel
theorem dX2_init_20 : decode cX2_init 20 = .ok (.newarray .int, 2) := by decide +kernel
theorem dX2_init_22 : decode cX2_init 22 = .ok (.putfield 18, 3) := by decide +kernel
theorem dX2_init_25 : decode cX2_init 25 = .ok (.return_, 1) := by decide +kernel
theorem dX2_pass_0 : decode cX2_pass 0 = .ok (.aload_n 0, 1) := by decide +kernel
theorem dX2_pass_1 : decode cX2_pass 1 = .ok (.aload_n 1, 1) := by decide +kernel
theorem dX2_pass_2 : decode cX2_pass 2 = .ok (.iload_n 2, 1) := by decide +kernel
theorem dX2_pass_3 : decode cX2_pass 3 = .ok (.invokevirtual 21, 3) := by decide +kernel
theorem dX2_pass_6 : decode cX2_pass 6 = .ok (.iconst 0, 1) := by decide +kernel
theorem dX2_pass_7 : decode cX2_pass 7 = .ok (.istore_n 3, 1) := by decide +kernel
theorem dX2_pass_8 : decode cX2_pass 8 = .ok (.iconst 0, 1) := by decide +kernel
theorem dX2_pass_9 : decode cX2_pass 9 = .ok (.istore 4, 2) := by decide +kernel
theorem dX2_pass_11 : decode cX2_pass 11 = .ok (.iconst 0, 1) := by decide +kernel
theorem dX2_pass_12 : decode cX2_pass 12 = .ok (.istore 5, 2) := by decide +kernel
theorem dX2_pass_14 : decode cX2_pass 14 = .ok (.iload 5, 2) := by decide +kernel
theorem dX2_pass_16 : decode cX2_pass 16 = .ok (.ldc 25, 2) := by decide +kernel
theorem dX2_pass_18 : decode cX2_pass 18 = .ok (.if_icmp .ge 204, 3) := by decide +kernel
theorem dX2_pass_21 : decode cX2_pass 21 = .ok (.aload_n 0, 1) := by decide +kernel
theorem dX2_pass_22 : decode cX2_pass 22 = .ok (.getfield 26, 3) := by decide +kernel
theorem dX2_pass_25 : decode cX2_pass 25 = .ok (.ifCond .ne 197, 3) := by decide +kernel
theorem dX2_pass_28 : decode cX2_pass 28 = .ok (.iload 4, 2) := by decide +kernel
theorem dX2_pass_30 : decode cX2_pass 30 = .ok (.ifCond .le 60, 3) := by decide +kernel
theorem dX2_pass_33 : decode cX2_pass 33 = .ok (.iload_n 3, 1) := by decide +kernel
theorem dX2_pass_34 : decode cX2_pass 34 = .ok (.aload_n 0, 1) := by decide +kernel
theorem dX2_pass_35 : decode cX2_pass 35 = .ok (.getfield 15, 3) := by decide +kernel
theorem dX2_pass_38 : decode cX2_pass 38 = .ok (.iload 4, 2) := by decide +kernel
theorem dX2_pass_40 : decode cX2_pass 40 = .ok (.iconst 1, 1) := by decide +kernel
theorem dX2_pass_41 : decode cX2_pass 41 = .ok (.isub, 1) := by decide +kernel
theorem dX2_pass_42 : decode cX2_pass 42 = .ok (.iaload, 1) := by decide +kernel
theorem dX2_pass_43 : decode cX2_pass 43 = .ok (.if_icmp .lt 47, 3) := by decide +kernel
theorem dX2_pass_46 : decode cX2_pass 46 = .ok (.aload_n 0, 1) := by decide +kernel
theorem dX2_pass_47 : decode cX2_pass 47 = .ok (.getfield 18, 3) := by decide +kernel
theorem dX2_pass_50 : decode cX2_pass 50 = .ok (.iload 4, 2) := by decide +kernel
theorem dX2_pass_52 : decode cX2_pass 52 = .ok (.iconst 1, 1) := by decide +kernel
theorem dX2_pass_53 : decode cX2_pass 53 = .ok (.isub, 1) := by decide +kernel
theorem dX2_pass_54 : decode cX2_pass 54 = .ok (.dup2, 1) := by decide +kernel
theorem dX2_pass_55 : decode cX2_pass 55 = .ok (.iaload, 1) := by decide +kernel
theorem dX2_pass_56 : decode cX2_pass 56 = .ok (.iconst 1, 1) := by decide +kernel
theorem dX2_pass_57 : decode cX2_pass 57 = .ok (.isub, 1) := by decide +kernel
theorem dX2_pass_58 : decode cX2_pass 58 = .ok (.iastore, 1) := by decide +kernel
theorem dX2_pass_59 : decode cX2_pass 59 = .ok (.aload_n 0, 1) := by decide +kernel
theorem dX2_pass_60 : decode cX2_pass 60 = .ok (.getfield 18, 3) := by decide +kernel
theorem dX2_pass_63 : decode cX2_pass 63 = .ok (.iload 4, 2) := by decide +kernel
theorem dX2_pass_65 : decode cX2_pass 65 = .ok (.iconst 1, 1) := by decide +kernel
theorem dX2_pass_66 : decode cX2_pass 66 = .ok (.isub, 1) := by decide +kernel
theorem dX2_pass_67 : decode cX2_pass 67 = .ok (.iaload, 1) := by decide +kernel
theorem dX2_pass_68 : decode cX2_pass 68 = .ok (.ifCond .le 16, 3) := by decide +kernel
theorem dX2_pass_71 : decode cX2_pass 71 = .ok (.aload_n 0, 1) := by decide +kernel
theorem dX2_pass_72 : decode cX2_pass 72 = .ok (.getfield 9, 3) := by decide +kernel
theorem dX2_pass_75 : decode cX2_pass 75 = .ok (.iload 4, 2) := by decide +kernel
theorem dX2_pass_77 : decode cX2_pass 77 = .ok (.iconst 1, 1) := by decide +kernel
theorem dX2_pass_78 : decode cX2_pass 78 = .ok (.isub, 1) := by decide +kernel
theorem dX2_pass_79 : decode cX2_pass 79 = .ok (.iaload, 1) := by decide +kernel
theorem dX2_pass_80 : decode cX2_pass 80 = .ok (.istore_n 3, 1) := by decide +kernel
theorem dX2_pass_81 : decode cX2_pass 81 = .ok (.goto 135, 3) := by decide +kernel
theorem dX2_pass_84 : decode cX2_pass 84 = .ok (.iinc 4 (-1), 3) := by decide +kernel
theorem dX2_pass_87 : decode cX2_pass 87 = .ok (.goto 129, 3) := by decide +kernel
theorem dX2_pass_90 : decode cX2_pass 90 = .ok (.iload_n 3, 1) := by decide +kernel
theorem dX2_pass_91 : decode cX2_pass 91 = .ok (.aload_n 1, 1) := by decide +kernel
theorem dX2_pass_92 : decode cX2_pass 92 = .ok (.getfield 30, 3) := by decide +kernel
theorem dX2_pass_95 : decode cX2_pass 95 = .ok (.getfield 36, 3) := by decide +kernel
theorem dX2_pass_98 : decode cX2_pass 98 = .ok (.if_icmp .lt 11, 3) := by decide +kernel
theorem dX2_pass_101 : decode cX2_pass 101 = .ok (.aload_n 0, 1) := by decide +kernel
theorem dX2_pass_102 : decode cX2_pass 102 = .ok (.iconst 1, 1) := by decide +kernel
theorem dX2_pass_103 : decode cX2_pass 103 = .ok (.putfield 26, 3) := by decide +kernel
theorem dX2_pass_106 : decode cX2_pass 106 = .ok (.goto 110, 3) := by decide +kernel
theorem dX2_pass_109 : decode cX2_pass 109 = .ok (.aload_n 0, 1) := by decide +kernel
theorem dX2_pass_110 : decode cX2_pass 110 = .ok (.getfield 42, 3) := by decide +kernel
theorem dX2_pass_113 : decode cX2_pass 113 = .ok (.sipush 300, 3) := by decide +kernel
theorem dX2_pass_116 : decode cX2_pass 116 = .ok (.if_icmp .lt 16, 3) := by decide +kernel
theorem dX2_pass_119 : decode cX2_pass 119 = .ok (.aload_n 0, 1) := by decide +kernel
theorem dX2_pass_120 : decode cX2_pass 120 = .ok (.iconst 1, 1) := by decide +kernel
theorem dX2_pass_121 : decode cX2_pass 121 = .ok (.putfield 45, 3) := by decide +kernel
theorem dX2_pass_124 : decode cX2_pass 124 = .ok (.aload_n 0, 1) := by decide +kernel
theorem dX2_pass_125 : decode cX2_pass 125 = .ok (.iconst 1, 1) := by decide +kernel
theorem dX2_pass_126 : decode cX2_pass 126 = .ok (.putfield 26, 3) := by decide +kernel
theorem dX2_pass_129 : decode cX2_pass 129 = .ok (.goto 87, 3) := by decide +kernel
theorem dX2_pass_132 : decode cX2_pass 132 = .ok (.aload_n 0, 1) := by decide +kernel
theorem dX2_pass_133 : decode cX2_pass 133 = .ok (.dup, 1) := by decide +kernel
theorem dX2_pass_134 : decode cX2_pass 134 = .ok (.getfield 42, 3) := by decide +kernel
theorem dX2_pass_137 : decode cX2_pass 137 = .ok (.iconst 1, 1) := by decide +kernel
theorem dX2_pass_138 : decode cX2_pass 138 = .ok (.iadd, 1) := by decide +kernel
theorem dX2_pass_139 : decode cX2_pass 139 = .ok (.putfield 42, 3) := by decide +kernel
theorem dX2_pass_142 : decode cX2_pass 142 = .ok (.aload_n 0, 1) := by decide +kernel
theorem dX2_pass_143 : decode cX2_pass 143 = .ok (.aload_n 1, 1) := by decide +kernel
theorem dX2_pass_144 : decode cX2_pass 144 = .ok (.iload_n 3, 1) := by decide +kernel
theorem dX2_pass_145 : decode cX2_pass 145 = .ok (.invokevirtual 48, 3) := by decide +kernel
theorem dX2_pass_148 : decode cX2_pass 148 = .ok (.istore 6, 2) := by decide +kernel
theorem dX2_pass_150 : decode cX2_pass 150 = .ok (.iload_n 3, 1) := by decide +kernel
theorem dX2_pass_151 : decode cX2_pass 151 = .ok (.iconst 1, 1) := by decide +kernel
theorem dX2_pass_152 : decode cX2_pass 152 = .ok (.iadd, 1) := by decide +kernel
theorem dX2_pass_153 : decode cX2_pass 153 = .ok (.aload_n 1, 1) := by decide +kernel
theorem dX2_pass_154 : decode cX2_pass 154 = .ok (.getfield 30, 3) := by decide +kernel
theorem dX2_pass_157 : decode cX2_pass 157 = .ok (.iload_n 3, 1) := by decide +kernel
theorem dX2_pass_158 : decode cX2_pass 158 = .ok (.iconst 5, 1) := by decide +kernel
theorem dX2_pass_159 : decode cX2_pass 159 = .ok (.invokevirtual 52, 3) := by decide +kernel
theorem dX2_pass_162 : decode cX2_pass 162 = .ok (.invokestatic 56, 3) := by decide +kernel
theorem dX2_pass_165 : decode cX2_pass 165 = .ok (.istore 7, 2) := by decide +kernel
theorem dX2_pass_167 : decode cX2_pass 167 = .ok (.iinc 3 1, 3) := by decide +kernel
theorem dX2_pass_170 : decode cX2_pass 170 = .ok (.iload 6, 2) := by decide +kernel
theorem dX2_pass_172 : decode cX2_pass 172 = .ok (.ifCond .le 41, 3) := by decide +kernel
theorem dX2_pass_175 : decode cX2_pass 175 = .ok (.iload 4, 2) := by decide +kernel
theorem dX2_pass_177 : decode cX2_pass 177 = .ok (.iconst 3, 1) := by decide +kernel
theorem dX2_pass_178 : decode cX2_pass 178 = .ok (.if_icmp .ge 35, 3) := by decide +kernel
theorem dX2_pass_181 : decode cX2_pass 181 = .ok (.aload_n 0, 1) := by decide +kernel
theorem dX2_pass_182 : decode cX2_pass 182 = .ok (.getfield 9, 3) := by decide +kernel
theorem dX2_pass_185 : decode cX2_pass 185 = .ok (.iload 4, 2) := by decide +kernel
theorem dX2_pass_187 : decode cX2_pass 187 = .ok (.iload_n 3, 1) := by decide +kernel
theorem dX2_pass_188 : decode cX2_pass 188 = .ok (.iastore, 1) := by decide +kernel
theorem dX2_pass_189 : decode cX2_pass 189 = .ok (.aload_n 0, 1) := by decide +kernel
theorem dX2_pass_190 : decode cX2_pass 190 = .ok (.getfield 15, 3) := by decide +kernel
theorem dX2_pass_193 : decode cX2_pass 193 = .ok (.iload 4, 2) := by decide +kernel
theorem dX2_pass_195 : decode cX2_pass 195 = .ok (.iload 7, 2) := by decide +kernel
theorem dX2_pass_197 : decode cX2_pass 197 = .ok (.iastore, 1) := by decide +kernel
theorem dX2_pass_198 : decode cX2_pass 198 = .ok (.aload_n 0, 1) := by decide +kernel
theorem dX2_pass_199 : decode cX2_pass 199 = .ok (.getfield 18, 3) := by decide +kernel
theorem dX2_pass_202 : decode cX2_pass 202 = .ok (.iload 4, 2) := by decide +kernel
theorem dX2_pass_204 : decode cX2_pass 204 = .ok (.iload 6, 2) := by decide +kernel
theorem dX2_pass_206 : decode cX2_pass 206 = .ok (.iastore, 1) := by decide +kernel
theorem dX2_pass_207 : decode cX2_pass 207 = .ok (.iinc 4 1, 3) := by decide +kernel
theorem dX2_pass_210 : decode cX2_pass 210 = .ok (.goto 6, 3) := by decide +kernel
theorem dX2_pass_213 : decode cX2_pass 213 = .ok (.iload 7, 2) := by decide +kernel
theorem dX2_pass_215 : decode cX2_pass 215 = .ok (.istore_n 3, 1) := by decide +kernel
theorem dX2_pass_216 : decode cX2_pass 216 = .ok (.iinc 5 1, 3) := by decide +kernel
theorem dX2_pass_219 : decode cX2_pass 219 = .ok (.goto (-205), 3) := by decide +kernel
theorem dX2_pass_222 : decode cX2_pass 222 = .ok (.aload_n 0, 1) := by decide +kernel
theorem dX2_pass_223 : decode cX2_pass 223 = .ok (.aload_n 1, 1) := by decide +kernel
theorem dX2_pass_224 : decode cX2_pass 224 = .ok (.iconst 1, 1) := by decide +kernel
theorem dX2_pass_225 : decode cX2_pass 225 = .ok (.invokevirtual 61, 3) := by decide +kernel
theorem dX2_pass_228 : decode cX2_pass 228 = .ok (.aload_n 0, 1) := by decide +kernel
theorem dX2_pass_229 : decode cX2_pass 229 = .ok (.getfield 42, 3) := by decide +kernel
theorem dX2_pass_232 : decode cX2_pass 232 = .ok (.ireturn, 1) := by decide +kernel
theorem dX2_begin_0 : decode cX2_begin 0 = .ok (.aload_n 0, 1) := by decide +kernel
theorem dX2_begin_1 : decode cX2_begin 1 = .ok (.iload_n 2, 1) := by decide +kernel
theorem dX2_begin_2 : decode cX2_begin 2 = .ok (.putfield 64, 3) := by decide +kernel
theorem dX2_begin_5 : decode cX2_begin 5 = .ok (.aload_n 0, 1) := by decide +kernel
theorem dX2_begin_6 : decode cX2_begin 6 = .ok (.iconst 0, 1) := by decide +kernel
theorem dX2_begin_7 : decode cX2_begin 7 = .ok (.putfield 42, 3) := by decide +kernel
theorem dX2_begin_10 : decode cX2_begin 10 = .ok (.aload_n 0, 1) := by decide +kernel
theorem dX2_begin_11 : decode cX2_begin 11 = .ok (.iconst 0, 1) := by decide +kernel
theorem dX2_begin_12 : decode cX2_begin 12 = .ok (.putfield 26, 3) := by decide +kernel
theorem dX2_begin_15 : decode cX2_begin 15 = .ok (.aload_n 0, 1) := by decide +kernel
theorem dX2_begin_16 : decode cX2_begin 16 = .ok (.iconst 0, 1) := by decide +kernel
theorem dX2_begin_17 : decode cX2_begin 17 = .ok (.putfield 67, 3) := by decide +kernel
theorem dX2_begin_20 : decode cX2_begin 20 = .ok (.aload_n 0, 1) := by decide +kernel
theorem dX2_begin_21 : decode cX2_begin 21 = .ok (.iconst 0, 1) := by decide +kernel
theorem dX2_begin_22 : decode cX2_begin 22 = .ok (.putfield 45, 3) := by decide +kernel
theorem dX2_begin_25 : decode cX2_begin 25 = .ok (.aload_n 0, 1) := by decide +kernel
theorem dX2_begin_26 : decode cX2_begin 26 = .ok (.iconst 0, 1) := by decide +kernel
theorem dX2_begin_27 : decode cX2_begin 27 = .ok (.putfield 70, 3) := by decide +kernel
theorem dX2_begin_30 : decode cX2_begin 30 = .ok (.aload_n 0, 1) := by decide +kernel
theorem dX2_begin_31 : decode cX2_begin 31 = .ok (.iconst 0, 1) := by decide +kernel
theorem dX2_begin_32 : decode cX2_begin 32 = .ok (.putfield 73, 3) := by decide +kernel
theorem dX2_begin_35 : decode cX2_begin 35 = .ok (.aload_n 0, 1) := by decide +kernel
theorem dX2_begin_36 : decode cX2_begin 36 = .ok (.iconst 0, 1) := by decide +kernel
theorem dX2_begin_37 : decode cX2_begin 37 = .ok (.putfield 76, 3) := by decide +kernel
theorem dX2_begin_40 : decode cX2_begin 40 = .ok (.aload_n 0, 1) := by decide +kernel
theorem dX2_begin_41 : decode cX2_begin 41 = .ok (.aload_n 1, 1) := by decide +kernel
theorem dX2_begin_42 : decode cX2_begin 42 = .ok (.iconst (-1), 1) := by decide +kernel
theorem dX2_begin_43 : decode cX2_begin 43 = .ok (.invokevirtual 61, 3) := by decide +kernel
theorem dX2_begin_46 : decode cX2_begin 46 = .ok (.return_, 1) := by decide +kernel
theorem dX2_addTallies_0 : decode cX2_addTallies 0 = .ok (.aload_n 0, 1) := by decide +kernel
theorem dX2_addTallies_1 : decode cX2_addTallies 1 = .ok (.dup, 1) := by decide +kernel
theorem dX2_addTallies_2 : decode cX2_addTallies 2 = .ok (.getfield 70, 3) := by decide +kernel
theorem dX2_addTallies_5 : decode cX2_addTallies 5 = .ok (.iload_n 2, 1) := by decide +kernel
theorem dX2_addTallies_6 : decode cX2_addTallies 6 = .ok (.aload_n 1, 1) := by decide +kernel
theorem dX2_addTallies_7 : decode cX2_addTallies 7 = .ok (.getfield 79, 3) := by decide +kernel
theorem dX2_addTallies_10 : decode cX2_addTallies 10 = .ok (.imul, 1) := by decide +kernel
theorem dX2_addTallies_11 : decode cX2_addTallies 11 = .ok (.iadd, 1) := by decide +kernel
theorem dX2_addTallies_12 : decode cX2_addTallies 12 = .ok (.putfield 70, 3) := by decide +kernel
theorem dX2_addTallies_15 : decode cX2_addTallies 15 = .ok (.aload_n 0, 1) := by decide +kernel
theorem dX2_addTallies_16 : decode cX2_addTallies 16 = .ok (.dup, 1) := by decide +kernel
theorem dX2_addTallies_17 : decode cX2_addTallies 17 = .ok (.getfield 73, 3) := by decide +kernel
theorem dX2_addTallies_20 : decode cX2_addTallies 20 = .ok (.iload_n 2, 1) := by decide +kernel
theorem dX2_addTallies_21 : decode cX2_addTallies 21 = .ok (.aload_n 1, 1) := by decide +kernel
theorem dX2_addTallies_22 : decode cX2_addTallies 22 = .ok (.iconst 1, 1) := by decide +kernel
theorem dX2_addTallies_23 : decode cX2_addTallies 23 = .ok (.invokevirtual 82, 3) := by decide +kernel
theorem dX2_addTallies_26 : decode cX2_addTallies 26 = .ok (.invokestatic 86, 3) := by decide +kernel
theorem dX2_addTallies_29 : decode cX2_addTallies 29 = .ok (.imul, 1) := by decide +kernel
theorem dX2_addTallies_30 : decode cX2_addTallies 30 = .ok (.iadd, 1) := by decide +kernel
theorem dX2_addTallies_31 : decode cX2_addTallies 31 = .ok (.putfield 73, 3) := by decide +kernel
theorem dX2_addTallies_34 : decode cX2_addTallies 34 = .ok (.aload_n 0, 1) := by decide +kernel
theorem dX2_addTallies_35 : decode cX2_addTallies 35 = .ok (.dup, 1) := by decide +kernel
theorem dX2_addTallies_36 : decode cX2_addTallies 36 = .ok (.getfield 76, 3) := by decide +kernel
theorem dX2_addTallies_39 : decode cX2_addTallies 39 = .ok (.iload_n 2, 1) := by decide +kernel
theorem dX2_addTallies_40 : decode cX2_addTallies 40 = .ok (.aload_n 1, 1) := by decide +kernel
theorem dX2_addTallies_41 : decode cX2_addTallies 41 = .ok (.getfield 91, 3) := by decide +kernel
theorem dX2_addTallies_44 : decode cX2_addTallies 44 = .ok (.iconst 2, 1) := by decide +kernel
theorem dX2_addTallies_45 : decode cX2_addTallies 45 = .ok (.invokevirtual 94, 3) := by decide +kernel
theorem dX2_addTallies_48 : decode cX2_addTallies 48 = .ok (.imul, 1) := by decide +kernel
theorem dX2_addTallies_49 : decode cX2_addTallies 49 = .ok (.iadd, 1) := by decide +kernel
theorem dX2_addTallies_50 : decode cX2_addTallies 50 = .ok (.putfield 76, 3) := by decide +kernel
theorem dX2_addTallies_53 : decode cX2_addTallies 53 = .ok (.return_, 1) := by decide +kernel
theorem dX2_tells_0 : decode cX2_tells 0 = .ok (.iload_n 1, 1) := by decide +kernel
theorem dX2_tells_1 : decode cX2_tells 1 = .ok (.tableswitch 51 0 3 #[31, 36, 41, 46], 31) := by decide +kernel
theorem dX2_tells_32 : decode cX2_tells 32 = .ok (.aload_n 0, 1) := by decide +kernel
theorem dX2_tells_33 : decode cX2_tells 33 = .ok (.getfield 67, 3) := by decide +kernel
theorem dX2_tells_36 : decode cX2_tells 36 = .ok (.ireturn, 1) := by decide +kernel
theorem dX2_tells_37 : decode cX2_tells 37 = .ok (.aload_n 0, 1) := by decide +kernel
theorem dX2_tells_38 : decode cX2_tells 38 = .ok (.getfield 70, 3) := by decide +kernel
theorem dX2_tells_41 : decode cX2_tells 41 = .ok (.ireturn, 1) := by decide +kernel
theorem dX2_tells_42 : decode cX2_tells 42 = .ok (.aload_n 0, 1) := by decide +kernel
theorem dX2_tells_43 : decode cX2_tells 43 = .ok (.getfield 73, 3) := by decide +kernel
theorem dX2_tells_46 : decode cX2_tells 46 = .ok (.ireturn, 1) := by decide +kernel
theorem dX2_tells_47 : decode cX2_tells 47 = .ok (.aload_n 0, 1) := by decide +kernel
theorem dX2_tells_48 : decode cX2_tells 48 = .ok (.getfield 76, 3) := by decide +kernel
theorem dX2_tells_51 : decode cX2_tells 51 = .ok (.ireturn, 1) := by decide +kernel
theorem dX2_tells_52 : decode cX2_tells 52 = .ok (.aload_n 0, 1) := by decide +kernel
theorem dX2_tells_53 : decode cX2_tells 53 = .ok (.getfield 45, 3) := by decide +kernel
theorem dX2_tells_56 : decode cX2_tells 56 = .ok (.ireturn, 1) := by decide +kernel
theorem dX2_timesOf_0 : decode cX2_timesOf 0 = .ok (.aload_n 1, 1) := by decide +kernel
theorem dX2_timesOf_1 : decode cX2_timesOf 1 = .ok (.getfield 30, 3) := by decide +kernel
theorem dX2_timesOf_4 : decode cX2_timesOf 4 = .ok (.iload_n 2, 1) := by decide +kernel
theorem dX2_timesOf_5 : decode cX2_timesOf 5 = .ok (.iconst 1, 1) := by decide +kernel
theorem dX2_timesOf_6 : decode cX2_timesOf 6 = .ok (.invokevirtual 52, 3) := by decide +kernel
theorem dX2_timesOf_9 : decode cX2_timesOf 9 = .ok (.istore_n 3, 1) := by decide +kernel
theorem dX2_timesOf_10 : decode cX2_timesOf 10 = .ok (.aload_n 1, 1) := by decide +kernel
theorem dX2_timesOf_11 : decode cX2_timesOf 11 = .ok (.getfield 30, 3) := by decide +kernel
theorem dX2_timesOf_14 : decode cX2_timesOf 14 = .ok (.iload_n 2, 1) := by decide +kernel
theorem dX2_timesOf_15 : decode cX2_timesOf 15 = .ok (.iconst 2, 1) := by decide +kernel
theorem dX2_timesOf_16 : decode cX2_timesOf 16 = .ok (.invokevirtual 52, 3) := by decide +kernel
theorem dX2_timesOf_19 : decode cX2_timesOf 19 = .ok (.istore 4, 2) := by decide +kernel
theorem dX2_timesOf_21 : decode cX2_timesOf 21 = .ok (.iconst 1, 1) := by decide +kernel
theorem dX2_timesOf_22 : decode cX2_timesOf 22 = .ok (.istore 5, 2) := by decide +kernel
theorem dX2_timesOf_24 : decode cX2_timesOf 24 = .ok (.aload_n 1, 1) := by decide +kernel
theorem dX2_timesOf_25 : decode cX2_timesOf 25 = .ok (.getfield 30, 3) := by decide +kernel
theorem dX2_timesOf_28 : decode cX2_timesOf 28 = .ok (.iload_n 2, 1) := by decide +kernel
theorem dX2_timesOf_29 : decode cX2_timesOf 29 = .ok (.iconst 0, 1) := by decide +kernel
theorem dX2_timesOf_30 : decode cX2_timesOf 30 = .ok (.invokevirtual 52, 3) := by decide +kernel
theorem dX2_timesOf_33 : decode cX2_timesOf 33 = .ok (.tableswitch 146 10 23 #[71, 146, 146, 146, 146, 93, 103, 115, 125, 146, 146, 146, 146, 143], 71) := by decide +kernel
theorem dX2_timesOf_104 : decode cX2_timesOf 104 = .ok (.aload_n 1, 1) := by decide +kernel
theorem dX2_timesOf_105 : decode cX2_timesOf 105 = .ok (.iload 4, 2) := by decide +kernel
theorem dX2_timesOf_107 : decode cX2_timesOf 107 = .ok (.invokevirtual 97, 3) := by decide +kernel
theorem dX2_timesOf_110 : decode cX2_timesOf 110 = .ok (.istore 5, 2) := by decide +kernel
theorem dX2_timesOf_112 : decode cX2_timesOf 112 = .ok (.iload 5, 2) := by decide +kernel
theorem dX2_timesOf_114 : decode cX2_timesOf 114 = .ok (.ifCond .eq 70, 3) := by decide +kernel
theorem dX2_timesOf_117 : decode cX2_timesOf 117 = .ok (.aload_n 1, 1) := by decide +kernel
theorem dX2_timesOf_118 : decode cX2_timesOf 118 = .ok (.iload 4, 2) := by decide +kernel
theorem dX2_timesOf_120 : decode cX2_timesOf 120 = .ok (.invokevirtual 101, 3) := by decide +kernel
theorem dX2_timesOf_123 : decode cX2_timesOf 123 = .ok (.goto 61, 3) := by decide +kernel
theorem dX2_timesOf_126 : decode cX2_timesOf 126 = .ok (.aload_n 1, 1) := by decide +kernel
theorem dX2_timesOf_127 : decode cX2_timesOf 127 = .ok (.iload_n 3, 1) := by decide +kernel
theorem dX2_timesOf_128 : decode cX2_timesOf 128 = .ok (.iload 4, 2) := by decide +kernel
theorem dX2_timesOf_130 : decode cX2_timesOf 130 = .ok (.invokevirtual 105, 3) := by decide +kernel
theorem dX2_timesOf_133 : decode cX2_timesOf 133 = .ok (.goto 51, 3) := by decide +kernel
theorem dX2_timesOf_136 : decode cX2_timesOf 136 = .ok (.aload_n 1, 1) := by decide +kernel
theorem dX2_timesOf_137 : decode cX2_timesOf 137 = .ok (.iload_n 3, 1) := by decide +kernel
theorem dX2_timesOf_138 : decode cX2_timesOf 138 = .ok (.iload 4, 2) := by decide +kernel
theorem dX2_timesOf_140 : decode cX2_timesOf 140 = .ok (.invokevirtual 109, 3) := by decide +kernel
theorem dX2_timesOf_143 : decode cX2_timesOf 143 = .ok (.istore 5, 2) := by decide +kernel
theorem dX2_timesOf_145 : decode cX2_timesOf 145 = .ok (.goto 39, 3) := by decide +kernel
theorem dX2_timesOf_148 : decode cX2_timesOf 148 = .ok (.aload_n 0, 1) := by decide +kernel
theorem dX2_timesOf_149 : decode cX2_timesOf 149 = .ok (.aload_n 1, 1) := by decide +kernel
theorem dX2_timesOf_150 : decode cX2_timesOf 150 = .ok (.invokevirtual 113, 3) := by decide +kernel
theorem dX2_timesOf_153 : decode cX2_timesOf 153 = .ok (.istore 5, 2) := by decide +kernel
theorem dX2_timesOf_155 : decode cX2_timesOf 155 = .ok (.goto 29, 3) := by decide +kernel
theorem dX2_timesOf_158 : decode cX2_timesOf 158 = .ok (.aload_n 0, 1) := by decide +kernel
theorem dX2_timesOf_159 : decode cX2_timesOf 159 = .ok (.aload_n 1, 1) := by decide +kernel
theorem dX2_timesOf_160 : decode cX2_timesOf 160 = .ok (.iload_n 2, 1) := by decide +kernel
theorem dX2_timesOf_161 : decode cX2_timesOf 161 = .ok (.iload_n 3, 1) := by decide +kernel
theorem dX2_timesOf_162 : decode cX2_timesOf 162 = .ok (.iload 4, 2) := by decide +kernel
theorem dX2_timesOf_164 : decode cX2_timesOf 164 = .ok (.invokevirtual 117, 3) := by decide +kernel
theorem dX2_timesOf_167 : decode cX2_timesOf 167 = .ok (.ifCond .eq 7, 3) := by decide +kernel
theorem dX2_timesOf_170 : decode cX2_timesOf 170 = .ok (.iconst 1, 1) := by decide +kernel
theorem dX2_timesOf_171 : decode cX2_timesOf 171 = .ok (.goto 4, 3) := by decide +kernel
theorem dX2_timesOf_174 : decode cX2_timesOf 174 = .ok (.iconst 0, 1) := by decide +kernel
theorem dX2_timesOf_175 : decode cX2_timesOf 175 = .ok (.ireturn, 1) := by decide +kernel
theorem dX2_timesOf_176 : decode cX2_timesOf 176 = .ok (.iload 4, 2) := by decide +kernel
theorem dX2_timesOf_178 : decode cX2_timesOf 178 = .ok (.ireturn, 1) := by decide +kernel
theorem dX2_timesOf_179 : decode cX2_timesOf 179 = .ok (.aload_n 0, 1) := by decide +kernel
theorem dX2_timesOf_180 : decode cX2_timesOf 180 = .ok (.iconst 1, 1) := by decide +kernel
theorem dX2_timesOf_181 : decode cX2_timesOf 181 = .ok (.putfield 26, 3) := by decide +kernel
theorem dX2_timesOf_184 : decode cX2_timesOf 184 = .ok (.iload 5, 2) := by decide +kernel
theorem dX2_timesOf_186 : decode cX2_timesOf 186 = .ok (.ifCond .ne 13, 3) := by decide +kernel
theorem dX2_timesOf_189 : decode cX2_timesOf 189 = .ok (.aload_n 0, 1) := by decide +kernel
theorem dX2_timesOf_190 : decode cX2_timesOf 190 = .ok (.dup, 1) := by decide +kernel
theorem dX2_timesOf_191 : decode cX2_timesOf 191 = .ok (.getfield 67, 3) := by decide +kernel
theorem dX2_timesOf_194 : decode cX2_timesOf 194 = .ok (.iconst 1, 1) := by decide +kernel
theorem dX2_timesOf_195 : decode cX2_timesOf 195 = .ok (.iadd, 1) := by decide +kernel
theorem dX2_timesOf_196 : decode cX2_timesOf 196 = .ok (.putfield 67, 3) := by decide +kernel
theorem dX2_timesOf_199 : decode cX2_timesOf 199 = .ok (.iconst 0, 1) := by decide +kernel
theorem dX2_timesOf_200 : decode cX2_timesOf 200 = .ok (.ireturn, 1) := by decide +kernel
theorem dX2_holds_0 : decode cX2_holds 0 = .ok (.aload_n 1, 1) := by decide +kernel
theorem dX2_holds_1 : decode cX2_holds 1 = .ok (.getfield 30, 3) := by decide +kernel
theorem dX2_holds_4 : decode cX2_holds 4 = .ok (.iload_n 2, 1) := by decide +kernel
theorem dX2_holds_5 : decode cX2_holds 5 = .ok (.iconst 3, 1) := by decide +kernel
theorem dX2_holds_6 : decode cX2_holds 6 = .ok (.invokevirtual 52, 3) := by decide +kernel
theorem dX2_holds_9 : decode cX2_holds 9 = .ok (.tableswitch 69 19 21 #[27, 47, 55], 27) := by decide +kernel
theorem dX2_holds_36 : decode cX2_holds 36 = .ok (.aload_n 1, 1) := by decide +kernel
theorem dX2_holds_37 : decode cX2_holds 37 = .ok (.getfield 121, 3) := by decide +kernel
theorem dX2_holds_40 : decode cX2_holds 40 = .ok (.iload_n 3, 1) := by decide +kernel
theorem dX2_holds_41 : decode cX2_holds 41 = .ok (.iconst 3, 1) := by decide +kernel
theorem dX2_holds_42 : decode cX2_holds 42 = .ok (.invokevirtual 52, 3) := by decide +kernel
theorem dX2_holds_45 : decode cX2_holds 45 = .ok (.iload 4, 2) := by decide +kernel
theorem dX2_holds_47 : decode cX2_holds 47 = .ok (.if_icmp .ne 7, 3) := by decide +kernel
theorem dX2_holds_50 : decode cX2_holds 50 = .ok (.iconst 1, 1) := by decide +kernel
theorem dX2_holds_51 : decode cX2_holds 51 = .ok (.goto 4, 3) := by decide +kernel
theorem dX2_holds_54 : decode cX2_holds 54 = .ok (.iconst 0, 1) := by decide +kernel
theorem dX2_holds_55 : decode cX2_holds 55 = .ok (.ireturn, 1) := by decide +kernel
theorem dX2_holds_56 : decode cX2_holds 56 = .ok (.aload_n 1, 1) := by decide +kernel
theorem dX2_holds_57 : decode cX2_holds 57 = .ok (.iload_n 3, 1) := by decide +kernel
theorem dX2_holds_58 : decode cX2_holds 58 = .ok (.iload 4, 2) := by decide +kernel
theorem dX2_holds_60 : decode cX2_holds 60 = .ok (.invokevirtual 124, 3) := by decide +kernel
theorem dX2_holds_63 : decode cX2_holds 63 = .ok (.ireturn, 1) := by decide +kernel
theorem dX2_holds_64 : decode cX2_holds 64 = .ok (.aload_n 1, 1) := by decide +kernel
theorem dX2_holds_65 : decode cX2_holds 65 = .ok (.iload_n 3, 1) := by decide +kernel
theorem dX2_holds_66 : decode cX2_holds 66 = .ok (.invokevirtual 127, 3) := by decide +kernel
theorem dX2_holds_69 : decode cX2_holds 69 = .ok (.ifCond .ne 7, 3) := by decide +kernel
theorem dX2_holds_72 : decode cX2_holds 72 = .ok (.iconst 1, 1) := by decide +kernel
theorem dX2_holds_73 : decode cX2_holds 73 = .ok (.goto 4, 3) := by decide +kernel
theorem dX2_holds_76 : decode cX2_holds 76 = .ok (.iconst 0, 1) := by decide +kernel
theorem dX2_holds_77 : decode cX2_holds 77 = .ok (.ireturn, 1) := by decide +kernel
theorem dX2_holds_78 : decode cX2_holds 78 = .ok (.aload_n 1, 1) := by decide +kernel
theorem dX2_holds_79 : decode cX2_holds 79 = .ok (.getfield 91, 3) := by decide +kernel
theorem dX2_holds_82 : decode cX2_holds 82 = .ok (.iload_n 3, 1) := by decide +kernel
theorem dX2_holds_83 : decode cX2_holds 83 = .ok (.iconst 2, 1) := by decide +kernel
theorem dX2_holds_84 : decode cX2_holds 84 = .ok (.invokevirtual 52, 3) := by decide +kernel
theorem dX2_holds_87 : decode cX2_holds 87 = .ok (.aload_n 1, 1) := by decide +kernel
theorem dX2_holds_88 : decode cX2_holds 88 = .ok (.getfield 30, 3) := by decide +kernel
theorem dX2_holds_91 : decode cX2_holds 91 = .ok (.iload_n 2, 1) := by decide +kernel
theorem dX2_holds_92 : decode cX2_holds 92 = .ok (.iconst 4, 1) := by decide +kernel
theorem dX2_holds_93 : decode cX2_holds 93 = .ok (.invokevirtual 52, 3) := by decide +kernel
theorem dX2_holds_96 : decode cX2_holds 96 = .ok (.iload 4, 2) := by decide +kernel
theorem dX2_holds_98 : decode cX2_holds 98 = .ok (.invokestatic 130, 3) := by decide +kernel
theorem dX2_holds_101 : decode cX2_holds 101 = .ok (.ireturn, 1) := by decide +kernel
theorem dX2_compares_0 : decode cX2_compares 0 = .ok (.iload_n 1, 1) := by decide +kernel
theorem dX2_compares_1 : decode cX2_compares 1 = .ok (.bipush 60, 2) := by decide +kernel
theorem dX2_compares_3 : decode cX2_compares 3 = .ok (.if_icmp .ne 14, 3) := by decide +kernel
theorem dX2_compares_6 : decode cX2_compares 6 = .ok (.iload_n 0, 1) := by decide +kernel
theorem dX2_compares_7 : decode cX2_compares 7 = .ok (.iload_n 2, 1) := by decide +kernel
theorem dX2_compares_8 : decode cX2_compares 8 = .ok (.if_icmp .ge 7, 3) := by decide +kernel
theorem dX2_compares_11 : decode cX2_compares 11 = .ok (.iconst 1, 1) := by decide +kernel
theorem dX2_compares_12 : decode cX2_compares 12 = .ok (.goto 4, 3) := by decide +kernel
theorem dX2_compares_15 : decode cX2_compares 15 = .ok (.iconst 0, 1) := by decide +kernel
theorem dX2_compares_16 : decode cX2_compares 16 = .ok (.ireturn, 1) := by decide +kernel
theorem dX2_compares_17 : decode cX2_compares 17 = .ok (.iload_n 1, 1) := by decide +kernel
theorem dX2_compares_18 : decode cX2_compares 18 = .ok (.bipush 62, 2) := by decide +kernel
theorem dX2_compares_20 : decode cX2_compares 20 = .ok (.if_icmp .ne 16, 3) := by decide +kernel
theorem dX2_compares_23 : decode cX2_compares 23 = .ok (.iload_n 0, 1) := by decide +kernel
theorem dX2_compares_24 : decode cX2_compares 24 = .ok (.iload_n 2, 1) := by decide +kernel
theorem dX2_compares_25 : decode cX2_compares 25 = .ok (.if_icmp .le 7, 3) := by decide +kernel
theorem dX2_compares_28 : decode cX2_compares 28 = .ok (.iconst 1, 1) := by decide +kernel
theorem dX2_compares_29 : decode cX2_compares 29 = .ok (.goto 17, 3) := by decide +kernel
theorem dX2_compares_32 : decode cX2_compares 32 = .ok (.iconst 0, 1) := by decide +kernel
theorem dX2_compares_33 : decode cX2_compares 33 = .ok (.goto 13, 3) := by decide +kernel
theorem dX2_compares_36 : decode cX2_compares 36 = .ok (.iload_n 0, 1) := by decide +kernel
theorem dX2_compares_37 : decode cX2_compares 37 = .ok (.iload_n 2, 1) := by decide +kernel
theorem dX2_compares_38 : decode cX2_compares 38 = .ok (.if_icmp .ne 7, 3) := by decide +kernel
theorem dX2_compares_41 : decode cX2_compares 41 = .ok (.iconst 1, 1) := by decide +kernel
theorem dX2_compares_42 : decode cX2_compares 42 = .ok (.goto 4, 3) := by decide +kernel
theorem dX2_compares_45 : decode cX2_compares 45 = .ok (.iconst 0, 1) := by decide +kernel
theorem dX2_compares_46 : decode cX2_compares 46 = .ok (.ireturn, 1) := by decide +kernel
theorem dX2_oneFalls_0 : decode cX2_oneFalls 0 = .ok (.aload_n 1, 1) := by decide +kernel
theorem dX2_oneFalls_1 : decode cX2_oneFalls 1 = .ok (.getfield 134, 3) := by decide +kernel
theorem dX2_oneFalls_4 : decode cX2_oneFalls 4 = .ok (.getfield 36, 3) := by decide +kernel
theorem dX2_oneFalls_7 : decode cX2_oneFalls 7 = .ok (.istore_n 2, 1) := by decide +kernel
theorem dX2_oneFalls_8 : decode cX2_oneFalls 8 = .ok (.iload_n 2, 1) := by decide +kernel
theorem dX2_oneFalls_9 : decode cX2_oneFalls 9 = .ok (.iconst 1, 1) := by decide +kernel
theorem dX2_oneFalls_10 : decode cX2_oneFalls 10 = .ok (.if_icmp .ge 5, 3) := by decide +kernel
theorem dX2_oneFalls_13 : decode cX2_oneFalls 13 = .ok (.iconst 0, 1) := by decide +kernel
theorem dX2_oneFalls_14 : decode cX2_oneFalls 14 = .ok (.ireturn, 1) := by decide +kernel
theorem dX2_oneFalls_15 : decode cX2_oneFalls 15 = .ok (.aload_n 0, 1) := by decide +kernel
theorem dX2_oneFalls_16 : decode cX2_oneFalls 16 = .ok (.aload_n 0, 1) := by decide +kernel
theorem dX2_oneFalls_17 : decode cX2_oneFalls 17 = .ok (.getfield 64, 3) := by decide +kernel
theorem dX2_oneFalls_20 : decode cX2_oneFalls 20 = .ok (.sipush 3121, 3) := by decide +kernel
theorem dX2_oneFalls_23 : decode cX2_oneFalls 23 = .ok (.imul, 1) := by decide +kernel
theorem dX2_oneFalls_24 : decode cX2_oneFalls 24 = .ok (.sipush 11351, 3) := by decide +kernel
theorem dX2_oneFalls_27 : decode cX2_oneFalls 27 = .ok (.iadd, 1) := by decide +kernel
theorem dX2_oneFalls_28 : decode cX2_oneFalls 28 = .ok (.ldc 137, 2) := by decide +kernel
theorem dX2_oneFalls_30 : decode cX2_oneFalls 30 = .ok (.irem, 1) := by decide +kernel
theorem dX2_oneFalls_31 : decode cX2_oneFalls 31 = .ok (.putfield 64, 3) := by decide +kernel
theorem dX2_oneFalls_34 : decode cX2_oneFalls 34 = .ok (.aload_n 0, 1) := by decide +kernel
theorem dX2_oneFalls_35 : decode cX2_oneFalls 35 = .ok (.getfield 64, 3) := by decide +kernel
theorem dX2_oneFalls_38 : decode cX2_oneFalls 38 = .ok (.bipush 8, 2) := by decide +kernel
theorem dX2_oneFalls_40 : decode cX2_oneFalls 40 = .ok (.idiv, 1) := by decide +kernel
theorem dX2_oneFalls_41 : decode cX2_oneFalls 41 = .ok (.iload_n 2, 1) := by decide +kernel
theorem dX2_oneFalls_42 : decode cX2_oneFalls 42 = .ok (.irem, 1) := by decide +kernel
theorem dX2_oneFalls_43 : decode cX2_oneFalls 43 = .ok (.istore_n 3, 1) := by decide +kernel
theorem dX2_oneFalls_44 : decode cX2_oneFalls 44 = .ok (.aload_n 1, 1) := by decide +kernel
theorem dX2_oneFalls_45 : decode cX2_oneFalls 45 = .ok (.getfield 134, 3) := by decide +kernel
theorem dX2_oneFalls_48 : decode cX2_oneFalls 48 = .ok (.iload_n 3, 1) := by decide +kernel
theorem dX2_oneFalls_49 : decode cX2_oneFalls 49 = .ok (.iconst 1, 1) := by decide +kernel
theorem dX2_oneFalls_50 : decode cX2_oneFalls 50 = .ok (.invokevirtual 52, 3) := by decide +kernel
theorem dX2_oneFalls_53 : decode cX2_oneFalls 53 = .ok (.ifCond .le 5, 3) := by decide +kernel
theorem dX2_oneFalls_56 : decode cX2_oneFalls 56 = .ok (.iconst 0, 1) := by decide +kernel
theorem dX2_oneFalls_57 : decode cX2_oneFalls 57 = .ok (.ireturn, 1) := by decide +kernel
theorem dX2_oneFalls_58 : decode cX2_oneFalls 58 = .ok (.aload_n 1, 1) := by decide +kernel
theorem dX2_oneFalls_59 : decode cX2_oneFalls 59 = .ok (.getfield 134, 3) := by decide +kernel
theorem dX2_oneFalls_62 : decode cX2_oneFalls 62 = .ok (.iload_n 3, 1) := by decide +kernel
theorem dX2_oneFalls_63 : decode cX2_oneFalls 63 = .ok (.iconst 0, 1) := by decide +kernel
theorem dX2_oneFalls_64 : decode cX2_oneFalls 64 = .ok (.invokevirtual 52, 3) := by decide +kernel
theorem dX2_oneFalls_67 : decode cX2_oneFalls 67 = .ok (.istore 4, 2) := by decide +kernel
theorem dX2_oneFalls_69 : decode cX2_oneFalls 69 = .ok (.iconst 0, 1) := by decide +kernel
theorem dX2_oneFalls_70 : decode cX2_oneFalls 70 = .ok (.istore 5, 2) := by decide +kernel
theorem dX2_oneFalls_72 : decode cX2_oneFalls 72 = .ok (.iload 5, 2) := by decide +kernel
theorem dX2_oneFalls_74 : decode cX2_oneFalls 74 = .ok (.aload_n 1, 1) := by decide +kernel
theorem dX2_oneFalls_75 : decode cX2_oneFalls 75 = .ok (.getfield 91, 3) := by decide +kernel
theorem dX2_oneFalls_78 : decode cX2_oneFalls 78 = .ok (.getfield 36, 3) := by decide +kernel
theorem dX2_oneFalls_81 : decode cX2_oneFalls 81 = .ok (.if_icmp .ge 30, 3) := by decide +kernel
theorem dX2_oneFalls_84 : decode cX2_oneFalls 84 = .ok (.aload_n 1, 1) := by decide +kernel
theorem dX2_oneFalls_85 : decode cX2_oneFalls 85 = .ok (.getfield 91, 3) := by decide +kernel
theorem dX2_oneFalls_88 : decode cX2_oneFalls 88 = .ok (.iload 5, 2) := by decide +kernel
theorem dX2_oneFalls_90 : decode cX2_oneFalls 90 = .ok (.iconst 0, 1) := by decide +kernel
theorem dX2_oneFalls_91 : decode cX2_oneFalls 91 = .ok (.invokevirtual 52, 3) := by decide +kernel
theorem dX2_oneFalls_94 : decode cX2_oneFalls 94 = .ok (.iload 4, 2) := by decide +kernel
theorem dX2_oneFalls_96 : decode cX2_oneFalls 96 = .ok (.if_icmp .ne 9, 3) := by decide +kernel
theorem dX2_oneFalls_99 : decode cX2_oneFalls 99 = .ok (.aload_n 1, 1) := by decide +kernel
theorem dX2_oneFalls_100 : decode cX2_oneFalls 100 = .ok (.iload 5, 2) := by decide +kernel
theorem dX2_oneFalls_102 : decode cX2_oneFalls 102 = .ok (.invokevirtual 138, 3) := by decide +kernel
theorem dX2_oneFalls_105 : decode cX2_oneFalls 105 = .ok (.iinc 5 1, 3) := by decide +kernel
theorem dX2_oneFalls_108 : decode cX2_oneFalls 108 = .ok (.goto (-36), 3) := by decide +kernel
theorem dX2_oneFalls_111 : decode cX2_oneFalls 111 = .ok (.iconst 1, 1) := by decide +kernel
theorem dX2_oneFalls_112 : decode cX2_oneFalls 112 = .ok (.ireturn, 1) := by decide +kernel
theorem dX3_init_0 : decode cX3_init 0 = .ok (.aload_n 0, 1) := by decide +kernel
theorem dX3_init_1 : decode cX3_init 1 = .ok (.invokespecial 3, 3) := by decide +kernel
theorem dX3_init_4 : decode cX3_init 4 = .ok (.aload_n 0, 1) := by decide +kernel
theorem dX3_init_5 : decode cX3_init 5 = .ok (.bipush 27, 2) := by decide +kernel
theorem dX3_init_7 : decode cX3_init 7 = .ok (.newarray .long, 2) := by decide +kernel
theorem dX3_init_9 : decode cX3_init 9 = .ok (.putfield 11, 3) := by decide +kernel
theorem dX3_init_12 : decode cX3_init 12 = .ok (.aload_n 0, 1) := by decide +kernel
theorem dX3_init_13 : decode cX3_init 13 = .ok (.bipush 27, 2) := by decide +kernel
theorem dX3_init_15 : decode cX3_init 15 = .ok (.newarray .int, 2) := by decide +kernel
theorem dX3_init_17 : decode cX3_init 17 = .ok (.putfield 15, 3) := by decide +kernel
theorem dX3_init_20 : decode cX3_init 20 = .ok (.aload_n 0, 1) := by decide +kernel
theorem dX3_init_21 : decode cX3_init 21 = .ok (.bipush 27, 2) := by decide +kernel
theorem dX3_init_23 : decode cX3_init 23 = .ok (.newarray .int, 2) := by decide +kernel
theorem dX3_init_25 : decode cX3_init 25 = .ok (.putfield 19, 3) := by decide +kernel
theorem dX3_init_28 : decode cX3_init 28 = .ok (.return_, 1) := by decide +kernel
theorem dX3_clear_0 : decode cX3_clear 0 = .ok (.aload_n 0, 1) := by decide +kernel
theorem dX3_clear_1 : decode cX3_clear 1 = .ok (.iconst 0, 1) := by decide +kernel
theorem dX3_clear_2 : decode cX3_clear 2 = .ok (.putfield 22, 3) := by decide +kernel
theorem dX3_clear_5 : decode cX3_clear 5 = .ok (.return_, 1) := by decide +kernel
theorem dX3_copyFrom_0 : decode cX3_copyFrom 0 = .ok (.aload_n 1, 1) := by decide +kernel
theorem dX3_copyFrom_1 : decode cX3_copyFrom 1 = .ok (.getfield 11, 3) := by decide +kernel
theorem dX3_copyFrom_4 : decode cX3_copyFrom 4 = .ok (.iconst 0, 1) := by decide +kernel
theorem dX3_copyFrom_5 : decode cX3_copyFrom 5 = .ok (.aload_n 0, 1) := by decide +kernel
theorem dX3_copyFrom_6 : decode cX3_copyFrom 6 = .ok (.getfield 11, 3) := by decide +kernel
theorem dX3_copyFrom_9 : decode cX3_copyFrom 9 = .ok (.iconst 0, 1) := by decide +kernel
theorem dX3_copyFrom_10 : decode cX3_copyFrom 10 = .ok (.bipush 27, 2) := by decide +kernel
theorem dX3_copyFrom_12 : decode cX3_copyFrom 12 = .ok (.invokestatic 26, 3) := by decide +kernel
theorem dX3_copyFrom_15 : decode cX3_copyFrom 15 = .ok (.aload_n 1, 1) := by decide +kernel
theorem dX3_copyFrom_16 : decode cX3_copyFrom 16 = .ok (.getfield 15, 3) := by decide +kernel
theorem dX3_copyFrom_19 : decode cX3_copyFrom 19 = .ok (.iconst 0, 1) := by decide +kernel
theorem dX3_copyFrom_20 : decode cX3_copyFrom 20 = .ok (.aload_n 0, 1) := by decide +kernel
theorem dX3_copyFrom_21 : decode cX3_copyFrom 21 = .ok (.getfield 15, 3) := by decide +kernel
theorem dX3_copyFrom_24 : decode cX3_copyFrom 24 = .ok (.iconst 0, 1) := by decide +kernel
theorem dX3_copyFrom_25 : decode cX3_copyFrom 25 = .ok (.bipush 27, 2) := by decide +kernel
theorem dX3_copyFrom_27 : decode cX3_copyFrom 27 = .ok (.invokestatic 26, 3) := by decide +kernel
theorem dX3_copyFrom_30 : decode cX3_copyFrom 30 = .ok (.aload_n 1, 1) := by decide +kernel
theorem dX3_copyFrom_31 : decode cX3_copyFrom 31 = .ok (.getfield 19, 3) := by decide +kernel
theorem dX3_copyFrom_34 : decode cX3_copyFrom 34 = .ok (.iconst 0, 1) := by decide +kernel
theorem dX3_copyFrom_35 : decode cX3_copyFrom 35 = .ok (.aload_n 0, 1) := by decide +kernel
theorem dX3_copyFrom_36 : decode cX3_copyFrom 36 = .ok (.getfield 19, 3) := by decide +kernel
theorem dX3_copyFrom_39 : decode cX3_copyFrom 39 = .ok (.iconst 0, 1) := by decide +kernel
theorem dX3_copyFrom_40 : decode cX3_copyFrom 40 = .ok (.bipush 27, 2) := by decide +kernel
theorem dX3_copyFrom_42 : decode cX3_copyFrom 42 = .ok (.invokestatic 26, 3) := by decide +kernel
theorem dX3_copyFrom_45 : decode cX3_copyFrom 45 = .ok (.aload_n 0, 1) := by decide +kernel
theorem dX3_copyFrom_46 : decode cX3_copyFrom 46 = .ok (.aload_n 1, 1) := by decide +kernel
theorem dX3_copyFrom_47 : decode cX3_copyFrom 47 = .ok (.getfield 22, 3) := by decide +kernel
theorem dX3_copyFrom_50 : decode cX3_copyFrom 50 = .ok (.putfield 22, 3) := by decide +kernel
theorem dX3_copyFrom_53 : decode cX3_copyFrom 53 = .ok (.return_, 1) := by decide +kernel
theorem dX3_add_0 : decode cX3_add 0 = .ok (.aload_n 0, 1) := by decide +kernel
theorem dX3_add_1 : decode cX3_add 1 = .ok (.getfield 22, 3) := by decide +kernel
theorem dX3_add_4 : decode cX3_add 4 = .ok (.bipush 27, 2) := by decide +kernel
theorem dX3_add_6 : decode cX3_add 6 = .ok (.if_icmp .ge 44, 3) := by decide +kernel
theorem dX3_add_9 : decode cX3_add 9 = .ok (.aload_n 0, 1) := by decide +kernel
theorem dX3_add_10 : decode cX3_add 10 = .ok (.getfield 11, 3) := by decide +kernel
theorem dX3_add_13 : decode cX3_add 13 = .ok (.aload_n 0, 1) := by decide +kernel
theorem dX3_add_14 : decode cX3_add 14 = .ok (.getfield 22, 3) := by decide +kernel
theorem dX3_add_17 : decode cX3_add 17 = .ok (.lload_n 1, 1) := by decide +kernel
theorem dX3_add_18 : decode cX3_add 18 = .ok (.lastore, 1) := by decide +kernel
theorem dX3_add_19 : decode cX3_add 19 = .ok (.aload_n 0, 1) := by decide +kernel
theorem dX3_add_20 : decode cX3_add 20 = .ok (.getfield 15, 3) := by decide +kernel
theorem dX3_add_23 : decode cX3_add 23 = .ok (.aload_n 0, 1) := by decide +kernel
theorem dX3_add_24 : decode cX3_add 24 = .ok (.getfield 22, 3) := by decide +kernel
theorem dX3_add_27 : decode cX3_add 27 = .ok (.iload_n 3, 1) := by decide +kernel
theorem dX3_add_28 : decode cX3_add 28 = .ok (.iastore, 1) := by decide +kernel
theorem dX3_add_29 : decode cX3_add 29 = .ok (.aload_n 0, 1) := by decide +kernel
theorem dX3_add_30 : decode cX3_add 30 = .ok (.getfield 19, 3) := by decide +kernel
theorem dX3_add_33 : decode cX3_add 33 = .ok (.aload_n 0, 1) := by decide +kernel
theorem dX3_add_34 : decode cX3_add 34 = .ok (.getfield 22, 3) := by decide +kernel
theorem dX3_add_37 : decode cX3_add 37 = .ok (.iload 4, 2) := by decide +kernel
theorem dX3_add_39 : decode cX3_add 39 = .ok (.iastore, 1) := by decide +kernel
theorem dX3_add_40 : decode cX3_add 40 = .ok (.aload_n 0, 1) := by decide +kernel
theorem dX3_add_41 : decode cX3_add 41 = .ok (.dup, 1) := by decide +kernel
theorem dX3_add_42 : decode cX3_add 42 = .ok (.getfield 22, 3) := by decide +kernel
theorem dX3_add_45 : decode cX3_add 45 = .ok (.iconst 1, 1) := by decide +kernel
theorem dX3_add_46 : decode cX3_add 46 = .ok (.iadd, 1) := by decide +kernel
theorem dX3_add_47 : decode cX3_add 47 = .ok (.putfield 22, 3) := by decide +kernel
theorem dX3_add_50 : decode cX3_add 50 = .ok (.return_, 1) := by decide +kernel
theorem dX3_indexOf_0 : decode cX3_indexOf 0 = .ok (.iconst 0, 1) := by decide +kernel
theorem dX3_indexOf_1 : decode cX3_indexOf 1 = .ok (.istore_n 3, 1) := by decide +kernel
theorem dX3_indexOf_2 : decode cX3_indexOf 2 = .ok (.iload_n 3, 1) := by decide +kernel
theorem dX3_indexOf_3 : decode cX3_indexOf 3 = .ok (.aload_n 0, 1) := by decide +kernel
theorem dX3_indexOf_4 : decode cX3_indexOf 4 = .ok (.getfield 22, 3) := by decide +kernel
theorem dX3_indexOf_7 : decode cX3_indexOf 7 = .ok (.if_icmp .ge 22, 3) := by decide +kernel
theorem dX3_indexOf_10 : decode cX3_indexOf 10 = .ok (.aload_n 0, 1) := by decide +kernel
theorem dX3_indexOf_11 : decode cX3_indexOf 11 = .ok (.getfield 11, 3) := by decide +kernel
theorem dX3_indexOf_14 : decode cX3_indexOf 14 = .ok (.iload_n 3, 1) := by decide +kernel
theorem dX3_indexOf_15 : decode cX3_indexOf 15 = .ok (.laload, 1) := by decide +kernel
theorem dX3_indexOf_16 : decode cX3_indexOf 16 = .ok (.lload_n 1, 1) := by decide +kernel
theorem dX3_indexOf_17 : decode cX3_indexOf 17 = .ok (.lcmp, 1) := by decide +kernel
theorem dX3_indexOf_18 : decode cX3_indexOf 18 = .ok (.ifCond .ne 5, 3) := by decide +kernel
theorem dX3_indexOf_21 : decode cX3_indexOf 21 = .ok (.iload_n 3, 1) := by decide +kernel
theorem dX3_indexOf_22 : decode cX3_indexOf 22 = .ok (.ireturn, 1) := by decide +kernel
theorem dX3_indexOf_23 : decode cX3_indexOf 23 = .ok (.iinc 3 1, 3) := by decide +kernel
theorem dX3_indexOf_26 : decode cX3_indexOf 26 = .ok (.goto (-24), 3) := by decide +kernel
theorem dX3_indexOf_29 : decode cX3_indexOf 29 = .ok (.iconst (-1), 1) := by decide +kernel
theorem dX3_indexOf_30 : decode cX3_indexOf 30 = .ok (.ireturn, 1) := by decide +kernel
theorem dX3_isOfSort_0 : decode cX3_isOfSort 0 = .ok (.iload_n 1, 1) := by decide +kernel
theorem dX3_isOfSort_1 : decode cX3_isOfSort 1 = .ok (.ifCond .lt 25, 3) := by decide +kernel
theorem dX3_isOfSort_4 : decode cX3_isOfSort 4 = .ok (.iload_n 1, 1) := by decide +kernel
theorem dX3_isOfSort_5 : decode cX3_isOfSort 5 = .ok (.aload_n 0, 1) := by decide +kernel
theorem dX3_isOfSort_6 : decode cX3_isOfSort 6 = .ok (.getfield 22, 3) := by decide +kernel
theorem dX3_isOfSort_9 : decode cX3_isOfSort 9 = .ok (.if_icmp .ge 17, 3) := by decide +kernel
theorem dX3_isOfSort_12 : decode cX3_isOfSort 12 = .ok (.aload_n 0, 1) := by decide +kernel
theorem dX3_isOfSort_13 : decode cX3_isOfSort 13 = .ok (.getfield 15, 3) := by decide +kernel
theorem dX3_isOfSort_16 : decode cX3_isOfSort 16 = .ok (.iload_n 1, 1) := by decide +kernel
theorem dX3_isOfSort_17 : decode cX3_isOfSort 17 = .ok (.iaload, 1) := by decide +kernel
theorem dX3_isOfSort_18 : decode cX3_isOfSort 18 = .ok (.iload_n 2, 1) := by decide +kernel
theorem dX3_isOfSort_19 : decode cX3_isOfSort 19 = .ok (.if_icmp .ne 7, 3) := by decide +kernel
theorem dX3_isOfSort_22 : decode cX3_isOfSort 22 = .ok (.iconst 1, 1) := by decide +kernel
theorem dX3_isOfSort_23 : decode cX3_isOfSort 23 = .ok (.goto 4, 3) := by decide +kernel
theorem dX3_isOfSort_26 : decode cX3_isOfSort 26 = .ok (.iconst 0, 1) := by decide +kernel
theorem dX3_isOfSort_27 : decode cX3_isOfSort 27 = .ok (.ireturn, 1) := by decide +kernel
theorem dX3_numberOf_0 : decode cX3_numberOf 0 = .ok (.iload_n 1, 1) := by decide +kernel
theorem dX3_numberOf_1 : decode cX3_numberOf 1 = .ok (.ifCond .lt 20, 3) := by decide +kernel
theorem dX3_numberOf_4 : decode cX3_numberOf 4 = .ok (.iload_n 1, 1) := by decide +kernel
theorem dX3_numberOf_5 : decode cX3_numberOf 5 = .ok (.aload_n 0, 1) := by decide +kernel
theorem dX3_numberOf_6 : decode cX3_numberOf 6 = .ok (.getfield 22, 3) := by decide +kernel
theorem dX3_numberOf_9 : decode cX3_numberOf 9 = .ok (.if_icmp .ge 12, 3) := by decide +kernel
theorem dX3_numberOf_12 : decode cX3_numberOf 12 = .ok (.aload_n 0, 1) := by decide +kernel
theorem dX3_numberOf_13 : decode cX3_numberOf 13 = .ok (.getfield 19, 3) := by decide +kernel
theorem dX3_numberOf_16 : decode cX3_numberOf 16 = .ok (.iload_n 1, 1) := by decide +kernel
theorem dX3_numberOf_17 : decode cX3_numberOf 17 = .ok (.iaload, 1) := by decide +kernel
theorem dX3_numberOf_18 : decode cX3_numberOf 18 = .ok (.goto 4, 3) := by decide +kernel
theorem dX3_numberOf_21 : decode cX3_numberOf 21 = .ok (.iconst (-1), 1) := by decide +kernel
theorem dX3_numberOf_22 : decode cX3_numberOf 22 = .ok (.ireturn, 1) := by decide +kernel
theorem dX4_init_0 : decode cX4_init 0 = .ok (.aload_n 0, 1) := by decide +kernel
theorem dX4_init_1 : decode cX4_init 1 = .ok (.invokespecial 3, 3) := by decide +kernel
theorem dX4_init_4 : decode cX4_init 4 = .ok (.aload_n 0, 1) := by decide +kernel
theorem dX4_init_5 : decode cX4_init 5 = .ok (.bipush 8, 2) := by decide +kernel
theorem dX4_init_7 : decode cX4_init 7 = .ok (.newarray .int, 2) := by decide +kernel
theorem dX4_init_9 : decode cX4_init 9 = .ok (.putfield 11, 3) := by decide +kernel
theorem dX4_init_12 : decode cX4_init 12 = .ok (.aload_n 0, 1) := by decide +kernel
theorem dX4_init_13 : decode cX4_init 13 = .ok (.sipush 256, 3) := by decide +kernel
theorem dX4_init_16 : decode cX4_init 16 = .ok (.newarray .int, 2) := by decide +kernel
theorem dX4_init_18 : decode cX4_init 18 = .ok (.putfield 15, 3) := by decide +kernel
theorem dX4_init_21 : decode cX4_init 21 = .ok (.return_, 1) := by decide +kernel
theorem dX4_lineUp_0 : decode cX4_lineUp 0 = .ok (.aload_n 0, 1) := by decide +kernel
theorem dX4_lineUp_1 : decode cX4_lineUp 1 = .ok (.iconst 0, 1) := by decide +kernel
theorem dX4_lineUp_2 : decode cX4_lineUp 2 = .ok (.putfield 18, 3) := by decide +kernel
theorem dX4_lineUp_5 : decode cX4_lineUp 5 = .ok (.aload_n 0, 1) := by decide +kernel
theorem dX4_lineUp_6 : decode cX4_lineUp 6 = .ok (.iconst 0, 1) := by decide +kernel
theorem dX4_lineUp_7 : decode cX4_lineUp 7 = .ok (.putfield 22, 3) := by decide +kernel
theorem dX4_lineUp_10 : decode cX4_lineUp 10 = .ok (.iconst 0, 1) := by decide +kernel
theorem dX4_lineUp_11 : decode cX4_lineUp 11 = .ok (.istore_n 2, 1) := by decide +kernel
theorem dX4_lineUp_12 : decode cX4_lineUp 12 = .ok (.iload_n 2, 1) := by decide +kernel
theorem dX4_lineUp_13 : decode cX4_lineUp 13 = .ok (.aload_n 1, 1) := by decide +kernel
theorem dX4_lineUp_14 : decode cX4_lineUp 14 = .ok (.getfield 25, 3) := by decide +kernel
theorem dX4_lineUp_17 : decode cX4_lineUp 17 = .ok (.getfield 31, 3) := by decide +kernel
theorem dX4_lineUp_20 : decode cX4_lineUp 20 = .ok (.if_icmp .ge 131, 3) := by decide +kernel
theorem dX4_lineUp_23 : decode cX4_lineUp 23 = .ok (.aload_n 0, 1) := by decide +kernel
theorem dX4_lineUp_24 : decode cX4_lineUp 24 = .ok (.getfield 22, 3) := by decide +kernel
theorem dX4_lineUp_27 : decode cX4_lineUp 27 = .ok (.bipush 8, 2) := by decide +kernel
theorem dX4_lineUp_29 : decode cX4_lineUp 29 = .ok (.if_icmp .ge 122, 3) := by decide +kernel
theorem dX4_lineUp_32 : decode cX4_lineUp 32 = .ok (.aload_n 1, 1) := by decide +kernel
theorem dX4_lineUp_33 : decode cX4_lineUp 33 = .ok (.getfield 25, 3) := by decide +kernel
theorem dX4_lineUp_36 : decode cX4_lineUp 36 = .ok (.iload_n 2, 1) := by decide +kernel
theorem dX4_lineUp_37 : decode cX4_lineUp 37 = .ok (.iconst 1, 1) := by decide +kernel
theorem dX4_lineUp_38 : decode cX4_lineUp 38 = .ok (.invokevirtual 36, 3) := by decide +kernel
theorem dX4_lineUp_41 : decode cX4_lineUp 41 = .ok (.istore_n 3, 1) := by decide +kernel
theorem dX4_lineUp_42 : decode cX4_lineUp 42 = .ok (.aload_n 1, 1) := by decide +kernel
theorem dX4_lineUp_43 : decode cX4_lineUp 43 = .ok (.iload_n 2, 1) := by decide +kernel
theorem dX4_lineUp_44 : decode cX4_lineUp 44 = .ok (.invokevirtual 40, 3) := by decide +kernel
theorem dX4_lineUp_47 : decode cX4_lineUp 47 = .ok (.ifCond .eq 98, 3) := by decide +kernel
theorem dX4_lineUp_50 : decode cX4_lineUp 50 = .ok (.iload_n 3, 1) := by decide +kernel
theorem dX4_lineUp_51 : decode cX4_lineUp 51 = .ok (.aload_n 1, 1) := by decide +kernel
theorem dX4_lineUp_52 : decode cX4_lineUp 52 = .ok (.getfield 44, 3) := by decide +kernel
theorem dX4_lineUp_55 : decode cX4_lineUp 55 = .ok (.if_icmp .ge 6, 3) := by decide +kernel
theorem dX4_lineUp_58 : decode cX4_lineUp 58 = .ok (.goto 87, 3) := by decide +kernel
theorem dX4_lineUp_61 : decode cX4_lineUp 61 = .ok (.aload_n 0, 1) := by decide +kernel
theorem dX4_lineUp_62 : decode cX4_lineUp 62 = .ok (.getfield 22, 3) := by decide +kernel
theorem dX4_lineUp_65 : decode cX4_lineUp 65 = .ok (.istore 4, 2) := by decide +kernel
theorem dX4_lineUp_67 : decode cX4_lineUp 67 = .ok (.iload 4, 2) := by decide +kernel
theorem dX4_lineUp_69 : decode cX4_lineUp 69 = .ok (.ifCond .le 46, 3) := by decide +kernel
theorem dX4_lineUp_72 : decode cX4_lineUp 72 = .ok (.aload_n 1, 1) := by decide +kernel
theorem dX4_lineUp_73 : decode cX4_lineUp 73 = .ok (.getfield 25, 3) := by decide +kernel
theorem dX4_lineUp_76 : decode cX4_lineUp 76 = .ok (.aload_n 0, 1) := by decide +kernel
theorem dX4_lineUp_77 : decode cX4_lineUp 77 = .ok (.getfield 11, 3) := by decide +kernel
theorem dX4_lineUp_80 : decode cX4_lineUp 80 = .ok (.iload 4, 2) := by decide +kernel
theorem dX4_lineUp_82 : decode cX4_lineUp 82 = .ok (.iconst 1, 1) := by decide +kernel
theorem dX4_lineUp_83 : decode cX4_lineUp 83 = .ok (.isub, 1) := by decide +kernel
theorem dX4_lineUp_84 : decode cX4_lineUp 84 = .ok (.iaload, 1) := by decide +kernel
theorem dX4_lineUp_85 : decode cX4_lineUp 85 = .ok (.iconst 1, 1) := by decide +kernel
theorem dX4_lineUp_86 : decode cX4_lineUp 86 = .ok (.invokevirtual 36, 3) := by decide +kernel
theorem dX4_lineUp_89 : decode cX4_lineUp 89 = .ok (.iload_n 3, 1) := by decide +kernel
theorem dX4_lineUp_90 : decode cX4_lineUp 90 = .ok (.if_icmp .le 25, 3) := by decide +kernel
theorem dX4_lineUp_93 : decode cX4_lineUp 93 = .ok (.aload_n 0, 1) := by decide +kernel
theorem dX4_lineUp_94 : decode cX4_lineUp 94 = .ok (.getfield 11, 3) := by decide +kernel
theorem dX4_lineUp_97 : decode cX4_lineUp 97 = .ok (.iload 4, 2) := by decide +kernel
theorem dX4_lineUp_99 : decode cX4_lineUp 99 = .ok (.aload_n 0, 1) := by decide +kernel
theorem dX4_lineUp_100 : decode cX4_lineUp 100 = .ok (.getfield 11, 3) := by decide +kernel
theorem dX4_lineUp_103 : decode cX4_lineUp 103 = .ok (.iload 4, 2) := by decide +kernel
theorem dX4_lineUp_105 : decode cX4_lineUp 105 = .ok (.iconst 1, 1) := by decide +kernel
theorem dX4_lineUp_106 : decode cX4_lineUp 106 = .ok (.isub, 1) := by decide +kernel
theorem dX4_lineUp_107 : decode cX4_lineUp 107 = .ok (.iaload, 1) := by decide +kernel
theorem dX4_lineUp_108 : decode cX4_lineUp 108 = .ok (.iastore, 1) := by decide +kernel
theorem dX4_lineUp_109 : decode cX4_lineUp 109 = .ok (.iinc 4 (-1), 3) := by decide +kernel
theorem dX4_lineUp_112 : decode cX4_lineUp 112 = .ok (.goto (-45), 3) := by decide +kernel
theorem dX4_lineUp_115 : decode cX4_lineUp 115 = .ok (.aload_n 0, 1) := by decide +kernel
theorem dX4_lineUp_116 : decode cX4_lineUp 116 = .ok (.getfield 11, 3) := by decide +kernel
theorem dX4_lineUp_119 : decode cX4_lineUp 119 = .ok (.iload 4, 2) := by decide +kernel
theorem dX4_lineUp_121 : decode cX4_lineUp 121 = .ok (.iload_n 2, 1) := by decide +kernel
theorem dX4_lineUp_122 : decode cX4_lineUp 122 = .ok (.iastore, 1) := by decide +kernel
theorem dX4_lineUp_123 : decode cX4_lineUp 123 = .ok (.aload_n 0, 1) := by decide +kernel
theorem dX4_lineUp_124 : decode cX4_lineUp 124 = .ok (.dup, 1) := by decide +kernel
theorem dX4_lineUp_125 : decode cX4_lineUp 125 = .ok (.getfield 22, 3) := by decide +kernel
theorem dX4_lineUp_128 : decode cX4_lineUp 128 = .ok (.iconst 1, 1) := by decide +kernel
theorem dX4_lineUp_129 : decode cX4_lineUp 129 = .ok (.iadd, 1) := by decide +kernel
theorem dX4_lineUp_130 : decode cX4_lineUp 130 = .ok (.putfield 22, 3) := by decide +kernel
theorem dX4_lineUp_133 : decode cX4_lineUp 133 = .ok (.aload_n 0, 1) := by decide +kernel
theorem dX4_lineUp_134 : decode cX4_lineUp 134 = .ok (.dup, 1) := by decide +kernel
theorem dX4_lineUp_135 : decode cX4_lineUp 135 = .ok (.getfield 18, 3) := by decide +kernel
theorem dX4_lineUp_138 : decode cX4_lineUp 138 = .ok (.iconst 1, 1) := by decide +kernel
theorem dX4_lineUp_139 : decode cX4_lineUp 139 = .ok (.iload_n 2, 1) := by decide +kernel
theorem dX4_lineUp_140 : decode cX4_lineUp 140 = .ok (.ishl, 1) := by decide +kernel
theorem dX4_lineUp_141 : decode cX4_lineUp 141 = .ok (.ior, 1) := by decide +kernel
theorem dX4_lineUp_142 : decode cX4_lineUp 142 = .ok (.putfield 18, 3) := by decide +kernel
theorem dX4_lineUp_145 : decode cX4_lineUp 145 = .ok (.iinc 2 1, 3) := by decide +kernel
theorem dX4_lineUp_148 : decode cX4_lineUp 148 = .ok (.goto (-136), 3) := by decide +kernel
theorem dX4_lineUp_151 : decode cX4_lineUp 151 = .ok (.return_, 1) := by decide +kernel
theorem dX4_stoodAt_0 : decode cX4_stoodAt 0 = .ok (.aload_n 0, 1) := by decide +kernel
theorem dX4_stoodAt_1 : decode cX4_stoodAt 1 = .ok (.getfield 44, 3) := by decide +kernel
theorem dX4_stoodAt_4 : decode cX4_stoodAt 4 = .ok (.aload_n 0, 1) := by decide +kernel
theorem dX4_stoodAt_5 : decode cX4_stoodAt 5 = .ok (.getfield 47, 3) := by decide +kernel
theorem dX4_stoodAt_8 : decode cX4_stoodAt 8 = .ok (.iload_n 1, 1) := by decide +kernel
theorem dX4_stoodAt_9 : decode cX4_stoodAt 9 = .ok (.iconst 1, 1) := by decide +kernel
theorem dX4_stoodAt_10 : decode cX4_stoodAt 10 = .ok (.invokevirtual 36, 3) := by decide +kernel
theorem dX4_stoodAt_13 : decode cX4_stoodAt 13 = .ok (.iadd, 1) := by decide +kernel
theorem dX4_stoodAt_14 : decode cX4_stoodAt 14 = .ok (.iconst 1, 1) := by decide +kernel
theorem dX4_stoodAt_15 : decode cX4_stoodAt 15 = .ok (.isub, 1) := by decide +kernel
theorem dX4_stoodAt_16 : decode cX4_stoodAt 16 = .ok (.ireturn, 1) := by decide +kernel
theorem dX4_comesTo_0 : decode cX4_comesTo 0 = .ok (.aload_n 0, 1) := by decide +kernel
theorem dX4_comesTo_1 : decode cX4_comesTo 1 = .ok (.getfield 50, 3) := by decide +kernel
theorem dX4_comesTo_4 : decode cX4_comesTo 4 = .ok (.iload_n 1, 1) := by decide +kernel
theorem dX4_comesTo_5 : decode cX4_comesTo 5 = .ok (.aload_n 0, 1) := by decide +kernel
theorem dX4_comesTo_6 : decode cX4_comesTo 6 = .ok (.getfield 25, 3) := by decide +kernel
theorem dX4_comesTo_9 : decode cX4_comesTo 9 = .ok (.iload_n 3, 1) := by decide +kernel
theorem dX4_comesTo_10 : decode cX4_comesTo 10 = .ok (.iconst 0, 1) := by decide +kernel
theorem dX4_comesTo_11 : decode cX4_comesTo 11 = .ok (.invokevirtual 36, 3) := by decide +kernel
theorem dX4_comesTo_14 : decode cX4_comesTo 14 = .ok (.invokevirtual 54, 3) := by decide +kernel
theorem dX4_comesTo_17 : decode cX4_comesTo 17 = .ok (.istore 4, 2) := by decide +kernel
theorem dX4_comesTo_19 : decode cX4_comesTo 19 = .ok (.iload 4, 2) := by decide +kernel
theorem dX4_comesTo_21 : decode cX4_comesTo 21 = .ok (.iconst (-1), 1) := by decide +kernel
theorem dX4_comesTo_22 : decode cX4_comesTo 22 = .ok (.if_icmp .eq 23, 3) := by decide +kernel
theorem dX4_comesTo_25 : decode cX4_comesTo 25 = .ok (.iload 4, 2) := by decide +kernel
theorem dX4_comesTo_27 : decode cX4_comesTo 27 = .ok (.aload_n 0, 1) := by decide +kernel
theorem dX4_comesTo_28 : decode cX4_comesTo 28 = .ok (.getfield 25, 3) := by decide +kernel
theorem dX4_comesTo_31 : decode cX4_comesTo 31 = .ok (.iload_n 3, 1) := by decide +kernel
theorem dX4_comesTo_32 : decode cX4_comesTo 32 = .ok (.iconst 1, 1) := by decide +kernel
theorem dX4_comesTo_33 : decode cX4_comesTo 33 = .ok (.invokevirtual 36, 3) := by decide +kernel
theorem dX4_comesTo_36 : decode cX4_comesTo 36 = .ok (.iload_n 2, 1) := by decide +kernel
theorem dX4_comesTo_37 : decode cX4_comesTo 37 = .ok (.isub, 1) := by decide +kernel
theorem dX4_comesTo_38 : decode cX4_comesTo 38 = .ok (.if_icmp .gt 7, 3) := by decide +kernel
theorem dX4_comesTo_41 : decode cX4_comesTo 41 = .ok (.iconst 1, 1) := by decide +kernel
theorem dX4_comesTo_42 : decode cX4_comesTo 42 = .ok (.goto 4, 3) := by decide +kernel
theorem dX4_comesTo_45 : decode cX4_comesTo 45 = .ok (.iconst 0, 1) := by decide +kernel
theorem dX4_comesTo_46 : decode cX4_comesTo 46 = .ok (.ireturn, 1) := by decide +kernel
theorem dX4_canAttend_0 : decode cX4_canAttend 0 = .ok (.aload_n 1, 1) := by decide +kernel
theorem dX4_canAttend_1 : decode cX4_canAttend 1 = .ok (.getfield 47, 3) := by decide +kernel
theorem dX4_canAttend_4 : decode cX4_canAttend 4 = .ok (.iload_n 2, 1) := by decide +kernel
theorem dX4_canAttend_5 : decode cX4_canAttend 5 = .ok (.iconst 0, 1) := by decide +kernel
theorem dX4_canAttend_6 : decode cX4_canAttend 6 = .ok (.invokevirtual 36, 3) := by decide +kernel
theorem dX4_canAttend_9 : decode cX4_canAttend 9 = .ok (.istore 4, 2) := by decide +kernel
theorem dX4_canAttend_11 : decode cX4_canAttend 11 = .ok (.aload_n 1, 1) := by decide +kernel
theorem dX4_canAttend_12 : decode cX4_canAttend 12 = .ok (.iload_n 2, 1) := by decide +kernel
theorem dX4_canAttend_13 : decode cX4_canAttend 13 = .ok (.invokestatic 59, 3) := by decide +kernel
theorem dX4_canAttend_16 : decode cX4_canAttend 16 = .ok (.istore 5, 2) := by decide +kernel
theorem dX4_canAttend_18 : decode cX4_canAttend 18 = .ok (.iconst 0, 1) := by decide +kernel
theorem dX4_canAttend_19 : decode cX4_canAttend 19 = .ok (.istore 6, 2) := by decide +kernel
theorem dX4_canAttend_21 : decode cX4_canAttend 21 = .ok (.iload 6, 2) := by decide +kernel
theorem dX4_canAttend_23 : decode cX4_canAttend 23 = .ok (.aload_n 0, 1) := by decide +kernel
theorem dX4_canAttend_24 : decode cX4_canAttend 24 = .ok (.getfield 22, 3) := by decide +kernel
theorem dX4_canAttend_27 : decode cX4_canAttend 27 = .ok (.if_icmp .ge 69, 3) := by decide +kernel
theorem dX4_canAttend_30 : decode cX4_canAttend 30 = .ok (.aload_n 0, 1) := by decide +kernel
theorem dX4_canAttend_31 : decode cX4_canAttend 31 = .ok (.getfield 11, 3) := by decide +kernel
theorem dX4_canAttend_34 : decode cX4_canAttend 34 = .ok (.iload 6, 2) := by decide +kernel
theorem dX4_canAttend_36 : decode cX4_canAttend 36 = .ok (.iaload, 1) := by decide +kernel
theorem dX4_canAttend_37 : decode cX4_canAttend 37 = .ok (.istore 7, 2) := by decide +kernel
theorem dX4_canAttend_39 : decode cX4_canAttend 39 = .ok (.iload_n 3, 1) := by decide +kernel
theorem dX4_canAttend_40 : decode cX4_canAttend 40 = .ok (.iload 7, 2) := by decide +kernel
theorem dX4_canAttend_42 : decode cX4_canAttend 42 = .ok (.ishr, 1) := by decide +kernel
theorem dX4_canAttend_43 : decode cX4_canAttend 43 = .ok (.iconst 1, 1) := by decide +kernel
theorem dX4_canAttend_44 : decode cX4_canAttend 44 = .ok (.iand, 1) := by decide +kernel
theorem dX4_canAttend_45 : decode cX4_canAttend 45 = .ok (.ifCond .ne 6, 3) := by decide +kernel
theorem dX4_canAttend_48 : decode cX4_canAttend 48 = .ok (.goto 42, 3) := by decide +kernel
theorem dX4_canAttend_51 : decode cX4_canAttend 51 = .ok (.aload_n 1, 1) := by decide +kernel
theorem dX4_canAttend_52 : decode cX4_canAttend 52 = .ok (.iload 4, 2) := by decide +kernel
theorem dX4_canAttend_54 : decode cX4_canAttend 54 = .ok (.iload 5, 2) := by decide +kernel
theorem dX4_canAttend_56 : decode cX4_canAttend 56 = .ok (.iload 7, 2) := by decide +kernel
theorem dX4_canAttend_58 : decode cX4_canAttend 58 = .ok (.invokestatic 63, 3) := by decide +kernel
theorem dX4_canAttend_61 : decode cX4_canAttend 61 = .ok (.ifCond .ne 5, 3) := by decide +kernel
theorem dX4_canAttend_64 : decode cX4_canAttend 64 = .ok (.iconst 0, 1) := by decide +kernel
theorem dX4_canAttend_65 : decode cX4_canAttend 65 = .ok (.ireturn, 1) := by decide +kernel
theorem dX4_canAttend_66 : decode cX4_canAttend 66 = .ok (.aload_n 1, 1) := by decide +kernel
theorem dX4_canAttend_67 : decode cX4_canAttend 67 = .ok (.getfield 25, 3) := by decide +kernel
theorem dX4_canAttend_70 : decode cX4_canAttend 70 = .ok (.iload 7, 2) := by decide +kernel
theorem dX4_canAttend_72 : decode cX4_canAttend 72 = .ok (.iconst 0, 1) := by decide +kernel
theorem dX4_canAttend_73 : decode cX4_canAttend 73 = .ok (.invokevirtual 36, 3) := by decide +kernel
theorem dX4_canAttend_76 : decode cX4_canAttend 76 = .ok (.istore 4, 2) := by decide +kernel
theorem dX4_canAttend_78 : decode cX4_canAttend 78 = .ok (.aload_n 1, 1) := by decide +kernel
theorem dX4_canAttend_79 : decode cX4_canAttend 79 = .ok (.getfield 25, 3) := by decide +kernel
theorem dX4_canAttend_82 : decode cX4_canAttend 82 = .ok (.iload 7, 2) := by decide +kernel
theorem dX4_canAttend_84 : decode cX4_canAttend 84 = .ok (.iconst 1, 1) := by decide +kernel
theorem dX4_canAttend_85 : decode cX4_canAttend 85 = .ok (.invokevirtual 36, 3) := by decide +kernel
theorem dX4_canAttend_88 : decode cX4_canAttend 88 = .ok (.istore 5, 2) := by decide +kernel
theorem dX4_canAttend_90 : decode cX4_canAttend 90 = .ok (.iinc 6 1, 3) := by decide +kernel
theorem dX4_canAttend_93 : decode cX4_canAttend 93 = .ok (.goto (-72), 3) := by decide +kernel
theorem dX4_canAttend_96 : decode cX4_canAttend 96 = .ok (.iconst 1, 1) := by decide +kernel
theorem dX4_canAttend_97 : decode cX4_canAttend 97 = .ok (.ireturn, 1) := by decide +kernel
theorem dX4_richest_0 : decode cX4_richest 0 = .ok (.iconst 0, 1) := by decide +kernel
theorem dX4_richest_1 : decode cX4_richest 1 = .ok (.istore_n 3, 1) := by decide +kernel
theorem dX4_richest_2 : decode cX4_richest 2 = .ok (.iconst 0, 1) := by decide +kernel
theorem dX4_richest_3 : decode cX4_richest 3 = .ok (.istore 4, 2) := by decide +kernel
theorem dX4_richest_5 : decode cX4_richest 5 = .ok (.iconst 1, 1) := by decide +kernel
theorem dX4_richest_6 : decode cX4_richest 6 = .ok (.istore 5, 2) := by decide +kernel
theorem dX4_richest_8 : decode cX4_richest 8 = .ok (.iload 5, 2) := by decide +kernel
theorem dX4_richest_10 : decode cX4_richest 10 = .ok (.aload_n 0, 1) := by decide +kernel
theorem dX4_richest_11 : decode cX4_richest 11 = .ok (.getfield 18, 3) := by decide +kernel
theorem dX4_richest_14 : decode cX4_richest 14 = .ok (.if_icmp .gt 88, 3) := by decide +kernel
theorem dX4_richest_17 : decode cX4_richest 17 = .ok (.iload 5, 2) := by decide +kernel
theorem dX4_richest_19 : decode cX4_richest 19 = .ok (.aload_n 0, 1) := by decide +kernel
theorem dX4_richest_20 : decode cX4_richest 20 = .ok (.getfield 18, 3) := by decide +kernel
theorem dX4_richest_23 : decode cX4_richest 23 = .ok (.iconst (-1), 1) := by decide +kernel
theorem dX4_richest_24 : decode cX4_richest 24 = .ok (.ixor, 1) := by decide +kernel
theorem dX4_richest_25 : decode cX4_richest 25 = .ok (.iand, 1) := by decide +kernel
theorem dX4_richest_26 : decode cX4_richest 26 = .ok (.ifCond .eq 6, 3) := by decide +kernel
theorem dX4_richest_29 : decode cX4_richest 29 = .ok (.goto 67, 3) := by decide +kernel
theorem dX4_richest_32 : decode cX4_richest 32 = .ok (.aload_n 1, 1) := by decide +kernel
theorem dX4_richest_33 : decode cX4_richest 33 = .ok (.iload 5, 2) := by decide +kernel
theorem dX4_richest_35 : decode cX4_richest 35 = .ok (.invokevirtual 67, 3) := by decide +kernel
theorem dX4_richest_38 : decode cX4_richest 38 = .ok (.istore 6, 2) := by decide +kernel
theorem dX4_richest_40 : decode cX4_richest 40 = .ok (.iload 6, 2) := by decide +kernel
theorem dX4_richest_42 : decode cX4_richest 42 = .ok (.iload 4, 2) := by decide +kernel
theorem dX4_richest_44 : decode cX4_richest 44 = .ok (.if_icmp .gt 22, 3) := by decide +kernel
theorem dX4_richest_47 : decode cX4_richest 47 = .ok (.iload 6, 2) := by decide +kernel
theorem dX4_richest_49 : decode cX4_richest 49 = .ok (.iload 4, 2) := by decide +kernel
theorem dX4_richest_51 : decode cX4_richest 51 = .ok (.if_icmp .ne 19, 3) := by decide +kernel
theorem dX4_richest_54 : decode cX4_richest 54 = .ok (.iload 5, 2) := by decide +kernel
theorem dX4_richest_56 : decode cX4_richest 56 = .ok (.invokestatic 71, 3) := by decide +kernel
theorem dX4_richest_59 : decode cX4_richest 59 = .ok (.iload_n 3, 1) := by decide +kernel
theorem dX4_richest_60 : decode cX4_richest 60 = .ok (.invokestatic 71, 3) := by decide +kernel
theorem dX4_richest_63 : decode cX4_richest 63 = .ok (.if_icmp .ge 7, 3) := by decide +kernel
theorem dX4_richest_66 : decode cX4_richest 66 = .ok (.iconst 1, 1) := by decide +kernel
theorem dX4_richest_67 : decode cX4_richest 67 = .ok (.goto 4, 3) := by decide +kernel
theorem dX4_richest_70 : decode cX4_richest 70 = .ok (.iconst 0, 1) := by decide +kernel
theorem dX4_richest_71 : decode cX4_richest 71 = .ok (.istore 7, 2) := by decide +kernel
theorem dX4_richest_73 : decode cX4_richest 73 = .ok (.iload 7, 2) := by decide +kernel
theorem dX4_richest_75 : decode cX4_richest 75 = .ok (.ifCond .eq 21, 3) := by decide +kernel
theorem dX4_richest_78 : decode cX4_richest 78 = .ok (.aload_n 0, 1) := by decide +kernel
theorem dX4_richest_79 : decode cX4_richest 79 = .ok (.aload_n 1, 1) := by decide +kernel
theorem dX4_richest_80 : decode cX4_richest 80 = .ok (.iload_n 2, 1) := by decide +kernel
theorem dX4_richest_81 : decode cX4_richest 81 = .ok (.iload 5, 2) := by decide +kernel
theorem dX4_richest_83 : decode cX4_richest 83 = .ok (.invokevirtual 76, 3) := by decide +kernel
theorem dX4_richest_86 : decode cX4_richest 86 = .ok (.ifCond .eq 10, 3) := by decide +kernel
theorem dX4_richest_89 : decode cX4_richest 89 = .ok (.iload 5, 2) := by decide +kernel
theorem dX4_richest_91 : decode cX4_richest 91 = .ok (.istore_n 3, 1) := by decide +kernel
theorem dX4_richest_92 : decode cX4_richest 92 = .ok (.iload 6, 2) := by decide +kernel
theorem dX4_richest_94 : decode cX4_richest 94 = .ok (.istore 4, 2) := by decide +kernel
theorem dX4_richest_96 : decode cX4_richest 96 = .ok (.iinc 5 1, 3) := by decide +kernel
theorem dX4_richest_99 : decode cX4_richest 99 = .ok (.goto (-91), 3) := by decide +kernel
theorem dX4_richest_102 : decode cX4_richest 102 = .ok (.iload_n 3, 1) := by decide +kernel
theorem dX4_richest_103 : decode cX4_richest 103 = .ok (.ireturn, 1) := by decide +kernel
theorem dX4_smallestTeam_0 : decode cX4_smallestTeam 0 = .ok (.aload_n 0, 1) := by decide +kernel
theorem dX4_smallestTeam_1 : decode cX4_smallestTeam 1 = .ok (.aload_n 1, 1) := by decide +kernel
theorem dX4_smallestTeam_2 : decode cX4_smallestTeam 2 = .ok (.invokevirtual 80, 3) := by decide +kernel
theorem dX4_smallestTeam_5 : decode cX4_smallestTeam 5 = .ok (.iconst (-1), 1) := by decide +kernel
theorem dX4_smallestTeam_6 : decode cX4_smallestTeam 6 = .ok (.istore_n 2, 1) := by decide +kernel
theorem dX4_smallestTeam_7 : decode cX4_smallestTeam 7 = .ok (.iconst 0, 1) := by decide +kernel
theorem dX4_smallestTeam_8 : decode cX4_smallestTeam 8 = .ok (.istore_n 3, 1) := by decide +kernel
theorem dX4_smallestTeam_9 : decode cX4_smallestTeam 9 = .ok (.iload_n 3, 1) := by decide +kernel
theorem dX4_smallestTeam_10 : decode cX4_smallestTeam 10 = .ok (.iconst 1, 1) := by decide +kernel
theorem dX4_smallestTeam_11 : decode cX4_smallestTeam 11 = .ok (.aload_n 1, 1) := by decide +kernel
theorem dX4_smallestTeam_12 : decode cX4_smallestTeam 12 = .ok (.getfield 47, 3) := by decide +kernel
theorem dX4_smallestTeam_15 : decode cX4_smallestTeam 15 = .ok (.getfield 31, 3) := by decide +kernel
theorem dX4_smallestTeam_18 : decode cX4_smallestTeam 18 = .ok (.ishl, 1) := by decide +kernel
theorem dX4_smallestTeam_19 : decode cX4_smallestTeam 19 = .ok (.if_icmp .ge 47, 3) := by decide +kernel
theorem dX4_smallestTeam_22 : decode cX4_smallestTeam 22 = .ok (.iload_n 2, 1) := by decide +kernel
theorem dX4_smallestTeam_23 : decode cX4_smallestTeam 23 = .ok (.iconst (-1), 1) := by decide +kernel
theorem dX4_smallestTeam_24 : decode cX4_smallestTeam 24 = .ok (.if_icmp .eq 14, 3) := by decide +kernel
theorem dX4_smallestTeam_27 : decode cX4_smallestTeam 27 = .ok (.iload_n 3, 1) := by decide +kernel
theorem dX4_smallestTeam_28 : decode cX4_smallestTeam 28 = .ok (.invokestatic 71, 3) := by decide +kernel
theorem dX4_smallestTeam_31 : decode cX4_smallestTeam 31 = .ok (.iload_n 2, 1) := by decide +kernel
theorem dX4_smallestTeam_32 : decode cX4_smallestTeam 32 = .ok (.invokestatic 71, 3) := by decide +kernel
theorem dX4_smallestTeam_35 : decode cX4_smallestTeam 35 = .ok (.if_icmp .ge 7, 3) := by decide +kernel
theorem dX4_smallestTeam_38 : decode cX4_smallestTeam 38 = .ok (.iconst 1, 1) := by decide +kernel
theorem dX4_smallestTeam_39 : decode cX4_smallestTeam 39 = .ok (.goto 4, 3) := by decide +kernel
theorem dX4_smallestTeam_42 : decode cX4_smallestTeam 42 = .ok (.iconst 0, 1) := by decide +kernel
theorem dX4_smallestTeam_43 : decode cX4_smallestTeam 43 = .ok (.istore 4, 2) := by decide +kernel
theorem dX4_smallestTeam_45 : decode cX4_smallestTeam 45 = .ok (.iload 4, 2) := by decide +kernel
theorem dX4_smallestTeam_47 : decode cX4_smallestTeam 47 = .ok (.ifCond .eq 13, 3) := by decide +kernel
theorem dX4_smallestTeam_50 : decode cX4_smallestTeam 50 = .ok (.aload_n 0, 1) := by decide +kernel
theorem dX4_smallestTeam_51 : decode cX4_smallestTeam 51 = .ok (.iload_n 3, 1) := by decide +kernel
theorem dX4_smallestTeam_52 : decode cX4_smallestTeam 52 = .ok (.invokevirtual 84, 3) := by decide +kernel
