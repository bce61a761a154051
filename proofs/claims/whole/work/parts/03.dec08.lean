theorem dX12_aRoster_5 : decode cX12_aRoster 5 = .ok (.invokevirtual 161, 3) := by decide +kernel
theorem dX12_aRoster_8 : decode cX12_aRoster 8 = .ok (.aload_n 0, 1) := by decide +kernel
theorem dX12_aRoster_9 : decode cX12_aRoster 9 = .ok (.bipush 116, 2) := by decide +kernel
theorem dX12_aRoster_11 : decode cX12_aRoster 11 = .ok (.aload_n 0, 1) := by decide +kernel
theorem dX12_aRoster_12 : decode cX12_aRoster 12 = .ok (.getfield 7, 3) := by decide +kernel
theorem dX12_aRoster_15 : decode cX12_aRoster 15 = .ok (.sipush 1982, 3) := by decide +kernel
theorem dX12_aRoster_18 : decode cX12_aRoster 18 = .ok (.iaload, 1) := by decide +kernel
theorem dX12_aRoster_19 : decode cX12_aRoster 19 = .ok (.iload_n 1, 1) := by decide +kernel
theorem dX12_aRoster_20 : decode cX12_aRoster 20 = .ok (.invokevirtual 191, 3) := by decide +kernel
theorem dX12_aRoster_23 : decode cX12_aRoster 23 = .ok (.ifCond .ne 5, 3) := by decide +kernel
theorem dX12_aRoster_26 : decode cX12_aRoster 26 = .ok (.iconst 0, 1) := by decide +kernel
theorem dX12_aRoster_27 : decode cX12_aRoster 27 = .ok (.ireturn, 1) := by decide +kernel
theorem dX12_aRoster_28 : decode cX12_aRoster 28 = .ok (.iconst 0, 1) := by decide +kernel
theorem dX12_aRoster_29 : decode cX12_aRoster 29 = .ok (.istore_n 2, 1) := by decide +kernel
theorem dX12_aRoster_30 : decode cX12_aRoster 30 = .ok (.aload_n 0, 1) := by decide +kernel
theorem dX12_aRoster_31 : decode cX12_aRoster 31 = .ok (.ldc 181, 2) := by decide +kernel
theorem dX12_aRoster_33 : decode cX12_aRoster 33 = .ok (.invokevirtual 183, 3) := by decide +kernel
theorem dX12_aRoster_36 : decode cX12_aRoster 36 = .ok (.ifCond .eq 57, 3) := by decide +kernel
theorem dX12_aRoster_39 : decode cX12_aRoster 39 = .ok (.aload_n 0, 1) := by decide +kernel
theorem dX12_aRoster_40 : decode cX12_aRoster 40 = .ok (.bipush 123, 2) := by decide +kernel
theorem dX12_aRoster_42 : decode cX12_aRoster 42 = .ok (.aload_n 0, 1) := by decide +kernel
theorem dX12_aRoster_43 : decode cX12_aRoster 43 = .ok (.getfield 7, 3) := by decide +kernel
theorem dX12_aRoster_46 : decode cX12_aRoster 46 = .ok (.sipush 1983, 3) := by decide +kernel
theorem dX12_aRoster_49 : decode cX12_aRoster 49 = .ok (.iaload, 1) := by decide +kernel
theorem dX12_aRoster_50 : decode cX12_aRoster 50 = .ok (.invokevirtual 178, 3) := by decide +kernel
theorem dX12_aRoster_53 : decode cX12_aRoster 53 = .ok (.istore_n 3, 1) := by decide +kernel
theorem dX12_aRoster_54 : decode cX12_aRoster 54 = .ok (.iload_n 3, 1) := by decide +kernel
theorem dX12_aRoster_55 : decode cX12_aRoster 55 = .ok (.iconst (-1), 1) := by decide +kernel
theorem dX12_aRoster_56 : decode cX12_aRoster 56 = .ok (.if_icmp .ne 9, 3) := by decide +kernel
theorem dX12_aRoster_59 : decode cX12_aRoster 59 = .ok (.aload_n 0, 1) := by decide +kernel
theorem dX12_aRoster_60 : decode cX12_aRoster 60 = .ok (.iconst 3, 1) := by decide +kernel
theorem dX12_aRoster_61 : decode cX12_aRoster 61 = .ok (.invokevirtual 167, 3) := by decide +kernel
theorem dX12_aRoster_64 : decode cX12_aRoster 64 = .ok (.ireturn, 1) := by decide +kernel
theorem dX12_aRoster_65 : decode cX12_aRoster 65 = .ok (.iload_n 2, 1) := by decide +kernel
theorem dX12_aRoster_66 : decode cX12_aRoster 66 = .ok (.iload_n 3, 1) := by decide +kernel
theorem dX12_aRoster_67 : decode cX12_aRoster 67 = .ok (.ishr, 1) := by decide +kernel
theorem dX12_aRoster_68 : decode cX12_aRoster 68 = .ok (.iconst 1, 1) := by decide +kernel
theorem dX12_aRoster_69 : decode cX12_aRoster 69 = .ok (.iand, 1) := by decide +kernel
theorem dX12_aRoster_70 : decode cX12_aRoster 70 = .ok (.iconst 1, 1) := by decide +kernel
theorem dX12_aRoster_71 : decode cX12_aRoster 71 = .ok (.if_icmp .ne 9, 3) := by decide +kernel
theorem dX12_aRoster_74 : decode cX12_aRoster 74 = .ok (.aload_n 0, 1) := by decide +kernel
theorem dX12_aRoster_75 : decode cX12_aRoster 75 = .ok (.iconst 5, 1) := by decide +kernel
theorem dX12_aRoster_76 : decode cX12_aRoster 76 = .ok (.invokevirtual 167, 3) := by decide +kernel
theorem dX12_aRoster_79 : decode cX12_aRoster 79 = .ok (.ireturn, 1) := by decide +kernel
theorem dX12_aRoster_80 : decode cX12_aRoster 80 = .ok (.iload_n 2, 1) := by decide +kernel
theorem dX12_aRoster_81 : decode cX12_aRoster 81 = .ok (.iconst 1, 1) := by decide +kernel
theorem dX12_aRoster_82 : decode cX12_aRoster 82 = .ok (.iload_n 3, 1) := by decide +kernel
theorem dX12_aRoster_83 : decode cX12_aRoster 83 = .ok (.ishl, 1) := by decide +kernel
theorem dX12_aRoster_84 : decode cX12_aRoster 84 = .ok (.ior, 1) := by decide +kernel
theorem dX12_aRoster_85 : decode cX12_aRoster 85 = .ok (.istore_n 2, 1) := by decide +kernel
theorem dX12_aRoster_86 : decode cX12_aRoster 86 = .ok (.aload_n 0, 1) := by decide +kernel
theorem dX12_aRoster_87 : decode cX12_aRoster 87 = .ok (.invokevirtual 161, 3) := by decide +kernel
theorem dX12_aRoster_90 : decode cX12_aRoster 90 = .ok (.goto (-60), 3) := by decide +kernel
theorem dX12_aRoster_93 : decode cX12_aRoster 93 = .ok (.aload_n 0, 1) := by decide +kernel
theorem dX12_aRoster_94 : decode cX12_aRoster 94 = .ok (.getfield 7, 3) := by decide +kernel
theorem dX12_aRoster_97 : decode cX12_aRoster 97 = .ok (.sipush 1980, 3) := by decide +kernel
theorem dX12_aRoster_100 : decode cX12_aRoster 100 = .ok (.aload_n 0, 1) := by decide +kernel
theorem dX12_aRoster_101 : decode cX12_aRoster 101 = .ok (.getfield 7, 3) := by decide +kernel
theorem dX12_aRoster_104 : decode cX12_aRoster 104 = .ok (.iload_n 1, 1) := by decide +kernel
theorem dX12_aRoster_105 : decode cX12_aRoster 105 = .ok (.iaload, 1) := by decide +kernel
theorem dX12_aRoster_106 : decode cX12_aRoster 106 = .ok (.invokestatic 211, 3) := by decide +kernel
theorem dX12_aRoster_109 : decode cX12_aRoster 109 = .ok (.iadd, 1) := by decide +kernel
theorem dX12_aRoster_110 : decode cX12_aRoster 110 = .ok (.iconst 2, 1) := by decide +kernel
theorem dX12_aRoster_111 : decode cX12_aRoster 111 = .ok (.iadd, 1) := by decide +kernel
theorem dX12_aRoster_112 : decode cX12_aRoster 112 = .ok (.iload_n 2, 1) := by decide +kernel
theorem dX12_aRoster_113 : decode cX12_aRoster 113 = .ok (.iastore, 1) := by decide +kernel
theorem dX12_aRoster_114 : decode cX12_aRoster 114 = .ok (.iconst 1, 1) := by decide +kernel
theorem dX12_aRoster_115 : decode cX12_aRoster 115 = .ok (.ireturn, 1) := by decide +kernel
theorem dX12_cityPart_0 : decode cX12_cityPart 0 = .ok (.aload_n 0, 1) := by decide +kernel
theorem dX12_cityPart_1 : decode cX12_cityPart 1 = .ok (.ldc 181, 2) := by decide +kernel
theorem dX12_cityPart_3 : decode cX12_cityPart 3 = .ok (.invokevirtual 170, 3) := by decide +kernel
theorem dX12_cityPart_6 : decode cX12_cityPart 6 = .ok (.istore_n 1, 1) := by decide +kernel
theorem dX12_cityPart_7 : decode cX12_cityPart 7 = .ok (.iload_n 1, 1) := by decide +kernel
theorem dX12_cityPart_8 : decode cX12_cityPart 8 = .ok (.ifCond .lt 9, 3) := by decide +kernel
theorem dX12_cityPart_11 : decode cX12_cityPart 11 = .ok (.iload_n 1, 1) := by decide +kernel
theorem dX12_cityPart_12 : decode cX12_cityPart 12 = .ok (.bipush 8, 2) := by decide +kernel
theorem dX12_cityPart_14 : decode cX12_cityPart 14 = .ok (.if_icmp .le 9, 3) := by decide +kernel
theorem dX12_cityPart_17 : decode cX12_cityPart 17 = .ok (.aload_n 0, 1) := by decide +kernel
theorem dX12_cityPart_18 : decode cX12_cityPart 18 = .ok (.iconst 2, 1) := by decide +kernel
theorem dX12_cityPart_19 : decode cX12_cityPart 19 = .ok (.invokevirtual 167, 3) := by decide +kernel
theorem dX12_cityPart_22 : decode cX12_cityPart 22 = .ok (.ireturn, 1) := by decide +kernel
theorem dX12_cityPart_23 : decode cX12_cityPart 23 = .ok (.iload_n 1, 1) := by decide +kernel
theorem dX12_cityPart_24 : decode cX12_cityPart 24 = .ok (.iconst 2, 1) := by decide +kernel
theorem dX12_cityPart_25 : decode cX12_cityPart 25 = .ok (.if_icmp .gt 21, 3) := by decide +kernel
theorem dX12_cityPart_28 : decode cX12_cityPart 28 = .ok (.aload_n 0, 1) := by decide +kernel
theorem dX12_cityPart_29 : decode cX12_cityPart 29 = .ok (.getfield 220, 3) := by decide +kernel
theorem dX12_cityPart_32 : decode cX12_cityPart 32 = .ok (.iload_n 1, 1) := by decide +kernel
theorem dX12_cityPart_33 : decode cX12_cityPart 33 = .ok (.ishr, 1) := by decide +kernel
theorem dX12_cityPart_34 : decode cX12_cityPart 34 = .ok (.iconst 1, 1) := by decide +kernel
theorem dX12_cityPart_35 : decode cX12_cityPart 35 = .ok (.iand, 1) := by decide +kernel
theorem dX12_cityPart_36 : decode cX12_cityPart 36 = .ok (.iconst 1, 1) := by decide +kernel
theorem dX12_cityPart_37 : decode cX12_cityPart 37 = .ok (.if_icmp .ne 9, 3) := by decide +kernel
theorem dX12_cityPart_40 : decode cX12_cityPart 40 = .ok (.aload_n 0, 1) := by decide +kernel
theorem dX12_cityPart_41 : decode cX12_cityPart 41 = .ok (.iconst 5, 1) := by decide +kernel
theorem dX12_cityPart_42 : decode cX12_cityPart 42 = .ok (.invokevirtual 167, 3) := by decide +kernel
theorem dX12_cityPart_45 : decode cX12_cityPart 45 = .ok (.ireturn, 1) := by decide +kernel
theorem dX12_cityPart_46 : decode cX12_cityPart 46 = .ok (.aload_n 0, 1) := by decide +kernel
theorem dX12_cityPart_47 : decode cX12_cityPart 47 = .ok (.dup, 1) := by decide +kernel
theorem dX12_cityPart_48 : decode cX12_cityPart 48 = .ok (.getfield 220, 3) := by decide +kernel
theorem dX12_cityPart_51 : decode cX12_cityPart 51 = .ok (.iconst 1, 1) := by decide +kernel
theorem dX12_cityPart_52 : decode cX12_cityPart 52 = .ok (.iload_n 1, 1) := by decide +kernel
theorem dX12_cityPart_53 : decode cX12_cityPart 53 = .ok (.ishl, 1) := by decide +kernel
theorem dX12_cityPart_54 : decode cX12_cityPart 54 = .ok (.ior, 1) := by decide +kernel
theorem dX12_cityPart_55 : decode cX12_cityPart 55 = .ok (.putfield 220, 3) := by decide +kernel
theorem dX12_cityPart_58 : decode cX12_cityPart 58 = .ok (.iload_n 1, 1) := by decide +kernel
theorem dX12_cityPart_59 : decode cX12_cityPart 59 = .ok (.iconst 2, 1) := by decide +kernel
theorem dX12_cityPart_60 : decode cX12_cityPart 60 = .ok (.if_icmp .gt 7, 3) := by decide +kernel
theorem dX12_cityPart_63 : decode cX12_cityPart 63 = .ok (.aload_n 0, 1) := by decide +kernel
theorem dX12_cityPart_64 : decode cX12_cityPart 64 = .ok (.invokevirtual 161, 3) := by decide +kernel
theorem dX12_cityPart_67 : decode cX12_cityPart 67 = .ok (.iload_n 1, 1) := by decide +kernel
theorem dX12_cityPart_68 : decode cX12_cityPart 68 = .ok (.tableswitch 130 0 7 #[48, 62, 76, 90, 98, 106, 114, 122], 48) := by decide +kernel
theorem dX12_cityPart_116 : decode cX12_cityPart 116 = .ok (.aload_n 0, 1) := by decide +kernel
theorem dX12_cityPart_117 : decode cX12_cityPart 117 = .ok (.sipush 1985, 3) := by decide +kernel
theorem dX12_cityPart_120 : decode cX12_cityPart 120 = .ok (.iconst 0, 1) := by decide +kernel
theorem dX12_cityPart_121 : decode cX12_cityPart 121 = .ok (.bipush 99, 2) := by decide +kernel
theorem dX12_cityPart_123 : decode cX12_cityPart 123 = .ok (.invokevirtual 208, 3) := by decide +kernel
theorem dX12_cityPart_126 : decode cX12_cityPart 126 = .ok (.istore_n 2, 1) := by decide +kernel
theorem dX12_cityPart_127 : decode cX12_cityPart 127 = .ok (.goto 76, 3) := by decide +kernel
theorem dX12_cityPart_130 : decode cX12_cityPart 130 = .ok (.aload_n 0, 1) := by decide +kernel
theorem dX12_cityPart_131 : decode cX12_cityPart 131 = .ok (.sipush 1986, 3) := by decide +kernel
theorem dX12_cityPart_134 : decode cX12_cityPart 134 = .ok (.iconst 1, 1) := by decide +kernel
theorem dX12_cityPart_135 : decode cX12_cityPart 135 = .ok (.bipush 24, 2) := by decide +kernel
theorem dX12_cityPart_137 : decode cX12_cityPart 137 = .ok (.invokevirtual 208, 3) := by decide +kernel
theorem dX12_cityPart_140 : decode cX12_cityPart 140 = .ok (.istore_n 2, 1) := by decide +kernel
theorem dX12_cityPart_141 : decode cX12_cityPart 141 = .ok (.goto 62, 3) := by decide +kernel
theorem dX12_cityPart_144 : decode cX12_cityPart 144 = .ok (.aload_n 0, 1) := by decide +kernel
theorem dX12_cityPart_145 : decode cX12_cityPart 145 = .ok (.sipush 1987, 3) := by decide +kernel
theorem dX12_cityPart_148 : decode cX12_cityPart 148 = .ok (.iconst 0, 1) := by decide +kernel
theorem dX12_cityPart_149 : decode cX12_cityPart 149 = .ok (.bipush 16, 2) := by decide +kernel
theorem dX12_cityPart_151 : decode cX12_cityPart 151 = .ok (.invokevirtual 208, 3) := by decide +kernel
theorem dX12_cityPart_154 : decode cX12_cityPart 154 = .ok (.istore_n 2, 1) := by decide +kernel
theorem dX12_cityPart_155 : decode cX12_cityPart 155 = .ok (.goto 48, 3) := by decide +kernel
theorem dX12_cityPart_158 : decode cX12_cityPart 158 = .ok (.aload_n 0, 1) := by decide +kernel
theorem dX12_cityPart_159 : decode cX12_cityPart 159 = .ok (.invokevirtual 223, 3) := by decide +kernel
theorem dX12_cityPart_162 : decode cX12_cityPart 162 = .ok (.istore_n 2, 1) := by decide +kernel
theorem dX12_cityPart_163 : decode cX12_cityPart 163 = .ok (.goto 40, 3) := by decide +kernel
theorem dX12_cityPart_166 : decode cX12_cityPart 166 = .ok (.aload_n 0, 1) := by decide +kernel
theorem dX12_cityPart_167 : decode cX12_cityPart 167 = .ok (.invokevirtual 226, 3) := by decide +kernel
theorem dX12_cityPart_170 : decode cX12_cityPart 170 = .ok (.istore_n 2, 1) := by decide +kernel
theorem dX12_cityPart_171 : decode cX12_cityPart 171 = .ok (.goto 32, 3) := by decide +kernel
theorem dX12_cityPart_174 : decode cX12_cityPart 174 = .ok (.aload_n 0, 1) := by decide +kernel
theorem dX12_cityPart_175 : decode cX12_cityPart 175 = .ok (.invokevirtual 229, 3) := by decide +kernel
theorem dX12_cityPart_178 : decode cX12_cityPart 178 = .ok (.istore_n 2, 1) := by decide +kernel
theorem dX12_cityPart_179 : decode cX12_cityPart 179 = .ok (.goto 24, 3) := by decide +kernel
theorem dX12_cityPart_182 : decode cX12_cityPart 182 = .ok (.aload_n 0, 1) := by decide +kernel
theorem dX12_cityPart_183 : decode cX12_cityPart 183 = .ok (.invokevirtual 232, 3) := by decide +kernel
theorem dX12_cityPart_186 : decode cX12_cityPart 186 = .ok (.istore_n 2, 1) := by decide +kernel
theorem dX12_cityPart_187 : decode cX12_cityPart 187 = .ok (.goto 16, 3) := by decide +kernel
theorem dX12_cityPart_190 : decode cX12_cityPart 190 = .ok (.aload_n 0, 1) := by decide +kernel
theorem dX12_cityPart_191 : decode cX12_cityPart 191 = .ok (.invokevirtual 235, 3) := by decide +kernel
theorem dX12_cityPart_194 : decode cX12_cityPart 194 = .ok (.istore_n 2, 1) := by decide +kernel
theorem dX12_cityPart_195 : decode cX12_cityPart 195 = .ok (.goto 8, 3) := by decide +kernel
theorem dX12_cityPart_198 : decode cX12_cityPart 198 = .ok (.aload_n 0, 1) := by decide +kernel
theorem dX12_cityPart_199 : decode cX12_cityPart 199 = .ok (.invokevirtual 238, 3) := by decide +kernel
theorem dX12_cityPart_202 : decode cX12_cityPart 202 = .ok (.istore_n 2, 1) := by decide +kernel
theorem dX12_cityPart_203 : decode cX12_cityPart 203 = .ok (.iload_n 2, 1) := by decide +kernel
theorem dX12_cityPart_204 : decode cX12_cityPart 204 = .ok (.ifCond .eq 16, 3) := by decide +kernel
theorem dX12_cityPart_207 : decode cX12_cityPart 207 = .ok (.aload_n 0, 1) := by decide +kernel
theorem dX12_cityPart_208 : decode cX12_cityPart 208 = .ok (.bipush 59, 2) := by decide +kernel
theorem dX12_cityPart_210 : decode cX12_cityPart 210 = .ok (.invokevirtual 241, 3) := by decide +kernel
theorem dX12_cityPart_213 : decode cX12_cityPart 213 = .ok (.ifCond .eq 7, 3) := by decide +kernel
theorem dX12_cityPart_216 : decode cX12_cityPart 216 = .ok (.iconst 1, 1) := by decide +kernel
theorem dX12_cityPart_217 : decode cX12_cityPart 217 = .ok (.goto 4, 3) := by decide +kernel
theorem dX12_cityPart_220 : decode cX12_cityPart 220 = .ok (.iconst 0, 1) := by decide +kernel
theorem dX12_cityPart_221 : decode cX12_cityPart 221 = .ok (.ireturn, 1) := by decide +kernel
theorem dX12_city_0 : decode cX12_city 0 = .ok (.aload_n 0, 1) := by decide +kernel
theorem dX12_city_1 : decode cX12_city 1 = .ok (.iload_n 1, 1) := by decide +kernel
theorem dX12_city_2 : decode cX12_city 2 = .ok (.sipush 900, 3) := by decide +kernel
theorem dX12_city_5 : decode cX12_city 5 = .ok (.invokevirtual 244, 3) := by decide +kernel
theorem dX12_city_8 : decode cX12_city 8 = .ok (.ifCond .ne 9, 3) := by decide +kernel
theorem dX12_city_11 : decode cX12_city 11 = .ok (.aload_n 0, 1) := by decide +kernel
theorem dX12_city_12 : decode cX12_city 12 = .ok (.iconst 1, 1) := by decide +kernel
theorem dX12_city_13 : decode cX12_city 13 = .ok (.invokevirtual 85, 3) := by decide +kernel
theorem dX12_city_16 : decode cX12_city 16 = .ok (.ireturn, 1) := by decide +kernel
theorem dX12_city_17 : decode cX12_city 17 = .ok (.aload_n 0, 1) := by decide +kernel
theorem dX12_city_18 : decode cX12_city 18 = .ok (.sipush 1980, 3) := by decide +kernel
theorem dX12_city_21 : decode cX12_city 21 = .ok (.invokevirtual 75, 3) := by decide +kernel
theorem dX12_city_24 : decode cX12_city 24 = .ok (.aload_n 0, 1) := by decide +kernel
theorem dX12_city_25 : decode cX12_city 25 = .ok (.iconst 0, 1) := by decide +kernel
theorem dX12_city_26 : decode cX12_city 26 = .ok (.putfield 220, 3) := by decide +kernel
theorem dX12_city_29 : decode cX12_city 29 = .ok (.iconst 1, 1) := by decide +kernel
theorem dX12_city_30 : decode cX12_city 30 = .ok (.istore_n 2, 1) := by decide +kernel
theorem dX12_city_31 : decode cX12_city 31 = .ok (.iload_n 2, 1) := by decide +kernel
theorem dX12_city_32 : decode cX12_city 32 = .ok (.ifCond .eq 18, 3) := by decide +kernel
theorem dX12_city_35 : decode cX12_city 35 = .ok (.aload_n 0, 1) := by decide +kernel
theorem dX12_city_36 : decode cX12_city 36 = .ok (.getfield 130, 3) := by decide +kernel
theorem dX12_city_39 : decode cX12_city 39 = .ok (.ifCond .eq 11, 3) := by decide +kernel
theorem dX12_city_42 : decode cX12_city 42 = .ok (.aload_n 0, 1) := by decide +kernel
theorem dX12_city_43 : decode cX12_city 43 = .ok (.invokevirtual 248, 3) := by decide +kernel
theorem dX12_city_46 : decode cX12_city 46 = .ok (.istore_n 2, 1) := by decide +kernel
theorem dX12_city_47 : decode cX12_city 47 = .ok (.goto (-16), 3) := by decide +kernel
theorem dX12_city_50 : decode cX12_city 50 = .ok (.aload_n 0, 1) := by decide +kernel
theorem dX12_city_51 : decode cX12_city 51 = .ok (.getfield 155, 3) := by decide +kernel
theorem dX12_city_54 : decode cX12_city 54 = .ok (.ifCond .ne 63, 3) := by decide +kernel
theorem dX12_city_57 : decode cX12_city 57 = .ok (.iconst 0, 1) := by decide +kernel
theorem dX12_city_58 : decode cX12_city 58 = .ok (.istore_n 3, 1) := by decide +kernel
theorem dX12_city_59 : decode cX12_city 59 = .ok (.iload_n 3, 1) := by decide +kernel
theorem dX12_city_60 : decode cX12_city 60 = .ok (.sipush 495, 3) := by decide +kernel
theorem dX12_city_63 : decode cX12_city 63 = .ok (.if_icmp .ge 25, 3) := by decide +kernel
theorem dX12_city_66 : decode cX12_city 66 = .ok (.aload_n 0, 1) := by decide +kernel
theorem dX12_city_67 : decode cX12_city 67 = .ok (.getfield 7, 3) := by decide +kernel
theorem dX12_city_70 : decode cX12_city 70 = .ok (.iload_n 3, 1) := by decide +kernel
theorem dX12_city_71 : decode cX12_city 71 = .ok (.aload_n 0, 1) := by decide +kernel
theorem dX12_city_72 : decode cX12_city 72 = .ok (.getfield 7, 3) := by decide +kernel
theorem dX12_city_75 : decode cX12_city 75 = .ok (.sipush 1980, 3) := by decide +kernel
theorem dX12_city_78 : decode cX12_city 78 = .ok (.iload_n 3, 1) := by decide +kernel
theorem dX12_city_79 : decode cX12_city 79 = .ok (.iadd, 1) := by decide +kernel
theorem dX12_city_80 : decode cX12_city 80 = .ok (.iaload, 1) := by decide +kernel
theorem dX12_city_81 : decode cX12_city 81 = .ok (.iastore, 1) := by decide +kernel
theorem dX12_city_82 : decode cX12_city 82 = .ok (.iinc 3 1, 3) := by decide +kernel
theorem dX12_city_85 : decode cX12_city 85 = .ok (.goto (-26), 3) := by decide +kernel
theorem dX12_city_88 : decode cX12_city 88 = .ok (.iconst 0, 1) := by decide +kernel
theorem dX12_city_89 : decode cX12_city 89 = .ok (.istore_n 3, 1) := by decide +kernel
theorem dX12_city_90 : decode cX12_city 90 = .ok (.iload_n 3, 1) := by decide +kernel
theorem dX12_city_91 : decode cX12_city 91 = .ok (.bipush 27, 2) := by decide +kernel
theorem dX12_city_93 : decode cX12_city 93 = .ok (.if_icmp .ge 24, 3) := by decide +kernel
theorem dX12_city_96 : decode cX12_city 96 = .ok (.aload_n 0, 1) := by decide +kernel
theorem dX12_city_97 : decode cX12_city 97 = .ok (.getfield 13, 3) := by decide +kernel
theorem dX12_city_100 : decode cX12_city 100 = .ok (.iload_n 3, 1) := by decide +kernel
theorem dX12_city_101 : decode cX12_city 101 = .ok (.aload_n 0, 1) := by decide +kernel
theorem dX12_city_102 : decode cX12_city 102 = .ok (.getfield 13, 3) := by decide +kernel
theorem dX12_city_105 : decode cX12_city 105 = .ok (.bipush 108, 2) := by decide +kernel
theorem dX12_city_107 : decode cX12_city 107 = .ok (.iload_n 3, 1) := by decide +kernel
theorem dX12_city_108 : decode cX12_city 108 = .ok (.iadd, 1) := by decide +kernel
theorem dX12_city_109 : decode cX12_city 109 = .ok (.laload, 1) := by decide +kernel
theorem dX12_city_110 : decode cX12_city 110 = .ok (.lastore, 1) := by decide +kernel
theorem dX12_city_111 : decode cX12_city 111 = .ok (.iinc 3 1, 3) := by decide +kernel
theorem dX12_city_114 : decode cX12_city 114 = .ok (.goto (-24), 3) := by decide +kernel
theorem dX12_city_117 : decode cX12_city 117 = .ok (.aload_n 0, 1) := by decide +kernel
theorem dX12_city_118 : decode cX12_city 118 = .ok (.aload_n 0, 1) := by decide +kernel
theorem dX12_city_119 : decode cX12_city 119 = .ok (.getfield 7, 3) := by decide +kernel
theorem dX12_city_122 : decode cX12_city 122 = .ok (.iconst 0, 1) := by decide +kernel
theorem dX12_city_123 : decode cX12_city 123 = .ok (.iaload, 1) := by decide +kernel
theorem dX12_city_124 : decode cX12_city 124 = .ok (.invokevirtual 251, 3) := by decide +kernel
theorem dX12_city_127 : decode cX12_city 127 = .ok (.ireturn, 1) := by decide +kernel
theorem dX12_extraTo_0 : decode cX12_extraTo 0 = .ok (.aload_n 0, 1) := by decide +kernel
theorem dX12_extraTo_1 : decode cX12_extraTo 1 = .ok (.bipush 8, 2) := by decide +kernel
theorem dX12_extraTo_3 : decode cX12_extraTo 3 = .ok (.aload_n 0, 1) := by decide +kernel
theorem dX12_extraTo_4 : decode cX12_extraTo 4 = .ok (.getfield 7, 3) := by decide +kernel
theorem dX12_extraTo_7 : decode cX12_extraTo 7 = .ok (.iconst 2, 1) := by decide +kernel
theorem dX12_extraTo_8 : decode cX12_extraTo 8 = .ok (.iaload, 1) := by decide +kernel
theorem dX12_extraTo_9 : decode cX12_extraTo 9 = .ok (.iload_n 1, 1) := by decide +kernel
theorem dX12_extraTo_10 : decode cX12_extraTo 10 = .ok (.invokevirtual 191, 3) := by decide +kernel
theorem dX12_extraTo_13 : decode cX12_extraTo 13 = .ok (.ireturn, 1) := by decide +kernel
theorem dX12_happeningTo_0 : decode cX12_happeningTo 0 = .ok (.aload_n 0, 1) := by decide +kernel
theorem dX12_happeningTo_1 : decode cX12_happeningTo 1 = .ok (.bipush 15, 2) := by decide +kernel
theorem dX12_happeningTo_3 : decode cX12_happeningTo 3 = .ok (.aload_n 0, 1) := by decide +kernel
theorem dX12_happeningTo_4 : decode cX12_happeningTo 4 = .ok (.getfield 7, 3) := by decide +kernel
theorem dX12_happeningTo_7 : decode cX12_happeningTo 7 = .ok (.iconst 3, 1) := by decide +kernel
theorem dX12_happeningTo_8 : decode cX12_happeningTo 8 = .ok (.iaload, 1) := by decide +kernel
theorem dX12_happeningTo_9 : decode cX12_happeningTo 9 = .ok (.iload_n 1, 1) := by decide +kernel
theorem dX12_happeningTo_10 : decode cX12_happeningTo 10 = .ok (.invokevirtual 191, 3) := by decide +kernel
theorem dX12_happeningTo_13 : decode cX12_happeningTo 13 = .ok (.ireturn, 1) := by decide +kernel
theorem dX12_test_0 : decode cX12_test 0 = .ok (.aload_n 0, 1) := by decide +kernel
theorem dX12_test_1 : decode cX12_test 1 = .ok (.ldc 181, 2) := by decide +kernel
theorem dX12_test_3 : decode cX12_test 3 = .ok (.invokevirtual 170, 3) := by decide +kernel
theorem dX12_test_6 : decode cX12_test 6 = .ok (.istore_n 2, 1) := by decide +kernel
theorem dX12_test_7 : decode cX12_test 7 = .ok (.iload_n 2, 1) := by decide +kernel
theorem dX12_test_8 : decode cX12_test 8 = .ok (.bipush 21, 2) := by decide +kernel
theorem dX12_test_10 : decode cX12_test 10 = .ok (.if_icmp .ge 9, 3) := by decide +kernel
theorem dX12_test_13 : decode cX12_test 13 = .ok (.aload_n 0, 1) := by decide +kernel
theorem dX12_test_14 : decode cX12_test 14 = .ok (.iconst 2, 1) := by decide +kernel
theorem dX12_test_15 : decode cX12_test 15 = .ok (.invokevirtual 167, 3) := by decide +kernel
theorem dX12_test_18 : decode cX12_test 18 = .ok (.ireturn, 1) := by decide +kernel
theorem dX12_test_19 : decode cX12_test 19 = .ok (.aload_n 0, 1) := by decide +kernel
theorem dX12_test_20 : decode cX12_test 20 = .ok (.getfield 7, 3) := by decide +kernel
theorem dX12_test_23 : decode cX12_test 23 = .ok (.iload_n 1, 1) := by decide +kernel
theorem dX12_test_24 : decode cX12_test 24 = .ok (.sipush 1700, 3) := by decide +kernel
theorem dX12_test_27 : decode cX12_test 27 = .ok (.iload_n 2, 1) := by decide +kernel
theorem dX12_test_28 : decode cX12_test 28 = .ok (.iadd, 1) := by decide +kernel
theorem dX12_test_29 : decode cX12_test 29 = .ok (.iastore, 1) := by decide +kernel
theorem dX12_test_30 : decode cX12_test 30 = .ok (.aload_n 0, 1) := by decide +kernel
theorem dX12_test_31 : decode cX12_test 31 = .ok (.invokevirtual 161, 3) := by decide +kernel
theorem dX12_test_34 : decode cX12_test 34 = .ok (.iload_n 2, 1) := by decide +kernel
theorem dX12_test_35 : decode cX12_test 35 = .ok (.bipush 21, 2) := by decide +kernel
theorem dX12_test_37 : decode cX12_test 37 = .ok (.if_icmp .ne 31, 3) := by decide +kernel
theorem dX12_test_40 : decode cX12_test 40 = .ok (.aload_n 0, 1) := by decide +kernel
theorem dX12_test_41 : decode cX12_test 41 = .ok (.iload_n 1, 1) := by decide +kernel
theorem dX12_test_42 : decode cX12_test 42 = .ok (.iconst 1, 1) := by decide +kernel
theorem dX12_test_43 : decode cX12_test 43 = .ok (.iadd, 1) := by decide +kernel
theorem dX12_test_44 : decode cX12_test 44 = .ok (.invokevirtual 254, 3) := by decide +kernel
theorem dX12_test_47 : decode cX12_test 47 = .ok (.ifCond .eq 19, 3) := by decide +kernel
theorem dX12_test_50 : decode cX12_test 50 = .ok (.aload_n 0, 1) := by decide +kernel
theorem dX12_test_51 : decode cX12_test 51 = .ok (.iload_n 1, 1) := by decide +kernel
theorem dX12_test_52 : decode cX12_test 52 = .ok (.iconst 2, 1) := by decide +kernel
theorem dX12_test_53 : decode cX12_test 53 = .ok (.iadd, 1) := by decide +kernel
theorem dX12_test_54 : decode cX12_test 54 = .ok (.iconst 0, 1) := by decide +kernel
theorem dX12_test_55 : decode cX12_test 55 = .ok (.iconst 2, 1) := by decide +kernel
theorem dX12_test_56 : decode cX12_test 56 = .ok (.invokevirtual 208, 3) := by decide +kernel
theorem dX12_test_59 : decode cX12_test 59 = .ok (.ifCond .eq 7, 3) := by decide +kernel
theorem dX12_test_62 : decode cX12_test 62 = .ok (.iconst 1, 1) := by decide +kernel
theorem dX12_test_63 : decode cX12_test 63 = .ok (.goto 4, 3) := by decide +kernel
theorem dX12_test_66 : decode cX12_test 66 = .ok (.iconst 0, 1) := by decide +kernel
theorem dX12_test_67 : decode cX12_test 67 = .ok (.ireturn, 1) := by decide +kernel
theorem dX12_test_68 : decode cX12_test 68 = .ok (.iload_n 2, 1) := by decide +kernel
theorem dX12_test_69 : decode cX12_test 69 = .ok (.bipush 22, 2) := by decide +kernel
theorem dX12_test_71 : decode cX12_test 71 = .ok (.if_icmp .ne 36, 3) := by decide +kernel
theorem dX12_test_74 : decode cX12_test 74 = .ok (.aload_n 0, 1) := by decide +kernel
theorem dX12_test_75 : decode cX12_test 75 = .ok (.iload_n 1, 1) := by decide +kernel
theorem dX12_test_76 : decode cX12_test 76 = .ok (.iconst 1, 1) := by decide +kernel
theorem dX12_test_77 : decode cX12_test 77 = .ok (.iadd, 1) := by decide +kernel
theorem dX12_test_78 : decode cX12_test 78 = .ok (.invokevirtual 257, 3) := by decide +kernel
theorem dX12_test_81 : decode cX12_test 81 = .ok (.ifCond .eq 24, 3) := by decide +kernel
theorem dX12_test_84 : decode cX12_test 84 = .ok (.aload_n 0, 1) := by decide +kernel
theorem dX12_test_85 : decode cX12_test 85 = .ok (.iconst 0, 1) := by decide +kernel
theorem dX12_test_86 : decode cX12_test 86 = .ok (.aload_n 0, 1) := by decide +kernel
theorem dX12_test_87 : decode cX12_test 87 = .ok (.getfield 7, 3) := by decide +kernel
theorem dX12_test_90 : decode cX12_test 90 = .ok (.iconst 0, 1) := by decide +kernel
theorem dX12_test_91 : decode cX12_test 91 = .ok (.iaload, 1) := by decide +kernel
theorem dX12_test_92 : decode cX12_test 92 = .ok (.iload_n 1, 1) := by decide +kernel
theorem dX12_test_93 : decode cX12_test 93 = .ok (.iconst 2, 1) := by decide +kernel
theorem dX12_test_94 : decode cX12_test 94 = .ok (.iadd, 1) := by decide +kernel
theorem dX12_test_95 : decode cX12_test 95 = .ok (.invokevirtual 191, 3) := by decide +kernel
theorem dX12_test_98 : decode cX12_test 98 = .ok (.ifCond .eq 7, 3) := by decide +kernel
theorem dX12_test_101 : decode cX12_test 101 = .ok (.iconst 1, 1) := by decide +kernel
theorem dX12_test_102 : decode cX12_test 102 = .ok (.goto 4, 3) := by decide +kernel
theorem dX12_test_105 : decode cX12_test 105 = .ok (.iconst 0, 1) := by decide +kernel
theorem dX12_test_106 : decode cX12_test 106 = .ok (.ireturn, 1) := by decide +kernel
theorem dX12_test_107 : decode cX12_test 107 = .ok (.iload_n 2, 1) := by decide +kernel
theorem dX12_test_108 : decode cX12_test 108 = .ok (.bipush 23, 2) := by decide +kernel
theorem dX12_test_110 : decode cX12_test 110 = .ok (.if_icmp .ne 11, 3) := by decide +kernel
theorem dX12_test_113 : decode cX12_test 113 = .ok (.aload_n 0, 1) := by decide +kernel
theorem dX12_test_114 : decode cX12_test 114 = .ok (.iload_n 1, 1) := by decide +kernel
theorem dX12_test_115 : decode cX12_test 115 = .ok (.iconst 1, 1) := by decide +kernel
theorem dX12_test_116 : decode cX12_test 116 = .ok (.iadd, 1) := by decide +kernel
theorem dX12_test_117 : decode cX12_test 117 = .ok (.invokevirtual 254, 3) := by decide +kernel
theorem dX12_test_120 : decode cX12_test 120 = .ok (.ireturn, 1) := by decide +kernel
theorem dX12_test_121 : decode cX12_test 121 = .ok (.aload_n 0, 1) := by decide +kernel
theorem dX12_test_122 : decode cX12_test 122 = .ok (.bipush 23, 2) := by decide +kernel
theorem dX12_test_124 : decode cX12_test 124 = .ok (.aload_n 0, 1) := by decide +kernel
theorem dX12_test_125 : decode cX12_test 125 = .ok (.getfield 7, 3) := by decide +kernel
theorem dX12_test_128 : decode cX12_test 128 = .ok (.iconst 4, 1) := by decide +kernel
theorem dX12_test_129 : decode cX12_test 129 = .ok (.iaload, 1) := by decide +kernel
theorem dX12_test_130 : decode cX12_test 130 = .ok (.iload_n 1, 1) := by decide +kernel
theorem dX12_test_131 : decode cX12_test 131 = .ok (.iconst 1, 1) := by decide +kernel
theorem dX12_test_132 : decode cX12_test 132 = .ok (.iadd, 1) := by decide +kernel
theorem dX12_test_133 : decode cX12_test 133 = .ok (.invokevirtual 191, 3) := by decide +kernel
theorem dX12_test_136 : decode cX12_test 136 = .ok (.ifCond .ne 5, 3) := by decide +kernel
theorem dX12_test_139 : decode cX12_test 139 = .ok (.iconst 0, 1) := by decide +kernel
theorem dX12_test_140 : decode cX12_test 140 = .ok (.ireturn, 1) := by decide +kernel
theorem dX12_test_141 : decode cX12_test 141 = .ok (.aload_n 0, 1) := by decide +kernel
theorem dX12_test_142 : decode cX12_test 142 = .ok (.bipush 60, 2) := by decide +kernel
theorem dX12_test_144 : decode cX12_test 144 = .ok (.invokevirtual 164, 3) := by decide +kernel
theorem dX12_test_147 : decode cX12_test 147 = .ok (.ifCond .ne 27, 3) := by decide +kernel
theorem dX12_test_150 : decode cX12_test 150 = .ok (.aload_n 0, 1) := by decide +kernel
theorem dX12_test_151 : decode cX12_test 151 = .ok (.bipush 62, 2) := by decide +kernel
theorem dX12_test_153 : decode cX12_test 153 = .ok (.invokevirtual 164, 3) := by decide +kernel
theorem dX12_test_156 : decode cX12_test 156 = .ok (.ifCond .ne 18, 3) := by decide +kernel
theorem dX12_test_159 : decode cX12_test 159 = .ok (.aload_n 0, 1) := by decide +kernel
theorem dX12_test_160 : decode cX12_test 160 = .ok (.bipush 61, 2) := by decide +kernel
theorem dX12_test_162 : decode cX12_test 162 = .ok (.invokevirtual 164, 3) := by decide +kernel
theorem dX12_test_165 : decode cX12_test 165 = .ok (.ifCond .ne 9, 3) := by decide +kernel
theorem dX12_test_168 : decode cX12_test 168 = .ok (.aload_n 0, 1) := by decide +kernel
theorem dX12_test_169 : decode cX12_test 169 = .ok (.iconst 2, 1) := by decide +kernel
theorem dX12_test_170 : decode cX12_test 170 = .ok (.invokevirtual 167, 3) := by decide +kernel
theorem dX12_test_173 : decode cX12_test 173 = .ok (.ireturn, 1) := by decide +kernel
theorem dX12_test_174 : decode cX12_test 174 = .ok (.aload_n 0, 1) := by decide +kernel
theorem dX12_test_175 : decode cX12_test 175 = .ok (.getfield 7, 3) := by decide +kernel
theorem dX12_test_178 : decode cX12_test 178 = .ok (.iload_n 1, 1) := by decide +kernel
theorem dX12_test_179 : decode cX12_test 179 = .ok (.iconst 5, 1) := by decide +kernel
theorem dX12_test_180 : decode cX12_test 180 = .ok (.iadd, 1) := by decide +kernel
theorem dX12_test_181 : decode cX12_test 181 = .ok (.aload_n 0, 1) := by decide +kernel
theorem dX12_test_182 : decode cX12_test 182 = .ok (.getfield 127, 3) := by decide +kernel
theorem dX12_test_185 : decode cX12_test 185 = .ok (.iastore, 1) := by decide +kernel
theorem dX12_test_186 : decode cX12_test 186 = .ok (.aload_n 0, 1) := by decide +kernel
theorem dX12_test_187 : decode cX12_test 187 = .ok (.invokevirtual 161, 3) := by decide +kernel
theorem dX12_test_190 : decode cX12_test 190 = .ok (.aload_n 0, 1) := by decide +kernel
theorem dX12_test_191 : decode cX12_test 191 = .ok (.iload_n 1, 1) := by decide +kernel
theorem dX12_test_192 : decode cX12_test 192 = .ok (.iconst 2, 1) := by decide +kernel
theorem dX12_test_193 : decode cX12_test 193 = .ok (.iadd, 1) := by decide +kernel
theorem dX12_test_194 : decode cX12_test 194 = .ok (.iconst 0, 1) := by decide +kernel
theorem dX12_test_195 : decode cX12_test 195 = .ok (.sipush 9999, 3) := by decide +kernel
theorem dX12_test_198 : decode cX12_test 198 = .ok (.invokevirtual 208, 3) := by decide +kernel
theorem dX12_test_201 : decode cX12_test 201 = .ok (.ireturn, 1) := by decide +kernel
theorem dX12_weekOrder_0 : decode cX12_weekOrder 0 = .ok (.iload_n 1, 1) := by decide +kernel
theorem dX12_weekOrder_1 : decode cX12_weekOrder 1 = .ok (.tableswitch 130 11 18 #[47, 130, 130, 69, 95, 130, 124, 58], 47) := by decide +kernel
theorem dX12_weekOrder_48 : decode cX12_weekOrder 48 = .ok (.aload_n 0, 1) := by decide +kernel
theorem dX12_weekOrder_49 : decode cX12_weekOrder 49 = .ok (.iload_n 2, 1) := by decide +kernel
theorem dX12_weekOrder_50 : decode cX12_weekOrder 50 = .ok (.iconst 1, 1) := by decide +kernel
theorem dX12_weekOrder_51 : decode cX12_weekOrder 51 = .ok (.iadd, 1) := by decide +kernel
theorem dX12_weekOrder_52 : decode cX12_weekOrder 52 = .ok (.iconst 1, 1) := by decide +kernel
theorem dX12_weekOrder_53 : decode cX12_weekOrder 53 = .ok (.bipush 48, 2) := by decide +kernel
theorem dX12_weekOrder_55 : decode cX12_weekOrder 55 = .ok (.invokevirtual 208, 3) := by decide +kernel
theorem dX12_weekOrder_58 : decode cX12_weekOrder 58 = .ok (.ireturn, 1) := by decide +kernel
theorem dX12_weekOrder_59 : decode cX12_weekOrder 59 = .ok (.aload_n 0, 1) := by decide +kernel
theorem dX12_weekOrder_60 : decode cX12_weekOrder 60 = .ok (.iload_n 2, 1) := by decide +kernel
theorem dX12_weekOrder_61 : decode cX12_weekOrder 61 = .ok (.iconst 1, 1) := by decide +kernel
theorem dX12_weekOrder_62 : decode cX12_weekOrder 62 = .ok (.iadd, 1) := by decide +kernel
theorem dX12_weekOrder_63 : decode cX12_weekOrder 63 = .ok (.iconst 1, 1) := by decide +kernel
theorem dX12_weekOrder_64 : decode cX12_weekOrder 64 = .ok (.bipush 99, 2) := by decide +kernel
theorem dX12_weekOrder_66 : decode cX12_weekOrder 66 = .ok (.invokevirtual 208, 3) := by decide +kernel
theorem dX12_weekOrder_69 : decode cX12_weekOrder 69 = .ok (.ireturn, 1) := by decide +kernel
theorem dX12_weekOrder_70 : decode cX12_weekOrder 70 = .ok (.aload_n 0, 1) := by decide +kernel
theorem dX12_weekOrder_71 : decode cX12_weekOrder 71 = .ok (.iload_n 2, 1) := by decide +kernel
theorem dX12_weekOrder_72 : decode cX12_weekOrder 72 = .ok (.iconst 1, 1) := by decide +kernel
theorem dX12_weekOrder_73 : decode cX12_weekOrder 73 = .ok (.iadd, 1) := by decide +kernel
theorem dX12_weekOrder_74 : decode cX12_weekOrder 74 = .ok (.invokevirtual 257, 3) := by decide +kernel
theorem dX12_weekOrder_77 : decode cX12_weekOrder 77 = .ok (.ifCond .eq 17, 3) := by decide +kernel
theorem dX12_weekOrder_80 : decode cX12_weekOrder 80 = .ok (.aload_n 0, 1) := by decide +kernel
theorem dX12_weekOrder_81 : decode cX12_weekOrder 81 = .ok (.iload_n 2, 1) := by decide +kernel
theorem dX12_weekOrder_82 : decode cX12_weekOrder 82 = .ok (.iconst 2, 1) := by decide +kernel
theorem dX12_weekOrder_83 : decode cX12_weekOrder 83 = .ok (.iadd, 1) := by decide +kernel
theorem dX12_weekOrder_84 : decode cX12_weekOrder 84 = .ok (.invokevirtual 254, 3) := by decide +kernel
theorem dX12_weekOrder_87 : decode cX12_weekOrder 87 = .ok (.ifCond .eq 7, 3) := by decide +kernel
theorem dX12_weekOrder_90 : decode cX12_weekOrder 90 = .ok (.iconst 1, 1) := by decide +kernel
theorem dX12_weekOrder_91 : decode cX12_weekOrder 91 = .ok (.goto 4, 3) := by decide +kernel
theorem dX12_weekOrder_94 : decode cX12_weekOrder 94 = .ok (.iconst 0, 1) := by decide +kernel
theorem dX12_weekOrder_95 : decode cX12_weekOrder 95 = .ok (.ireturn, 1) := by decide +kernel
theorem dX12_weekOrder_96 : decode cX12_weekOrder 96 = .ok (.aload_n 0, 1) := by decide +kernel
theorem dX12_weekOrder_97 : decode cX12_weekOrder 97 = .ok (.iload_n 2, 1) := by decide +kernel
theorem dX12_weekOrder_98 : decode cX12_weekOrder 98 = .ok (.iconst 1, 1) := by decide +kernel
theorem dX12_weekOrder_99 : decode cX12_weekOrder 99 = .ok (.iadd, 1) := by decide +kernel
theorem dX12_weekOrder_100 : decode cX12_weekOrder 100 = .ok (.invokevirtual 254, 3) := by decide +kernel
theorem dX12_weekOrder_103 : decode cX12_weekOrder 103 = .ok (.ifCond .eq 20, 3) := by decide +kernel
theorem dX12_weekOrder_106 : decode cX12_weekOrder 106 = .ok (.aload_n 0, 1) := by decide +kernel
theorem dX12_weekOrder_107 : decode cX12_weekOrder 107 = .ok (.iload_n 2, 1) := by decide +kernel
theorem dX12_weekOrder_108 : decode cX12_weekOrder 108 = .ok (.iconst 2, 1) := by decide +kernel
theorem dX12_weekOrder_109 : decode cX12_weekOrder 109 = .ok (.iadd, 1) := by decide +kernel
theorem dX12_weekOrder_110 : decode cX12_weekOrder 110 = .ok (.iconst 1, 1) := by decide +kernel
theorem dX12_weekOrder_111 : decode cX12_weekOrder 111 = .ok (.bipush 99, 2) := by decide +kernel
theorem dX12_weekOrder_113 : decode cX12_weekOrder 113 = .ok (.invokevirtual 208, 3) := by decide +kernel
theorem dX12_weekOrder_116 : decode cX12_weekOrder 116 = .ok (.ifCond .eq 7, 3) := by decide +kernel
theorem dX12_weekOrder_119 : decode cX12_weekOrder 119 = .ok (.iconst 1, 1) := by decide +kernel
theorem dX12_weekOrder_120 : decode cX12_weekOrder 120 = .ok (.goto 4, 3) := by decide +kernel
theorem dX12_weekOrder_123 : decode cX12_weekOrder 123 = .ok (.iconst 0, 1) := by decide +kernel
theorem dX12_weekOrder_124 : decode cX12_weekOrder 124 = .ok (.ireturn, 1) := by decide +kernel
theorem dX12_weekOrder_125 : decode cX12_weekOrder 125 = .ok (.aload_n 0, 1) := by decide +kernel
theorem dX12_weekOrder_126 : decode cX12_weekOrder 126 = .ok (.iload_n 2, 1) := by decide +kernel
theorem dX12_weekOrder_127 : decode cX12_weekOrder 127 = .ok (.invokevirtual 260, 3) := by decide +kernel
theorem dX12_weekOrder_130 : decode cX12_weekOrder 130 = .ok (.ireturn, 1) := by decide +kernel
theorem dX12_weekOrder_131 : decode cX12_weekOrder 131 = .ok (.iconst 1, 1) := by decide +kernel
theorem dX12_weekOrder_132 : decode cX12_weekOrder 132 = .ok (.ireturn, 1) := by decide +kernel
theorem dX12_weekStep_0 : decode cX12_weekStep 0 = .ok (.aload_n 0, 1) := by decide +kernel
theorem dX12_weekStep_1 : decode cX12_weekStep 1 = .ok (.ldc 181, 2) := by decide +kernel
theorem dX12_weekStep_3 : decode cX12_weekStep 3 = .ok (.invokevirtual 170, 3) := by decide +kernel
theorem dX12_weekStep_6 : decode cX12_weekStep 6 = .ok (.istore_n 1, 1) := by decide +kernel
theorem dX12_weekStep_7 : decode cX12_weekStep 7 = .ok (.aload_n 0, 1) := by decide +kernel
theorem dX12_weekStep_8 : decode cX12_weekStep 8 = .ok (.getfield 7, 3) := by decide +kernel
theorem dX12_weekStep_11 : decode cX12_weekStep 11 = .ok (.sipush 1989, 3) := by decide +kernel
theorem dX12_weekStep_14 : decode cX12_weekStep 14 = .ok (.iaload, 1) := by decide +kernel
theorem dX12_weekStep_15 : decode cX12_weekStep 15 = .ok (.istore_n 2, 1) := by decide +kernel
theorem dX12_weekStep_16 : decode cX12_weekStep 16 = .ok (.sipush 2107, 3) := by decide +kernel
theorem dX12_weekStep_19 : decode cX12_weekStep 19 = .ok (.bipush 6, 2) := by decide +kernel
theorem dX12_weekStep_21 : decode cX12_weekStep 21 = .ok (.iload_n 2, 1) := by decide +kernel
theorem dX12_weekStep_22 : decode cX12_weekStep 22 = .ok (.imul, 1) := by decide +kernel
theorem dX12_weekStep_23 : decode cX12_weekStep 23 = .ok (.iadd, 1) := by decide +kernel
theorem dX12_weekStep_24 : decode cX12_weekStep 24 = .ok (.istore_n 3, 1) := by decide +kernel
theorem dX12_weekStep_25 : decode cX12_weekStep 25 = .ok (.iload_n 1, 1) := by decide +kernel
theorem dX12_weekStep_26 : decode cX12_weekStep 26 = .ok (.bipush 17, 2) := by decide +kernel
theorem dX12_weekStep_28 : decode cX12_weekStep 28 = .ok (.if_icmp .eq 9, 3) := by decide +kernel
theorem dX12_weekStep_31 : decode cX12_weekStep 31 = .ok (.iload_n 1, 1) := by decide +kernel
theorem dX12_weekStep_32 : decode cX12_weekStep 32 = .ok (.bipush 18, 2) := by decide +kernel
theorem dX12_weekStep_34 : decode cX12_weekStep 34 = .ok (.if_icmp .ne 7, 3) := by decide +kernel
theorem dX12_weekStep_37 : decode cX12_weekStep 37 = .ok (.iconst 1, 1) := by decide +kernel
theorem dX12_weekStep_38 : decode cX12_weekStep 38 = .ok (.goto 4, 3) := by decide +kernel
theorem dX12_weekStep_41 : decode cX12_weekStep 41 = .ok (.iconst 0, 1) := by decide +kernel
theorem dX12_weekStep_42 : decode cX12_weekStep 42 = .ok (.istore 4, 2) := by decide +kernel
theorem dX12_weekStep_44 : decode cX12_weekStep 44 = .ok (.iload_n 1, 1) := by decide +kernel
theorem dX12_weekStep_45 : decode cX12_weekStep 45 = .ok (.bipush 11, 2) := by decide +kernel
theorem dX12_weekStep_47 : decode cX12_weekStep 47 = .ok (.if_icmp .eq 15, 3) := by decide +kernel
theorem dX12_weekStep_50 : decode cX12_weekStep 50 = .ok (.iload_n 1, 1) := by decide +kernel
theorem dX12_weekStep_51 : decode cX12_weekStep 51 = .ok (.bipush 14, 2) := by decide +kernel
theorem dX12_weekStep_53 : decode cX12_weekStep 53 = .ok (.if_icmp .lt 22, 3) := by decide +kernel
theorem dX12_weekStep_56 : decode cX12_weekStep 56 = .ok (.iload_n 1, 1) := by decide +kernel
theorem dX12_weekStep_57 : decode cX12_weekStep 57 = .ok (.bipush 20, 2) := by decide +kernel
theorem dX12_weekStep_59 : decode cX12_weekStep 59 = .ok (.if_icmp .gt 16, 3) := by decide +kernel
theorem dX12_weekStep_62 : decode cX12_weekStep 62 = .ok (.iload_n 1, 1) := by decide +kernel
theorem dX12_weekStep_63 : decode cX12_weekStep 63 = .ok (.bipush 19, 2) := by decide +kernel
theorem dX12_weekStep_65 : decode cX12_weekStep 65 = .ok (.if_icmp .ne 16, 3) := by decide +kernel
theorem dX12_weekStep_68 : decode cX12_weekStep 68 = .ok (.aload_n 0, 1) := by decide +kernel
theorem dX12_weekStep_69 : decode cX12_weekStep 69 = .ok (.getfield 263, 3) := by decide +kernel
theorem dX12_weekStep_72 : decode cX12_weekStep 72 = .ok (.ifCond .ne 9, 3) := by decide +kernel
theorem dX12_weekStep_75 : decode cX12_weekStep 75 = .ok (.aload_n 0, 1) := by decide +kernel
theorem dX12_weekStep_76 : decode cX12_weekStep 76 = .ok (.iconst 2, 1) := by decide +kernel
theorem dX12_weekStep_77 : decode cX12_weekStep 77 = .ok (.invokevirtual 167, 3) := by decide +kernel
theorem dX12_weekStep_80 : decode cX12_weekStep 80 = .ok (.ireturn, 1) := by decide +kernel
theorem dX12_weekStep_81 : decode cX12_weekStep 81 = .ok (.iload_n 1, 1) := by decide +kernel
theorem dX12_weekStep_82 : decode cX12_weekStep 82 = .ok (.bipush 19, 2) := by decide +kernel
theorem dX12_weekStep_84 : decode cX12_weekStep 84 = .ok (.if_icmp .eq 19, 3) := by decide +kernel
theorem dX12_weekStep_87 : decode cX12_weekStep 87 = .ok (.aload_n 0, 1) := by decide +kernel
theorem dX12_weekStep_88 : decode cX12_weekStep 88 = .ok (.getfield 266, 3) := by decide +kernel
theorem dX12_weekStep_91 : decode cX12_weekStep 91 = .ok (.bipush 30, 2) := by decide +kernel
theorem dX12_weekStep_93 : decode cX12_weekStep 93 = .ok (.if_icmp .ne 10, 3) := by decide +kernel
theorem dX12_weekStep_96 : decode cX12_weekStep 96 = .ok (.aload_n 0, 1) := by decide +kernel
theorem dX12_weekStep_97 : decode cX12_weekStep 97 = .ok (.bipush 6, 2) := by decide +kernel
theorem dX12_weekStep_99 : decode cX12_weekStep 99 = .ok (.invokevirtual 167, 3) := by decide +kernel
theorem dX12_weekStep_102 : decode cX12_weekStep 102 = .ok (.ireturn, 1) := by decide +kernel
theorem dX12_weekStep_103 : decode cX12_weekStep 103 = .ok (.iload 4, 2) := by decide +kernel
theorem dX12_weekStep_105 : decode cX12_weekStep 105 = .ok (.ifCond .eq 18, 3) := by decide +kernel
theorem dX12_weekStep_108 : decode cX12_weekStep 108 = .ok (.aload_n 0, 1) := by decide +kernel
theorem dX12_weekStep_109 : decode cX12_weekStep 109 = .ok (.getfield 263, 3) := by decide +kernel
theorem dX12_weekStep_112 : decode cX12_weekStep 112 = .ok (.iconst 3, 1) := by decide +kernel
theorem dX12_weekStep_113 : decode cX12_weekStep 113 = .ok (.if_icmp .ne 10, 3) := by decide +kernel
theorem dX12_weekStep_116 : decode cX12_weekStep 116 = .ok (.aload_n 0, 1) := by decide +kernel
theorem dX12_weekStep_117 : decode cX12_weekStep 117 = .ok (.bipush 7, 2) := by decide +kernel
theorem dX12_weekStep_119 : decode cX12_weekStep 119 = .ok (.invokevirtual 167, 3) := by decide +kernel
theorem dX12_weekStep_122 : decode cX12_weekStep 122 = .ok (.ireturn, 1) := by decide +kernel
theorem dX12_weekStep_123 : decode cX12_weekStep 123 = .ok (.aload_n 0, 1) := by decide +kernel
theorem dX12_weekStep_124 : decode cX12_weekStep 124 = .ok (.dup, 1) := by decide +kernel
theorem dX12_weekStep_125 : decode cX12_weekStep 125 = .ok (.getfield 266, 3) := by decide +kernel
theorem dX12_weekStep_128 : decode cX12_weekStep 128 = .ok (.iload_n 1, 1) := by decide +kernel
theorem dX12_weekStep_129 : decode cX12_weekStep 129 = .ok (.bipush 19, 2) := by decide +kernel
theorem dX12_weekStep_131 : decode cX12_weekStep 131 = .ok (.if_icmp .ne 7, 3) := by decide +kernel
theorem dX12_weekStep_134 : decode cX12_weekStep 134 = .ok (.iconst 0, 1) := by decide +kernel
theorem dX12_weekStep_135 : decode cX12_weekStep 135 = .ok (.goto 4, 3) := by decide +kernel
theorem dX12_weekStep_138 : decode cX12_weekStep 138 = .ok (.iconst 1, 1) := by decide +kernel
theorem dX12_weekStep_139 : decode cX12_weekStep 139 = .ok (.iadd, 1) := by decide +kernel
theorem dX12_weekStep_140 : decode cX12_weekStep 140 = .ok (.putfield 266, 3) := by decide +kernel
theorem dX12_weekStep_143 : decode cX12_weekStep 143 = .ok (.aload_n 0, 1) := by decide +kernel
theorem dX12_weekStep_144 : decode cX12_weekStep 144 = .ok (.getfield 7, 3) := by decide +kernel
theorem dX12_weekStep_147 : decode cX12_weekStep 147 = .ok (.iload_n 3, 1) := by decide +kernel
theorem dX12_weekStep_148 : decode cX12_weekStep 148 = .ok (.iload_n 1, 1) := by decide +kernel
theorem dX12_weekStep_149 : decode cX12_weekStep 149 = .ok (.iastore, 1) := by decide +kernel
theorem dX12_weekStep_150 : decode cX12_weekStep 150 = .ok (.iconst 1, 1) := by decide +kernel
theorem dX12_weekStep_151 : decode cX12_weekStep 151 = .ok (.istore 5, 2) := by decide +kernel
theorem dX12_weekStep_153 : decode cX12_weekStep 153 = .ok (.iload 5, 2) := by decide +kernel
theorem dX12_weekStep_155 : decode cX12_weekStep 155 = .ok (.bipush 6, 2) := by decide +kernel
theorem dX12_weekStep_157 : decode cX12_weekStep 157 = .ok (.if_icmp .ge 19, 3) := by decide +kernel
theorem dX12_weekStep_160 : decode cX12_weekStep 160 = .ok (.aload_n 0, 1) := by decide +kernel
theorem dX12_weekStep_161 : decode cX12_weekStep 161 = .ok (.getfield 7, 3) := by decide +kernel
theorem dX12_weekStep_164 : decode cX12_weekStep 164 = .ok (.iload_n 3, 1) := by decide +kernel
theorem dX12_weekStep_165 : decode cX12_weekStep 165 = .ok (.iload 5, 2) := by decide +kernel
theorem dX12_weekStep_167 : decode cX12_weekStep 167 = .ok (.iadd, 1) := by decide +kernel
theorem dX12_weekStep_168 : decode cX12_weekStep 168 = .ok (.iconst 0, 1) := by decide +kernel
theorem dX12_weekStep_169 : decode cX12_weekStep 169 = .ok (.iastore, 1) := by decide +kernel
theorem dX12_weekStep_170 : decode cX12_weekStep 170 = .ok (.iinc 5 1, 3) := by decide +kernel
theorem dX12_weekStep_173 : decode cX12_weekStep 173 = .ok (.goto (-20), 3) := by decide +kernel
theorem dX12_weekStep_176 : decode cX12_weekStep 176 = .ok (.aload_n 0, 1) := by decide +kernel
theorem dX12_weekStep_177 : decode cX12_weekStep 177 = .ok (.getfield 7, 3) := by decide +kernel
theorem dX12_weekStep_180 : decode cX12_weekStep 180 = .ok (.sipush 1989, 3) := by decide +kernel
theorem dX12_weekStep_183 : decode cX12_weekStep 183 = .ok (.dup2, 1) := by decide +kernel
theorem dX12_weekStep_184 : decode cX12_weekStep 184 = .ok (.iaload, 1) := by decide +kernel
theorem dX12_weekStep_185 : decode cX12_weekStep 185 = .ok (.iconst 1, 1) := by decide +kernel
theorem dX12_weekStep_186 : decode cX12_weekStep 186 = .ok (.iadd, 1) := by decide +kernel
theorem dX12_weekStep_187 : decode cX12_weekStep 187 = .ok (.iastore, 1) := by decide +kernel
theorem dX12_weekStep_188 : decode cX12_weekStep 188 = .ok (.aload_n 0, 1) := by decide +kernel
theorem dX12_weekStep_189 : decode cX12_weekStep 189 = .ok (.invokevirtual 161, 3) := by decide +kernel
theorem dX12_weekStep_192 : decode cX12_weekStep 192 = .ok (.aload_n 0, 1) := by decide +kernel
theorem dX12_weekStep_193 : decode cX12_weekStep 193 = .ok (.iload_n 1, 1) := by decide +kernel
theorem dX12_weekStep_194 : decode cX12_weekStep 194 = .ok (.iload_n 3, 1) := by decide +kernel
theorem dX12_weekStep_195 : decode cX12_weekStep 195 = .ok (.invokevirtual 269, 3) := by decide +kernel
theorem dX12_weekStep_198 : decode cX12_weekStep 198 = .ok (.ifCond .ne 5, 3) := by decide +kernel
theorem dX12_weekStep_201 : decode cX12_weekStep 201 = .ok (.iconst 0, 1) := by decide +kernel
theorem dX12_weekStep_202 : decode cX12_weekStep 202 = .ok (.ireturn, 1) := by decide +kernel
theorem dX12_weekStep_203 : decode cX12_weekStep 203 = .ok (.iload 4, 2) := by decide +kernel
theorem dX12_weekStep_205 : decode cX12_weekStep 205 = .ok (.ifCond .eq 23, 3) := by decide +kernel
theorem dX12_weekStep_208 : decode cX12_weekStep 208 = .ok (.aload_n 0, 1) := by decide +kernel
theorem dX12_weekStep_209 : decode cX12_weekStep 209 = .ok (.getfield 44, 3) := by decide +kernel
theorem dX12_weekStep_212 : decode cX12_weekStep 212 = .ok (.aload_n 0, 1) := by decide +kernel
theorem dX12_weekStep_213 : decode cX12_weekStep 213 = .ok (.getfield 263, 3) := by decide +kernel
theorem dX12_weekStep_216 : decode cX12_weekStep 216 = .ok (.iload_n 2, 1) := by decide +kernel
theorem dX12_weekStep_217 : decode cX12_weekStep 217 = .ok (.iastore, 1) := by decide +kernel
theorem dX12_weekStep_218 : decode cX12_weekStep 218 = .ok (.aload_n 0, 1) := by decide +kernel
theorem dX12_weekStep_219 : decode cX12_weekStep 219 = .ok (.dup, 1) := by decide +kernel
theorem dX12_weekStep_220 : decode cX12_weekStep 220 = .ok (.getfield 263, 3) := by decide +kernel
theorem dX12_weekStep_223 : decode cX12_weekStep 223 = .ok (.iconst 1, 1) := by decide +kernel
theorem dX12_weekStep_224 : decode cX12_weekStep 224 = .ok (.iadd, 1) := by decide +kernel
theorem dX12_weekStep_225 : decode cX12_weekStep 225 = .ok (.putfield 263, 3) := by decide +kernel
theorem dX12_weekStep_228 : decode cX12_weekStep 228 = .ok (.iload_n 1, 1) := by decide +kernel
theorem dX12_weekStep_229 : decode cX12_weekStep 229 = .ok (.bipush 19, 2) := by decide +kernel
theorem dX12_weekStep_231 : decode cX12_weekStep 231 = .ok (.if_icmp .ne 54, 3) := by decide +kernel
theorem dX12_weekStep_234 : decode cX12_weekStep 234 = .ok (.aload_n 0, 1) := by decide +kernel
theorem dX12_weekStep_235 : decode cX12_weekStep 235 = .ok (.dup, 1) := by decide +kernel
theorem dX12_weekStep_236 : decode cX12_weekStep 236 = .ok (.getfield 263, 3) := by decide +kernel
theorem dX12_weekStep_239 : decode cX12_weekStep 239 = .ok (.iconst 1, 1) := by decide +kernel
theorem dX12_weekStep_240 : decode cX12_weekStep 240 = .ok (.isub, 1) := by decide +kernel
theorem dX12_weekStep_241 : decode cX12_weekStep 241 = .ok (.putfield 263, 3) := by decide +kernel
theorem dX12_weekStep_244 : decode cX12_weekStep 244 = .ok (.aload_n 0, 1) := by decide +kernel
theorem dX12_weekStep_245 : decode cX12_weekStep 245 = .ok (.getfield 7, 3) := by decide +kernel
theorem dX12_weekStep_248 : decode cX12_weekStep 248 = .ok (.iload_n 3, 1) := by decide +kernel
theorem dX12_weekStep_249 : decode cX12_weekStep 249 = .ok (.iconst 4, 1) := by decide +kernel
theorem dX12_weekStep_250 : decode cX12_weekStep 250 = .ok (.iadd, 1) := by decide +kernel
theorem dX12_weekStep_251 : decode cX12_weekStep 251 = .ok (.aload_n 0, 1) := by decide +kernel
theorem dX12_weekStep_252 : decode cX12_weekStep 252 = .ok (.getfield 44, 3) := by decide +kernel
theorem dX12_weekStep_255 : decode cX12_weekStep 255 = .ok (.aload_n 0, 1) := by decide +kernel
theorem dX12_weekStep_256 : decode cX12_weekStep 256 = .ok (.getfield 263, 3) := by decide +kernel
theorem dX12_weekStep_259 : decode cX12_weekStep 259 = .ok (.iaload, 1) := by decide +kernel
theorem dX12_weekStep_260 : decode cX12_weekStep 260 = .ok (.iastore, 1) := by decide +kernel
theorem dX12_weekStep_261 : decode cX12_weekStep 261 = .ok (.aload_n 0, 1) := by decide +kernel
theorem dX12_weekStep_262 : decode cX12_weekStep 262 = .ok (.getfield 7, 3) := by decide +kernel
theorem dX12_weekStep_265 : decode cX12_weekStep 265 = .ok (.sipush 2107, 3) := by decide +kernel
theorem dX12_weekStep_268 : decode cX12_weekStep 268 = .ok (.bipush 6, 2) := by decide +kernel
theorem dX12_weekStep_270 : decode cX12_weekStep 270 = .ok (.aload_n 0, 1) := by decide +kernel
theorem dX12_weekStep_271 : decode cX12_weekStep 271 = .ok (.getfield 44, 3) := by decide +kernel
theorem dX12_weekStep_274 : decode cX12_weekStep 274 = .ok (.aload_n 0, 1) := by decide +kernel
theorem dX12_weekStep_275 : decode cX12_weekStep 275 = .ok (.getfield 263, 3) := by decide +kernel
theorem dX12_weekStep_278 : decode cX12_weekStep 278 = .ok (.iaload, 1) := by decide +kernel
theorem dX12_weekStep_279 : decode cX12_weekStep 279 = .ok (.imul, 1) := by decide +kernel
theorem dX12_weekStep_280 : decode cX12_weekStep 280 = .ok (.iadd, 1) := by decide +kernel
theorem dX12_weekStep_281 : decode cX12_weekStep 281 = .ok (.iconst 4, 1) := by decide +kernel
theorem dX12_weekStep_282 : decode cX12_weekStep 282 = .ok (.iadd, 1) := by decide +kernel
theorem dX12_weekStep_283 : decode cX12_weekStep 283 = .ok (.iload_n 2, 1) := by decide +kernel
theorem dX12_weekStep_284 : decode cX12_weekStep 284 = .ok (.iastore, 1) := by decide +kernel
theorem dX12_weekStep_285 : decode cX12_weekStep 285 = .ok (.aload_n 0, 1) := by decide +kernel
theorem dX12_weekStep_286 : decode cX12_weekStep 286 = .ok (.bipush 59, 2) := by decide +kernel
theorem dX12_weekStep_288 : decode cX12_weekStep 288 = .ok (.invokevirtual 241, 3) := by decide +kernel
theorem dX12_weekStep_291 : decode cX12_weekStep 291 = .ok (.ireturn, 1) := by decide +kernel
theorem dX12_weeks_0 : decode cX12_weeks 0 = .ok (.aload_n 0, 1) := by decide +kernel
theorem dX12_weeks_1 : decode cX12_weeks 1 = .ok (.iload_n 1, 1) := by decide +kernel
theorem dX12_weeks_2 : decode cX12_weeks 2 = .ok (.sipush 300, 3) := by decide +kernel
theorem dX12_weeks_5 : decode cX12_weeks 5 = .ok (.invokevirtual 244, 3) := by decide +kernel
theorem dX12_weeks_8 : decode cX12_weeks 8 = .ok (.ifCond .ne 9, 3) := by decide +kernel
theorem dX12_weeks_11 : decode cX12_weeks 11 = .ok (.aload_n 0, 1) := by decide +kernel
theorem dX12_weeks_12 : decode cX12_weeks 12 = .ok (.iconst 1, 1) := by decide +kernel
theorem dX12_weeks_13 : decode cX12_weeks 13 = .ok (.invokevirtual 85, 3) := by decide +kernel
theorem dX12_weeks_16 : decode cX12_weeks 16 = .ok (.ireturn, 1) := by decide +kernel
theorem dX12_weeks_17 : decode cX12_weeks 17 = .ok (.aload_n 0, 1) := by decide +kernel
theorem dX12_weeks_18 : decode cX12_weeks 18 = .ok (.getfield 7, 3) := by decide +kernel
theorem dX12_weeks_21 : decode cX12_weeks 21 = .ok (.sipush 1989, 3) := by decide +kernel
theorem dX12_weeks_24 : decode cX12_weeks 24 = .ok (.iconst 0, 1) := by decide +kernel
theorem dX12_weeks_25 : decode cX12_weeks 25 = .ok (.iastore, 1) := by decide +kernel
theorem dX12_weeks_26 : decode cX12_weeks 26 = .ok (.aload_n 0, 1) := by decide +kernel
theorem dX12_weeks_27 : decode cX12_weeks 27 = .ok (.iconst 0, 1) := by decide +kernel
theorem dX12_weeks_28 : decode cX12_weeks 28 = .ok (.putfield 263, 3) := by decide +kernel
theorem dX12_weeks_31 : decode cX12_weeks 31 = .ok (.aload_n 0, 1) := by decide +kernel
theorem dX12_weeks_32 : decode cX12_weeks 32 = .ok (.iconst 0, 1) := by decide +kernel
theorem dX12_weeks_33 : decode cX12_weeks 33 = .ok (.putfield 266, 3) := by decide +kernel
theorem dX12_weeks_36 : decode cX12_weeks 36 = .ok (.iconst 1, 1) := by decide +kernel
theorem dX12_weeks_37 : decode cX12_weeks 37 = .ok (.istore_n 2, 1) := by decide +kernel
theorem dX12_weeks_38 : decode cX12_weeks 38 = .ok (.iload_n 2, 1) := by decide +kernel
theorem dX12_weeks_39 : decode cX12_weeks 39 = .ok (.ifCond .eq 18, 3) := by decide +kernel
theorem dX12_weeks_42 : decode cX12_weeks 42 = .ok (.aload_n 0, 1) := by decide +kernel
theorem dX12_weeks_43 : decode cX12_weeks 43 = .ok (.getfield 130, 3) := by decide +kernel
theorem dX12_weeks_46 : decode cX12_weeks 46 = .ok (.ifCond .eq 11, 3) := by decide +kernel
theorem dX12_weeks_49 : decode cX12_weeks 49 = .ok (.aload_n 0, 1) := by decide +kernel
theorem dX12_weeks_50 : decode cX12_weeks 50 = .ok (.invokevirtual 272, 3) := by decide +kernel
theorem dX12_weeks_53 : decode cX12_weeks 53 = .ok (.istore_n 2, 1) := by decide +kernel
theorem dX12_weeks_54 : decode cX12_weeks 54 = .ok (.goto (-16), 3) := by decide +kernel
theorem dX12_weeks_57 : decode cX12_weeks 57 = .ok (.aload_n 0, 1) := by decide +kernel
theorem dX12_weeks_58 : decode cX12_weeks 58 = .ok (.getfield 155, 3) := by decide +kernel
theorem dX12_weeks_61 : decode cX12_weeks 61 = .ok (.ifCond .ne 16, 3) := by decide +kernel
theorem dX12_weeks_64 : decode cX12_weeks 64 = .ok (.aload_n 0, 1) := by decide +kernel
theorem dX12_weeks_65 : decode cX12_weeks 65 = .ok (.getfield 263, 3) := by decide +kernel
theorem dX12_weeks_68 : decode cX12_weeks 68 = .ok (.ifCond .le 9, 3) := by decide +kernel
theorem dX12_weeks_71 : decode cX12_weeks 71 = .ok (.aload_n 0, 1) := by decide +kernel
theorem dX12_weeks_72 : decode cX12_weeks 72 = .ok (.iconst 2, 1) := by decide +kernel
theorem dX12_weeks_73 : decode cX12_weeks 73 = .ok (.invokevirtual 167, 3) := by decide +kernel
theorem dX12_weeks_76 : decode cX12_weeks 76 = .ok (.pop, 1) := by decide +kernel
theorem dX12_weeks_77 : decode cX12_weeks 77 = .ok (.aload_n 0, 1) := by decide +kernel
theorem dX12_weeks_78 : decode cX12_weeks 78 = .ok (.getfield 155, 3) := by decide +kernel
theorem dX12_weeks_81 : decode cX12_weeks 81 = .ok (.ifCond .ne 50, 3) := by decide +kernel
theorem dX12_weeks_84 : decode cX12_weeks 84 = .ok (.aload_n 0, 1) := by decide +kernel
theorem dX12_weeks_85 : decode cX12_weeks 85 = .ok (.getfield 7, 3) := by decide +kernel
theorem dX12_weeks_88 : decode cX12_weeks 88 = .ok (.bipush 9, 2) := by decide +kernel
theorem dX12_weeks_90 : decode cX12_weeks 90 = .ok (.aload_n 0, 1) := by decide +kernel
theorem dX12_weeks_91 : decode cX12_weeks 91 = .ok (.getfield 7, 3) := by decide +kernel
theorem dX12_weeks_94 : decode cX12_weeks 94 = .ok (.sipush 1989, 3) := by decide +kernel
theorem dX12_weeks_97 : decode cX12_weeks 97 = .ok (.iaload, 1) := by decide +kernel
theorem dX12_weeks_98 : decode cX12_weeks 98 = .ok (.iastore, 1) := by decide +kernel
theorem dX12_weeks_99 : decode cX12_weeks 99 = .ok (.bipush 127, 2) := by decide +kernel
theorem dX12_weeks_101 : decode cX12_weeks 101 = .ok (.istore_n 3, 1) := by decide +kernel
theorem dX12_weeks_102 : decode cX12_weeks 102 = .ok (.iload_n 3, 1) := by decide +kernel
theorem dX12_weeks_103 : decode cX12_weeks 103 = .ok (.sipush 487, 3) := by decide +kernel
theorem dX12_weeks_106 : decode cX12_weeks 106 = .ok (.if_icmp .ge 25, 3) := by decide +kernel
theorem dX12_weeks_109 : decode cX12_weeks 109 = .ok (.aload_n 0, 1) := by decide +kernel
theorem dX12_weeks_110 : decode cX12_weeks 110 = .ok (.getfield 7, 3) := by decide +kernel
theorem dX12_weeks_113 : decode cX12_weeks 113 = .ok (.iload_n 3, 1) := by decide +kernel
theorem dX12_weeks_114 : decode cX12_weeks 114 = .ok (.aload_n 0, 1) := by decide +kernel
theorem dX12_weeks_115 : decode cX12_weeks 115 = .ok (.getfield 7, 3) := by decide +kernel
theorem dX12_weeks_118 : decode cX12_weeks 118 = .ok (.sipush 1980, 3) := by decide +kernel
theorem dX12_weeks_121 : decode cX12_weeks 121 = .ok (.iload_n 3, 1) := by decide +kernel
theorem dX12_weeks_122 : decode cX12_weeks 122 = .ok (.iadd, 1) := by decide +kernel
theorem dX12_weeks_123 : decode cX12_weeks 123 = .ok (.iaload, 1) := by decide +kernel
theorem dX12_weeks_124 : decode cX12_weeks 124 = .ok (.iastore, 1) := by decide +kernel
theorem dX12_weeks_125 : decode cX12_weeks 125 = .ok (.iinc 3 1, 3) := by decide +kernel
theorem dX12_weeks_128 : decode cX12_weeks 128 = .ok (.goto (-26), 3) := by decide +kernel
theorem dX12_weeks_131 : decode cX12_weeks 131 = .ok (.aload_n 0, 1) := by decide +kernel
theorem dX12_weeks_132 : decode cX12_weeks 132 = .ok (.aload_n 0, 1) := by decide +kernel
theorem dX12_weeks_133 : decode cX12_weeks 133 = .ok (.getfield 266, 3) := by decide +kernel
theorem dX12_weeks_136 : decode cX12_weeks 136 = .ok (.invokevirtual 251, 3) := by decide +kernel
theorem dX12_weeks_139 : decode cX12_weeks 139 = .ok (.ireturn, 1) := by decide +kernel
theorem dX12_roadRow_0 : decode cX12_roadRow 0 = .ok (.bipush 12, 2) := by decide +kernel
theorem dX12_roadRow_2 : decode cX12_roadRow 2 = .ok (.iconst 3, 1) := by decide +kernel
theorem dX12_roadRow_3 : decode cX12_roadRow 3 = .ok (.iload_n 0, 1) := by decide +kernel
theorem dX12_roadRow_4 : decode cX12_roadRow 4 = .ok (.imul, 1) := by decide +kernel
theorem dX12_roadRow_5 : decode cX12_roadRow 5 = .ok (.iadd, 1) := by decide +kernel
theorem dX12_roadRow_6 : decode cX12_roadRow 6 = .ok (.ireturn, 1) := by decide +kernel
theorem dX12_extraRow_0 : decode cX12_extraRow 0 = .ok (.bipush 48, 2) := by decide +kernel
theorem dX12_extraRow_2 : decode cX12_extraRow 2 = .ok (.iconst 5, 1) := by decide +kernel
theorem dX12_extraRow_3 : decode cX12_extraRow 3 = .ok (.iload_n 0, 1) := by decide +kernel
theorem dX12_extraRow_4 : decode cX12_extraRow 4 = .ok (.imul, 1) := by decide +kernel
theorem dX12_extraRow_5 : decode cX12_extraRow 5 = .ok (.iadd, 1) := by decide +kernel
theorem dX12_extraRow_6 : decode cX12_extraRow 6 = .ok (.ireturn, 1) := by decide +kernel
theorem dX12_happeningRow_0 : decode cX12_happeningRow 0 = .ok (.bipush 83, 2) := by decide +kernel
theorem dX12_happeningRow_2 : decode cX12_happeningRow 2 = .ok (.iconst 4, 1) := by decide +kernel
theorem dX12_happeningRow_3 : decode cX12_happeningRow 3 = .ok (.iload_n 0, 1) := by decide +kernel
theorem dX12_happeningRow_4 : decode cX12_happeningRow 4 = .ok (.imul, 1) := by decide +kernel
theorem dX12_happeningRow_5 : decode cX12_happeningRow 5 = .ok (.iadd, 1) := by decide +kernel
theorem dX12_happeningRow_6 : decode cX12_happeningRow 6 = .ok (.ireturn, 1) := by decide +kernel
theorem dX12_watcherRow_0 : decode cX12_watcherRow 0 = .ok (.bipush 115, 2) := by decide +kernel
theorem dX12_watcherRow_2 : decode cX12_watcherRow 2 = .ok (.iconst 3, 1) := by decide +kernel
theorem dX12_watcherRow_3 : decode cX12_watcherRow 3 = .ok (.iload_n 0, 1) := by decide +kernel
theorem dX12_watcherRow_4 : decode cX12_watcherRow 4 = .ok (.imul, 1) := by decide +kernel
theorem dX12_watcherRow_5 : decode cX12_watcherRow 5 = .ok (.iadd, 1) := by decide +kernel
theorem dX12_watcherRow_6 : decode cX12_watcherRow 6 = .ok (.ireturn, 1) := by decide +kernel
theorem dX12_isCorner_0 : decode cX12_isCorner 0 = .ok (.iload_n 1, 1) := by decide +kernel
theorem dX12_isCorner_1 : decode cX12_isCorner 1 = .ok (.ifCond .lt 17, 3) := by decide +kernel
theorem dX12_isCorner_4 : decode cX12_isCorner 4 = .ok (.iload_n 1, 1) := by decide +kernel
theorem dX12_isCorner_5 : decode cX12_isCorner 5 = .ok (.aload_n 0, 1) := by decide +kernel
theorem dX12_isCorner_6 : decode cX12_isCorner 6 = .ok (.getfield 7, 3) := by decide +kernel
theorem dX12_isCorner_9 : decode cX12_isCorner 9 = .ok (.iconst 0, 1) := by decide +kernel
theorem dX12_isCorner_10 : decode cX12_isCorner 10 = .ok (.iaload, 1) := by decide +kernel
theorem dX12_isCorner_11 : decode cX12_isCorner 11 = .ok (.if_icmp .ge 7, 3) := by decide +kernel
theorem dX12_isCorner_14 : decode cX12_isCorner 14 = .ok (.iconst 1, 1) := by decide +kernel
theorem dX12_isCorner_15 : decode cX12_isCorner 15 = .ok (.goto 4, 3) := by decide +kernel
theorem dX12_isCorner_18 : decode cX12_isCorner 18 = .ok (.iconst 0, 1) := by decide +kernel
theorem dX12_isCorner_19 : decode cX12_isCorner 19 = .ok (.ireturn, 1) := by decide +kernel
theorem dX12_isExtra_0 : decode cX12_isExtra 0 = .ok (.iload_n 1, 1) := by decide +kernel
theorem dX12_isExtra_1 : decode cX12_isExtra 1 = .ok (.ifCond .lt 17, 3) := by decide +kernel
theorem dX12_isExtra_4 : decode cX12_isExtra 4 = .ok (.iload_n 1, 1) := by decide +kernel
theorem dX12_isExtra_5 : decode cX12_isExtra 5 = .ok (.aload_n 0, 1) := by decide +kernel
theorem dX12_isExtra_6 : decode cX12_isExtra 6 = .ok (.getfield 7, 3) := by decide +kernel
theorem dX12_isExtra_9 : decode cX12_isExtra 9 = .ok (.iconst 2, 1) := by decide +kernel
theorem dX12_isExtra_10 : decode cX12_isExtra 10 = .ok (.iaload, 1) := by decide +kernel
theorem dX12_isExtra_11 : decode cX12_isExtra 11 = .ok (.if_icmp .ge 7, 3) := by decide +kernel
theorem dX12_isExtra_14 : decode cX12_isExtra 14 = .ok (.iconst 1, 1) := by decide +kernel
theorem dX12_isExtra_15 : decode cX12_isExtra 15 = .ok (.goto 4, 3) := by decide +kernel
theorem dX12_isExtra_18 : decode cX12_isExtra 18 = .ok (.iconst 0, 1) := by decide +kernel
theorem dX12_isExtra_19 : decode cX12_isExtra 19 = .ok (.ireturn, 1) := by decide +kernel
theorem dX12_isHappening_0 : decode cX12_isHappening 0 = .ok (.iload_n 1, 1) := by decide +kernel
theorem dX12_isHappening_1 : decode cX12_isHappening 1 = .ok (.ifCond .lt 17, 3) := by decide +kernel
theorem dX12_isHappening_4 : decode cX12_isHappening 4 = .ok (.iload_n 1, 1) := by decide +kernel
theorem dX12_isHappening_5 : decode cX12_isHappening 5 = .ok (.aload_n 0, 1) := by decide +kernel
theorem dX12_isHappening_6 : decode cX12_isHappening 6 = .ok (.getfield 7, 3) := by decide +kernel
theorem dX12_isHappening_9 : decode cX12_isHappening 9 = .ok (.iconst 3, 1) := by decide +kernel
theorem dX12_isHappening_10 : decode cX12_isHappening 10 = .ok (.iaload, 1) := by decide +kernel
theorem dX12_isHappening_11 : decode cX12_isHappening 11 = .ok (.if_icmp .ge 7, 3) := by decide +kernel
theorem dX12_isHappening_14 : decode cX12_isHappening 14 = .ok (.iconst 1, 1) := by decide +kernel
theorem dX12_isHappening_15 : decode cX12_isHappening 15 = .ok (.goto 4, 3) := by decide +kernel
theorem dX12_isHappening_18 : decode cX12_isHappening 18 = .ok (.iconst 0, 1) := by decide +kernel
theorem dX12_isHappening_19 : decode cX12_isHappening 19 = .ok (.ireturn, 1) := by decide +kernel
theorem dX12_isWatcher_0 : decode cX12_isWatcher 0 = .ok (.iload_n 1, 1) := by decide +kernel
theorem dX12_isWatcher_1 : decode cX12_isWatcher 1 = .ok (.ifCond .lt 17, 3) := by decide +kernel
theorem dX12_isWatcher_4 : decode cX12_isWatcher 4 = .ok (.iload_n 1, 1) := by decide +kernel
theorem dX12_isWatcher_5 : decode cX12_isWatcher 5 = .ok (.aload_n 0, 1) := by decide +kernel
theorem dX12_isWatcher_6 : decode cX12_isWatcher 6 = .ok (.getfield 7, 3) := by decide +kernel
theorem dX12_isWatcher_9 : decode cX12_isWatcher 9 = .ok (.iconst 4, 1) := by decide +kernel
theorem dX12_isWatcher_10 : decode cX12_isWatcher 10 = .ok (.iaload, 1) := by decide +kernel
theorem dX12_isWatcher_11 : decode cX12_isWatcher 11 = .ok (.if_icmp .ge 7, 3) := by decide +kernel
theorem dX12_isWatcher_14 : decode cX12_isWatcher 14 = .ok (.iconst 1, 1) := by decide +kernel
theorem dX12_isWatcher_15 : decode cX12_isWatcher 15 = .ok (.goto 4, 3) := by decide +kernel
theorem dX12_isWatcher_18 : decode cX12_isWatcher 18 = .ok (.iconst 0, 1) := by decide +kernel
theorem dX12_isWatcher_19 : decode cX12_isWatcher 19 = .ok (.ireturn, 1) := by decide +kernel
theorem dX12_isIn_0 : decode cX12_isIn 0 = .ok (.iload_n 1, 1) := by decide +kernel
theorem dX12_isIn_1 : decode cX12_isIn 1 = .ok (.iload_n 2, 1) := by decide +kernel
theorem dX12_isIn_2 : decode cX12_isIn 2 = .ok (.ishr, 1) := by decide +kernel
theorem dX12_isIn_3 : decode cX12_isIn 3 = .ok (.iconst 1, 1) := by decide +kernel
theorem dX12_isIn_4 : decode cX12_isIn 4 = .ok (.iand, 1) := by decide +kernel
theorem dX12_isIn_5 : decode cX12_isIn 5 = .ok (.iconst 1, 1) := by decide +kernel
theorem dX12_isIn_6 : decode cX12_isIn 6 = .ok (.if_icmp .ne 7, 3) := by decide +kernel
theorem dX12_isIn_9 : decode cX12_isIn 9 = .ok (.iconst 1, 1) := by decide +kernel
theorem dX12_isIn_10 : decode cX12_isIn 10 = .ok (.goto 4, 3) := by decide +kernel
theorem dX12_isIn_13 : decode cX12_isIn 13 = .ok (.iconst 0, 1) := by decide +kernel
theorem dX12_isIn_14 : decode cX12_isIn 14 = .ok (.ireturn, 1) := by decide +kernel
theorem dX12_bits_0 : decode cX12_bits 0 = .ok (.iconst 0, 1) := by decide +kernel
theorem dX12_bits_1 : decode cX12_bits 1 = .ok (.istore_n 1, 1) := by decide +kernel
theorem dX12_bits_2 : decode cX12_bits 2 = .ok (.iload_n 0, 1) := by decide +kernel
theorem dX12_bits_3 : decode cX12_bits 3 = .ok (.istore_n 2, 1) := by decide +kernel
theorem dX12_bits_4 : decode cX12_bits 4 = .ok (.iload_n 2, 1) := by decide +kernel
theorem dX12_bits_5 : decode cX12_bits 5 = .ok (.ifCond .eq 15, 3) := by decide +kernel
theorem dX12_bits_8 : decode cX12_bits 8 = .ok (.iinc 1 1, 3) := by decide +kernel
theorem dX12_bits_11 : decode cX12_bits 11 = .ok (.iload_n 2, 1) := by decide +kernel
theorem dX12_bits_12 : decode cX12_bits 12 = .ok (.iload_n 2, 1) := by decide +kernel
theorem dX12_bits_13 : decode cX12_bits 13 = .ok (.iconst 1, 1) := by decide +kernel
theorem dX12_bits_14 : decode cX12_bits 14 = .ok (.isub, 1) := by decide +kernel
theorem dX12_bits_15 : decode cX12_bits 15 = .ok (.iand, 1) := by decide +kernel
theorem dX12_bits_16 : decode cX12_bits 16 = .ok (.istore_n 2, 1) := by decide +kernel
theorem dX12_bits_17 : decode cX12_bits 17 = .ok (.goto (-13), 3) := by decide +kernel
theorem dX12_bits_20 : decode cX12_bits 20 = .ok (.iload_n 1, 1) := by decide +kernel
theorem dX12_bits_21 : decode cX12_bits 21 = .ok (.ireturn, 1) := by decide +kernel
theorem dX12_extraOf_0 : decode cX12_extraOf 0 = .ok (.aload_n 0, 1) := by decide +kernel
theorem dX12_extraOf_1 : decode cX12_extraOf 1 = .ok (.getfield 7, 3) := by decide +kernel
theorem dX12_extraOf_4 : decode cX12_extraOf 4 = .ok (.iload_n 1, 1) := by decide +kernel
theorem dX12_extraOf_5 : decode cX12_extraOf 5 = .ok (.invokestatic 211, 3) := by decide +kernel
theorem dX12_extraOf_8 : decode cX12_extraOf 8 = .ok (.iload_n 2, 1) := by decide +kernel
theorem dX12_extraOf_9 : decode cX12_extraOf 9 = .ok (.iadd, 1) := by decide +kernel
theorem dX12_extraOf_10 : decode cX12_extraOf 10 = .ok (.iaload, 1) := by decide +kernel
theorem dX12_extraOf_11 : decode cX12_extraOf 11 = .ok (.ireturn, 1) := by decide +kernel
theorem dX12_happeningOf_0 : decode cX12_happeningOf 0 = .ok (.aload_n 0, 1) := by decide +kernel
theorem dX12_happeningOf_1 : decode cX12_happeningOf 1 = .ok (.getfield 7, 3) := by decide +kernel
theorem dX12_happeningOf_4 : decode cX12_happeningOf 4 = .ok (.iload_n 1, 1) := by decide +kernel
theorem dX12_happeningOf_5 : decode cX12_happeningOf 5 = .ok (.invokestatic 214, 3) := by decide +kernel
theorem dX12_happeningOf_8 : decode cX12_happeningOf 8 = .ok (.iload_n 2, 1) := by decide +kernel
theorem dX12_happeningOf_9 : decode cX12_happeningOf 9 = .ok (.iadd, 1) := by decide +kernel
theorem dX12_happeningOf_10 : decode cX12_happeningOf 10 = .ok (.iaload, 1) := by decide +kernel
theorem dX12_happeningOf_11 : decode cX12_happeningOf 11 = .ok (.ireturn, 1) := by decide +kernel
theorem dX12_watcherOf_0 : decode cX12_watcherOf 0 = .ok (.aload_n 0, 1) := by decide +kernel
theorem dX12_watcherOf_1 : decode cX12_watcherOf 1 = .ok (.getfield 7, 3) := by decide +kernel
theorem dX12_watcherOf_4 : decode cX12_watcherOf 4 = .ok (.iload_n 1, 1) := by decide +kernel
theorem dX12_watcherOf_5 : decode cX12_watcherOf 5 = .ok (.invokestatic 217, 3) := by decide +kernel
theorem dX12_watcherOf_8 : decode cX12_watcherOf 8 = .ok (.iload_n 2, 1) := by decide +kernel
theorem dX12_watcherOf_9 : decode cX12_watcherOf 9 = .ok (.iadd, 1) := by decide +kernel
theorem dX12_watcherOf_10 : decode cX12_watcherOf 10 = .ok (.iaload, 1) := by decide +kernel
theorem dX12_watcherOf_11 : decode cX12_watcherOf 11 = .ok (.ireturn, 1) := by decide +kernel
theorem dX12_doesStand_0 : decode cX12_doesStand 0 = .ok (.aload_n 0, 1) := by decide +kernel
theorem dX12_doesStand_1 : decode cX12_doesStand 1 = .ok (.iload_n 1, 1) := by decide +kernel
theorem dX12_doesStand_2 : decode cX12_doesStand 2 = .ok (.iconst 0, 1) := by decide +kernel
theorem dX12_doesStand_3 : decode cX12_doesStand 3 = .ok (.invokevirtual 275, 3) := by decide +kernel
theorem dX12_doesStand_6 : decode cX12_doesStand 6 = .ok (.bipush 10, 2) := by decide +kernel
theorem dX12_doesStand_8 : decode cX12_doesStand 8 = .ok (.if_icmp .ge 7, 3) := by decide +kernel
theorem dX12_doesStand_11 : decode cX12_doesStand 11 = .ok (.iconst 1, 1) := by decide +kernel
theorem dX12_doesStand_12 : decode cX12_doesStand 12 = .ok (.goto 4, 3) := by decide +kernel
theorem dX12_doesStand_15 : decode cX12_doesStand 15 = .ok (.iconst 0, 1) := by decide +kernel
theorem dX12_doesStand_16 : decode cX12_doesStand 16 = .ok (.ireturn, 1) := by decide +kernel
theorem dX12_happeningsThat_0 : decode cX12_happeningsThat 0 = .ok (.iconst 0, 1) := by decide +kernel
theorem dX12_happeningsThat_1 : decode cX12_happeningsThat 1 = .ok (.istore_n 2, 1) := by decide +kernel
theorem dX12_happeningsThat_2 : decode cX12_happeningsThat 2 = .ok (.iconst 0, 1) := by decide +kernel
theorem dX12_happeningsThat_3 : decode cX12_happeningsThat 3 = .ok (.istore_n 3, 1) := by decide +kernel
theorem dX12_happeningsThat_4 : decode cX12_happeningsThat 4 = .ok (.iload_n 3, 1) := by decide +kernel
theorem dX12_happeningsThat_5 : decode cX12_happeningsThat 5 = .ok (.aload_n 0, 1) := by decide +kernel
theorem dX12_happeningsThat_6 : decode cX12_happeningsThat 6 = .ok (.getfield 7, 3) := by decide +kernel
theorem dX12_happeningsThat_9 : decode cX12_happeningsThat 9 = .ok (.iconst 3, 1) := by decide +kernel
theorem dX12_happeningsThat_10 : decode cX12_happeningsThat 10 = .ok (.iaload, 1) := by decide +kernel
theorem dX12_happeningsThat_11 : decode cX12_happeningsThat 11 = .ok (.if_icmp .ge 29, 3) := by decide +kernel
theorem dX12_happeningsThat_14 : decode cX12_happeningsThat 14 = .ok (.iload_n 2, 1) := by decide +kernel
theorem dX12_happeningsThat_15 : decode cX12_happeningsThat 15 = .ok (.aload_n 0, 1) := by decide +kernel
theorem dX12_happeningsThat_16 : decode cX12_happeningsThat 16 = .ok (.iload_n 3, 1) := by decide +kernel
theorem dX12_happeningsThat_17 : decode cX12_happeningsThat 17 = .ok (.iconst 3, 1) := by decide +kernel
theorem dX12_happeningsThat_18 : decode cX12_happeningsThat 18 = .ok (.invokevirtual 278, 3) := by decide +kernel
theorem dX12_happeningsThat_21 : decode cX12_happeningsThat 21 = .ok (.iload_n 1, 1) := by decide +kernel
theorem dX12_happeningsThat_22 : decode cX12_happeningsThat 22 = .ok (.if_icmp .ne 9, 3) := by decide +kernel
theorem dX12_happeningsThat_25 : decode cX12_happeningsThat 25 = .ok (.iconst 1, 1) := by decide +kernel
theorem dX12_happeningsThat_26 : decode cX12_happeningsThat 26 = .ok (.iload_n 3, 1) := by decide +kernel
theorem dX12_happeningsThat_27 : decode cX12_happeningsThat 27 = .ok (.ishl, 1) := by decide +kernel
theorem dX12_happeningsThat_28 : decode cX12_happeningsThat 28 = .ok (.goto 4, 3) := by decide +kernel
theorem dX12_happeningsThat_31 : decode cX12_happeningsThat 31 = .ok (.iconst 0, 1) := by decide +kernel
theorem dX12_happeningsThat_32 : decode cX12_happeningsThat 32 = .ok (.ior, 1) := by decide +kernel
theorem dX12_happeningsThat_33 : decode cX12_happeningsThat 33 = .ok (.istore_n 2, 1) := by decide +kernel
theorem dX12_happeningsThat_34 : decode cX12_happeningsThat 34 = .ok (.iinc 3 1, 3) := by decide +kernel
theorem dX12_happeningsThat_37 : decode cX12_happeningsThat 37 = .ok (.goto (-33), 3) := by decide +kernel
theorem dX12_happeningsThat_40 : decode cX12_happeningsThat 40 = .ok (.iload_n 2, 1) := by decide +kernel
theorem dX12_happeningsThat_41 : decode cX12_happeningsThat 41 = .ok (.ireturn, 1) := by decide +kernel
theorem dX12_onRoads_0 : decode cX12_onRoads 0 = .ok (.iconst 0, 1) := by decide +kernel
theorem dX12_onRoads_1 : decode cX12_onRoads 1 = .ok (.istore_n 1, 1) := by decide +kernel
theorem dX12_onRoads_2 : decode cX12_onRoads 2 = .ok (.iconst 0, 1) := by decide +kernel
theorem dX12_onRoads_3 : decode cX12_onRoads 3 = .ok (.istore_n 2, 1) := by decide +kernel
theorem dX12_onRoads_4 : decode cX12_onRoads 4 = .ok (.iload_n 2, 1) := by decide +kernel
theorem dX12_onRoads_5 : decode cX12_onRoads 5 = .ok (.aload_n 0, 1) := by decide +kernel
theorem dX12_onRoads_6 : decode cX12_onRoads 6 = .ok (.getfield 7, 3) := by decide +kernel
theorem dX12_onRoads_9 : decode cX12_onRoads 9 = .ok (.iconst 2, 1) := by decide +kernel
theorem dX12_onRoads_10 : decode cX12_onRoads 10 = .ok (.iaload, 1) := by decide +kernel
theorem dX12_onRoads_11 : decode cX12_onRoads 11 = .ok (.if_icmp .ge 27, 3) := by decide +kernel
theorem dX12_onRoads_14 : decode cX12_onRoads 14 = .ok (.iload_n 1, 1) := by decide +kernel
theorem dX12_onRoads_15 : decode cX12_onRoads 15 = .ok (.aload_n 0, 1) := by decide +kernel
theorem dX12_onRoads_16 : decode cX12_onRoads 16 = .ok (.iload_n 2, 1) := by decide +kernel
theorem dX12_onRoads_17 : decode cX12_onRoads 17 = .ok (.invokevirtual 281, 3) := by decide +kernel
theorem dX12_onRoads_20 : decode cX12_onRoads 20 = .ok (.ifCond .eq 7, 3) := by decide +kernel
theorem dX12_onRoads_23 : decode cX12_onRoads 23 = .ok (.iconst 0, 1) := by decide +kernel
theorem dX12_onRoads_24 : decode cX12_onRoads 24 = .ok (.goto 6, 3) := by decide +kernel
theorem dX12_onRoads_27 : decode cX12_onRoads 27 = .ok (.iconst 1, 1) := by decide +kernel
theorem dX12_onRoads_28 : decode cX12_onRoads 28 = .ok (.iload_n 2, 1) := by decide +kernel
theorem dX12_onRoads_29 : decode cX12_onRoads 29 = .ok (.ishl, 1) := by decide +kernel
theorem dX12_onRoads_30 : decode cX12_onRoads 30 = .ok (.ior, 1) := by decide +kernel
theorem dX12_onRoads_31 : decode cX12_onRoads 31 = .ok (.istore_n 1, 1) := by decide +kernel
theorem dX12_onRoads_32 : decode cX12_onRoads 32 = .ok (.iinc 2 1, 3) := by decide +kernel
theorem dX12_onRoads_35 : decode cX12_onRoads 35 = .ok (.goto (-31), 3) := by decide +kernel
theorem dX12_onRoads_38 : decode cX12_onRoads 38 = .ok (.iload_n 1, 1) := by decide +kernel
theorem dX12_onRoads_39 : decode cX12_onRoads 39 = .ok (.ireturn, 1) := by decide +kernel
theorem dX12_standingAt_0 : decode cX12_standingAt 0 = .ok (.iconst 0, 1) := by decide +kernel
theorem dX12_standingAt_1 : decode cX12_standingAt 1 = .ok (.istore_n 2, 1) := by decide +kernel
theorem dX12_standingAt_2 : decode cX12_standingAt 2 = .ok (.iconst 0, 1) := by decide +kernel
theorem dX12_standingAt_3 : decode cX12_standingAt 3 = .ok (.istore_n 3, 1) := by decide +kernel
theorem dX12_standingAt_4 : decode cX12_standingAt 4 = .ok (.iload_n 3, 1) := by decide +kernel
theorem dX12_standingAt_5 : decode cX12_standingAt 5 = .ok (.aload_n 0, 1) := by decide +kernel
theorem dX12_standingAt_6 : decode cX12_standingAt 6 = .ok (.getfield 7, 3) := by decide +kernel
theorem dX12_standingAt_9 : decode cX12_standingAt 9 = .ok (.iconst 2, 1) := by decide +kernel
theorem dX12_standingAt_10 : decode cX12_standingAt 10 = .ok (.iaload, 1) := by decide +kernel
theorem dX12_standingAt_11 : decode cX12_standingAt 11 = .ok (.if_icmp .ge 29, 3) := by decide +kernel
theorem dX12_standingAt_14 : decode cX12_standingAt 14 = .ok (.iload_n 2, 1) := by decide +kernel
theorem dX12_standingAt_15 : decode cX12_standingAt 15 = .ok (.aload_n 0, 1) := by decide +kernel
theorem dX12_standingAt_16 : decode cX12_standingAt 16 = .ok (.iload_n 3, 1) := by decide +kernel
theorem dX12_standingAt_17 : decode cX12_standingAt 17 = .ok (.iconst 0, 1) := by decide +kernel
theorem dX12_standingAt_18 : decode cX12_standingAt 18 = .ok (.invokevirtual 275, 3) := by decide +kernel
theorem dX12_standingAt_21 : decode cX12_standingAt 21 = .ok (.iload_n 1, 1) := by decide +kernel
theorem dX12_standingAt_22 : decode cX12_standingAt 22 = .ok (.if_icmp .ne 9, 3) := by decide +kernel
theorem dX12_standingAt_25 : decode cX12_standingAt 25 = .ok (.iconst 1, 1) := by decide +kernel
theorem dX12_standingAt_26 : decode cX12_standingAt 26 = .ok (.iload_n 3, 1) := by decide +kernel
theorem dX12_standingAt_27 : decode cX12_standingAt 27 = .ok (.ishl, 1) := by decide +kernel
theorem dX12_standingAt_28 : decode cX12_standingAt 28 = .ok (.goto 4, 3) := by decide +kernel
theorem dX12_standingAt_31 : decode cX12_standingAt 31 = .ok (.iconst 0, 1) := by decide +kernel
theorem dX12_standingAt_32 : decode cX12_standingAt 32 = .ok (.ior, 1) := by decide +kernel
theorem dX12_standingAt_33 : decode cX12_standingAt 33 = .ok (.istore_n 2, 1) := by decide +kernel
theorem dX12_standingAt_34 : decode cX12_standingAt 34 = .ok (.iinc 3 1, 3) := by decide +kernel
theorem dX12_standingAt_37 : decode cX12_standingAt 37 = .ok (.goto (-33), 3) := by decide +kernel
theorem dX12_standingAt_40 : decode cX12_standingAt 40 = .ok (.iload_n 2, 1) := by decide +kernel
theorem dX12_standingAt_41 : decode cX12_standingAt 41 = .ok (.ireturn, 1) := by decide +kernel
theorem dX12_allWages_0 : decode cX12_allWages 0 = .ok (.iconst 0, 1) := by decide +kernel
theorem dX12_allWages_1 : decode cX12_allWages 1 = .ok (.istore_n 1, 1) := by decide +kernel
theorem dX12_allWages_2 : decode cX12_allWages 2 = .ok (.iconst 0, 1) := by decide +kernel
theorem dX12_allWages_3 : decode cX12_allWages 3 = .ok (.istore_n 2, 1) := by decide +kernel
theorem dX12_allWages_4 : decode cX12_allWages 4 = .ok (.iload_n 2, 1) := by decide +kernel
theorem dX12_allWages_5 : decode cX12_allWages 5 = .ok (.aload_n 0, 1) := by decide +kernel
theorem dX12_allWages_6 : decode cX12_allWages 6 = .ok (.getfield 7, 3) := by decide +kernel
theorem dX12_allWages_9 : decode cX12_allWages 9 = .ok (.iconst 2, 1) := by decide +kernel
theorem dX12_allWages_10 : decode cX12_allWages 10 = .ok (.iaload, 1) := by decide +kernel
theorem dX12_allWages_11 : decode cX12_allWages 11 = .ok (.if_icmp .ge 18, 3) := by decide +kernel
theorem dX12_allWages_14 : decode cX12_allWages 14 = .ok (.iload_n 1, 1) := by decide +kernel
theorem dX12_allWages_15 : decode cX12_allWages 15 = .ok (.aload_n 0, 1) := by decide +kernel
theorem dX12_allWages_16 : decode cX12_allWages 16 = .ok (.iload_n 2, 1) := by decide +kernel
theorem dX12_allWages_17 : decode cX12_allWages 17 = .ok (.iconst 3, 1) := by decide +kernel
theorem dX12_allWages_18 : decode cX12_allWages 18 = .ok (.invokevirtual 275, 3) := by decide +kernel
theorem dX12_allWages_21 : decode cX12_allWages 21 = .ok (.iadd, 1) := by decide +kernel
theorem dX12_allWages_22 : decode cX12_allWages 22 = .ok (.istore_n 1, 1) := by decide +kernel
theorem dX12_allWages_23 : decode cX12_allWages 23 = .ok (.iinc 2 1, 3) := by decide +kernel
theorem dX12_allWages_26 : decode cX12_allWages 26 = .ok (.goto (-22), 3) := by decide +kernel
theorem dX12_allWages_29 : decode cX12_allWages 29 = .ok (.iload_n 1, 1) := by decide +kernel
theorem dX12_allWages_30 : decode cX12_allWages 30 = .ok (.ireturn, 1) := by decide +kernel
theorem dX12_told_0 : decode cX12_told 0 = .ok (.iload_n 1, 1) := by decide +kernel
theorem dX12_told_1 : decode cX12_told 1 = .ok (.ifCond .lt 9, 3) := by decide +kernel
theorem dX12_told_4 : decode cX12_told 4 = .ok (.iload_n 1, 1) := by decide +kernel
theorem dX12_told_5 : decode cX12_told 5 = .ok (.bipush 13, 2) := by decide +kernel
theorem dX12_told_7 : decode cX12_told 7 = .ok (.if_icmp .le 9, 3) := by decide +kernel
theorem dX12_told_10 : decode cX12_told 10 = .ok (.aload_n 0, 1) := by decide +kernel
theorem dX12_told_11 : decode cX12_told 11 = .ok (.iconst 1, 1) := by decide +kernel
theorem dX12_told_12 : decode cX12_told 12 = .ok (.invokevirtual 85, 3) := by decide +kernel
theorem dX12_told_15 : decode cX12_told 15 = .ok (.ireturn, 1) := by decide +kernel
theorem dX12_told_16 : decode cX12_told 16 = .ok (.iload_n 1, 1) := by decide +kernel
theorem dX12_told_17 : decode cX12_told 17 = .ok (.tableswitch 66 9 13 #[35, 35, 35, 48, 57], 35) := by decide +kernel
theorem dX12_told_52 : decode cX12_told 52 = .ok (.aload_n 0, 1) := by decide +kernel
theorem dX12_told_53 : decode cX12_told 53 = .ok (.aload_n 0, 1) := by decide +kernel
theorem dX12_told_54 : decode cX12_told 54 = .ok (.iload_n 1, 1) := by decide +kernel
theorem dX12_told_55 : decode cX12_told 55 = .ok (.bipush 9, 2) := by decide +kernel
theorem dX12_told_57 : decode cX12_told 57 = .ok (.isub, 1) := by decide +kernel
theorem dX12_told_58 : decode cX12_told 58 = .ok (.invokevirtual 284, 3) := by decide +kernel
theorem dX12_told_61 : decode cX12_told 61 = .ok (.invokevirtual 89, 3) := by decide +kernel
theorem dX12_told_64 : decode cX12_told 64 = .ok (.ireturn, 1) := by decide +kernel
theorem dX12_told_65 : decode cX12_told 65 = .ok (.aload_n 0, 1) := by decide +kernel
theorem dX12_told_66 : decode cX12_told 66 = .ok (.aload_n 0, 1) := by decide +kernel
theorem dX12_told_67 : decode cX12_told 67 = .ok (.invokevirtual 287, 3) := by decide +kernel
theorem dX12_told_70 : decode cX12_told 70 = .ok (.invokevirtual 89, 3) := by decide +kernel
theorem dX12_told_73 : decode cX12_told 73 = .ok (.ireturn, 1) := by decide +kernel
theorem dX12_told_74 : decode cX12_told 74 = .ok (.aload_n 0, 1) := by decide +kernel
theorem dX12_told_75 : decode cX12_told 75 = .ok (.aload_n 0, 1) := by decide +kernel
theorem dX12_told_76 : decode cX12_told 76 = .ok (.invokevirtual 290, 3) := by decide +kernel
theorem dX12_told_79 : decode cX12_told 79 = .ok (.invokevirtual 89, 3) := by decide +kernel
theorem dX12_told_82 : decode cX12_told 82 = .ok (.ireturn, 1) := by decide +kernel
theorem dX12_told_83 : decode cX12_told 83 = .ok (.aload_n 0, 1) := by decide +kernel
theorem dX12_told_84 : decode cX12_told 84 = .ok (.aload_n 0, 1) := by decide +kernel
theorem dX12_told_85 : decode cX12_told 85 = .ok (.getfield 7, 3) := by decide +kernel
theorem dX12_told_88 : decode cX12_told 88 = .ok (.iload_n 1, 1) := by decide +kernel
theorem dX12_told_89 : decode cX12_told 89 = .ok (.iaload, 1) := by decide +kernel
theorem dX12_told_90 : decode cX12_told 90 = .ok (.invokevirtual 89, 3) := by decide +kernel
theorem dX12_told_93 : decode cX12_told 93 = .ok (.ireturn, 1) := by decide +kernel
theorem dX12_extra_0 : decode cX12_extra 0 = .ok (.aload_n 0, 1) := by decide +kernel
theorem dX12_extra_1 : decode cX12_extra 1 = .ok (.iload_n 1, 1) := by decide +kernel
theorem dX12_extra_2 : decode cX12_extra 2 = .ok (.invokevirtual 293, 3) := by decide +kernel
theorem dX12_extra_5 : decode cX12_extra 5 = .ok (.ifCond .eq 12, 3) := by decide +kernel
theorem dX12_extra_8 : decode cX12_extra 8 = .ok (.iload_n 2, 1) := by decide +kernel
theorem dX12_extra_9 : decode cX12_extra 9 = .ok (.ifCond .lt 8, 3) := by decide +kernel
theorem dX12_extra_12 : decode cX12_extra 12 = .ok (.iload_n 2, 1) := by decide +kernel
theorem dX12_extra_13 : decode cX12_extra 13 = .ok (.iconst 4, 1) := by decide +kernel
theorem dX12_extra_14 : decode cX12_extra 14 = .ok (.if_icmp .le 9, 3) := by decide +kernel
theorem dX12_extra_17 : decode cX12_extra 17 = .ok (.aload_n 0, 1) := by decide +kernel
theorem dX12_extra_18 : decode cX12_extra 18 = .ok (.iconst 1, 1) := by decide +kernel
theorem dX12_extra_19 : decode cX12_extra 19 = .ok (.invokevirtual 85, 3) := by decide +kernel
theorem dX12_extra_22 : decode cX12_extra 22 = .ok (.ireturn, 1) := by decide +kernel
theorem dX12_extra_23 : decode cX12_extra 23 = .ok (.aload_n 0, 1) := by decide +kernel
theorem dX12_extra_24 : decode cX12_extra 24 = .ok (.aload_n 0, 1) := by decide +kernel
theorem dX12_extra_25 : decode cX12_extra 25 = .ok (.iload_n 1, 1) := by decide +kernel
theorem dX12_extra_26 : decode cX12_extra 26 = .ok (.iload_n 2, 1) := by decide +kernel
theorem dX12_extra_27 : decode cX12_extra 27 = .ok (.invokevirtual 275, 3) := by decide +kernel
theorem dX12_extra_30 : decode cX12_extra 30 = .ok (.invokevirtual 89, 3) := by decide +kernel
theorem dX12_extra_33 : decode cX12_extra 33 = .ok (.ireturn, 1) := by decide +kernel
theorem dX12_happening_0 : decode cX12_happening 0 = .ok (.aload_n 0, 1) := by decide +kernel
theorem dX12_happening_1 : decode cX12_happening 1 = .ok (.iload_n 1, 1) := by decide +kernel
theorem dX12_happening_2 : decode cX12_happening 2 = .ok (.invokevirtual 296, 3) := by decide +kernel
theorem dX12_happening_5 : decode cX12_happening 5 = .ok (.ifCond .eq 12, 3) := by decide +kernel
theorem dX12_happening_8 : decode cX12_happening 8 = .ok (.iload_n 2, 1) := by decide +kernel
theorem dX12_happening_9 : decode cX12_happening 9 = .ok (.ifCond .lt 8, 3) := by decide +kernel
theorem dX12_happening_12 : decode cX12_happening 12 = .ok (.iload_n 2, 1) := by decide +kernel
theorem dX12_happening_13 : decode cX12_happening 13 = .ok (.iconst 4, 1) := by decide +kernel
theorem dX12_happening_14 : decode cX12_happening 14 = .ok (.if_icmp .le 9, 3) := by decide +kernel
theorem dX12_happening_17 : decode cX12_happening 17 = .ok (.aload_n 0, 1) := by decide +kernel
theorem dX12_happening_18 : decode cX12_happening 18 = .ok (.iconst 1, 1) := by decide +kernel
theorem dX12_happening_19 : decode cX12_happening 19 = .ok (.invokevirtual 85, 3) := by decide +kernel
theorem dX12_happening_22 : decode cX12_happening 22 = .ok (.ireturn, 1) := by decide +kernel
theorem dX12_happening_23 : decode cX12_happening 23 = .ok (.aload_n 0, 1) := by decide +kernel
theorem dX12_happening_24 : decode cX12_happening 24 = .ok (.iload_n 2, 1) := by decide +kernel
theorem dX12_happening_25 : decode cX12_happening 25 = .ok (.iconst 4, 1) := by decide +kernel
theorem dX12_happening_26 : decode cX12_happening 26 = .ok (.if_icmp .ne 19, 3) := by decide +kernel
theorem dX12_happening_29 : decode cX12_happening 29 = .ok (.aload_n 0, 1) := by decide +kernel
theorem dX12_happening_30 : decode cX12_happening 30 = .ok (.aload_n 0, 1) := by decide +kernel
theorem dX12_happening_31 : decode cX12_happening 31 = .ok (.iload_n 1, 1) := by decide +kernel
theorem dX12_happening_32 : decode cX12_happening 32 = .ok (.iconst 0, 1) := by decide +kernel
theorem dX12_happening_33 : decode cX12_happening 33 = .ok (.invokevirtual 278, 3) := by decide +kernel
theorem dX12_happening_36 : decode cX12_happening 36 = .ok (.invokevirtual 299, 3) := by decide +kernel
theorem dX12_happening_39 : decode cX12_happening 39 = .ok (.invokestatic 302, 3) := by decide +kernel
theorem dX12_happening_42 : decode cX12_happening 42 = .ok (.goto 9, 3) := by decide +kernel
theorem dX12_happening_45 : decode cX12_happening 45 = .ok (.aload_n 0, 1) := by decide +kernel
theorem dX12_happening_46 : decode cX12_happening 46 = .ok (.iload_n 1, 1) := by decide +kernel
theorem dX12_happening_47 : decode cX12_happening 47 = .ok (.iload_n 2, 1) := by decide +kernel
theorem dX12_happening_48 : decode cX12_happening 48 = .ok (.invokevirtual 278, 3) := by decide +kernel
theorem dX12_happening_51 : decode cX12_happening 51 = .ok (.invokevirtual 89, 3) := by decide +kernel
theorem dX12_happening_54 : decode cX12_happening 54 = .ok (.ireturn, 1) := by decide +kernel
theorem dX12_watcher_0 : decode cX12_watcher 0 = .ok (.aload_n 0, 1) := by decide +kernel
theorem dX12_watcher_1 : decode cX12_watcher 1 = .ok (.iload_n 1, 1) := by decide +kernel
theorem dX12_watcher_2 : decode cX12_watcher 2 = .ok (.invokevirtual 305, 3) := by decide +kernel
theorem dX12_watcher_5 : decode cX12_watcher 5 = .ok (.ifCond .eq 12, 3) := by decide +kernel
theorem dX12_watcher_8 : decode cX12_watcher 8 = .ok (.iload_n 2, 1) := by decide +kernel
theorem dX12_watcher_9 : decode cX12_watcher 9 = .ok (.ifCond .lt 8, 3) := by decide +kernel
theorem dX12_watcher_12 : decode cX12_watcher 12 = .ok (.iload_n 2, 1) := by decide +kernel
theorem dX12_watcher_13 : decode cX12_watcher 13 = .ok (.iconst 2, 1) := by decide +kernel
theorem dX12_watcher_14 : decode cX12_watcher 14 = .ok (.if_icmp .le 9, 3) := by decide +kernel
theorem dX12_watcher_17 : decode cX12_watcher 17 = .ok (.aload_n 0, 1) := by decide +kernel
theorem dX12_watcher_18 : decode cX12_watcher 18 = .ok (.iconst 1, 1) := by decide +kernel
theorem dX12_watcher_19 : decode cX12_watcher 19 = .ok (.invokevirtual 85, 3) := by decide +kernel
theorem dX12_watcher_22 : decode cX12_watcher 22 = .ok (.ireturn, 1) := by decide +kernel
theorem dX12_watcher_23 : decode cX12_watcher 23 = .ok (.aload_n 0, 1) := by decide +kernel
theorem dX12_watcher_24 : decode cX12_watcher 24 = .ok (.aload_n 0, 1) := by decide +kernel
theorem dX12_watcher_25 : decode cX12_watcher 25 = .ok (.iload_n 1, 1) := by decide +kernel
theorem dX12_watcher_26 : decode cX12_watcher 26 = .ok (.iload_n 2, 1) := by decide +kernel
theorem dX12_watcher_27 : decode cX12_watcher 27 = .ok (.invokevirtual 308, 3) := by decide +kernel
theorem dX12_watcher_30 : decode cX12_watcher 30 = .ok (.invokevirtual 89, 3) := by decide +kernel
theorem dX12_watcher_33 : decode cX12_watcher 33 = .ok (.ireturn, 1) := by decide +kernel
theorem dX12_standing_0 : decode cX12_standing 0 = .ok (.aload_n 0, 1) := by decide +kernel
theorem dX12_standing_1 : decode cX12_standing 1 = .ok (.iload_n 1, 1) := by decide +kernel
theorem dX12_standing_2 : decode cX12_standing 2 = .ok (.invokevirtual 311, 3) := by decide +kernel
theorem dX12_standing_5 : decode cX12_standing 5 = .ok (.ifCond .eq 15, 3) := by decide +kernel
theorem dX12_standing_8 : decode cX12_standing 8 = .ok (.aload_n 0, 1) := by decide +kernel
theorem dX12_standing_9 : decode cX12_standing 9 = .ok (.aload_n 0, 1) := by decide +kernel
theorem dX12_standing_10 : decode cX12_standing 10 = .ok (.iload_n 1, 1) := by decide +kernel
theorem dX12_standing_11 : decode cX12_standing 11 = .ok (.invokevirtual 299, 3) := by decide +kernel
theorem dX12_standing_14 : decode cX12_standing 14 = .ok (.invokevirtual 89, 3) := by decide +kernel
theorem dX12_standing_17 : decode cX12_standing 17 = .ok (.goto 8, 3) := by decide +kernel
theorem dX12_standing_20 : decode cX12_standing 20 = .ok (.aload_n 0, 1) := by decide +kernel
theorem dX12_standing_21 : decode cX12_standing 21 = .ok (.iconst 1, 1) := by decide +kernel
theorem dX12_standing_22 : decode cX12_standing 22 = .ok (.invokevirtual 85, 3) := by decide +kernel
theorem dX12_standing_25 : decode cX12_standing 25 = .ok (.ireturn, 1) := by decide +kernel
theorem dX12_roadOf_0 : decode cX12_roadOf 0 = .ok (.ldc_w 314, 3) := by decide +kernel
theorem dX12_roadOf_3 : decode cX12_roadOf 3 = .ok (.istore_n 3, 1) := by decide +kernel
theorem dX12_roadOf_4 : decode cX12_roadOf 4 = .ok (.iconst 0, 1) := by decide +kernel
theorem dX12_roadOf_5 : decode cX12_roadOf 5 = .ok (.istore 4, 2) := by decide +kernel
theorem dX12_roadOf_7 : decode cX12_roadOf 7 = .ok (.iload 4, 2) := by decide +kernel
theorem dX12_roadOf_9 : decode cX12_roadOf 9 = .ok (.aload_n 0, 1) := by decide +kernel
theorem dX12_roadOf_10 : decode cX12_roadOf 10 = .ok (.getfield 7, 3) := by decide +kernel
theorem dX12_roadOf_13 : decode cX12_roadOf 13 = .ok (.iconst 1, 1) := by decide +kernel
theorem dX12_roadOf_14 : decode cX12_roadOf 14 = .ok (.iaload, 1) := by decide +kernel
theorem dX12_roadOf_15 : decode cX12_roadOf 15 = .ok (.if_icmp .ge 76, 3) := by decide +kernel
theorem dX12_roadOf_18 : decode cX12_roadOf 18 = .ok (.aload_n 0, 1) := by decide +kernel
theorem dX12_roadOf_19 : decode cX12_roadOf 19 = .ok (.getfield 7, 3) := by decide +kernel
theorem dX12_roadOf_22 : decode cX12_roadOf 22 = .ok (.iload 4, 2) := by decide +kernel
theorem dX12_roadOf_24 : decode cX12_roadOf 24 = .ok (.invokestatic 198, 3) := by decide +kernel
theorem dX12_roadOf_27 : decode cX12_roadOf 27 = .ok (.iaload, 1) := by decide +kernel
theorem dX12_roadOf_28 : decode cX12_roadOf 28 = .ok (.istore 5, 2) := by decide +kernel
theorem dX12_roadOf_30 : decode cX12_roadOf 30 = .ok (.aload_n 0, 1) := by decide +kernel
theorem dX12_roadOf_31 : decode cX12_roadOf 31 = .ok (.getfield 7, 3) := by decide +kernel
theorem dX12_roadOf_34 : decode cX12_roadOf 34 = .ok (.iload 4, 2) := by decide +kernel
theorem dX12_roadOf_36 : decode cX12_roadOf 36 = .ok (.invokestatic 198, 3) := by decide +kernel
theorem dX12_roadOf_39 : decode cX12_roadOf 39 = .ok (.iconst 1, 1) := by decide +kernel
theorem dX12_roadOf_40 : decode cX12_roadOf 40 = .ok (.iadd, 1) := by decide +kernel
theorem dX12_roadOf_41 : decode cX12_roadOf 41 = .ok (.iaload, 1) := by decide +kernel
theorem dX12_roadOf_42 : decode cX12_roadOf 42 = .ok (.istore 6, 2) := by decide +kernel
theorem dX12_roadOf_44 : decode cX12_roadOf 44 = .ok (.iload 5, 2) := by decide +kernel
theorem dX12_roadOf_46 : decode cX12_roadOf 46 = .ok (.iload_n 1, 1) := by decide +kernel
theorem dX12_roadOf_47 : decode cX12_roadOf 47 = .ok (.if_icmp .ne 9, 3) := by decide +kernel
theorem dX12_roadOf_50 : decode cX12_roadOf 50 = .ok (.iload 6, 2) := by decide +kernel
theorem dX12_roadOf_52 : decode cX12_roadOf 52 = .ok (.iload_n 2, 1) := by decide +kernel
theorem dX12_roadOf_53 : decode cX12_roadOf 53 = .ok (.if_icmp .eq 15, 3) := by decide +kernel
theorem dX12_roadOf_56 : decode cX12_roadOf 56 = .ok (.iload 5, 2) := by decide +kernel
theorem dX12_roadOf_58 : decode cX12_roadOf 58 = .ok (.iload_n 2, 1) := by decide +kernel
theorem dX12_roadOf_59 : decode cX12_roadOf 59 = .ok (.if_icmp .ne 26, 3) := by decide +kernel
theorem dX12_roadOf_62 : decode cX12_roadOf 62 = .ok (.iload 6, 2) := by decide +kernel
theorem dX12_roadOf_64 : decode cX12_roadOf 64 = .ok (.iload_n 1, 1) := by decide +kernel
theorem dX12_roadOf_65 : decode cX12_roadOf 65 = .ok (.if_icmp .ne 20, 3) := by decide +kernel
theorem dX12_roadOf_68 : decode cX12_roadOf 68 = .ok (.iload_n 3, 1) := by decide +kernel
theorem dX12_roadOf_69 : decode cX12_roadOf 69 = .ok (.aload_n 0, 1) := by decide +kernel
theorem dX12_roadOf_70 : decode cX12_roadOf 70 = .ok (.getfield 7, 3) := by decide +kernel
theorem dX12_roadOf_73 : decode cX12_roadOf 73 = .ok (.iload 4, 2) := by decide +kernel
theorem dX12_roadOf_75 : decode cX12_roadOf 75 = .ok (.invokestatic 198, 3) := by decide +kernel
theorem dX12_roadOf_78 : decode cX12_roadOf 78 = .ok (.iconst 2, 1) := by decide +kernel
theorem dX12_roadOf_79 : decode cX12_roadOf 79 = .ok (.iadd, 1) := by decide +kernel
theorem dX12_roadOf_80 : decode cX12_roadOf 80 = .ok (.iaload, 1) := by decide +kernel
theorem dX12_roadOf_81 : decode cX12_roadOf 81 = .ok (.invokestatic 140, 3) := by decide +kernel
theorem dX12_roadOf_84 : decode cX12_roadOf 84 = .ok (.istore_n 3, 1) := by decide +kernel
theorem dX12_roadOf_85 : decode cX12_roadOf 85 = .ok (.iinc 4 1, 3) := by decide +kernel
theorem dX12_roadOf_88 : decode cX12_roadOf 88 = .ok (.goto (-81), 3) := by decide +kernel
theorem dX12_roadOf_91 : decode cX12_roadOf 91 = .ok (.iload_n 3, 1) := by decide +kernel
theorem dX12_roadOf_92 : decode cX12_roadOf 92 = .ok (.ireturn, 1) := by decide +kernel
theorem dX12_laysFar_0 : decode cX12_laysFar 0 = .ok (.iconst 0, 1) := by decide +kernel
theorem dX12_laysFar_1 : decode cX12_laysFar 1 = .ok (.istore_n 1, 1) := by decide +kernel
theorem dX12_laysFar_2 : decode cX12_laysFar 2 = .ok (.iload_n 1, 1) := by decide +kernel
theorem dX12_laysFar_3 : decode cX12_laysFar 3 = .ok (.bipush 8, 2) := by decide +kernel
theorem dX12_laysFar_5 : decode cX12_laysFar 5 = .ok (.if_icmp .ge 49, 3) := by decide +kernel
theorem dX12_laysFar_8 : decode cX12_laysFar 8 = .ok (.iconst 0, 1) := by decide +kernel
theorem dX12_laysFar_9 : decode cX12_laysFar 9 = .ok (.istore_n 2, 1) := by decide +kernel
theorem dX12_laysFar_10 : decode cX12_laysFar 10 = .ok (.iload_n 2, 1) := by decide +kernel
theorem dX12_laysFar_11 : decode cX12_laysFar 11 = .ok (.bipush 8, 2) := by decide +kernel
theorem dX12_laysFar_13 : decode cX12_laysFar 13 = .ok (.if_icmp .ge 35, 3) := by decide +kernel
theorem dX12_laysFar_16 : decode cX12_laysFar 16 = .ok (.aload_n 0, 1) := by decide +kernel
theorem dX12_laysFar_17 : decode cX12_laysFar 17 = .ok (.getfield 47, 3) := by decide +kernel
theorem dX12_laysFar_20 : decode cX12_laysFar 20 = .ok (.bipush 8, 2) := by decide +kernel
theorem dX12_laysFar_22 : decode cX12_laysFar 22 = .ok (.iload_n 1, 1) := by decide +kernel
theorem dX12_laysFar_23 : decode cX12_laysFar 23 = .ok (.imul, 1) := by decide +kernel
theorem dX12_laysFar_24 : decode cX12_laysFar 24 = .ok (.iload_n 2, 1) := by decide +kernel
theorem dX12_laysFar_25 : decode cX12_laysFar 25 = .ok (.iadd, 1) := by decide +kernel
theorem dX12_laysFar_26 : decode cX12_laysFar 26 = .ok (.iload_n 1, 1) := by decide +kernel
theorem dX12_laysFar_27 : decode cX12_laysFar 27 = .ok (.iload_n 2, 1) := by decide +kernel
theorem dX12_laysFar_28 : decode cX12_laysFar 28 = .ok (.if_icmp .ne 7, 3) := by decide +kernel
theorem dX12_laysFar_31 : decode cX12_laysFar 31 = .ok (.iconst 0, 1) := by decide +kernel
theorem dX12_laysFar_32 : decode cX12_laysFar 32 = .ok (.goto 9, 3) := by decide +kernel
theorem dX12_laysFar_35 : decode cX12_laysFar 35 = .ok (.aload_n 0, 1) := by decide +kernel
theorem dX12_laysFar_36 : decode cX12_laysFar 36 = .ok (.iload_n 1, 1) := by decide +kernel
theorem dX12_laysFar_37 : decode cX12_laysFar 37 = .ok (.iload_n 2, 1) := by decide +kernel
theorem dX12_laysFar_38 : decode cX12_laysFar 38 = .ok (.invokevirtual 315, 3) := by decide +kernel
theorem dX12_laysFar_41 : decode cX12_laysFar 41 = .ok (.iastore, 1) := by decide +kernel
theorem dX12_laysFar_42 : decode cX12_laysFar 42 = .ok (.iinc 2 1, 3) := by decide +kernel
theorem dX12_laysFar_45 : decode cX12_laysFar 45 = .ok (.goto (-35), 3) := by decide +kernel
theorem dX12_laysFar_48 : decode cX12_laysFar 48 = .ok (.iinc 1 1, 3) := by decide +kernel
theorem dX12_laysFar_51 : decode cX12_laysFar 51 = .ok (.goto (-49), 3) := by decide +kernel
theorem dX12_laysFar_54 : decode cX12_laysFar 54 = .ok (.iconst 0, 1) := by decide +kernel
theorem dX12_laysFar_55 : decode cX12_laysFar 55 = .ok (.istore_n 1, 1) := by decide +kernel
theorem dX12_laysFar_56 : decode cX12_laysFar 56 = .ok (.iload_n 1, 1) := by decide +kernel
theorem dX12_laysFar_57 : decode cX12_laysFar 57 = .ok (.bipush 8, 2) := by decide +kernel
theorem dX12_laysFar_59 : decode cX12_laysFar 59 = .ok (.if_icmp .ge 85, 3) := by decide +kernel
theorem dX12_laysFar_62 : decode cX12_laysFar 62 = .ok (.iconst 0, 1) := by decide +kernel
theorem dX12_laysFar_63 : decode cX12_laysFar 63 = .ok (.istore_n 2, 1) := by decide +kernel
theorem dX12_laysFar_64 : decode cX12_laysFar 64 = .ok (.iload_n 2, 1) := by decide +kernel
theorem dX12_laysFar_65 : decode cX12_laysFar 65 = .ok (.bipush 8, 2) := by decide +kernel
theorem dX12_laysFar_67 : decode cX12_laysFar 67 = .ok (.if_icmp .ge 71, 3) := by decide +kernel
theorem dX12_laysFar_70 : decode cX12_laysFar 70 = .ok (.iconst 0, 1) := by decide +kernel
theorem dX12_laysFar_71 : decode cX12_laysFar 71 = .ok (.istore_n 3, 1) := by decide +kernel
theorem dX12_laysFar_72 : decode cX12_laysFar 72 = .ok (.iload_n 3, 1) := by decide +kernel
theorem dX12_laysFar_73 : decode cX12_laysFar 73 = .ok (.bipush 8, 2) := by decide +kernel
theorem dX12_laysFar_75 : decode cX12_laysFar 75 = .ok (.if_icmp .ge 57, 3) := by decide +kernel
theorem dX12_laysFar_78 : decode cX12_laysFar 78 = .ok (.aload_n 0, 1) := by decide +kernel
theorem dX12_laysFar_79 : decode cX12_laysFar 79 = .ok (.getfield 47, 3) := by decide +kernel
theorem dX12_laysFar_82 : decode cX12_laysFar 82 = .ok (.bipush 8, 2) := by decide +kernel
theorem dX12_laysFar_84 : decode cX12_laysFar 84 = .ok (.iload_n 2, 1) := by decide +kernel
theorem dX12_laysFar_85 : decode cX12_laysFar 85 = .ok (.imul, 1) := by decide +kernel
theorem dX12_laysFar_86 : decode cX12_laysFar 86 = .ok (.iload_n 3, 1) := by decide +kernel
theorem dX12_laysFar_87 : decode cX12_laysFar 87 = .ok (.iadd, 1) := by decide +kernel
theorem dX12_laysFar_88 : decode cX12_laysFar 88 = .ok (.aload_n 0, 1) := by decide +kernel
theorem dX12_laysFar_89 : decode cX12_laysFar 89 = .ok (.getfield 47, 3) := by decide +kernel
theorem dX12_laysFar_92 : decode cX12_laysFar 92 = .ok (.bipush 8, 2) := by decide +kernel
theorem dX12_laysFar_94 : decode cX12_laysFar 94 = .ok (.iload_n 2, 1) := by decide +kernel
theorem dX12_laysFar_95 : decode cX12_laysFar 95 = .ok (.imul, 1) := by decide +kernel
theorem dX12_laysFar_96 : decode cX12_laysFar 96 = .ok (.iload_n 3, 1) := by decide +kernel
theorem dX12_laysFar_97 : decode cX12_laysFar 97 = .ok (.iadd, 1) := by decide +kernel
theorem dX12_laysFar_98 : decode cX12_laysFar 98 = .ok (.iaload, 1) := by decide +kernel
theorem dX12_laysFar_99 : decode cX12_laysFar 99 = .ok (.aload_n 0, 1) := by decide +kernel
theorem dX12_laysFar_100 : decode cX12_laysFar 100 = .ok (.getfield 47, 3) := by decide +kernel
theorem dX12_laysFar_103 : decode cX12_laysFar 103 = .ok (.bipush 8, 2) := by decide +kernel
theorem dX12_laysFar_105 : decode cX12_laysFar 105 = .ok (.iload_n 2, 1) := by decide +kernel
theorem dX12_laysFar_106 : decode cX12_laysFar 106 = .ok (.imul, 1) := by decide +kernel
theorem dX12_laysFar_107 : decode cX12_laysFar 107 = .ok (.iload_n 1, 1) := by decide +kernel
theorem dX12_laysFar_108 : decode cX12_laysFar 108 = .ok (.iadd, 1) := by decide +kernel
theorem dX12_laysFar_109 : decode cX12_laysFar 109 = .ok (.iaload, 1) := by decide +kernel
theorem dX12_laysFar_110 : decode cX12_laysFar 110 = .ok (.aload_n 0, 1) := by decide +kernel
theorem dX12_laysFar_111 : decode cX12_laysFar 111 = .ok (.getfield 47, 3) := by decide +kernel
theorem dX12_laysFar_114 : decode cX12_laysFar 114 = .ok (.bipush 8, 2) := by decide +kernel
theorem dX12_laysFar_116 : decode cX12_laysFar 116 = .ok (.iload_n 1, 1) := by decide +kernel
theorem dX12_laysFar_117 : decode cX12_laysFar 117 = .ok (.imul, 1) := by decide +kernel
theorem dX12_laysFar_118 : decode cX12_laysFar 118 = .ok (.iload_n 3, 1) := by decide +kernel
theorem dX12_laysFar_119 : decode cX12_laysFar 119 = .ok (.iadd, 1) := by decide +kernel
theorem dX12_laysFar_120 : decode cX12_laysFar 120 = .ok (.iaload, 1) := by decide +kernel
theorem dX12_laysFar_121 : decode cX12_laysFar 121 = .ok (.iadd, 1) := by decide +kernel
theorem dX12_laysFar_122 : decode cX12_laysFar 122 = .ok (.invokestatic 140, 3) := by decide +kernel
theorem dX12_laysFar_125 : decode cX12_laysFar 125 = .ok (.iastore, 1) := by decide +kernel
theorem dX12_laysFar_126 : decode cX12_laysFar 126 = .ok (.iinc 3 1, 3) := by decide +kernel
theorem dX12_laysFar_129 : decode cX12_laysFar 129 = .ok (.goto (-57), 3) := by decide +kernel
theorem dX12_laysFar_132 : decode cX12_laysFar 132 = .ok (.iinc 2 1, 3) := by decide +kernel
theorem dX12_laysFar_135 : decode cX12_laysFar 135 = .ok (.goto (-71), 3) := by decide +kernel
theorem dX12_laysFar_138 : decode cX12_laysFar 138 = .ok (.iinc 1 1, 3) := by decide +kernel
theorem dX12_laysFar_141 : decode cX12_laysFar 141 = .ok (.goto (-85), 3) := by decide +kernel
theorem dX12_laysFar_144 : decode cX12_laysFar 144 = .ok (.return_, 1) := by decide +kernel
theorem dX12_wayTo_0 : decode cX12_wayTo 0 = .ok (.aload_n 0, 1) := by decide +kernel
theorem dX12_wayTo_1 : decode cX12_wayTo 1 = .ok (.getfield 47, 3) := by decide +kernel
theorem dX12_wayTo_4 : decode cX12_wayTo 4 = .ok (.bipush 8, 2) := by decide +kernel
theorem dX12_wayTo_6 : decode cX12_wayTo 6 = .ok (.iload_n 1, 1) := by decide +kernel
theorem dX12_wayTo_7 : decode cX12_wayTo 7 = .ok (.imul, 1) := by decide +kernel
theorem dX12_wayTo_8 : decode cX12_wayTo 8 = .ok (.iload_n 2, 1) := by decide +kernel
theorem dX12_wayTo_9 : decode cX12_wayTo 9 = .ok (.iadd, 1) := by decide +kernel
theorem dX12_wayTo_10 : decode cX12_wayTo 10 = .ok (.iaload, 1) := by decide +kernel
theorem dX12_wayTo_11 : decode cX12_wayTo 11 = .ok (.ldc_w 314, 3) := by decide +kernel
theorem dX12_wayTo_14 : decode cX12_wayTo 14 = .ok (.if_icmp .lt 5, 3) := by decide +kernel
theorem dX12_wayTo_17 : decode cX12_wayTo 17 = .ok (.iconst (-1), 1) := by decide +kernel
theorem dX12_wayTo_18 : decode cX12_wayTo 18 = .ok (.ireturn, 1) := by decide +kernel
theorem dX12_wayTo_19 : decode cX12_wayTo 19 = .ok (.iconst 0, 1) := by decide +kernel
theorem dX12_wayTo_20 : decode cX12_wayTo 20 = .ok (.istore_n 3, 1) := by decide +kernel
theorem dX12_wayTo_21 : decode cX12_wayTo 21 = .ok (.iload_n 3, 1) := by decide +kernel
theorem dX12_wayTo_22 : decode cX12_wayTo 22 = .ok (.aload_n 0, 1) := by decide +kernel
theorem dX12_wayTo_23 : decode cX12_wayTo 23 = .ok (.getfield 7, 3) := by decide +kernel
theorem dX12_wayTo_26 : decode cX12_wayTo 26 = .ok (.iconst 0, 1) := by decide +kernel
theorem dX12_wayTo_27 : decode cX12_wayTo 27 = .ok (.iaload, 1) := by decide +kernel
theorem dX12_wayTo_28 : decode cX12_wayTo 28 = .ok (.if_icmp .ge 60, 3) := by decide +kernel
theorem dX12_wayTo_31 : decode cX12_wayTo 31 = .ok (.iload_n 3, 1) := by decide +kernel
theorem dX12_wayTo_32 : decode cX12_wayTo 32 = .ok (.iload_n 1, 1) := by decide +kernel
theorem dX12_wayTo_33 : decode cX12_wayTo 33 = .ok (.if_icmp .eq 49, 3) := by decide +kernel
theorem dX12_wayTo_36 : decode cX12_wayTo 36 = .ok (.aload_n 0, 1) := by decide +kernel
theorem dX12_wayTo_37 : decode cX12_wayTo 37 = .ok (.iload_n 1, 1) := by decide +kernel
theorem dX12_wayTo_38 : decode cX12_wayTo 38 = .ok (.iload_n 3, 1) := by decide +kernel
theorem dX12_wayTo_39 : decode cX12_wayTo 39 = .ok (.invokevirtual 315, 3) := by decide +kernel
theorem dX12_wayTo_42 : decode cX12_wayTo 42 = .ok (.ldc_w 314, 3) := by decide +kernel
theorem dX12_wayTo_45 : decode cX12_wayTo 45 = .ok (.if_icmp .ge 37, 3) := by decide +kernel
theorem dX12_wayTo_48 : decode cX12_wayTo 48 = .ok (.aload_n 0, 1) := by decide +kernel
theorem dX12_wayTo_49 : decode cX12_wayTo 49 = .ok (.iload_n 1, 1) := by decide +kernel
theorem dX12_wayTo_50 : decode cX12_wayTo 50 = .ok (.iload_n 3, 1) := by decide +kernel
theorem dX12_wayTo_51 : decode cX12_wayTo 51 = .ok (.invokevirtual 315, 3) := by decide +kernel
theorem dX12_wayTo_54 : decode cX12_wayTo 54 = .ok (.aload_n 0, 1) := by decide +kernel
theorem dX12_wayTo_55 : decode cX12_wayTo 55 = .ok (.getfield 47, 3) := by decide +kernel
