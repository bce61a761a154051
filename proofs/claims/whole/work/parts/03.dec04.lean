theorem dX8_fail_0 : decode cX8_fail 0 = .ok (.aload_n 0, 1) := by decide +kernel
theorem dX8_fail_1 : decode cX8_fail 1 = .ok (.getfield 41, 3) := by decide +kernel
theorem dX8_fail_4 : decode cX8_fail 4 = .ok (.ifCond .ne 16, 3) := by decide +kernel
theorem dX8_fail_7 : decode cX8_fail 7 = .ok (.aload_n 0, 1) := by decide +kernel
theorem dX8_fail_8 : decode cX8_fail 8 = .ok (.iload_n 1, 1) := by decide +kernel
theorem dX8_fail_9 : decode cX8_fail 9 = .ok (.putfield 41, 3) := by decide +kernel
theorem dX8_fail_12 : decode cX8_fail 12 = .ok (.aload_n 0, 1) := by decide +kernel
theorem dX8_fail_13 : decode cX8_fail 13 = .ok (.aload_n 0, 1) := by decide +kernel
theorem dX8_fail_14 : decode cX8_fail 14 = .ok (.getfield 50, 3) := by decide +kernel
theorem dX8_fail_17 : decode cX8_fail 17 = .ok (.putfield 15, 3) := by decide +kernel
theorem dX8_fail_20 : decode cX8_fail 20 = .ok (.return_, 1) := by decide +kernel
theorem dX8_failHere_0 : decode cX8_failHere 0 = .ok (.aload_n 0, 1) := by decide +kernel
theorem dX8_failHere_1 : decode cX8_failHere 1 = .ok (.aload_n 0, 1) := by decide +kernel
theorem dX8_failHere_2 : decode cX8_failHere 2 = .ok (.getfield 47, 3) := by decide +kernel
theorem dX8_failHere_5 : decode cX8_failHere 5 = .ok (.iconst 4, 1) := by decide +kernel
theorem dX8_failHere_6 : decode cX8_failHere 6 = .ok (.if_icmp .ne 7, 3) := by decide +kernel
theorem dX8_failHere_9 : decode cX8_failHere 9 = .ok (.iconst 1, 1) := by decide +kernel
theorem dX8_failHere_10 : decode cX8_failHere 10 = .ok (.goto 4, 3) := by decide +kernel
theorem dX8_failHere_13 : decode cX8_failHere 13 = .ok (.iconst 2, 1) := by decide +kernel
theorem dX8_failHere_14 : decode cX8_failHere 14 = .ok (.invokevirtual 53, 3) := by decide +kernel
theorem dX8_failHere_17 : decode cX8_failHere 17 = .ok (.return_, 1) := by decide +kernel
theorem dX8_advance_0 : decode cX8_advance 0 = .ok (.aload_n 0, 1) := by decide +kernel
theorem dX8_advance_1 : decode cX8_advance 1 = .ok (.getfield 38, 3) := by decide +kernel
theorem dX8_advance_4 : decode cX8_advance 4 = .ok (.aload_n 0, 1) := by decide +kernel
theorem dX8_advance_5 : decode cX8_advance 5 = .ok (.getfield 35, 3) := by decide +kernel
theorem dX8_advance_8 : decode cX8_advance 8 = .ok (.if_icmp .ge 44, 3) := by decide +kernel
theorem dX8_advance_11 : decode cX8_advance 11 = .ok (.aload_n 0, 1) := by decide +kernel
theorem dX8_advance_12 : decode cX8_advance 12 = .ok (.getfield 11, 3) := by decide +kernel
theorem dX8_advance_15 : decode cX8_advance 15 = .ok (.aload_n 0, 1) := by decide +kernel
theorem dX8_advance_16 : decode cX8_advance 16 = .ok (.getfield 38, 3) := by decide +kernel
theorem dX8_advance_19 : decode cX8_advance 19 = .ok (.iaload, 1) := by decide +kernel
theorem dX8_advance_20 : decode cX8_advance 20 = .ok (.bipush 10, 2) := by decide +kernel
theorem dX8_advance_22 : decode cX8_advance 22 = .ok (.if_icmp .eq 17, 3) := by decide +kernel
theorem dX8_advance_25 : decode cX8_advance 25 = .ok (.aload_n 0, 1) := by decide +kernel
theorem dX8_advance_26 : decode cX8_advance 26 = .ok (.getfield 11, 3) := by decide +kernel
theorem dX8_advance_29 : decode cX8_advance 29 = .ok (.aload_n 0, 1) := by decide +kernel
theorem dX8_advance_30 : decode cX8_advance 30 = .ok (.getfield 38, 3) := by decide +kernel
theorem dX8_advance_33 : decode cX8_advance 33 = .ok (.iaload, 1) := by decide +kernel
theorem dX8_advance_34 : decode cX8_advance 34 = .ok (.bipush 32, 2) := by decide +kernel
theorem dX8_advance_36 : decode cX8_advance 36 = .ok (.if_icmp .ne 16, 3) := by decide +kernel
theorem dX8_advance_39 : decode cX8_advance 39 = .ok (.aload_n 0, 1) := by decide +kernel
theorem dX8_advance_40 : decode cX8_advance 40 = .ok (.dup, 1) := by decide +kernel
theorem dX8_advance_41 : decode cX8_advance 41 = .ok (.getfield 38, 3) := by decide +kernel
theorem dX8_advance_44 : decode cX8_advance 44 = .ok (.iconst 1, 1) := by decide +kernel
theorem dX8_advance_45 : decode cX8_advance 45 = .ok (.iadd, 1) := by decide +kernel
theorem dX8_advance_46 : decode cX8_advance 46 = .ok (.putfield 38, 3) := by decide +kernel
theorem dX8_advance_49 : decode cX8_advance 49 = .ok (.goto (-49), 3) := by decide +kernel
theorem dX8_advance_52 : decode cX8_advance 52 = .ok (.aload_n 0, 1) := by decide +kernel
theorem dX8_advance_53 : decode cX8_advance 53 = .ok (.aload_n 0, 1) := by decide +kernel
theorem dX8_advance_54 : decode cX8_advance 54 = .ok (.getfield 38, 3) := by decide +kernel
theorem dX8_advance_57 : decode cX8_advance 57 = .ok (.putfield 50, 3) := by decide +kernel
theorem dX8_advance_60 : decode cX8_advance 60 = .ok (.aload_n 0, 1) := by decide +kernel
theorem dX8_advance_61 : decode cX8_advance 61 = .ok (.iconst 0, 1) := by decide +kernel
theorem dX8_advance_62 : decode cX8_advance 62 = .ok (.putfield 57, 3) := by decide +kernel
theorem dX8_advance_65 : decode cX8_advance 65 = .ok (.aload_n 0, 1) := by decide +kernel
theorem dX8_advance_66 : decode cX8_advance 66 = .ok (.lconst 0, 1) := by decide +kernel
theorem dX8_advance_67 : decode cX8_advance 67 = .ok (.putfield 60, 3) := by decide +kernel
theorem dX8_advance_70 : decode cX8_advance 70 = .ok (.aload_n 0, 1) := by decide +kernel
theorem dX8_advance_71 : decode cX8_advance 71 = .ok (.getfield 38, 3) := by decide +kernel
theorem dX8_advance_74 : decode cX8_advance 74 = .ok (.aload_n 0, 1) := by decide +kernel
theorem dX8_advance_75 : decode cX8_advance 75 = .ok (.getfield 35, 3) := by decide +kernel
theorem dX8_advance_78 : decode cX8_advance 78 = .ok (.if_icmp .lt 9, 3) := by decide +kernel
theorem dX8_advance_81 : decode cX8_advance 81 = .ok (.aload_n 0, 1) := by decide +kernel
theorem dX8_advance_82 : decode cX8_advance 82 = .ok (.iconst 0, 1) := by decide +kernel
theorem dX8_advance_83 : decode cX8_advance 83 = .ok (.putfield 47, 3) := by decide +kernel
theorem dX8_advance_86 : decode cX8_advance 86 = .ok (.return_, 1) := by decide +kernel
theorem dX8_advance_87 : decode cX8_advance 87 = .ok (.aload_n 0, 1) := by decide +kernel
theorem dX8_advance_88 : decode cX8_advance 88 = .ok (.getfield 11, 3) := by decide +kernel
theorem dX8_advance_91 : decode cX8_advance 91 = .ok (.aload_n 0, 1) := by decide +kernel
theorem dX8_advance_92 : decode cX8_advance 92 = .ok (.getfield 38, 3) := by decide +kernel
theorem dX8_advance_95 : decode cX8_advance 95 = .ok (.iaload, 1) := by decide +kernel
theorem dX8_advance_96 : decode cX8_advance 96 = .ok (.istore_n 1, 1) := by decide +kernel
theorem dX8_advance_97 : decode cX8_advance 97 = .ok (.iload_n 1, 1) := by decide +kernel
theorem dX8_advance_98 : decode cX8_advance 98 = .ok (.invokestatic 64, 3) := by decide +kernel
theorem dX8_advance_101 : decode cX8_advance 101 = .ok (.ifCond .eq 44, 3) := by decide +kernel
theorem dX8_advance_104 : decode cX8_advance 104 = .ok (.aload_n 0, 1) := by decide +kernel
theorem dX8_advance_105 : decode cX8_advance 105 = .ok (.invokevirtual 67, 3) := by decide +kernel
theorem dX8_advance_108 : decode cX8_advance 108 = .ok (.aload_n 0, 1) := by decide +kernel
theorem dX8_advance_109 : decode cX8_advance 109 = .ok (.aload_n 0, 1) := by decide +kernel
theorem dX8_advance_110 : decode cX8_advance 110 = .ok (.invokevirtual 70, 3) := by decide +kernel
theorem dX8_advance_113 : decode cX8_advance 113 = .ok (.putfield 57, 3) := by decide +kernel
theorem dX8_advance_116 : decode cX8_advance 116 = .ok (.aload_n 0, 1) := by decide +kernel
theorem dX8_advance_117 : decode cX8_advance 117 = .ok (.getfield 57, 3) := by decide +kernel
theorem dX8_advance_120 : decode cX8_advance 120 = .ok (.ifCond .gt 17, 3) := by decide +kernel
theorem dX8_advance_123 : decode cX8_advance 123 = .ok (.aload_n 0, 1) := by decide +kernel
theorem dX8_advance_124 : decode cX8_advance 124 = .ok (.getfield 38, 3) := by decide +kernel
theorem dX8_advance_127 : decode cX8_advance 127 = .ok (.aload_n 0, 1) := by decide +kernel
theorem dX8_advance_128 : decode cX8_advance 128 = .ok (.getfield 50, 3) := by decide +kernel
theorem dX8_advance_131 : decode cX8_advance 131 = .ok (.isub, 1) := by decide +kernel
theorem dX8_advance_132 : decode cX8_advance 132 = .ok (.bipush 8, 2) := by decide +kernel
theorem dX8_advance_134 : decode cX8_advance 134 = .ok (.if_icmp .le 77, 3) := by decide +kernel
theorem dX8_advance_137 : decode cX8_advance 137 = .ok (.aload_n 0, 1) := by decide +kernel
theorem dX8_advance_138 : decode cX8_advance 138 = .ok (.lconst 0, 1) := by decide +kernel
theorem dX8_advance_139 : decode cX8_advance 139 = .ok (.putfield 60, 3) := by decide +kernel
theorem dX8_advance_142 : decode cX8_advance 142 = .ok (.goto 69, 3) := by decide +kernel
theorem dX8_advance_145 : decode cX8_advance 145 = .ok (.iload_n 1, 1) := by decide +kernel
theorem dX8_advance_146 : decode cX8_advance 146 = .ok (.invokestatic 74, 3) := by decide +kernel
theorem dX8_advance_149 : decode cX8_advance 149 = .ok (.ifCond .eq 10, 3) := by decide +kernel
theorem dX8_advance_152 : decode cX8_advance 152 = .ok (.aload_n 0, 1) := by decide +kernel
theorem dX8_advance_153 : decode cX8_advance 153 = .ok (.invokevirtual 77, 3) := by decide +kernel
theorem dX8_advance_156 : decode cX8_advance 156 = .ok (.goto 55, 3) := by decide +kernel
theorem dX8_advance_159 : decode cX8_advance 159 = .ok (.iload_n 1, 1) := by decide +kernel
theorem dX8_advance_160 : decode cX8_advance 160 = .ok (.bipush 59, 2) := by decide +kernel
theorem dX8_advance_162 : decode cX8_advance 162 = .ok (.if_icmp .eq 21, 3) := by decide +kernel
theorem dX8_advance_165 : decode cX8_advance 165 = .ok (.iload_n 1, 1) := by decide +kernel
theorem dX8_advance_166 : decode cX8_advance 166 = .ok (.bipush 60, 2) := by decide +kernel
theorem dX8_advance_168 : decode cX8_advance 168 = .ok (.if_icmp .eq 15, 3) := by decide +kernel
theorem dX8_advance_171 : decode cX8_advance 171 = .ok (.iload_n 1, 1) := by decide +kernel
theorem dX8_advance_172 : decode cX8_advance 172 = .ok (.bipush 62, 2) := by decide +kernel
theorem dX8_advance_174 : decode cX8_advance 174 = .ok (.if_icmp .eq 9, 3) := by decide +kernel
theorem dX8_advance_177 : decode cX8_advance 177 = .ok (.iload_n 1, 1) := by decide +kernel
theorem dX8_advance_178 : decode cX8_advance 178 = .ok (.bipush 61, 2) := by decide +kernel
theorem dX8_advance_180 : decode cX8_advance 180 = .ok (.if_icmp .ne 26, 3) := by decide +kernel
theorem dX8_advance_183 : decode cX8_advance 183 = .ok (.aload_n 0, 1) := by decide +kernel
theorem dX8_advance_184 : decode cX8_advance 184 = .ok (.iconst 3, 1) := by decide +kernel
theorem dX8_advance_185 : decode cX8_advance 185 = .ok (.putfield 47, 3) := by decide +kernel
theorem dX8_advance_188 : decode cX8_advance 188 = .ok (.aload_n 0, 1) := by decide +kernel
theorem dX8_advance_189 : decode cX8_advance 189 = .ok (.iload_n 1, 1) := by decide +kernel
theorem dX8_advance_190 : decode cX8_advance 190 = .ok (.putfield 57, 3) := by decide +kernel
theorem dX8_advance_193 : decode cX8_advance 193 = .ok (.aload_n 0, 1) := by decide +kernel
theorem dX8_advance_194 : decode cX8_advance 194 = .ok (.dup, 1) := by decide +kernel
theorem dX8_advance_195 : decode cX8_advance 195 = .ok (.getfield 38, 3) := by decide +kernel
theorem dX8_advance_198 : decode cX8_advance 198 = .ok (.iconst 1, 1) := by decide +kernel
theorem dX8_advance_199 : decode cX8_advance 199 = .ok (.iadd, 1) := by decide +kernel
theorem dX8_advance_200 : decode cX8_advance 200 = .ok (.putfield 38, 3) := by decide +kernel
theorem dX8_advance_203 : decode cX8_advance 203 = .ok (.goto 8, 3) := by decide +kernel
theorem dX8_advance_206 : decode cX8_advance 206 = .ok (.aload_n 0, 1) := by decide +kernel
theorem dX8_advance_207 : decode cX8_advance 207 = .ok (.iconst 4, 1) := by decide +kernel
theorem dX8_advance_208 : decode cX8_advance 208 = .ok (.putfield 47, 3) := by decide +kernel
theorem dX8_advance_211 : decode cX8_advance 211 = .ok (.return_, 1) := by decide +kernel
theorem dX8_isLetter_0 : decode cX8_isLetter 0 = .ok (.iload_n 0, 1) := by decide +kernel
theorem dX8_isLetter_1 : decode cX8_isLetter 1 = .ok (.bipush 97, 2) := by decide +kernel
theorem dX8_isLetter_3 : decode cX8_isLetter 3 = .ok (.if_icmp .lt 13, 3) := by decide +kernel
theorem dX8_isLetter_6 : decode cX8_isLetter 6 = .ok (.iload_n 0, 1) := by decide +kernel
theorem dX8_isLetter_7 : decode cX8_isLetter 7 = .ok (.bipush 122, 2) := by decide +kernel
theorem dX8_isLetter_9 : decode cX8_isLetter 9 = .ok (.if_icmp .gt 7, 3) := by decide +kernel
theorem dX8_isLetter_12 : decode cX8_isLetter 12 = .ok (.iconst 1, 1) := by decide +kernel
theorem dX8_isLetter_13 : decode cX8_isLetter 13 = .ok (.goto 4, 3) := by decide +kernel
theorem dX8_isLetter_16 : decode cX8_isLetter 16 = .ok (.iconst 0, 1) := by decide +kernel
theorem dX8_isLetter_17 : decode cX8_isLetter 17 = .ok (.ireturn, 1) := by decide +kernel
theorem dX8_isDigit_0 : decode cX8_isDigit 0 = .ok (.iload_n 0, 1) := by decide +kernel
theorem dX8_isDigit_1 : decode cX8_isDigit 1 = .ok (.bipush 48, 2) := by decide +kernel
theorem dX8_isDigit_3 : decode cX8_isDigit 3 = .ok (.if_icmp .lt 13, 3) := by decide +kernel
theorem dX8_isDigit_6 : decode cX8_isDigit 6 = .ok (.iload_n 0, 1) := by decide +kernel
theorem dX8_isDigit_7 : decode cX8_isDigit 7 = .ok (.bipush 57, 2) := by decide +kernel
theorem dX8_isDigit_9 : decode cX8_isDigit 9 = .ok (.if_icmp .gt 7, 3) := by decide +kernel
theorem dX8_isDigit_12 : decode cX8_isDigit 12 = .ok (.iconst 1, 1) := by decide +kernel
theorem dX8_isDigit_13 : decode cX8_isDigit 13 = .ok (.goto 4, 3) := by decide +kernel
theorem dX8_isDigit_16 : decode cX8_isDigit 16 = .ok (.iconst 0, 1) := by decide +kernel
theorem dX8_isDigit_17 : decode cX8_isDigit 17 = .ok (.ireturn, 1) := by decide +kernel
theorem dX8_takeLetters_0 : decode cX8_takeLetters 0 = .ok (.aload_n 0, 1) := by decide +kernel
theorem dX8_takeLetters_1 : decode cX8_takeLetters 1 = .ok (.iconst 1, 1) := by decide +kernel
theorem dX8_takeLetters_2 : decode cX8_takeLetters 2 = .ok (.putfield 47, 3) := by decide +kernel
theorem dX8_takeLetters_5 : decode cX8_takeLetters 5 = .ok (.aload_n 0, 1) := by decide +kernel
theorem dX8_takeLetters_6 : decode cX8_takeLetters 6 = .ok (.getfield 38, 3) := by decide +kernel
theorem dX8_takeLetters_9 : decode cX8_takeLetters 9 = .ok (.aload_n 0, 1) := by decide +kernel
theorem dX8_takeLetters_10 : decode cX8_takeLetters 10 = .ok (.getfield 35, 3) := by decide +kernel
theorem dX8_takeLetters_13 : decode cX8_takeLetters 13 = .ok (.if_icmp .ge 60, 3) := by decide +kernel
theorem dX8_takeLetters_16 : decode cX8_takeLetters 16 = .ok (.aload_n 0, 1) := by decide +kernel
theorem dX8_takeLetters_17 : decode cX8_takeLetters 17 = .ok (.getfield 11, 3) := by decide +kernel
theorem dX8_takeLetters_20 : decode cX8_takeLetters 20 = .ok (.aload_n 0, 1) := by decide +kernel
theorem dX8_takeLetters_21 : decode cX8_takeLetters 21 = .ok (.getfield 38, 3) := by decide +kernel
theorem dX8_takeLetters_24 : decode cX8_takeLetters 24 = .ok (.iaload, 1) := by decide +kernel
theorem dX8_takeLetters_25 : decode cX8_takeLetters 25 = .ok (.invokestatic 64, 3) := by decide +kernel
theorem dX8_takeLetters_28 : decode cX8_takeLetters 28 = .ok (.ifCond .eq 45, 3) := by decide +kernel
theorem dX8_takeLetters_31 : decode cX8_takeLetters 31 = .ok (.aload_n 0, 1) := by decide +kernel
theorem dX8_takeLetters_32 : decode cX8_takeLetters 32 = .ok (.aload_n 0, 1) := by decide +kernel
theorem dX8_takeLetters_33 : decode cX8_takeLetters 33 = .ok (.getfield 60, 3) := by decide +kernel
theorem dX8_takeLetters_36 : decode cX8_takeLetters 36 = .ok (.ldc2_w 80, 3) := by decide +kernel
theorem dX8_takeLetters_39 : decode cX8_takeLetters 39 = .ok (.lmul, 1) := by decide +kernel
theorem dX8_takeLetters_40 : decode cX8_takeLetters 40 = .ok (.aload_n 0, 1) := by decide +kernel
theorem dX8_takeLetters_41 : decode cX8_takeLetters 41 = .ok (.getfield 11, 3) := by decide +kernel
theorem dX8_takeLetters_44 : decode cX8_takeLetters 44 = .ok (.aload_n 0, 1) := by decide +kernel
theorem dX8_takeLetters_45 : decode cX8_takeLetters 45 = .ok (.getfield 38, 3) := by decide +kernel
theorem dX8_takeLetters_48 : decode cX8_takeLetters 48 = .ok (.iaload, 1) := by decide +kernel
theorem dX8_takeLetters_49 : decode cX8_takeLetters 49 = .ok (.i2l, 1) := by decide +kernel
theorem dX8_takeLetters_50 : decode cX8_takeLetters 50 = .ok (.ladd, 1) := by decide +kernel
theorem dX8_takeLetters_51 : decode cX8_takeLetters 51 = .ok (.ldc2_w 82, 3) := by decide +kernel
theorem dX8_takeLetters_54 : decode cX8_takeLetters 54 = .ok (.lsub, 1) := by decide +kernel
theorem dX8_takeLetters_55 : decode cX8_takeLetters 55 = .ok (.lconst 1, 1) := by decide +kernel
theorem dX8_takeLetters_56 : decode cX8_takeLetters 56 = .ok (.ladd, 1) := by decide +kernel
theorem dX8_takeLetters_57 : decode cX8_takeLetters 57 = .ok (.putfield 60, 3) := by decide +kernel
theorem dX8_takeLetters_60 : decode cX8_takeLetters 60 = .ok (.aload_n 0, 1) := by decide +kernel
theorem dX8_takeLetters_61 : decode cX8_takeLetters 61 = .ok (.dup, 1) := by decide +kernel
theorem dX8_takeLetters_62 : decode cX8_takeLetters 62 = .ok (.getfield 38, 3) := by decide +kernel
theorem dX8_takeLetters_65 : decode cX8_takeLetters 65 = .ok (.iconst 1, 1) := by decide +kernel
theorem dX8_takeLetters_66 : decode cX8_takeLetters 66 = .ok (.iadd, 1) := by decide +kernel
theorem dX8_takeLetters_67 : decode cX8_takeLetters 67 = .ok (.putfield 38, 3) := by decide +kernel
theorem dX8_takeLetters_70 : decode cX8_takeLetters 70 = .ok (.goto (-65), 3) := by decide +kernel
theorem dX8_takeLetters_73 : decode cX8_takeLetters 73 = .ok (.return_, 1) := by decide +kernel
theorem dX8_wordNumber_0 : decode cX8_wordNumber 0 = .ok (.iconst 1, 1) := by decide +kernel
theorem dX8_wordNumber_1 : decode cX8_wordNumber 1 = .ok (.istore_n 1, 1) := by decide +kernel
theorem dX8_wordNumber_2 : decode cX8_wordNumber 2 = .ok (.aload_n 0, 1) := by decide +kernel
theorem dX8_wordNumber_3 : decode cX8_wordNumber 3 = .ok (.getfield 50, 3) := by decide +kernel
theorem dX8_wordNumber_6 : decode cX8_wordNumber 6 = .ok (.istore_n 2, 1) := by decide +kernel
theorem dX8_wordNumber_7 : decode cX8_wordNumber 7 = .ok (.iconst 1, 1) := by decide +kernel
theorem dX8_wordNumber_8 : decode cX8_wordNumber 8 = .ok (.istore_n 3, 1) := by decide +kernel
theorem dX8_wordNumber_9 : decode cX8_wordNumber 9 = .ok (.iconst 0, 1) := by decide +kernel
theorem dX8_wordNumber_10 : decode cX8_wordNumber 10 = .ok (.istore 4, 2) := by decide +kernel
theorem dX8_wordNumber_12 : decode cX8_wordNumber 12 = .ok (.iload 4, 2) := by decide +kernel
theorem dX8_wordNumber_14 : decode cX8_wordNumber 14 = .ok (.ldc 84, 2) := by decide +kernel
theorem dX8_wordNumber_16 : decode cX8_wordNumber 16 = .ok (.invokevirtual 86, 3) := by decide +kernel
theorem dX8_wordNumber_19 : decode cX8_wordNumber 19 = .ok (.if_icmp .ge 83, 3) := by decide +kernel
theorem dX8_wordNumber_22 : decode cX8_wordNumber 22 = .ok (.ldc 84, 2) := by decide +kernel
theorem dX8_wordNumber_24 : decode cX8_wordNumber 24 = .ok (.iload 4, 2) := by decide +kernel
theorem dX8_wordNumber_26 : decode cX8_wordNumber 26 = .ok (.invokevirtual 90, 3) := by decide +kernel
theorem dX8_wordNumber_29 : decode cX8_wordNumber 29 = .ok (.istore 5, 2) := by decide +kernel
theorem dX8_wordNumber_31 : decode cX8_wordNumber 31 = .ok (.iload 5, 2) := by decide +kernel
theorem dX8_wordNumber_33 : decode cX8_wordNumber 33 = .ok (.bipush 32, 2) := by decide +kernel
theorem dX8_wordNumber_35 : decode cX8_wordNumber 35 = .ok (.if_icmp .ne 30, 3) := by decide +kernel
theorem dX8_wordNumber_38 : decode cX8_wordNumber 38 = .ok (.iload_n 3, 1) := by decide +kernel
theorem dX8_wordNumber_39 : decode cX8_wordNumber 39 = .ok (.ifCond .eq 13, 3) := by decide +kernel
theorem dX8_wordNumber_42 : decode cX8_wordNumber 42 = .ok (.iload_n 2, 1) := by decide +kernel
theorem dX8_wordNumber_43 : decode cX8_wordNumber 43 = .ok (.aload_n 0, 1) := by decide +kernel
theorem dX8_wordNumber_44 : decode cX8_wordNumber 44 = .ok (.getfield 38, 3) := by decide +kernel
theorem dX8_wordNumber_47 : decode cX8_wordNumber 47 = .ok (.if_icmp .ne 5, 3) := by decide +kernel
theorem dX8_wordNumber_50 : decode cX8_wordNumber 50 = .ok (.iload_n 1, 1) := by decide +kernel
theorem dX8_wordNumber_51 : decode cX8_wordNumber 51 = .ok (.ireturn, 1) := by decide +kernel
theorem dX8_wordNumber_52 : decode cX8_wordNumber 52 = .ok (.iinc 1 1, 3) := by decide +kernel
theorem dX8_wordNumber_55 : decode cX8_wordNumber 55 = .ok (.aload_n 0, 1) := by decide +kernel
theorem dX8_wordNumber_56 : decode cX8_wordNumber 56 = .ok (.getfield 50, 3) := by decide +kernel
theorem dX8_wordNumber_59 : decode cX8_wordNumber 59 = .ok (.istore_n 2, 1) := by decide +kernel
theorem dX8_wordNumber_60 : decode cX8_wordNumber 60 = .ok (.iconst 1, 1) := by decide +kernel
theorem dX8_wordNumber_61 : decode cX8_wordNumber 61 = .ok (.istore_n 3, 1) := by decide +kernel
theorem dX8_wordNumber_62 : decode cX8_wordNumber 62 = .ok (.goto 34, 3) := by decide +kernel
theorem dX8_wordNumber_65 : decode cX8_wordNumber 65 = .ok (.iload_n 3, 1) := by decide +kernel
theorem dX8_wordNumber_66 : decode cX8_wordNumber 66 = .ok (.ifCond .eq 28, 3) := by decide +kernel
theorem dX8_wordNumber_69 : decode cX8_wordNumber 69 = .ok (.iload_n 2, 1) := by decide +kernel
theorem dX8_wordNumber_70 : decode cX8_wordNumber 70 = .ok (.aload_n 0, 1) := by decide +kernel
theorem dX8_wordNumber_71 : decode cX8_wordNumber 71 = .ok (.getfield 38, 3) := by decide +kernel
theorem dX8_wordNumber_74 : decode cX8_wordNumber 74 = .ok (.if_icmp .ge 20, 3) := by decide +kernel
theorem dX8_wordNumber_77 : decode cX8_wordNumber 77 = .ok (.aload_n 0, 1) := by decide +kernel
theorem dX8_wordNumber_78 : decode cX8_wordNumber 78 = .ok (.getfield 11, 3) := by decide +kernel
theorem dX8_wordNumber_81 : decode cX8_wordNumber 81 = .ok (.iload_n 2, 1) := by decide +kernel
theorem dX8_wordNumber_82 : decode cX8_wordNumber 82 = .ok (.iaload, 1) := by decide +kernel
theorem dX8_wordNumber_83 : decode cX8_wordNumber 83 = .ok (.iload 5, 2) := by decide +kernel
theorem dX8_wordNumber_85 : decode cX8_wordNumber 85 = .ok (.if_icmp .ne 9, 3) := by decide +kernel
theorem dX8_wordNumber_88 : decode cX8_wordNumber 88 = .ok (.iinc 2 1, 3) := by decide +kernel
theorem dX8_wordNumber_91 : decode cX8_wordNumber 91 = .ok (.goto 5, 3) := by decide +kernel
theorem dX8_wordNumber_94 : decode cX8_wordNumber 94 = .ok (.iconst 0, 1) := by decide +kernel
theorem dX8_wordNumber_95 : decode cX8_wordNumber 95 = .ok (.istore_n 3, 1) := by decide +kernel
theorem dX8_wordNumber_96 : decode cX8_wordNumber 96 = .ok (.iinc 4 1, 3) := by decide +kernel
theorem dX8_wordNumber_99 : decode cX8_wordNumber 99 = .ok (.goto (-87), 3) := by decide +kernel
theorem dX8_wordNumber_102 : decode cX8_wordNumber 102 = .ok (.iconst 0, 1) := by decide +kernel
theorem dX8_wordNumber_103 : decode cX8_wordNumber 103 = .ok (.ireturn, 1) := by decide +kernel
theorem dX8_takeDigits_0 : decode cX8_takeDigits 0 = .ok (.aload_n 0, 1) := by decide +kernel
theorem dX8_takeDigits_1 : decode cX8_takeDigits 1 = .ok (.getfield 38, 3) := by decide +kernel
theorem dX8_takeDigits_4 : decode cX8_takeDigits 4 = .ok (.aload_n 0, 1) := by decide +kernel
theorem dX8_takeDigits_5 : decode cX8_takeDigits 5 = .ok (.getfield 35, 3) := by decide +kernel
theorem dX8_takeDigits_8 : decode cX8_takeDigits 8 = .ok (.if_icmp .ge 68, 3) := by decide +kernel
theorem dX8_takeDigits_11 : decode cX8_takeDigits 11 = .ok (.aload_n 0, 1) := by decide +kernel
theorem dX8_takeDigits_12 : decode cX8_takeDigits 12 = .ok (.getfield 11, 3) := by decide +kernel
theorem dX8_takeDigits_15 : decode cX8_takeDigits 15 = .ok (.aload_n 0, 1) := by decide +kernel
theorem dX8_takeDigits_16 : decode cX8_takeDigits 16 = .ok (.getfield 38, 3) := by decide +kernel
theorem dX8_takeDigits_19 : decode cX8_takeDigits 19 = .ok (.iaload, 1) := by decide +kernel
theorem dX8_takeDigits_20 : decode cX8_takeDigits 20 = .ok (.invokestatic 74, 3) := by decide +kernel
theorem dX8_takeDigits_23 : decode cX8_takeDigits 23 = .ok (.ifCond .eq 53, 3) := by decide +kernel
theorem dX8_takeDigits_26 : decode cX8_takeDigits 26 = .ok (.aload_n 0, 1) := by decide +kernel
theorem dX8_takeDigits_27 : decode cX8_takeDigits 27 = .ok (.getfield 38, 3) := by decide +kernel
theorem dX8_takeDigits_30 : decode cX8_takeDigits 30 = .ok (.aload_n 0, 1) := by decide +kernel
theorem dX8_takeDigits_31 : decode cX8_takeDigits 31 = .ok (.getfield 50, 3) := by decide +kernel
theorem dX8_takeDigits_34 : decode cX8_takeDigits 34 = .ok (.isub, 1) := by decide +kernel
theorem dX8_takeDigits_35 : decode cX8_takeDigits 35 = .ok (.iconst 4, 1) := by decide +kernel
theorem dX8_takeDigits_36 : decode cX8_takeDigits 36 = .ok (.if_icmp .ge 27, 3) := by decide +kernel
theorem dX8_takeDigits_39 : decode cX8_takeDigits 39 = .ok (.aload_n 0, 1) := by decide +kernel
theorem dX8_takeDigits_40 : decode cX8_takeDigits 40 = .ok (.aload_n 0, 1) := by decide +kernel
theorem dX8_takeDigits_41 : decode cX8_takeDigits 41 = .ok (.getfield 57, 3) := by decide +kernel
theorem dX8_takeDigits_44 : decode cX8_takeDigits 44 = .ok (.bipush 10, 2) := by decide +kernel
theorem dX8_takeDigits_46 : decode cX8_takeDigits 46 = .ok (.imul, 1) := by decide +kernel
theorem dX8_takeDigits_47 : decode cX8_takeDigits 47 = .ok (.aload_n 0, 1) := by decide +kernel
theorem dX8_takeDigits_48 : decode cX8_takeDigits 48 = .ok (.getfield 11, 3) := by decide +kernel
theorem dX8_takeDigits_51 : decode cX8_takeDigits 51 = .ok (.aload_n 0, 1) := by decide +kernel
theorem dX8_takeDigits_52 : decode cX8_takeDigits 52 = .ok (.getfield 38, 3) := by decide +kernel
theorem dX8_takeDigits_55 : decode cX8_takeDigits 55 = .ok (.iaload, 1) := by decide +kernel
theorem dX8_takeDigits_56 : decode cX8_takeDigits 56 = .ok (.iadd, 1) := by decide +kernel
theorem dX8_takeDigits_57 : decode cX8_takeDigits 57 = .ok (.bipush 48, 2) := by decide +kernel
theorem dX8_takeDigits_59 : decode cX8_takeDigits 59 = .ok (.isub, 1) := by decide +kernel
theorem dX8_takeDigits_60 : decode cX8_takeDigits 60 = .ok (.putfield 57, 3) := by decide +kernel
theorem dX8_takeDigits_63 : decode cX8_takeDigits 63 = .ok (.aload_n 0, 1) := by decide +kernel
theorem dX8_takeDigits_64 : decode cX8_takeDigits 64 = .ok (.dup, 1) := by decide +kernel
theorem dX8_takeDigits_65 : decode cX8_takeDigits 65 = .ok (.getfield 38, 3) := by decide +kernel
theorem dX8_takeDigits_68 : decode cX8_takeDigits 68 = .ok (.iconst 1, 1) := by decide +kernel
theorem dX8_takeDigits_69 : decode cX8_takeDigits 69 = .ok (.iadd, 1) := by decide +kernel
theorem dX8_takeDigits_70 : decode cX8_takeDigits 70 = .ok (.putfield 38, 3) := by decide +kernel
theorem dX8_takeDigits_73 : decode cX8_takeDigits 73 = .ok (.goto (-73), 3) := by decide +kernel
theorem dX8_takeDigits_76 : decode cX8_takeDigits 76 = .ok (.aload_n 0, 1) := by decide +kernel
theorem dX8_takeDigits_77 : decode cX8_takeDigits 77 = .ok (.aload_n 0, 1) := by decide +kernel
theorem dX8_takeDigits_78 : decode cX8_takeDigits 78 = .ok (.getfield 38, 3) := by decide +kernel
theorem dX8_takeDigits_81 : decode cX8_takeDigits 81 = .ok (.aload_n 0, 1) := by decide +kernel
theorem dX8_takeDigits_82 : decode cX8_takeDigits 82 = .ok (.getfield 50, 3) := by decide +kernel
theorem dX8_takeDigits_85 : decode cX8_takeDigits 85 = .ok (.isub, 1) := by decide +kernel
theorem dX8_takeDigits_86 : decode cX8_takeDigits 86 = .ok (.iconst 4, 1) := by decide +kernel
theorem dX8_takeDigits_87 : decode cX8_takeDigits 87 = .ok (.if_icmp .gt 7, 3) := by decide +kernel
theorem dX8_takeDigits_90 : decode cX8_takeDigits 90 = .ok (.iconst 2, 1) := by decide +kernel
theorem dX8_takeDigits_91 : decode cX8_takeDigits 91 = .ok (.goto 4, 3) := by decide +kernel
theorem dX8_takeDigits_94 : decode cX8_takeDigits 94 = .ok (.iconst 4, 1) := by decide +kernel
theorem dX8_takeDigits_95 : decode cX8_takeDigits 95 = .ok (.putfield 47, 3) := by decide +kernel
theorem dX8_takeDigits_98 : decode cX8_takeDigits 98 = .ok (.return_, 1) := by decide +kernel
theorem dX8_takeWord_0 : decode cX8_takeWord 0 = .ok (.aload_n 0, 1) := by decide +kernel
theorem dX8_takeWord_1 : decode cX8_takeWord 1 = .ok (.getfield 41, 3) := by decide +kernel
theorem dX8_takeWord_4 : decode cX8_takeWord 4 = .ok (.ifCond .eq 4, 3) := by decide +kernel
theorem dX8_takeWord_7 : decode cX8_takeWord 7 = .ok (.return_, 1) := by decide +kernel
theorem dX8_takeWord_8 : decode cX8_takeWord 8 = .ok (.aload_n 0, 1) := by decide +kernel
theorem dX8_takeWord_9 : decode cX8_takeWord 9 = .ok (.getfield 47, 3) := by decide +kernel
theorem dX8_takeWord_12 : decode cX8_takeWord 12 = .ok (.iconst 1, 1) := by decide +kernel
theorem dX8_takeWord_13 : decode cX8_takeWord 13 = .ok (.if_icmp .ne 11, 3) := by decide +kernel
theorem dX8_takeWord_16 : decode cX8_takeWord 16 = .ok (.aload_n 0, 1) := by decide +kernel
theorem dX8_takeWord_17 : decode cX8_takeWord 17 = .ok (.getfield 57, 3) := by decide +kernel
theorem dX8_takeWord_20 : decode cX8_takeWord 20 = .ok (.iload_n 1, 1) := by decide +kernel
theorem dX8_takeWord_21 : decode cX8_takeWord 21 = .ok (.if_icmp .eq 8, 3) := by decide +kernel
theorem dX8_takeWord_24 : decode cX8_takeWord 24 = .ok (.aload_n 0, 1) := by decide +kernel
theorem dX8_takeWord_25 : decode cX8_takeWord 25 = .ok (.invokevirtual 94, 3) := by decide +kernel
theorem dX8_takeWord_28 : decode cX8_takeWord 28 = .ok (.return_, 1) := by decide +kernel
theorem dX8_takeWord_29 : decode cX8_takeWord 29 = .ok (.aload_n 0, 1) := by decide +kernel
theorem dX8_takeWord_30 : decode cX8_takeWord 30 = .ok (.invokevirtual 44, 3) := by decide +kernel
theorem dX8_takeWord_33 : decode cX8_takeWord 33 = .ok (.return_, 1) := by decide +kernel
theorem dX8_takeEnd_0 : decode cX8_takeEnd 0 = .ok (.aload_n 0, 1) := by decide +kernel
theorem dX8_takeEnd_1 : decode cX8_takeEnd 1 = .ok (.getfield 41, 3) := by decide +kernel
theorem dX8_takeEnd_4 : decode cX8_takeEnd 4 = .ok (.ifCond .eq 4, 3) := by decide +kernel
theorem dX8_takeEnd_7 : decode cX8_takeEnd 7 = .ok (.return_, 1) := by decide +kernel
theorem dX8_takeEnd_8 : decode cX8_takeEnd 8 = .ok (.aload_n 0, 1) := by decide +kernel
theorem dX8_takeEnd_9 : decode cX8_takeEnd 9 = .ok (.getfield 47, 3) := by decide +kernel
theorem dX8_takeEnd_12 : decode cX8_takeEnd 12 = .ok (.iconst 3, 1) := by decide +kernel
theorem dX8_takeEnd_13 : decode cX8_takeEnd 13 = .ok (.if_icmp .ne 12, 3) := by decide +kernel
theorem dX8_takeEnd_16 : decode cX8_takeEnd 16 = .ok (.aload_n 0, 1) := by decide +kernel
theorem dX8_takeEnd_17 : decode cX8_takeEnd 17 = .ok (.getfield 57, 3) := by decide +kernel
theorem dX8_takeEnd_20 : decode cX8_takeEnd 20 = .ok (.bipush 59, 2) := by decide +kernel
theorem dX8_takeEnd_22 : decode cX8_takeEnd 22 = .ok (.if_icmp .eq 8, 3) := by decide +kernel
theorem dX8_takeEnd_25 : decode cX8_takeEnd 25 = .ok (.aload_n 0, 1) := by decide +kernel
theorem dX8_takeEnd_26 : decode cX8_takeEnd 26 = .ok (.invokevirtual 94, 3) := by decide +kernel
theorem dX8_takeEnd_29 : decode cX8_takeEnd 29 = .ok (.return_, 1) := by decide +kernel
theorem dX8_takeEnd_30 : decode cX8_takeEnd 30 = .ok (.aload_n 0, 1) := by decide +kernel
theorem dX8_takeEnd_31 : decode cX8_takeEnd 31 = .ok (.invokevirtual 44, 3) := by decide +kernel
theorem dX8_takeEnd_34 : decode cX8_takeEnd 34 = .ok (.return_, 1) := by decide +kernel
theorem dX8_takeCompare_0 : decode cX8_takeCompare 0 = .ok (.aload_n 0, 1) := by decide +kernel
theorem dX8_takeCompare_1 : decode cX8_takeCompare 1 = .ok (.getfield 41, 3) := by decide +kernel
theorem dX8_takeCompare_4 : decode cX8_takeCompare 4 = .ok (.ifCond .eq 5, 3) := by decide +kernel
theorem dX8_takeCompare_7 : decode cX8_takeCompare 7 = .ok (.iconst 0, 1) := by decide +kernel
theorem dX8_takeCompare_8 : decode cX8_takeCompare 8 = .ok (.ireturn, 1) := by decide +kernel
theorem dX8_takeCompare_9 : decode cX8_takeCompare 9 = .ok (.aload_n 0, 1) := by decide +kernel
theorem dX8_takeCompare_10 : decode cX8_takeCompare 10 = .ok (.getfield 47, 3) := by decide +kernel
theorem dX8_takeCompare_13 : decode cX8_takeCompare 13 = .ok (.iconst 3, 1) := by decide +kernel
theorem dX8_takeCompare_14 : decode cX8_takeCompare 14 = .ok (.if_icmp .ne 12, 3) := by decide +kernel
theorem dX8_takeCompare_17 : decode cX8_takeCompare 17 = .ok (.aload_n 0, 1) := by decide +kernel
theorem dX8_takeCompare_18 : decode cX8_takeCompare 18 = .ok (.getfield 57, 3) := by decide +kernel
theorem dX8_takeCompare_21 : decode cX8_takeCompare 21 = .ok (.bipush 59, 2) := by decide +kernel
theorem dX8_takeCompare_23 : decode cX8_takeCompare 23 = .ok (.if_icmp .ne 9, 3) := by decide +kernel
theorem dX8_takeCompare_26 : decode cX8_takeCompare 26 = .ok (.aload_n 0, 1) := by decide +kernel
theorem dX8_takeCompare_27 : decode cX8_takeCompare 27 = .ok (.invokevirtual 94, 3) := by decide +kernel
theorem dX8_takeCompare_30 : decode cX8_takeCompare 30 = .ok (.iconst 0, 1) := by decide +kernel
theorem dX8_takeCompare_31 : decode cX8_takeCompare 31 = .ok (.ireturn, 1) := by decide +kernel
theorem dX8_takeCompare_32 : decode cX8_takeCompare 32 = .ok (.aload_n 0, 1) := by decide +kernel
theorem dX8_takeCompare_33 : decode cX8_takeCompare 33 = .ok (.getfield 57, 3) := by decide +kernel
theorem dX8_takeCompare_36 : decode cX8_takeCompare 36 = .ok (.istore_n 1, 1) := by decide +kernel
theorem dX8_takeCompare_37 : decode cX8_takeCompare 37 = .ok (.aload_n 0, 1) := by decide +kernel
theorem dX8_takeCompare_38 : decode cX8_takeCompare 38 = .ok (.invokevirtual 44, 3) := by decide +kernel
theorem dX8_takeCompare_41 : decode cX8_takeCompare 41 = .ok (.iload_n 1, 1) := by decide +kernel
theorem dX8_takeCompare_42 : decode cX8_takeCompare 42 = .ok (.ireturn, 1) := by decide +kernel
theorem dX8_takeNumber_0 : decode cX8_takeNumber 0 = .ok (.aload_n 0, 1) := by decide +kernel
theorem dX8_takeNumber_1 : decode cX8_takeNumber 1 = .ok (.getfield 41, 3) := by decide +kernel
theorem dX8_takeNumber_4 : decode cX8_takeNumber 4 = .ok (.ifCond .eq 5, 3) := by decide +kernel
theorem dX8_takeNumber_7 : decode cX8_takeNumber 7 = .ok (.iload_n 1, 1) := by decide +kernel
theorem dX8_takeNumber_8 : decode cX8_takeNumber 8 = .ok (.ireturn, 1) := by decide +kernel
theorem dX8_takeNumber_9 : decode cX8_takeNumber 9 = .ok (.aload_n 0, 1) := by decide +kernel
theorem dX8_takeNumber_10 : decode cX8_takeNumber 10 = .ok (.getfield 47, 3) := by decide +kernel
theorem dX8_takeNumber_13 : decode cX8_takeNumber 13 = .ok (.iconst 2, 1) := by decide +kernel
theorem dX8_takeNumber_14 : decode cX8_takeNumber 14 = .ok (.if_icmp .eq 9, 3) := by decide +kernel
theorem dX8_takeNumber_17 : decode cX8_takeNumber 17 = .ok (.aload_n 0, 1) := by decide +kernel
theorem dX8_takeNumber_18 : decode cX8_takeNumber 18 = .ok (.invokevirtual 94, 3) := by decide +kernel
theorem dX8_takeNumber_21 : decode cX8_takeNumber 21 = .ok (.iload_n 1, 1) := by decide +kernel
theorem dX8_takeNumber_22 : decode cX8_takeNumber 22 = .ok (.ireturn, 1) := by decide +kernel
theorem dX8_takeNumber_23 : decode cX8_takeNumber 23 = .ok (.aload_n 0, 1) := by decide +kernel
theorem dX8_takeNumber_24 : decode cX8_takeNumber 24 = .ok (.getfield 57, 3) := by decide +kernel
theorem dX8_takeNumber_27 : decode cX8_takeNumber 27 = .ok (.iload_n 1, 1) := by decide +kernel
theorem dX8_takeNumber_28 : decode cX8_takeNumber 28 = .ok (.if_icmp .lt 11, 3) := by decide +kernel
theorem dX8_takeNumber_31 : decode cX8_takeNumber 31 = .ok (.aload_n 0, 1) := by decide +kernel
theorem dX8_takeNumber_32 : decode cX8_takeNumber 32 = .ok (.getfield 57, 3) := by decide +kernel
theorem dX8_takeNumber_35 : decode cX8_takeNumber 35 = .ok (.iload_n 2, 1) := by decide +kernel
theorem dX8_takeNumber_36 : decode cX8_takeNumber 36 = .ok (.if_icmp .le 10, 3) := by decide +kernel
theorem dX8_takeNumber_39 : decode cX8_takeNumber 39 = .ok (.aload_n 0, 1) := by decide +kernel
theorem dX8_takeNumber_40 : decode cX8_takeNumber 40 = .ok (.iconst 4, 1) := by decide +kernel
theorem dX8_takeNumber_41 : decode cX8_takeNumber 41 = .ok (.invokevirtual 53, 3) := by decide +kernel
theorem dX8_takeNumber_44 : decode cX8_takeNumber 44 = .ok (.iload_n 1, 1) := by decide +kernel
theorem dX8_takeNumber_45 : decode cX8_takeNumber 45 = .ok (.ireturn, 1) := by decide +kernel
theorem dX8_takeNumber_46 : decode cX8_takeNumber 46 = .ok (.aload_n 0, 1) := by decide +kernel
theorem dX8_takeNumber_47 : decode cX8_takeNumber 47 = .ok (.getfield 57, 3) := by decide +kernel
theorem dX8_takeNumber_50 : decode cX8_takeNumber 50 = .ok (.istore_n 3, 1) := by decide +kernel
theorem dX8_takeNumber_51 : decode cX8_takeNumber 51 = .ok (.aload_n 0, 1) := by decide +kernel
theorem dX8_takeNumber_52 : decode cX8_takeNumber 52 = .ok (.invokevirtual 44, 3) := by decide +kernel
theorem dX8_takeNumber_55 : decode cX8_takeNumber 55 = .ok (.iload_n 3, 1) := by decide +kernel
theorem dX8_takeNumber_56 : decode cX8_takeNumber 56 = .ok (.ireturn, 1) := by decide +kernel
theorem dX8_takeNewName_0 : decode cX8_takeNewName 0 = .ok (.aload_n 0, 1) := by decide +kernel
theorem dX8_takeNewName_1 : decode cX8_takeNewName 1 = .ok (.getfield 41, 3) := by decide +kernel
theorem dX8_takeNewName_4 : decode cX8_takeNewName 4 = .ok (.ifCond .eq 5, 3) := by decide +kernel
theorem dX8_takeNewName_7 : decode cX8_takeNewName 7 = .ok (.lconst 0, 1) := by decide +kernel
theorem dX8_takeNewName_8 : decode cX8_takeNewName 8 = .ok (.lreturn, 1) := by decide +kernel
theorem dX8_takeNewName_9 : decode cX8_takeNewName 9 = .ok (.aload_n 0, 1) := by decide +kernel
theorem dX8_takeNewName_10 : decode cX8_takeNewName 10 = .ok (.getfield 60, 3) := by decide +kernel
theorem dX8_takeNewName_13 : decode cX8_takeNewName 13 = .ok (.lconst 0, 1) := by decide +kernel
theorem dX8_takeNewName_14 : decode cX8_takeNewName 14 = .ok (.lcmp, 1) := by decide +kernel
theorem dX8_takeNewName_15 : decode cX8_takeNewName 15 = .ok (.ifCond .ne 9, 3) := by decide +kernel
theorem dX8_takeNewName_18 : decode cX8_takeNewName 18 = .ok (.aload_n 0, 1) := by decide +kernel
theorem dX8_takeNewName_19 : decode cX8_takeNewName 19 = .ok (.invokevirtual 94, 3) := by decide +kernel
theorem dX8_takeNewName_22 : decode cX8_takeNewName 22 = .ok (.lconst 0, 1) := by decide +kernel
theorem dX8_takeNewName_23 : decode cX8_takeNewName 23 = .ok (.lreturn, 1) := by decide +kernel
theorem dX8_takeNewName_24 : decode cX8_takeNewName 24 = .ok (.aload_n 1, 1) := by decide +kernel
theorem dX8_takeNewName_25 : decode cX8_takeNewName 25 = .ok (.aload_n 0, 1) := by decide +kernel
theorem dX8_takeNewName_26 : decode cX8_takeNewName 26 = .ok (.getfield 60, 3) := by decide +kernel
theorem dX8_takeNewName_29 : decode cX8_takeNewName 29 = .ok (.invokevirtual 97, 3) := by decide +kernel
theorem dX8_takeNewName_32 : decode cX8_takeNewName 32 = .ok (.iconst (-1), 1) := by decide +kernel
theorem dX8_takeNewName_33 : decode cX8_takeNewName 33 = .ok (.if_icmp .eq 10, 3) := by decide +kernel
theorem dX8_takeNewName_36 : decode cX8_takeNewName 36 = .ok (.aload_n 0, 1) := by decide +kernel
theorem dX8_takeNewName_37 : decode cX8_takeNewName 37 = .ok (.iconst 3, 1) := by decide +kernel
theorem dX8_takeNewName_38 : decode cX8_takeNewName 38 = .ok (.invokevirtual 53, 3) := by decide +kernel
theorem dX8_takeNewName_41 : decode cX8_takeNewName 41 = .ok (.lconst 0, 1) := by decide +kernel
theorem dX8_takeNewName_42 : decode cX8_takeNewName 42 = .ok (.lreturn, 1) := by decide +kernel
theorem dX8_takeNewName_43 : decode cX8_takeNewName 43 = .ok (.aload_n 0, 1) := by decide +kernel
theorem dX8_takeNewName_44 : decode cX8_takeNewName 44 = .ok (.getfield 60, 3) := by decide +kernel
theorem dX8_takeNewName_47 : decode cX8_takeNewName 47 = .ok (.lstore_n 2, 1) := by decide +kernel
theorem dX8_takeNewName_48 : decode cX8_takeNewName 48 = .ok (.aload_n 0, 1) := by decide +kernel
theorem dX8_takeNewName_49 : decode cX8_takeNewName 49 = .ok (.invokevirtual 44, 3) := by decide +kernel
theorem dX8_takeNewName_52 : decode cX8_takeNewName 52 = .ok (.lload_n 2, 1) := by decide +kernel
theorem dX8_takeNewName_53 : decode cX8_takeNewName 53 = .ok (.lreturn, 1) := by decide +kernel
theorem dX8_lookAtName_0 : decode cX8_lookAtName 0 = .ok (.aload_n 0, 1) := by decide +kernel
theorem dX8_lookAtName_1 : decode cX8_lookAtName 1 = .ok (.getfield 41, 3) := by decide +kernel
theorem dX8_lookAtName_4 : decode cX8_lookAtName 4 = .ok (.ifCond .eq 5, 3) := by decide +kernel
theorem dX8_lookAtName_7 : decode cX8_lookAtName 7 = .ok (.iconst 0, 1) := by decide +kernel
theorem dX8_lookAtName_8 : decode cX8_lookAtName 8 = .ok (.ireturn, 1) := by decide +kernel
theorem dX8_lookAtName_9 : decode cX8_lookAtName 9 = .ok (.aload_n 0, 1) := by decide +kernel
theorem dX8_lookAtName_10 : decode cX8_lookAtName 10 = .ok (.getfield 60, 3) := by decide +kernel
theorem dX8_lookAtName_13 : decode cX8_lookAtName 13 = .ok (.lconst 0, 1) := by decide +kernel
theorem dX8_lookAtName_14 : decode cX8_lookAtName 14 = .ok (.lcmp, 1) := by decide +kernel
theorem dX8_lookAtName_15 : decode cX8_lookAtName 15 = .ok (.ifCond .ne 9, 3) := by decide +kernel
theorem dX8_lookAtName_18 : decode cX8_lookAtName 18 = .ok (.aload_n 0, 1) := by decide +kernel
theorem dX8_lookAtName_19 : decode cX8_lookAtName 19 = .ok (.invokevirtual 94, 3) := by decide +kernel
theorem dX8_lookAtName_22 : decode cX8_lookAtName 22 = .ok (.iconst 0, 1) := by decide +kernel
theorem dX8_lookAtName_23 : decode cX8_lookAtName 23 = .ok (.ireturn, 1) := by decide +kernel
theorem dX8_lookAtName_24 : decode cX8_lookAtName 24 = .ok (.aload_n 1, 1) := by decide +kernel
theorem dX8_lookAtName_25 : decode cX8_lookAtName 25 = .ok (.aload_n 0, 1) := by decide +kernel
theorem dX8_lookAtName_26 : decode cX8_lookAtName 26 = .ok (.getfield 60, 3) := by decide +kernel
theorem dX8_lookAtName_29 : decode cX8_lookAtName 29 = .ok (.invokevirtual 97, 3) := by decide +kernel
theorem dX8_lookAtName_32 : decode cX8_lookAtName 32 = .ok (.istore_n 3, 1) := by decide +kernel
theorem dX8_lookAtName_33 : decode cX8_lookAtName 33 = .ok (.aload_n 1, 1) := by decide +kernel
theorem dX8_lookAtName_34 : decode cX8_lookAtName 34 = .ok (.iload_n 3, 1) := by decide +kernel
theorem dX8_lookAtName_35 : decode cX8_lookAtName 35 = .ok (.iload_n 2, 1) := by decide +kernel
theorem dX8_lookAtName_36 : decode cX8_lookAtName 36 = .ok (.invokevirtual 103, 3) := by decide +kernel
theorem dX8_lookAtName_39 : decode cX8_lookAtName 39 = .ok (.ifCond .ne 10, 3) := by decide +kernel
theorem dX8_lookAtName_42 : decode cX8_lookAtName 42 = .ok (.aload_n 0, 1) := by decide +kernel
theorem dX8_lookAtName_43 : decode cX8_lookAtName 43 = .ok (.iconst 3, 1) := by decide +kernel
theorem dX8_lookAtName_44 : decode cX8_lookAtName 44 = .ok (.invokevirtual 53, 3) := by decide +kernel
theorem dX8_lookAtName_47 : decode cX8_lookAtName 47 = .ok (.iconst 0, 1) := by decide +kernel
theorem dX8_lookAtName_48 : decode cX8_lookAtName 48 = .ok (.ireturn, 1) := by decide +kernel
theorem dX8_lookAtName_49 : decode cX8_lookAtName 49 = .ok (.aload_n 1, 1) := by decide +kernel
theorem dX8_lookAtName_50 : decode cX8_lookAtName 50 = .ok (.iload_n 3, 1) := by decide +kernel
theorem dX8_lookAtName_51 : decode cX8_lookAtName 51 = .ok (.invokevirtual 107, 3) := by decide +kernel
theorem dX8_lookAtName_54 : decode cX8_lookAtName 54 = .ok (.ireturn, 1) := by decide +kernel
theorem dX8_takeName_0 : decode cX8_takeName 0 = .ok (.aload_n 0, 1) := by decide +kernel
theorem dX8_takeName_1 : decode cX8_takeName 1 = .ok (.aload_n 1, 1) := by decide +kernel
theorem dX8_takeName_2 : decode cX8_takeName 2 = .ok (.iload_n 2, 1) := by decide +kernel
theorem dX8_takeName_3 : decode cX8_takeName 3 = .ok (.invokevirtual 111, 3) := by decide +kernel
theorem dX8_takeName_6 : decode cX8_takeName 6 = .ok (.istore_n 3, 1) := by decide +kernel
theorem dX8_takeName_7 : decode cX8_takeName 7 = .ok (.aload_n 0, 1) := by decide +kernel
theorem dX8_takeName_8 : decode cX8_takeName 8 = .ok (.getfield 41, 3) := by decide +kernel
theorem dX8_takeName_11 : decode cX8_takeName 11 = .ok (.ifCond .ne 7, 3) := by decide +kernel
theorem dX8_takeName_14 : decode cX8_takeName 14 = .ok (.aload_n 0, 1) := by decide +kernel
theorem dX8_takeName_15 : decode cX8_takeName 15 = .ok (.invokevirtual 44, 3) := by decide +kernel
theorem dX8_takeName_18 : decode cX8_takeName 18 = .ok (.iload_n 3, 1) := by decide +kernel
theorem dX8_takeName_19 : decode cX8_takeName 19 = .ok (.ireturn, 1) := by decide +kernel
theorem dX9_init_0 : decode cX9_init 0 = .ok (.aload_n 0, 1) := by decide +kernel
theorem dX9_init_1 : decode cX9_init 1 = .ok (.invokespecial 3, 3) := by decide +kernel
theorem dX9_init_4 : decode cX9_init 4 = .ok (.aload_n 0, 1) := by decide +kernel
theorem dX9_init_5 : decode cX9_init 5 = .ok (.sipush 240, 3) := by decide +kernel
theorem dX9_init_8 : decode cX9_init 8 = .ok (.newarray .long, 2) := by decide +kernel
theorem dX9_init_10 : decode cX9_init 10 = .ok (.putfield 11, 3) := by decide +kernel
theorem dX9_init_13 : decode cX9_init 13 = .ok (.aload_n 0, 1) := by decide +kernel
theorem dX9_init_14 : decode cX9_init 14 = .ok (.iconst 4, 1) := by decide +kernel
theorem dX9_init_15 : decode cX9_init 15 = .ok (.newarray .int, 2) := by decide +kernel
theorem dX9_init_17 : decode cX9_init 17 = .ok (.putfield 15, 3) := by decide +kernel
theorem dX9_init_20 : decode cX9_init 20 = .ok (.aload_n 0, 1) := by decide +kernel
theorem dX9_init_21 : decode cX9_init 21 = .ok (.iconst 4, 1) := by decide +kernel
theorem dX9_init_22 : decode cX9_init 22 = .ok (.newarray .int, 2) := by decide +kernel
theorem dX9_init_24 : decode cX9_init 24 = .ok (.putfield 19, 3) := by decide +kernel
theorem dX9_init_27 : decode cX9_init 27 = .ok (.iconst 0, 1) := by decide +kernel
theorem dX9_init_28 : decode cX9_init 28 = .ok (.istore_n 1, 1) := by decide +kernel
theorem dX9_init_29 : decode cX9_init 29 = .ok (.iload_n 1, 1) := by decide +kernel
theorem dX9_init_30 : decode cX9_init 30 = .ok (.iconst 4, 1) := by decide +kernel
theorem dX9_init_31 : decode cX9_init 31 = .ok (.if_icmp .ge 16, 3) := by decide +kernel
theorem dX9_init_34 : decode cX9_init 34 = .ok (.aload_n 0, 1) := by decide +kernel
theorem dX9_init_35 : decode cX9_init 35 = .ok (.getfield 19, 3) := by decide +kernel
theorem dX9_init_38 : decode cX9_init 38 = .ok (.iload_n 1, 1) := by decide +kernel
theorem dX9_init_39 : decode cX9_init 39 = .ok (.iconst (-1), 1) := by decide +kernel
theorem dX9_init_40 : decode cX9_init 40 = .ok (.iastore, 1) := by decide +kernel
theorem dX9_init_41 : decode cX9_init 41 = .ok (.iinc 1 1, 3) := by decide +kernel
theorem dX9_init_44 : decode cX9_init 44 = .ok (.goto (-15), 3) := by decide +kernel
theorem dX9_init_47 : decode cX9_init 47 = .ok (.return_, 1) := by decide +kernel
theorem dX9_isTray_0 : decode cX9_isTray 0 = .ok (.iload_n 1, 1) := by decide +kernel
theorem dX9_isTray_1 : decode cX9_isTray 1 = .ok (.ifCond .lt 12, 3) := by decide +kernel
theorem dX9_isTray_4 : decode cX9_isTray 4 = .ok (.iload_n 1, 1) := by decide +kernel
theorem dX9_isTray_5 : decode cX9_isTray 5 = .ok (.iconst 4, 1) := by decide +kernel
theorem dX9_isTray_6 : decode cX9_isTray 6 = .ok (.if_icmp .ge 7, 3) := by decide +kernel
theorem dX9_isTray_9 : decode cX9_isTray 9 = .ok (.iconst 1, 1) := by decide +kernel
theorem dX9_isTray_10 : decode cX9_isTray 10 = .ok (.goto 4, 3) := by decide +kernel
theorem dX9_isTray_13 : decode cX9_isTray 13 = .ok (.iconst 0, 1) := by decide +kernel
theorem dX9_isTray_14 : decode cX9_isTray 14 = .ok (.ireturn, 1) := by decide +kernel
theorem dX9_isMissing_0 : decode cX9_isMissing 0 = .ok (.aload_n 0, 1) := by decide +kernel
theorem dX9_isMissing_1 : decode cX9_isMissing 1 = .ok (.iload_n 1, 1) := by decide +kernel
theorem dX9_isMissing_2 : decode cX9_isMissing 2 = .ok (.invokevirtual 22, 3) := by decide +kernel
theorem dX9_isMissing_5 : decode cX9_isMissing 5 = .ok (.ifCond .eq 13, 3) := by decide +kernel
theorem dX9_isMissing_8 : decode cX9_isMissing 8 = .ok (.aload_n 0, 1) := by decide +kernel
theorem dX9_isMissing_9 : decode cX9_isMissing 9 = .ok (.getfield 19, 3) := by decide +kernel
theorem dX9_isMissing_12 : decode cX9_isMissing 12 = .ok (.iload_n 1, 1) := by decide +kernel
theorem dX9_isMissing_13 : decode cX9_isMissing 13 = .ok (.iaload, 1) := by decide +kernel
theorem dX9_isMissing_14 : decode cX9_isMissing 14 = .ok (.iconst (-1), 1) := by decide +kernel
theorem dX9_isMissing_15 : decode cX9_isMissing 15 = .ok (.if_icmp .ne 7, 3) := by decide +kernel
theorem dX9_isMissing_18 : decode cX9_isMissing 18 = .ok (.iconst 1, 1) := by decide +kernel
theorem dX9_isMissing_19 : decode cX9_isMissing 19 = .ok (.goto 4, 3) := by decide +kernel
theorem dX9_isMissing_22 : decode cX9_isMissing 22 = .ok (.iconst 0, 1) := by decide +kernel
theorem dX9_isMissing_23 : decode cX9_isMissing 23 = .ok (.ireturn, 1) := by decide +kernel
theorem dX9_sortOf_0 : decode cX9_sortOf 0 = .ok (.aload_n 0, 1) := by decide +kernel
theorem dX9_sortOf_1 : decode cX9_sortOf 1 = .ok (.iload_n 1, 1) := by decide +kernel
theorem dX9_sortOf_2 : decode cX9_sortOf 2 = .ok (.invokevirtual 22, 3) := by decide +kernel
theorem dX9_sortOf_5 : decode cX9_sortOf 5 = .ok (.ifCond .eq 12, 3) := by decide +kernel
theorem dX9_sortOf_8 : decode cX9_sortOf 8 = .ok (.aload_n 0, 1) := by decide +kernel
theorem dX9_sortOf_9 : decode cX9_sortOf 9 = .ok (.getfield 15, 3) := by decide +kernel
theorem dX9_sortOf_12 : decode cX9_sortOf 12 = .ok (.iload_n 1, 1) := by decide +kernel
theorem dX9_sortOf_13 : decode cX9_sortOf 13 = .ok (.iaload, 1) := by decide +kernel
theorem dX9_sortOf_14 : decode cX9_sortOf 14 = .ok (.goto 4, 3) := by decide +kernel
theorem dX9_sortOf_17 : decode cX9_sortOf 17 = .ok (.iconst (-1), 1) := by decide +kernel
theorem dX9_sortOf_18 : decode cX9_sortOf 18 = .ok (.ireturn, 1) := by decide +kernel
theorem dX9_hasRange_0 : decode cX9_hasRange 0 = .ok (.aload_n 0, 1) := by decide +kernel
theorem dX9_hasRange_1 : decode cX9_hasRange 1 = .ok (.iload_n 1, 1) := by decide +kernel
theorem dX9_hasRange_2 : decode cX9_hasRange 2 = .ok (.invokevirtual 22, 3) := by decide +kernel
theorem dX9_hasRange_5 : decode cX9_hasRange 5 = .ok (.ifCond .eq 23, 3) := by decide +kernel
theorem dX9_hasRange_8 : decode cX9_hasRange 8 = .ok (.iload_n 2, 1) := by decide +kernel
theorem dX9_hasRange_9 : decode cX9_hasRange 9 = .ok (.i2l, 1) := by decide +kernel
theorem dX9_hasRange_10 : decode cX9_hasRange 10 = .ok (.iload_n 3, 1) := by decide +kernel
theorem dX9_hasRange_11 : decode cX9_hasRange 11 = .ok (.i2l, 1) := by decide +kernel
theorem dX9_hasRange_12 : decode cX9_hasRange 12 = .ok (.ladd, 1) := by decide +kernel
theorem dX9_hasRange_13 : decode cX9_hasRange 13 = .ok (.aload_n 0, 1) := by decide +kernel
theorem dX9_hasRange_14 : decode cX9_hasRange 14 = .ok (.getfield 19, 3) := by decide +kernel
theorem dX9_hasRange_17 : decode cX9_hasRange 17 = .ok (.iload_n 1, 1) := by decide +kernel
theorem dX9_hasRange_18 : decode cX9_hasRange 18 = .ok (.iaload, 1) := by decide +kernel
theorem dX9_hasRange_19 : decode cX9_hasRange 19 = .ok (.i2l, 1) := by decide +kernel
theorem dX9_hasRange_20 : decode cX9_hasRange 20 = .ok (.lcmp, 1) := by decide +kernel
theorem dX9_hasRange_21 : decode cX9_hasRange 21 = .ok (.ifCond .gt 7, 3) := by decide +kernel
theorem dX9_hasRange_24 : decode cX9_hasRange 24 = .ok (.iconst 1, 1) := by decide +kernel
theorem dX9_hasRange_25 : decode cX9_hasRange 25 = .ok (.goto 4, 3) := by decide +kernel
theorem dX9_hasRange_28 : decode cX9_hasRange 28 = .ok (.iconst 0, 1) := by decide +kernel
theorem dX9_hasRange_29 : decode cX9_hasRange 29 = .ok (.ireturn, 1) := by decide +kernel
theorem dX9_lay_0 : decode cX9_lay 0 = .ok (.aload_n 0, 1) := by decide +kernel
theorem dX9_lay_1 : decode cX9_lay 1 = .ok (.iload_n 1, 1) := by decide +kernel
theorem dX9_lay_2 : decode cX9_lay 2 = .ok (.invokevirtual 22, 3) := by decide +kernel
theorem dX9_lay_5 : decode cX9_lay 5 = .ok (.ifCond .eq 9, 3) := by decide +kernel
theorem dX9_lay_8 : decode cX9_lay 8 = .ok (.iload_n 3, 1) := by decide +kernel
theorem dX9_lay_9 : decode cX9_lay 9 = .ok (.bipush 60, 2) := by decide +kernel
theorem dX9_lay_11 : decode cX9_lay 11 = .ok (.if_icmp .le 4, 3) := by decide +kernel
theorem dX9_lay_14 : decode cX9_lay 14 = .ok (.return_, 1) := by decide +kernel
theorem dX9_lay_15 : decode cX9_lay 15 = .ok (.aload_n 0, 1) := by decide +kernel
theorem dX9_lay_16 : decode cX9_lay 16 = .ok (.getfield 15, 3) := by decide +kernel
theorem dX9_lay_19 : decode cX9_lay 19 = .ok (.iload_n 1, 1) := by decide +kernel
theorem dX9_lay_20 : decode cX9_lay 20 = .ok (.iload_n 2, 1) := by decide +kernel
theorem dX9_lay_21 : decode cX9_lay 21 = .ok (.iastore, 1) := by decide +kernel
theorem dX9_lay_22 : decode cX9_lay 22 = .ok (.aload_n 0, 1) := by decide +kernel
theorem dX9_lay_23 : decode cX9_lay 23 = .ok (.getfield 19, 3) := by decide +kernel
theorem dX9_lay_26 : decode cX9_lay 26 = .ok (.iload_n 1, 1) := by decide +kernel
theorem dX9_lay_27 : decode cX9_lay 27 = .ok (.iload_n 3, 1) := by decide +kernel
theorem dX9_lay_28 : decode cX9_lay 28 = .ok (.iastore, 1) := by decide +kernel
theorem dX9_lay_29 : decode cX9_lay 29 = .ok (.iconst 0, 1) := by decide +kernel
theorem dX9_lay_30 : decode cX9_lay 30 = .ok (.istore 4, 2) := by decide +kernel
theorem dX9_lay_32 : decode cX9_lay 32 = .ok (.iload 4, 2) := by decide +kernel
theorem dX9_lay_34 : decode cX9_lay 34 = .ok (.iload_n 3, 1) := by decide +kernel
theorem dX9_lay_35 : decode cX9_lay 35 = .ok (.if_icmp .ge 22, 3) := by decide +kernel
theorem dX9_lay_38 : decode cX9_lay 38 = .ok (.aload_n 0, 1) := by decide +kernel
theorem dX9_lay_39 : decode cX9_lay 39 = .ok (.getfield 11, 3) := by decide +kernel
theorem dX9_lay_42 : decode cX9_lay 42 = .ok (.iload_n 1, 1) := by decide +kernel
theorem dX9_lay_43 : decode cX9_lay 43 = .ok (.bipush 60, 2) := by decide +kernel
theorem dX9_lay_45 : decode cX9_lay 45 = .ok (.imul, 1) := by decide +kernel
theorem dX9_lay_46 : decode cX9_lay 46 = .ok (.iload 4, 2) := by decide +kernel
theorem dX9_lay_48 : decode cX9_lay 48 = .ok (.iadd, 1) := by decide +kernel
theorem dX9_lay_49 : decode cX9_lay 49 = .ok (.lconst 0, 1) := by decide +kernel
theorem dX9_lay_50 : decode cX9_lay 50 = .ok (.lastore, 1) := by decide +kernel
theorem dX9_lay_51 : decode cX9_lay 51 = .ok (.iinc 4 1, 3) := by decide +kernel
theorem dX9_lay_54 : decode cX9_lay 54 = .ok (.goto (-22), 3) := by decide +kernel
theorem dX9_lay_57 : decode cX9_lay 57 = .ok (.return_, 1) := by decide +kernel
theorem dX9_hasPlace_0 : decode cX9_hasPlace 0 = .ok (.aload_n 0, 1) := by decide +kernel
theorem dX9_hasPlace_1 : decode cX9_hasPlace 1 = .ok (.iload_n 1, 1) := by decide +kernel
theorem dX9_hasPlace_2 : decode cX9_hasPlace 2 = .ok (.invokevirtual 22, 3) := by decide +kernel
theorem dX9_hasPlace_5 : decode cX9_hasPlace 5 = .ok (.ifCond .eq 21, 3) := by decide +kernel
theorem dX9_hasPlace_8 : decode cX9_hasPlace 8 = .ok (.iload_n 2, 1) := by decide +kernel
theorem dX9_hasPlace_9 : decode cX9_hasPlace 9 = .ok (.ifCond .lt 17, 3) := by decide +kernel
theorem dX9_hasPlace_12 : decode cX9_hasPlace 12 = .ok (.iload_n 2, 1) := by decide +kernel
theorem dX9_hasPlace_13 : decode cX9_hasPlace 13 = .ok (.aload_n 0, 1) := by decide +kernel
theorem dX9_hasPlace_14 : decode cX9_hasPlace 14 = .ok (.getfield 19, 3) := by decide +kernel
theorem dX9_hasPlace_17 : decode cX9_hasPlace 17 = .ok (.iload_n 1, 1) := by decide +kernel
theorem dX9_hasPlace_18 : decode cX9_hasPlace 18 = .ok (.iaload, 1) := by decide +kernel
theorem dX9_hasPlace_19 : decode cX9_hasPlace 19 = .ok (.if_icmp .ge 7, 3) := by decide +kernel
theorem dX9_hasPlace_22 : decode cX9_hasPlace 22 = .ok (.iconst 1, 1) := by decide +kernel
theorem dX9_hasPlace_23 : decode cX9_hasPlace 23 = .ok (.goto 4, 3) := by decide +kernel
theorem dX9_hasPlace_26 : decode cX9_hasPlace 26 = .ok (.iconst 0, 1) := by decide +kernel
theorem dX9_hasPlace_27 : decode cX9_hasPlace 27 = .ok (.ireturn, 1) := by decide +kernel
theorem dX9_get_0 : decode cX9_get 0 = .ok (.aload_n 0, 1) := by decide +kernel
theorem dX9_get_1 : decode cX9_get 1 = .ok (.iload_n 1, 1) := by decide +kernel
theorem dX9_get_2 : decode cX9_get 2 = .ok (.iload_n 2, 1) := by decide +kernel
theorem dX9_get_3 : decode cX9_get 3 = .ok (.invokevirtual 26, 3) := by decide +kernel
theorem dX9_get_6 : decode cX9_get 6 = .ok (.ifCond .eq 17, 3) := by decide +kernel
theorem dX9_get_9 : decode cX9_get 9 = .ok (.aload_n 0, 1) := by decide +kernel
theorem dX9_get_10 : decode cX9_get 10 = .ok (.getfield 11, 3) := by decide +kernel
theorem dX9_get_13 : decode cX9_get 13 = .ok (.iload_n 1, 1) := by decide +kernel
theorem dX9_get_14 : decode cX9_get 14 = .ok (.bipush 60, 2) := by decide +kernel
theorem dX9_get_16 : decode cX9_get 16 = .ok (.imul, 1) := by decide +kernel
theorem dX9_get_17 : decode cX9_get 17 = .ok (.iload_n 2, 1) := by decide +kernel
theorem dX9_get_18 : decode cX9_get 18 = .ok (.iadd, 1) := by decide +kernel
theorem dX9_get_19 : decode cX9_get 19 = .ok (.laload, 1) := by decide +kernel
theorem dX9_get_20 : decode cX9_get 20 = .ok (.goto 6, 3) := by decide +kernel
theorem dX9_get_23 : decode cX9_get 23 = .ok (.ldc2_w 30, 3) := by decide +kernel
theorem dX9_get_26 : decode cX9_get 26 = .ok (.lreturn, 1) := by decide +kernel
theorem dX9_set_0 : decode cX9_set 0 = .ok (.aload_n 0, 1) := by decide +kernel
theorem dX9_set_1 : decode cX9_set 1 = .ok (.iload_n 1, 1) := by decide +kernel
theorem dX9_set_2 : decode cX9_set 2 = .ok (.iload_n 2, 1) := by decide +kernel
theorem dX9_set_3 : decode cX9_set 3 = .ok (.invokevirtual 26, 3) := by decide +kernel
theorem dX9_set_6 : decode cX9_set 6 = .ok (.ifCond .eq 24, 3) := by decide +kernel
theorem dX9_set_9 : decode cX9_set 9 = .ok (.aload_n 0, 1) := by decide +kernel
theorem dX9_set_10 : decode cX9_set 10 = .ok (.getfield 11, 3) := by decide +kernel
theorem dX9_set_13 : decode cX9_set 13 = .ok (.iload_n 1, 1) := by decide +kernel
theorem dX9_set_14 : decode cX9_set 14 = .ok (.bipush 60, 2) := by decide +kernel
theorem dX9_set_16 : decode cX9_set 16 = .ok (.imul, 1) := by decide +kernel
theorem dX9_set_17 : decode cX9_set 17 = .ok (.iload_n 2, 1) := by decide +kernel
theorem dX9_set_18 : decode cX9_set 18 = .ok (.iadd, 1) := by decide +kernel
theorem dX9_set_19 : decode cX9_set 19 = .ok (.lload_n 3, 1) := by decide +kernel
theorem dX9_set_20 : decode cX9_set 20 = .ok (.aload_n 0, 1) := by decide +kernel
theorem dX9_set_21 : decode cX9_set 21 = .ok (.getfield 15, 3) := by decide +kernel
theorem dX9_set_24 : decode cX9_set 24 = .ok (.iload_n 1, 1) := by decide +kernel
theorem dX9_set_25 : decode cX9_set 25 = .ok (.iaload, 1) := by decide +kernel
theorem dX9_set_26 : decode cX9_set 26 = .ok (.invokestatic 32, 3) := by decide +kernel
theorem dX9_set_29 : decode cX9_set 29 = .ok (.lastore, 1) := by decide +kernel
theorem dX9_set_30 : decode cX9_set 30 = .ok (.return_, 1) := by decide +kernel
theorem dX9_holds_0 : decode cX9_holds 0 = .ok (.aload_n 0, 1) := by decide +kernel
theorem dX9_holds_1 : decode cX9_holds 1 = .ok (.iload_n 1, 1) := by decide +kernel
theorem dX9_holds_2 : decode cX9_holds 2 = .ok (.iload_n 2, 1) := by decide +kernel
theorem dX9_holds_3 : decode cX9_holds 3 = .ok (.invokevirtual 36, 3) := by decide +kernel
theorem dX9_holds_6 : decode cX9_holds 6 = .ok (.lstore 5, 2) := by decide +kernel
theorem dX9_holds_8 : decode cX9_holds 8 = .ok (.lload 5, 2) := by decide +kernel
theorem dX9_holds_10 : decode cX9_holds 10 = .ok (.iload_n 3, 1) := by decide +kernel
theorem dX9_holds_11 : decode cX9_holds 11 = .ok (.i2l, 1) := by decide +kernel
theorem dX9_holds_12 : decode cX9_holds 12 = .ok (.lcmp, 1) := by decide +kernel
theorem dX9_holds_13 : decode cX9_holds 13 = .ok (.ifCond .lt 16, 3) := by decide +kernel
theorem dX9_holds_16 : decode cX9_holds 16 = .ok (.lload 5, 2) := by decide +kernel
theorem dX9_holds_18 : decode cX9_holds 18 = .ok (.iload 4, 2) := by decide +kernel
theorem dX9_holds_20 : decode cX9_holds 20 = .ok (.i2l, 1) := by decide +kernel
theorem dX9_holds_21 : decode cX9_holds 21 = .ok (.lcmp, 1) := by decide +kernel
theorem dX9_holds_22 : decode cX9_holds 22 = .ok (.ifCond .gt 7, 3) := by decide +kernel
theorem dX9_holds_25 : decode cX9_holds 25 = .ok (.iconst 1, 1) := by decide +kernel
theorem dX9_holds_26 : decode cX9_holds 26 = .ok (.goto 4, 3) := by decide +kernel
theorem dX9_holds_29 : decode cX9_holds 29 = .ok (.iconst 0, 1) := by decide +kernel
theorem dX9_holds_30 : decode cX9_holds 30 = .ok (.ireturn, 1) := by decide +kernel
theorem dX9_trimmed_0 : decode cX9_trimmed 0 = .ok (.iload_n 2, 1) := by decide +kernel
theorem dX9_trimmed_1 : decode cX9_trimmed 1 = .ok (.tableswitch 41 0 2 #[27, 32, 37], 27) := by decide +kernel
theorem dX9_trimmed_28 : decode cX9_trimmed 28 = .ok (.lload_n 0, 1) := by decide +kernel
theorem dX9_trimmed_29 : decode cX9_trimmed 29 = .ok (.l2i, 1) := by decide +kernel
theorem dX9_trimmed_30 : decode cX9_trimmed 30 = .ok (.i2b, 1) := by decide +kernel
theorem dX9_trimmed_31 : decode cX9_trimmed 31 = .ok (.i2l, 1) := by decide +kernel
theorem dX9_trimmed_32 : decode cX9_trimmed 32 = .ok (.lreturn, 1) := by decide +kernel
theorem dX9_trimmed_33 : decode cX9_trimmed 33 = .ok (.lload_n 0, 1) := by decide +kernel
theorem dX9_trimmed_34 : decode cX9_trimmed 34 = .ok (.l2i, 1) := by decide +kernel
theorem dX9_trimmed_35 : decode cX9_trimmed 35 = .ok (.i2s, 1) := by decide +kernel
theorem dX9_trimmed_36 : decode cX9_trimmed 36 = .ok (.i2l, 1) := by decide +kernel
theorem dX9_trimmed_37 : decode cX9_trimmed 37 = .ok (.lreturn, 1) := by decide +kernel
theorem dX9_trimmed_38 : decode cX9_trimmed 38 = .ok (.lload_n 0, 1) := by decide +kernel
theorem dX9_trimmed_39 : decode cX9_trimmed 39 = .ok (.l2i, 1) := by decide +kernel
theorem dX9_trimmed_40 : decode cX9_trimmed 40 = .ok (.i2l, 1) := by decide +kernel
theorem dX9_trimmed_41 : decode cX9_trimmed 41 = .ok (.lreturn, 1) := by decide +kernel
theorem dX9_trimmed_42 : decode cX9_trimmed 42 = .ok (.lload_n 0, 1) := by decide +kernel
theorem dX9_trimmed_43 : decode cX9_trimmed 43 = .ok (.lreturn, 1) := by decide +kernel
theorem dX9_move_0 : decode cX9_move 0 = .ok (.iload_n 2, 1) := by decide +kernel
theorem dX9_move_1 : decode cX9_move 1 = .ok (.ifCond .lt 36, 3) := by decide +kernel
theorem dX9_move_4 : decode cX9_move 4 = .ok (.iload 4, 2) := by decide +kernel
theorem dX9_move_6 : decode cX9_move 6 = .ok (.ifCond .lt 31, 3) := by decide +kernel
theorem dX9_move_9 : decode cX9_move 9 = .ok (.iload 5, 2) := by decide +kernel
theorem dX9_move_11 : decode cX9_move 11 = .ok (.ifCond .lt 26, 3) := by decide +kernel
theorem dX9_move_14 : decode cX9_move 14 = .ok (.aload_n 0, 1) := by decide +kernel
theorem dX9_move_15 : decode cX9_move 15 = .ok (.iload_n 1, 1) := by decide +kernel
theorem dX9_move_16 : decode cX9_move 16 = .ok (.iload_n 2, 1) := by decide +kernel
theorem dX9_move_17 : decode cX9_move 17 = .ok (.iload 5, 2) := by decide +kernel
theorem dX9_move_19 : decode cX9_move 19 = .ok (.invokevirtual 40, 3) := by decide +kernel
theorem dX9_move_22 : decode cX9_move 22 = .ok (.ifCond .eq 15, 3) := by decide +kernel
theorem dX9_move_25 : decode cX9_move 25 = .ok (.aload_n 0, 1) := by decide +kernel
theorem dX9_move_26 : decode cX9_move 26 = .ok (.iload_n 3, 1) := by decide +kernel
theorem dX9_move_27 : decode cX9_move 27 = .ok (.iload 4, 2) := by decide +kernel
theorem dX9_move_29 : decode cX9_move 29 = .ok (.iload 5, 2) := by decide +kernel
theorem dX9_move_31 : decode cX9_move 31 = .ok (.invokevirtual 40, 3) := by decide +kernel
theorem dX9_move_34 : decode cX9_move 34 = .ok (.ifCond .ne 4, 3) := by decide +kernel
theorem dX9_move_37 : decode cX9_move 37 = .ok (.return_, 1) := by decide +kernel
theorem dX9_move_38 : decode cX9_move 38 = .ok (.aload_n 0, 1) := by decide +kernel
theorem dX9_move_39 : decode cX9_move 39 = .ok (.getfield 11, 3) := by decide +kernel
theorem dX9_move_42 : decode cX9_move 42 = .ok (.iload_n 1, 1) := by decide +kernel
theorem dX9_move_43 : decode cX9_move 43 = .ok (.bipush 60, 2) := by decide +kernel
theorem dX9_move_45 : decode cX9_move 45 = .ok (.imul, 1) := by decide +kernel
theorem dX9_move_46 : decode cX9_move 46 = .ok (.iload_n 2, 1) := by decide +kernel
theorem dX9_move_47 : decode cX9_move 47 = .ok (.iadd, 1) := by decide +kernel
theorem dX9_move_48 : decode cX9_move 48 = .ok (.aload_n 0, 1) := by decide +kernel
theorem dX9_move_49 : decode cX9_move 49 = .ok (.getfield 11, 3) := by decide +kernel
theorem dX9_move_52 : decode cX9_move 52 = .ok (.iload_n 3, 1) := by decide +kernel
theorem dX9_move_53 : decode cX9_move 53 = .ok (.bipush 60, 2) := by decide +kernel
theorem dX9_move_55 : decode cX9_move 55 = .ok (.imul, 1) := by decide +kernel
theorem dX9_move_56 : decode cX9_move 56 = .ok (.iload 4, 2) := by decide +kernel
theorem dX9_move_58 : decode cX9_move 58 = .ok (.iadd, 1) := by decide +kernel
theorem dX9_move_59 : decode cX9_move 59 = .ok (.iload 5, 2) := by decide +kernel
theorem dX9_move_61 : decode cX9_move 61 = .ok (.invokestatic 44, 3) := by decide +kernel
theorem dX9_move_64 : decode cX9_move 64 = .ok (.return_, 1) := by decide +kernel
theorem dX10_init_0 : decode cX10_init 0 = .ok (.aload_n 0, 1) := by decide +kernel
theorem dX10_init_1 : decode cX10_init 1 = .ok (.invokespecial 1, 3) := by decide +kernel
theorem dX10_init_4 : decode cX10_init 4 = .ok (.aload_n 0, 1) := by decide +kernel
theorem dX10_init_5 : decode cX10_init 5 = .ok (.new 7, 3) := by decide +kernel
theorem dX10_init_8 : decode cX10_init 8 = .ok (.dup, 1) := by decide +kernel
theorem dX10_init_9 : decode cX10_init 9 = .ok (.bipush 30, 2) := by decide +kernel
theorem dX10_init_11 : decode cX10_init 11 = .ok (.bipush 6, 2) := by decide +kernel
theorem dX10_init_13 : decode cX10_init 13 = .ok (.invokespecial 11, 3) := by decide +kernel
theorem dX10_init_16 : decode cX10_init 16 = .ok (.putfield 14, 3) := by decide +kernel
theorem dX10_init_19 : decode cX10_init 19 = .ok (.aload_n 0, 1) := by decide +kernel
theorem dX10_init_20 : decode cX10_init 20 = .ok (.iconst 3, 1) := by decide +kernel
theorem dX10_init_21 : decode cX10_init 21 = .ok (.newarray .int, 2) := by decide +kernel
theorem dX10_init_23 : decode cX10_init 23 = .ok (.putfield 18, 3) := by decide +kernel
theorem dX10_init_26 : decode cX10_init 26 = .ok (.aload_n 0, 1) := by decide +kernel
theorem dX10_init_27 : decode cX10_init 27 = .ok (.aload_n 1, 1) := by decide +kernel
theorem dX10_init_28 : decode cX10_init 28 = .ok (.putfield 22, 3) := by decide +kernel
theorem dX10_init_31 : decode cX10_init 31 = .ok (.return_, 1) := by decide +kernel
theorem dX10_parse_0 : decode cX10_parse 0 = .ok (.aload_n 0, 1) := by decide +kernel
theorem dX10_parse_1 : decode cX10_parse 1 = .ok (.getfield 14, 3) := by decide +kernel
theorem dX10_parse_4 : decode cX10_parse 4 = .ok (.iconst 0, 1) := by decide +kernel
theorem dX10_parse_5 : decode cX10_parse 5 = .ok (.putfield 26, 3) := by decide +kernel
theorem dX10_parse_8 : decode cX10_parse 8 = .ok (.aload_n 0, 1) := by decide +kernel
theorem dX10_parse_9 : decode cX10_parse 9 = .ok (.iconst 0, 1) := by decide +kernel
theorem dX10_parse_10 : decode cX10_parse 10 = .ok (.putfield 30, 3) := by decide +kernel
theorem dX10_parse_13 : decode cX10_parse 13 = .ok (.aload_n 0, 1) := by decide +kernel
theorem dX10_parse_14 : decode cX10_parse 14 = .ok (.getfield 22, 3) := by decide +kernel
theorem dX10_parse_17 : decode cX10_parse 17 = .ok (.iload_n 1, 1) := by decide +kernel
theorem dX10_parse_18 : decode cX10_parse 18 = .ok (.invokevirtual 33, 3) := by decide +kernel
theorem dX10_parse_21 : decode cX10_parse 21 = .ok (.iconst 0, 1) := by decide +kernel
theorem dX10_parse_22 : decode cX10_parse 22 = .ok (.istore_n 3, 1) := by decide +kernel
theorem dX10_parse_23 : decode cX10_parse 23 = .ok (.iload_n 3, 1) := by decide +kernel
theorem dX10_parse_24 : decode cX10_parse 24 = .ok (.iload_n 1, 1) := by decide +kernel
theorem dX10_parse_25 : decode cX10_parse 25 = .ok (.if_icmp .ge 24, 3) := by decide +kernel
theorem dX10_parse_28 : decode cX10_parse 28 = .ok (.aload_n 0, 1) := by decide +kernel
theorem dX10_parse_29 : decode cX10_parse 29 = .ok (.getfield 22, 3) := by decide +kernel
theorem dX10_parse_32 : decode cX10_parse 32 = .ok (.invokevirtual 39, 3) := by decide +kernel
theorem dX10_parse_35 : decode cX10_parse 35 = .ok (.ifCond .eq 14, 3) := by decide +kernel
theorem dX10_parse_38 : decode cX10_parse 38 = .ok (.aload_n 0, 1) := by decide +kernel
theorem dX10_parse_39 : decode cX10_parse 39 = .ok (.aload_n 2, 1) := by decide +kernel
theorem dX10_parse_40 : decode cX10_parse 40 = .ok (.invokevirtual 43, 3) := by decide +kernel
theorem dX10_parse_43 : decode cX10_parse 43 = .ok (.iinc 3 1, 3) := by decide +kernel
theorem dX10_parse_46 : decode cX10_parse 46 = .ok (.goto (-23), 3) := by decide +kernel
theorem dX10_parse_49 : decode cX10_parse 49 = .ok (.aload_n 0, 1) := by decide +kernel
theorem dX10_parse_50 : decode cX10_parse 50 = .ok (.getfield 30, 3) := by decide +kernel
theorem dX10_parse_53 : decode cX10_parse 53 = .ok (.ifCond .le 11, 3) := by decide +kernel
theorem dX10_parse_56 : decode cX10_parse 56 = .ok (.aload_n 0, 1) := by decide +kernel
theorem dX10_parse_57 : decode cX10_parse 57 = .ok (.getfield 22, 3) := by decide +kernel
theorem dX10_parse_60 : decode cX10_parse 60 = .ok (.iconst 2, 1) := by decide +kernel
theorem dX10_parse_61 : decode cX10_parse 61 = .ok (.invokevirtual 47, 3) := by decide +kernel
theorem dX10_parse_64 : decode cX10_parse 64 = .ok (.aload_n 0, 1) := by decide +kernel
theorem dX10_parse_65 : decode cX10_parse 65 = .ok (.getfield 22, 3) := by decide +kernel
theorem dX10_parse_68 : decode cX10_parse 68 = .ok (.getfield 50, 3) := by decide +kernel
theorem dX10_parse_71 : decode cX10_parse 71 = .ok (.ifCond .ne 7, 3) := by decide +kernel
theorem dX10_parse_74 : decode cX10_parse 74 = .ok (.iconst 1, 1) := by decide +kernel
theorem dX10_parse_75 : decode cX10_parse 75 = .ok (.goto 4, 3) := by decide +kernel
theorem dX10_parse_78 : decode cX10_parse 78 = .ok (.iconst 0, 1) := by decide +kernel
theorem dX10_parse_79 : decode cX10_parse 79 = .ok (.ireturn, 1) := by decide +kernel
theorem dX10_isStep_0 : decode cX10_isStep 0 = .ok (.iload_n 0, 1) := by decide +kernel
theorem dX10_isStep_1 : decode cX10_isStep 1 = .ok (.tableswitch 81 10 25 #[79, 81, 81, 81, 81, 79, 79, 79, 79, 81, 81, 81, 81, 79, 81, 79], 79) := by decide +kernel
theorem dX10_isStep_80 : decode cX10_isStep 80 = .ok (.iconst 1, 1) := by decide +kernel
theorem dX10_isStep_81 : decode cX10_isStep 81 = .ok (.ireturn, 1) := by decide +kernel
theorem dX10_isStep_82 : decode cX10_isStep 82 = .ok (.iconst 0, 1) := by decide +kernel
theorem dX10_isStep_83 : decode cX10_isStep 83 = .ok (.ireturn, 1) := by decide +kernel
theorem dX10_takeStep_0 : decode cX10_takeStep 0 = .ok (.aload_n 0, 1) := by decide +kernel
theorem dX10_takeStep_1 : decode cX10_takeStep 1 = .ok (.getfield 22, 3) := by decide +kernel
theorem dX10_takeStep_4 : decode cX10_takeStep 4 = .ok (.getfield 53, 3) := by decide +kernel
theorem dX10_takeStep_7 : decode cX10_takeStep 7 = .ok (.iconst 1, 1) := by decide +kernel
theorem dX10_takeStep_8 : decode cX10_takeStep 8 = .ok (.if_icmp .ne 13, 3) := by decide +kernel
theorem dX10_takeStep_11 : decode cX10_takeStep 11 = .ok (.aload_n 0, 1) := by decide +kernel
theorem dX10_takeStep_12 : decode cX10_takeStep 12 = .ok (.getfield 22, 3) := by decide +kernel
theorem dX10_takeStep_15 : decode cX10_takeStep 15 = .ok (.getfield 56, 3) := by decide +kernel
theorem dX10_takeStep_18 : decode cX10_takeStep 18 = .ok (.goto 4, 3) := by decide +kernel
theorem dX10_takeStep_21 : decode cX10_takeStep 21 = .ok (.iconst 0, 1) := by decide +kernel
theorem dX10_takeStep_22 : decode cX10_takeStep 22 = .ok (.istore_n 2, 1) := by decide +kernel
theorem dX10_takeStep_23 : decode cX10_takeStep 23 = .ok (.iload_n 2, 1) := by decide +kernel
theorem dX10_takeStep_24 : decode cX10_takeStep 24 = .ok (.bipush 24, 2) := by decide +kernel
theorem dX10_takeStep_26 : decode cX10_takeStep 26 = .ok (.if_icmp .ne 8, 3) := by decide +kernel
theorem dX10_takeStep_29 : decode cX10_takeStep 29 = .ok (.aload_n 0, 1) := by decide +kernel
theorem dX10_takeStep_30 : decode cX10_takeStep 30 = .ok (.invokevirtual 59, 3) := by decide +kernel
theorem dX10_takeStep_33 : decode cX10_takeStep 33 = .ok (.return_, 1) := by decide +kernel
theorem dX10_takeStep_34 : decode cX10_takeStep 34 = .ok (.iload_n 2, 1) := by decide +kernel
theorem dX10_takeStep_35 : decode cX10_takeStep 35 = .ok (.bipush 18, 2) := by decide +kernel
theorem dX10_takeStep_37 : decode cX10_takeStep 37 = .ok (.if_icmp .eq 9, 3) := by decide +kernel
theorem dX10_takeStep_40 : decode cX10_takeStep 40 = .ok (.iload_n 2, 1) := by decide +kernel
theorem dX10_takeStep_41 : decode cX10_takeStep 41 = .ok (.bipush 23, 2) := by decide +kernel
theorem dX10_takeStep_43 : decode cX10_takeStep 43 = .ok (.if_icmp .ne 7, 3) := by decide +kernel
theorem dX10_takeStep_46 : decode cX10_takeStep 46 = .ok (.iconst 1, 1) := by decide +kernel
theorem dX10_takeStep_47 : decode cX10_takeStep 47 = .ok (.goto 4, 3) := by decide +kernel
theorem dX10_takeStep_50 : decode cX10_takeStep 50 = .ok (.iconst 0, 1) := by decide +kernel
theorem dX10_takeStep_51 : decode cX10_takeStep 51 = .ok (.istore_n 3, 1) := by decide +kernel
theorem dX10_takeStep_52 : decode cX10_takeStep 52 = .ok (.iload_n 2, 1) := by decide +kernel
theorem dX10_takeStep_53 : decode cX10_takeStep 53 = .ok (.invokestatic 62, 3) := by decide +kernel
theorem dX10_takeStep_56 : decode cX10_takeStep 56 = .ok (.ifCond .ne 13, 3) := by decide +kernel
theorem dX10_takeStep_59 : decode cX10_takeStep 59 = .ok (.aload_n 0, 1) := by decide +kernel
theorem dX10_takeStep_60 : decode cX10_takeStep 60 = .ok (.getfield 22, 3) := by decide +kernel
theorem dX10_takeStep_63 : decode cX10_takeStep 63 = .ok (.invokevirtual 66, 3) := by decide +kernel
theorem dX10_takeStep_66 : decode cX10_takeStep 66 = .ok (.goto 46, 3) := by decide +kernel
theorem dX10_takeStep_69 : decode cX10_takeStep 69 = .ok (.aload_n 0, 1) := by decide +kernel
theorem dX10_takeStep_70 : decode cX10_takeStep 70 = .ok (.getfield 14, 3) := by decide +kernel
theorem dX10_takeStep_73 : decode cX10_takeStep 73 = .ok (.invokevirtual 69, 3) := by decide +kernel
theorem dX10_takeStep_76 : decode cX10_takeStep 76 = .ok (.ifCond .eq 15, 3) := by decide +kernel
theorem dX10_takeStep_79 : decode cX10_takeStep 79 = .ok (.aload_n 0, 1) := by decide +kernel
theorem dX10_takeStep_80 : decode cX10_takeStep 80 = .ok (.getfield 22, 3) := by decide +kernel
theorem dX10_takeStep_83 : decode cX10_takeStep 83 = .ok (.bipush 6, 2) := by decide +kernel
theorem dX10_takeStep_85 : decode cX10_takeStep 85 = .ok (.invokevirtual 47, 3) := by decide +kernel
theorem dX10_takeStep_88 : decode cX10_takeStep 88 = .ok (.goto 24, 3) := by decide +kernel
theorem dX10_takeStep_91 : decode cX10_takeStep 91 = .ok (.iload_n 3, 1) := by decide +kernel
theorem dX10_takeStep_92 : decode cX10_takeStep 92 = .ok (.ifCond .eq 20, 3) := by decide +kernel
theorem dX10_takeStep_95 : decode cX10_takeStep 95 = .ok (.aload_n 0, 1) := by decide +kernel
theorem dX10_takeStep_96 : decode cX10_takeStep 96 = .ok (.getfield 30, 3) := by decide +kernel
theorem dX10_takeStep_99 : decode cX10_takeStep 99 = .ok (.iconst 3, 1) := by decide +kernel
theorem dX10_takeStep_100 : decode cX10_takeStep 100 = .ok (.if_icmp .lt 12, 3) := by decide +kernel
theorem dX10_takeStep_103 : decode cX10_takeStep 103 = .ok (.aload_n 0, 1) := by decide +kernel
theorem dX10_takeStep_104 : decode cX10_takeStep 104 = .ok (.getfield 22, 3) := by decide +kernel
theorem dX10_takeStep_107 : decode cX10_takeStep 107 = .ok (.bipush 7, 2) := by decide +kernel
theorem dX10_takeStep_109 : decode cX10_takeStep 109 = .ok (.invokevirtual 47, 3) := by decide +kernel
theorem dX10_takeStep_112 : decode cX10_takeStep 112 = .ok (.aload_n 0, 1) := by decide +kernel
theorem dX10_takeStep_113 : decode cX10_takeStep 113 = .ok (.getfield 22, 3) := by decide +kernel
theorem dX10_takeStep_116 : decode cX10_takeStep 116 = .ok (.getfield 50, 3) := by decide +kernel
theorem dX10_takeStep_119 : decode cX10_takeStep 119 = .ok (.ifCond .eq 4, 3) := by decide +kernel
theorem dX10_takeStep_122 : decode cX10_takeStep 122 = .ok (.return_, 1) := by decide +kernel
theorem dX10_takeStep_123 : decode cX10_takeStep 123 = .ok (.aload_n 0, 1) := by decide +kernel
theorem dX10_takeStep_124 : decode cX10_takeStep 124 = .ok (.getfield 14, 3) := by decide +kernel
theorem dX10_takeStep_127 : decode cX10_takeStep 127 = .ok (.invokevirtual 72, 3) := by decide +kernel
theorem dX10_takeStep_130 : decode cX10_takeStep 130 = .ok (.istore 4, 2) := by decide +kernel
theorem dX10_takeStep_132 : decode cX10_takeStep 132 = .ok (.aload_n 0, 1) := by decide +kernel
theorem dX10_takeStep_133 : decode cX10_takeStep 133 = .ok (.getfield 14, 3) := by decide +kernel
theorem dX10_takeStep_136 : decode cX10_takeStep 136 = .ok (.iload 4, 2) := by decide +kernel
theorem dX10_takeStep_138 : decode cX10_takeStep 138 = .ok (.iconst 0, 1) := by decide +kernel
theorem dX10_takeStep_139 : decode cX10_takeStep 139 = .ok (.iload_n 2, 1) := by decide +kernel
theorem dX10_takeStep_140 : decode cX10_takeStep 140 = .ok (.invokevirtual 76, 3) := by decide +kernel
theorem dX10_takeStep_143 : decode cX10_takeStep 143 = .ok (.aload_n 0, 1) := by decide +kernel
theorem dX10_takeStep_144 : decode cX10_takeStep 144 = .ok (.getfield 22, 3) := by decide +kernel
theorem dX10_takeStep_147 : decode cX10_takeStep 147 = .ok (.invokevirtual 80, 3) := by decide +kernel
theorem dX10_takeStep_150 : decode cX10_takeStep 150 = .ok (.iload_n 2, 1) := by decide +kernel
theorem dX10_takeStep_151 : decode cX10_takeStep 151 = .ok (.bipush 18, 2) := by decide +kernel
theorem dX10_takeStep_153 : decode cX10_takeStep 153 = .ok (.if_icmp .ne 13, 3) := by decide +kernel
theorem dX10_takeStep_156 : decode cX10_takeStep 156 = .ok (.aload_n 0, 1) := by decide +kernel
theorem dX10_takeStep_157 : decode cX10_takeStep 157 = .ok (.iload 4, 2) := by decide +kernel
theorem dX10_takeStep_159 : decode cX10_takeStep 159 = .ok (.aload_n 1, 1) := by decide +kernel
theorem dX10_takeStep_160 : decode cX10_takeStep 160 = .ok (.invokevirtual 83, 3) := by decide +kernel
theorem dX10_takeStep_163 : decode cX10_takeStep 163 = .ok (.goto 11, 3) := by decide +kernel
theorem dX10_takeStep_166 : decode cX10_takeStep 166 = .ok (.aload_n 0, 1) := by decide +kernel
theorem dX10_takeStep_167 : decode cX10_takeStep 167 = .ok (.iload 4, 2) := by decide +kernel
theorem dX10_takeStep_169 : decode cX10_takeStep 169 = .ok (.iload_n 2, 1) := by decide +kernel
theorem dX10_takeStep_170 : decode cX10_takeStep 170 = .ok (.aload_n 1, 1) := by decide +kernel
theorem dX10_takeStep_171 : decode cX10_takeStep 171 = .ok (.invokevirtual 87, 3) := by decide +kernel
theorem dX10_takeStep_174 : decode cX10_takeStep 174 = .ok (.aload_n 0, 1) := by decide +kernel
theorem dX10_takeStep_175 : decode cX10_takeStep 175 = .ok (.getfield 22, 3) := by decide +kernel
theorem dX10_takeStep_178 : decode cX10_takeStep 178 = .ok (.invokevirtual 91, 3) := by decide +kernel
theorem dX10_takeStep_181 : decode cX10_takeStep 181 = .ok (.iload_n 3, 1) := by decide +kernel
theorem dX10_takeStep_182 : decode cX10_takeStep 182 = .ok (.ifCond .eq 32, 3) := by decide +kernel
theorem dX10_takeStep_185 : decode cX10_takeStep 185 = .ok (.aload_n 0, 1) := by decide +kernel
theorem dX10_takeStep_186 : decode cX10_takeStep 186 = .ok (.getfield 30, 3) := by decide +kernel
theorem dX10_takeStep_189 : decode cX10_takeStep 189 = .ok (.iconst 3, 1) := by decide +kernel
theorem dX10_takeStep_190 : decode cX10_takeStep 190 = .ok (.if_icmp .ge 24, 3) := by decide +kernel
theorem dX10_takeStep_193 : decode cX10_takeStep 193 = .ok (.aload_n 0, 1) := by decide +kernel
theorem dX10_takeStep_194 : decode cX10_takeStep 194 = .ok (.getfield 18, 3) := by decide +kernel
theorem dX10_takeStep_197 : decode cX10_takeStep 197 = .ok (.aload_n 0, 1) := by decide +kernel
theorem dX10_takeStep_198 : decode cX10_takeStep 198 = .ok (.getfield 30, 3) := by decide +kernel
theorem dX10_takeStep_201 : decode cX10_takeStep 201 = .ok (.iload 4, 2) := by decide +kernel
theorem dX10_takeStep_203 : decode cX10_takeStep 203 = .ok (.iastore, 1) := by decide +kernel
theorem dX10_takeStep_204 : decode cX10_takeStep 204 = .ok (.aload_n 0, 1) := by decide +kernel
theorem dX10_takeStep_205 : decode cX10_takeStep 205 = .ok (.dup, 1) := by decide +kernel
theorem dX10_takeStep_206 : decode cX10_takeStep 206 = .ok (.getfield 30, 3) := by decide +kernel
theorem dX10_takeStep_209 : decode cX10_takeStep 209 = .ok (.iconst 1, 1) := by decide +kernel
theorem dX10_takeStep_210 : decode cX10_takeStep 210 = .ok (.iadd, 1) := by decide +kernel
theorem dX10_takeStep_211 : decode cX10_takeStep 211 = .ok (.putfield 30, 3) := by decide +kernel
theorem dX10_takeStep_214 : decode cX10_takeStep 214 = .ok (.return_, 1) := by decide +kernel
theorem dX10_takeClose_0 : decode cX10_takeClose 0 = .ok (.aload_n 0, 1) := by decide +kernel
theorem dX10_takeClose_1 : decode cX10_takeClose 1 = .ok (.getfield 30, 3) := by decide +kernel
theorem dX10_takeClose_4 : decode cX10_takeClose 4 = .ok (.iconst 1, 1) := by decide +kernel
theorem dX10_takeClose_5 : decode cX10_takeClose 5 = .ok (.if_icmp .lt 11, 3) := by decide +kernel
theorem dX10_takeClose_8 : decode cX10_takeClose 8 = .ok (.aload_n 0, 1) := by decide +kernel
theorem dX10_takeClose_9 : decode cX10_takeClose 9 = .ok (.getfield 30, 3) := by decide +kernel
theorem dX10_takeClose_12 : decode cX10_takeClose 12 = .ok (.iconst 3, 1) := by decide +kernel
theorem dX10_takeClose_13 : decode cX10_takeClose 13 = .ok (.if_icmp .le 11, 3) := by decide +kernel
theorem dX10_takeClose_16 : decode cX10_takeClose 16 = .ok (.aload_n 0, 1) := by decide +kernel
theorem dX10_takeClose_17 : decode cX10_takeClose 17 = .ok (.getfield 22, 3) := by decide +kernel
theorem dX10_takeClose_20 : decode cX10_takeClose 20 = .ok (.invokevirtual 66, 3) := by decide +kernel
theorem dX10_takeClose_23 : decode cX10_takeClose 23 = .ok (.return_, 1) := by decide +kernel
theorem dX10_takeClose_24 : decode cX10_takeClose 24 = .ok (.aload_n 0, 1) := by decide +kernel
theorem dX10_takeClose_25 : decode cX10_takeClose 25 = .ok (.dup, 1) := by decide +kernel
theorem dX10_takeClose_26 : decode cX10_takeClose 26 = .ok (.getfield 30, 3) := by decide +kernel
theorem dX10_takeClose_29 : decode cX10_takeClose 29 = .ok (.iconst 1, 1) := by decide +kernel
theorem dX10_takeClose_30 : decode cX10_takeClose 30 = .ok (.isub, 1) := by decide +kernel
theorem dX10_takeClose_31 : decode cX10_takeClose 31 = .ok (.putfield 30, 3) := by decide +kernel
theorem dX10_takeClose_34 : decode cX10_takeClose 34 = .ok (.aload_n 0, 1) := by decide +kernel
theorem dX10_takeClose_35 : decode cX10_takeClose 35 = .ok (.getfield 14, 3) := by decide +kernel
theorem dX10_takeClose_38 : decode cX10_takeClose 38 = .ok (.aload_n 0, 1) := by decide +kernel
theorem dX10_takeClose_39 : decode cX10_takeClose 39 = .ok (.getfield 18, 3) := by decide +kernel
theorem dX10_takeClose_42 : decode cX10_takeClose 42 = .ok (.aload_n 0, 1) := by decide +kernel
theorem dX10_takeClose_43 : decode cX10_takeClose 43 = .ok (.getfield 30, 3) := by decide +kernel
theorem dX10_takeClose_46 : decode cX10_takeClose 46 = .ok (.iaload, 1) := by decide +kernel
theorem dX10_takeClose_47 : decode cX10_takeClose 47 = .ok (.iconst 5, 1) := by decide +kernel
theorem dX10_takeClose_48 : decode cX10_takeClose 48 = .ok (.aload_n 0, 1) := by decide +kernel
theorem dX10_takeClose_49 : decode cX10_takeClose 49 = .ok (.getfield 14, 3) := by decide +kernel
theorem dX10_takeClose_52 : decode cX10_takeClose 52 = .ok (.getfield 26, 3) := by decide +kernel
theorem dX10_takeClose_55 : decode cX10_takeClose 55 = .ok (.invokevirtual 76, 3) := by decide +kernel
theorem dX10_takeClose_58 : decode cX10_takeClose 58 = .ok (.aload_n 0, 1) := by decide +kernel
theorem dX10_takeClose_59 : decode cX10_takeClose 59 = .ok (.getfield 22, 3) := by decide +kernel
theorem dX10_takeClose_62 : decode cX10_takeClose 62 = .ok (.invokevirtual 80, 3) := by decide +kernel
theorem dX10_takeClose_65 : decode cX10_takeClose 65 = .ok (.aload_n 0, 1) := by decide +kernel
theorem dX10_takeClose_66 : decode cX10_takeClose 66 = .ok (.getfield 22, 3) := by decide +kernel
theorem dX10_takeClose_69 : decode cX10_takeClose 69 = .ok (.invokevirtual 91, 3) := by decide +kernel
theorem dX10_takeClose_72 : decode cX10_takeClose 72 = .ok (.return_, 1) := by decide +kernel
theorem dX10_takeRest_0 : decode cX10_takeRest 0 = .ok (.iload_n 2, 1) := by decide +kernel
theorem dX10_takeRest_1 : decode cX10_takeRest 1 = .ok (.lookupswitch 166 #[(10, 43), (15, 65), (16, 104), (23, 144)], 43) := by decide +kernel
theorem dX10_takeRest_44 : decode cX10_takeRest 44 = .ok (.aload_n 0, 1) := by decide +kernel
theorem dX10_takeRest_45 : decode cX10_takeRest 45 = .ok (.getfield 14, 3) := by decide +kernel
theorem dX10_takeRest_48 : decode cX10_takeRest 48 = .ok (.iload_n 1, 1) := by decide +kernel
theorem dX10_takeRest_49 : decode cX10_takeRest 49 = .ok (.iconst 2, 1) := by decide +kernel
theorem dX10_takeRest_50 : decode cX10_takeRest 50 = .ok (.aload_n 0, 1) := by decide +kernel
theorem dX10_takeRest_51 : decode cX10_takeRest 51 = .ok (.getfield 22, 3) := by decide +kernel
theorem dX10_takeRest_54 : decode cX10_takeRest 54 = .ok (.iconst 1, 1) := by decide +kernel
theorem dX10_takeRest_55 : decode cX10_takeRest 55 = .ok (.bipush 48, 2) := by decide +kernel
theorem dX10_takeRest_57 : decode cX10_takeRest 57 = .ok (.invokevirtual 94, 3) := by decide +kernel
theorem dX10_takeRest_60 : decode cX10_takeRest 60 = .ok (.invokevirtual 76, 3) := by decide +kernel
theorem dX10_takeRest_63 : decode cX10_takeRest 63 = .ok (.goto 104, 3) := by decide +kernel
theorem dX10_takeRest_66 : decode cX10_takeRest 66 = .ok (.aload_n 0, 1) := by decide +kernel
theorem dX10_takeRest_67 : decode cX10_takeRest 67 = .ok (.getfield 14, 3) := by decide +kernel
theorem dX10_takeRest_70 : decode cX10_takeRest 70 = .ok (.iload_n 1, 1) := by decide +kernel
theorem dX10_takeRest_71 : decode cX10_takeRest 71 = .ok (.iconst 1, 1) := by decide +kernel
theorem dX10_takeRest_72 : decode cX10_takeRest 72 = .ok (.aload_n 0, 1) := by decide +kernel
theorem dX10_takeRest_73 : decode cX10_takeRest 73 = .ok (.getfield 22, 3) := by decide +kernel
theorem dX10_takeRest_76 : decode cX10_takeRest 76 = .ok (.aload_n 3, 1) := by decide +kernel
theorem dX10_takeRest_77 : decode cX10_takeRest 77 = .ok (.iconst 2, 1) := by decide +kernel
theorem dX10_takeRest_78 : decode cX10_takeRest 78 = .ok (.invokevirtual 100, 3) := by decide +kernel
theorem dX10_takeRest_81 : decode cX10_takeRest 81 = .ok (.invokevirtual 76, 3) := by decide +kernel
theorem dX10_takeRest_84 : decode cX10_takeRest 84 = .ok (.aload_n 0, 1) := by decide +kernel
theorem dX10_takeRest_85 : decode cX10_takeRest 85 = .ok (.getfield 14, 3) := by decide +kernel
theorem dX10_takeRest_88 : decode cX10_takeRest 88 = .ok (.iload_n 1, 1) := by decide +kernel
theorem dX10_takeRest_89 : decode cX10_takeRest 89 = .ok (.iconst 2, 1) := by decide +kernel
theorem dX10_takeRest_90 : decode cX10_takeRest 90 = .ok (.aload_n 0, 1) := by decide +kernel
theorem dX10_takeRest_91 : decode cX10_takeRest 91 = .ok (.getfield 22, 3) := by decide +kernel
theorem dX10_takeRest_94 : decode cX10_takeRest 94 = .ok (.aload_n 3, 1) := by decide +kernel
theorem dX10_takeRest_95 : decode cX10_takeRest 95 = .ok (.iconst 3, 1) := by decide +kernel
theorem dX10_takeRest_96 : decode cX10_takeRest 96 = .ok (.invokevirtual 100, 3) := by decide +kernel
theorem dX10_takeRest_99 : decode cX10_takeRest 99 = .ok (.invokevirtual 76, 3) := by decide +kernel
theorem dX10_takeRest_102 : decode cX10_takeRest 102 = .ok (.goto 65, 3) := by decide +kernel
theorem dX10_takeRest_105 : decode cX10_takeRest 105 = .ok (.aload_n 0, 1) := by decide +kernel
theorem dX10_takeRest_106 : decode cX10_takeRest 106 = .ok (.getfield 14, 3) := by decide +kernel
theorem dX10_takeRest_109 : decode cX10_takeRest 109 = .ok (.iload_n 1, 1) := by decide +kernel
theorem dX10_takeRest_110 : decode cX10_takeRest 110 = .ok (.iconst 1, 1) := by decide +kernel
theorem dX10_takeRest_111 : decode cX10_takeRest 111 = .ok (.aload_n 0, 1) := by decide +kernel
theorem dX10_takeRest_112 : decode cX10_takeRest 112 = .ok (.getfield 22, 3) := by decide +kernel
theorem dX10_takeRest_115 : decode cX10_takeRest 115 = .ok (.aload_n 3, 1) := by decide +kernel
theorem dX10_takeRest_116 : decode cX10_takeRest 116 = .ok (.iconst 3, 1) := by decide +kernel
theorem dX10_takeRest_117 : decode cX10_takeRest 117 = .ok (.invokevirtual 100, 3) := by decide +kernel
theorem dX10_takeRest_120 : decode cX10_takeRest 120 = .ok (.invokevirtual 76, 3) := by decide +kernel
theorem dX10_takeRest_123 : decode cX10_takeRest 123 = .ok (.aload_n 0, 1) := by decide +kernel
theorem dX10_takeRest_124 : decode cX10_takeRest 124 = .ok (.getfield 14, 3) := by decide +kernel
theorem dX10_takeRest_127 : decode cX10_takeRest 127 = .ok (.iload_n 1, 1) := by decide +kernel
theorem dX10_takeRest_128 : decode cX10_takeRest 128 = .ok (.iconst 2, 1) := by decide +kernel
theorem dX10_takeRest_129 : decode cX10_takeRest 129 = .ok (.aload_n 0, 1) := by decide +kernel
theorem dX10_takeRest_130 : decode cX10_takeRest 130 = .ok (.getfield 22, 3) := by decide +kernel
theorem dX10_takeRest_133 : decode cX10_takeRest 133 = .ok (.iconst 1, 1) := by decide +kernel
theorem dX10_takeRest_134 : decode cX10_takeRest 134 = .ok (.bipush 99, 2) := by decide +kernel
theorem dX10_takeRest_136 : decode cX10_takeRest 136 = .ok (.invokevirtual 94, 3) := by decide +kernel
theorem dX10_takeRest_139 : decode cX10_takeRest 139 = .ok (.invokevirtual 76, 3) := by decide +kernel
theorem dX10_takeRest_142 : decode cX10_takeRest 142 = .ok (.goto 25, 3) := by decide +kernel
theorem dX10_takeRest_145 : decode cX10_takeRest 145 = .ok (.aload_n 0, 1) := by decide +kernel
theorem dX10_takeRest_146 : decode cX10_takeRest 146 = .ok (.getfield 14, 3) := by decide +kernel
theorem dX10_takeRest_149 : decode cX10_takeRest 149 = .ok (.iload_n 1, 1) := by decide +kernel
theorem dX10_takeRest_150 : decode cX10_takeRest 150 = .ok (.iconst 2, 1) := by decide +kernel
theorem dX10_takeRest_151 : decode cX10_takeRest 151 = .ok (.aload_n 0, 1) := by decide +kernel
theorem dX10_takeRest_152 : decode cX10_takeRest 152 = .ok (.getfield 22, 3) := by decide +kernel
theorem dX10_takeRest_155 : decode cX10_takeRest 155 = .ok (.iconst 1, 1) := by decide +kernel
theorem dX10_takeRest_156 : decode cX10_takeRest 156 = .ok (.bipush 99, 2) := by decide +kernel
theorem dX10_takeRest_158 : decode cX10_takeRest 158 = .ok (.invokevirtual 94, 3) := by decide +kernel
theorem dX10_takeRest_161 : decode cX10_takeRest 161 = .ok (.invokevirtual 76, 3) := by decide +kernel
theorem dX10_takeRest_164 : decode cX10_takeRest 164 = .ok (.goto 3, 3) := by decide +kernel
theorem dX10_takeRest_167 : decode cX10_takeRest 167 = .ok (.return_, 1) := by decide +kernel
theorem dX10_takeTest_0 : decode cX10_takeTest 0 = .ok (.aload_n 0, 1) := by decide +kernel
theorem dX10_takeTest_1 : decode cX10_takeTest 1 = .ok (.getfield 22, 3) := by decide +kernel
theorem dX10_takeTest_4 : decode cX10_takeTest 4 = .ok (.getfield 53, 3) := by decide +kernel
theorem dX10_takeTest_7 : decode cX10_takeTest 7 = .ok (.iconst 1, 1) := by decide +kernel
theorem dX10_takeTest_8 : decode cX10_takeTest 8 = .ok (.if_icmp .ne 13, 3) := by decide +kernel
theorem dX10_takeTest_11 : decode cX10_takeTest 11 = .ok (.aload_n 0, 1) := by decide +kernel
theorem dX10_takeTest_12 : decode cX10_takeTest 12 = .ok (.getfield 22, 3) := by decide +kernel
theorem dX10_takeTest_15 : decode cX10_takeTest 15 = .ok (.getfield 56, 3) := by decide +kernel
theorem dX10_takeTest_18 : decode cX10_takeTest 18 = .ok (.goto 4, 3) := by decide +kernel
theorem dX10_takeTest_21 : decode cX10_takeTest 21 = .ok (.iconst 0, 1) := by decide +kernel
theorem dX10_takeTest_22 : decode cX10_takeTest 22 = .ok (.istore_n 3, 1) := by decide +kernel
theorem dX10_takeTest_23 : decode cX10_takeTest 23 = .ok (.aload_n 0, 1) := by decide +kernel
theorem dX10_takeTest_24 : decode cX10_takeTest 24 = .ok (.getfield 14, 3) := by decide +kernel
theorem dX10_takeTest_27 : decode cX10_takeTest 27 = .ok (.iload_n 1, 1) := by decide +kernel
theorem dX10_takeTest_28 : decode cX10_takeTest 28 = .ok (.iconst 3, 1) := by decide +kernel
theorem dX10_takeTest_29 : decode cX10_takeTest 29 = .ok (.iload_n 3, 1) := by decide +kernel
theorem dX10_takeTest_30 : decode cX10_takeTest 30 = .ok (.invokevirtual 76, 3) := by decide +kernel
theorem dX10_takeTest_33 : decode cX10_takeTest 33 = .ok (.iload_n 3, 1) := by decide +kernel
theorem dX10_takeTest_34 : decode cX10_takeTest 34 = .ok (.tableswitch 214 19 22 #[30, 76, 122, 150], 30) := by decide +kernel
theorem dX10_takeTest_64 : decode cX10_takeTest 64 = .ok (.aload_n 0, 1) := by decide +kernel
theorem dX10_takeTest_65 : decode cX10_takeTest 65 = .ok (.getfield 22, 3) := by decide +kernel
theorem dX10_takeTest_68 : decode cX10_takeTest 68 = .ok (.invokevirtual 80, 3) := by decide +kernel
theorem dX10_takeTest_71 : decode cX10_takeTest 71 = .ok (.aload_n 0, 1) := by decide +kernel
theorem dX10_takeTest_72 : decode cX10_takeTest 72 = .ok (.getfield 14, 3) := by decide +kernel
theorem dX10_takeTest_75 : decode cX10_takeTest 75 = .ok (.iload_n 1, 1) := by decide +kernel
theorem dX10_takeTest_76 : decode cX10_takeTest 76 = .ok (.iconst 1, 1) := by decide +kernel
theorem dX10_takeTest_77 : decode cX10_takeTest 77 = .ok (.aload_n 0, 1) := by decide +kernel
theorem dX10_takeTest_78 : decode cX10_takeTest 78 = .ok (.getfield 22, 3) := by decide +kernel
theorem dX10_takeTest_81 : decode cX10_takeTest 81 = .ok (.aload_n 2, 1) := by decide +kernel
theorem dX10_takeTest_82 : decode cX10_takeTest 82 = .ok (.iconst 3, 1) := by decide +kernel
theorem dX10_takeTest_83 : decode cX10_takeTest 83 = .ok (.invokevirtual 100, 3) := by decide +kernel
theorem dX10_takeTest_86 : decode cX10_takeTest 86 = .ok (.invokevirtual 76, 3) := by decide +kernel
theorem dX10_takeTest_89 : decode cX10_takeTest 89 = .ok (.aload_n 0, 1) := by decide +kernel
theorem dX10_takeTest_90 : decode cX10_takeTest 90 = .ok (.getfield 14, 3) := by decide +kernel
theorem dX10_takeTest_93 : decode cX10_takeTest 93 = .ok (.iload_n 1, 1) := by decide +kernel
theorem dX10_takeTest_94 : decode cX10_takeTest 94 = .ok (.iconst 2, 1) := by decide +kernel
theorem dX10_takeTest_95 : decode cX10_takeTest 95 = .ok (.aload_n 0, 1) := by decide +kernel
theorem dX10_takeTest_96 : decode cX10_takeTest 96 = .ok (.getfield 22, 3) := by decide +kernel
theorem dX10_takeTest_99 : decode cX10_takeTest 99 = .ok (.iconst 0, 1) := by decide +kernel
theorem dX10_takeTest_100 : decode cX10_takeTest 100 = .ok (.iconst 2, 1) := by decide +kernel
theorem dX10_takeTest_101 : decode cX10_takeTest 101 = .ok (.invokevirtual 94, 3) := by decide +kernel
theorem dX10_takeTest_104 : decode cX10_takeTest 104 = .ok (.invokevirtual 76, 3) := by decide +kernel
theorem dX10_takeTest_107 : decode cX10_takeTest 107 = .ok (.goto 148, 3) := by decide +kernel
theorem dX10_takeTest_110 : decode cX10_takeTest 110 = .ok (.aload_n 0, 1) := by decide +kernel
theorem dX10_takeTest_111 : decode cX10_takeTest 111 = .ok (.getfield 22, 3) := by decide +kernel
theorem dX10_takeTest_114 : decode cX10_takeTest 114 = .ok (.invokevirtual 80, 3) := by decide +kernel
theorem dX10_takeTest_117 : decode cX10_takeTest 117 = .ok (.aload_n 0, 1) := by decide +kernel
theorem dX10_takeTest_118 : decode cX10_takeTest 118 = .ok (.getfield 14, 3) := by decide +kernel
theorem dX10_takeTest_121 : decode cX10_takeTest 121 = .ok (.iload_n 1, 1) := by decide +kernel
theorem dX10_takeTest_122 : decode cX10_takeTest 122 = .ok (.iconst 1, 1) := by decide +kernel
theorem dX10_takeTest_123 : decode cX10_takeTest 123 = .ok (.aload_n 0, 1) := by decide +kernel
theorem dX10_takeTest_124 : decode cX10_takeTest 124 = .ok (.getfield 22, 3) := by decide +kernel
theorem dX10_takeTest_127 : decode cX10_takeTest 127 = .ok (.aload_n 2, 1) := by decide +kernel
theorem dX10_takeTest_128 : decode cX10_takeTest 128 = .ok (.iconst 2, 1) := by decide +kernel
theorem dX10_takeTest_129 : decode cX10_takeTest 129 = .ok (.invokevirtual 100, 3) := by decide +kernel
theorem dX10_takeTest_132 : decode cX10_takeTest 132 = .ok (.invokevirtual 76, 3) := by decide +kernel
theorem dX10_takeTest_135 : decode cX10_takeTest 135 = .ok (.aload_n 0, 1) := by decide +kernel
theorem dX10_takeTest_136 : decode cX10_takeTest 136 = .ok (.getfield 14, 3) := by decide +kernel
theorem dX10_takeTest_139 : decode cX10_takeTest 139 = .ok (.iload_n 1, 1) := by decide +kernel
theorem dX10_takeTest_140 : decode cX10_takeTest 140 = .ok (.iconst 2, 1) := by decide +kernel
theorem dX10_takeTest_141 : decode cX10_takeTest 141 = .ok (.aload_n 0, 1) := by decide +kernel
theorem dX10_takeTest_142 : decode cX10_takeTest 142 = .ok (.getfield 22, 3) := by decide +kernel
theorem dX10_takeTest_145 : decode cX10_takeTest 145 = .ok (.aload_n 2, 1) := by decide +kernel
theorem dX10_takeTest_146 : decode cX10_takeTest 146 = .ok (.iconst 1, 1) := by decide +kernel
theorem dX10_takeTest_147 : decode cX10_takeTest 147 = .ok (.invokevirtual 100, 3) := by decide +kernel
theorem dX10_takeTest_150 : decode cX10_takeTest 150 = .ok (.invokevirtual 76, 3) := by decide +kernel
theorem dX10_takeTest_153 : decode cX10_takeTest 153 = .ok (.goto 102, 3) := by decide +kernel
theorem dX10_takeTest_156 : decode cX10_takeTest 156 = .ok (.aload_n 0, 1) := by decide +kernel
theorem dX10_takeTest_157 : decode cX10_takeTest 157 = .ok (.getfield 22, 3) := by decide +kernel
theorem dX10_takeTest_160 : decode cX10_takeTest 160 = .ok (.invokevirtual 80, 3) := by decide +kernel
theorem dX10_takeTest_163 : decode cX10_takeTest 163 = .ok (.aload_n 0, 1) := by decide +kernel
theorem dX10_takeTest_164 : decode cX10_takeTest 164 = .ok (.getfield 14, 3) := by decide +kernel
theorem dX10_takeTest_167 : decode cX10_takeTest 167 = .ok (.iload_n 1, 1) := by decide +kernel
theorem dX10_takeTest_168 : decode cX10_takeTest 168 = .ok (.iconst 1, 1) := by decide +kernel
theorem dX10_takeTest_169 : decode cX10_takeTest 169 = .ok (.aload_n 0, 1) := by decide +kernel
theorem dX10_takeTest_170 : decode cX10_takeTest 170 = .ok (.getfield 22, 3) := by decide +kernel
theorem dX10_takeTest_173 : decode cX10_takeTest 173 = .ok (.aload_n 2, 1) := by decide +kernel
theorem dX10_takeTest_174 : decode cX10_takeTest 174 = .ok (.iconst 3, 1) := by decide +kernel
theorem dX10_takeTest_175 : decode cX10_takeTest 175 = .ok (.invokevirtual 100, 3) := by decide +kernel
theorem dX10_takeTest_178 : decode cX10_takeTest 178 = .ok (.invokevirtual 76, 3) := by decide +kernel
theorem dX10_takeTest_181 : decode cX10_takeTest 181 = .ok (.goto 74, 3) := by decide +kernel
theorem dX10_takeTest_184 : decode cX10_takeTest 184 = .ok (.aload_n 0, 1) := by decide +kernel
theorem dX10_takeTest_185 : decode cX10_takeTest 185 = .ok (.getfield 22, 3) := by decide +kernel
theorem dX10_takeTest_188 : decode cX10_takeTest 188 = .ok (.invokevirtual 80, 3) := by decide +kernel
theorem dX10_takeTest_191 : decode cX10_takeTest 191 = .ok (.aload_n 0, 1) := by decide +kernel
theorem dX10_takeTest_192 : decode cX10_takeTest 192 = .ok (.getfield 14, 3) := by decide +kernel
theorem dX10_takeTest_195 : decode cX10_takeTest 195 = .ok (.iload_n 1, 1) := by decide +kernel
theorem dX10_takeTest_196 : decode cX10_takeTest 196 = .ok (.iconst 1, 1) := by decide +kernel
theorem dX10_takeTest_197 : decode cX10_takeTest 197 = .ok (.aload_n 0, 1) := by decide +kernel
theorem dX10_takeTest_198 : decode cX10_takeTest 198 = .ok (.getfield 22, 3) := by decide +kernel
theorem dX10_takeTest_201 : decode cX10_takeTest 201 = .ok (.aload_n 2, 1) := by decide +kernel
theorem dX10_takeTest_202 : decode cX10_takeTest 202 = .ok (.iconst 4, 1) := by decide +kernel
theorem dX10_takeTest_203 : decode cX10_takeTest 203 = .ok (.invokevirtual 100, 3) := by decide +kernel
theorem dX10_takeTest_206 : decode cX10_takeTest 206 = .ok (.invokevirtual 76, 3) := by decide +kernel
theorem dX10_takeTest_209 : decode cX10_takeTest 209 = .ok (.aload_n 0, 1) := by decide +kernel
theorem dX10_takeTest_210 : decode cX10_takeTest 210 = .ok (.getfield 14, 3) := by decide +kernel
theorem dX10_takeTest_213 : decode cX10_takeTest 213 = .ok (.iload_n 1, 1) := by decide +kernel
theorem dX10_takeTest_214 : decode cX10_takeTest 214 = .ok (.iconst 4, 1) := by decide +kernel
theorem dX10_takeTest_215 : decode cX10_takeTest 215 = .ok (.aload_n 0, 1) := by decide +kernel
theorem dX10_takeTest_216 : decode cX10_takeTest 216 = .ok (.getfield 22, 3) := by decide +kernel
theorem dX10_takeTest_219 : decode cX10_takeTest 219 = .ok (.invokevirtual 106, 3) := by decide +kernel
theorem dX10_takeTest_222 : decode cX10_takeTest 222 = .ok (.invokevirtual 76, 3) := by decide +kernel
theorem dX10_takeTest_225 : decode cX10_takeTest 225 = .ok (.aload_n 0, 1) := by decide +kernel
theorem dX10_takeTest_226 : decode cX10_takeTest 226 = .ok (.getfield 14, 3) := by decide +kernel
theorem dX10_takeTest_229 : decode cX10_takeTest 229 = .ok (.iload_n 1, 1) := by decide +kernel
theorem dX10_takeTest_230 : decode cX10_takeTest 230 = .ok (.iconst 2, 1) := by decide +kernel
theorem dX10_takeTest_231 : decode cX10_takeTest 231 = .ok (.aload_n 0, 1) := by decide +kernel
theorem dX10_takeTest_232 : decode cX10_takeTest 232 = .ok (.getfield 22, 3) := by decide +kernel
theorem dX10_takeTest_235 : decode cX10_takeTest 235 = .ok (.iconst 0, 1) := by decide +kernel
theorem dX10_takeTest_236 : decode cX10_takeTest 236 = .ok (.sipush 9999, 3) := by decide +kernel
theorem dX10_takeTest_239 : decode cX10_takeTest 239 = .ok (.invokevirtual 94, 3) := by decide +kernel
theorem dX10_takeTest_242 : decode cX10_takeTest 242 = .ok (.invokevirtual 76, 3) := by decide +kernel
theorem dX10_takeTest_245 : decode cX10_takeTest 245 = .ok (.goto 10, 3) := by decide +kernel
theorem dX10_takeTest_248 : decode cX10_takeTest 248 = .ok (.aload_n 0, 1) := by decide +kernel
theorem dX10_takeTest_249 : decode cX10_takeTest 249 = .ok (.getfield 22, 3) := by decide +kernel
theorem dX10_takeTest_252 : decode cX10_takeTest 252 = .ok (.invokevirtual 66, 3) := by decide +kernel
theorem dX10_takeTest_255 : decode cX10_takeTest 255 = .ok (.return_, 1) := by decide +kernel
theorem dX11_init_0 : decode cX11_init 0 = .ok (.aload_n 0, 1) := by decide +kernel
theorem dX11_init_1 : decode cX11_init 1 = .ok (.invokespecial 1, 3) := by decide +kernel
theorem dX11_init_4 : decode cX11_init 4 = .ok (.aload_n 0, 1) := by decide +kernel
theorem dX11_init_5 : decode cX11_init 5 = .ok (.new 7, 3) := by decide +kernel
theorem dX11_init_8 : decode cX11_init 8 = .ok (.dup, 1) := by decide +kernel
theorem dX11_init_9 : decode cX11_init 9 = .ok (.invokespecial 9, 3) := by decide +kernel
theorem dX11_init_12 : decode cX11_init 12 = .ok (.putfield 10, 3) := by decide +kernel
theorem dX11_init_15 : decode cX11_init 15 = .ok (.aload_n 0, 1) := by decide +kernel
theorem dX11_init_16 : decode cX11_init 16 = .ok (.new 7, 3) := by decide +kernel
theorem dX11_init_19 : decode cX11_init 19 = .ok (.dup, 1) := by decide +kernel
theorem dX11_init_20 : decode cX11_init 20 = .ok (.invokespecial 9, 3) := by decide +kernel
theorem dX11_init_23 : decode cX11_init 23 = .ok (.putfield 16, 3) := by decide +kernel
theorem dX11_init_26 : decode cX11_init 26 = .ok (.aload_n 0, 1) := by decide +kernel
theorem dX11_init_27 : decode cX11_init 27 = .ok (.iconst 3, 1) := by decide +kernel
theorem dX11_init_28 : decode cX11_init 28 = .ok (.anewarray 7, 3) := by decide +kernel
theorem dX11_init_31 : decode cX11_init 31 = .ok (.putfield 19, 3) := by decide +kernel
theorem dX11_init_34 : decode cX11_init 34 = .ok (.aload_n 0, 1) := by decide +kernel
theorem dX11_init_35 : decode cX11_init 35 = .ok (.new 23, 3) := by decide +kernel
theorem dX11_init_38 : decode cX11_init 38 = .ok (.dup, 1) := by decide +kernel
theorem dX11_init_39 : decode cX11_init 39 = .ok (.invokespecial 25, 3) := by decide +kernel
theorem dX11_init_42 : decode cX11_init 42 = .ok (.putfield 26, 3) := by decide +kernel
theorem dX11_init_45 : decode cX11_init 45 = .ok (.aload_n 0, 1) := by decide +kernel
theorem dX11_init_46 : decode cX11_init 46 = .ok (.new 30, 3) := by decide +kernel
theorem dX11_init_49 : decode cX11_init 49 = .ok (.dup, 1) := by decide +kernel
theorem dX11_init_50 : decode cX11_init 50 = .ok (.aload_n 0, 1) := by decide +kernel
theorem dX11_init_51 : decode cX11_init 51 = .ok (.getfield 26, 3) := by decide +kernel
theorem dX11_init_54 : decode cX11_init 54 = .ok (.invokespecial 32, 3) := by decide +kernel
theorem dX11_init_57 : decode cX11_init 57 = .ok (.putfield 35, 3) := by decide +kernel
theorem dX11_init_60 : decode cX11_init 60 = .ok (.aload_n 0, 1) := by decide +kernel
theorem dX11_init_61 : decode cX11_init 61 = .ok (.new 39, 3) := by decide +kernel
theorem dX11_init_64 : decode cX11_init 64 = .ok (.dup, 1) := by decide +kernel
theorem dX11_init_65 : decode cX11_init 65 = .ok (.aload_n 0, 1) := by decide +kernel
theorem dX11_init_66 : decode cX11_init 66 = .ok (.getfield 26, 3) := by decide +kernel
theorem dX11_init_69 : decode cX11_init 69 = .ok (.invokespecial 41, 3) := by decide +kernel
theorem dX11_init_72 : decode cX11_init 72 = .ok (.putfield 42, 3) := by decide +kernel
theorem dX11_init_75 : decode cX11_init 75 = .ok (.aload_n 0, 1) := by decide +kernel
theorem dX11_init_76 : decode cX11_init 76 = .ok (.new 46, 3) := by decide +kernel
theorem dX11_init_79 : decode cX11_init 79 = .ok (.dup, 1) := by decide +kernel
theorem dX11_init_80 : decode cX11_init 80 = .ok (.invokespecial 48, 3) := by decide +kernel
theorem dX11_init_83 : decode cX11_init 83 = .ok (.putfield 49, 3) := by decide +kernel
theorem dX11_init_86 : decode cX11_init 86 = .ok (.aload_n 0, 1) := by decide +kernel
theorem dX11_init_87 : decode cX11_init 87 = .ok (.new 53, 3) := by decide +kernel
theorem dX11_init_90 : decode cX11_init 90 = .ok (.dup, 1) := by decide +kernel
theorem dX11_init_91 : decode cX11_init 91 = .ok (.invokespecial 55, 3) := by decide +kernel
theorem dX11_init_94 : decode cX11_init 94 = .ok (.putfield 56, 3) := by decide +kernel
theorem dX11_init_97 : decode cX11_init 97 = .ok (.aload_n 0, 1) := by decide +kernel
theorem dX11_init_98 : decode cX11_init 98 = .ok (.new 60, 3) := by decide +kernel
theorem dX11_init_101 : decode cX11_init 101 = .ok (.dup, 1) := by decide +kernel
theorem dX11_init_102 : decode cX11_init 102 = .ok (.invokespecial 62, 3) := by decide +kernel
theorem dX11_init_105 : decode cX11_init 105 = .ok (.putfield 63, 3) := by decide +kernel
theorem dX11_init_108 : decode cX11_init 108 = .ok (.aload_n 0, 1) := by decide +kernel
theorem dX11_init_109 : decode cX11_init 109 = .ok (.new 67, 3) := by decide +kernel
theorem dX11_init_112 : decode cX11_init 112 = .ok (.dup, 1) := by decide +kernel
theorem dX11_init_113 : decode cX11_init 113 = .ok (.invokespecial 69, 3) := by decide +kernel
theorem dX11_init_116 : decode cX11_init 116 = .ok (.putfield 70, 3) := by decide +kernel
theorem dX11_init_119 : decode cX11_init 119 = .ok (.aload_n 0, 1) := by decide +kernel
theorem dX11_init_120 : decode cX11_init 120 = .ok (.iconst 5, 1) := by decide +kernel
theorem dX11_init_121 : decode cX11_init 121 = .ok (.newarray .int, 2) := by decide +kernel
theorem dX11_init_123 : decode cX11_init 123 = .ok (.putfield 74, 3) := by decide +kernel
theorem dX11_init_126 : decode cX11_init 126 = .ok (.aload_n 0, 1) := by decide +kernel
theorem dX11_init_127 : decode cX11_init 127 = .ok (.iconst (-1), 1) := by decide +kernel
theorem dX11_init_128 : decode cX11_init 128 = .ok (.putfield 78, 3) := by decide +kernel
theorem dX11_init_131 : decode cX11_init 131 = .ok (.aload_n 0, 1) := by decide +kernel
theorem dX11_init_132 : decode cX11_init 132 = .ok (.lconst 1, 1) := by decide +kernel
theorem dX11_init_133 : decode cX11_init 133 = .ok (.putfield 82, 3) := by decide +kernel
theorem dX11_init_136 : decode cX11_init 136 = .ok (.iconst 0, 1) := by decide +kernel
theorem dX11_init_137 : decode cX11_init 137 = .ok (.istore_n 1, 1) := by decide +kernel
theorem dX11_init_138 : decode cX11_init 138 = .ok (.iload_n 1, 1) := by decide +kernel
theorem dX11_init_139 : decode cX11_init 139 = .ok (.aload_n 0, 1) := by decide +kernel
theorem dX11_init_140 : decode cX11_init 140 = .ok (.getfield 19, 3) := by decide +kernel
theorem dX11_init_143 : decode cX11_init 143 = .ok (.arraylength, 1) := by decide +kernel
theorem dX11_init_144 : decode cX11_init 144 = .ok (.if_icmp .ge 22, 3) := by decide +kernel
theorem dX11_init_147 : decode cX11_init 147 = .ok (.aload_n 0, 1) := by decide +kernel
theorem dX11_init_148 : decode cX11_init 148 = .ok (.getfield 19, 3) := by decide +kernel
theorem dX11_init_151 : decode cX11_init 151 = .ok (.iload_n 1, 1) := by decide +kernel
theorem dX11_init_152 : decode cX11_init 152 = .ok (.new 7, 3) := by decide +kernel
theorem dX11_init_155 : decode cX11_init 155 = .ok (.dup, 1) := by decide +kernel
theorem dX11_init_156 : decode cX11_init 156 = .ok (.invokespecial 9, 3) := by decide +kernel
theorem dX11_init_159 : decode cX11_init 159 = .ok (.aastore, 1) := by decide +kernel
theorem dX11_init_160 : decode cX11_init 160 = .ok (.iinc 1 1, 3) := by decide +kernel
theorem dX11_init_163 : decode cX11_init 163 = .ok (.goto (-25), 3) := by decide +kernel
theorem dX11_init_166 : decode cX11_init 166 = .ok (.return_, 1) := by decide +kernel
theorem dX11_status_0 : decode cX11_status 0 = .ok (.aload_n 0, 1) := by decide +kernel
theorem dX11_status_1 : decode cX11_status 1 = .ok (.getfield 86, 3) := by decide +kernel
theorem dX11_status_4 : decode cX11_status 4 = .ok (.ireturn, 1) := by decide +kernel
theorem dX11_top_0 : decode cX11_top 0 = .ok (.aload_n 0, 1) := by decide +kernel
theorem dX11_top_1 : decode cX11_top 1 = .ok (.getfield 89, 3) := by decide +kernel
theorem dX11_top_4 : decode cX11_top 4 = .ok (.lreturn, 1) := by decide +kernel
theorem dX11_bottom_0 : decode cX11_bottom 0 = .ok (.aload_n 0, 1) := by decide +kernel
theorem dX11_bottom_1 : decode cX11_bottom 1 = .ok (.getfield 82, 3) := by decide +kernel
theorem dX11_bottom_4 : decode cX11_bottom 4 = .ok (.lreturn, 1) := by decide +kernel
theorem dX11_tray_0 : decode cX11_tray 0 = .ok (.aload_n 0, 1) := by decide +kernel
theorem dX11_tray_1 : decode cX11_tray 1 = .ok (.getfield 49, 3) := by decide +kernel
theorem dX11_tray_4 : decode cX11_tray 4 = .ok (.iload_n 1, 1) := by decide +kernel
theorem dX11_tray_5 : decode cX11_tray 5 = .ok (.invokevirtual 92, 3) := by decide +kernel
theorem dX11_tray_8 : decode cX11_tray 8 = .ok (.ifCond .eq 22, 3) := by decide +kernel
theorem dX11_tray_11 : decode cX11_tray 11 = .ok (.iload_n 2, 1) := by decide +kernel
theorem dX11_tray_12 : decode cX11_tray 12 = .ok (.iconst 0, 1) := by decide +kernel
theorem dX11_tray_13 : decode cX11_tray 13 = .ok (.iconst 3, 1) := by decide +kernel
theorem dX11_tray_14 : decode cX11_tray 14 = .ok (.invokestatic 96, 3) := by decide +kernel
theorem dX11_tray_17 : decode cX11_tray 17 = .ok (.ifCond .eq 13, 3) := by decide +kernel
